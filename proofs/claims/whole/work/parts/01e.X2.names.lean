set_option maxRecDepth 20000 in
theorem ggX2_init_X3_init : GoodIn wsX2_init wsX3_init := goodIn_r _ [10, 11, 2, 3, 12, 13, 14, 15, 16, 17, 18, 19, 20, 21] (by decide +kernel) (by decide +kernel)
set_option maxRecDepth 20000 in
theorem gX2_init_X3_init : GoodIn wsX2_init (wsX3_init) := ggX2_init_X3_init
theorem dX2_init_0 : decode cX2_init 0 = .ok (.aload_n 0, 1) := by decide +kernel
theorem dX2_init_1 : decode cX2_init 1 = .ok (.invokespecial 3, 3) := by decide +kernel
theorem dX2_init_4 : decode cX2_init 4 = .ok (.aload_n 0, 1) := by decide +kernel
theorem dX2_init_5 : decode cX2_init 5 = .ok (.new 9, 3) := by decide +kernel
theorem dX2_init_8 : decode cX2_init 8 = .ok (.dup, 1) := by decide +kernel
theorem dX2_init_9 : decode cX2_init 9 = .ok (.bipush 21, 2) := by decide +kernel
theorem dX2_init_11 : decode cX2_init 11 = .ok (.invokespecial 11, 3) := by decide +kernel
theorem dX2_init_14 : decode cX2_init 14 = .ok (.putfield 14, 3) := by decide +kernel
theorem dX2_init_17 : decode cX2_init 17 = .ok (.return_, 1) := by decide +kernel
theorem dX2_clear_0 : decode cX2_clear 0 = .ok (.aload_n 0, 1) := by decide +kernel
theorem dX2_clear_1 : decode cX2_clear 1 = .ok (.getfield 14, 3) := by decide +kernel
theorem dX2_clear_4 : decode cX2_clear 4 = .ok (.iconst 0, 1) := by decide +kernel
theorem dX2_clear_5 : decode cX2_clear 5 = .ok (.putfield 20, 3) := by decide +kernel
theorem dX2_clear_8 : decode cX2_clear 8 = .ok (.aload_n 0, 1) := by decide +kernel
theorem dX2_clear_9 : decode cX2_clear 9 = .ok (.iconst 0, 1) := by decide +kernel
theorem dX2_clear_10 : decode cX2_clear 10 = .ok (.putfield 24, 3) := by decide +kernel
theorem dX2_clear_13 : decode cX2_clear 13 = .ok (.return_, 1) := by decide +kernel
set_option maxRecDepth 20000 in
theorem ggX2_addLast_X3_insert : GoodIn wsX2_addLast wsX3_insert := goodIn_r _ [7, 8, 9, 10, 13, 14, 15] (by decide +kernel) (by decide +kernel)
set_option maxRecDepth 20000 in
theorem gX2_addLast_X3_insert : GoodIn wsX2_addLast (wsV RX2 28 RX3 yX3_insert wsX3_insert) := goodIn_app (goodIn_of _ (by decide +kernel)) ggX2_addLast_X3_insert
theorem dX2_addLast_0 : decode cX2_addLast 0 = .ok (.aload_n 0, 1) := by decide +kernel
theorem dX2_addLast_1 : decode cX2_addLast 1 = .ok (.getfield 14, 3) := by decide +kernel
theorem dX2_addLast_4 : decode cX2_addLast 4 = .ok (.aload_n 0, 1) := by decide +kernel
theorem dX2_addLast_5 : decode cX2_addLast 5 = .ok (.getfield 14, 3) := by decide +kernel
theorem dX2_addLast_8 : decode cX2_addLast 8 = .ok (.getfield 20, 3) := by decide +kernel
theorem dX2_addLast_11 : decode cX2_addLast 11 = .ok (.iconst 0, 1) := by decide +kernel
theorem dX2_addLast_12 : decode cX2_addLast 12 = .ok (.iload_n 1, 1) := by decide +kernel
theorem dX2_addLast_13 : decode cX2_addLast 13 = .ok (.invokevirtual 28, 3) := by decide +kernel
theorem dX2_addLast_16 : decode cX2_addLast 16 = .ok (.pop, 1) := by decide +kernel
theorem dX2_addLast_17 : decode cX2_addLast 17 = .ok (.return_, 1) := by decide +kernel
theorem dX2_countTold_0 : decode cX2_countTold 0 = .ok (.aload_n 0, 1) := by decide +kernel
theorem dX2_countTold_1 : decode cX2_countTold 1 = .ok (.getfield 24, 3) := by decide +kernel
theorem dX2_countTold_4 : decode cX2_countTold 4 = .ok (.ifCond .eq 13, 3) := by decide +kernel
theorem dX2_countTold_7 : decode cX2_countTold 7 = .ok (.aload_n 0, 1) := by decide +kernel
theorem dX2_countTold_8 : decode cX2_countTold 8 = .ok (.getfield 14, 3) := by decide +kernel
theorem dX2_countTold_11 : decode cX2_countTold 11 = .ok (.getfield 20, 3) := by decide +kernel
theorem dX2_countTold_14 : decode cX2_countTold 14 = .ok (.goto 16, 3) := by decide +kernel
theorem dX2_countTold_17 : decode cX2_countTold 17 = .ok (.aload_n 0, 1) := by decide +kernel
theorem dX2_countTold_18 : decode cX2_countTold 18 = .ok (.getfield 14, 3) := by decide +kernel
theorem dX2_countTold_21 : decode cX2_countTold 21 = .ok (.getfield 20, 3) := by decide +kernel
theorem dX2_countTold_24 : decode cX2_countTold 24 = .ok (.iconst 1, 1) := by decide +kernel
theorem dX2_countTold_25 : decode cX2_countTold 25 = .ok (.isub, 1) := by decide +kernel
theorem dX2_countTold_26 : decode cX2_countTold 26 = .ok (.iconst 0, 1) := by decide +kernel
theorem dX2_countTold_27 : decode cX2_countTold 27 = .ok (.invokestatic 32, 3) := by decide +kernel
theorem dX2_countTold_30 : decode cX2_countTold 30 = .ok (.ireturn, 1) := by decide +kernel
set_option maxRecDepth 20000 in
theorem ggX2_tell_X3_find : GoodIn wsX2_tell wsX3_find := goodIn_r _ [8, 9, 10, 11, 33, 34, 35] (by decide +kernel) (by decide +kernel)
set_option maxRecDepth 20000 in
theorem gX2_tell_X3_find : GoodIn wsX2_tell (wsV RX2 38 RX3 yX3_find wsX3_find) := goodIn_app (goodIn_of _ (by decide +kernel)) ggX2_tell_X3_find
set_option maxRecDepth 20000 in
theorem ggX2_tell_X2_crosses : GoodIn wsX2_tell wsX2_crosses := goodIn_r _ [16, 1, 17, 18, 31, 32, 33, 34, 35] (by decide +kernel) (by decide +kernel)
set_option maxRecDepth 20000 in
theorem gX2_tell_X2_crosses : GoodIn wsX2_tell (wsV RX2 41 RX2 yX2_crosses wsX2_crosses) := goodIn_app (goodIn_of _ (by decide +kernel)) ggX2_tell_X2_crosses
set_option maxRecDepth 20000 in
theorem ggX2_tell_X2_placeFor : GoodIn wsX2_tell wsX2_placeFor := goodIn_r _ [22, 1, 2, 23, 24, 25, 15, 26, 18, 17, 31, 32, 33, 34, 35] (by decide +kernel) (by decide +kernel)
set_option maxRecDepth 20000 in
theorem gX2_tell_X2_placeFor : GoodIn wsX2_tell (wsV RX2 44 RX2 yX2_placeFor wsX2_placeFor) := goodIn_app (goodIn_of _ (by decide +kernel)) ggX2_tell_X2_placeFor
set_option maxRecDepth 20000 in
theorem ggX2_tell_X3_insert : GoodIn wsX2_tell wsX3_insert := goodIn_r _ [30, 9, 10, 11, 33, 34, 35] (by decide +kernel) (by decide +kernel)
set_option maxRecDepth 20000 in
theorem gX2_tell_X3_insert : GoodIn wsX2_tell (wsV RX2 28 RX3 yX3_insert wsX3_insert) := goodIn_app (goodIn_of _ (by decide +kernel)) ggX2_tell_X3_insert
theorem dX2_tell_0 : decode cX2_tell 0 = .ok (.aload_n 0, 1) := by decide +kernel
theorem dX2_tell_1 : decode cX2_tell 1 = .ok (.getfield 14, 3) := by decide +kernel
theorem dX2_tell_4 : decode cX2_tell 4 = .ok (.iload_n 1, 1) := by decide +kernel
theorem dX2_tell_5 : decode cX2_tell 5 = .ok (.iload_n 2, 1) := by decide +kernel
theorem dX2_tell_6 : decode cX2_tell 6 = .ok (.invokevirtual 38, 3) := by decide +kernel
theorem dX2_tell_9 : decode cX2_tell 9 = .ok (.istore_n 3, 1) := by decide +kernel
theorem dX2_tell_10 : decode cX2_tell 10 = .ok (.iload_n 3, 1) := by decide +kernel
theorem dX2_tell_11 : decode cX2_tell 11 = .ok (.iconst (-1), 1) := by decide +kernel
theorem dX2_tell_12 : decode cX2_tell 12 = .ok (.if_icmp .eq 54, 3) := by decide +kernel
theorem dX2_tell_15 : decode cX2_tell 15 = .ok (.iload_n 3, 1) := by decide +kernel
theorem dX2_tell_16 : decode cX2_tell 16 = .ok (.aload_n 0, 1) := by decide +kernel
theorem dX2_tell_17 : decode cX2_tell 17 = .ok (.getfield 14, 3) := by decide +kernel
theorem dX2_tell_20 : decode cX2_tell 20 = .ok (.getfield 20, 3) := by decide +kernel
theorem dX2_tell_23 : decode cX2_tell 23 = .ok (.iconst 1, 1) := by decide +kernel
theorem dX2_tell_24 : decode cX2_tell 24 = .ok (.isub, 1) := by decide +kernel
theorem dX2_tell_25 : decode cX2_tell 25 = .ok (.if_icmp .ne 14, 3) := by decide +kernel
theorem dX2_tell_28 : decode cX2_tell 28 = .ok (.aload_n 0, 1) := by decide +kernel
theorem dX2_tell_29 : decode cX2_tell 29 = .ok (.getfield 24, 3) := by decide +kernel
theorem dX2_tell_32 : decode cX2_tell 32 = .ok (.ifCond .ne 7, 3) := by decide +kernel
theorem dX2_tell_35 : decode cX2_tell 35 = .ok (.iconst 1, 1) := by decide +kernel
theorem dX2_tell_36 : decode cX2_tell 36 = .ok (.goto 4, 3) := by decide +kernel
theorem dX2_tell_39 : decode cX2_tell 39 = .ok (.iconst 0, 1) := by decide +kernel
theorem dX2_tell_40 : decode cX2_tell 40 = .ok (.istore 4, 2) := by decide +kernel
theorem dX2_tell_42 : decode cX2_tell 42 = .ok (.aload_n 0, 1) := by decide +kernel
theorem dX2_tell_43 : decode cX2_tell 43 = .ok (.aload_n 0, 1) := by decide +kernel
theorem dX2_tell_44 : decode cX2_tell 44 = .ok (.getfield 24, 3) := by decide +kernel
theorem dX2_tell_47 : decode cX2_tell 47 = .ok (.ifCond .ne 8, 3) := by decide +kernel
theorem dX2_tell_50 : decode cX2_tell 50 = .ok (.iload 4, 2) := by decide +kernel
theorem dX2_tell_52 : decode cX2_tell 52 = .ok (.ifCond .eq 7, 3) := by decide +kernel
theorem dX2_tell_55 : decode cX2_tell 55 = .ok (.iconst 1, 1) := by decide +kernel
theorem dX2_tell_56 : decode cX2_tell 56 = .ok (.goto 4, 3) := by decide +kernel
theorem dX2_tell_59 : decode cX2_tell 59 = .ok (.iconst 0, 1) := by decide +kernel
theorem dX2_tell_60 : decode cX2_tell 60 = .ok (.putfield 24, 3) := by decide +kernel
theorem dX2_tell_63 : decode cX2_tell 63 = .ok (.iload 4, 2) := by decide +kernel
theorem dX2_tell_65 : decode cX2_tell 65 = .ok (.ireturn, 1) := by decide +kernel
theorem dX2_tell_66 : decode cX2_tell 66 = .ok (.iconst 0, 1) := by decide +kernel
theorem dX2_tell_67 : decode cX2_tell 67 = .ok (.istore 4, 2) := by decide +kernel
theorem dX2_tell_69 : decode cX2_tell 69 = .ok (.iload 4, 2) := by decide +kernel
theorem dX2_tell_71 : decode cX2_tell 71 = .ok (.aload_n 0, 1) := by decide +kernel
theorem dX2_tell_72 : decode cX2_tell 72 = .ok (.getfield 14, 3) := by decide +kernel
theorem dX2_tell_75 : decode cX2_tell 75 = .ok (.getfield 20, 3) := by decide +kernel
theorem dX2_tell_78 : decode cX2_tell 78 = .ok (.if_icmp .ge 22, 3) := by decide +kernel
theorem dX2_tell_81 : decode cX2_tell 81 = .ok (.aload_n 0, 1) := by decide +kernel
theorem dX2_tell_82 : decode cX2_tell 82 = .ok (.iload 4, 2) := by decide +kernel
theorem dX2_tell_84 : decode cX2_tell 84 = .ok (.iload_n 1, 1) := by decide +kernel
theorem dX2_tell_85 : decode cX2_tell 85 = .ok (.iload_n 2, 1) := by decide +kernel
theorem dX2_tell_86 : decode cX2_tell 86 = .ok (.invokevirtual 41, 3) := by decide +kernel
theorem dX2_tell_89 : decode cX2_tell 89 = .ok (.ifCond .eq 5, 3) := by decide +kernel
theorem dX2_tell_92 : decode cX2_tell 92 = .ok (.iconst 0, 1) := by decide +kernel
theorem dX2_tell_93 : decode cX2_tell 93 = .ok (.ireturn, 1) := by decide +kernel
theorem dX2_tell_94 : decode cX2_tell 94 = .ok (.iinc 4 1, 3) := by decide +kernel
theorem dX2_tell_97 : decode cX2_tell 97 = .ok (.goto (-28), 3) := by decide +kernel
theorem dX2_tell_100 : decode cX2_tell 100 = .ok (.aload_n 0, 1) := by decide +kernel
theorem dX2_tell_101 : decode cX2_tell 101 = .ok (.getfield 14, 3) := by decide +kernel
theorem dX2_tell_104 : decode cX2_tell 104 = .ok (.aload_n 0, 1) := by decide +kernel
theorem dX2_tell_105 : decode cX2_tell 105 = .ok (.iload_n 1, 1) := by decide +kernel
theorem dX2_tell_106 : decode cX2_tell 106 = .ok (.iload_n 2, 1) := by decide +kernel
theorem dX2_tell_107 : decode cX2_tell 107 = .ok (.invokevirtual 44, 3) := by decide +kernel
theorem dX2_tell_110 : decode cX2_tell 110 = .ok (.iload_n 1, 1) := by decide +kernel
theorem dX2_tell_111 : decode cX2_tell 111 = .ok (.iload_n 2, 1) := by decide +kernel
theorem dX2_tell_112 : decode cX2_tell 112 = .ok (.invokevirtual 28, 3) := by decide +kernel
theorem dX2_tell_115 : decode cX2_tell 115 = .ok (.ireturn, 1) := by decide +kernel
set_option maxRecDepth 20000 in
theorem ggX2_countRightInside_X2_findHolder : GoodIn wsX2_countRightInside wsX2_findHolder := goodIn_r _ [5, 6, 7, 8, 9, 10, 11, 12, 13, 14, 15, 16, 17, 18, 19] (by decide +kernel) (by decide +kernel)
set_option maxRecDepth 20000 in
theorem gX2_countRightInside_X2_findHolder : GoodIn wsX2_countRightInside (wsV RX2 47 RX2 yX2_findHolder wsX2_findHolder) := goodIn_app (goodIn_of _ (by decide +kernel)) ggX2_countRightInside_X2_findHolder
theorem dX2_countRightInside_0 : decode cX2_countRightInside 0 = .ok (.iconst 0, 1) := by decide +kernel
theorem dX2_countRightInside_1 : decode cX2_countRightInside 1 = .ok (.istore_n 2, 1) := by decide +kernel
theorem dX2_countRightInside_2 : decode cX2_countRightInside 2 = .ok (.iconst 0, 1) := by decide +kernel
theorem dX2_countRightInside_3 : decode cX2_countRightInside 3 = .ok (.istore_n 3, 1) := by decide +kernel
theorem dX2_countRightInside_4 : decode cX2_countRightInside 4 = .ok (.iload_n 3, 1) := by decide +kernel
theorem dX2_countRightInside_5 : decode cX2_countRightInside 5 = .ok (.iload_n 1, 1) := by decide +kernel
theorem dX2_countRightInside_6 : decode cX2_countRightInside 6 = .ok (.if_icmp .ge 21, 3) := by decide +kernel
theorem dX2_countRightInside_9 : decode cX2_countRightInside 9 = .ok (.aload_n 0, 1) := by decide +kernel
theorem dX2_countRightInside_10 : decode cX2_countRightInside 10 = .ok (.iload_n 3, 1) := by decide +kernel
theorem dX2_countRightInside_11 : decode cX2_countRightInside 11 = .ok (.invokevirtual 47, 3) := by decide +kernel
theorem dX2_countRightInside_14 : decode cX2_countRightInside 14 = .ok (.iload_n 1, 1) := by decide +kernel
theorem dX2_countRightInside_15 : decode cX2_countRightInside 15 = .ok (.if_icmp .ne 6, 3) := by decide +kernel
theorem dX2_countRightInside_18 : decode cX2_countRightInside 18 = .ok (.iinc 2 1, 3) := by decide +kernel
theorem dX2_countRightInside_21 : decode cX2_countRightInside 21 = .ok (.iinc 3 1, 3) := by decide +kernel
theorem dX2_countRightInside_24 : decode cX2_countRightInside 24 = .ok (.goto (-20), 3) := by decide +kernel
theorem dX2_countRightInside_27 : decode cX2_countRightInside 27 = .ok (.iload_n 2, 1) := by decide +kernel
theorem dX2_countRightInside_28 : decode cX2_countRightInside 28 = .ok (.ireturn, 1) := by decide +kernel
set_option maxRecDepth 20000 in
theorem ggX2_findHolder_X3_liesIn : GoodIn wsX2_findHolder wsX3_liesIn := goodIn_r _ [7, 8, 9, 12, 13, 14] (by decide +kernel) (by decide +kernel)
set_option maxRecDepth 20000 in
theorem gX2_findHolder_X3_liesIn : GoodIn wsX2_findHolder (wsV RX2 51 RX3 yX3_liesIn wsX3_liesIn) := goodIn_app (goodIn_of _ (by decide +kernel)) ggX2_findHolder_X3_liesIn
theorem dX2_findHolder_0 : decode cX2_findHolder 0 = .ok (.iload_n 1, 1) := by decide +kernel
theorem dX2_findHolder_1 : decode cX2_findHolder 1 = .ok (.iconst 1, 1) := by decide +kernel
theorem dX2_findHolder_2 : decode cX2_findHolder 2 = .ok (.iadd, 1) := by decide +kernel
theorem dX2_findHolder_3 : decode cX2_findHolder 3 = .ok (.istore_n 2, 1) := by decide +kernel
theorem dX2_findHolder_4 : decode cX2_findHolder 4 = .ok (.iload_n 2, 1) := by decide +kernel
theorem dX2_findHolder_5 : decode cX2_findHolder 5 = .ok (.aload_n 0, 1) := by decide +kernel
theorem dX2_findHolder_6 : decode cX2_findHolder 6 = .ok (.getfield 14, 3) := by decide +kernel
theorem dX2_findHolder_9 : decode cX2_findHolder 9 = .ok (.getfield 20, 3) := by decide +kernel
theorem dX2_findHolder_12 : decode cX2_findHolder 12 = .ok (.if_icmp .ge 23, 3) := by decide +kernel
theorem dX2_findHolder_15 : decode cX2_findHolder 15 = .ok (.aload_n 0, 1) := by decide +kernel
theorem dX2_findHolder_16 : decode cX2_findHolder 16 = .ok (.getfield 14, 3) := by decide +kernel
theorem dX2_findHolder_19 : decode cX2_findHolder 19 = .ok (.iload_n 1, 1) := by decide +kernel
theorem dX2_findHolder_20 : decode cX2_findHolder 20 = .ok (.iload_n 2, 1) := by decide +kernel
theorem dX2_findHolder_21 : decode cX2_findHolder 21 = .ok (.invokevirtual 51, 3) := by decide +kernel
theorem dX2_findHolder_24 : decode cX2_findHolder 24 = .ok (.ifCond .eq 5, 3) := by decide +kernel
theorem dX2_findHolder_27 : decode cX2_findHolder 27 = .ok (.iload_n 2, 1) := by decide +kernel
theorem dX2_findHolder_28 : decode cX2_findHolder 28 = .ok (.ireturn, 1) := by decide +kernel
theorem dX2_findHolder_29 : decode cX2_findHolder 29 = .ok (.iinc 2 1, 3) := by decide +kernel
theorem dX2_findHolder_32 : decode cX2_findHolder 32 = .ok (.goto (-28), 3) := by decide +kernel
theorem dX2_findHolder_35 : decode cX2_findHolder 35 = .ok (.iconst (-1), 1) := by decide +kernel
theorem dX2_findHolder_36 : decode cX2_findHolder 36 = .ok (.ireturn, 1) := by decide +kernel
theorem dX2_crosses_0 : decode cX2_crosses 0 = .ok (.aload_n 0, 1) := by decide +kernel
theorem dX2_crosses_1 : decode cX2_crosses 1 = .ok (.getfield 14, 3) := by decide +kernel
theorem dX2_crosses_4 : decode cX2_crosses 4 = .ok (.getfield 55, 3) := by decide +kernel
theorem dX2_crosses_7 : decode cX2_crosses 7 = .ok (.iload_n 1, 1) := by decide +kernel
theorem dX2_crosses_8 : decode cX2_crosses 8 = .ok (.iaload, 1) := by decide +kernel
theorem dX2_crosses_9 : decode cX2_crosses 9 = .ok (.istore 4, 2) := by decide +kernel
theorem dX2_crosses_11 : decode cX2_crosses 11 = .ok (.aload_n 0, 1) := by decide +kernel
theorem dX2_crosses_12 : decode cX2_crosses 12 = .ok (.getfield 14, 3) := by decide +kernel
theorem dX2_crosses_15 : decode cX2_crosses 15 = .ok (.getfield 59, 3) := by decide +kernel
theorem dX2_crosses_18 : decode cX2_crosses 18 = .ok (.iload_n 1, 1) := by decide +kernel
theorem dX2_crosses_19 : decode cX2_crosses 19 = .ok (.iaload, 1) := by decide +kernel
theorem dX2_crosses_20 : decode cX2_crosses 20 = .ok (.istore 5, 2) := by decide +kernel
theorem dX2_crosses_22 : decode cX2_crosses 22 = .ok (.iload_n 3, 1) := by decide +kernel
theorem dX2_crosses_23 : decode cX2_crosses 23 = .ok (.iload 4, 2) := by decide +kernel
theorem dX2_crosses_25 : decode cX2_crosses 25 = .ok (.if_icmp .lt 9, 3) := by decide +kernel
theorem dX2_crosses_28 : decode cX2_crosses 28 = .ok (.iload 5, 2) := by decide +kernel
theorem dX2_crosses_30 : decode cX2_crosses 30 = .ok (.iload_n 2, 1) := by decide +kernel
theorem dX2_crosses_31 : decode cX2_crosses 31 = .ok (.if_icmp .ge 7, 3) := by decide +kernel
theorem dX2_crosses_34 : decode cX2_crosses 34 = .ok (.iconst 1, 1) := by decide +kernel
theorem dX2_crosses_35 : decode cX2_crosses 35 = .ok (.goto 4, 3) := by decide +kernel
theorem dX2_crosses_38 : decode cX2_crosses 38 = .ok (.iconst 0, 1) := by decide +kernel
theorem dX2_crosses_39 : decode cX2_crosses 39 = .ok (.istore 6, 2) := by decide +kernel
theorem dX2_crosses_41 : decode cX2_crosses 41 = .ok (.iload 4, 2) := by decide +kernel
theorem dX2_crosses_43 : decode cX2_crosses 43 = .ok (.iload_n 2, 1) := by decide +kernel
theorem dX2_crosses_44 : decode cX2_crosses 44 = .ok (.if_icmp .gt 13, 3) := by decide +kernel
theorem dX2_crosses_47 : decode cX2_crosses 47 = .ok (.iload_n 3, 1) := by decide +kernel
theorem dX2_crosses_48 : decode cX2_crosses 48 = .ok (.iload 5, 2) := by decide +kernel
theorem dX2_crosses_50 : decode cX2_crosses 50 = .ok (.if_icmp .gt 7, 3) := by decide +kernel
theorem dX2_crosses_53 : decode cX2_crosses 53 = .ok (.iconst 1, 1) := by decide +kernel
theorem dX2_crosses_54 : decode cX2_crosses 54 = .ok (.goto 4, 3) := by decide +kernel
theorem dX2_crosses_57 : decode cX2_crosses 57 = .ok (.iconst 0, 1) := by decide +kernel
theorem dX2_crosses_58 : decode cX2_crosses 58 = .ok (.istore 7, 2) := by decide +kernel
theorem dX2_crosses_60 : decode cX2_crosses 60 = .ok (.iload_n 2, 1) := by decide +kernel
theorem dX2_crosses_61 : decode cX2_crosses 61 = .ok (.iload 4, 2) := by decide +kernel
theorem dX2_crosses_63 : decode cX2_crosses 63 = .ok (.if_icmp .gt 13, 3) := by decide +kernel
theorem dX2_crosses_66 : decode cX2_crosses 66 = .ok (.iload 5, 2) := by decide +kernel
theorem dX2_crosses_68 : decode cX2_crosses 68 = .ok (.iload_n 3, 1) := by decide +kernel
theorem dX2_crosses_69 : decode cX2_crosses 69 = .ok (.if_icmp .gt 7, 3) := by decide +kernel
theorem dX2_crosses_72 : decode cX2_crosses 72 = .ok (.iconst 1, 1) := by decide +kernel
theorem dX2_crosses_73 : decode cX2_crosses 73 = .ok (.goto 4, 3) := by decide +kernel
theorem dX2_crosses_76 : decode cX2_crosses 76 = .ok (.iconst 0, 1) := by decide +kernel
theorem dX2_crosses_77 : decode cX2_crosses 77 = .ok (.istore 8, 2) := by decide +kernel
theorem dX2_crosses_79 : decode cX2_crosses 79 = .ok (.iload 6, 2) := by decide +kernel
theorem dX2_crosses_81 : decode cX2_crosses 81 = .ok (.ifCond .ne 17, 3) := by decide +kernel
theorem dX2_crosses_84 : decode cX2_crosses 84 = .ok (.iload 7, 2) := by decide +kernel
theorem dX2_crosses_86 : decode cX2_crosses 86 = .ok (.ifCond .ne 12, 3) := by decide +kernel
theorem dX2_crosses_89 : decode cX2_crosses 89 = .ok (.iload 8, 2) := by decide +kernel
theorem dX2_crosses_91 : decode cX2_crosses 91 = .ok (.ifCond .ne 7, 3) := by decide +kernel
theorem dX2_crosses_94 : decode cX2_crosses 94 = .ok (.iconst 1, 1) := by decide +kernel
theorem dX2_crosses_95 : decode cX2_crosses 95 = .ok (.goto 4, 3) := by decide +kernel
theorem dX2_crosses_98 : decode cX2_crosses 98 = .ok (.iconst 0, 1) := by decide +kernel
theorem dX2_crosses_99 : decode cX2_crosses 99 = .ok (.ireturn, 1) := by decide +kernel
set_option maxRecDepth 20000 in
theorem ggX2_placeFor_X2_comesAhead : GoodIn wsX2_placeFor wsX2_comesAhead := goodIn_r _ [7, 1, 8, 9, 10, 11, 12, 13, 14] (by decide +kernel) (by decide +kernel)
set_option maxRecDepth 20000 in
theorem gX2_placeFor_X2_comesAhead : GoodIn wsX2_placeFor (wsV RX2 62 RX2 yX2_comesAhead wsX2_comesAhead) := goodIn_app (goodIn_of _ (by decide +kernel)) ggX2_placeFor_X2_comesAhead
theorem dX2_placeFor_0 : decode cX2_placeFor 0 = .ok (.iconst 0, 1) := by decide +kernel
theorem dX2_placeFor_1 : decode cX2_placeFor 1 = .ok (.istore_n 3, 1) := by decide +kernel
theorem dX2_placeFor_2 : decode cX2_placeFor 2 = .ok (.iload_n 3, 1) := by decide +kernel
theorem dX2_placeFor_3 : decode cX2_placeFor 3 = .ok (.aload_n 0, 1) := by decide +kernel
theorem dX2_placeFor_4 : decode cX2_placeFor 4 = .ok (.getfield 14, 3) := by decide +kernel
theorem dX2_placeFor_7 : decode cX2_placeFor 7 = .ok (.getfield 20, 3) := by decide +kernel
theorem dX2_placeFor_10 : decode cX2_placeFor 10 = .ok (.if_icmp .ge 19, 3) := by decide +kernel
theorem dX2_placeFor_13 : decode cX2_placeFor 13 = .ok (.aload_n 0, 1) := by decide +kernel
theorem dX2_placeFor_14 : decode cX2_placeFor 14 = .ok (.iload_n 3, 1) := by decide +kernel
theorem dX2_placeFor_15 : decode cX2_placeFor 15 = .ok (.iload_n 1, 1) := by decide +kernel
theorem dX2_placeFor_16 : decode cX2_placeFor 16 = .ok (.iload_n 2, 1) := by decide +kernel
theorem dX2_placeFor_17 : decode cX2_placeFor 17 = .ok (.invokevirtual 62, 3) := by decide +kernel
theorem dX2_placeFor_20 : decode cX2_placeFor 20 = .ok (.ifCond .eq 9, 3) := by decide +kernel
theorem dX2_placeFor_23 : decode cX2_placeFor 23 = .ok (.iinc 3 1, 3) := by decide +kernel
theorem dX2_placeFor_26 : decode cX2_placeFor 26 = .ok (.goto (-24), 3) := by decide +kernel
theorem dX2_placeFor_29 : decode cX2_placeFor 29 = .ok (.iload_n 3, 1) := by decide +kernel
theorem dX2_placeFor_30 : decode cX2_placeFor 30 = .ok (.ireturn, 1) := by decide +kernel
theorem dX2_comesAhead_0 : decode cX2_comesAhead 0 = .ok (.aload_n 0, 1) := by decide +kernel
theorem dX2_comesAhead_1 : decode cX2_comesAhead 1 = .ok (.getfield 14, 3) := by decide +kernel
theorem dX2_comesAhead_4 : decode cX2_comesAhead 4 = .ok (.getfield 59, 3) := by decide +kernel
theorem dX2_comesAhead_7 : decode cX2_comesAhead 7 = .ok (.iload_n 1, 1) := by decide +kernel
theorem dX2_comesAhead_8 : decode cX2_comesAhead 8 = .ok (.iaload, 1) := by decide +kernel
theorem dX2_comesAhead_9 : decode cX2_comesAhead 9 = .ok (.aload_n 0, 1) := by decide +kernel
theorem dX2_comesAhead_10 : decode cX2_comesAhead 10 = .ok (.getfield 14, 3) := by decide +kernel
theorem dX2_comesAhead_13 : decode cX2_comesAhead 13 = .ok (.getfield 55, 3) := by decide +kernel
theorem dX2_comesAhead_16 : decode cX2_comesAhead 16 = .ok (.iload_n 1, 1) := by decide +kernel
theorem dX2_comesAhead_17 : decode cX2_comesAhead 17 = .ok (.iaload, 1) := by decide +kernel
theorem dX2_comesAhead_18 : decode cX2_comesAhead 18 = .ok (.isub, 1) := by decide +kernel
theorem dX2_comesAhead_19 : decode cX2_comesAhead 19 = .ok (.istore 4, 2) := by decide +kernel
theorem dX2_comesAhead_21 : decode cX2_comesAhead 21 = .ok (.iload 4, 2) := by decide +kernel
theorem dX2_comesAhead_23 : decode cX2_comesAhead 23 = .ok (.iload_n 3, 1) := by decide +kernel
theorem dX2_comesAhead_24 : decode cX2_comesAhead 24 = .ok (.iload_n 2, 1) := by decide +kernel
theorem dX2_comesAhead_25 : decode cX2_comesAhead 25 = .ok (.isub, 1) := by decide +kernel
theorem dX2_comesAhead_26 : decode cX2_comesAhead 26 = .ok (.if_icmp .lt 24, 3) := by decide +kernel
theorem dX2_comesAhead_29 : decode cX2_comesAhead 29 = .ok (.iload 4, 2) := by decide +kernel
theorem dX2_comesAhead_31 : decode cX2_comesAhead 31 = .ok (.iload_n 3, 1) := by decide +kernel
theorem dX2_comesAhead_32 : decode cX2_comesAhead 32 = .ok (.iload_n 2, 1) := by decide +kernel
theorem dX2_comesAhead_33 : decode cX2_comesAhead 33 = .ok (.isub, 1) := by decide +kernel
theorem dX2_comesAhead_34 : decode cX2_comesAhead 34 = .ok (.if_icmp .ne 20, 3) := by decide +kernel
theorem dX2_comesAhead_37 : decode cX2_comesAhead 37 = .ok (.aload_n 0, 1) := by decide +kernel
theorem dX2_comesAhead_38 : decode cX2_comesAhead 38 = .ok (.getfield 14, 3) := by decide +kernel
theorem dX2_comesAhead_41 : decode cX2_comesAhead 41 = .ok (.getfield 55, 3) := by decide +kernel
theorem dX2_comesAhead_44 : decode cX2_comesAhead 44 = .ok (.iload_n 1, 1) := by decide +kernel
theorem dX2_comesAhead_45 : decode cX2_comesAhead 45 = .ok (.iaload, 1) := by decide +kernel
theorem dX2_comesAhead_46 : decode cX2_comesAhead 46 = .ok (.iload_n 2, 1) := by decide +kernel
theorem dX2_comesAhead_47 : decode cX2_comesAhead 47 = .ok (.if_icmp .ge 7, 3) := by decide +kernel
theorem dX2_comesAhead_50 : decode cX2_comesAhead 50 = .ok (.iconst 1, 1) := by decide +kernel
theorem dX2_comesAhead_51 : decode cX2_comesAhead 51 = .ok (.goto 4, 3) := by decide +kernel
theorem dX2_comesAhead_54 : decode cX2_comesAhead 54 = .ok (.iconst 0, 1) := by decide +kernel
theorem dX2_comesAhead_55 : decode cX2_comesAhead 55 = .ok (.ireturn, 1) := by decide +kernel
