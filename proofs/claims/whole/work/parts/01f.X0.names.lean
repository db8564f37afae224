set_option maxRecDepth 20000 in
theorem ggX0_init_X2_init : GoodIn wsX0_init wsX2_init := goodIn_r _ [22, 23, 2, 3, 24, 18, 19, 25, 26, 27, 28, 29, 30, 31, 32, 33, 4, 34, 35, 51, 52, 53, 49, 50] (by decide +kernel) (by decide +kernel)
set_option maxRecDepth 20000 in
theorem gX0_init_X2_init_n36 : GoodIn wsX0_init (wsX2_init) := ggX0_init_X2_init
set_option maxRecDepth 20000 in
theorem ggX0_init_X3_init : GoodIn wsX0_init wsX3_init := goodIn_r _ [28, 29, 2, 3, 30, 31, 32, 33, 4, 34, 35, 51, 52, 53] (by decide +kernel) (by decide +kernel)
set_option maxRecDepth 20000 in
theorem gX0_init_X3_init : GoodIn wsX0_init (wsX3_init) := ggX0_init_X3_init
theorem dX0_init_0 : decode cX0_init 0 = .ok (.aload_n 0, 1) := by decide +kernel
theorem dX0_init_1 : decode cX0_init 1 = .ok (.invokespecial 3, 3) := by decide +kernel
theorem dX0_init_4 : decode cX0_init 4 = .ok (.aload_n 0, 1) := by decide +kernel
theorem dX0_init_5 : decode cX0_init 5 = .ok (.bipush 80, 2) := by decide +kernel
theorem dX0_init_7 : decode cX0_init 7 = .ok (.newarray .int, 2) := by decide +kernel
theorem dX0_init_9 : decode cX0_init 9 = .ok (.putfield 9, 3) := by decide +kernel
theorem dX0_init_12 : decode cX0_init 12 = .ok (.aload_n 0, 1) := by decide +kernel
theorem dX0_init_13 : decode cX0_init 13 = .ok (.bipush 80, 2) := by decide +kernel
theorem dX0_init_15 : decode cX0_init 15 = .ok (.newarray .long, 2) := by decide +kernel
theorem dX0_init_17 : decode cX0_init 17 = .ok (.putfield 15, 3) := by decide +kernel
theorem dX0_init_20 : decode cX0_init 20 = .ok (.aload_n 0, 1) := by decide +kernel
theorem dX0_init_21 : decode cX0_init 21 = .ok (.bipush 80, 2) := by decide +kernel
theorem dX0_init_23 : decode cX0_init 23 = .ok (.newarray .int, 2) := by decide +kernel
theorem dX0_init_25 : decode cX0_init 25 = .ok (.putfield 19, 3) := by decide +kernel
theorem dX0_init_28 : decode cX0_init 28 = .ok (.aload_n 0, 1) := by decide +kernel
theorem dX0_init_29 : decode cX0_init 29 = .ok (.bipush 80, 2) := by decide +kernel
theorem dX0_init_31 : decode cX0_init 31 = .ok (.newarray .int, 2) := by decide +kernel
theorem dX0_init_33 : decode cX0_init 33 = .ok (.putfield 22, 3) := by decide +kernel
theorem dX0_init_36 : decode cX0_init 36 = .ok (.aload_n 0, 1) := by decide +kernel
theorem dX0_init_37 : decode cX0_init 37 = .ok (.bipush 80, 2) := by decide +kernel
theorem dX0_init_39 : decode cX0_init 39 = .ok (.newarray .int, 2) := by decide +kernel
theorem dX0_init_41 : decode cX0_init 41 = .ok (.putfield 25, 3) := by decide +kernel
theorem dX0_init_44 : decode cX0_init 44 = .ok (.aload_n 0, 1) := by decide +kernel
theorem dX0_init_45 : decode cX0_init 45 = .ok (.bipush 80, 2) := by decide +kernel
theorem dX0_init_47 : decode cX0_init 47 = .ok (.newarray .int, 2) := by decide +kernel
theorem dX0_init_49 : decode cX0_init 49 = .ok (.putfield 28, 3) := by decide +kernel
theorem dX0_init_52 : decode cX0_init 52 = .ok (.aload_n 0, 1) := by decide +kernel
theorem dX0_init_53 : decode cX0_init 53 = .ok (.bipush 32, 2) := by decide +kernel
theorem dX0_init_55 : decode cX0_init 55 = .ok (.newarray .int, 2) := by decide +kernel
theorem dX0_init_57 : decode cX0_init 57 = .ok (.putfield 31, 3) := by decide +kernel
theorem dX0_init_60 : decode cX0_init 60 = .ok (.aload_n 0, 1) := by decide +kernel
theorem dX0_init_61 : decode cX0_init 61 = .ok (.new 34, 3) := by decide +kernel
theorem dX0_init_64 : decode cX0_init 64 = .ok (.dup, 1) := by decide +kernel
theorem dX0_init_65 : decode cX0_init 65 = .ok (.invokespecial 36, 3) := by decide +kernel
theorem dX0_init_68 : decode cX0_init 68 = .ok (.putfield 37, 3) := by decide +kernel
theorem dX0_init_71 : decode cX0_init 71 = .ok (.aload_n 0, 1) := by decide +kernel
theorem dX0_init_72 : decode cX0_init 72 = .ok (.new 41, 3) := by decide +kernel
theorem dX0_init_75 : decode cX0_init 75 = .ok (.dup, 1) := by decide +kernel
theorem dX0_init_76 : decode cX0_init 76 = .ok (.bipush 40, 2) := by decide +kernel
theorem dX0_init_78 : decode cX0_init 78 = .ok (.invokespecial 43, 3) := by decide +kernel
theorem dX0_init_81 : decode cX0_init 81 = .ok (.putfield 46, 3) := by decide +kernel
theorem dX0_init_84 : decode cX0_init 84 = .ok (.return_, 1) := by decide +kernel
set_option maxRecDepth 20000 in
theorem ggX0_clear_X2_clear : GoodIn wsX0_clear wsX2_clear := goodIn_r _ [11, 12, 13, 14, 30, 31, 27, 28, 29] (by decide +kernel) (by decide +kernel)
set_option maxRecDepth 20000 in
theorem gX0_clear_X2_clear : GoodIn wsX0_clear (wsV RX0 61 RX2 yX2_clear wsX2_clear) := goodIn_app (goodIn_of _ (by decide +kernel)) ggX0_clear_X2_clear
theorem dX0_clear_0 : decode cX0_clear 0 = .ok (.aload_n 0, 1) := by decide +kernel
theorem dX0_clear_1 : decode cX0_clear 1 = .ok (.iconst 0, 1) := by decide +kernel
theorem dX0_clear_2 : decode cX0_clear 2 = .ok (.putfield 50, 3) := by decide +kernel
theorem dX0_clear_5 : decode cX0_clear 5 = .ok (.aload_n 0, 1) := by decide +kernel
theorem dX0_clear_6 : decode cX0_clear 6 = .ok (.iconst 0, 1) := by decide +kernel
theorem dX0_clear_7 : decode cX0_clear 7 = .ok (.putfield 54, 3) := by decide +kernel
theorem dX0_clear_10 : decode cX0_clear 10 = .ok (.aload_n 0, 1) := by decide +kernel
theorem dX0_clear_11 : decode cX0_clear 11 = .ok (.iconst 0, 1) := by decide +kernel
theorem dX0_clear_12 : decode cX0_clear 12 = .ok (.putfield 57, 3) := by decide +kernel
theorem dX0_clear_15 : decode cX0_clear 15 = .ok (.aload_n 0, 1) := by decide +kernel
theorem dX0_clear_16 : decode cX0_clear 16 = .ok (.getfield 37, 3) := by decide +kernel
theorem dX0_clear_19 : decode cX0_clear 19 = .ok (.invokevirtual 61, 3) := by decide +kernel
theorem dX0_clear_22 : decode cX0_clear 22 = .ok (.aload_n 0, 1) := by decide +kernel
theorem dX0_clear_23 : decode cX0_clear 23 = .ok (.getfield 46, 3) := by decide +kernel
theorem dX0_clear_26 : decode cX0_clear 26 = .ok (.iconst 0, 1) := by decide +kernel
theorem dX0_clear_27 : decode cX0_clear 27 = .ok (.putfield 64, 3) := by decide +kernel
theorem dX0_clear_30 : decode cX0_clear 30 = .ok (.return_, 1) := by decide +kernel
set_option maxRecDepth 20000 in
theorem ggX0_canTake_X2_countTold : GoodIn wsX0_canTake wsX2_countTold := goodIn_r _ [12, 13, 14, 15, 16, 17, 18, 19, 35, 36, 32, 33, 34] (by decide +kernel) (by decide +kernel)
set_option maxRecDepth 20000 in
theorem gX0_canTake_X2_countTold : GoodIn wsX0_canTake (wsV RX0 67 RX2 yX2_countTold wsX2_countTold) := goodIn_app (goodIn_of _ (by decide +kernel)) ggX0_canTake_X2_countTold
theorem dX0_canTake_0 : decode cX0_canTake 0 = .ok (.aload_n 0, 1) := by decide +kernel
theorem dX0_canTake_1 : decode cX0_canTake 1 = .ok (.getfield 50, 3) := by decide +kernel
theorem dX0_canTake_4 : decode cX0_canTake 4 = .ok (.bipush 80, 2) := by decide +kernel
theorem dX0_canTake_6 : decode cX0_canTake 6 = .ok (.if_icmp .ge 23, 3) := by decide +kernel
theorem dX0_canTake_9 : decode cX0_canTake 9 = .ok (.aload_n 0, 1) := by decide +kernel
theorem dX0_canTake_10 : decode cX0_canTake 10 = .ok (.getfield 37, 3) := by decide +kernel
theorem dX0_canTake_13 : decode cX0_canTake 13 = .ok (.invokevirtual 67, 3) := by decide +kernel
theorem dX0_canTake_16 : decode cX0_canTake 16 = .ok (.ifCond .gt 13, 3) := by decide +kernel
theorem dX0_canTake_19 : decode cX0_canTake 19 = .ok (.aload_n 0, 1) := by decide +kernel
theorem dX0_canTake_20 : decode cX0_canTake 20 = .ok (.getfield 46, 3) := by decide +kernel
theorem dX0_canTake_23 : decode cX0_canTake 23 = .ok (.getfield 64, 3) := by decide +kernel
theorem dX0_canTake_26 : decode cX0_canTake 26 = .ok (.ifCond .le 5, 3) := by decide +kernel
theorem dX0_canTake_29 : decode cX0_canTake 29 = .ok (.iconst 0, 1) := by decide +kernel
theorem dX0_canTake_30 : decode cX0_canTake 30 = .ok (.ireturn, 1) := by decide +kernel
theorem dX0_canTake_31 : decode cX0_canTake 31 = .ok (.aload_n 0, 1) := by decide +kernel
theorem dX0_canTake_32 : decode cX0_canTake 32 = .ok (.getfield 50, 3) := by decide +kernel
theorem dX0_canTake_35 : decode cX0_canTake 35 = .ok (.ifCond .ne 18, 3) := by decide +kernel
theorem dX0_canTake_38 : decode cX0_canTake 38 = .ok (.iload_n 1, 1) := by decide +kernel
theorem dX0_canTake_39 : decode cX0_canTake 39 = .ok (.iconst 3, 1) := by decide +kernel
theorem dX0_canTake_40 : decode cX0_canTake 40 = .ok (.if_icmp .eq 7, 3) := by decide +kernel
theorem dX0_canTake_43 : decode cX0_canTake 43 = .ok (.iload_n 1, 1) := by decide +kernel
theorem dX0_canTake_44 : decode cX0_canTake 44 = .ok (.ifCond .ne 7, 3) := by decide +kernel
theorem dX0_canTake_47 : decode cX0_canTake 47 = .ok (.iconst 1, 1) := by decide +kernel
theorem dX0_canTake_48 : decode cX0_canTake 48 = .ok (.goto 4, 3) := by decide +kernel
theorem dX0_canTake_51 : decode cX0_canTake 51 = .ok (.iconst 0, 1) := by decide +kernel
theorem dX0_canTake_52 : decode cX0_canTake 52 = .ok (.ireturn, 1) := by decide +kernel
theorem dX0_canTake_53 : decode cX0_canTake 53 = .ok (.aload_n 0, 1) := by decide +kernel
theorem dX0_canTake_54 : decode cX0_canTake 54 = .ok (.getfield 9, 3) := by decide +kernel
theorem dX0_canTake_57 : decode cX0_canTake 57 = .ok (.aload_n 0, 1) := by decide +kernel
theorem dX0_canTake_58 : decode cX0_canTake 58 = .ok (.getfield 50, 3) := by decide +kernel
theorem dX0_canTake_61 : decode cX0_canTake 61 = .ok (.iconst 1, 1) := by decide +kernel
theorem dX0_canTake_62 : decode cX0_canTake 62 = .ok (.isub, 1) := by decide +kernel
theorem dX0_canTake_63 : decode cX0_canTake 63 = .ok (.iaload, 1) := by decide +kernel
theorem dX0_canTake_64 : decode cX0_canTake 64 = .ok (.istore_n 2, 1) := by decide +kernel
theorem dX0_canTake_65 : decode cX0_canTake 65 = .ok (.iload_n 2, 1) := by decide +kernel
theorem dX0_canTake_66 : decode cX0_canTake 66 = .ok (.iconst 3, 1) := by decide +kernel
theorem dX0_canTake_67 : decode cX0_canTake 67 = .ok (.if_icmp .ne 21, 3) := by decide +kernel
theorem dX0_canTake_70 : decode cX0_canTake 70 = .ok (.aload_n 0, 1) := by decide +kernel
theorem dX0_canTake_71 : decode cX0_canTake 71 = .ok (.getfield 50, 3) := by decide +kernel
theorem dX0_canTake_74 : decode cX0_canTake 74 = .ok (.iconst 1, 1) := by decide +kernel
theorem dX0_canTake_75 : decode cX0_canTake 75 = .ok (.if_icmp .ne 11, 3) := by decide +kernel
theorem dX0_canTake_78 : decode cX0_canTake 78 = .ok (.iload_n 1, 1) := by decide +kernel
theorem dX0_canTake_79 : decode cX0_canTake 79 = .ok (.ifCond .ne 7, 3) := by decide +kernel
theorem dX0_canTake_82 : decode cX0_canTake 82 = .ok (.iconst 1, 1) := by decide +kernel
theorem dX0_canTake_83 : decode cX0_canTake 83 = .ok (.goto 4, 3) := by decide +kernel
theorem dX0_canTake_86 : decode cX0_canTake 86 = .ok (.iconst 0, 1) := by decide +kernel
theorem dX0_canTake_87 : decode cX0_canTake 87 = .ok (.ireturn, 1) := by decide +kernel
theorem dX0_canTake_88 : decode cX0_canTake 88 = .ok (.iload_n 1, 1) := by decide +kernel
theorem dX0_canTake_89 : decode cX0_canTake 89 = .ok (.iconst 3, 1) := by decide +kernel
theorem dX0_canTake_90 : decode cX0_canTake 90 = .ok (.if_icmp .ne 13, 3) := by decide +kernel
theorem dX0_canTake_93 : decode cX0_canTake 93 = .ok (.iload_n 2, 1) := by decide +kernel
theorem dX0_canTake_94 : decode cX0_canTake 94 = .ok (.ifCond .ne 7, 3) := by decide +kernel
theorem dX0_canTake_97 : decode cX0_canTake 97 = .ok (.iconst 1, 1) := by decide +kernel
theorem dX0_canTake_98 : decode cX0_canTake 98 = .ok (.goto 4, 3) := by decide +kernel
theorem dX0_canTake_101 : decode cX0_canTake 101 = .ok (.iconst 0, 1) := by decide +kernel
theorem dX0_canTake_102 : decode cX0_canTake 102 = .ok (.ireturn, 1) := by decide +kernel
theorem dX0_canTake_103 : decode cX0_canTake 103 = .ok (.iload_n 1, 1) := by decide +kernel
theorem dX0_canTake_104 : decode cX0_canTake 104 = .ok (.ifCond .ne 19, 3) := by decide +kernel
theorem dX0_canTake_107 : decode cX0_canTake 107 = .ok (.aload_n 0, 1) := by decide +kernel
theorem dX0_canTake_108 : decode cX0_canTake 108 = .ok (.getfield 57, 3) := by decide +kernel
theorem dX0_canTake_111 : decode cX0_canTake 111 = .ok (.ifCond .eq 16, 3) := by decide +kernel
theorem dX0_canTake_114 : decode cX0_canTake 114 = .ok (.aload_n 0, 1) := by decide +kernel
theorem dX0_canTake_115 : decode cX0_canTake 115 = .ok (.getfield 54, 3) := by decide +kernel
theorem dX0_canTake_118 : decode cX0_canTake 118 = .ok (.bipush 32, 2) := by decide +kernel
theorem dX0_canTake_120 : decode cX0_canTake 120 = .ok (.if_icmp .ge 7, 3) := by decide +kernel
theorem dX0_canTake_123 : decode cX0_canTake 123 = .ok (.iconst 1, 1) := by decide +kernel
theorem dX0_canTake_124 : decode cX0_canTake 124 = .ok (.goto 4, 3) := by decide +kernel
theorem dX0_canTake_127 : decode cX0_canTake 127 = .ok (.iconst 0, 1) := by decide +kernel
theorem dX0_canTake_128 : decode cX0_canTake 128 = .ok (.ireturn, 1) := by decide +kernel
theorem dX0_addLayer_0 : decode cX0_addLayer 0 = .ok (.aload_n 0, 1) := by decide +kernel
theorem dX0_addLayer_1 : decode cX0_addLayer 1 = .ok (.getfield 50, 3) := by decide +kernel
theorem dX0_addLayer_4 : decode cX0_addLayer 4 = .ok (.bipush 80, 2) := by decide +kernel
theorem dX0_addLayer_6 : decode cX0_addLayer 6 = .ok (.if_icmp .ge 16, 3) := by decide +kernel
theorem dX0_addLayer_9 : decode cX0_addLayer 9 = .ok (.aload_n 0, 1) := by decide +kernel
theorem dX0_addLayer_10 : decode cX0_addLayer 10 = .ok (.getfield 54, 3) := by decide +kernel
theorem dX0_addLayer_13 : decode cX0_addLayer 13 = .ok (.bipush 32, 2) := by decide +kernel
theorem dX0_addLayer_15 : decode cX0_addLayer 15 = .ok (.if_icmp .lt 8, 3) := by decide +kernel
theorem dX0_addLayer_18 : decode cX0_addLayer 18 = .ok (.iload_n 1, 1) := by decide +kernel
theorem dX0_addLayer_19 : decode cX0_addLayer 19 = .ok (.ifCond .ne 4, 3) := by decide +kernel
theorem dX0_addLayer_22 : decode cX0_addLayer 22 = .ok (.return_, 1) := by decide +kernel
theorem dX0_addLayer_23 : decode cX0_addLayer 23 = .ok (.aload_n 0, 1) := by decide +kernel
theorem dX0_addLayer_24 : decode cX0_addLayer 24 = .ok (.getfield 9, 3) := by decide +kernel
theorem dX0_addLayer_27 : decode cX0_addLayer 27 = .ok (.aload_n 0, 1) := by decide +kernel
theorem dX0_addLayer_28 : decode cX0_addLayer 28 = .ok (.getfield 50, 3) := by decide +kernel
theorem dX0_addLayer_31 : decode cX0_addLayer 31 = .ok (.iload_n 1, 1) := by decide +kernel
theorem dX0_addLayer_32 : decode cX0_addLayer 32 = .ok (.iastore, 1) := by decide +kernel
theorem dX0_addLayer_33 : decode cX0_addLayer 33 = .ok (.aload_n 0, 1) := by decide +kernel
theorem dX0_addLayer_34 : decode cX0_addLayer 34 = .ok (.getfield 15, 3) := by decide +kernel
theorem dX0_addLayer_37 : decode cX0_addLayer 37 = .ok (.aload_n 0, 1) := by decide +kernel
theorem dX0_addLayer_38 : decode cX0_addLayer 38 = .ok (.getfield 50, 3) := by decide +kernel
theorem dX0_addLayer_41 : decode cX0_addLayer 41 = .ok (.lload_n 2, 1) := by decide +kernel
theorem dX0_addLayer_42 : decode cX0_addLayer 42 = .ok (.lastore, 1) := by decide +kernel
theorem dX0_addLayer_43 : decode cX0_addLayer 43 = .ok (.aload_n 0, 1) := by decide +kernel
theorem dX0_addLayer_44 : decode cX0_addLayer 44 = .ok (.getfield 19, 3) := by decide +kernel
theorem dX0_addLayer_47 : decode cX0_addLayer 47 = .ok (.aload_n 0, 1) := by decide +kernel
theorem dX0_addLayer_48 : decode cX0_addLayer 48 = .ok (.getfield 50, 3) := by decide +kernel
theorem dX0_addLayer_51 : decode cX0_addLayer 51 = .ok (.iload 4, 2) := by decide +kernel
theorem dX0_addLayer_53 : decode cX0_addLayer 53 = .ok (.iastore, 1) := by decide +kernel
theorem dX0_addLayer_54 : decode cX0_addLayer 54 = .ok (.aload_n 0, 1) := by decide +kernel
theorem dX0_addLayer_55 : decode cX0_addLayer 55 = .ok (.getfield 22, 3) := by decide +kernel
theorem dX0_addLayer_58 : decode cX0_addLayer 58 = .ok (.aload_n 0, 1) := by decide +kernel
theorem dX0_addLayer_59 : decode cX0_addLayer 59 = .ok (.getfield 50, 3) := by decide +kernel
theorem dX0_addLayer_62 : decode cX0_addLayer 62 = .ok (.iload 5, 2) := by decide +kernel
theorem dX0_addLayer_64 : decode cX0_addLayer 64 = .ok (.iastore, 1) := by decide +kernel
theorem dX0_addLayer_65 : decode cX0_addLayer 65 = .ok (.aload_n 0, 1) := by decide +kernel
theorem dX0_addLayer_66 : decode cX0_addLayer 66 = .ok (.getfield 25, 3) := by decide +kernel
theorem dX0_addLayer_69 : decode cX0_addLayer 69 = .ok (.aload_n 0, 1) := by decide +kernel
theorem dX0_addLayer_70 : decode cX0_addLayer 70 = .ok (.getfield 50, 3) := by decide +kernel
theorem dX0_addLayer_73 : decode cX0_addLayer 73 = .ok (.sipush 1000, 3) := by decide +kernel
theorem dX0_addLayer_76 : decode cX0_addLayer 76 = .ok (.iastore, 1) := by decide +kernel
theorem dX0_addLayer_77 : decode cX0_addLayer 77 = .ok (.aload_n 0, 1) := by decide +kernel
theorem dX0_addLayer_78 : decode cX0_addLayer 78 = .ok (.getfield 28, 3) := by decide +kernel
theorem dX0_addLayer_81 : decode cX0_addLayer 81 = .ok (.aload_n 0, 1) := by decide +kernel
theorem dX0_addLayer_82 : decode cX0_addLayer 82 = .ok (.getfield 50, 3) := by decide +kernel
theorem dX0_addLayer_85 : decode cX0_addLayer 85 = .ok (.iconst (-1), 1) := by decide +kernel
theorem dX0_addLayer_86 : decode cX0_addLayer 86 = .ok (.iastore, 1) := by decide +kernel
theorem dX0_addLayer_87 : decode cX0_addLayer 87 = .ok (.iload_n 1, 1) := by decide +kernel
theorem dX0_addLayer_88 : decode cX0_addLayer 88 = .ok (.ifCond .ne 47, 3) := by decide +kernel
theorem dX0_addLayer_91 : decode cX0_addLayer 91 = .ok (.aload_n 0, 1) := by decide +kernel
theorem dX0_addLayer_92 : decode cX0_addLayer 92 = .ok (.getfield 28, 3) := by decide +kernel
theorem dX0_addLayer_95 : decode cX0_addLayer 95 = .ok (.aload_n 0, 1) := by decide +kernel
theorem dX0_addLayer_96 : decode cX0_addLayer 96 = .ok (.getfield 50, 3) := by decide +kernel
theorem dX0_addLayer_99 : decode cX0_addLayer 99 = .ok (.aload_n 0, 1) := by decide +kernel
theorem dX0_addLayer_100 : decode cX0_addLayer 100 = .ok (.getfield 54, 3) := by decide +kernel
theorem dX0_addLayer_103 : decode cX0_addLayer 103 = .ok (.iastore, 1) := by decide +kernel
theorem dX0_addLayer_104 : decode cX0_addLayer 104 = .ok (.aload_n 0, 1) := by decide +kernel
theorem dX0_addLayer_105 : decode cX0_addLayer 105 = .ok (.getfield 31, 3) := by decide +kernel
theorem dX0_addLayer_108 : decode cX0_addLayer 108 = .ok (.aload_n 0, 1) := by decide +kernel
theorem dX0_addLayer_109 : decode cX0_addLayer 109 = .ok (.getfield 54, 3) := by decide +kernel
theorem dX0_addLayer_112 : decode cX0_addLayer 112 = .ok (.aload_n 0, 1) := by decide +kernel
theorem dX0_addLayer_113 : decode cX0_addLayer 113 = .ok (.getfield 50, 3) := by decide +kernel
theorem dX0_addLayer_116 : decode cX0_addLayer 116 = .ok (.iastore, 1) := by decide +kernel
theorem dX0_addLayer_117 : decode cX0_addLayer 117 = .ok (.aload_n 0, 1) := by decide +kernel
theorem dX0_addLayer_118 : decode cX0_addLayer 118 = .ok (.dup, 1) := by decide +kernel
theorem dX0_addLayer_119 : decode cX0_addLayer 119 = .ok (.getfield 54, 3) := by decide +kernel
theorem dX0_addLayer_122 : decode cX0_addLayer 122 = .ok (.iconst 1, 1) := by decide +kernel
theorem dX0_addLayer_123 : decode cX0_addLayer 123 = .ok (.iadd, 1) := by decide +kernel
theorem dX0_addLayer_124 : decode cX0_addLayer 124 = .ok (.putfield 54, 3) := by decide +kernel
theorem dX0_addLayer_127 : decode cX0_addLayer 127 = .ok (.aload_n 0, 1) := by decide +kernel
theorem dX0_addLayer_128 : decode cX0_addLayer 128 = .ok (.iconst 0, 1) := by decide +kernel
theorem dX0_addLayer_129 : decode cX0_addLayer 129 = .ok (.putfield 57, 3) := by decide +kernel
theorem dX0_addLayer_132 : decode cX0_addLayer 132 = .ok (.goto 18, 3) := by decide +kernel
theorem dX0_addLayer_135 : decode cX0_addLayer 135 = .ok (.iload_n 1, 1) := by decide +kernel
theorem dX0_addLayer_136 : decode cX0_addLayer 136 = .ok (.iconst 1, 1) := by decide +kernel
theorem dX0_addLayer_137 : decode cX0_addLayer 137 = .ok (.if_icmp .eq 8, 3) := by decide +kernel
theorem dX0_addLayer_140 : decode cX0_addLayer 140 = .ok (.iload_n 1, 1) := by decide +kernel
theorem dX0_addLayer_141 : decode cX0_addLayer 141 = .ok (.iconst 2, 1) := by decide +kernel
theorem dX0_addLayer_142 : decode cX0_addLayer 142 = .ok (.if_icmp .ne 8, 3) := by decide +kernel
theorem dX0_addLayer_145 : decode cX0_addLayer 145 = .ok (.aload_n 0, 1) := by decide +kernel
theorem dX0_addLayer_146 : decode cX0_addLayer 146 = .ok (.iconst 1, 1) := by decide +kernel
theorem dX0_addLayer_147 : decode cX0_addLayer 147 = .ok (.putfield 57, 3) := by decide +kernel
theorem dX0_addLayer_150 : decode cX0_addLayer 150 = .ok (.aload_n 0, 1) := by decide +kernel
theorem dX0_addLayer_151 : decode cX0_addLayer 151 = .ok (.dup, 1) := by decide +kernel
theorem dX0_addLayer_152 : decode cX0_addLayer 152 = .ok (.getfield 50, 3) := by decide +kernel
theorem dX0_addLayer_155 : decode cX0_addLayer 155 = .ok (.iconst 1, 1) := by decide +kernel
theorem dX0_addLayer_156 : decode cX0_addLayer 156 = .ok (.iadd, 1) := by decide +kernel
theorem dX0_addLayer_157 : decode cX0_addLayer 157 = .ok (.putfield 50, 3) := by decide +kernel
theorem dX0_addLayer_160 : decode cX0_addLayer 160 = .ok (.return_, 1) := by decide +kernel
set_option maxRecDepth 20000 in
theorem ggX0_endLayers_X2_addLast : GoodIn wsX0_endLayers wsX2_addLast := goodIn_r _ [11, 12, 13, 14, 15, 16, 17, 18, 19, 20, 21, 34, 35, 36, 37, 38] (by decide +kernel) (by decide +kernel)
set_option maxRecDepth 20000 in
theorem gX0_endLayers_X2_addLast : GoodIn wsX0_endLayers (wsV RX0 74 RX2 yX2_addLast wsX2_addLast) := goodIn_app (goodIn_of _ (by decide +kernel)) ggX0_endLayers_X2_addLast
theorem dX0_endLayers_0 : decode cX0_endLayers 0 = .ok (.aload_n 0, 1) := by decide +kernel
theorem dX0_endLayers_1 : decode cX0_endLayers 1 = .ok (.getfield 54, 3) := by decide +kernel
theorem dX0_endLayers_4 : decode cX0_endLayers 4 = .ok (.iconst 2, 1) := by decide +kernel
theorem dX0_endLayers_5 : decode cX0_endLayers 5 = .ok (.if_icmp .lt 10, 3) := by decide +kernel
theorem dX0_endLayers_8 : decode cX0_endLayers 8 = .ok (.aload_n 0, 1) := by decide +kernel
theorem dX0_endLayers_9 : decode cX0_endLayers 9 = .ok (.getfield 50, 3) := by decide +kernel
theorem dX0_endLayers_12 : decode cX0_endLayers 12 = .ok (.ifCond .ne 5, 3) := by decide +kernel
theorem dX0_endLayers_15 : decode cX0_endLayers 15 = .ok (.iconst 0, 1) := by decide +kernel
theorem dX0_endLayers_16 : decode cX0_endLayers 16 = .ok (.ireturn, 1) := by decide +kernel
theorem dX0_endLayers_17 : decode cX0_endLayers 17 = .ok (.aload_n 0, 1) := by decide +kernel
theorem dX0_endLayers_18 : decode cX0_endLayers 18 = .ok (.getfield 9, 3) := by decide +kernel
theorem dX0_endLayers_21 : decode cX0_endLayers 21 = .ok (.aload_n 0, 1) := by decide +kernel
theorem dX0_endLayers_22 : decode cX0_endLayers 22 = .ok (.getfield 50, 3) := by decide +kernel
theorem dX0_endLayers_25 : decode cX0_endLayers 25 = .ok (.iconst 1, 1) := by decide +kernel
theorem dX0_endLayers_26 : decode cX0_endLayers 26 = .ok (.isub, 1) := by decide +kernel
theorem dX0_endLayers_27 : decode cX0_endLayers 27 = .ok (.iaload, 1) := by decide +kernel
theorem dX0_endLayers_28 : decode cX0_endLayers 28 = .ok (.istore_n 1, 1) := by decide +kernel
theorem dX0_endLayers_29 : decode cX0_endLayers 29 = .ok (.iload_n 1, 1) := by decide +kernel
theorem dX0_endLayers_30 : decode cX0_endLayers 30 = .ok (.ifCond .eq 10, 3) := by decide +kernel
theorem dX0_endLayers_33 : decode cX0_endLayers 33 = .ok (.iload_n 1, 1) := by decide +kernel
theorem dX0_endLayers_34 : decode cX0_endLayers 34 = .ok (.iconst 3, 1) := by decide +kernel
theorem dX0_endLayers_35 : decode cX0_endLayers 35 = .ok (.if_icmp .eq 5, 3) := by decide +kernel
theorem dX0_endLayers_38 : decode cX0_endLayers 38 = .ok (.iconst 0, 1) := by decide +kernel
theorem dX0_endLayers_39 : decode cX0_endLayers 39 = .ok (.ireturn, 1) := by decide +kernel
theorem dX0_endLayers_40 : decode cX0_endLayers 40 = .ok (.aload_n 0, 1) := by decide +kernel
theorem dX0_endLayers_41 : decode cX0_endLayers 41 = .ok (.getfield 37, 3) := by decide +kernel
theorem dX0_endLayers_44 : decode cX0_endLayers 44 = .ok (.getfield 71, 3) := by decide +kernel
theorem dX0_endLayers_47 : decode cX0_endLayers 47 = .ok (.getfield 64, 3) := by decide +kernel
theorem dX0_endLayers_50 : decode cX0_endLayers 50 = .ok (.ifCond .ne 16, 3) := by decide +kernel
theorem dX0_endLayers_53 : decode cX0_endLayers 53 = .ok (.aload_n 0, 1) := by decide +kernel
theorem dX0_endLayers_54 : decode cX0_endLayers 54 = .ok (.getfield 37, 3) := by decide +kernel
theorem dX0_endLayers_57 : decode cX0_endLayers 57 = .ok (.aload_n 0, 1) := by decide +kernel
theorem dX0_endLayers_58 : decode cX0_endLayers 58 = .ok (.getfield 54, 3) := by decide +kernel
theorem dX0_endLayers_61 : decode cX0_endLayers 61 = .ok (.iconst 1, 1) := by decide +kernel
theorem dX0_endLayers_62 : decode cX0_endLayers 62 = .ok (.isub, 1) := by decide +kernel
theorem dX0_endLayers_63 : decode cX0_endLayers 63 = .ok (.invokevirtual 74, 3) := by decide +kernel
theorem dX0_endLayers_66 : decode cX0_endLayers 66 = .ok (.iconst 1, 1) := by decide +kernel
theorem dX0_endLayers_67 : decode cX0_endLayers 67 = .ok (.ireturn, 1) := by decide +kernel
set_option maxRecDepth 20000 in
theorem ggX0_canTell_X2_countTold : GoodIn wsX0_canTell wsX2_countTold := goodIn_r _ [8, 9, 10, 11, 12, 13, 14, 15, 31, 32, 28, 29, 30] (by decide +kernel) (by decide +kernel)
set_option maxRecDepth 20000 in
theorem gX0_canTell_X2_countTold : GoodIn wsX0_canTell (wsV RX0 67 RX2 yX2_countTold wsX2_countTold) := goodIn_app (goodIn_of _ (by decide +kernel)) ggX0_canTell_X2_countTold
theorem dX0_canTell_0 : decode cX0_canTell 0 = .ok (.iload_n 1, 1) := by decide +kernel
theorem dX0_canTell_1 : decode cX0_canTell 1 = .ok (.iconst 5, 1) := by decide +kernel
theorem dX0_canTell_2 : decode cX0_canTell 2 = .ok (.if_icmp .ne 31, 3) := by decide +kernel
theorem dX0_canTell_5 : decode cX0_canTell 5 = .ok (.aload_n 0, 1) := by decide +kernel
theorem dX0_canTell_6 : decode cX0_canTell 6 = .ok (.getfield 46, 3) := by decide +kernel
theorem dX0_canTell_9 : decode cX0_canTell 9 = .ok (.getfield 64, 3) := by decide +kernel
theorem dX0_canTell_12 : decode cX0_canTell 12 = .ok (.ifCond .ne 19, 3) := by decide +kernel
theorem dX0_canTell_15 : decode cX0_canTell 15 = .ok (.aload_n 0, 1) := by decide +kernel
theorem dX0_canTell_16 : decode cX0_canTell 16 = .ok (.getfield 37, 3) := by decide +kernel
theorem dX0_canTell_19 : decode cX0_canTell 19 = .ok (.invokevirtual 67, 3) := by decide +kernel
theorem dX0_canTell_22 : decode cX0_canTell 22 = .ok (.bipush 20, 2) := by decide +kernel
theorem dX0_canTell_24 : decode cX0_canTell 24 = .ok (.if_icmp .ge 7, 3) := by decide +kernel
theorem dX0_canTell_27 : decode cX0_canTell 27 = .ok (.iconst 1, 1) := by decide +kernel
theorem dX0_canTell_28 : decode cX0_canTell 28 = .ok (.goto 4, 3) := by decide +kernel
theorem dX0_canTell_31 : decode cX0_canTell 31 = .ok (.iconst 0, 1) := by decide +kernel
theorem dX0_canTell_32 : decode cX0_canTell 32 = .ok (.ireturn, 1) := by decide +kernel
theorem dX0_canTell_33 : decode cX0_canTell 33 = .ok (.aload_n 0, 1) := by decide +kernel
theorem dX0_canTell_34 : decode cX0_canTell 34 = .ok (.getfield 46, 3) := by decide +kernel
theorem dX0_canTell_37 : decode cX0_canTell 37 = .ok (.getfield 64, 3) := by decide +kernel
theorem dX0_canTell_40 : decode cX0_canTell 40 = .ok (.bipush 40, 2) := by decide +kernel
theorem dX0_canTell_42 : decode cX0_canTell 42 = .ok (.if_icmp .ge 7, 3) := by decide +kernel
theorem dX0_canTell_45 : decode cX0_canTell 45 = .ok (.iconst 1, 1) := by decide +kernel
theorem dX0_canTell_46 : decode cX0_canTell 46 = .ok (.goto 4, 3) := by decide +kernel
theorem dX0_canTell_49 : decode cX0_canTell 49 = .ok (.iconst 0, 1) := by decide +kernel
theorem dX0_canTell_50 : decode cX0_canTell 50 = .ok (.ireturn, 1) := by decide +kernel
set_option maxRecDepth 20000 in
theorem ggX0_tell_X2_tell : GoodIn wsX0_tell wsX2_tell := goodIn_r _ [9, 10, 11, 12, 13, 14, 15, 16, 17, 18, 19, 20, 21, 22, 23, 8, 24, 25, 26, 27, 28, 29, 30, 31, 32, 33, 34, 35, 36, 37, 38, 53, 54, 55, 56, 57] (by decide +kernel) (by decide +kernel)
set_option maxRecDepth 20000 in
theorem gX0_tell_X2_tell : GoodIn wsX0_tell (wsV RX0 77 RX2 yX2_tell wsX2_tell) := goodIn_app (goodIn_of _ (by decide +kernel)) ggX0_tell_X2_tell
set_option maxRecDepth 20000 in
theorem ggX0_tell_X3_find : GoodIn wsX0_tell wsX3_find := goodIn_r _ [17, 18, 19, 20, 55, 56, 57] (by decide +kernel) (by decide +kernel)
set_option maxRecDepth 20000 in
theorem gX0_tell_X3_find : GoodIn wsX0_tell (wsV RX0 81 RX3 yX3_find wsX3_find) := goodIn_app (goodIn_of _ (by decide +kernel)) ggX0_tell_X3_find
set_option maxRecDepth 20000 in
theorem ggX0_tell_X3_insert : GoodIn wsX0_tell wsX3_insert := goodIn_r _ [38, 18, 19, 20, 55, 56, 57] (by decide +kernel) (by decide +kernel)
set_option maxRecDepth 20000 in
theorem gX0_tell_X3_insert : GoodIn wsX0_tell (wsV RX0 85 RX3 yX3_insert wsX3_insert) := goodIn_app (goodIn_of _ (by decide +kernel)) ggX0_tell_X3_insert
theorem dX0_tell_0 : decode cX0_tell 0 = .ok (.iload_n 1, 1) := by decide +kernel
theorem dX0_tell_1 : decode cX0_tell 1 = .ok (.iconst 5, 1) := by decide +kernel
theorem dX0_tell_2 : decode cX0_tell 2 = .ok (.if_icmp .ne 13, 3) := by decide +kernel
theorem dX0_tell_5 : decode cX0_tell 5 = .ok (.aload_n 0, 1) := by decide +kernel
theorem dX0_tell_6 : decode cX0_tell 6 = .ok (.getfield 37, 3) := by decide +kernel
theorem dX0_tell_9 : decode cX0_tell 9 = .ok (.iload_n 2, 1) := by decide +kernel
theorem dX0_tell_10 : decode cX0_tell 10 = .ok (.iload_n 3, 1) := by decide +kernel
theorem dX0_tell_11 : decode cX0_tell 11 = .ok (.invokevirtual 77, 3) := by decide +kernel
theorem dX0_tell_14 : decode cX0_tell 14 = .ok (.ireturn, 1) := by decide +kernel
theorem dX0_tell_15 : decode cX0_tell 15 = .ok (.aload_n 0, 1) := by decide +kernel
theorem dX0_tell_16 : decode cX0_tell 16 = .ok (.getfield 37, 3) := by decide +kernel
theorem dX0_tell_19 : decode cX0_tell 19 = .ok (.getfield 71, 3) := by decide +kernel
theorem dX0_tell_22 : decode cX0_tell 22 = .ok (.iload_n 2, 1) := by decide +kernel
theorem dX0_tell_23 : decode cX0_tell 23 = .ok (.iload_n 3, 1) := by decide +kernel
theorem dX0_tell_24 : decode cX0_tell 24 = .ok (.invokevirtual 81, 3) := by decide +kernel
theorem dX0_tell_27 : decode cX0_tell 27 = .ok (.iconst (-1), 1) := by decide +kernel
theorem dX0_tell_28 : decode cX0_tell 28 = .ok (.if_icmp .eq 7, 3) := by decide +kernel
theorem dX0_tell_31 : decode cX0_tell 31 = .ok (.iconst 1, 1) := by decide +kernel
theorem dX0_tell_32 : decode cX0_tell 32 = .ok (.goto 4, 3) := by decide +kernel
theorem dX0_tell_35 : decode cX0_tell 35 = .ok (.iconst 0, 1) := by decide +kernel
theorem dX0_tell_36 : decode cX0_tell 36 = .ok (.istore 4, 2) := by decide +kernel
theorem dX0_tell_38 : decode cX0_tell 38 = .ok (.iload 4, 2) := by decide +kernel
theorem dX0_tell_40 : decode cX0_tell 40 = .ok (.ifCond .eq 39, 3) := by decide +kernel
theorem dX0_tell_43 : decode cX0_tell 43 = .ok (.aload_n 0, 1) := by decide +kernel
theorem dX0_tell_44 : decode cX0_tell 44 = .ok (.getfield 46, 3) := by decide +kernel
theorem dX0_tell_47 : decode cX0_tell 47 = .ok (.iload_n 2, 1) := by decide +kernel
theorem dX0_tell_48 : decode cX0_tell 48 = .ok (.iload_n 3, 1) := by decide +kernel
theorem dX0_tell_49 : decode cX0_tell 49 = .ok (.invokevirtual 81, 3) := by decide +kernel
theorem dX0_tell_52 : decode cX0_tell 52 = .ok (.iconst (-1), 1) := by decide +kernel
theorem dX0_tell_53 : decode cX0_tell 53 = .ok (.if_icmp .ne 26, 3) := by decide +kernel
theorem dX0_tell_56 : decode cX0_tell 56 = .ok (.aload_n 0, 1) := by decide +kernel
theorem dX0_tell_57 : decode cX0_tell 57 = .ok (.getfield 46, 3) := by decide +kernel
theorem dX0_tell_60 : decode cX0_tell 60 = .ok (.aload_n 0, 1) := by decide +kernel
theorem dX0_tell_61 : decode cX0_tell 61 = .ok (.getfield 46, 3) := by decide +kernel
theorem dX0_tell_64 : decode cX0_tell 64 = .ok (.getfield 64, 3) := by decide +kernel
theorem dX0_tell_67 : decode cX0_tell 67 = .ok (.iload_n 2, 1) := by decide +kernel
theorem dX0_tell_68 : decode cX0_tell 68 = .ok (.iload_n 3, 1) := by decide +kernel
theorem dX0_tell_69 : decode cX0_tell 69 = .ok (.invokevirtual 85, 3) := by decide +kernel
theorem dX0_tell_72 : decode cX0_tell 72 = .ok (.ifCond .eq 7, 3) := by decide +kernel
theorem dX0_tell_75 : decode cX0_tell 75 = .ok (.iconst 1, 1) := by decide +kernel
theorem dX0_tell_76 : decode cX0_tell 76 = .ok (.goto 4, 3) := by decide +kernel
theorem dX0_tell_79 : decode cX0_tell 79 = .ok (.iconst 0, 1) := by decide +kernel
theorem dX0_tell_80 : decode cX0_tell 80 = .ok (.ireturn, 1) := by decide +kernel
theorem dX0_findCopper_0 : decode cX0_findCopper 0 = .ok (.iconst 0, 1) := by decide +kernel
theorem dX0_findCopper_1 : decode cX0_findCopper 1 = .ok (.istore_n 3, 1) := by decide +kernel
theorem dX0_findCopper_2 : decode cX0_findCopper 2 = .ok (.iload_n 3, 1) := by decide +kernel
theorem dX0_findCopper_3 : decode cX0_findCopper 3 = .ok (.aload_n 0, 1) := by decide +kernel
theorem dX0_findCopper_4 : decode cX0_findCopper 4 = .ok (.getfield 54, 3) := by decide +kernel
theorem dX0_findCopper_7 : decode cX0_findCopper 7 = .ok (.if_icmp .ge 27, 3) := by decide +kernel
theorem dX0_findCopper_10 : decode cX0_findCopper 10 = .ok (.aload_n 0, 1) := by decide +kernel
theorem dX0_findCopper_11 : decode cX0_findCopper 11 = .ok (.getfield 15, 3) := by decide +kernel
theorem dX0_findCopper_14 : decode cX0_findCopper 14 = .ok (.aload_n 0, 1) := by decide +kernel
theorem dX0_findCopper_15 : decode cX0_findCopper 15 = .ok (.getfield 31, 3) := by decide +kernel
theorem dX0_findCopper_18 : decode cX0_findCopper 18 = .ok (.iload_n 3, 1) := by decide +kernel
theorem dX0_findCopper_19 : decode cX0_findCopper 19 = .ok (.iaload, 1) := by decide +kernel
theorem dX0_findCopper_20 : decode cX0_findCopper 20 = .ok (.laload, 1) := by decide +kernel
theorem dX0_findCopper_21 : decode cX0_findCopper 21 = .ok (.lload_n 1, 1) := by decide +kernel
theorem dX0_findCopper_22 : decode cX0_findCopper 22 = .ok (.lcmp, 1) := by decide +kernel
theorem dX0_findCopper_23 : decode cX0_findCopper 23 = .ok (.ifCond .ne 5, 3) := by decide +kernel
theorem dX0_findCopper_26 : decode cX0_findCopper 26 = .ok (.iload_n 3, 1) := by decide +kernel
theorem dX0_findCopper_27 : decode cX0_findCopper 27 = .ok (.ireturn, 1) := by decide +kernel
theorem dX0_findCopper_28 : decode cX0_findCopper 28 = .ok (.iinc 3 1, 3) := by decide +kernel
theorem dX0_findCopper_31 : decode cX0_findCopper 31 = .ok (.goto (-29), 3) := by decide +kernel
theorem dX0_findCopper_34 : decode cX0_findCopper 34 = .ok (.iconst (-1), 1) := by decide +kernel
theorem dX0_findCopper_35 : decode cX0_findCopper 35 = .ok (.ireturn, 1) := by decide +kernel
theorem dX0_changeShare_0 : decode cX0_changeShare 0 = .ok (.aload_n 0, 1) := by decide +kernel
theorem dX0_changeShare_1 : decode cX0_changeShare 1 = .ok (.getfield 31, 3) := by decide +kernel
theorem dX0_changeShare_4 : decode cX0_changeShare 4 = .ok (.iload_n 1, 1) := by decide +kernel
theorem dX0_changeShare_5 : decode cX0_changeShare 5 = .ok (.iaload, 1) := by decide +kernel
theorem dX0_changeShare_6 : decode cX0_changeShare 6 = .ok (.istore_n 3, 1) := by decide +kernel
theorem dX0_changeShare_7 : decode cX0_changeShare 7 = .ok (.aload_n 0, 1) := by decide +kernel
theorem dX0_changeShare_8 : decode cX0_changeShare 8 = .ok (.getfield 25, 3) := by decide +kernel
theorem dX0_changeShare_11 : decode cX0_changeShare 11 = .ok (.iload_n 3, 1) := by decide +kernel
theorem dX0_changeShare_12 : decode cX0_changeShare 12 = .ok (.iaload, 1) := by decide +kernel
theorem dX0_changeShare_13 : decode cX0_changeShare 13 = .ok (.iload_n 2, 1) := by decide +kernel
theorem dX0_changeShare_14 : decode cX0_changeShare 14 = .ok (.if_icmp .eq 7, 3) := by decide +kernel
theorem dX0_changeShare_17 : decode cX0_changeShare 17 = .ok (.iconst 1, 1) := by decide +kernel
theorem dX0_changeShare_18 : decode cX0_changeShare 18 = .ok (.goto 4, 3) := by decide +kernel
theorem dX0_changeShare_21 : decode cX0_changeShare 21 = .ok (.iconst 0, 1) := by decide +kernel
theorem dX0_changeShare_22 : decode cX0_changeShare 22 = .ok (.istore 4, 2) := by decide +kernel
theorem dX0_changeShare_24 : decode cX0_changeShare 24 = .ok (.aload_n 0, 1) := by decide +kernel
theorem dX0_changeShare_25 : decode cX0_changeShare 25 = .ok (.getfield 25, 3) := by decide +kernel
theorem dX0_changeShare_28 : decode cX0_changeShare 28 = .ok (.iload_n 3, 1) := by decide +kernel
theorem dX0_changeShare_29 : decode cX0_changeShare 29 = .ok (.iload_n 2, 1) := by decide +kernel
theorem dX0_changeShare_30 : decode cX0_changeShare 30 = .ok (.iastore, 1) := by decide +kernel
theorem dX0_changeShare_31 : decode cX0_changeShare 31 = .ok (.iload 4, 2) := by decide +kernel
theorem dX0_changeShare_33 : decode cX0_changeShare 33 = .ok (.ireturn, 1) := by decide +kernel
theorem dX0_endInThousandths_0 : decode cX0_endInThousandths 0 = .ok (.iload_n 2, 1) := by decide +kernel
theorem dX0_endInThousandths_1 : decode cX0_endInThousandths 1 = .ok (.ifCond .ne 16, 3) := by decide +kernel
theorem dX0_endInThousandths_4 : decode cX0_endInThousandths 4 = .ok (.sipush 1000, 3) := by decide +kernel
theorem dX0_endInThousandths_7 : decode cX0_endInThousandths 7 = .ok (.aload_n 0, 1) := by decide +kernel
theorem dX0_endInThousandths_8 : decode cX0_endInThousandths 8 = .ok (.getfield 22, 3) := by decide +kernel
theorem dX0_endInThousandths_11 : decode cX0_endInThousandths 11 = .ok (.iload_n 1, 1) := by decide +kernel
theorem dX0_endInThousandths_12 : decode cX0_endInThousandths 12 = .ok (.iaload, 1) := by decide +kernel
theorem dX0_endInThousandths_13 : decode cX0_endInThousandths 13 = .ok (.isub, 1) := by decide +kernel
theorem dX0_endInThousandths_14 : decode cX0_endInThousandths 14 = .ok (.goto 13, 3) := by decide +kernel
theorem dX0_endInThousandths_17 : decode cX0_endInThousandths 17 = .ok (.sipush 1000, 3) := by decide +kernel
theorem dX0_endInThousandths_20 : decode cX0_endInThousandths 20 = .ok (.aload_n 0, 1) := by decide +kernel
theorem dX0_endInThousandths_21 : decode cX0_endInThousandths 21 = .ok (.getfield 22, 3) := by decide +kernel
theorem dX0_endInThousandths_24 : decode cX0_endInThousandths 24 = .ok (.iload_n 1, 1) := by decide +kernel
theorem dX0_endInThousandths_25 : decode cX0_endInThousandths 25 = .ok (.iaload, 1) := by decide +kernel
theorem dX0_endInThousandths_26 : decode cX0_endInThousandths 26 = .ok (.iadd, 1) := by decide +kernel
theorem dX0_endInThousandths_27 : decode cX0_endInThousandths 27 = .ok (.istore_n 3, 1) := by decide +kernel
theorem dX0_endInThousandths_28 : decode cX0_endInThousandths 28 = .ok (.aload_n 0, 1) := by decide +kernel
theorem dX0_endInThousandths_29 : decode cX0_endInThousandths 29 = .ok (.getfield 19, 3) := by decide +kernel
theorem dX0_endInThousandths_32 : decode cX0_endInThousandths 32 = .ok (.iload_n 1, 1) := by decide +kernel
theorem dX0_endInThousandths_33 : decode cX0_endInThousandths 33 = .ok (.iaload, 1) := by decide +kernel
theorem dX0_endInThousandths_34 : decode cX0_endInThousandths 34 = .ok (.i2l, 1) := by decide +kernel
theorem dX0_endInThousandths_35 : decode cX0_endInThousandths 35 = .ok (.iload_n 3, 1) := by decide +kernel
theorem dX0_endInThousandths_36 : decode cX0_endInThousandths 36 = .ok (.i2l, 1) := by decide +kernel
theorem dX0_endInThousandths_37 : decode cX0_endInThousandths 37 = .ok (.lmul, 1) := by decide +kernel
theorem dX0_endInThousandths_38 : decode cX0_endInThousandths 38 = .ok (.lreturn, 1) := by decide +kernel
set_option maxRecDepth 20000 in
theorem ggX0_sumInMillionths_X0_endInThousandths : GoodIn wsX0_sumInMillionths wsX0_endInThousandths := goodIn_r _ [7, 8, 9, 10, 11, 12, 13, 14, 15, 16, 17, 18, 19, 20, 21] (by decide +kernel) (by decide +kernel)
set_option maxRecDepth 20000 in
theorem gX0_sumInMillionths_X0_endInThousandths : GoodIn wsX0_sumInMillionths (wsV RX0 89 RX0 yX0_endInThousandths wsX0_endInThousandths) := goodIn_app (goodIn_of _ (by decide +kernel)) ggX0_sumInMillionths_X0_endInThousandths
theorem dX0_sumInMillionths_0 : decode cX0_sumInMillionths 0 = .ok (.lconst 0, 1) := by decide +kernel
theorem dX0_sumInMillionths_1 : decode cX0_sumInMillionths 1 = .ok (.lstore_n 2, 1) := by decide +kernel
theorem dX0_sumInMillionths_2 : decode cX0_sumInMillionths 2 = .ok (.iconst 0, 1) := by decide +kernel
theorem dX0_sumInMillionths_3 : decode cX0_sumInMillionths 3 = .ok (.istore 4, 2) := by decide +kernel
theorem dX0_sumInMillionths_5 : decode cX0_sumInMillionths 5 = .ok (.iload 4, 2) := by decide +kernel
theorem dX0_sumInMillionths_7 : decode cX0_sumInMillionths 7 = .ok (.aload_n 0, 1) := by decide +kernel
theorem dX0_sumInMillionths_8 : decode cX0_sumInMillionths 8 = .ok (.getfield 50, 3) := by decide +kernel
theorem dX0_sumInMillionths_11 : decode cX0_sumInMillionths 11 = .ok (.if_icmp .ge 28, 3) := by decide +kernel
theorem dX0_sumInMillionths_14 : decode cX0_sumInMillionths 14 = .ok (.lload_n 2, 1) := by decide +kernel
theorem dX0_sumInMillionths_15 : decode cX0_sumInMillionths 15 = .ok (.aload_n 0, 1) := by decide +kernel
theorem dX0_sumInMillionths_16 : decode cX0_sumInMillionths 16 = .ok (.iload 4, 2) := by decide +kernel
theorem dX0_sumInMillionths_18 : decode cX0_sumInMillionths 18 = .ok (.iload_n 1, 1) := by decide +kernel
theorem dX0_sumInMillionths_19 : decode cX0_sumInMillionths 19 = .ok (.invokevirtual 89, 3) := by decide +kernel
theorem dX0_sumInMillionths_22 : decode cX0_sumInMillionths 22 = .ok (.aload_n 0, 1) := by decide +kernel
theorem dX0_sumInMillionths_23 : decode cX0_sumInMillionths 23 = .ok (.getfield 25, 3) := by decide +kernel
theorem dX0_sumInMillionths_26 : decode cX0_sumInMillionths 26 = .ok (.iload 4, 2) := by decide +kernel
theorem dX0_sumInMillionths_28 : decode cX0_sumInMillionths 28 = .ok (.iaload, 1) := by decide +kernel
theorem dX0_sumInMillionths_29 : decode cX0_sumInMillionths 29 = .ok (.i2l, 1) := by decide +kernel
theorem dX0_sumInMillionths_30 : decode cX0_sumInMillionths 30 = .ok (.lmul, 1) := by decide +kernel
theorem dX0_sumInMillionths_31 : decode cX0_sumInMillionths 31 = .ok (.ladd, 1) := by decide +kernel
theorem dX0_sumInMillionths_32 : decode cX0_sumInMillionths 32 = .ok (.lstore_n 2, 1) := by decide +kernel
theorem dX0_sumInMillionths_33 : decode cX0_sumInMillionths 33 = .ok (.iinc 4 1, 3) := by decide +kernel
theorem dX0_sumInMillionths_36 : decode cX0_sumInMillionths 36 = .ok (.goto (-31), 3) := by decide +kernel
theorem dX0_sumInMillionths_39 : decode cX0_sumInMillionths 39 = .ok (.lload_n 2, 1) := by decide +kernel
theorem dX0_sumInMillionths_40 : decode cX0_sumInMillionths 40 = .ok (.lreturn, 1) := by decide +kernel
set_option maxRecDepth 20000 in
theorem ggX0_findSkew_X0_differ : GoodIn wsX0_findSkew wsX0_differ := goodIn_r _ [6, 7, 8, 9, 10, 11, 12, 13, 14, 15, 16, 17, 18, 19, 20, 21, 22, 23] (by decide +kernel) (by decide +kernel)
set_option maxRecDepth 20000 in
theorem gX0_findSkew_X0_differ : GoodIn wsX0_findSkew (wsV RX0 93 RX0 yX0_differ wsX0_differ) := goodIn_app (goodIn_of _ (by decide +kernel)) ggX0_findSkew_X0_differ
theorem dX0_findSkew_0 : decode cX0_findSkew 0 = .ok (.iconst 0, 1) := by decide +kernel
theorem dX0_findSkew_1 : decode cX0_findSkew 1 = .ok (.istore_n 2, 1) := by decide +kernel
theorem dX0_findSkew_2 : decode cX0_findSkew 2 = .ok (.iconst 0, 1) := by decide +kernel
theorem dX0_findSkew_3 : decode cX0_findSkew 3 = .ok (.istore_n 3, 1) := by decide +kernel
theorem dX0_findSkew_4 : decode cX0_findSkew 4 = .ok (.iload_n 3, 1) := by decide +kernel
theorem dX0_findSkew_5 : decode cX0_findSkew 5 = .ok (.aload_n 0, 1) := by decide +kernel
theorem dX0_findSkew_6 : decode cX0_findSkew 6 = .ok (.getfield 50, 3) := by decide +kernel
theorem dX0_findSkew_9 : decode cX0_findSkew 9 = .ok (.if_icmp .ge 35, 3) := by decide +kernel
theorem dX0_findSkew_12 : decode cX0_findSkew 12 = .ok (.aload_n 0, 1) := by decide +kernel
theorem dX0_findSkew_13 : decode cX0_findSkew 13 = .ok (.iload_n 3, 1) := by decide +kernel
theorem dX0_findSkew_14 : decode cX0_findSkew 14 = .ok (.aload_n 0, 1) := by decide +kernel
theorem dX0_findSkew_15 : decode cX0_findSkew 15 = .ok (.getfield 50, 3) := by decide +kernel
theorem dX0_findSkew_18 : decode cX0_findSkew 18 = .ok (.iconst 1, 1) := by decide +kernel
theorem dX0_findSkew_19 : decode cX0_findSkew 19 = .ok (.isub, 1) := by decide +kernel
theorem dX0_findSkew_20 : decode cX0_findSkew 20 = .ok (.iload_n 3, 1) := by decide +kernel
theorem dX0_findSkew_21 : decode cX0_findSkew 21 = .ok (.isub, 1) := by decide +kernel
theorem dX0_findSkew_22 : decode cX0_findSkew 22 = .ok (.invokevirtual 93, 3) := by decide +kernel
theorem dX0_findSkew_25 : decode cX0_findSkew 25 = .ok (.ifCond .eq 13, 3) := by decide +kernel
theorem dX0_findSkew_28 : decode cX0_findSkew 28 = .ok (.iload_n 2, 1) := by decide +kernel
theorem dX0_findSkew_29 : decode cX0_findSkew 29 = .ok (.iload_n 1, 1) := by decide +kernel
theorem dX0_findSkew_30 : decode cX0_findSkew 30 = .ok (.if_icmp .ne 5, 3) := by decide +kernel
theorem dX0_findSkew_33 : decode cX0_findSkew 33 = .ok (.iload_n 3, 1) := by decide +kernel
theorem dX0_findSkew_34 : decode cX0_findSkew 34 = .ok (.ireturn, 1) := by decide +kernel
theorem dX0_findSkew_35 : decode cX0_findSkew 35 = .ok (.iinc 2 1, 3) := by decide +kernel
theorem dX0_findSkew_38 : decode cX0_findSkew 38 = .ok (.iinc 3 1, 3) := by decide +kernel
theorem dX0_findSkew_41 : decode cX0_findSkew 41 = .ok (.goto (-37), 3) := by decide +kernel
theorem dX0_findSkew_44 : decode cX0_findSkew 44 = .ok (.iconst (-1), 1) := by decide +kernel
theorem dX0_findSkew_45 : decode cX0_findSkew 45 = .ok (.ireturn, 1) := by decide +kernel
theorem dX0_differ_0 : decode cX0_differ 0 = .ok (.aload_n 0, 1) := by decide +kernel
theorem dX0_differ_1 : decode cX0_differ 1 = .ok (.getfield 9, 3) := by decide +kernel
theorem dX0_differ_4 : decode cX0_differ 4 = .ok (.iload_n 1, 1) := by decide +kernel
theorem dX0_differ_5 : decode cX0_differ 5 = .ok (.iaload, 1) := by decide +kernel
theorem dX0_differ_6 : decode cX0_differ 6 = .ok (.aload_n 0, 1) := by decide +kernel
theorem dX0_differ_7 : decode cX0_differ 7 = .ok (.getfield 9, 3) := by decide +kernel
theorem dX0_differ_10 : decode cX0_differ 10 = .ok (.iload_n 2, 1) := by decide +kernel
theorem dX0_differ_11 : decode cX0_differ 11 = .ok (.iaload, 1) := by decide +kernel
theorem dX0_differ_12 : decode cX0_differ 12 = .ok (.if_icmp .ne 73, 3) := by decide +kernel
theorem dX0_differ_15 : decode cX0_differ 15 = .ok (.aload_n 0, 1) := by decide +kernel
theorem dX0_differ_16 : decode cX0_differ 16 = .ok (.getfield 9, 3) := by decide +kernel
theorem dX0_differ_19 : decode cX0_differ 19 = .ok (.iload_n 1, 1) := by decide +kernel
theorem dX0_differ_20 : decode cX0_differ 20 = .ok (.iaload, 1) := by decide +kernel
theorem dX0_differ_21 : decode cX0_differ 21 = .ok (.ifCond .eq 19, 3) := by decide +kernel
theorem dX0_differ_24 : decode cX0_differ 24 = .ok (.aload_n 0, 1) := by decide +kernel
theorem dX0_differ_25 : decode cX0_differ 25 = .ok (.getfield 15, 3) := by decide +kernel
theorem dX0_differ_28 : decode cX0_differ 28 = .ok (.iload_n 1, 1) := by decide +kernel
theorem dX0_differ_29 : decode cX0_differ 29 = .ok (.laload, 1) := by decide +kernel
theorem dX0_differ_30 : decode cX0_differ 30 = .ok (.aload_n 0, 1) := by decide +kernel
theorem dX0_differ_31 : decode cX0_differ 31 = .ok (.getfield 15, 3) := by decide +kernel
theorem dX0_differ_34 : decode cX0_differ 34 = .ok (.iload_n 2, 1) := by decide +kernel
theorem dX0_differ_35 : decode cX0_differ 35 = .ok (.laload, 1) := by decide +kernel
theorem dX0_differ_36 : decode cX0_differ 36 = .ok (.lcmp, 1) := by decide +kernel
theorem dX0_differ_37 : decode cX0_differ 37 = .ok (.ifCond .ne 48, 3) := by decide +kernel
theorem dX0_differ_40 : decode cX0_differ 40 = .ok (.aload_n 0, 1) := by decide +kernel
theorem dX0_differ_41 : decode cX0_differ 41 = .ok (.getfield 19, 3) := by decide +kernel
theorem dX0_differ_44 : decode cX0_differ 44 = .ok (.iload_n 1, 1) := by decide +kernel
theorem dX0_differ_45 : decode cX0_differ 45 = .ok (.iaload, 1) := by decide +kernel
theorem dX0_differ_46 : decode cX0_differ 46 = .ok (.aload_n 0, 1) := by decide +kernel
theorem dX0_differ_47 : decode cX0_differ 47 = .ok (.getfield 19, 3) := by decide +kernel
theorem dX0_differ_50 : decode cX0_differ 50 = .ok (.iload_n 2, 1) := by decide +kernel
theorem dX0_differ_51 : decode cX0_differ 51 = .ok (.iaload, 1) := by decide +kernel
theorem dX0_differ_52 : decode cX0_differ 52 = .ok (.if_icmp .ne 33, 3) := by decide +kernel
theorem dX0_differ_55 : decode cX0_differ 55 = .ok (.aload_n 0, 1) := by decide +kernel
theorem dX0_differ_56 : decode cX0_differ 56 = .ok (.getfield 22, 3) := by decide +kernel
theorem dX0_differ_59 : decode cX0_differ 59 = .ok (.iload_n 1, 1) := by decide +kernel
theorem dX0_differ_60 : decode cX0_differ 60 = .ok (.iaload, 1) := by decide +kernel
theorem dX0_differ_61 : decode cX0_differ 61 = .ok (.aload_n 0, 1) := by decide +kernel
theorem dX0_differ_62 : decode cX0_differ 62 = .ok (.getfield 22, 3) := by decide +kernel
theorem dX0_differ_65 : decode cX0_differ 65 = .ok (.iload_n 2, 1) := by decide +kernel
theorem dX0_differ_66 : decode cX0_differ 66 = .ok (.iaload, 1) := by decide +kernel
theorem dX0_differ_67 : decode cX0_differ 67 = .ok (.if_icmp .ne 18, 3) := by decide +kernel
theorem dX0_differ_70 : decode cX0_differ 70 = .ok (.aload_n 0, 1) := by decide +kernel
theorem dX0_differ_71 : decode cX0_differ 71 = .ok (.getfield 25, 3) := by decide +kernel
theorem dX0_differ_74 : decode cX0_differ 74 = .ok (.iload_n 1, 1) := by decide +kernel
theorem dX0_differ_75 : decode cX0_differ 75 = .ok (.iaload, 1) := by decide +kernel
theorem dX0_differ_76 : decode cX0_differ 76 = .ok (.aload_n 0, 1) := by decide +kernel
theorem dX0_differ_77 : decode cX0_differ 77 = .ok (.getfield 25, 3) := by decide +kernel
theorem dX0_differ_80 : decode cX0_differ 80 = .ok (.iload_n 2, 1) := by decide +kernel
theorem dX0_differ_81 : decode cX0_differ 81 = .ok (.iaload, 1) := by decide +kernel
theorem dX0_differ_82 : decode cX0_differ 82 = .ok (.if_icmp .eq 7, 3) := by decide +kernel
theorem dX0_differ_85 : decode cX0_differ 85 = .ok (.iconst 1, 1) := by decide +kernel
theorem dX0_differ_86 : decode cX0_differ 86 = .ok (.goto 4, 3) := by decide +kernel
theorem dX0_differ_89 : decode cX0_differ 89 = .ok (.iconst 0, 1) := by decide +kernel
theorem dX0_differ_90 : decode cX0_differ 90 = .ok (.ireturn, 1) := by decide +kernel
