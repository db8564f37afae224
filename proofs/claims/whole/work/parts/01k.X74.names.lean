theorem dX7_pressLine_225 : decode cX7_pressLine 225 = .ok (.ifCond .eq 9, 3) := by decide +kernel
theorem dX7_pressLine_228 : decode cX7_pressLine 228 = .ok (.aload_n 0, 1) := by decide +kernel
theorem dX7_pressLine_229 : decode cX7_pressLine 229 = .ok (.iload_n 2, 1) := by decide +kernel
theorem dX7_pressLine_230 : decode cX7_pressLine 230 = .ok (.iload_n 3, 1) := by decide +kernel
theorem dX7_pressLine_231 : decode cX7_pressLine 231 = .ok (.invokevirtual 165, 3) := by decide +kernel
theorem dX7_pressLine_234 : decode cX7_pressLine 234 = .ok (.return_, 1) := by decide +kernel
set_option maxRecDepth 20000 in
theorem ggX7_keepPress_X7_isBehind : GoodIn wsX7_keepPress wsX7_isBehind := goodIn_r _ [9, 4, 3, 10, 11, 12, 13, 14, 15, 16, 17, 18, 19, 20, 21, 22, 23, 24, 25, 26, 27, 28, 29, 30, 31, 32, 33, 34, 35, 36, 37, 38, 39, 40, 41, 42] (by decide +kernel) (by decide +kernel)
set_option maxRecDepth 20000 in
theorem gX7_keepPress_X7_isBehind : GoodIn wsX7_keepPress (wsV RX7 169 RX7 yX7_isBehind wsX7_isBehind) := goodIn_app (goodIn_of _ (by decide +kernel)) ggX7_keepPress_X7_isBehind
theorem dX7_keepPress_0 : decode cX7_keepPress 0 = .ok (.bipush 22, 2) := by decide +kernel
theorem dX7_keepPress_2 : decode cX7_keepPress 2 = .ok (.aload_n 0, 1) := by decide +kernel
theorem dX7_keepPress_3 : decode cX7_keepPress 3 = .ok (.getfield 134, 3) := by decide +kernel
theorem dX7_keepPress_6 : decode cX7_keepPress 6 = .ok (.imul, 1) := by decide +kernel
theorem dX7_keepPress_7 : decode cX7_keepPress 7 = .ok (.aload_n 0, 1) := by decide +kernel
theorem dX7_keepPress_8 : decode cX7_keepPress 8 = .ok (.getfield 38, 3) := by decide +kernel
theorem dX7_keepPress_11 : decode cX7_keepPress 11 = .ok (.aload_n 0, 1) := by decide +kernel
theorem dX7_keepPress_12 : decode cX7_keepPress 12 = .ok (.getfield 134, 3) := by decide +kernel
theorem dX7_keepPress_15 : decode cX7_keepPress 15 = .ok (.iaload, 1) := by decide +kernel
theorem dX7_keepPress_16 : decode cX7_keepPress 16 = .ok (.iadd, 1) := by decide +kernel
theorem dX7_keepPress_17 : decode cX7_keepPress 17 = .ok (.istore_n 3, 1) := by decide +kernel
theorem dX7_keepPress_18 : decode cX7_keepPress 18 = .ok (.iload_n 3, 1) := by decide +kernel
theorem dX7_keepPress_19 : decode cX7_keepPress 19 = .ok (.bipush 22, 2) := by decide +kernel
theorem dX7_keepPress_21 : decode cX7_keepPress 21 = .ok (.aload_n 0, 1) := by decide +kernel
theorem dX7_keepPress_22 : decode cX7_keepPress 22 = .ok (.getfield 134, 3) := by decide +kernel
theorem dX7_keepPress_25 : decode cX7_keepPress 25 = .ok (.imul, 1) := by decide +kernel
theorem dX7_keepPress_26 : decode cX7_keepPress 26 = .ok (.if_icmp .le 49, 3) := by decide +kernel
theorem dX7_keepPress_29 : decode cX7_keepPress 29 = .ok (.aload_n 0, 1) := by decide +kernel
theorem dX7_keepPress_30 : decode cX7_keepPress 30 = .ok (.iload_n 3, 1) := by decide +kernel
theorem dX7_keepPress_31 : decode cX7_keepPress 31 = .ok (.iconst 1, 1) := by decide +kernel
theorem dX7_keepPress_32 : decode cX7_keepPress 32 = .ok (.isub, 1) := by decide +kernel
theorem dX7_keepPress_33 : decode cX7_keepPress 33 = .ok (.iload_n 1, 1) := by decide +kernel
theorem dX7_keepPress_34 : decode cX7_keepPress 34 = .ok (.iload_n 2, 1) := by decide +kernel
theorem dX7_keepPress_35 : decode cX7_keepPress 35 = .ok (.invokevirtual 169, 3) := by decide +kernel
theorem dX7_keepPress_38 : decode cX7_keepPress 38 = .ok (.ifCond .eq 37, 3) := by decide +kernel
theorem dX7_keepPress_41 : decode cX7_keepPress 41 = .ok (.aload_n 0, 1) := by decide +kernel
theorem dX7_keepPress_42 : decode cX7_keepPress 42 = .ok (.getfield 41, 3) := by decide +kernel
theorem dX7_keepPress_45 : decode cX7_keepPress 45 = .ok (.iload_n 3, 1) := by decide +kernel
theorem dX7_keepPress_46 : decode cX7_keepPress 46 = .ok (.aload_n 0, 1) := by decide +kernel
theorem dX7_keepPress_47 : decode cX7_keepPress 47 = .ok (.getfield 41, 3) := by decide +kernel
theorem dX7_keepPress_50 : decode cX7_keepPress 50 = .ok (.iload_n 3, 1) := by decide +kernel
theorem dX7_keepPress_51 : decode cX7_keepPress 51 = .ok (.iconst 1, 1) := by decide +kernel
theorem dX7_keepPress_52 : decode cX7_keepPress 52 = .ok (.isub, 1) := by decide +kernel
theorem dX7_keepPress_53 : decode cX7_keepPress 53 = .ok (.iaload, 1) := by decide +kernel
theorem dX7_keepPress_54 : decode cX7_keepPress 54 = .ok (.iastore, 1) := by decide +kernel
theorem dX7_keepPress_55 : decode cX7_keepPress 55 = .ok (.aload_n 0, 1) := by decide +kernel
theorem dX7_keepPress_56 : decode cX7_keepPress 56 = .ok (.getfield 44, 3) := by decide +kernel
theorem dX7_keepPress_59 : decode cX7_keepPress 59 = .ok (.iload_n 3, 1) := by decide +kernel
theorem dX7_keepPress_60 : decode cX7_keepPress 60 = .ok (.aload_n 0, 1) := by decide +kernel
theorem dX7_keepPress_61 : decode cX7_keepPress 61 = .ok (.getfield 44, 3) := by decide +kernel
theorem dX7_keepPress_64 : decode cX7_keepPress 64 = .ok (.iload_n 3, 1) := by decide +kernel
theorem dX7_keepPress_65 : decode cX7_keepPress 65 = .ok (.iconst 1, 1) := by decide +kernel
theorem dX7_keepPress_66 : decode cX7_keepPress 66 = .ok (.isub, 1) := by decide +kernel
theorem dX7_keepPress_67 : decode cX7_keepPress 67 = .ok (.iaload, 1) := by decide +kernel
theorem dX7_keepPress_68 : decode cX7_keepPress 68 = .ok (.iastore, 1) := by decide +kernel
theorem dX7_keepPress_69 : decode cX7_keepPress 69 = .ok (.iinc 3 (-1), 3) := by decide +kernel
theorem dX7_keepPress_72 : decode cX7_keepPress 72 = .ok (.goto (-54), 3) := by decide +kernel
theorem dX7_keepPress_75 : decode cX7_keepPress 75 = .ok (.aload_n 0, 1) := by decide +kernel
theorem dX7_keepPress_76 : decode cX7_keepPress 76 = .ok (.getfield 41, 3) := by decide +kernel
theorem dX7_keepPress_79 : decode cX7_keepPress 79 = .ok (.iload_n 3, 1) := by decide +kernel
theorem dX7_keepPress_80 : decode cX7_keepPress 80 = .ok (.iload_n 1, 1) := by decide +kernel
theorem dX7_keepPress_81 : decode cX7_keepPress 81 = .ok (.iastore, 1) := by decide +kernel
theorem dX7_keepPress_82 : decode cX7_keepPress 82 = .ok (.aload_n 0, 1) := by decide +kernel
theorem dX7_keepPress_83 : decode cX7_keepPress 83 = .ok (.getfield 44, 3) := by decide +kernel
theorem dX7_keepPress_86 : decode cX7_keepPress 86 = .ok (.iload_n 3, 1) := by decide +kernel
theorem dX7_keepPress_87 : decode cX7_keepPress 87 = .ok (.iload_n 2, 1) := by decide +kernel
theorem dX7_keepPress_88 : decode cX7_keepPress 88 = .ok (.iastore, 1) := by decide +kernel
theorem dX7_keepPress_89 : decode cX7_keepPress 89 = .ok (.aload_n 0, 1) := by decide +kernel
theorem dX7_keepPress_90 : decode cX7_keepPress 90 = .ok (.getfield 38, 3) := by decide +kernel
theorem dX7_keepPress_93 : decode cX7_keepPress 93 = .ok (.aload_n 0, 1) := by decide +kernel
theorem dX7_keepPress_94 : decode cX7_keepPress 94 = .ok (.getfield 134, 3) := by decide +kernel
theorem dX7_keepPress_97 : decode cX7_keepPress 97 = .ok (.dup2, 1) := by decide +kernel
theorem dX7_keepPress_98 : decode cX7_keepPress 98 = .ok (.iaload, 1) := by decide +kernel
theorem dX7_keepPress_99 : decode cX7_keepPress 99 = .ok (.iconst 1, 1) := by decide +kernel
theorem dX7_keepPress_100 : decode cX7_keepPress 100 = .ok (.iadd, 1) := by decide +kernel
theorem dX7_keepPress_101 : decode cX7_keepPress 101 = .ok (.iastore, 1) := by decide +kernel
theorem dX7_keepPress_102 : decode cX7_keepPress 102 = .ok (.return_, 1) := by decide +kernel
theorem dX7_isBehind_0 : decode cX7_isBehind 0 = .ok (.aload_n 0, 1) := by decide +kernel
theorem dX7_isBehind_1 : decode cX7_isBehind 1 = .ok (.getfield 44, 3) := by decide +kernel
theorem dX7_isBehind_4 : decode cX7_isBehind 4 = .ok (.iload_n 1, 1) := by decide +kernel
theorem dX7_isBehind_5 : decode cX7_isBehind 5 = .ok (.iaload, 1) := by decide +kernel
theorem dX7_isBehind_6 : decode cX7_isBehind 6 = .ok (.aload_n 0, 1) := by decide +kernel
theorem dX7_isBehind_7 : decode cX7_isBehind 7 = .ok (.getfield 41, 3) := by decide +kernel
theorem dX7_isBehind_10 : decode cX7_isBehind 10 = .ok (.iload_n 1, 1) := by decide +kernel
theorem dX7_isBehind_11 : decode cX7_isBehind 11 = .ok (.iaload, 1) := by decide +kernel
theorem dX7_isBehind_12 : decode cX7_isBehind 12 = .ok (.isub, 1) := by decide +kernel
theorem dX7_isBehind_13 : decode cX7_isBehind 13 = .ok (.istore 4, 2) := by decide +kernel
theorem dX7_isBehind_15 : decode cX7_isBehind 15 = .ok (.iload 4, 2) := by decide +kernel
theorem dX7_isBehind_17 : decode cX7_isBehind 17 = .ok (.iload_n 3, 1) := by decide +kernel
theorem dX7_isBehind_18 : decode cX7_isBehind 18 = .ok (.iload_n 2, 1) := by decide +kernel
theorem dX7_isBehind_19 : decode cX7_isBehind 19 = .ok (.isub, 1) := by decide +kernel
theorem dX7_isBehind_20 : decode cX7_isBehind 20 = .ok (.if_icmp .eq 19, 3) := by decide +kernel
theorem dX7_isBehind_23 : decode cX7_isBehind 23 = .ok (.iload 4, 2) := by decide +kernel
theorem dX7_isBehind_25 : decode cX7_isBehind 25 = .ok (.iload_n 3, 1) := by decide +kernel
theorem dX7_isBehind_26 : decode cX7_isBehind 26 = .ok (.iload_n 2, 1) := by decide +kernel
theorem dX7_isBehind_27 : decode cX7_isBehind 27 = .ok (.isub, 1) := by decide +kernel
theorem dX7_isBehind_28 : decode cX7_isBehind 28 = .ok (.if_icmp .le 7, 3) := by decide +kernel
theorem dX7_isBehind_31 : decode cX7_isBehind 31 = .ok (.iconst 1, 1) := by decide +kernel
theorem dX7_isBehind_32 : decode cX7_isBehind 32 = .ok (.goto 22, 3) := by decide +kernel
theorem dX7_isBehind_35 : decode cX7_isBehind 35 = .ok (.iconst 0, 1) := by decide +kernel
theorem dX7_isBehind_36 : decode cX7_isBehind 36 = .ok (.goto 18, 3) := by decide +kernel
theorem dX7_isBehind_39 : decode cX7_isBehind 39 = .ok (.aload_n 0, 1) := by decide +kernel
theorem dX7_isBehind_40 : decode cX7_isBehind 40 = .ok (.getfield 41, 3) := by decide +kernel
theorem dX7_isBehind_43 : decode cX7_isBehind 43 = .ok (.iload_n 1, 1) := by decide +kernel
theorem dX7_isBehind_44 : decode cX7_isBehind 44 = .ok (.iaload, 1) := by decide +kernel
theorem dX7_isBehind_45 : decode cX7_isBehind 45 = .ok (.iload_n 2, 1) := by decide +kernel
theorem dX7_isBehind_46 : decode cX7_isBehind 46 = .ok (.if_icmp .le 7, 3) := by decide +kernel
theorem dX7_isBehind_49 : decode cX7_isBehind 49 = .ok (.iconst 1, 1) := by decide +kernel
theorem dX7_isBehind_50 : decode cX7_isBehind 50 = .ok (.goto 4, 3) := by decide +kernel
theorem dX7_isBehind_53 : decode cX7_isBehind 53 = .ok (.iconst 0, 1) := by decide +kernel
theorem dX7_isBehind_54 : decode cX7_isBehind 54 = .ok (.ireturn, 1) := by decide +kernel
theorem dX7_isPress_0 : decode cX7_isPress 0 = .ok (.iload_n 1, 1) := by decide +kernel
theorem dX7_isPress_1 : decode cX7_isPress 1 = .ok (.ifCond .ne 22, 3) := by decide +kernel
theorem dX7_isPress_4 : decode cX7_isPress 4 = .ok (.iload_n 2, 1) := by decide +kernel
theorem dX7_isPress_5 : decode cX7_isPress 5 = .ok (.aload_n 0, 1) := by decide +kernel
theorem dX7_isPress_6 : decode cX7_isPress 6 = .ok (.getfield 32, 3) := by decide +kernel
theorem dX7_isPress_9 : decode cX7_isPress 9 = .ok (.aload_n 0, 1) := by decide +kernel
theorem dX7_isPress_10 : decode cX7_isPress 10 = .ok (.getfield 134, 3) := by decide +kernel
theorem dX7_isPress_13 : decode cX7_isPress 13 = .ok (.iaload, 1) := by decide +kernel
theorem dX7_isPress_14 : decode cX7_isPress 14 = .ok (.iconst 1, 1) := by decide +kernel
theorem dX7_isPress_15 : decode cX7_isPress 15 = .ok (.isub, 1) := by decide +kernel
theorem dX7_isPress_16 : decode cX7_isPress 16 = .ok (.if_icmp .ne 7, 3) := by decide +kernel
theorem dX7_isPress_19 : decode cX7_isPress 19 = .ok (.iconst 1, 1) := by decide +kernel
theorem dX7_isPress_20 : decode cX7_isPress 20 = .ok (.goto 4, 3) := by decide +kernel
theorem dX7_isPress_23 : decode cX7_isPress 23 = .ok (.iconst 0, 1) := by decide +kernel
theorem dX7_isPress_24 : decode cX7_isPress 24 = .ok (.istore_n 3, 1) := by decide +kernel
theorem dX7_isPress_25 : decode cX7_isPress 25 = .ok (.bipush 22, 2) := by decide +kernel
theorem dX7_isPress_27 : decode cX7_isPress 27 = .ok (.aload_n 0, 1) := by decide +kernel
theorem dX7_isPress_28 : decode cX7_isPress 28 = .ok (.getfield 134, 3) := by decide +kernel
theorem dX7_isPress_31 : decode cX7_isPress 31 = .ok (.imul, 1) := by decide +kernel
theorem dX7_isPress_32 : decode cX7_isPress 32 = .ok (.istore 4, 2) := by decide +kernel
theorem dX7_isPress_34 : decode cX7_isPress 34 = .ok (.iload 4, 2) := by decide +kernel
theorem dX7_isPress_36 : decode cX7_isPress 36 = .ok (.bipush 22, 2) := by decide +kernel
theorem dX7_isPress_38 : decode cX7_isPress 38 = .ok (.aload_n 0, 1) := by decide +kernel
theorem dX7_isPress_39 : decode cX7_isPress 39 = .ok (.getfield 134, 3) := by decide +kernel
theorem dX7_isPress_42 : decode cX7_isPress 42 = .ok (.imul, 1) := by decide +kernel
theorem dX7_isPress_43 : decode cX7_isPress 43 = .ok (.aload_n 0, 1) := by decide +kernel
theorem dX7_isPress_44 : decode cX7_isPress 44 = .ok (.getfield 38, 3) := by decide +kernel
theorem dX7_isPress_47 : decode cX7_isPress 47 = .ok (.aload_n 0, 1) := by decide +kernel
theorem dX7_isPress_48 : decode cX7_isPress 48 = .ok (.getfield 134, 3) := by decide +kernel
theorem dX7_isPress_51 : decode cX7_isPress 51 = .ok (.iaload, 1) := by decide +kernel
theorem dX7_isPress_52 : decode cX7_isPress 52 = .ok (.iadd, 1) := by decide +kernel
theorem dX7_isPress_53 : decode cX7_isPress 53 = .ok (.if_icmp .ge 41, 3) := by decide +kernel
theorem dX7_isPress_56 : decode cX7_isPress 56 = .ok (.iload_n 3, 1) := by decide +kernel
theorem dX7_isPress_57 : decode cX7_isPress 57 = .ok (.ifCond .ne 25, 3) := by decide +kernel
theorem dX7_isPress_60 : decode cX7_isPress 60 = .ok (.aload_n 0, 1) := by decide +kernel
theorem dX7_isPress_61 : decode cX7_isPress 61 = .ok (.getfield 41, 3) := by decide +kernel
theorem dX7_isPress_64 : decode cX7_isPress 64 = .ok (.iload 4, 2) := by decide +kernel
theorem dX7_isPress_66 : decode cX7_isPress 66 = .ok (.iaload, 1) := by decide +kernel
theorem dX7_isPress_67 : decode cX7_isPress 67 = .ok (.iload_n 1, 1) := by decide +kernel
theorem dX7_isPress_68 : decode cX7_isPress 68 = .ok (.if_icmp .ne 18, 3) := by decide +kernel
theorem dX7_isPress_71 : decode cX7_isPress 71 = .ok (.aload_n 0, 1) := by decide +kernel
theorem dX7_isPress_72 : decode cX7_isPress 72 = .ok (.getfield 44, 3) := by decide +kernel
theorem dX7_isPress_75 : decode cX7_isPress 75 = .ok (.iload 4, 2) := by decide +kernel
theorem dX7_isPress_77 : decode cX7_isPress 77 = .ok (.iaload, 1) := by decide +kernel
theorem dX7_isPress_78 : decode cX7_isPress 78 = .ok (.iload_n 2, 1) := by decide +kernel
theorem dX7_isPress_79 : decode cX7_isPress 79 = .ok (.if_icmp .ne 7, 3) := by decide +kernel
theorem dX7_isPress_82 : decode cX7_isPress 82 = .ok (.iconst 1, 1) := by decide +kernel
theorem dX7_isPress_83 : decode cX7_isPress 83 = .ok (.goto 4, 3) := by decide +kernel
theorem dX7_isPress_86 : decode cX7_isPress 86 = .ok (.iconst 0, 1) := by decide +kernel
theorem dX7_isPress_87 : decode cX7_isPress 87 = .ok (.istore_n 3, 1) := by decide +kernel
theorem dX7_isPress_88 : decode cX7_isPress 88 = .ok (.iinc 4 1, 3) := by decide +kernel
theorem dX7_isPress_91 : decode cX7_isPress 91 = .ok (.goto (-57), 3) := by decide +kernel
theorem dX7_isPress_94 : decode cX7_isPress 94 = .ok (.iload_n 3, 1) := by decide +kernel
theorem dX7_isPress_95 : decode cX7_isPress 95 = .ok (.ireturn, 1) := by decide +kernel
theorem dX7_isVia_0 : decode cX7_isVia 0 = .ok (.iconst 0, 1) := by decide +kernel
theorem dX7_isVia_1 : decode cX7_isVia 1 = .ok (.istore_n 3, 1) := by decide +kernel
theorem dX7_isVia_2 : decode cX7_isVia 2 = .ok (.bipush 40, 2) := by decide +kernel
theorem dX7_isVia_4 : decode cX7_isVia 4 = .ok (.aload_n 0, 1) := by decide +kernel
theorem dX7_isVia_5 : decode cX7_isVia 5 = .ok (.getfield 134, 3) := by decide +kernel
theorem dX7_isVia_8 : decode cX7_isVia 8 = .ok (.imul, 1) := by decide +kernel
theorem dX7_isVia_9 : decode cX7_isVia 9 = .ok (.istore 4, 2) := by decide +kernel
theorem dX7_isVia_11 : decode cX7_isVia 11 = .ok (.iload 4, 2) := by decide +kernel
theorem dX7_isVia_13 : decode cX7_isVia 13 = .ok (.bipush 40, 2) := by decide +kernel
theorem dX7_isVia_15 : decode cX7_isVia 15 = .ok (.aload_n 0, 1) := by decide +kernel
theorem dX7_isVia_16 : decode cX7_isVia 16 = .ok (.getfield 134, 3) := by decide +kernel
theorem dX7_isVia_19 : decode cX7_isVia 19 = .ok (.imul, 1) := by decide +kernel
theorem dX7_isVia_20 : decode cX7_isVia 20 = .ok (.aload_n 0, 1) := by decide +kernel
theorem dX7_isVia_21 : decode cX7_isVia 21 = .ok (.getfield 47, 3) := by decide +kernel
theorem dX7_isVia_24 : decode cX7_isVia 24 = .ok (.aload_n 0, 1) := by decide +kernel
theorem dX7_isVia_25 : decode cX7_isVia 25 = .ok (.getfield 134, 3) := by decide +kernel
theorem dX7_isVia_28 : decode cX7_isVia 28 = .ok (.iaload, 1) := by decide +kernel
theorem dX7_isVia_29 : decode cX7_isVia 29 = .ok (.iadd, 1) := by decide +kernel
theorem dX7_isVia_30 : decode cX7_isVia 30 = .ok (.if_icmp .ge 41, 3) := by decide +kernel
theorem dX7_isVia_33 : decode cX7_isVia 33 = .ok (.iload_n 3, 1) := by decide +kernel
theorem dX7_isVia_34 : decode cX7_isVia 34 = .ok (.ifCond .ne 25, 3) := by decide +kernel
theorem dX7_isVia_37 : decode cX7_isVia 37 = .ok (.aload_n 0, 1) := by decide +kernel
theorem dX7_isVia_38 : decode cX7_isVia 38 = .ok (.getfield 50, 3) := by decide +kernel
theorem dX7_isVia_41 : decode cX7_isVia 41 = .ok (.iload 4, 2) := by decide +kernel
theorem dX7_isVia_43 : decode cX7_isVia 43 = .ok (.iaload, 1) := by decide +kernel
theorem dX7_isVia_44 : decode cX7_isVia 44 = .ok (.iload_n 1, 1) := by decide +kernel
theorem dX7_isVia_45 : decode cX7_isVia 45 = .ok (.if_icmp .ne 18, 3) := by decide +kernel
theorem dX7_isVia_48 : decode cX7_isVia 48 = .ok (.aload_n 0, 1) := by decide +kernel
theorem dX7_isVia_49 : decode cX7_isVia 49 = .ok (.getfield 53, 3) := by decide +kernel
theorem dX7_isVia_52 : decode cX7_isVia 52 = .ok (.iload 4, 2) := by decide +kernel
theorem dX7_isVia_54 : decode cX7_isVia 54 = .ok (.iaload, 1) := by decide +kernel
theorem dX7_isVia_55 : decode cX7_isVia 55 = .ok (.iload_n 2, 1) := by decide +kernel
theorem dX7_isVia_56 : decode cX7_isVia 56 = .ok (.if_icmp .ne 7, 3) := by decide +kernel
theorem dX7_isVia_59 : decode cX7_isVia 59 = .ok (.iconst 1, 1) := by decide +kernel
theorem dX7_isVia_60 : decode cX7_isVia 60 = .ok (.goto 4, 3) := by decide +kernel
theorem dX7_isVia_63 : decode cX7_isVia 63 = .ok (.iconst 0, 1) := by decide +kernel
theorem dX7_isVia_64 : decode cX7_isVia 64 = .ok (.istore_n 3, 1) := by decide +kernel
theorem dX7_isVia_65 : decode cX7_isVia 65 = .ok (.iinc 4 1, 3) := by decide +kernel
theorem dX7_isVia_68 : decode cX7_isVia 68 = .ok (.goto (-57), 3) := by decide +kernel
theorem dX7_isVia_71 : decode cX7_isVia 71 = .ok (.iload_n 3, 1) := by decide +kernel
theorem dX7_isVia_72 : decode cX7_isVia 72 = .ok (.ireturn, 1) := by decide +kernel
set_option maxRecDepth 20000 in
theorem ggX7_viaLine_X7_fail : GoodIn wsX7_viaLine wsX7_fail := goodIn_r _ [10, 11, 63, 64, 65, 66, 67, 68, 69, 70, 71, 72, 73, 74, 75, 76, 77, 78, 79, 80, 81, 82, 83, 84, 85, 86, 87, 88, 89, 90, 91, 92, 93, 94, 95] (by decide +kernel) (by decide +kernel)
set_option maxRecDepth 20000 in
theorem gX7_viaLine_X7_fail : GoodIn wsX7_viaLine (wsV RX7 93 RX7 yX7_fail wsX7_fail) := goodIn_app (goodIn_of _ (by decide +kernel)) ggX7_viaLine_X7_fail
set_option maxRecDepth 20000 in
theorem ggX7_viaLine_X7_twoNames_wsX7_twoNames_r1 : GoodIn wsX7_viaLine wsX7_twoNames_r1 := goodIn_r _ [16, 3, 17, 18, 19, 9, 20, 21, 22, 23, 24, 11, 25, 26, 27, 28, 29, 30, 6, 7, 8, 10, 31, 32] (by decide +kernel) (by decide +kernel)
set_option maxRecDepth 20000 in
theorem ggX7_viaLine_X7_twoNames_wsX7_twoNames_r2 : GoodIn wsX7_viaLine wsX7_twoNames_r2 := goodIn_r _ [33, 34, 35, 36, 37, 38, 39, 40, 41, 42, 43, 44, 2, 45, 46, 47, 48, 49, 50, 51] (by decide +kernel) (by decide +kernel)
set_option maxRecDepth 20000 in
theorem ggX7_viaLine_X7_twoNames_wsX70 : GoodIn wsX7_viaLine wsX70 := goodIn_r _ [63, 64, 65, 66, 67, 68, 69, 70, 71, 72, 73, 74, 75, 76, 77, 78, 79, 80, 81, 82, 83, 84, 85, 86, 87, 88, 89, 90, 91, 92, 93, 94, 95] (by decide +kernel) (by decide +kernel)
set_option maxRecDepth 20000 in
theorem ggX7_viaLine_X7_twoNames_c : GoodIn wsX7_viaLine [.code yX7_twoNames cX7_twoNames 3 (some .int)] := goodIn_r _ [15] (by decide +kernel) (by decide +kernel)
set_option maxRecDepth 20000 in
theorem ggX7_viaLine_X7_twoNames : GoodIn wsX7_viaLine wsX7_twoNames := goodIn_app ggX7_viaLine_X7_twoNames_c (goodIn_app (goodIn_app ggX7_viaLine_X7_twoNames_wsX7_twoNames_r1 ggX7_viaLine_X7_twoNames_wsX7_twoNames_r2) ggX7_viaLine_X7_twoNames_wsX70)
set_option maxRecDepth 20000 in
theorem gX7_viaLine_X7_twoNames : GoodIn wsX7_viaLine (wsV RX7 162 RX7 yX7_twoNames wsX7_twoNames) := goodIn_app (goodIn_of _ (by decide +kernel)) ggX7_viaLine_X7_twoNames
set_option maxRecDepth 20000 in
theorem ggX7_viaLine_X7_good : GoodIn wsX7_viaLine wsX7_good := goodIn_r _ [24, 11, 63, 64, 65, 66, 67, 68, 69, 70, 71, 72, 73, 74, 75, 76, 77, 78, 79, 80, 81, 82, 83, 84, 85, 86, 87, 88, 89, 90, 91, 92, 93, 94, 95] (by decide +kernel) (by decide +kernel)
set_option maxRecDepth 20000 in
theorem gX7_viaLine_X7_good : GoodIn wsX7_viaLine (wsV RX7 85 RX7 yX7_good wsX7_good) := goodIn_app (goodIn_of _ (by decide +kernel)) ggX7_viaLine_X7_good
set_option maxRecDepth 20000 in
theorem ggX7_viaLine_X7_isPress : GoodIn wsX7_viaLine wsX7_isPress := goodIn_r _ [55, 44, 2, 56, 57, 58, 63, 64, 65, 66, 67, 68, 69, 70, 71, 72, 73, 74, 75, 76, 77, 78, 79, 80, 81, 82, 83, 84, 85, 86, 87, 88, 89, 90, 91, 92, 93, 94, 95] (by decide +kernel) (by decide +kernel)
set_option maxRecDepth 20000 in
theorem gX7_viaLine_X7_isPress : GoodIn wsX7_viaLine (wsV RX7 173 RX7 yX7_isPress wsX7_isPress) := goodIn_app (goodIn_of _ (by decide +kernel)) ggX7_viaLine_X7_isPress
set_option maxRecDepth 20000 in
theorem ggX7_viaLine_X7_isVia : GoodIn wsX7_viaLine wsX7_isVia := goodIn_r _ [62, 2, 1, 4, 5, 63, 64, 65, 66, 67, 68, 69, 70, 71, 72, 73, 74, 75, 76, 77, 78, 79, 80, 81, 82, 83, 84, 85, 86, 87, 88, 89, 90, 91, 92, 93, 94, 95] (by decide +kernel) (by decide +kernel)
set_option maxRecDepth 20000 in
theorem gX7_viaLine_X7_isVia : GoodIn wsX7_viaLine (wsV RX7 177 RX7 yX7_isVia wsX7_isVia) := goodIn_app (goodIn_of _ (by decide +kernel)) ggX7_viaLine_X7_isVia
set_option maxRecDepth 20000 in
theorem ggX7_viaLine_X7_expect : GoodIn wsX7_viaLine wsX7_expect := goodIn_r _ [20, 16, 21, 22, 23, 9, 24, 11, 25, 26, 27, 28, 29, 30, 6, 7, 8, 10, 63, 64, 65, 66, 67, 68, 69, 70, 71, 72, 73, 74, 75, 76, 77, 78, 79, 80, 81, 82, 83, 84, 85, 86, 87, 88, 89, 90, 91, 92, 93, 94, 95] (by decide +kernel) (by decide +kernel)
set_option maxRecDepth 20000 in
theorem gX7_viaLine_X7_expect : GoodIn wsX7_viaLine (wsV RX7 144 RX7 yX7_expect wsX7_expect) := goodIn_app (goodIn_of _ (by decide +kernel)) ggX7_viaLine_X7_expect
theorem dX7_viaLine_0 : decode cX7_viaLine 0 = .ok (.aload_n 0, 1) := by decide +kernel
theorem dX7_viaLine_1 : decode cX7_viaLine 1 = .ok (.getfield 47, 3) := by decide +kernel
theorem dX7_viaLine_4 : decode cX7_viaLine 4 = .ok (.aload_n 0, 1) := by decide +kernel
theorem dX7_viaLine_5 : decode cX7_viaLine 5 = .ok (.getfield 134, 3) := by decide +kernel
theorem dX7_viaLine_8 : decode cX7_viaLine 8 = .ok (.iaload, 1) := by decide +kernel
theorem dX7_viaLine_9 : decode cX7_viaLine 9 = .ok (.bipush 40, 2) := by decide +kernel
theorem dX7_viaLine_11 : decode cX7_viaLine 11 = .ok (.if_icmp .ne 9, 3) := by decide +kernel
theorem dX7_viaLine_14 : decode cX7_viaLine 14 = .ok (.aload_n 0, 1) := by decide +kernel
theorem dX7_viaLine_15 : decode cX7_viaLine 15 = .ok (.iload_n 1, 1) := by decide +kernel
theorem dX7_viaLine_16 : decode cX7_viaLine 16 = .ok (.invokevirtual 93, 3) := by decide +kernel
theorem dX7_viaLine_19 : decode cX7_viaLine 19 = .ok (.return_, 1) := by decide +kernel
theorem dX7_viaLine_20 : decode cX7_viaLine 20 = .ok (.aload_n 0, 1) := by decide +kernel
theorem dX7_viaLine_21 : decode cX7_viaLine 21 = .ok (.invokevirtual 162, 3) := by decide +kernel
theorem dX7_viaLine_24 : decode cX7_viaLine 24 = .ok (.istore_n 2, 1) := by decide +kernel
theorem dX7_viaLine_25 : decode cX7_viaLine 25 = .ok (.aload_n 0, 1) := by decide +kernel
theorem dX7_viaLine_26 : decode cX7_viaLine 26 = .ok (.invokevirtual 85, 3) := by decide +kernel
theorem dX7_viaLine_29 : decode cX7_viaLine 29 = .ok (.ifCond .eq 32, 3) := by decide +kernel
theorem dX7_viaLine_32 : decode cX7_viaLine 32 = .ok (.aload_n 0, 1) := by decide +kernel
theorem dX7_viaLine_33 : decode cX7_viaLine 33 = .ok (.iload_n 2, 1) := by decide +kernel
theorem dX7_viaLine_34 : decode cX7_viaLine 34 = .ok (.aload_n 0, 1) := by decide +kernel
theorem dX7_viaLine_35 : decode cX7_viaLine 35 = .ok (.getfield 159, 3) := by decide +kernel
theorem dX7_viaLine_38 : decode cX7_viaLine 38 = .ok (.invokevirtual 173, 3) := by decide +kernel
theorem dX7_viaLine_41 : decode cX7_viaLine 41 = .ok (.ifCond .eq 15, 3) := by decide +kernel
theorem dX7_viaLine_44 : decode cX7_viaLine 44 = .ok (.aload_n 0, 1) := by decide +kernel
theorem dX7_viaLine_45 : decode cX7_viaLine 45 = .ok (.iload_n 2, 1) := by decide +kernel
theorem dX7_viaLine_46 : decode cX7_viaLine 46 = .ok (.aload_n 0, 1) := by decide +kernel
theorem dX7_viaLine_47 : decode cX7_viaLine 47 = .ok (.getfield 159, 3) := by decide +kernel
theorem dX7_viaLine_50 : decode cX7_viaLine 50 = .ok (.invokevirtual 177, 3) := by decide +kernel
theorem dX7_viaLine_53 : decode cX7_viaLine 53 = .ok (.ifCond .eq 8, 3) := by decide +kernel
theorem dX7_viaLine_56 : decode cX7_viaLine 56 = .ok (.aload_n 0, 1) := by decide +kernel
theorem dX7_viaLine_57 : decode cX7_viaLine 57 = .ok (.iload_n 1, 1) := by decide +kernel
theorem dX7_viaLine_58 : decode cX7_viaLine 58 = .ok (.invokevirtual 93, 3) := by decide +kernel
theorem dX7_viaLine_61 : decode cX7_viaLine 61 = .ok (.aload_n 0, 1) := by decide +kernel
theorem dX7_viaLine_62 : decode cX7_viaLine 62 = .ok (.bipush 10, 2) := by decide +kernel
theorem dX7_viaLine_64 : decode cX7_viaLine 64 = .ok (.invokevirtual 144, 3) := by decide +kernel
theorem dX7_viaLine_67 : decode cX7_viaLine 67 = .ok (.aload_n 0, 1) := by decide +kernel
theorem dX7_viaLine_68 : decode cX7_viaLine 68 = .ok (.invokevirtual 85, 3) := by decide +kernel
theorem dX7_viaLine_71 : decode cX7_viaLine 71 = .ok (.ifCond .ne 4, 3) := by decide +kernel
theorem dX7_viaLine_74 : decode cX7_viaLine 74 = .ok (.return_, 1) := by decide +kernel
theorem dX7_viaLine_75 : decode cX7_viaLine 75 = .ok (.aload_n 0, 1) := by decide +kernel
theorem dX7_viaLine_76 : decode cX7_viaLine 76 = .ok (.getfield 50, 3) := by decide +kernel
theorem dX7_viaLine_79 : decode cX7_viaLine 79 = .ok (.bipush 40, 2) := by decide +kernel
theorem dX7_viaLine_81 : decode cX7_viaLine 81 = .ok (.aload_n 0, 1) := by decide +kernel
theorem dX7_viaLine_82 : decode cX7_viaLine 82 = .ok (.getfield 134, 3) := by decide +kernel
theorem dX7_viaLine_85 : decode cX7_viaLine 85 = .ok (.imul, 1) := by decide +kernel
theorem dX7_viaLine_86 : decode cX7_viaLine 86 = .ok (.aload_n 0, 1) := by decide +kernel
theorem dX7_viaLine_87 : decode cX7_viaLine 87 = .ok (.getfield 47, 3) := by decide +kernel
theorem dX7_viaLine_90 : decode cX7_viaLine 90 = .ok (.aload_n 0, 1) := by decide +kernel
theorem dX7_viaLine_91 : decode cX7_viaLine 91 = .ok (.getfield 134, 3) := by decide +kernel
theorem dX7_viaLine_94 : decode cX7_viaLine 94 = .ok (.iaload, 1) := by decide +kernel
theorem dX7_viaLine_95 : decode cX7_viaLine 95 = .ok (.iadd, 1) := by decide +kernel
theorem dX7_viaLine_96 : decode cX7_viaLine 96 = .ok (.iload_n 2, 1) := by decide +kernel
theorem dX7_viaLine_97 : decode cX7_viaLine 97 = .ok (.iastore, 1) := by decide +kernel
theorem dX7_viaLine_98 : decode cX7_viaLine 98 = .ok (.aload_n 0, 1) := by decide +kernel
theorem dX7_viaLine_99 : decode cX7_viaLine 99 = .ok (.getfield 53, 3) := by decide +kernel
theorem dX7_viaLine_102 : decode cX7_viaLine 102 = .ok (.bipush 40, 2) := by decide +kernel
theorem dX7_viaLine_104 : decode cX7_viaLine 104 = .ok (.aload_n 0, 1) := by decide +kernel
theorem dX7_viaLine_105 : decode cX7_viaLine 105 = .ok (.getfield 134, 3) := by decide +kernel
theorem dX7_viaLine_108 : decode cX7_viaLine 108 = .ok (.imul, 1) := by decide +kernel
theorem dX7_viaLine_109 : decode cX7_viaLine 109 = .ok (.aload_n 0, 1) := by decide +kernel
theorem dX7_viaLine_110 : decode cX7_viaLine 110 = .ok (.getfield 47, 3) := by decide +kernel
theorem dX7_viaLine_113 : decode cX7_viaLine 113 = .ok (.aload_n 0, 1) := by decide +kernel
theorem dX7_viaLine_114 : decode cX7_viaLine 114 = .ok (.getfield 134, 3) := by decide +kernel
theorem dX7_viaLine_117 : decode cX7_viaLine 117 = .ok (.iaload, 1) := by decide +kernel
theorem dX7_viaLine_118 : decode cX7_viaLine 118 = .ok (.iadd, 1) := by decide +kernel
theorem dX7_viaLine_119 : decode cX7_viaLine 119 = .ok (.aload_n 0, 1) := by decide +kernel
theorem dX7_viaLine_120 : decode cX7_viaLine 120 = .ok (.getfield 159, 3) := by decide +kernel
theorem dX7_viaLine_123 : decode cX7_viaLine 123 = .ok (.iastore, 1) := by decide +kernel
theorem dX7_viaLine_124 : decode cX7_viaLine 124 = .ok (.aload_n 0, 1) := by decide +kernel
theorem dX7_viaLine_125 : decode cX7_viaLine 125 = .ok (.getfield 47, 3) := by decide +kernel
theorem dX7_viaLine_128 : decode cX7_viaLine 128 = .ok (.aload_n 0, 1) := by decide +kernel
theorem dX7_viaLine_129 : decode cX7_viaLine 129 = .ok (.getfield 134, 3) := by decide +kernel
theorem dX7_viaLine_132 : decode cX7_viaLine 132 = .ok (.dup2, 1) := by decide +kernel
theorem dX7_viaLine_133 : decode cX7_viaLine 133 = .ok (.iaload, 1) := by decide +kernel
theorem dX7_viaLine_134 : decode cX7_viaLine 134 = .ok (.iconst 1, 1) := by decide +kernel
theorem dX7_viaLine_135 : decode cX7_viaLine 135 = .ok (.iadd, 1) := by decide +kernel
theorem dX7_viaLine_136 : decode cX7_viaLine 136 = .ok (.iastore, 1) := by decide +kernel
theorem dX7_viaLine_137 : decode cX7_viaLine 137 = .ok (.return_, 1) := by decide +kernel
set_option maxRecDepth 20000 in
theorem ggX7_line_X7_firstWord_wsX7_firstWord_r1 : GoodIn wsX7_line wsX7_firstWord_r1 := goodIn_r _ [1, 7, 8, 9, 5, 10, 11, 12, 13, 14, 15, 16, 17, 18, 19, 20, 21, 22, 23, 24, 25, 26, 27, 28] (by decide +kernel) (by decide +kernel)
set_option maxRecDepth 20000 in
theorem ggX7_line_X7_firstWord_wsX7_firstWord_r2 : GoodIn wsX7_line wsX7_firstWord_r2 := goodIn_r _ [29, 30, 31, 32] (by decide +kernel) (by decide +kernel)
set_option maxRecDepth 20000 in
theorem ggX7_line_X7_firstWord_wsX70 : GoodIn wsX7_line wsX70 := goodIn_r _ [124, 125, 126, 127, 128, 129, 130, 131, 132, 133, 134, 135, 136, 137, 138, 139, 140, 141, 142, 143, 144, 145, 146, 147, 148, 149, 150, 151, 152, 153, 154, 155, 156] (by decide +kernel) (by decide +kernel)
set_option maxRecDepth 20000 in
theorem ggX7_line_X7_firstWord_c : GoodIn wsX7_line [.code yX7_firstWord cX7_firstWord 8 (some .int)] := goodIn_r _ [6] (by decide +kernel) (by decide +kernel)
set_option maxRecDepth 20000 in
theorem ggX7_line_X7_firstWord : GoodIn wsX7_line wsX7_firstWord := goodIn_app ggX7_line_X7_firstWord_c (goodIn_app (goodIn_app ggX7_line_X7_firstWord_wsX7_firstWord_r1 ggX7_line_X7_firstWord_wsX7_firstWord_r2) ggX7_line_X7_firstWord_wsX70)
set_option maxRecDepth 20000 in
theorem gX7_line_X7_firstWord : GoodIn wsX7_line (wsV RX7 180 RX7 yX7_firstWord wsX7_firstWord) := goodIn_app (goodIn_of _ (by decide +kernel)) ggX7_line_X7_firstWord
set_option maxRecDepth 20000 in
theorem ggX7_line_X7_good : GoodIn wsX7_line wsX7_good := goodIn_r _ [10, 11, 124, 125, 126, 127, 128, 129, 130, 131, 132, 133, 134, 135, 136, 137, 138, 139, 140, 141, 142, 143, 144, 145, 146, 147, 148, 149, 150, 151, 152, 153, 154, 155, 156] (by decide +kernel) (by decide +kernel)
set_option maxRecDepth 20000 in
theorem gX7_line_X7_good : GoodIn wsX7_line (wsV RX7 85 RX7 yX7_good wsX7_good) := goodIn_app (goodIn_of _ (by decide +kernel)) ggX7_line_X7_good
set_option maxRecDepth 20000 in
theorem ggX7_line_X7_layerLine_wsX7_layerLine_r1 : GoodIn wsX7_line wsX7_layerLine_r1 := goodIn_r _ [1, 37, 38, 39, 40, 41, 42, 43, 44, 45, 46, 47, 48, 49, 50, 51, 5, 52, 53, 54, 55, 56, 57, 58] (by decide +kernel) (by decide +kernel)
set_option maxRecDepth 20000 in
theorem ggX7_line_X7_layerLine_wsX7_layerLine_r2 : GoodIn wsX7_line wsX7_layerLine_r2 := goodIn_r _ [29, 30, 31, 32, 11, 59, 60, 61, 62, 7, 8, 9, 10, 12, 13, 14, 15, 16, 17, 63, 64, 65, 66, 67] (by decide +kernel) (by decide +kernel)
set_option maxRecDepth 20000 in
theorem ggX7_line_X7_layerLine_wsX7_layerLine_r3 : GoodIn wsX7_line wsX7_layerLine_r3 := goodIn_r _ [68, 69, 70, 71, 72, 73, 74, 75, 76, 77, 78, 79, 80, 81, 82, 83, 84, 85, 86] (by decide +kernel) (by decide +kernel)
set_option maxRecDepth 20000 in
theorem ggX7_line_X7_layerLine_wsX70 : GoodIn wsX7_line wsX70 := goodIn_r _ [124, 125, 126, 127, 128, 129, 130, 131, 132, 133, 134, 135, 136, 137, 138, 139, 140, 141, 142, 143, 144, 145, 146, 147, 148, 149, 150, 151, 152, 153, 154, 155, 156] (by decide +kernel) (by decide +kernel)
set_option maxRecDepth 20000 in
theorem ggX7_line_X7_layerLine_c : GoodIn wsX7_line [.code yX7_layerLine cX7_layerLine 9 none] := goodIn_r _ [36] (by decide +kernel) (by decide +kernel)
set_option maxRecDepth 20000 in
theorem ggX7_line_X7_layerLine : GoodIn wsX7_line wsX7_layerLine := goodIn_app ggX7_line_X7_layerLine_c (goodIn_app (goodIn_app ggX7_line_X7_layerLine_wsX7_layerLine_r1 (goodIn_app ggX7_line_X7_layerLine_wsX7_layerLine_r2 ggX7_line_X7_layerLine_wsX7_layerLine_r3)) ggX7_line_X7_layerLine_wsX70)
set_option maxRecDepth 20000 in
theorem gX7_line_X7_layerLine : GoodIn wsX7_line (wsV RX7 183 RX7 yX7_layerLine wsX7_layerLine) := goodIn_app (goodIn_of _ (by decide +kernel)) ggX7_line_X7_layerLine
set_option maxRecDepth 20000 in
theorem ggX7_line_X7_isWhole : GoodIn wsX7_line wsX7_isWhole := goodIn_r _ [90, 37, 38, 39, 48, 55, 56, 57, 5, 58, 124, 125, 126, 127, 128, 129, 130, 131, 132, 133, 134, 135, 136, 137, 138, 139, 140, 141, 142, 143, 144, 145, 146, 147, 148, 149, 150, 151, 152, 153, 154, 155, 156] (by decide +kernel) (by decide +kernel)
