theorem dX3_init_0 : decode cX3_init 0 = .ok (.aload_n 0, 1) := by decide +kernel
theorem dX3_init_1 : decode cX3_init 1 = .ok (.invokespecial 3, 3) := by decide +kernel
theorem dX3_init_4 : decode cX3_init 4 = .ok (.iload_n 1, 1) := by decide +kernel
theorem dX3_init_5 : decode cX3_init 5 = .ok (.iconst 1, 1) := by decide +kernel
theorem dX3_init_6 : decode cX3_init 6 = .ok (.invokestatic 9, 3) := by decide +kernel
theorem dX3_init_9 : decode cX3_init 9 = .ok (.istore_n 2, 1) := by decide +kernel
theorem dX3_init_10 : decode cX3_init 10 = .ok (.aload_n 0, 1) := by decide +kernel
theorem dX3_init_11 : decode cX3_init 11 = .ok (.iload_n 2, 1) := by decide +kernel
theorem dX3_init_12 : decode cX3_init 12 = .ok (.newarray .int, 2) := by decide +kernel
theorem dX3_init_14 : decode cX3_init 14 = .ok (.putfield 15, 3) := by decide +kernel
theorem dX3_init_17 : decode cX3_init 17 = .ok (.aload_n 0, 1) := by decide +kernel
theorem dX3_init_18 : decode cX3_init 18 = .ok (.iload_n 2, 1) := by decide +kernel
theorem dX3_init_19 : decode cX3_init 19 = .ok (.newarray .int, 2) := by decide +kernel
theorem dX3_init_21 : decode cX3_init 21 = .ok (.putfield 21, 3) := by decide +kernel
theorem dX3_init_24 : decode cX3_init 24 = .ok (.return_, 1) := by decide +kernel
theorem dX3_find_0 : decode cX3_find 0 = .ok (.iconst 0, 1) := by decide +kernel
theorem dX3_find_1 : decode cX3_find 1 = .ok (.istore_n 3, 1) := by decide +kernel
theorem dX3_find_2 : decode cX3_find 2 = .ok (.iload_n 3, 1) := by decide +kernel
theorem dX3_find_3 : decode cX3_find 3 = .ok (.aload_n 0, 1) := by decide +kernel
theorem dX3_find_4 : decode cX3_find 4 = .ok (.getfield 24, 3) := by decide +kernel
theorem dX3_find_7 : decode cX3_find 7 = .ok (.if_icmp .ge 31, 3) := by decide +kernel
theorem dX3_find_10 : decode cX3_find 10 = .ok (.aload_n 0, 1) := by decide +kernel
theorem dX3_find_11 : decode cX3_find 11 = .ok (.getfield 15, 3) := by decide +kernel
theorem dX3_find_14 : decode cX3_find 14 = .ok (.iload_n 3, 1) := by decide +kernel
theorem dX3_find_15 : decode cX3_find 15 = .ok (.iaload, 1) := by decide +kernel
theorem dX3_find_16 : decode cX3_find 16 = .ok (.iload_n 1, 1) := by decide +kernel
theorem dX3_find_17 : decode cX3_find 17 = .ok (.if_icmp .ne 15, 3) := by decide +kernel
theorem dX3_find_20 : decode cX3_find 20 = .ok (.aload_n 0, 1) := by decide +kernel
theorem dX3_find_21 : decode cX3_find 21 = .ok (.getfield 21, 3) := by decide +kernel
theorem dX3_find_24 : decode cX3_find 24 = .ok (.iload_n 3, 1) := by decide +kernel
theorem dX3_find_25 : decode cX3_find 25 = .ok (.iaload, 1) := by decide +kernel
theorem dX3_find_26 : decode cX3_find 26 = .ok (.iload_n 2, 1) := by decide +kernel
theorem dX3_find_27 : decode cX3_find 27 = .ok (.if_icmp .ne 5, 3) := by decide +kernel
theorem dX3_find_30 : decode cX3_find 30 = .ok (.iload_n 3, 1) := by decide +kernel
theorem dX3_find_31 : decode cX3_find 31 = .ok (.ireturn, 1) := by decide +kernel
theorem dX3_find_32 : decode cX3_find 32 = .ok (.iinc 3 1, 3) := by decide +kernel
theorem dX3_find_35 : decode cX3_find 35 = .ok (.goto (-33), 3) := by decide +kernel
theorem dX3_find_38 : decode cX3_find 38 = .ok (.iconst (-1), 1) := by decide +kernel
theorem dX3_find_39 : decode cX3_find 39 = .ok (.ireturn, 1) := by decide +kernel
theorem dX3_insert_0 : decode cX3_insert 0 = .ok (.aload_n 0, 1) := by decide +kernel
theorem dX3_insert_1 : decode cX3_insert 1 = .ok (.getfield 24, 3) := by decide +kernel
theorem dX3_insert_4 : decode cX3_insert 4 = .ok (.aload_n 0, 1) := by decide +kernel
theorem dX3_insert_5 : decode cX3_insert 5 = .ok (.getfield 15, 3) := by decide +kernel
theorem dX3_insert_8 : decode cX3_insert 8 = .ok (.arraylength, 1) := by decide +kernel
theorem dX3_insert_9 : decode cX3_insert 9 = .ok (.if_icmp .ge 15, 3) := by decide +kernel
theorem dX3_insert_12 : decode cX3_insert 12 = .ok (.iload_n 1, 1) := by decide +kernel
theorem dX3_insert_13 : decode cX3_insert 13 = .ok (.ifCond .lt 11, 3) := by decide +kernel
theorem dX3_insert_16 : decode cX3_insert 16 = .ok (.iload_n 1, 1) := by decide +kernel
theorem dX3_insert_17 : decode cX3_insert 17 = .ok (.aload_n 0, 1) := by decide +kernel
theorem dX3_insert_18 : decode cX3_insert 18 = .ok (.getfield 24, 3) := by decide +kernel
theorem dX3_insert_21 : decode cX3_insert 21 = .ok (.if_icmp .le 5, 3) := by decide +kernel
theorem dX3_insert_24 : decode cX3_insert 24 = .ok (.iconst 0, 1) := by decide +kernel
theorem dX3_insert_25 : decode cX3_insert 25 = .ok (.ireturn, 1) := by decide +kernel
theorem dX3_insert_26 : decode cX3_insert 26 = .ok (.aload_n 0, 1) := by decide +kernel
theorem dX3_insert_27 : decode cX3_insert 27 = .ok (.getfield 24, 3) := by decide +kernel
theorem dX3_insert_30 : decode cX3_insert 30 = .ok (.istore 4, 2) := by decide +kernel
theorem dX3_insert_32 : decode cX3_insert 32 = .ok (.iload 4, 2) := by decide +kernel
theorem dX3_insert_34 : decode cX3_insert 34 = .ok (.iload_n 1, 1) := by decide +kernel
theorem dX3_insert_35 : decode cX3_insert 35 = .ok (.if_icmp .le 41, 3) := by decide +kernel
theorem dX3_insert_38 : decode cX3_insert 38 = .ok (.aload_n 0, 1) := by decide +kernel
theorem dX3_insert_39 : decode cX3_insert 39 = .ok (.getfield 15, 3) := by decide +kernel
theorem dX3_insert_42 : decode cX3_insert 42 = .ok (.iload 4, 2) := by decide +kernel
theorem dX3_insert_44 : decode cX3_insert 44 = .ok (.aload_n 0, 1) := by decide +kernel
theorem dX3_insert_45 : decode cX3_insert 45 = .ok (.getfield 15, 3) := by decide +kernel
theorem dX3_insert_48 : decode cX3_insert 48 = .ok (.iload 4, 2) := by decide +kernel
theorem dX3_insert_50 : decode cX3_insert 50 = .ok (.iconst 1, 1) := by decide +kernel
theorem dX3_insert_51 : decode cX3_insert 51 = .ok (.isub, 1) := by decide +kernel
theorem dX3_insert_52 : decode cX3_insert 52 = .ok (.iaload, 1) := by decide +kernel
theorem dX3_insert_53 : decode cX3_insert 53 = .ok (.iastore, 1) := by decide +kernel
theorem dX3_insert_54 : decode cX3_insert 54 = .ok (.aload_n 0, 1) := by decide +kernel
theorem dX3_insert_55 : decode cX3_insert 55 = .ok (.getfield 21, 3) := by decide +kernel
theorem dX3_insert_58 : decode cX3_insert 58 = .ok (.iload 4, 2) := by decide +kernel
theorem dX3_insert_60 : decode cX3_insert 60 = .ok (.aload_n 0, 1) := by decide +kernel
theorem dX3_insert_61 : decode cX3_insert 61 = .ok (.getfield 21, 3) := by decide +kernel
theorem dX3_insert_64 : decode cX3_insert 64 = .ok (.iload 4, 2) := by decide +kernel
theorem dX3_insert_66 : decode cX3_insert 66 = .ok (.iconst 1, 1) := by decide +kernel
theorem dX3_insert_67 : decode cX3_insert 67 = .ok (.isub, 1) := by decide +kernel
theorem dX3_insert_68 : decode cX3_insert 68 = .ok (.iaload, 1) := by decide +kernel
theorem dX3_insert_69 : decode cX3_insert 69 = .ok (.iastore, 1) := by decide +kernel
theorem dX3_insert_70 : decode cX3_insert 70 = .ok (.iinc 4 (-1), 3) := by decide +kernel
theorem dX3_insert_73 : decode cX3_insert 73 = .ok (.goto (-41), 3) := by decide +kernel
theorem dX3_insert_76 : decode cX3_insert 76 = .ok (.aload_n 0, 1) := by decide +kernel
theorem dX3_insert_77 : decode cX3_insert 77 = .ok (.getfield 15, 3) := by decide +kernel
theorem dX3_insert_80 : decode cX3_insert 80 = .ok (.iload_n 1, 1) := by decide +kernel
theorem dX3_insert_81 : decode cX3_insert 81 = .ok (.iload_n 2, 1) := by decide +kernel
theorem dX3_insert_82 : decode cX3_insert 82 = .ok (.iastore, 1) := by decide +kernel
theorem dX3_insert_83 : decode cX3_insert 83 = .ok (.aload_n 0, 1) := by decide +kernel
theorem dX3_insert_84 : decode cX3_insert 84 = .ok (.getfield 21, 3) := by decide +kernel
theorem dX3_insert_87 : decode cX3_insert 87 = .ok (.iload_n 1, 1) := by decide +kernel
theorem dX3_insert_88 : decode cX3_insert 88 = .ok (.iload_n 3, 1) := by decide +kernel
theorem dX3_insert_89 : decode cX3_insert 89 = .ok (.iastore, 1) := by decide +kernel
theorem dX3_insert_90 : decode cX3_insert 90 = .ok (.aload_n 0, 1) := by decide +kernel
theorem dX3_insert_91 : decode cX3_insert 91 = .ok (.dup, 1) := by decide +kernel
theorem dX3_insert_92 : decode cX3_insert 92 = .ok (.getfield 24, 3) := by decide +kernel
theorem dX3_insert_95 : decode cX3_insert 95 = .ok (.iconst 1, 1) := by decide +kernel
theorem dX3_insert_96 : decode cX3_insert 96 = .ok (.iadd, 1) := by decide +kernel
theorem dX3_insert_97 : decode cX3_insert 97 = .ok (.putfield 24, 3) := by decide +kernel
theorem dX3_insert_100 : decode cX3_insert 100 = .ok (.iconst 1, 1) := by decide +kernel
theorem dX3_insert_101 : decode cX3_insert 101 = .ok (.ireturn, 1) := by decide +kernel
theorem dX3_liesIn_0 : decode cX3_liesIn 0 = .ok (.aload_n 0, 1) := by decide +kernel
theorem dX3_liesIn_1 : decode cX3_liesIn 1 = .ok (.getfield 15, 3) := by decide +kernel
theorem dX3_liesIn_4 : decode cX3_liesIn 4 = .ok (.iload_n 2, 1) := by decide +kernel
theorem dX3_liesIn_5 : decode cX3_liesIn 5 = .ok (.iaload, 1) := by decide +kernel
theorem dX3_liesIn_6 : decode cX3_liesIn 6 = .ok (.aload_n 0, 1) := by decide +kernel
theorem dX3_liesIn_7 : decode cX3_liesIn 7 = .ok (.getfield 15, 3) := by decide +kernel
theorem dX3_liesIn_10 : decode cX3_liesIn 10 = .ok (.iload_n 1, 1) := by decide +kernel
theorem dX3_liesIn_11 : decode cX3_liesIn 11 = .ok (.iaload, 1) := by decide +kernel
theorem dX3_liesIn_12 : decode cX3_liesIn 12 = .ok (.if_icmp .gt 22, 3) := by decide +kernel
theorem dX3_liesIn_15 : decode cX3_liesIn 15 = .ok (.aload_n 0, 1) := by decide +kernel
theorem dX3_liesIn_16 : decode cX3_liesIn 16 = .ok (.getfield 21, 3) := by decide +kernel
theorem dX3_liesIn_19 : decode cX3_liesIn 19 = .ok (.iload_n 1, 1) := by decide +kernel
theorem dX3_liesIn_20 : decode cX3_liesIn 20 = .ok (.iaload, 1) := by decide +kernel
theorem dX3_liesIn_21 : decode cX3_liesIn 21 = .ok (.aload_n 0, 1) := by decide +kernel
theorem dX3_liesIn_22 : decode cX3_liesIn 22 = .ok (.getfield 21, 3) := by decide +kernel
theorem dX3_liesIn_25 : decode cX3_liesIn 25 = .ok (.iload_n 2, 1) := by decide +kernel
theorem dX3_liesIn_26 : decode cX3_liesIn 26 = .ok (.iaload, 1) := by decide +kernel
theorem dX3_liesIn_27 : decode cX3_liesIn 27 = .ok (.if_icmp .gt 7, 3) := by decide +kernel
theorem dX3_liesIn_30 : decode cX3_liesIn 30 = .ok (.iconst 1, 1) := by decide +kernel
theorem dX3_liesIn_31 : decode cX3_liesIn 31 = .ok (.goto 4, 3) := by decide +kernel
theorem dX3_liesIn_34 : decode cX3_liesIn 34 = .ok (.iconst 0, 1) := by decide +kernel
theorem dX3_liesIn_35 : decode cX3_liesIn 35 = .ok (.ireturn, 1) := by decide +kernel
