theorem dX1_init_0 : decode cX1_init 0 = .ok (.aload_n 0, 1) := by decide +kernel
theorem dX1_init_1 : decode cX1_init 1 = .ok (.invokespecial 3, 3) := by decide +kernel
theorem dX1_init_4 : decode cX1_init 4 = .ok (.aload_n 0, 1) := by decide +kernel
theorem dX1_init_5 : decode cX1_init 5 = .ok (.bipush 8, 2) := by decide +kernel
theorem dX1_init_7 : decode cX1_init 7 = .ok (.bipush 80, 2) := by decide +kernel
theorem dX1_init_9 : decode cX1_init 9 = .ok (.multianewarray 9 2, 4) := by decide +kernel
theorem dX1_init_13 : decode cX1_init 13 = .ok (.putfield 11, 3) := by decide +kernel
theorem dX1_init_16 : decode cX1_init 16 = .ok (.aload_n 0, 1) := by decide +kernel
theorem dX1_init_17 : decode cX1_init 17 = .ok (.bipush 8, 2) := by decide +kernel
theorem dX1_init_19 : decode cX1_init 19 = .ok (.bipush 80, 2) := by decide +kernel
theorem dX1_init_21 : decode cX1_init 21 = .ok (.multianewarray 9 2, 4) := by decide +kernel
theorem dX1_init_25 : decode cX1_init 25 = .ok (.putfield 16, 3) := by decide +kernel
theorem dX1_init_28 : decode cX1_init 28 = .ok (.return_, 1) := by decide +kernel
theorem dX1_forget_0 : decode cX1_forget 0 = .ok (.aload_n 0, 1) := by decide +kernel
theorem dX1_forget_1 : decode cX1_forget 1 = .ok (.iconst 0, 1) := by decide +kernel
theorem dX1_forget_2 : decode cX1_forget 2 = .ok (.putfield 19, 3) := by decide +kernel
theorem dX1_forget_5 : decode cX1_forget 5 = .ok (.return_, 1) := by decide +kernel
set_option maxRecDepth 20000 in
theorem ggX1_open_J7_fill_d0a16 : GoodIn wsX1_open wsJ7_fill_d0a16 := goodIn_r _ [7] (by decide +kernel) (by decide +kernel)
set_option maxRecDepth 20000 in
theorem gX1_open_J7_fill_d0a16 : GoodIn wsX1_open (va_wsS RX1 25 yJ7_fill_d0a16 wsJ7_fill_d0a16) := goodIn_app (goodIn_of _ (by decide +kernel)) ggX1_open_J7_fill_d0a16
theorem dX1_open_0 : decode cX1_open 0 = .ok (.aload_n 0, 1) := by decide +kernel
theorem dX1_open_1 : decode cX1_open 1 = .ok (.getfield 19, 3) := by decide +kernel
theorem dX1_open_4 : decode cX1_open 4 = .ok (.bipush 8, 2) := by decide +kernel
theorem dX1_open_6 : decode cX1_open 6 = .ok (.if_icmp .lt 5, 3) := by decide +kernel
theorem dX1_open_9 : decode cX1_open 9 = .ok (.iconst (-1), 1) := by decide +kernel
theorem dX1_open_10 : decode cX1_open 10 = .ok (.ireturn, 1) := by decide +kernel
theorem dX1_open_11 : decode cX1_open 11 = .ok (.aload_n 0, 1) := by decide +kernel
theorem dX1_open_12 : decode cX1_open 12 = .ok (.getfield 11, 3) := by decide +kernel
theorem dX1_open_15 : decode cX1_open 15 = .ok (.aload_n 0, 1) := by decide +kernel
theorem dX1_open_16 : decode cX1_open 16 = .ok (.getfield 19, 3) := by decide +kernel
theorem dX1_open_19 : decode cX1_open 19 = .ok (.aaload, 1) := by decide +kernel
theorem dX1_open_20 : decode cX1_open 20 = .ok (.ldc2_w 23, 3) := by decide +kernel
theorem dX1_open_23 : decode cX1_open 23 = .ok (.invokestatic 25, 3) := by decide +kernel
theorem dX1_open_26 : decode cX1_open 26 = .ok (.aload_n 0, 1) := by decide +kernel
theorem dX1_open_27 : decode cX1_open 27 = .ok (.dup, 1) := by decide +kernel
theorem dX1_open_28 : decode cX1_open 28 = .ok (.getfield 19, 3) := by decide +kernel
theorem dX1_open_31 : decode cX1_open 31 = .ok (.iconst 1, 1) := by decide +kernel
theorem dX1_open_32 : decode cX1_open 32 = .ok (.iadd, 1) := by decide +kernel
theorem dX1_open_33 : decode cX1_open 33 = .ok (.putfield 19, 3) := by decide +kernel
theorem dX1_open_36 : decode cX1_open 36 = .ok (.aload_n 0, 1) := by decide +kernel
theorem dX1_open_37 : decode cX1_open 37 = .ok (.getfield 19, 3) := by decide +kernel
theorem dX1_open_40 : decode cX1_open 40 = .ok (.iconst 1, 1) := by decide +kernel
theorem dX1_open_41 : decode cX1_open 41 = .ok (.isub, 1) := by decide +kernel
theorem dX1_open_42 : decode cX1_open 42 = .ok (.ireturn, 1) := by decide +kernel
theorem dX1_addRow_0 : decode cX1_addRow 0 = .ok (.aload_n 0, 1) := by decide +kernel
theorem dX1_addRow_1 : decode cX1_addRow 1 = .ok (.getfield 11, 3) := by decide +kernel
theorem dX1_addRow_4 : decode cX1_addRow 4 = .ok (.iload_n 1, 1) := by decide +kernel
theorem dX1_addRow_5 : decode cX1_addRow 5 = .ok (.aaload, 1) := by decide +kernel
theorem dX1_addRow_6 : decode cX1_addRow 6 = .ok (.iload_n 2, 1) := by decide +kernel
theorem dX1_addRow_7 : decode cX1_addRow 7 = .ok (.laload, 1) := by decide +kernel
theorem dX1_addRow_8 : decode cX1_addRow 8 = .ok (.ldc2_w 23, 3) := by decide +kernel
theorem dX1_addRow_11 : decode cX1_addRow 11 = .ok (.lcmp, 1) := by decide +kernel
theorem dX1_addRow_12 : decode cX1_addRow 12 = .ok (.ifCond .eq 5, 3) := by decide +kernel
theorem dX1_addRow_15 : decode cX1_addRow 15 = .ok (.iconst 0, 1) := by decide +kernel
theorem dX1_addRow_16 : decode cX1_addRow 16 = .ok (.ireturn, 1) := by decide +kernel
theorem dX1_addRow_17 : decode cX1_addRow 17 = .ok (.aload_n 0, 1) := by decide +kernel
theorem dX1_addRow_18 : decode cX1_addRow 18 = .ok (.getfield 11, 3) := by decide +kernel
theorem dX1_addRow_21 : decode cX1_addRow 21 = .ok (.iload_n 1, 1) := by decide +kernel
theorem dX1_addRow_22 : decode cX1_addRow 22 = .ok (.aaload, 1) := by decide +kernel
theorem dX1_addRow_23 : decode cX1_addRow 23 = .ok (.iload_n 2, 1) := by decide +kernel
theorem dX1_addRow_24 : decode cX1_addRow 24 = .ok (.lload_n 3, 1) := by decide +kernel
theorem dX1_addRow_25 : decode cX1_addRow 25 = .ok (.lastore, 1) := by decide +kernel
theorem dX1_addRow_26 : decode cX1_addRow 26 = .ok (.aload_n 0, 1) := by decide +kernel
theorem dX1_addRow_27 : decode cX1_addRow 27 = .ok (.getfield 16, 3) := by decide +kernel
theorem dX1_addRow_30 : decode cX1_addRow 30 = .ok (.iload_n 1, 1) := by decide +kernel
theorem dX1_addRow_31 : decode cX1_addRow 31 = .ok (.aaload, 1) := by decide +kernel
theorem dX1_addRow_32 : decode cX1_addRow 32 = .ok (.iload_n 2, 1) := by decide +kernel
theorem dX1_addRow_33 : decode cX1_addRow 33 = .ok (.lload 5, 2) := by decide +kernel
theorem dX1_addRow_35 : decode cX1_addRow 35 = .ok (.lastore, 1) := by decide +kernel
theorem dX1_addRow_36 : decode cX1_addRow 36 = .ok (.iconst 1, 1) := by decide +kernel
theorem dX1_addRow_37 : decode cX1_addRow 37 = .ok (.ireturn, 1) := by decide +kernel
set_option maxRecDepth 20000 in
theorem ggX1_countChanges_X1_fits : GoodIn wsX1_countChanges wsX1_fits := goodIn_r _ [8, 9, 10, 11, 24, 25, 26] (by decide +kernel) (by decide +kernel)
set_option maxRecDepth 20000 in
theorem gX1_countChanges_X1_fits : GoodIn wsX1_countChanges (wsV RX1 43 RX1 yX1_fits wsX1_fits) := goodIn_app (goodIn_of _ (by decide +kernel)) ggX1_countChanges_X1_fits
theorem dX1_countChanges_0 : decode cX1_countChanges 0 = .ok (.iconst 0, 1) := by decide +kernel
theorem dX1_countChanges_1 : decode cX1_countChanges 1 = .ok (.istore_n 3, 1) := by decide +kernel
theorem dX1_countChanges_2 : decode cX1_countChanges 2 = .ok (.iconst 0, 1) := by decide +kernel
theorem dX1_countChanges_3 : decode cX1_countChanges 3 = .ok (.istore 4, 2) := by decide +kernel
theorem dX1_countChanges_5 : decode cX1_countChanges 5 = .ok (.iload 4, 2) := by decide +kernel
theorem dX1_countChanges_7 : decode cX1_countChanges 7 = .ok (.aload_n 2, 1) := by decide +kernel
theorem dX1_countChanges_8 : decode cX1_countChanges 8 = .ok (.getfield 31, 3) := by decide +kernel
theorem dX1_countChanges_11 : decode cX1_countChanges 11 = .ok (.if_icmp .ge 41, 3) := by decide +kernel
theorem dX1_countChanges_14 : decode cX1_countChanges 14 = .ok (.aload_n 2, 1) := by decide +kernel
theorem dX1_countChanges_15 : decode cX1_countChanges 15 = .ok (.getfield 36, 3) := by decide +kernel
theorem dX1_countChanges_18 : decode cX1_countChanges 18 = .ok (.iload 4, 2) := by decide +kernel
theorem dX1_countChanges_20 : decode cX1_countChanges 20 = .ok (.iaload, 1) := by decide +kernel
theorem dX1_countChanges_21 : decode cX1_countChanges 21 = .ok (.iconst 4, 1) := by decide +kernel
theorem dX1_countChanges_22 : decode cX1_countChanges 22 = .ok (.if_icmp .eq 24, 3) := by decide +kernel
theorem dX1_countChanges_25 : decode cX1_countChanges 25 = .ok (.aload_n 0, 1) := by decide +kernel
theorem dX1_countChanges_26 : decode cX1_countChanges 26 = .ok (.iload_n 1, 1) := by decide +kernel
theorem dX1_countChanges_27 : decode cX1_countChanges 27 = .ok (.iload 4, 2) := by decide +kernel
theorem dX1_countChanges_29 : decode cX1_countChanges 29 = .ok (.aload_n 2, 1) := by decide +kernel
theorem dX1_countChanges_30 : decode cX1_countChanges 30 = .ok (.getfield 40, 3) := by decide +kernel
theorem dX1_countChanges_33 : decode cX1_countChanges 33 = .ok (.iload 4, 2) := by decide +kernel
theorem dX1_countChanges_35 : decode cX1_countChanges 35 = .ok (.iaload, 1) := by decide +kernel
theorem dX1_countChanges_36 : decode cX1_countChanges 36 = .ok (.i2l, 1) := by decide +kernel
theorem dX1_countChanges_37 : decode cX1_countChanges 37 = .ok (.invokevirtual 43, 3) := by decide +kernel
theorem dX1_countChanges_40 : decode cX1_countChanges 40 = .ok (.ifCond .ne 6, 3) := by decide +kernel
theorem dX1_countChanges_43 : decode cX1_countChanges 43 = .ok (.iinc 3 1, 3) := by decide +kernel
theorem dX1_countChanges_46 : decode cX1_countChanges 46 = .ok (.iinc 4 1, 3) := by decide +kernel
theorem dX1_countChanges_49 : decode cX1_countChanges 49 = .ok (.goto (-44), 3) := by decide +kernel
theorem dX1_countChanges_52 : decode cX1_countChanges 52 = .ok (.iload_n 3, 1) := by decide +kernel
theorem dX1_countChanges_53 : decode cX1_countChanges 53 = .ok (.ireturn, 1) := by decide +kernel
set_option maxRecDepth 20000 in
theorem ggX1_findLeastChanged_X1_countChanges : GoodIn wsX1_findLeastChanged wsX1_countChanges := goodIn_r _ [6, 7, 8, 9, 10, 11, 12, 5, 13, 14, 15, 16, 20, 21, 22, 23, 24, 25, 26, 27, 28, 29, 30, 31, 17, 18, 19] (by decide +kernel) (by decide +kernel)
set_option maxRecDepth 20000 in
theorem gX1_findLeastChanged_X1_countChanges : GoodIn wsX1_findLeastChanged (wsV RX1 47 RX1 yX1_countChanges wsX1_countChanges) := goodIn_app (goodIn_of _ (by decide +kernel)) ggX1_findLeastChanged_X1_countChanges
theorem dX1_findLeastChanged_0 : decode cX1_findLeastChanged 0 = .ok (.iconst (-1), 1) := by decide +kernel
theorem dX1_findLeastChanged_1 : decode cX1_findLeastChanged 1 = .ok (.istore_n 2, 1) := by decide +kernel
theorem dX1_findLeastChanged_2 : decode cX1_findLeastChanged 2 = .ok (.bipush 81, 2) := by decide +kernel
theorem dX1_findLeastChanged_4 : decode cX1_findLeastChanged 4 = .ok (.istore_n 3, 1) := by decide +kernel
theorem dX1_findLeastChanged_5 : decode cX1_findLeastChanged 5 = .ok (.iconst 0, 1) := by decide +kernel
theorem dX1_findLeastChanged_6 : decode cX1_findLeastChanged 6 = .ok (.istore 4, 2) := by decide +kernel
theorem dX1_findLeastChanged_8 : decode cX1_findLeastChanged 8 = .ok (.iload 4, 2) := by decide +kernel
theorem dX1_findLeastChanged_10 : decode cX1_findLeastChanged 10 = .ok (.aload_n 0, 1) := by decide +kernel
theorem dX1_findLeastChanged_11 : decode cX1_findLeastChanged 11 = .ok (.getfield 19, 3) := by decide +kernel
theorem dX1_findLeastChanged_14 : decode cX1_findLeastChanged 14 = .ok (.if_icmp .ge 30, 3) := by decide +kernel
theorem dX1_findLeastChanged_17 : decode cX1_findLeastChanged 17 = .ok (.aload_n 0, 1) := by decide +kernel
theorem dX1_findLeastChanged_18 : decode cX1_findLeastChanged 18 = .ok (.iload 4, 2) := by decide +kernel
theorem dX1_findLeastChanged_20 : decode cX1_findLeastChanged 20 = .ok (.aload_n 1, 1) := by decide +kernel
theorem dX1_findLeastChanged_21 : decode cX1_findLeastChanged 21 = .ok (.invokevirtual 47, 3) := by decide +kernel
theorem dX1_findLeastChanged_24 : decode cX1_findLeastChanged 24 = .ok (.istore 5, 2) := by decide +kernel
theorem dX1_findLeastChanged_26 : decode cX1_findLeastChanged 26 = .ok (.iload 5, 2) := by decide +kernel
theorem dX1_findLeastChanged_28 : decode cX1_findLeastChanged 28 = .ok (.iload_n 3, 1) := by decide +kernel
theorem dX1_findLeastChanged_29 : decode cX1_findLeastChanged 29 = .ok (.if_icmp .ge 9, 3) := by decide +kernel
theorem dX1_findLeastChanged_32 : decode cX1_findLeastChanged 32 = .ok (.iload 4, 2) := by decide +kernel
theorem dX1_findLeastChanged_34 : decode cX1_findLeastChanged 34 = .ok (.istore_n 2, 1) := by decide +kernel
theorem dX1_findLeastChanged_35 : decode cX1_findLeastChanged 35 = .ok (.iload 5, 2) := by decide +kernel
theorem dX1_findLeastChanged_37 : decode cX1_findLeastChanged 37 = .ok (.istore_n 3, 1) := by decide +kernel
theorem dX1_findLeastChanged_38 : decode cX1_findLeastChanged 38 = .ok (.iinc 4 1, 3) := by decide +kernel
theorem dX1_findLeastChanged_41 : decode cX1_findLeastChanged 41 = .ok (.goto (-33), 3) := by decide +kernel
theorem dX1_findLeastChanged_44 : decode cX1_findLeastChanged 44 = .ok (.iload_n 2, 1) := by decide +kernel
theorem dX1_findLeastChanged_45 : decode cX1_findLeastChanged 45 = .ok (.ireturn, 1) := by decide +kernel
theorem dX1_fits_0 : decode cX1_fits 0 = .ok (.aload_n 0, 1) := by decide +kernel
theorem dX1_fits_1 : decode cX1_fits 1 = .ok (.getfield 11, 3) := by decide +kernel
theorem dX1_fits_4 : decode cX1_fits 4 = .ok (.iload_n 1, 1) := by decide +kernel
theorem dX1_fits_5 : decode cX1_fits 5 = .ok (.aaload, 1) := by decide +kernel
theorem dX1_fits_6 : decode cX1_fits 6 = .ok (.iload_n 2, 1) := by decide +kernel
theorem dX1_fits_7 : decode cX1_fits 7 = .ok (.laload, 1) := by decide +kernel
theorem dX1_fits_8 : decode cX1_fits 8 = .ok (.lstore 5, 2) := by decide +kernel
theorem dX1_fits_10 : decode cX1_fits 10 = .ok (.lload 5, 2) := by decide +kernel
theorem dX1_fits_12 : decode cX1_fits 12 = .ok (.ldc2_w 23, 3) := by decide +kernel
theorem dX1_fits_15 : decode cX1_fits 15 = .ok (.lcmp, 1) := by decide +kernel
theorem dX1_fits_16 : decode cX1_fits 16 = .ok (.ifCond .eq 27, 3) := by decide +kernel
theorem dX1_fits_19 : decode cX1_fits 19 = .ok (.lload 5, 2) := by decide +kernel
theorem dX1_fits_21 : decode cX1_fits 21 = .ok (.lload_n 3, 1) := by decide +kernel
theorem dX1_fits_22 : decode cX1_fits 22 = .ok (.lcmp, 1) := by decide +kernel
theorem dX1_fits_23 : decode cX1_fits 23 = .ok (.ifCond .gt 20, 3) := by decide +kernel
theorem dX1_fits_26 : decode cX1_fits 26 = .ok (.lload_n 3, 1) := by decide +kernel
theorem dX1_fits_27 : decode cX1_fits 27 = .ok (.aload_n 0, 1) := by decide +kernel
theorem dX1_fits_28 : decode cX1_fits 28 = .ok (.getfield 16, 3) := by decide +kernel
theorem dX1_fits_31 : decode cX1_fits 31 = .ok (.iload_n 1, 1) := by decide +kernel
theorem dX1_fits_32 : decode cX1_fits 32 = .ok (.aaload, 1) := by decide +kernel
theorem dX1_fits_33 : decode cX1_fits 33 = .ok (.iload_n 2, 1) := by decide +kernel
theorem dX1_fits_34 : decode cX1_fits 34 = .ok (.laload, 1) := by decide +kernel
theorem dX1_fits_35 : decode cX1_fits 35 = .ok (.lcmp, 1) := by decide +kernel
theorem dX1_fits_36 : decode cX1_fits 36 = .ok (.ifCond .gt 7, 3) := by decide +kernel
theorem dX1_fits_39 : decode cX1_fits 39 = .ok (.iconst 1, 1) := by decide +kernel
theorem dX1_fits_40 : decode cX1_fits 40 = .ok (.goto 4, 3) := by decide +kernel
theorem dX1_fits_43 : decode cX1_fits 43 = .ok (.iconst 0, 1) := by decide +kernel
theorem dX1_fits_44 : decode cX1_fits 44 = .ok (.ireturn, 1) := by decide +kernel
