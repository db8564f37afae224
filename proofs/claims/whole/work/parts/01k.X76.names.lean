theorem dX7_endOf_43 : decode cX7_endOf 43 = .ok (.i2l, 1) := by decide +kernel
theorem dX7_endOf_44 : decode cX7_endOf 44 = .ok (.ladd, 1) := by decide +kernel
theorem dX7_endOf_45 : decode cX7_endOf 45 = .ok (.lmul, 1) := by decide +kernel
theorem dX7_endOf_46 : decode cX7_endOf 46 = .ok (.lreturn, 1) := by decide +kernel
theorem dX7_isBit_0 : decode cX7_isBit 0 = .ok (.iload_n 0, 1) := by decide +kernel
theorem dX7_isBit_1 : decode cX7_isBit 1 = .ok (.ifCond .eq 8, 3) := by decide +kernel
theorem dX7_isBit_4 : decode cX7_isBit 4 = .ok (.iload_n 0, 1) := by decide +kernel
theorem dX7_isBit_5 : decode cX7_isBit 5 = .ok (.iconst 1, 1) := by decide +kernel
theorem dX7_isBit_6 : decode cX7_isBit 6 = .ok (.if_icmp .ne 7, 3) := by decide +kernel
theorem dX7_isBit_9 : decode cX7_isBit 9 = .ok (.iconst 1, 1) := by decide +kernel
theorem dX7_isBit_10 : decode cX7_isBit 10 = .ok (.goto 4, 3) := by decide +kernel
theorem dX7_isBit_13 : decode cX7_isBit 13 = .ok (.iconst 0, 1) := by decide +kernel
theorem dX7_isBit_14 : decode cX7_isBit 14 = .ok (.ireturn, 1) := by decide +kernel
set_option maxRecDepth 20000 in
theorem ggX7_thick_X7_isLayer : GoodIn wsX7_thick wsX7_isLayer := goodIn_r _ [9, 10, 11, 2, 27, 28, 29, 30, 31, 32, 33, 34, 35, 36, 37, 38, 39, 40, 41, 42, 43, 44, 45, 46, 47, 48, 49, 50, 51, 52, 53, 54, 55, 56, 57, 58, 59] (by decide +kernel) (by decide +kernel)
set_option maxRecDepth 20000 in
theorem gX7_thick_X7_isLayer : GoodIn wsX7_thick (wsV RX7 214 RX7 yX7_isLayer wsX7_isLayer) := goodIn_app (goodIn_of _ (by decide +kernel)) ggX7_thick_X7_isLayer
set_option maxRecDepth 20000 in
theorem ggX7_thick_X7_isBit : GoodIn wsX7_thick wsX7_isBit := goodIn_r _ [14] (by decide +kernel) (by decide +kernel)
set_option maxRecDepth 20000 in
theorem gX7_thick_X7_isBit : GoodIn wsX7_thick (va_wsS RX7 217 yX7_isBit wsX7_isBit) := goodIn_app (goodIn_of _ (by decide +kernel)) ggX7_thick_X7_isBit
set_option maxRecDepth 20000 in
theorem ggX7_thick_X7_endOf : GoodIn wsX7_thick wsX7_endOf := goodIn_r _ [18, 2, 19, 4, 20, 27, 28, 29, 30, 31, 32, 33, 34, 35, 36, 37, 38, 39, 40, 41, 42, 43, 44, 45, 46, 47, 48, 49, 50, 51, 52, 53, 54, 55, 56, 57, 58, 59] (by decide +kernel) (by decide +kernel)
set_option maxRecDepth 20000 in
theorem gX7_thick_X7_endOf : GoodIn wsX7_thick (wsV RX7 220 RX7 yX7_endOf wsX7_endOf) := goodIn_app (goodIn_of _ (by decide +kernel)) ggX7_thick_X7_endOf
set_option maxRecDepth 20000 in
theorem ggX7_thick_X7_partOf : GoodIn wsX7_thick wsX7_partOf := goodIn_r _ [23, 24, 25, 8, 26] (by decide +kernel) (by decide +kernel)
set_option maxRecDepth 20000 in
theorem gX7_thick_X7_partOf : GoodIn wsX7_thick (va_wsS RX7 223 yX7_partOf wsX7_partOf) := goodIn_app (goodIn_of _ (by decide +kernel)) ggX7_thick_X7_partOf
theorem dX7_thick_0 : decode cX7_thick 0 = .ok (.aload_n 0, 1) := by decide +kernel
theorem dX7_thick_1 : decode cX7_thick 1 = .ok (.aload_n 0, 1) := by decide +kernel
theorem dX7_thick_2 : decode cX7_thick 2 = .ok (.iload_n 1, 1) := by decide +kernel
theorem dX7_thick_3 : decode cX7_thick 3 = .ok (.invokevirtual 214, 3) := by decide +kernel
theorem dX7_thick_6 : decode cX7_thick 6 = .ok (.ifCond .eq 17, 3) := by decide +kernel
theorem dX7_thick_9 : decode cX7_thick 9 = .ok (.iload_n 2, 1) := by decide +kernel
theorem dX7_thick_10 : decode cX7_thick 10 = .ok (.invokestatic 217, 3) := by decide +kernel
theorem dX7_thick_13 : decode cX7_thick 13 = .ok (.ifCond .eq 10, 3) := by decide +kernel
theorem dX7_thick_16 : decode cX7_thick 16 = .ok (.iload_n 3, 1) := by decide +kernel
theorem dX7_thick_17 : decode cX7_thick 17 = .ok (.invokestatic 217, 3) := by decide +kernel
theorem dX7_thick_20 : decode cX7_thick 20 = .ok (.ifCond .ne 7, 3) := by decide +kernel
theorem dX7_thick_23 : decode cX7_thick 23 = .ok (.iconst 1, 1) := by decide +kernel
theorem dX7_thick_24 : decode cX7_thick 24 = .ok (.goto 26, 3) := by decide +kernel
theorem dX7_thick_27 : decode cX7_thick 27 = .ok (.aload_n 0, 1) := by decide +kernel
theorem dX7_thick_28 : decode cX7_thick 28 = .ok (.getfield 16, 3) := by decide +kernel
theorem dX7_thick_31 : decode cX7_thick 31 = .ok (.bipush 80, 2) := by decide +kernel
theorem dX7_thick_33 : decode cX7_thick 33 = .ok (.aload_n 0, 1) := by decide +kernel
theorem dX7_thick_34 : decode cX7_thick 34 = .ok (.getfield 195, 3) := by decide +kernel
theorem dX7_thick_37 : decode cX7_thick 37 = .ok (.imul, 1) := by decide +kernel
theorem dX7_thick_38 : decode cX7_thick 38 = .ok (.iload_n 1, 1) := by decide +kernel
theorem dX7_thick_39 : decode cX7_thick 39 = .ok (.iadd, 1) := by decide +kernel
theorem dX7_thick_40 : decode cX7_thick 40 = .ok (.iaload, 1) := by decide +kernel
theorem dX7_thick_41 : decode cX7_thick 41 = .ok (.iconst 4, 1) := by decide +kernel
theorem dX7_thick_42 : decode cX7_thick 42 = .ok (.if_icmp .ne 7, 3) := by decide +kernel
theorem dX7_thick_45 : decode cX7_thick 45 = .ok (.iconst 2, 1) := by decide +kernel
theorem dX7_thick_46 : decode cX7_thick 46 = .ok (.goto 4, 3) := by decide +kernel
theorem dX7_thick_49 : decode cX7_thick 49 = .ok (.iconst 0, 1) := by decide +kernel
theorem dX7_thick_50 : decode cX7_thick 50 = .ok (.putfield 72, 3) := by decide +kernel
theorem dX7_thick_53 : decode cX7_thick 53 = .ok (.aload_n 0, 1) := by decide +kernel
theorem dX7_thick_54 : decode cX7_thick 54 = .ok (.getfield 72, 3) := by decide +kernel
theorem dX7_thick_57 : decode cX7_thick 57 = .ok (.ifCond .ne 19, 3) := by decide +kernel
theorem dX7_thick_60 : decode cX7_thick 60 = .ok (.aload_n 0, 1) := by decide +kernel
theorem dX7_thick_61 : decode cX7_thick 61 = .ok (.iload_n 1, 1) := by decide +kernel
theorem dX7_thick_62 : decode cX7_thick 62 = .ok (.iload_n 2, 1) := by decide +kernel
theorem dX7_thick_63 : decode cX7_thick 63 = .ok (.invokevirtual 220, 3) := by decide +kernel
theorem dX7_thick_66 : decode cX7_thick 66 = .ok (.ldc2_w 212, 3) := by decide +kernel
theorem dX7_thick_69 : decode cX7_thick 69 = .ok (.iload_n 3, 1) := by decide +kernel
theorem dX7_thick_70 : decode cX7_thick 70 = .ok (.invokestatic 223, 3) := by decide +kernel
theorem dX7_thick_73 : decode cX7_thick 73 = .ok (.goto 4, 3) := by decide +kernel
theorem dX7_thick_76 : decode cX7_thick 76 = .ok (.lconst 0, 1) := by decide +kernel
theorem dX7_thick_77 : decode cX7_thick 77 = .ok (.lreturn, 1) := by decide +kernel
set_option maxRecDepth 20000 in
theorem ggX7_kind_X7_isLayer : GoodIn wsX7_kind wsX7_isLayer := goodIn_r _ [8, 9, 10, 3, 11, 12, 13, 14, 15, 16, 17, 18, 19, 20, 21, 22, 23, 24, 25, 26, 27, 28, 29, 30, 31, 32, 33, 34, 35, 36, 37, 38, 39, 40, 41, 42, 43] (by decide +kernel) (by decide +kernel)
set_option maxRecDepth 20000 in
theorem gX7_kind_X7_isLayer : GoodIn wsX7_kind (wsV RX7 214 RX7 yX7_isLayer wsX7_isLayer) := goodIn_app (goodIn_of _ (by decide +kernel)) ggX7_kind_X7_isLayer
theorem dX7_kind_0 : decode cX7_kind 0 = .ok (.aload_n 0, 1) := by decide +kernel
theorem dX7_kind_1 : decode cX7_kind 1 = .ok (.aload_n 0, 1) := by decide +kernel
theorem dX7_kind_2 : decode cX7_kind 2 = .ok (.iload_n 1, 1) := by decide +kernel
theorem dX7_kind_3 : decode cX7_kind 3 = .ok (.invokevirtual 214, 3) := by decide +kernel
theorem dX7_kind_6 : decode cX7_kind 6 = .ok (.ifCond .eq 7, 3) := by decide +kernel
theorem dX7_kind_9 : decode cX7_kind 9 = .ok (.iconst 0, 1) := by decide +kernel
theorem dX7_kind_10 : decode cX7_kind 10 = .ok (.goto 4, 3) := by decide +kernel
theorem dX7_kind_13 : decode cX7_kind 13 = .ok (.iconst 1, 1) := by decide +kernel
theorem dX7_kind_14 : decode cX7_kind 14 = .ok (.putfield 72, 3) := by decide +kernel
theorem dX7_kind_17 : decode cX7_kind 17 = .ok (.aload_n 0, 1) := by decide +kernel
theorem dX7_kind_18 : decode cX7_kind 18 = .ok (.getfield 72, 3) := by decide +kernel
theorem dX7_kind_21 : decode cX7_kind 21 = .ok (.ifCond .ne 20, 3) := by decide +kernel
theorem dX7_kind_24 : decode cX7_kind 24 = .ok (.aload_n 0, 1) := by decide +kernel
theorem dX7_kind_25 : decode cX7_kind 25 = .ok (.getfield 16, 3) := by decide +kernel
theorem dX7_kind_28 : decode cX7_kind 28 = .ok (.bipush 80, 2) := by decide +kernel
theorem dX7_kind_30 : decode cX7_kind 30 = .ok (.aload_n 0, 1) := by decide +kernel
theorem dX7_kind_31 : decode cX7_kind 31 = .ok (.getfield 195, 3) := by decide +kernel
theorem dX7_kind_34 : decode cX7_kind 34 = .ok (.imul, 1) := by decide +kernel
theorem dX7_kind_35 : decode cX7_kind 35 = .ok (.iload_n 1, 1) := by decide +kernel
theorem dX7_kind_36 : decode cX7_kind 36 = .ok (.iadd, 1) := by decide +kernel
theorem dX7_kind_37 : decode cX7_kind 37 = .ok (.iaload, 1) := by decide +kernel
theorem dX7_kind_38 : decode cX7_kind 38 = .ok (.goto 4, 3) := by decide +kernel
theorem dX7_kind_41 : decode cX7_kind 41 = .ok (.iconst 0, 1) := by decide +kernel
theorem dX7_kind_42 : decode cX7_kind 42 = .ok (.ireturn, 1) := by decide +kernel
set_option maxRecDepth 20000 in
theorem ggX7_via_X7_isCopper : GoodIn wsX7_via wsX7_isCopper := goodIn_r _ [8, 9, 10, 2, 18, 19, 20, 21, 22, 23, 24, 25, 26, 27, 28, 29, 30, 31, 32, 33, 34, 35, 36, 37, 38, 39, 40, 41, 42, 43, 44, 45, 46, 47, 48, 49, 50] (by decide +kernel) (by decide +kernel)
set_option maxRecDepth 20000 in
theorem gX7_via_X7_isCopper : GoodIn wsX7_via (wsV RX7 227 RX7 yX7_isCopper wsX7_isCopper) := goodIn_app (goodIn_of _ (by decide +kernel)) ggX7_via_X7_isCopper
set_option maxRecDepth 20000 in
theorem ggX7_via_X7_isVia : GoodIn wsX7_via wsX7_isVia := goodIn_r _ [14, 3, 15, 16, 17, 18, 19, 20, 21, 22, 23, 24, 25, 26, 27, 28, 29, 30, 31, 32, 33, 34, 35, 36, 37, 38, 39, 40, 41, 42, 43, 44, 45, 46, 47, 48, 49, 50] (by decide +kernel) (by decide +kernel)
set_option maxRecDepth 20000 in
theorem gX7_via_X7_isVia : GoodIn wsX7_via (wsV RX7 177 RX7 yX7_isVia wsX7_isVia) := goodIn_app (goodIn_of _ (by decide +kernel)) ggX7_via_X7_isVia
theorem dX7_via_0 : decode cX7_via 0 = .ok (.aload_n 0, 1) := by decide +kernel
theorem dX7_via_1 : decode cX7_via 1 = .ok (.aload_n 0, 1) := by decide +kernel
theorem dX7_via_2 : decode cX7_via 2 = .ok (.iload_n 1, 1) := by decide +kernel
theorem dX7_via_3 : decode cX7_via 3 = .ok (.invokevirtual 227, 3) := by decide +kernel
theorem dX7_via_6 : decode cX7_via 6 = .ok (.ifCond .eq 15, 3) := by decide +kernel
theorem dX7_via_9 : decode cX7_via 9 = .ok (.aload_n 0, 1) := by decide +kernel
theorem dX7_via_10 : decode cX7_via 10 = .ok (.iload_n 2, 1) := by decide +kernel
theorem dX7_via_11 : decode cX7_via 11 = .ok (.invokevirtual 227, 3) := by decide +kernel
theorem dX7_via_14 : decode cX7_via 14 = .ok (.ifCond .eq 7, 3) := by decide +kernel
theorem dX7_via_17 : decode cX7_via 17 = .ok (.iconst 0, 1) := by decide +kernel
theorem dX7_via_18 : decode cX7_via 18 = .ok (.goto 4, 3) := by decide +kernel
theorem dX7_via_21 : decode cX7_via 21 = .ok (.iconst 1, 1) := by decide +kernel
theorem dX7_via_22 : decode cX7_via 22 = .ok (.putfield 72, 3) := by decide +kernel
theorem dX7_via_25 : decode cX7_via 25 = .ok (.aload_n 0, 1) := by decide +kernel
theorem dX7_via_26 : decode cX7_via 26 = .ok (.getfield 72, 3) := by decide +kernel
theorem dX7_via_29 : decode cX7_via 29 = .ok (.ifCond .eq 5, 3) := by decide +kernel
theorem dX7_via_32 : decode cX7_via 32 = .ok (.iconst 0, 1) := by decide +kernel
theorem dX7_via_33 : decode cX7_via 33 = .ok (.ireturn, 1) := by decide +kernel
theorem dX7_via_34 : decode cX7_via 34 = .ok (.aload_n 0, 1) := by decide +kernel
theorem dX7_via_35 : decode cX7_via 35 = .ok (.aload_n 0, 1) := by decide +kernel
theorem dX7_via_36 : decode cX7_via 36 = .ok (.getfield 195, 3) := by decide +kernel
theorem dX7_via_39 : decode cX7_via 39 = .ok (.putfield 134, 3) := by decide +kernel
theorem dX7_via_42 : decode cX7_via 42 = .ok (.aload_n 0, 1) := by decide +kernel
theorem dX7_via_43 : decode cX7_via 43 = .ok (.iload_n 1, 1) := by decide +kernel
theorem dX7_via_44 : decode cX7_via 44 = .ok (.iload_n 2, 1) := by decide +kernel
theorem dX7_via_45 : decode cX7_via 45 = .ok (.if_icmp .ge 7, 3) := by decide +kernel
theorem dX7_via_48 : decode cX7_via 48 = .ok (.iload_n 1, 1) := by decide +kernel
theorem dX7_via_49 : decode cX7_via 49 = .ok (.goto 4, 3) := by decide +kernel
theorem dX7_via_52 : decode cX7_via 52 = .ok (.iload_n 2, 1) := by decide +kernel
theorem dX7_via_53 : decode cX7_via 53 = .ok (.iload_n 1, 1) := by decide +kernel
theorem dX7_via_54 : decode cX7_via 54 = .ok (.iload_n 2, 1) := by decide +kernel
theorem dX7_via_55 : decode cX7_via 55 = .ok (.if_icmp .ge 7, 3) := by decide +kernel
theorem dX7_via_58 : decode cX7_via 58 = .ok (.iload_n 2, 1) := by decide +kernel
theorem dX7_via_59 : decode cX7_via 59 = .ok (.goto 4, 3) := by decide +kernel
theorem dX7_via_62 : decode cX7_via 62 = .ok (.iload_n 1, 1) := by decide +kernel
theorem dX7_via_63 : decode cX7_via 63 = .ok (.invokevirtual 177, 3) := by decide +kernel
theorem dX7_via_66 : decode cX7_via 66 = .ok (.ireturn, 1) := by decide +kernel
theorem dX7_isWithin_0 : decode cX7_isWithin 0 = .ok (.iload_n 1, 1) := by decide +kernel
theorem dX7_isWithin_1 : decode cX7_isWithin 1 = .ok (.iload_n 2, 1) := by decide +kernel
theorem dX7_isWithin_2 : decode cX7_isWithin 2 = .ok (.if_icmp .eq 37, 3) := by decide +kernel
theorem dX7_isWithin_5 : decode cX7_isWithin 5 = .ok (.aload_n 0, 1) := by decide +kernel
theorem dX7_isWithin_6 : decode cX7_isWithin 6 = .ok (.getfield 41, 3) := by decide +kernel
theorem dX7_isWithin_9 : decode cX7_isWithin 9 = .ok (.iload_n 1, 1) := by decide +kernel
theorem dX7_isWithin_10 : decode cX7_isWithin 10 = .ok (.iaload, 1) := by decide +kernel
theorem dX7_isWithin_11 : decode cX7_isWithin 11 = .ok (.aload_n 0, 1) := by decide +kernel
theorem dX7_isWithin_12 : decode cX7_isWithin 12 = .ok (.getfield 41, 3) := by decide +kernel
theorem dX7_isWithin_15 : decode cX7_isWithin 15 = .ok (.iload_n 2, 1) := by decide +kernel
theorem dX7_isWithin_16 : decode cX7_isWithin 16 = .ok (.iaload, 1) := by decide +kernel
theorem dX7_isWithin_17 : decode cX7_isWithin 17 = .ok (.if_icmp .lt 22, 3) := by decide +kernel
theorem dX7_isWithin_20 : decode cX7_isWithin 20 = .ok (.aload_n 0, 1) := by decide +kernel
theorem dX7_isWithin_21 : decode cX7_isWithin 21 = .ok (.getfield 44, 3) := by decide +kernel
theorem dX7_isWithin_24 : decode cX7_isWithin 24 = .ok (.iload_n 1, 1) := by decide +kernel
theorem dX7_isWithin_25 : decode cX7_isWithin 25 = .ok (.iaload, 1) := by decide +kernel
theorem dX7_isWithin_26 : decode cX7_isWithin 26 = .ok (.aload_n 0, 1) := by decide +kernel
theorem dX7_isWithin_27 : decode cX7_isWithin 27 = .ok (.getfield 44, 3) := by decide +kernel
theorem dX7_isWithin_30 : decode cX7_isWithin 30 = .ok (.iload_n 2, 1) := by decide +kernel
theorem dX7_isWithin_31 : decode cX7_isWithin 31 = .ok (.iaload, 1) := by decide +kernel
theorem dX7_isWithin_32 : decode cX7_isWithin 32 = .ok (.if_icmp .gt 7, 3) := by decide +kernel
theorem dX7_isWithin_35 : decode cX7_isWithin 35 = .ok (.iconst 1, 1) := by decide +kernel
theorem dX7_isWithin_36 : decode cX7_isWithin 36 = .ok (.goto 4, 3) := by decide +kernel
theorem dX7_isWithin_39 : decode cX7_isWithin 39 = .ok (.iconst 0, 1) := by decide +kernel
theorem dX7_isWithin_40 : decode cX7_isWithin 40 = .ok (.ireturn, 1) := by decide +kernel
set_option maxRecDepth 20000 in
theorem ggX7_pressed_X7_isWithin : GoodIn wsX7_pressed wsX7_isWithin := goodIn_r _ [11, 5, 6, 12, 13, 14, 15, 16, 17, 18, 19, 20, 21, 22, 23, 24, 25, 26, 27, 28, 29, 30, 31, 32, 33, 34, 35, 36, 37, 38, 39, 40, 41, 42, 43, 44] (by decide +kernel) (by decide +kernel)
set_option maxRecDepth 20000 in
theorem gX7_pressed_X7_isWithin : GoodIn wsX7_pressed (wsV RX7 230 RX7 yX7_isWithin wsX7_isWithin) := goodIn_app (goodIn_of _ (by decide +kernel)) ggX7_pressed_X7_isWithin
theorem dX7_pressed_0 : decode cX7_pressed 0 = .ok (.aload_n 0, 1) := by decide +kernel
theorem dX7_pressed_1 : decode cX7_pressed 1 = .ok (.aload_n 0, 1) := by decide +kernel
theorem dX7_pressed_2 : decode cX7_pressed 2 = .ok (.getfield 201, 3) := by decide +kernel
theorem dX7_pressed_5 : decode cX7_pressed 5 = .ok (.ifCond .eq 33, 3) := by decide +kernel
theorem dX7_pressed_8 : decode cX7_pressed 8 = .ok (.iload_n 1, 1) := by decide +kernel
theorem dX7_pressed_9 : decode cX7_pressed 9 = .ok (.ifCond .lt 29, 3) := by decide +kernel
theorem dX7_pressed_12 : decode cX7_pressed 12 = .ok (.iload_n 1, 1) := by decide +kernel
theorem dX7_pressed_13 : decode cX7_pressed 13 = .ok (.aload_n 0, 1) := by decide +kernel
theorem dX7_pressed_14 : decode cX7_pressed 14 = .ok (.getfield 38, 3) := by decide +kernel
theorem dX7_pressed_17 : decode cX7_pressed 17 = .ok (.aload_n 0, 1) := by decide +kernel
theorem dX7_pressed_18 : decode cX7_pressed 18 = .ok (.getfield 195, 3) := by decide +kernel
theorem dX7_pressed_21 : decode cX7_pressed 21 = .ok (.iaload, 1) := by decide +kernel
theorem dX7_pressed_22 : decode cX7_pressed 22 = .ok (.if_icmp .ge 16, 3) := by decide +kernel
theorem dX7_pressed_25 : decode cX7_pressed 25 = .ok (.iload_n 2, 1) := by decide +kernel
theorem dX7_pressed_26 : decode cX7_pressed 26 = .ok (.ifCond .lt 12, 3) := by decide +kernel
theorem dX7_pressed_29 : decode cX7_pressed 29 = .ok (.iload_n 2, 1) := by decide +kernel
theorem dX7_pressed_30 : decode cX7_pressed 30 = .ok (.iconst 3, 1) := by decide +kernel
theorem dX7_pressed_31 : decode cX7_pressed 31 = .ok (.if_icmp .ge 7, 3) := by decide +kernel
theorem dX7_pressed_34 : decode cX7_pressed 34 = .ok (.iconst 0, 1) := by decide +kernel
theorem dX7_pressed_35 : decode cX7_pressed 35 = .ok (.goto 4, 3) := by decide +kernel
theorem dX7_pressed_38 : decode cX7_pressed 38 = .ok (.iconst 1, 1) := by decide +kernel
theorem dX7_pressed_39 : decode cX7_pressed 39 = .ok (.putfield 72, 3) := by decide +kernel
theorem dX7_pressed_42 : decode cX7_pressed 42 = .ok (.aload_n 0, 1) := by decide +kernel
theorem dX7_pressed_43 : decode cX7_pressed 43 = .ok (.getfield 72, 3) := by decide +kernel
theorem dX7_pressed_46 : decode cX7_pressed 46 = .ok (.ifCond .eq 5, 3) := by decide +kernel
theorem dX7_pressed_49 : decode cX7_pressed 49 = .ok (.iconst 0, 1) := by decide +kernel
theorem dX7_pressed_50 : decode cX7_pressed 50 = .ok (.ireturn, 1) := by decide +kernel
theorem dX7_pressed_51 : decode cX7_pressed 51 = .ok (.bipush 22, 2) := by decide +kernel
theorem dX7_pressed_53 : decode cX7_pressed 53 = .ok (.aload_n 0, 1) := by decide +kernel
theorem dX7_pressed_54 : decode cX7_pressed 54 = .ok (.getfield 195, 3) := by decide +kernel
theorem dX7_pressed_57 : decode cX7_pressed 57 = .ok (.imul, 1) := by decide +kernel
theorem dX7_pressed_58 : decode cX7_pressed 58 = .ok (.iload_n 1, 1) := by decide +kernel
theorem dX7_pressed_59 : decode cX7_pressed 59 = .ok (.iadd, 1) := by decide +kernel
theorem dX7_pressed_60 : decode cX7_pressed 60 = .ok (.istore_n 3, 1) := by decide +kernel
theorem dX7_pressed_61 : decode cX7_pressed 61 = .ok (.iload_n 2, 1) := by decide +kernel
theorem dX7_pressed_62 : decode cX7_pressed 62 = .ok (.iconst 2, 1) := by decide +kernel
theorem dX7_pressed_63 : decode cX7_pressed 63 = .ok (.if_icmp .ge 23, 3) := by decide +kernel
theorem dX7_pressed_66 : decode cX7_pressed 66 = .ok (.iload_n 2, 1) := by decide +kernel
theorem dX7_pressed_67 : decode cX7_pressed 67 = .ok (.ifCond .ne 12, 3) := by decide +kernel
theorem dX7_pressed_70 : decode cX7_pressed 70 = .ok (.aload_n 0, 1) := by decide +kernel
theorem dX7_pressed_71 : decode cX7_pressed 71 = .ok (.getfield 41, 3) := by decide +kernel
theorem dX7_pressed_74 : decode cX7_pressed 74 = .ok (.iload_n 3, 1) := by decide +kernel
theorem dX7_pressed_75 : decode cX7_pressed 75 = .ok (.iaload, 1) := by decide +kernel
theorem dX7_pressed_76 : decode cX7_pressed 76 = .ok (.goto 9, 3) := by decide +kernel
theorem dX7_pressed_79 : decode cX7_pressed 79 = .ok (.aload_n 0, 1) := by decide +kernel
theorem dX7_pressed_80 : decode cX7_pressed 80 = .ok (.getfield 44, 3) := by decide +kernel
theorem dX7_pressed_83 : decode cX7_pressed 83 = .ok (.iload_n 3, 1) := by decide +kernel
theorem dX7_pressed_84 : decode cX7_pressed 84 = .ok (.iaload, 1) := by decide +kernel
theorem dX7_pressed_85 : decode cX7_pressed 85 = .ok (.ireturn, 1) := by decide +kernel
theorem dX7_pressed_86 : decode cX7_pressed 86 = .ok (.iconst 0, 1) := by decide +kernel
theorem dX7_pressed_87 : decode cX7_pressed 87 = .ok (.istore 4, 2) := by decide +kernel
theorem dX7_pressed_89 : decode cX7_pressed 89 = .ok (.bipush 22, 2) := by decide +kernel
theorem dX7_pressed_91 : decode cX7_pressed 91 = .ok (.aload_n 0, 1) := by decide +kernel
theorem dX7_pressed_92 : decode cX7_pressed 92 = .ok (.getfield 195, 3) := by decide +kernel
theorem dX7_pressed_95 : decode cX7_pressed 95 = .ok (.imul, 1) := by decide +kernel
theorem dX7_pressed_96 : decode cX7_pressed 96 = .ok (.istore 5, 2) := by decide +kernel
theorem dX7_pressed_98 : decode cX7_pressed 98 = .ok (.iload 5, 2) := by decide +kernel
theorem dX7_pressed_100 : decode cX7_pressed 100 = .ok (.bipush 22, 2) := by decide +kernel
theorem dX7_pressed_102 : decode cX7_pressed 102 = .ok (.aload_n 0, 1) := by decide +kernel
theorem dX7_pressed_103 : decode cX7_pressed 103 = .ok (.getfield 195, 3) := by decide +kernel
theorem dX7_pressed_106 : decode cX7_pressed 106 = .ok (.imul, 1) := by decide +kernel
theorem dX7_pressed_107 : decode cX7_pressed 107 = .ok (.aload_n 0, 1) := by decide +kernel
theorem dX7_pressed_108 : decode cX7_pressed 108 = .ok (.getfield 38, 3) := by decide +kernel
theorem dX7_pressed_111 : decode cX7_pressed 111 = .ok (.aload_n 0, 1) := by decide +kernel
theorem dX7_pressed_112 : decode cX7_pressed 112 = .ok (.getfield 195, 3) := by decide +kernel
theorem dX7_pressed_115 : decode cX7_pressed 115 = .ok (.iaload, 1) := by decide +kernel
theorem dX7_pressed_116 : decode cX7_pressed 116 = .ok (.iadd, 1) := by decide +kernel
theorem dX7_pressed_117 : decode cX7_pressed 117 = .ok (.if_icmp .ge 103, 3) := by decide +kernel
theorem dX7_pressed_120 : decode cX7_pressed 120 = .ok (.aload_n 0, 1) := by decide +kernel
theorem dX7_pressed_121 : decode cX7_pressed 121 = .ok (.iload 5, 2) := by decide +kernel
theorem dX7_pressed_123 : decode cX7_pressed 123 = .ok (.iload_n 3, 1) := by decide +kernel
theorem dX7_pressed_124 : decode cX7_pressed 124 = .ok (.invokevirtual 230, 3) := by decide +kernel
theorem dX7_pressed_127 : decode cX7_pressed 127 = .ok (.istore 6, 2) := by decide +kernel
theorem dX7_pressed_129 : decode cX7_pressed 129 = .ok (.bipush 22, 2) := by decide +kernel
theorem dX7_pressed_131 : decode cX7_pressed 131 = .ok (.aload_n 0, 1) := by decide +kernel
theorem dX7_pressed_132 : decode cX7_pressed 132 = .ok (.getfield 195, 3) := by decide +kernel
theorem dX7_pressed_135 : decode cX7_pressed 135 = .ok (.imul, 1) := by decide +kernel
theorem dX7_pressed_136 : decode cX7_pressed 136 = .ok (.istore 7, 2) := by decide +kernel
theorem dX7_pressed_138 : decode cX7_pressed 138 = .ok (.iload 7, 2) := by decide +kernel
theorem dX7_pressed_140 : decode cX7_pressed 140 = .ok (.bipush 22, 2) := by decide +kernel
theorem dX7_pressed_142 : decode cX7_pressed 142 = .ok (.aload_n 0, 1) := by decide +kernel
theorem dX7_pressed_143 : decode cX7_pressed 143 = .ok (.getfield 195, 3) := by decide +kernel
theorem dX7_pressed_146 : decode cX7_pressed 146 = .ok (.imul, 1) := by decide +kernel
theorem dX7_pressed_147 : decode cX7_pressed 147 = .ok (.aload_n 0, 1) := by decide +kernel
theorem dX7_pressed_148 : decode cX7_pressed 148 = .ok (.getfield 38, 3) := by decide +kernel
theorem dX7_pressed_151 : decode cX7_pressed 151 = .ok (.aload_n 0, 1) := by decide +kernel
theorem dX7_pressed_152 : decode cX7_pressed 152 = .ok (.getfield 195, 3) := by decide +kernel
theorem dX7_pressed_155 : decode cX7_pressed 155 = .ok (.iaload, 1) := by decide +kernel
theorem dX7_pressed_156 : decode cX7_pressed 156 = .ok (.iadd, 1) := by decide +kernel
theorem dX7_pressed_157 : decode cX7_pressed 157 = .ok (.if_icmp .ge 42, 3) := by decide +kernel
theorem dX7_pressed_160 : decode cX7_pressed 160 = .ok (.iload 6, 2) := by decide +kernel
theorem dX7_pressed_162 : decode cX7_pressed 162 = .ok (.ifCond .eq 28, 3) := by decide +kernel
theorem dX7_pressed_165 : decode cX7_pressed 165 = .ok (.aload_n 0, 1) := by decide +kernel
theorem dX7_pressed_166 : decode cX7_pressed 166 = .ok (.iload 5, 2) := by decide +kernel
theorem dX7_pressed_168 : decode cX7_pressed 168 = .ok (.iload 7, 2) := by decide +kernel
theorem dX7_pressed_170 : decode cX7_pressed 170 = .ok (.invokevirtual 230, 3) := by decide +kernel
theorem dX7_pressed_173 : decode cX7_pressed 173 = .ok (.ifCond .eq 13, 3) := by decide +kernel
theorem dX7_pressed_176 : decode cX7_pressed 176 = .ok (.aload_n 0, 1) := by decide +kernel
theorem dX7_pressed_177 : decode cX7_pressed 177 = .ok (.iload 7, 2) := by decide +kernel
theorem dX7_pressed_179 : decode cX7_pressed 179 = .ok (.iload_n 3, 1) := by decide +kernel
theorem dX7_pressed_180 : decode cX7_pressed 180 = .ok (.invokevirtual 230, 3) := by decide +kernel
theorem dX7_pressed_183 : decode cX7_pressed 183 = .ok (.ifCond .ne 7, 3) := by decide +kernel
theorem dX7_pressed_186 : decode cX7_pressed 186 = .ok (.iconst 1, 1) := by decide +kernel
theorem dX7_pressed_187 : decode cX7_pressed 187 = .ok (.goto 4, 3) := by decide +kernel
theorem dX7_pressed_190 : decode cX7_pressed 190 = .ok (.iconst 0, 1) := by decide +kernel
theorem dX7_pressed_191 : decode cX7_pressed 191 = .ok (.istore 6, 2) := by decide +kernel
theorem dX7_pressed_193 : decode cX7_pressed 193 = .ok (.iinc 7 1, 3) := by decide +kernel
theorem dX7_pressed_196 : decode cX7_pressed 196 = .ok (.goto (-58), 3) := by decide +kernel
theorem dX7_pressed_199 : decode cX7_pressed 199 = .ok (.iload 4, 2) := by decide +kernel
theorem dX7_pressed_201 : decode cX7_pressed 201 = .ok (.iload 6, 2) := by decide +kernel
theorem dX7_pressed_203 : decode cX7_pressed 203 = .ok (.ifCond .eq 7, 3) := by decide +kernel
theorem dX7_pressed_206 : decode cX7_pressed 206 = .ok (.iconst 1, 1) := by decide +kernel
theorem dX7_pressed_207 : decode cX7_pressed 207 = .ok (.goto 4, 3) := by decide +kernel
theorem dX7_pressed_210 : decode cX7_pressed 210 = .ok (.iconst 0, 1) := by decide +kernel
theorem dX7_pressed_211 : decode cX7_pressed 211 = .ok (.iadd, 1) := by decide +kernel
theorem dX7_pressed_212 : decode cX7_pressed 212 = .ok (.istore 4, 2) := by decide +kernel
theorem dX7_pressed_214 : decode cX7_pressed 214 = .ok (.iinc 5 1, 3) := by decide +kernel
theorem dX7_pressed_217 : decode cX7_pressed 217 = .ok (.goto (-119), 3) := by decide +kernel
theorem dX7_pressed_220 : decode cX7_pressed 220 = .ok (.iload 4, 2) := by decide +kernel
theorem dX7_pressed_222 : decode cX7_pressed 222 = .ok (.ireturn, 1) := by decide +kernel
theorem dX7_copperOf_0 : decode cX7_copperOf 0 = .ok (.iconst 0, 1) := by decide +kernel
theorem dX7_copperOf_1 : decode cX7_copperOf 1 = .ok (.istore_n 2, 1) := by decide +kernel
theorem dX7_copperOf_2 : decode cX7_copperOf 2 = .ok (.iload_n 2, 1) := by decide +kernel
theorem dX7_copperOf_3 : decode cX7_copperOf 3 = .ok (.aload_n 0, 1) := by decide +kernel
theorem dX7_copperOf_4 : decode cX7_copperOf 4 = .ok (.getfield 32, 3) := by decide +kernel
theorem dX7_copperOf_7 : decode cX7_copperOf 7 = .ok (.aload_n 0, 1) := by decide +kernel
theorem dX7_copperOf_8 : decode cX7_copperOf 8 = .ok (.getfield 195, 3) := by decide +kernel
theorem dX7_copperOf_11 : decode cX7_copperOf 11 = .ok (.iaload, 1) := by decide +kernel
theorem dX7_copperOf_12 : decode cX7_copperOf 12 = .ok (.if_icmp .ge 29, 3) := by decide +kernel
theorem dX7_copperOf_15 : decode cX7_copperOf 15 = .ok (.aload_n 0, 1) := by decide +kernel
theorem dX7_copperOf_16 : decode cX7_copperOf 16 = .ok (.getfield 35, 3) := by decide +kernel
theorem dX7_copperOf_19 : decode cX7_copperOf 19 = .ok (.bipush 32, 2) := by decide +kernel
theorem dX7_copperOf_21 : decode cX7_copperOf 21 = .ok (.aload_n 0, 1) := by decide +kernel
theorem dX7_copperOf_22 : decode cX7_copperOf 22 = .ok (.getfield 195, 3) := by decide +kernel
theorem dX7_copperOf_25 : decode cX7_copperOf 25 = .ok (.imul, 1) := by decide +kernel
theorem dX7_copperOf_26 : decode cX7_copperOf 26 = .ok (.iload_n 2, 1) := by decide +kernel
theorem dX7_copperOf_27 : decode cX7_copperOf 27 = .ok (.iadd, 1) := by decide +kernel
theorem dX7_copperOf_28 : decode cX7_copperOf 28 = .ok (.iaload, 1) := by decide +kernel
theorem dX7_copperOf_29 : decode cX7_copperOf 29 = .ok (.iload_n 1, 1) := by decide +kernel
theorem dX7_copperOf_30 : decode cX7_copperOf 30 = .ok (.if_icmp .ne 5, 3) := by decide +kernel
theorem dX7_copperOf_33 : decode cX7_copperOf 33 = .ok (.iload_n 2, 1) := by decide +kernel
theorem dX7_copperOf_34 : decode cX7_copperOf 34 = .ok (.ireturn, 1) := by decide +kernel
theorem dX7_copperOf_35 : decode cX7_copperOf 35 = .ok (.iinc 2 1, 3) := by decide +kernel
theorem dX7_copperOf_38 : decode cX7_copperOf 38 = .ok (.goto (-36), 3) := by decide +kernel
theorem dX7_copperOf_41 : decode cX7_copperOf 41 = .ok (.iconst (-1), 1) := by decide +kernel
