theorem dX5_init_0 : decode cX5_init 0 = .ok (.aload_n 0, 1) := by decide +kernel
theorem dX5_init_1 : decode cX5_init 1 = .ok (.invokespecial 3, 3) := by decide +kernel
theorem dX5_init_4 : decode cX5_init 4 = .ok (.aload_n 0, 1) := by decide +kernel
theorem dX5_init_5 : decode cX5_init 5 = .ok (.sipush 3000, 3) := by decide +kernel
theorem dX5_init_8 : decode cX5_init 8 = .ok (.newarray .char, 2) := by decide +kernel
theorem dX5_init_10 : decode cX5_init 10 = .ok (.putfield 9, 3) := by decide +kernel
theorem dX5_init_13 : decode cX5_init 13 = .ok (.aload_n 0, 1) := by decide +kernel
theorem dX5_init_14 : decode cX5_init 14 = .ok (.bipush 8, 2) := by decide +kernel
theorem dX5_init_16 : decode cX5_init 16 = .ok (.newarray .char, 2) := by decide +kernel
theorem dX5_init_18 : decode cX5_init 18 = .ok (.putfield 15, 3) := by decide +kernel
theorem dX5_init_21 : decode cX5_init 21 = .ok (.return_, 1) := by decide +kernel
theorem dX5_characterAt_0 : decode cX5_characterAt 0 = .ok (.iload_n 1, 1) := by decide +kernel
theorem dX5_characterAt_1 : decode cX5_characterAt 1 = .ok (.ifCond .lt 27, 3) := by decide +kernel
theorem dX5_characterAt_4 : decode cX5_characterAt 4 = .ok (.iload_n 1, 1) := by decide +kernel
theorem dX5_characterAt_5 : decode cX5_characterAt 5 = .ok (.aload_n 0, 1) := by decide +kernel
theorem dX5_characterAt_6 : decode cX5_characterAt 6 = .ok (.getfield 18, 3) := by decide +kernel
theorem dX5_characterAt_9 : decode cX5_characterAt 9 = .ok (.if_icmp .ge 19, 3) := by decide +kernel
theorem dX5_characterAt_12 : decode cX5_characterAt 12 = .ok (.iload_n 1, 1) := by decide +kernel
theorem dX5_characterAt_13 : decode cX5_characterAt 13 = .ok (.sipush 3000, 3) := by decide +kernel
theorem dX5_characterAt_16 : decode cX5_characterAt 16 = .ok (.if_icmp .ge 12, 3) := by decide +kernel
theorem dX5_characterAt_19 : decode cX5_characterAt 19 = .ok (.aload_n 0, 1) := by decide +kernel
theorem dX5_characterAt_20 : decode cX5_characterAt 20 = .ok (.getfield 9, 3) := by decide +kernel
theorem dX5_characterAt_23 : decode cX5_characterAt 23 = .ok (.iload_n 1, 1) := by decide +kernel
theorem dX5_characterAt_24 : decode cX5_characterAt 24 = .ok (.caload, 1) := by decide +kernel
theorem dX5_characterAt_25 : decode cX5_characterAt 25 = .ok (.goto 4, 3) := by decide +kernel
theorem dX5_characterAt_28 : decode cX5_characterAt 28 = .ok (.iconst (-1), 1) := by decide +kernel
theorem dX5_characterAt_29 : decode cX5_characterAt 29 = .ok (.ireturn, 1) := by decide +kernel
set_option maxRecDepth 20000 in
theorem ggX5_putBoard_X5_putLayer_wsX5_putLayer_r1 : GoodIn wsX5_putBoard wsX5_putLayer_r1 := goodIn_r _ [14, 15, 16, 17, 18, 19, 20, 21, 22, 23, 12, 24, 25, 26, 27, 28, 29, 30, 31, 32, 33, 34, 35, 36] (by decide +kernel) (by decide +kernel)
set_option maxRecDepth 20000 in
theorem ggX5_putBoard_X5_putLayer_wsX5_putLayer_r2 : GoodIn wsX5_putBoard wsX5_putLayer_r2 := goodIn_r _ [37, 38, 39, 40, 41, 42, 43, 44, 45, 46, 47, 48, 49, 50, 51, 52, 53, 54, 55, 56, 57, 58, 59, 60] (by decide +kernel) (by decide +kernel)
set_option maxRecDepth 20000 in
theorem ggX5_putBoard_X5_putLayer_wsX5_putLayer_r3 : GoodIn wsX5_putBoard wsX5_putLayer_r3 := goodIn_r _ [61, 62, 63, 64, 65, 66, 67, 68, 69, 70, 71, 72, 73, 74, 75, 76, 77, 1, 78, 79, 80, 81, 82, 83] (by decide +kernel) (by decide +kernel)
set_option maxRecDepth 20000 in
theorem ggX5_putBoard_X5_putLayer_wsX5_putLayer_r4 : GoodIn wsX5_putBoard wsX5_putLayer_r4 := goodIn_r _ [84, 85, 86, 87] (by decide +kernel) (by decide +kernel)
set_option maxRecDepth 20000 in
theorem ggX5_putBoard_X5_putLayer_wsX00 : GoodIn wsX5_putBoard wsX00 := goodIn_r _ [96, 97, 98, 99, 100, 101, 102, 103, 104, 105, 106, 107] (by decide +kernel) (by decide +kernel)
set_option maxRecDepth 20000 in
theorem ggX5_putBoard_X5_putLayer_wsX50 : GoodIn wsX5_putBoard wsX50 := goodIn_r _ [93, 94, 95] (by decide +kernel) (by decide +kernel)
set_option maxRecDepth 20000 in
theorem ggX5_putBoard_X5_putLayer_c : GoodIn wsX5_putBoard [.code yX5_putLayer cX5_putLayer 3 none] := goodIn_r _ [13] (by decide +kernel) (by decide +kernel)
set_option maxRecDepth 20000 in
theorem ggX5_putBoard_X5_putLayer : GoodIn wsX5_putBoard wsX5_putLayer := goodIn_app ggX5_putBoard_X5_putLayer_c (goodIn_app (goodIn_app (goodIn_app ggX5_putBoard_X5_putLayer_wsX5_putLayer_r1 (goodIn_app ggX5_putBoard_X5_putLayer_wsX5_putLayer_r2 (goodIn_app ggX5_putBoard_X5_putLayer_wsX5_putLayer_r3 ggX5_putBoard_X5_putLayer_wsX5_putLayer_r4))) ggX5_putBoard_X5_putLayer_wsX00) ggX5_putBoard_X5_putLayer_wsX50)
set_option maxRecDepth 20000 in
theorem gX5_putBoard_X5_putLayer : GoodIn wsX5_putBoard (wsV RX5 27 RX5 yX5_putLayer wsX5_putLayer) := goodIn_app (goodIn_of _ (by decide +kernel)) ggX5_putBoard_X5_putLayer
set_option maxRecDepth 20000 in
theorem ggX5_putBoard_X5_putSpan_wsX5_putSpan_r1 : GoodIn wsX5_putBoard wsX5_putSpan_r1 := goodIn_r _ [15, 92, 18, 19, 20, 21, 22, 23, 12, 24, 25, 26, 27, 28, 29, 30, 31, 32, 33, 34, 35, 36, 37, 38] (by decide +kernel) (by decide +kernel)
set_option maxRecDepth 20000 in
theorem ggX5_putBoard_X5_putSpan_wsX5_putSpan_r2 : GoodIn wsX5_putBoard wsX5_putSpan_r2 := goodIn_r _ [39, 40, 41, 42, 43, 44, 45, 46, 47, 48, 49, 50, 51, 52, 53, 54, 55, 56, 57, 58, 59, 60, 61, 62] (by decide +kernel) (by decide +kernel)
set_option maxRecDepth 20000 in
theorem ggX5_putBoard_X5_putSpan_wsX5_putSpan_r3 : GoodIn wsX5_putBoard wsX5_putSpan_r3 := goodIn_r _ [63, 64, 65, 66, 67, 68, 69, 70, 71, 72, 73, 74, 75, 76, 77, 1, 78, 79, 80, 81, 82] (by decide +kernel) (by decide +kernel)
set_option maxRecDepth 20000 in
theorem ggX5_putBoard_X5_putSpan_wsX00 : GoodIn wsX5_putBoard wsX00 := goodIn_r _ [96, 97, 98, 99, 100, 101, 102, 103, 104, 105, 106, 107] (by decide +kernel) (by decide +kernel)
set_option maxRecDepth 20000 in
theorem ggX5_putBoard_X5_putSpan_wsX50 : GoodIn wsX5_putBoard wsX50 := goodIn_r _ [93, 94, 95] (by decide +kernel) (by decide +kernel)
set_option maxRecDepth 20000 in
theorem ggX5_putBoard_X5_putSpan_c : GoodIn wsX5_putBoard [.code yX5_putSpan cX5_putSpan 5 none] := goodIn_r _ [91] (by decide +kernel) (by decide +kernel)
set_option maxRecDepth 20000 in
theorem ggX5_putBoard_X5_putSpan : GoodIn wsX5_putBoard wsX5_putSpan := goodIn_app ggX5_putBoard_X5_putSpan_c (goodIn_app (goodIn_app (goodIn_app ggX5_putBoard_X5_putSpan_wsX5_putSpan_r1 (goodIn_app ggX5_putBoard_X5_putSpan_wsX5_putSpan_r2 ggX5_putBoard_X5_putSpan_wsX5_putSpan_r3)) ggX5_putBoard_X5_putSpan_wsX00) ggX5_putBoard_X5_putSpan_wsX50)
set_option maxRecDepth 20000 in
theorem gX5_putBoard_X5_putSpan : GoodIn wsX5_putBoard (wsV RX5 53 RX5 yX5_putSpan wsX5_putSpan) := goodIn_app (goodIn_of _ (by decide +kernel)) ggX5_putBoard_X5_putSpan
theorem dX5_putBoard_0 : decode cX5_putBoard 0 = .ok (.aload_n 0, 1) := by decide +kernel
theorem dX5_putBoard_1 : decode cX5_putBoard 1 = .ok (.iconst 0, 1) := by decide +kernel
theorem dX5_putBoard_2 : decode cX5_putBoard 2 = .ok (.putfield 18, 3) := by decide +kernel
theorem dX5_putBoard_5 : decode cX5_putBoard 5 = .ok (.iconst 0, 1) := by decide +kernel
theorem dX5_putBoard_6 : decode cX5_putBoard 6 = .ok (.istore_n 2, 1) := by decide +kernel
theorem dX5_putBoard_7 : decode cX5_putBoard 7 = .ok (.iload_n 2, 1) := by decide +kernel
theorem dX5_putBoard_8 : decode cX5_putBoard 8 = .ok (.aload_n 1, 1) := by decide +kernel
theorem dX5_putBoard_9 : decode cX5_putBoard 9 = .ok (.getfield 22, 3) := by decide +kernel
theorem dX5_putBoard_12 : decode cX5_putBoard 12 = .ok (.if_icmp .ge 15, 3) := by decide +kernel
theorem dX5_putBoard_15 : decode cX5_putBoard 15 = .ok (.aload_n 0, 1) := by decide +kernel
theorem dX5_putBoard_16 : decode cX5_putBoard 16 = .ok (.aload_n 1, 1) := by decide +kernel
theorem dX5_putBoard_17 : decode cX5_putBoard 17 = .ok (.iload_n 2, 1) := by decide +kernel
theorem dX5_putBoard_18 : decode cX5_putBoard 18 = .ok (.invokevirtual 27, 3) := by decide +kernel
theorem dX5_putBoard_21 : decode cX5_putBoard 21 = .ok (.iinc 2 1, 3) := by decide +kernel
theorem dX5_putBoard_24 : decode cX5_putBoard 24 = .ok (.goto (-17), 3) := by decide +kernel
theorem dX5_putBoard_27 : decode cX5_putBoard 27 = .ok (.aload_n 1, 1) := by decide +kernel
theorem dX5_putBoard_28 : decode cX5_putBoard 28 = .ok (.getfield 31, 3) := by decide +kernel
theorem dX5_putBoard_31 : decode cX5_putBoard 31 = .ok (.getfield 35, 3) := by decide +kernel
theorem dX5_putBoard_34 : decode cX5_putBoard 34 = .ok (.astore_n 2, 1) := by decide +kernel
theorem dX5_putBoard_35 : decode cX5_putBoard 35 = .ok (.iconst 0, 1) := by decide +kernel
theorem dX5_putBoard_36 : decode cX5_putBoard 36 = .ok (.istore_n 3, 1) := by decide +kernel
theorem dX5_putBoard_37 : decode cX5_putBoard 37 = .ok (.iload_n 3, 1) := by decide +kernel
theorem dX5_putBoard_38 : decode cX5_putBoard 38 = .ok (.aload_n 2, 1) := by decide +kernel
theorem dX5_putBoard_39 : decode cX5_putBoard 39 = .ok (.getfield 41, 3) := by decide +kernel
theorem dX5_putBoard_42 : decode cX5_putBoard 42 = .ok (.iconst 1, 1) := by decide +kernel
theorem dX5_putBoard_43 : decode cX5_putBoard 43 = .ok (.isub, 1) := by decide +kernel
theorem dX5_putBoard_44 : decode cX5_putBoard 44 = .ok (.if_icmp .ge 27, 3) := by decide +kernel
theorem dX5_putBoard_47 : decode cX5_putBoard 47 = .ok (.aload_n 0, 1) := by decide +kernel
theorem dX5_putBoard_48 : decode cX5_putBoard 48 = .ok (.aload_n 1, 1) := by decide +kernel
theorem dX5_putBoard_49 : decode cX5_putBoard 49 = .ok (.iconst 5, 1) := by decide +kernel
theorem dX5_putBoard_50 : decode cX5_putBoard 50 = .ok (.aload_n 2, 1) := by decide +kernel
theorem dX5_putBoard_51 : decode cX5_putBoard 51 = .ok (.getfield 46, 3) := by decide +kernel
theorem dX5_putBoard_54 : decode cX5_putBoard 54 = .ok (.iload_n 3, 1) := by decide +kernel
theorem dX5_putBoard_55 : decode cX5_putBoard 55 = .ok (.iaload, 1) := by decide +kernel
theorem dX5_putBoard_56 : decode cX5_putBoard 56 = .ok (.aload_n 2, 1) := by decide +kernel
theorem dX5_putBoard_57 : decode cX5_putBoard 57 = .ok (.getfield 50, 3) := by decide +kernel
theorem dX5_putBoard_60 : decode cX5_putBoard 60 = .ok (.iload_n 3, 1) := by decide +kernel
theorem dX5_putBoard_61 : decode cX5_putBoard 61 = .ok (.iaload, 1) := by decide +kernel
theorem dX5_putBoard_62 : decode cX5_putBoard 62 = .ok (.invokevirtual 53, 3) := by decide +kernel
theorem dX5_putBoard_65 : decode cX5_putBoard 65 = .ok (.iinc 3 1, 3) := by decide +kernel
theorem dX5_putBoard_68 : decode cX5_putBoard 68 = .ok (.goto (-31), 3) := by decide +kernel
theorem dX5_putBoard_71 : decode cX5_putBoard 71 = .ok (.iconst 0, 1) := by decide +kernel
theorem dX5_putBoard_72 : decode cX5_putBoard 72 = .ok (.istore_n 3, 1) := by decide +kernel
theorem dX5_putBoard_73 : decode cX5_putBoard 73 = .ok (.iload_n 3, 1) := by decide +kernel
theorem dX5_putBoard_74 : decode cX5_putBoard 74 = .ok (.aload_n 1, 1) := by decide +kernel
theorem dX5_putBoard_75 : decode cX5_putBoard 75 = .ok (.getfield 57, 3) := by decide +kernel
theorem dX5_putBoard_78 : decode cX5_putBoard 78 = .ok (.getfield 41, 3) := by decide +kernel
theorem dX5_putBoard_81 : decode cX5_putBoard 81 = .ok (.if_icmp .ge 34, 3) := by decide +kernel
theorem dX5_putBoard_84 : decode cX5_putBoard 84 = .ok (.aload_n 0, 1) := by decide +kernel
theorem dX5_putBoard_85 : decode cX5_putBoard 85 = .ok (.aload_n 1, 1) := by decide +kernel
theorem dX5_putBoard_86 : decode cX5_putBoard 86 = .ok (.bipush 6, 2) := by decide +kernel
theorem dX5_putBoard_88 : decode cX5_putBoard 88 = .ok (.aload_n 1, 1) := by decide +kernel
theorem dX5_putBoard_89 : decode cX5_putBoard 89 = .ok (.getfield 57, 3) := by decide +kernel
theorem dX5_putBoard_92 : decode cX5_putBoard 92 = .ok (.getfield 46, 3) := by decide +kernel
theorem dX5_putBoard_95 : decode cX5_putBoard 95 = .ok (.iload_n 3, 1) := by decide +kernel
theorem dX5_putBoard_96 : decode cX5_putBoard 96 = .ok (.iaload, 1) := by decide +kernel
theorem dX5_putBoard_97 : decode cX5_putBoard 97 = .ok (.aload_n 1, 1) := by decide +kernel
theorem dX5_putBoard_98 : decode cX5_putBoard 98 = .ok (.getfield 57, 3) := by decide +kernel
theorem dX5_putBoard_101 : decode cX5_putBoard 101 = .ok (.getfield 50, 3) := by decide +kernel
theorem dX5_putBoard_104 : decode cX5_putBoard 104 = .ok (.iload_n 3, 1) := by decide +kernel
theorem dX5_putBoard_105 : decode cX5_putBoard 105 = .ok (.iaload, 1) := by decide +kernel
theorem dX5_putBoard_106 : decode cX5_putBoard 106 = .ok (.invokevirtual 53, 3) := by decide +kernel
theorem dX5_putBoard_109 : decode cX5_putBoard 109 = .ok (.iinc 3 1, 3) := by decide +kernel
theorem dX5_putBoard_112 : decode cX5_putBoard 112 = .ok (.goto (-39), 3) := by decide +kernel
theorem dX5_putBoard_115 : decode cX5_putBoard 115 = .ok (.return_, 1) := by decide +kernel
set_option maxRecDepth 20000 in
theorem ggX5_putLayer_X6_spellingOf : GoodIn wsX5_putLayer wsX6_spellingOf := goodIn_r _ [7] (by decide +kernel) (by decide +kernel)
set_option maxRecDepth 20000 in
theorem gX5_putLayer_X6_spellingOf_n63 : GoodIn wsX5_putLayer (wsX6_spellingOf) := ggX5_putLayer_X6_spellingOf
set_option maxRecDepth 20000 in
theorem ggX5_putLayer_X5_putWord : GoodIn wsX5_putLayer wsX5_putWord := goodIn_r _ [12, 13, 14, 15, 16, 17, 18, 19, 20, 21, 22, 23, 24, 25, 26, 27, 28, 29, 30, 31, 32, 33, 34, 35, 36, 37, 38, 39, 40, 41, 42, 43, 44, 45, 46, 47, 48, 49, 50, 51, 52, 53, 54, 55, 56, 57, 58, 59, 60, 61, 62, 63, 64, 11, 65, 66, 67, 89, 90, 91] (by decide +kernel) (by decide +kernel)
set_option maxRecDepth 20000 in
theorem gX5_putLayer_X5_putWord : GoodIn wsX5_putLayer (wsV RX5 67 RX5 yX5_putWord wsX5_putWord) := goodIn_app (goodIn_of _ (by decide +kernel)) ggX5_putLayer_X5_putWord
set_option maxRecDepth 20000 in
theorem ggX5_putLayer_X5_put : GoodIn wsX5_putLayer wsX5_put := goodIn_r _ [65, 66, 67, 89, 90, 91] (by decide +kernel) (by decide +kernel)
set_option maxRecDepth 20000 in
theorem gX5_putLayer_X5_put : GoodIn wsX5_putLayer (wsV RX5 71 RX5 yX5_put wsX5_put) := goodIn_app (goodIn_of _ (by decide +kernel)) ggX5_putLayer_X5_put
set_option maxRecDepth 20000 in
theorem ggX5_putLayer_X5_putName : GoodIn wsX5_putLayer wsX5_putName := goodIn_r _ [71, 62, 63, 64, 11, 65, 66, 67, 89, 90, 91] (by decide +kernel) (by decide +kernel)
set_option maxRecDepth 20000 in
theorem gX5_putLayer_X5_putName : GoodIn wsX5_putLayer (wsV RX5 79 RX5 yX5_putName wsX5_putName) := goodIn_app (goodIn_of _ (by decide +kernel)) ggX5_putLayer_X5_putName
set_option maxRecDepth 20000 in
theorem ggX5_putLayer_X5_putNumber : GoodIn wsX5_putLayer wsX5_putNumber := goodIn_r _ [75, 76, 62, 63, 64, 11, 65, 66, 67, 89, 90, 91] (by decide +kernel) (by decide +kernel)
set_option maxRecDepth 20000 in
theorem gX5_putLayer_X5_putNumber : GoodIn wsX5_putLayer (wsV RX5 86 RX5 yX5_putNumber wsX5_putNumber) := goodIn_app (goodIn_of _ (by decide +kernel)) ggX5_putLayer_X5_putNumber
theorem dX5_putLayer_0 : decode cX5_putLayer 0 = .ok (.aload_n 0, 1) := by decide +kernel
theorem dX5_putLayer_1 : decode cX5_putLayer 1 = .ok (.aload_n 1, 1) := by decide +kernel
theorem dX5_putLayer_2 : decode cX5_putLayer 2 = .ok (.getfield 60, 3) := by decide +kernel
theorem dX5_putLayer_5 : decode cX5_putLayer 5 = .ok (.iload_n 2, 1) := by decide +kernel
theorem dX5_putLayer_6 : decode cX5_putLayer 6 = .ok (.iaload, 1) := by decide +kernel
theorem dX5_putLayer_7 : decode cX5_putLayer 7 = .ok (.invokestatic 63, 3) := by decide +kernel
theorem dX5_putLayer_10 : decode cX5_putLayer 10 = .ok (.invokevirtual 67, 3) := by decide +kernel
theorem dX5_putLayer_13 : decode cX5_putLayer 13 = .ok (.aload_n 0, 1) := by decide +kernel
theorem dX5_putLayer_14 : decode cX5_putLayer 14 = .ok (.bipush 32, 2) := by decide +kernel
theorem dX5_putLayer_16 : decode cX5_putLayer 16 = .ok (.invokevirtual 71, 3) := by decide +kernel
theorem dX5_putLayer_19 : decode cX5_putLayer 19 = .ok (.aload_n 0, 1) := by decide +kernel
theorem dX5_putLayer_20 : decode cX5_putLayer 20 = .ok (.aload_n 1, 1) := by decide +kernel
theorem dX5_putLayer_21 : decode cX5_putLayer 21 = .ok (.getfield 75, 3) := by decide +kernel
theorem dX5_putLayer_24 : decode cX5_putLayer 24 = .ok (.iload_n 2, 1) := by decide +kernel
theorem dX5_putLayer_25 : decode cX5_putLayer 25 = .ok (.laload, 1) := by decide +kernel
theorem dX5_putLayer_26 : decode cX5_putLayer 26 = .ok (.invokevirtual 79, 3) := by decide +kernel
theorem dX5_putLayer_29 : decode cX5_putLayer 29 = .ok (.aload_n 1, 1) := by decide +kernel
theorem dX5_putLayer_30 : decode cX5_putLayer 30 = .ok (.getfield 60, 3) := by decide +kernel
theorem dX5_putLayer_33 : decode cX5_putLayer 33 = .ok (.iload_n 2, 1) := by decide +kernel
theorem dX5_putLayer_34 : decode cX5_putLayer 34 = .ok (.iaload, 1) := by decide +kernel
theorem dX5_putLayer_35 : decode cX5_putLayer 35 = .ok (.iconst 4, 1) := by decide +kernel
theorem dX5_putLayer_36 : decode cX5_putLayer 36 = .ok (.if_icmp .eq 37, 3) := by decide +kernel
theorem dX5_putLayer_39 : decode cX5_putLayer 39 = .ok (.aload_n 0, 1) := by decide +kernel
theorem dX5_putLayer_40 : decode cX5_putLayer 40 = .ok (.bipush 32, 2) := by decide +kernel
theorem dX5_putLayer_42 : decode cX5_putLayer 42 = .ok (.invokevirtual 71, 3) := by decide +kernel
theorem dX5_putLayer_45 : decode cX5_putLayer 45 = .ok (.aload_n 0, 1) := by decide +kernel
theorem dX5_putLayer_46 : decode cX5_putLayer 46 = .ok (.aload_n 1, 1) := by decide +kernel
theorem dX5_putLayer_47 : decode cX5_putLayer 47 = .ok (.getfield 83, 3) := by decide +kernel
theorem dX5_putLayer_50 : decode cX5_putLayer 50 = .ok (.iload_n 2, 1) := by decide +kernel
theorem dX5_putLayer_51 : decode cX5_putLayer 51 = .ok (.iaload, 1) := by decide +kernel
theorem dX5_putLayer_52 : decode cX5_putLayer 52 = .ok (.iconst 3, 1) := by decide +kernel
theorem dX5_putLayer_53 : decode cX5_putLayer 53 = .ok (.invokevirtual 86, 3) := by decide +kernel
theorem dX5_putLayer_56 : decode cX5_putLayer 56 = .ok (.aload_n 0, 1) := by decide +kernel
theorem dX5_putLayer_57 : decode cX5_putLayer 57 = .ok (.bipush 32, 2) := by decide +kernel
theorem dX5_putLayer_59 : decode cX5_putLayer 59 = .ok (.invokevirtual 71, 3) := by decide +kernel
theorem dX5_putLayer_62 : decode cX5_putLayer 62 = .ok (.aload_n 0, 1) := by decide +kernel
theorem dX5_putLayer_63 : decode cX5_putLayer 63 = .ok (.aload_n 1, 1) := by decide +kernel
theorem dX5_putLayer_64 : decode cX5_putLayer 64 = .ok (.getfield 90, 3) := by decide +kernel
theorem dX5_putLayer_67 : decode cX5_putLayer 67 = .ok (.iload_n 2, 1) := by decide +kernel
theorem dX5_putLayer_68 : decode cX5_putLayer 68 = .ok (.iaload, 1) := by decide +kernel
theorem dX5_putLayer_69 : decode cX5_putLayer 69 = .ok (.iconst 1, 1) := by decide +kernel
theorem dX5_putLayer_70 : decode cX5_putLayer 70 = .ok (.invokevirtual 86, 3) := by decide +kernel
theorem dX5_putLayer_73 : decode cX5_putLayer 73 = .ok (.aload_n 0, 1) := by decide +kernel
theorem dX5_putLayer_74 : decode cX5_putLayer 74 = .ok (.bipush 10, 2) := by decide +kernel
theorem dX5_putLayer_76 : decode cX5_putLayer 76 = .ok (.invokevirtual 71, 3) := by decide +kernel
theorem dX5_putLayer_79 : decode cX5_putLayer 79 = .ok (.return_, 1) := by decide +kernel
set_option maxRecDepth 20000 in
theorem ggX5_putSpan_X6_spellingOf : GoodIn wsX5_putSpan wsX6_spellingOf := goodIn_r _ [5] (by decide +kernel) (by decide +kernel)
set_option maxRecDepth 20000 in
theorem gX5_putSpan_X6_spellingOf_n63 : GoodIn wsX5_putSpan (wsX6_spellingOf) := ggX5_putSpan_X6_spellingOf
set_option maxRecDepth 20000 in
theorem ggX5_putSpan_X5_putWord : GoodIn wsX5_putSpan wsX5_putWord := goodIn_r _ [10, 11, 12, 13, 14, 15, 16, 17, 18, 19, 20, 21, 22, 23, 24, 25, 26, 27, 28, 29, 30, 31, 32, 33, 34, 35, 36, 37, 38, 39, 40, 41, 42, 43, 44, 45, 46, 47, 48, 49, 50, 51, 52, 53, 54, 55, 56, 57, 58, 59, 60, 61, 62, 9, 63, 64, 65, 82, 83, 84] (by decide +kernel) (by decide +kernel)
set_option maxRecDepth 20000 in
theorem gX5_putSpan_X5_putWord : GoodIn wsX5_putSpan (wsV RX5 67 RX5 yX5_putWord wsX5_putWord) := goodIn_app (goodIn_of _ (by decide +kernel)) ggX5_putSpan_X5_putWord
set_option maxRecDepth 20000 in
theorem ggX5_putSpan_X5_put : GoodIn wsX5_putSpan wsX5_put := goodIn_r _ [63, 64, 65, 82, 83, 84] (by decide +kernel) (by decide +kernel)
set_option maxRecDepth 20000 in
theorem gX5_putSpan_X5_put : GoodIn wsX5_putSpan (wsV RX5 71 RX5 yX5_put wsX5_put) := goodIn_app (goodIn_of _ (by decide +kernel)) ggX5_putSpan_X5_put
set_option maxRecDepth 20000 in
theorem ggX5_putSpan_X5_putName : GoodIn wsX5_putSpan wsX5_putName := goodIn_r _ [69, 60, 61, 62, 9, 63, 64, 65, 82, 83, 84] (by decide +kernel) (by decide +kernel)
set_option maxRecDepth 20000 in
theorem gX5_putSpan_X5_putName : GoodIn wsX5_putSpan (wsV RX5 79 RX5 yX5_putName wsX5_putName) := goodIn_app (goodIn_of _ (by decide +kernel)) ggX5_putSpan_X5_putName
theorem dX5_putSpan_0 : decode cX5_putSpan 0 = .ok (.aload_n 0, 1) := by decide +kernel
theorem dX5_putSpan_1 : decode cX5_putSpan 1 = .ok (.iload_n 2, 1) := by decide +kernel
theorem dX5_putSpan_2 : decode cX5_putSpan 2 = .ok (.invokestatic 63, 3) := by decide +kernel
theorem dX5_putSpan_5 : decode cX5_putSpan 5 = .ok (.invokevirtual 67, 3) := by decide +kernel
theorem dX5_putSpan_8 : decode cX5_putSpan 8 = .ok (.aload_n 0, 1) := by decide +kernel
theorem dX5_putSpan_9 : decode cX5_putSpan 9 = .ok (.bipush 32, 2) := by decide +kernel
theorem dX5_putSpan_11 : decode cX5_putSpan 11 = .ok (.invokevirtual 71, 3) := by decide +kernel
theorem dX5_putSpan_14 : decode cX5_putSpan 14 = .ok (.aload_n 0, 1) := by decide +kernel
theorem dX5_putSpan_15 : decode cX5_putSpan 15 = .ok (.aload_n 1, 1) := by decide +kernel
theorem dX5_putSpan_16 : decode cX5_putSpan 16 = .ok (.getfield 75, 3) := by decide +kernel
theorem dX5_putSpan_19 : decode cX5_putSpan 19 = .ok (.aload_n 1, 1) := by decide +kernel
theorem dX5_putSpan_20 : decode cX5_putSpan 20 = .ok (.getfield 93, 3) := by decide +kernel
theorem dX5_putSpan_23 : decode cX5_putSpan 23 = .ok (.iload_n 3, 1) := by decide +kernel
theorem dX5_putSpan_24 : decode cX5_putSpan 24 = .ok (.iaload, 1) := by decide +kernel
theorem dX5_putSpan_25 : decode cX5_putSpan 25 = .ok (.laload, 1) := by decide +kernel
theorem dX5_putSpan_26 : decode cX5_putSpan 26 = .ok (.invokevirtual 79, 3) := by decide +kernel
theorem dX5_putSpan_29 : decode cX5_putSpan 29 = .ok (.aload_n 0, 1) := by decide +kernel
theorem dX5_putSpan_30 : decode cX5_putSpan 30 = .ok (.bipush 32, 2) := by decide +kernel
theorem dX5_putSpan_32 : decode cX5_putSpan 32 = .ok (.invokevirtual 71, 3) := by decide +kernel
theorem dX5_putSpan_35 : decode cX5_putSpan 35 = .ok (.aload_n 0, 1) := by decide +kernel
theorem dX5_putSpan_36 : decode cX5_putSpan 36 = .ok (.aload_n 1, 1) := by decide +kernel
theorem dX5_putSpan_37 : decode cX5_putSpan 37 = .ok (.getfield 75, 3) := by decide +kernel
theorem dX5_putSpan_40 : decode cX5_putSpan 40 = .ok (.aload_n 1, 1) := by decide +kernel
theorem dX5_putSpan_41 : decode cX5_putSpan 41 = .ok (.getfield 93, 3) := by decide +kernel
theorem dX5_putSpan_44 : decode cX5_putSpan 44 = .ok (.iload 4, 2) := by decide +kernel
theorem dX5_putSpan_46 : decode cX5_putSpan 46 = .ok (.iaload, 1) := by decide +kernel
theorem dX5_putSpan_47 : decode cX5_putSpan 47 = .ok (.laload, 1) := by decide +kernel
theorem dX5_putSpan_48 : decode cX5_putSpan 48 = .ok (.invokevirtual 79, 3) := by decide +kernel
theorem dX5_putSpan_51 : decode cX5_putSpan 51 = .ok (.aload_n 0, 1) := by decide +kernel
theorem dX5_putSpan_52 : decode cX5_putSpan 52 = .ok (.bipush 10, 2) := by decide +kernel
theorem dX5_putSpan_54 : decode cX5_putSpan 54 = .ok (.invokevirtual 71, 3) := by decide +kernel
theorem dX5_putSpan_57 : decode cX5_putSpan 57 = .ok (.return_, 1) := by decide +kernel
set_option maxRecDepth 20000 in
theorem ggX5_putWord_J0_length_8abf5 : GoodIn wsX5_putWord wsJ0_length_8abf5 := goodIn_r _ [5, 6, 7, 8, 9, 4, 10, 11, 12] (by decide +kernel) (by decide +kernel)
set_option maxRecDepth 20000 in
theorem gX5_putWord_J0_length_8abf5 : GoodIn wsX5_putWord (wsV RX5 96 RJ0 yJ0_length_8abf5 wsJ0_length_8abf5) := goodIn_app (goodIn_of _ (by decide +kernel)) ggX5_putWord_J0_length_8abf5
set_option maxRecDepth 20000 in
theorem ggX5_putWord_J0_charAt_5068e : GoodIn wsX5_putWord wsJ0_charAt_5068e := goodIn_r _ [16, 6, 17, 18, 19, 4, 20, 11, 12, 21, 22, 23, 24, 25, 26, 27, 28, 29, 30, 31, 32, 33, 34, 35, 36, 37, 38, 39, 40, 41, 42, 43, 44, 45, 46, 47, 48, 49] (by decide +kernel) (by decide +kernel)
set_option maxRecDepth 20000 in
theorem gX5_putWord_J0_charAt_5068e : GoodIn wsX5_putWord (wsV RX5 101 RJ0 yJ0_charAt_5068e wsJ0_charAt_5068e) := goodIn_app (goodIn_of _ (by decide +kernel)) ggX5_putWord_J0_charAt_5068e
set_option maxRecDepth 20000 in
theorem ggX5_putWord_X5_put : GoodIn wsX5_putWord wsX5_put := goodIn_r _ [54, 55, 56, 57, 58, 59] (by decide +kernel) (by decide +kernel)
set_option maxRecDepth 20000 in
theorem gX5_putWord_X5_put : GoodIn wsX5_putWord (wsV RX5 71 RX5 yX5_put wsX5_put) := goodIn_app (goodIn_of _ (by decide +kernel)) ggX5_putWord_X5_put
theorem dX5_putWord_0 : decode cX5_putWord 0 = .ok (.iconst 0, 1) := by decide +kernel
theorem dX5_putWord_1 : decode cX5_putWord 1 = .ok (.istore_n 2, 1) := by decide +kernel
theorem dX5_putWord_2 : decode cX5_putWord 2 = .ok (.iload_n 2, 1) := by decide +kernel
theorem dX5_putWord_3 : decode cX5_putWord 3 = .ok (.aload_n 1, 1) := by decide +kernel
theorem dX5_putWord_4 : decode cX5_putWord 4 = .ok (.invokevirtual 96, 3) := by decide +kernel
theorem dX5_putWord_7 : decode cX5_putWord 7 = .ok (.if_icmp .ge 18, 3) := by decide +kernel
theorem dX5_putWord_10 : decode cX5_putWord 10 = .ok (.aload_n 0, 1) := by decide +kernel
theorem dX5_putWord_11 : decode cX5_putWord 11 = .ok (.aload_n 1, 1) := by decide +kernel
theorem dX5_putWord_12 : decode cX5_putWord 12 = .ok (.iload_n 2, 1) := by decide +kernel
theorem dX5_putWord_13 : decode cX5_putWord 13 = .ok (.invokevirtual 101, 3) := by decide +kernel
theorem dX5_putWord_16 : decode cX5_putWord 16 = .ok (.invokevirtual 71, 3) := by decide +kernel
theorem dX5_putWord_19 : decode cX5_putWord 19 = .ok (.iinc 2 1, 3) := by decide +kernel
theorem dX5_putWord_22 : decode cX5_putWord 22 = .ok (.goto (-20), 3) := by decide +kernel
theorem dX5_putWord_25 : decode cX5_putWord 25 = .ok (.return_, 1) := by decide +kernel
set_option maxRecDepth 20000 in
theorem ggX5_putName_X5_put : GoodIn wsX5_putName wsX5_put := goodIn_r _ [5, 6, 7, 8, 9, 10] (by decide +kernel) (by decide +kernel)
set_option maxRecDepth 20000 in
theorem gX5_putName_X5_put : GoodIn wsX5_putName (wsV RX5 71 RX5 yX5_put wsX5_put) := goodIn_app (goodIn_of _ (by decide +kernel)) ggX5_putName_X5_put
theorem dX5_putName_0 : decode cX5_putName 0 = .ok (.bipush 7, 2) := by decide +kernel
theorem dX5_putName_2 : decode cX5_putName 2 = .ok (.istore_n 3, 1) := by decide +kernel
theorem dX5_putName_3 : decode cX5_putName 3 = .ok (.iload_n 3, 1) := by decide +kernel
theorem dX5_putName_4 : decode cX5_putName 4 = .ok (.ifCond .lt 33, 3) := by decide +kernel
theorem dX5_putName_7 : decode cX5_putName 7 = .ok (.lload_n 1, 1) := by decide +kernel
theorem dX5_putName_8 : decode cX5_putName 8 = .ok (.iload_n 3, 1) := by decide +kernel
theorem dX5_putName_9 : decode cX5_putName 9 = .ok (.bipush 7, 2) := by decide +kernel
theorem dX5_putName_11 : decode cX5_putName 11 = .ok (.imul, 1) := by decide +kernel
theorem dX5_putName_12 : decode cX5_putName 12 = .ok (.lshr, 1) := by decide +kernel
theorem dX5_putName_13 : decode cX5_putName 13 = .ok (.l2i, 1) := by decide +kernel
theorem dX5_putName_14 : decode cX5_putName 14 = .ok (.bipush 127, 2) := by decide +kernel
theorem dX5_putName_16 : decode cX5_putName 16 = .ok (.iand, 1) := by decide +kernel
theorem dX5_putName_17 : decode cX5_putName 17 = .ok (.istore 4, 2) := by decide +kernel
theorem dX5_putName_19 : decode cX5_putName 19 = .ok (.iload 4, 2) := by decide +kernel
theorem dX5_putName_21 : decode cX5_putName 21 = .ok (.ifCond .eq 10, 3) := by decide +kernel
theorem dX5_putName_24 : decode cX5_putName 24 = .ok (.aload_n 0, 1) := by decide +kernel
theorem dX5_putName_25 : decode cX5_putName 25 = .ok (.iload 4, 2) := by decide +kernel
theorem dX5_putName_27 : decode cX5_putName 27 = .ok (.i2c, 1) := by decide +kernel
theorem dX5_putName_28 : decode cX5_putName 28 = .ok (.invokevirtual 71, 3) := by decide +kernel
theorem dX5_putName_31 : decode cX5_putName 31 = .ok (.iinc 3 (-1), 3) := by decide +kernel
theorem dX5_putName_34 : decode cX5_putName 34 = .ok (.goto (-31), 3) := by decide +kernel
theorem dX5_putName_37 : decode cX5_putName 37 = .ok (.return_, 1) := by decide +kernel
set_option maxRecDepth 20000 in
theorem ggX5_putNumber_X5_put : GoodIn wsX5_putNumber wsX5_put := goodIn_r _ [6, 7, 8, 9, 10, 11] (by decide +kernel) (by decide +kernel)
set_option maxRecDepth 20000 in
theorem gX5_putNumber_X5_put : GoodIn wsX5_putNumber (wsV RX5 71 RX5 yX5_put wsX5_put) := goodIn_app (goodIn_of _ (by decide +kernel)) ggX5_putNumber_X5_put
theorem dX5_putNumber_0 : decode cX5_putNumber 0 = .ok (.iload_n 1, 1) := by decide +kernel
theorem dX5_putNumber_1 : decode cX5_putNumber 1 = .ok (.istore_n 3, 1) := by decide +kernel
theorem dX5_putNumber_2 : decode cX5_putNumber 2 = .ok (.iload_n 2, 1) := by decide +kernel
theorem dX5_putNumber_3 : decode cX5_putNumber 3 = .ok (.istore 4, 2) := by decide +kernel
theorem dX5_putNumber_5 : decode cX5_putNumber 5 = .ok (.iload 4, 2) := by decide +kernel
theorem dX5_putNumber_7 : decode cX5_putNumber 7 = .ok (.ifCond .le 21, 3) := by decide +kernel
theorem dX5_putNumber_10 : decode cX5_putNumber 10 = .ok (.iload_n 3, 1) := by decide +kernel
theorem dX5_putNumber_11 : decode cX5_putNumber 11 = .ok (.bipush 10, 2) := by decide +kernel
theorem dX5_putNumber_13 : decode cX5_putNumber 13 = .ok (.irem, 1) := by decide +kernel
theorem dX5_putNumber_14 : decode cX5_putNumber 14 = .ok (.ifCond .ne 14, 3) := by decide +kernel
theorem dX5_putNumber_17 : decode cX5_putNumber 17 = .ok (.iload_n 3, 1) := by decide +kernel
theorem dX5_putNumber_18 : decode cX5_putNumber 18 = .ok (.bipush 10, 2) := by decide +kernel
theorem dX5_putNumber_20 : decode cX5_putNumber 20 = .ok (.idiv, 1) := by decide +kernel
theorem dX5_putNumber_21 : decode cX5_putNumber 21 = .ok (.istore_n 3, 1) := by decide +kernel
theorem dX5_putNumber_22 : decode cX5_putNumber 22 = .ok (.iinc 4 (-1), 3) := by decide +kernel
theorem dX5_putNumber_25 : decode cX5_putNumber 25 = .ok (.goto (-20), 3) := by decide +kernel
theorem dX5_putNumber_28 : decode cX5_putNumber 28 = .ok (.iconst 0, 1) := by decide +kernel
theorem dX5_putNumber_29 : decode cX5_putNumber 29 = .ok (.istore 5, 2) := by decide +kernel
theorem dX5_putNumber_31 : decode cX5_putNumber 31 = .ok (.iload 5, 2) := by decide +kernel
theorem dX5_putNumber_33 : decode cX5_putNumber 33 = .ok (.bipush 8, 2) := by decide +kernel
theorem dX5_putNumber_35 : decode cX5_putNumber 35 = .ok (.if_icmp .ge 40, 3) := by decide +kernel
theorem dX5_putNumber_38 : decode cX5_putNumber 38 = .ok (.iload_n 3, 1) := by decide +kernel
theorem dX5_putNumber_39 : decode cX5_putNumber 39 = .ok (.ifCond .gt 10, 3) := by decide +kernel
theorem dX5_putNumber_42 : decode cX5_putNumber 42 = .ok (.iload 5, 2) := by decide +kernel
theorem dX5_putNumber_44 : decode cX5_putNumber 44 = .ok (.iload 4, 2) := by decide +kernel
theorem dX5_putNumber_46 : decode cX5_putNumber 46 = .ok (.if_icmp .gt 29, 3) := by decide +kernel
theorem dX5_putNumber_49 : decode cX5_putNumber 49 = .ok (.aload_n 0, 1) := by decide +kernel
theorem dX5_putNumber_50 : decode cX5_putNumber 50 = .ok (.getfield 15, 3) := by decide +kernel
theorem dX5_putNumber_53 : decode cX5_putNumber 53 = .ok (.iload 5, 2) := by decide +kernel
theorem dX5_putNumber_55 : decode cX5_putNumber 55 = .ok (.bipush 48, 2) := by decide +kernel
theorem dX5_putNumber_57 : decode cX5_putNumber 57 = .ok (.iload_n 3, 1) := by decide +kernel
theorem dX5_putNumber_58 : decode cX5_putNumber 58 = .ok (.bipush 10, 2) := by decide +kernel
theorem dX5_putNumber_60 : decode cX5_putNumber 60 = .ok (.irem, 1) := by decide +kernel
theorem dX5_putNumber_61 : decode cX5_putNumber 61 = .ok (.iadd, 1) := by decide +kernel
theorem dX5_putNumber_62 : decode cX5_putNumber 62 = .ok (.i2c, 1) := by decide +kernel
theorem dX5_putNumber_63 : decode cX5_putNumber 63 = .ok (.castore, 1) := by decide +kernel
theorem dX5_putNumber_64 : decode cX5_putNumber 64 = .ok (.iload_n 3, 1) := by decide +kernel
theorem dX5_putNumber_65 : decode cX5_putNumber 65 = .ok (.bipush 10, 2) := by decide +kernel
theorem dX5_putNumber_67 : decode cX5_putNumber 67 = .ok (.idiv, 1) := by decide +kernel
theorem dX5_putNumber_68 : decode cX5_putNumber 68 = .ok (.istore_n 3, 1) := by decide +kernel
theorem dX5_putNumber_69 : decode cX5_putNumber 69 = .ok (.iinc 5 1, 3) := by decide +kernel
theorem dX5_putNumber_72 : decode cX5_putNumber 72 = .ok (.goto (-41), 3) := by decide +kernel
theorem dX5_putNumber_75 : decode cX5_putNumber 75 = .ok (.iload 5, 2) := by decide +kernel
theorem dX5_putNumber_77 : decode cX5_putNumber 77 = .ok (.iconst 1, 1) := by decide +kernel
theorem dX5_putNumber_78 : decode cX5_putNumber 78 = .ok (.isub, 1) := by decide +kernel
theorem dX5_putNumber_79 : decode cX5_putNumber 79 = .ok (.istore 6, 2) := by decide +kernel
theorem dX5_putNumber_81 : decode cX5_putNumber 81 = .ok (.iload 6, 2) := by decide +kernel
theorem dX5_putNumber_83 : decode cX5_putNumber 83 = .ok (.ifCond .lt 38, 3) := by decide +kernel
theorem dX5_putNumber_86 : decode cX5_putNumber 86 = .ok (.aload_n 0, 1) := by decide +kernel
theorem dX5_putNumber_87 : decode cX5_putNumber 87 = .ok (.aload_n 0, 1) := by decide +kernel
theorem dX5_putNumber_88 : decode cX5_putNumber 88 = .ok (.getfield 15, 3) := by decide +kernel
theorem dX5_putNumber_91 : decode cX5_putNumber 91 = .ok (.iload 6, 2) := by decide +kernel
theorem dX5_putNumber_93 : decode cX5_putNumber 93 = .ok (.caload, 1) := by decide +kernel
theorem dX5_putNumber_94 : decode cX5_putNumber 94 = .ok (.invokevirtual 71, 3) := by decide +kernel
theorem dX5_putNumber_97 : decode cX5_putNumber 97 = .ok (.iload 6, 2) := by decide +kernel
theorem dX5_putNumber_99 : decode cX5_putNumber 99 = .ok (.ifCond .le 16, 3) := by decide +kernel
theorem dX5_putNumber_102 : decode cX5_putNumber 102 = .ok (.iload 6, 2) := by decide +kernel
theorem dX5_putNumber_104 : decode cX5_putNumber 104 = .ok (.iload 4, 2) := by decide +kernel
theorem dX5_putNumber_106 : decode cX5_putNumber 106 = .ok (.if_icmp .ne 9, 3) := by decide +kernel
theorem dX5_putNumber_109 : decode cX5_putNumber 109 = .ok (.aload_n 0, 1) := by decide +kernel
theorem dX5_putNumber_110 : decode cX5_putNumber 110 = .ok (.bipush 46, 2) := by decide +kernel
theorem dX5_putNumber_112 : decode cX5_putNumber 112 = .ok (.invokevirtual 71, 3) := by decide +kernel
theorem dX5_putNumber_115 : decode cX5_putNumber 115 = .ok (.iinc 6 (-1), 3) := by decide +kernel
theorem dX5_putNumber_118 : decode cX5_putNumber 118 = .ok (.goto (-37), 3) := by decide +kernel
theorem dX5_putNumber_121 : decode cX5_putNumber 121 = .ok (.return_, 1) := by decide +kernel
theorem dX5_put_0 : decode cX5_put 0 = .ok (.aload_n 0, 1) := by decide +kernel
theorem dX5_put_1 : decode cX5_put 1 = .ok (.getfield 18, 3) := by decide +kernel
theorem dX5_put_4 : decode cX5_put 4 = .ok (.sipush 3000, 3) := by decide +kernel
theorem dX5_put_7 : decode cX5_put 7 = .ok (.if_icmp .ge 23, 3) := by decide +kernel
theorem dX5_put_10 : decode cX5_put 10 = .ok (.aload_n 0, 1) := by decide +kernel
theorem dX5_put_11 : decode cX5_put 11 = .ok (.getfield 9, 3) := by decide +kernel
theorem dX5_put_14 : decode cX5_put 14 = .ok (.aload_n 0, 1) := by decide +kernel
theorem dX5_put_15 : decode cX5_put 15 = .ok (.getfield 18, 3) := by decide +kernel
theorem dX5_put_18 : decode cX5_put 18 = .ok (.iload_n 1, 1) := by decide +kernel
theorem dX5_put_19 : decode cX5_put 19 = .ok (.castore, 1) := by decide +kernel
theorem dX5_put_20 : decode cX5_put 20 = .ok (.aload_n 0, 1) := by decide +kernel
theorem dX5_put_21 : decode cX5_put 21 = .ok (.dup, 1) := by decide +kernel
theorem dX5_put_22 : decode cX5_put 22 = .ok (.getfield 18, 3) := by decide +kernel
theorem dX5_put_25 : decode cX5_put 25 = .ok (.iconst 1, 1) := by decide +kernel
theorem dX5_put_26 : decode cX5_put 26 = .ok (.iadd, 1) := by decide +kernel
theorem dX5_put_27 : decode cX5_put 27 = .ok (.putfield 18, 3) := by decide +kernel
theorem dX5_put_30 : decode cX5_put 30 = .ok (.return_, 1) := by decide +kernel
