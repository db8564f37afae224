set_option maxRecDepth 20000 in
theorem gX7_line_X7_isWhole : GoodIn wsX7_line (wsV RX7 186 RX7 yX7_isWhole wsX7_isWhole) := goodIn_app (goodIn_of _ (by decide +kernel)) ggX7_line_X7_isWhole
set_option maxRecDepth 20000 in
theorem ggX7_line_X7_fail : GoodIn wsX7_line wsX7_fail := goodIn_r _ [32, 11, 124, 125, 126, 127, 128, 129, 130, 131, 132, 133, 134, 135, 136, 137, 138, 139, 140, 141, 142, 143, 144, 145, 146, 147, 148, 149, 150, 151, 152, 153, 154, 155, 156] (by decide +kernel) (by decide +kernel)
set_option maxRecDepth 20000 in
theorem gX7_line_X7_fail : GoodIn wsX7_line (wsV RX7 93 RX7 yX7_fail wsX7_fail) := goodIn_app (goodIn_of _ (by decide +kernel)) ggX7_line_X7_fail
set_option maxRecDepth 20000 in
theorem ggX7_line_X7_pressLine_wsX7_pressLine_r1 : GoodIn wsX7_line wsX7_pressLine_r1 := goodIn_r _ [54, 38, 53, 95, 96, 97, 29, 30, 31, 5, 32, 11, 98, 99, 100, 101, 1, 59, 60, 61, 62, 7, 8, 9] (by decide +kernel) (by decide +kernel)
set_option maxRecDepth 20000 in
theorem ggX7_line_X7_pressLine_wsX7_pressLine_r2 : GoodIn wsX7_line wsX7_pressLine_r2 := goodIn_r _ [10, 12, 13, 14, 15, 16, 17, 63, 64, 65, 66, 41, 43, 67, 68, 69, 70, 71, 72, 73, 48, 47, 40, 42] (by decide +kernel) (by decide +kernel)
set_option maxRecDepth 20000 in
theorem ggX7_line_X7_pressLine_wsX7_pressLine_r3 : GoodIn wsX7_line wsX7_pressLine_r3 := goodIn_r _ [55, 56, 57, 58, 102, 103, 104, 105, 106, 107, 108, 109] (by decide +kernel) (by decide +kernel)
set_option maxRecDepth 20000 in
theorem ggX7_line_X7_pressLine_wsX70 : GoodIn wsX7_line wsX70 := goodIn_r _ [124, 125, 126, 127, 128, 129, 130, 131, 132, 133, 134, 135, 136, 137, 138, 139, 140, 141, 142, 143, 144, 145, 146, 147, 148, 149, 150, 151, 152, 153, 154, 155, 156] (by decide +kernel) (by decide +kernel)
set_option maxRecDepth 20000 in
theorem ggX7_line_X7_pressLine_c : GoodIn wsX7_line [.code yX7_pressLine cX7_pressLine 8 none] := goodIn_r _ [94] (by decide +kernel) (by decide +kernel)
set_option maxRecDepth 20000 in
theorem ggX7_line_X7_pressLine : GoodIn wsX7_line wsX7_pressLine := goodIn_app ggX7_line_X7_pressLine_c (goodIn_app (goodIn_app ggX7_line_X7_pressLine_wsX7_pressLine_r1 (goodIn_app ggX7_line_X7_pressLine_wsX7_pressLine_r2 ggX7_line_X7_pressLine_wsX7_pressLine_r3)) ggX7_line_X7_pressLine_wsX70)
set_option maxRecDepth 20000 in
theorem gX7_line_X7_pressLine : GoodIn wsX7_line (wsV RX7 189 RX7 yX7_pressLine wsX7_pressLine) := goodIn_app (goodIn_of _ (by decide +kernel)) ggX7_line_X7_pressLine
set_option maxRecDepth 20000 in
theorem ggX7_line_X7_viaLine_wsX7_viaLine_r1 : GoodIn wsX7_line wsX7_viaLine_r1 := goodIn_r _ [54, 38, 95, 114, 115, 29, 30, 31, 5, 32, 11, 98, 99, 100, 101, 1, 59, 60, 61, 62, 7, 8, 9, 10] (by decide +kernel) (by decide +kernel)
set_option maxRecDepth 20000 in
theorem ggX7_line_X7_viaLine_wsX7_viaLine_r2 : GoodIn wsX7_line wsX7_viaLine_r2 := goodIn_r _ [12, 13, 14, 15, 16, 17, 63, 64, 65, 66, 41, 43, 67, 68, 69, 70, 71, 72, 73, 48, 47, 40, 42, 55] (by decide +kernel) (by decide +kernel)
set_option maxRecDepth 20000 in
theorem ggX7_line_X7_viaLine_wsX7_viaLine_r3 : GoodIn wsX7_line wsX7_viaLine_r3 := goodIn_r _ [56, 57, 58, 116, 117, 118, 119, 53, 97, 96, 120, 121, 122, 123] (by decide +kernel) (by decide +kernel)
set_option maxRecDepth 20000 in
theorem ggX7_line_X7_viaLine_wsX70 : GoodIn wsX7_line wsX70 := goodIn_r _ [124, 125, 126, 127, 128, 129, 130, 131, 132, 133, 134, 135, 136, 137, 138, 139, 140, 141, 142, 143, 144, 145, 146, 147, 148, 149, 150, 151, 152, 153, 154, 155, 156] (by decide +kernel) (by decide +kernel)
set_option maxRecDepth 20000 in
theorem ggX7_line_X7_viaLine_c : GoodIn wsX7_line [.code yX7_viaLine cX7_viaLine 3 none] := goodIn_r _ [113] (by decide +kernel) (by decide +kernel)
set_option maxRecDepth 20000 in
theorem ggX7_line_X7_viaLine : GoodIn wsX7_line wsX7_viaLine := goodIn_app ggX7_line_X7_viaLine_c (goodIn_app (goodIn_app ggX7_line_X7_viaLine_wsX7_viaLine_r1 (goodIn_app ggX7_line_X7_viaLine_wsX7_viaLine_r2 ggX7_line_X7_viaLine_wsX7_viaLine_r3)) ggX7_line_X7_viaLine_wsX70)
set_option maxRecDepth 20000 in
theorem gX7_line_X7_viaLine : GoodIn wsX7_line (wsV RX7 192 RX7 yX7_viaLine wsX7_viaLine) := goodIn_app (goodIn_of _ (by decide +kernel)) ggX7_line_X7_viaLine
theorem dX7_line_0 : decode cX7_line 0 = .ok (.aload_n 0, 1) := by decide +kernel
theorem dX7_line_1 : decode cX7_line 1 = .ok (.getfield 79, 3) := by decide +kernel
theorem dX7_line_4 : decode cX7_line 4 = .ok (.istore_n 1, 1) := by decide +kernel
theorem dX7_line_5 : decode cX7_line 5 = .ok (.aload_n 0, 1) := by decide +kernel
theorem dX7_line_6 : decode cX7_line 6 = .ok (.invokevirtual 180, 3) := by decide +kernel
theorem dX7_line_9 : decode cX7_line 9 = .ok (.istore_n 2, 1) := by decide +kernel
theorem dX7_line_10 : decode cX7_line 10 = .ok (.aload_n 0, 1) := by decide +kernel
theorem dX7_line_11 : decode cX7_line 11 = .ok (.invokevirtual 85, 3) := by decide +kernel
theorem dX7_line_14 : decode cX7_line 14 = .ok (.ifCond .ne 4, 3) := by decide +kernel
theorem dX7_line_17 : decode cX7_line 17 = .ok (.return_, 1) := by decide +kernel
theorem dX7_line_18 : decode cX7_line 18 = .ok (.iload_n 2, 1) := by decide +kernel
theorem dX7_line_19 : decode cX7_line 19 = .ok (.iconst 5, 1) := by decide +kernel
theorem dX7_line_20 : decode cX7_line 20 = .ok (.if_icmp .ge 12, 3) := by decide +kernel
theorem dX7_line_23 : decode cX7_line 23 = .ok (.aload_n 0, 1) := by decide +kernel
theorem dX7_line_24 : decode cX7_line 24 = .ok (.iload_n 2, 1) := by decide +kernel
theorem dX7_line_25 : decode cX7_line 25 = .ok (.iload_n 1, 1) := by decide +kernel
theorem dX7_line_26 : decode cX7_line 26 = .ok (.invokevirtual 183, 3) := by decide +kernel
theorem dX7_line_29 : decode cX7_line 29 = .ok (.goto 36, 3) := by decide +kernel
theorem dX7_line_32 : decode cX7_line 32 = .ok (.aload_n 0, 1) := by decide +kernel
theorem dX7_line_33 : decode cX7_line 33 = .ok (.invokevirtual 186, 3) := by decide +kernel
theorem dX7_line_36 : decode cX7_line 36 = .ok (.ifCond .ne 11, 3) := by decide +kernel
theorem dX7_line_39 : decode cX7_line 39 = .ok (.aload_n 0, 1) := by decide +kernel
theorem dX7_line_40 : decode cX7_line 40 = .ok (.iload_n 1, 1) := by decide +kernel
theorem dX7_line_41 : decode cX7_line 41 = .ok (.invokevirtual 93, 3) := by decide +kernel
theorem dX7_line_44 : decode cX7_line 44 = .ok (.goto 21, 3) := by decide +kernel
theorem dX7_line_47 : decode cX7_line 47 = .ok (.iload_n 2, 1) := by decide +kernel
theorem dX7_line_48 : decode cX7_line 48 = .ok (.iconst 5, 1) := by decide +kernel
theorem dX7_line_49 : decode cX7_line 49 = .ok (.if_icmp .ne 11, 3) := by decide +kernel
theorem dX7_line_52 : decode cX7_line 52 = .ok (.aload_n 0, 1) := by decide +kernel
theorem dX7_line_53 : decode cX7_line 53 = .ok (.iload_n 1, 1) := by decide +kernel
theorem dX7_line_54 : decode cX7_line 54 = .ok (.invokevirtual 189, 3) := by decide +kernel
theorem dX7_line_57 : decode cX7_line 57 = .ok (.goto 8, 3) := by decide +kernel
theorem dX7_line_60 : decode cX7_line 60 = .ok (.aload_n 0, 1) := by decide +kernel
theorem dX7_line_61 : decode cX7_line 61 = .ok (.iload_n 1, 1) := by decide +kernel
theorem dX7_line_62 : decode cX7_line 62 = .ok (.invokevirtual 192, 3) := by decide +kernel
theorem dX7_line_65 : decode cX7_line 65 = .ok (.return_, 1) := by decide +kernel
set_option maxRecDepth 20000 in
theorem ggX7_read_X7_good : GoodIn wsX7_read wsX7_good := goodIn_r _ [20, 5, 133, 134, 135, 136, 137, 138, 139, 140, 141, 142, 143, 144, 145, 146, 147, 148, 149, 150, 151, 152, 153, 154, 155, 156, 157, 158, 159, 160, 161, 162, 163, 164, 165] (by decide +kernel) (by decide +kernel)
set_option maxRecDepth 20000 in
theorem gX7_read_X7_good : GoodIn wsX7_read (wsV RX7 85 RX7 yX7_good wsX7_good) := goodIn_app (goodIn_of _ (by decide +kernel)) ggX7_read_X7_good
set_option maxRecDepth 20000 in
theorem ggX7_read_X7_line_wsX7_line_r1 : GoodIn wsX7_read wsX7_line_r1 := goodIn_r _ [4, 25, 26, 27, 19, 28, 16, 17, 18, 20, 5, 29, 30, 31, 32, 10, 33, 34, 35, 36, 37, 38, 39, 40] (by decide +kernel) (by decide +kernel)
set_option maxRecDepth 20000 in
theorem ggX7_read_X7_line_wsX7_line_r2 : GoodIn wsX7_read wsX7_line_r2 := goodIn_r _ [41, 42, 43, 44, 45, 46, 47, 48, 49, 50, 51, 52, 6, 3, 53, 54, 55, 56, 57, 58, 59, 60, 61, 7] (by decide +kernel) (by decide +kernel)
set_option maxRecDepth 20000 in
theorem ggX7_read_X7_line_wsX7_line_r3 : GoodIn wsX7_read wsX7_line_r3 := goodIn_r _ [62, 63, 64, 65, 8, 9, 66, 67, 68, 69, 70, 71, 72, 73, 74, 75, 76, 77, 78, 79, 80, 81, 82, 83] (by decide +kernel) (by decide +kernel)
set_option maxRecDepth 20000 in
theorem ggX7_read_X7_line_wsX7_line_r4 : GoodIn wsX7_read wsX7_line_r4 := goodIn_r _ [84, 85, 86, 87, 88, 89, 90, 91, 92, 93, 94, 95, 96, 97, 98, 99, 100, 101, 102, 103, 104, 105, 106, 11] (by decide +kernel) (by decide +kernel)
set_option maxRecDepth 20000 in
theorem ggX7_read_X7_line_wsX7_line_r5 : GoodIn wsX7_read wsX7_line_r5 := goodIn_r _ [12, 107, 108, 109, 110, 111, 112, 113, 114, 115, 116, 117, 118, 119, 120, 121, 122, 123, 124, 125, 126, 127, 128, 129] (by decide +kernel) (by decide +kernel)
set_option maxRecDepth 20000 in
theorem ggX7_read_X7_line_wsX7_line_r6 : GoodIn wsX7_read wsX7_line_r6 := goodIn_r _ [130, 131, 132] (by decide +kernel) (by decide +kernel)
set_option maxRecDepth 20000 in
theorem ggX7_read_X7_line_wsX70 : GoodIn wsX7_read wsX70 := goodIn_r _ [133, 134, 135, 136, 137, 138, 139, 140, 141, 142, 143, 144, 145, 146, 147, 148, 149, 150, 151, 152, 153, 154, 155, 156, 157, 158, 159, 160, 161, 162, 163, 164, 165] (by decide +kernel) (by decide +kernel)
set_option maxRecDepth 20000 in
theorem ggX7_read_X7_line_c : GoodIn wsX7_read [.code yX7_line cX7_line 3 none] := goodIn_r _ [24] (by decide +kernel) (by decide +kernel)
set_option maxRecDepth 20000 in
theorem ggX7_read_X7_line : GoodIn wsX7_read wsX7_line := goodIn_app ggX7_read_X7_line_c (goodIn_app (goodIn_app ggX7_read_X7_line_wsX7_line_r1 (goodIn_app ggX7_read_X7_line_wsX7_line_r2 (goodIn_app ggX7_read_X7_line_wsX7_line_r3 (goodIn_app ggX7_read_X7_line_wsX7_line_r4 (goodIn_app ggX7_read_X7_line_wsX7_line_r5 ggX7_read_X7_line_wsX7_line_r6))))) ggX7_read_X7_line_wsX70)
set_option maxRecDepth 20000 in
theorem gX7_read_X7_line : GoodIn wsX7_read (wsV RX7 198 RX7 yX7_line wsX7_line) := goodIn_app (goodIn_of _ (by decide +kernel)) ggX7_read_X7_line
set_option maxRecDepth 20000 in
theorem ggX7_read_X7_isWhole : GoodIn wsX7_read wsX7_isWhole := goodIn_r _ [101, 6, 3, 53, 7, 66, 67, 68, 19, 69, 133, 134, 135, 136, 137, 138, 139, 140, 141, 142, 143, 144, 145, 146, 147, 148, 149, 150, 151, 152, 153, 154, 155, 156, 157, 158, 159, 160, 161, 162, 163, 164, 165] (by decide +kernel) (by decide +kernel)
set_option maxRecDepth 20000 in
theorem gX7_read_X7_isWhole : GoodIn wsX7_read (wsV RX7 186 RX7 yX7_isWhole wsX7_isWhole) := goodIn_app (goodIn_of _ (by decide +kernel)) ggX7_read_X7_isWhole
set_option maxRecDepth 20000 in
theorem ggX7_read_X7_fail : GoodIn wsX7_read wsX7_fail := goodIn_r _ [48, 5, 133, 134, 135, 136, 137, 138, 139, 140, 141, 142, 143, 144, 145, 146, 147, 148, 149, 150, 151, 152, 153, 154, 155, 156, 157, 158, 159, 160, 161, 162, 163, 164, 165] (by decide +kernel) (by decide +kernel)
set_option maxRecDepth 20000 in
theorem gX7_read_X7_fail : GoodIn wsX7_read (wsV RX7 93 RX7 yX7_fail wsX7_fail) := goodIn_app (goodIn_of _ (by decide +kernel)) ggX7_read_X7_fail
set_option maxRecDepth 20000 in
theorem ggX7_read_X7_keepPress : GoodIn wsX7_read wsX7_keepPress := goodIn_r _ [114, 3, 8, 12, 11, 115, 116, 117, 19, 118, 133, 134, 135, 136, 137, 138, 139, 140, 141, 142, 143, 144, 145, 146, 147, 148, 149, 150, 151, 152, 153, 154, 155, 156, 157, 158, 159, 160, 161, 162, 163, 164, 165] (by decide +kernel) (by decide +kernel)
set_option maxRecDepth 20000 in
theorem gX7_read_X7_keepPress : GoodIn wsX7_read (wsV RX7 165 RX7 yX7_keepPress wsX7_keepPress) := goodIn_app (goodIn_of _ (by decide +kernel)) ggX7_read_X7_keepPress
theorem dX7_read_0 : decode cX7_read 0 = .ok (.aload_n 0, 1) := by decide +kernel
theorem dX7_read_1 : decode cX7_read 1 = .ok (.iconst 0, 1) := by decide +kernel
theorem dX7_read_2 : decode cX7_read 2 = .ok (.putfield 72, 3) := by decide +kernel
theorem dX7_read_5 : decode cX7_read 5 = .ok (.aload_n 0, 1) := by decide +kernel
theorem dX7_read_6 : decode cX7_read 6 = .ok (.iconst 1, 1) := by decide +kernel
theorem dX7_read_7 : decode cX7_read 7 = .ok (.aload_n 0, 1) := by decide +kernel
theorem dX7_read_8 : decode cX7_read 8 = .ok (.getfield 195, 3) := by decide +kernel
theorem dX7_read_11 : decode cX7_read 11 = .ok (.isub, 1) := by decide +kernel
theorem dX7_read_12 : decode cX7_read 12 = .ok (.putfield 134, 3) := by decide +kernel
theorem dX7_read_15 : decode cX7_read 15 = .ok (.aload_n 0, 1) := by decide +kernel
theorem dX7_read_16 : decode cX7_read 16 = .ok (.iconst 0, 1) := by decide +kernel
theorem dX7_read_17 : decode cX7_read 17 = .ok (.putfield 79, 3) := by decide +kernel
theorem dX7_read_20 : decode cX7_read 20 = .ok (.aload_n 0, 1) := by decide +kernel
theorem dX7_read_21 : decode cX7_read 21 = .ok (.iconst (-1), 1) := by decide +kernel
theorem dX7_read_22 : decode cX7_read 22 = .ok (.putfield 82, 3) := by decide +kernel
theorem dX7_read_25 : decode cX7_read 25 = .ok (.aload_n 0, 1) := by decide +kernel
theorem dX7_read_26 : decode cX7_read 26 = .ok (.getfield 13, 3) := by decide +kernel
theorem dX7_read_29 : decode cX7_read 29 = .ok (.aload_n 0, 1) := by decide +kernel
theorem dX7_read_30 : decode cX7_read 30 = .ok (.getfield 134, 3) := by decide +kernel
theorem dX7_read_33 : decode cX7_read 33 = .ok (.iconst 0, 1) := by decide +kernel
theorem dX7_read_34 : decode cX7_read 34 = .ok (.iastore, 1) := by decide +kernel
theorem dX7_read_35 : decode cX7_read 35 = .ok (.aload_n 0, 1) := by decide +kernel
theorem dX7_read_36 : decode cX7_read 36 = .ok (.getfield 32, 3) := by decide +kernel
theorem dX7_read_39 : decode cX7_read 39 = .ok (.aload_n 0, 1) := by decide +kernel
theorem dX7_read_40 : decode cX7_read 40 = .ok (.getfield 134, 3) := by decide +kernel
theorem dX7_read_43 : decode cX7_read 43 = .ok (.iconst 0, 1) := by decide +kernel
theorem dX7_read_44 : decode cX7_read 44 = .ok (.iastore, 1) := by decide +kernel
theorem dX7_read_45 : decode cX7_read 45 = .ok (.aload_n 0, 1) := by decide +kernel
theorem dX7_read_46 : decode cX7_read 46 = .ok (.getfield 38, 3) := by decide +kernel
theorem dX7_read_49 : decode cX7_read 49 = .ok (.aload_n 0, 1) := by decide +kernel
theorem dX7_read_50 : decode cX7_read 50 = .ok (.getfield 134, 3) := by decide +kernel
theorem dX7_read_53 : decode cX7_read 53 = .ok (.iconst 0, 1) := by decide +kernel
theorem dX7_read_54 : decode cX7_read 54 = .ok (.iastore, 1) := by decide +kernel
theorem dX7_read_55 : decode cX7_read 55 = .ok (.aload_n 0, 1) := by decide +kernel
theorem dX7_read_56 : decode cX7_read 56 = .ok (.getfield 47, 3) := by decide +kernel
theorem dX7_read_59 : decode cX7_read 59 = .ok (.aload_n 0, 1) := by decide +kernel
theorem dX7_read_60 : decode cX7_read 60 = .ok (.getfield 134, 3) := by decide +kernel
theorem dX7_read_63 : decode cX7_read 63 = .ok (.iconst 0, 1) := by decide +kernel
theorem dX7_read_64 : decode cX7_read 64 = .ok (.iastore, 1) := by decide +kernel
theorem dX7_read_65 : decode cX7_read 65 = .ok (.aload_n 0, 1) := by decide +kernel
theorem dX7_read_66 : decode cX7_read 66 = .ok (.invokevirtual 85, 3) := by decide +kernel
theorem dX7_read_69 : decode cX7_read 69 = .ok (.ifCond .eq 21, 3) := by decide +kernel
theorem dX7_read_72 : decode cX7_read 72 = .ok (.aload_n 0, 1) := by decide +kernel
theorem dX7_read_73 : decode cX7_read 73 = .ok (.getfield 79, 3) := by decide +kernel
theorem dX7_read_76 : decode cX7_read 76 = .ok (.aload_n 0, 1) := by decide +kernel
theorem dX7_read_77 : decode cX7_read 77 = .ok (.getfield 76, 3) := by decide +kernel
theorem dX7_read_80 : decode cX7_read 80 = .ok (.if_icmp .ge 10, 3) := by decide +kernel
theorem dX7_read_83 : decode cX7_read 83 = .ok (.aload_n 0, 1) := by decide +kernel
theorem dX7_read_84 : decode cX7_read 84 = .ok (.invokevirtual 198, 3) := by decide +kernel
theorem dX7_read_87 : decode cX7_read 87 = .ok (.goto (-22), 3) := by decide +kernel
theorem dX7_read_90 : decode cX7_read 90 = .ok (.aload_n 0, 1) := by decide +kernel
theorem dX7_read_91 : decode cX7_read 91 = .ok (.invokevirtual 85, 3) := by decide +kernel
theorem dX7_read_94 : decode cX7_read 94 = .ok (.ifCond .eq 18, 3) := by decide +kernel
theorem dX7_read_97 : decode cX7_read 97 = .ok (.aload_n 0, 1) := by decide +kernel
theorem dX7_read_98 : decode cX7_read 98 = .ok (.invokevirtual 186, 3) := by decide +kernel
theorem dX7_read_101 : decode cX7_read 101 = .ok (.ifCond .ne 11, 3) := by decide +kernel
theorem dX7_read_104 : decode cX7_read 104 = .ok (.aload_n 0, 1) := by decide +kernel
theorem dX7_read_105 : decode cX7_read 105 = .ok (.aload_n 0, 1) := by decide +kernel
theorem dX7_read_106 : decode cX7_read 106 = .ok (.getfield 76, 3) := by decide +kernel
theorem dX7_read_109 : decode cX7_read 109 = .ok (.invokevirtual 93, 3) := by decide +kernel
theorem dX7_read_112 : decode cX7_read 112 = .ok (.aload_n 0, 1) := by decide +kernel
theorem dX7_read_113 : decode cX7_read 113 = .ok (.invokevirtual 85, 3) := by decide +kernel
theorem dX7_read_116 : decode cX7_read 116 = .ok (.ifCond .ne 10, 3) := by decide +kernel
theorem dX7_read_119 : decode cX7_read 119 = .ok (.iconst (-1), 1) := by decide +kernel
theorem dX7_read_120 : decode cX7_read 120 = .ok (.aload_n 0, 1) := by decide +kernel
theorem dX7_read_121 : decode cX7_read 121 = .ok (.getfield 82, 3) := by decide +kernel
theorem dX7_read_124 : decode cX7_read 124 = .ok (.isub, 1) := by decide +kernel
theorem dX7_read_125 : decode cX7_read 125 = .ok (.ireturn, 1) := by decide +kernel
theorem dX7_read_126 : decode cX7_read 126 = .ok (.iconst 0, 1) := by decide +kernel
theorem dX7_read_127 : decode cX7_read 127 = .ok (.istore_n 1, 1) := by decide +kernel
theorem dX7_read_128 : decode cX7_read 128 = .ok (.bipush 22, 2) := by decide +kernel
theorem dX7_read_130 : decode cX7_read 130 = .ok (.aload_n 0, 1) := by decide +kernel
theorem dX7_read_131 : decode cX7_read 131 = .ok (.getfield 134, 3) := by decide +kernel
theorem dX7_read_134 : decode cX7_read 134 = .ok (.imul, 1) := by decide +kernel
theorem dX7_read_135 : decode cX7_read 135 = .ok (.istore_n 2, 1) := by decide +kernel
theorem dX7_read_136 : decode cX7_read 136 = .ok (.iload_n 2, 1) := by decide +kernel
theorem dX7_read_137 : decode cX7_read 137 = .ok (.bipush 22, 2) := by decide +kernel
theorem dX7_read_139 : decode cX7_read 139 = .ok (.aload_n 0, 1) := by decide +kernel
theorem dX7_read_140 : decode cX7_read 140 = .ok (.getfield 134, 3) := by decide +kernel
theorem dX7_read_143 : decode cX7_read 143 = .ok (.imul, 1) := by decide +kernel
theorem dX7_read_144 : decode cX7_read 144 = .ok (.aload_n 0, 1) := by decide +kernel
theorem dX7_read_145 : decode cX7_read 145 = .ok (.getfield 38, 3) := by decide +kernel
theorem dX7_read_148 : decode cX7_read 148 = .ok (.aload_n 0, 1) := by decide +kernel
theorem dX7_read_149 : decode cX7_read 149 = .ok (.getfield 134, 3) := by decide +kernel
theorem dX7_read_152 : decode cX7_read 152 = .ok (.iaload, 1) := by decide +kernel
theorem dX7_read_153 : decode cX7_read 153 = .ok (.iadd, 1) := by decide +kernel
theorem dX7_read_154 : decode cX7_read 154 = .ok (.if_icmp .ge 46, 3) := by decide +kernel
theorem dX7_read_157 : decode cX7_read 157 = .ok (.iload_n 1, 1) := by decide +kernel
theorem dX7_read_158 : decode cX7_read 158 = .ok (.ifCond .ne 30, 3) := by decide +kernel
theorem dX7_read_161 : decode cX7_read 161 = .ok (.aload_n 0, 1) := by decide +kernel
theorem dX7_read_162 : decode cX7_read 162 = .ok (.getfield 44, 3) := by decide +kernel
theorem dX7_read_165 : decode cX7_read 165 = .ok (.iload_n 2, 1) := by decide +kernel
theorem dX7_read_166 : decode cX7_read 166 = .ok (.iaload, 1) := by decide +kernel
theorem dX7_read_167 : decode cX7_read 167 = .ok (.aload_n 0, 1) := by decide +kernel
theorem dX7_read_168 : decode cX7_read 168 = .ok (.getfield 41, 3) := by decide +kernel
theorem dX7_read_171 : decode cX7_read 171 = .ok (.iload_n 2, 1) := by decide +kernel
theorem dX7_read_172 : decode cX7_read 172 = .ok (.iaload, 1) := by decide +kernel
theorem dX7_read_173 : decode cX7_read 173 = .ok (.isub, 1) := by decide +kernel
theorem dX7_read_174 : decode cX7_read 174 = .ok (.aload_n 0, 1) := by decide +kernel
theorem dX7_read_175 : decode cX7_read 175 = .ok (.getfield 32, 3) := by decide +kernel
theorem dX7_read_178 : decode cX7_read 178 = .ok (.aload_n 0, 1) := by decide +kernel
theorem dX7_read_179 : decode cX7_read 179 = .ok (.getfield 134, 3) := by decide +kernel
theorem dX7_read_182 : decode cX7_read 182 = .ok (.iaload, 1) := by decide +kernel
theorem dX7_read_183 : decode cX7_read 183 = .ok (.iconst 1, 1) := by decide +kernel
theorem dX7_read_184 : decode cX7_read 184 = .ok (.isub, 1) := by decide +kernel
theorem dX7_read_185 : decode cX7_read 185 = .ok (.if_icmp .ne 7, 3) := by decide +kernel
theorem dX7_read_188 : decode cX7_read 188 = .ok (.iconst 1, 1) := by decide +kernel
theorem dX7_read_189 : decode cX7_read 189 = .ok (.goto 4, 3) := by decide +kernel
theorem dX7_read_192 : decode cX7_read 192 = .ok (.iconst 0, 1) := by decide +kernel
theorem dX7_read_193 : decode cX7_read 193 = .ok (.istore_n 1, 1) := by decide +kernel
theorem dX7_read_194 : decode cX7_read 194 = .ok (.iinc 2 1, 3) := by decide +kernel
theorem dX7_read_197 : decode cX7_read 197 = .ok (.goto (-61), 3) := by decide +kernel
theorem dX7_read_200 : decode cX7_read 200 = .ok (.iload_n 1, 1) := by decide +kernel
theorem dX7_read_201 : decode cX7_read 201 = .ok (.ifCond .ne 19, 3) := by decide +kernel
theorem dX7_read_204 : decode cX7_read 204 = .ok (.aload_n 0, 1) := by decide +kernel
theorem dX7_read_205 : decode cX7_read 205 = .ok (.iconst 0, 1) := by decide +kernel
theorem dX7_read_206 : decode cX7_read 206 = .ok (.aload_n 0, 1) := by decide +kernel
theorem dX7_read_207 : decode cX7_read 207 = .ok (.getfield 32, 3) := by decide +kernel
theorem dX7_read_210 : decode cX7_read 210 = .ok (.aload_n 0, 1) := by decide +kernel
theorem dX7_read_211 : decode cX7_read 211 = .ok (.getfield 134, 3) := by decide +kernel
theorem dX7_read_214 : decode cX7_read 214 = .ok (.iaload, 1) := by decide +kernel
theorem dX7_read_215 : decode cX7_read 215 = .ok (.iconst 1, 1) := by decide +kernel
theorem dX7_read_216 : decode cX7_read 216 = .ok (.isub, 1) := by decide +kernel
theorem dX7_read_217 : decode cX7_read 217 = .ok (.invokevirtual 165, 3) := by decide +kernel
theorem dX7_read_220 : decode cX7_read 220 = .ok (.aload_n 0, 1) := by decide +kernel
theorem dX7_read_221 : decode cX7_read 221 = .ok (.aload_n 0, 1) := by decide +kernel
theorem dX7_read_222 : decode cX7_read 222 = .ok (.getfield 134, 3) := by decide +kernel
theorem dX7_read_225 : decode cX7_read 225 = .ok (.putfield 195, 3) := by decide +kernel
theorem dX7_read_228 : decode cX7_read 228 = .ok (.aload_n 0, 1) := by decide +kernel
theorem dX7_read_229 : decode cX7_read 229 = .ok (.iconst 1, 1) := by decide +kernel
theorem dX7_read_230 : decode cX7_read 230 = .ok (.putfield 201, 3) := by decide +kernel
theorem dX7_read_233 : decode cX7_read 233 = .ok (.aload_n 0, 1) := by decide +kernel
theorem dX7_read_234 : decode cX7_read 234 = .ok (.iconst 0, 1) := by decide +kernel
theorem dX7_read_235 : decode cX7_read 235 = .ok (.putfield 76, 3) := by decide +kernel
theorem dX7_read_238 : decode cX7_read 238 = .ok (.aload_n 0, 1) := by decide +kernel
theorem dX7_read_239 : decode cX7_read 239 = .ok (.iconst 0, 1) := by decide +kernel
theorem dX7_read_240 : decode cX7_read 240 = .ok (.putfield 205, 3) := by decide +kernel
theorem dX7_read_243 : decode cX7_read 243 = .ok (.iconst 0, 1) := by decide +kernel
theorem dX7_read_244 : decode cX7_read 244 = .ok (.istore_n 2, 1) := by decide +kernel
theorem dX7_read_245 : decode cX7_read 245 = .ok (.iload_n 2, 1) := by decide +kernel
theorem dX7_read_246 : decode cX7_read 246 = .ok (.bipush 32, 2) := by decide +kernel
theorem dX7_read_248 : decode cX7_read 248 = .ok (.if_icmp .ge 18, 3) := by decide +kernel
theorem dX7_read_251 : decode cX7_read 251 = .ok (.aload_n 0, 1) := by decide +kernel
theorem dX7_read_252 : decode cX7_read 252 = .ok (.getfield 56, 3) := by decide +kernel
theorem dX7_read_255 : decode cX7_read 255 = .ok (.iload_n 2, 1) := by decide +kernel
theorem dX7_read_256 : decode cX7_read 256 = .ok (.sipush 1000, 3) := by decide +kernel
theorem dX7_read_259 : decode cX7_read 259 = .ok (.iastore, 1) := by decide +kernel
theorem dX7_read_260 : decode cX7_read 260 = .ok (.iinc 2 1, 3) := by decide +kernel
theorem dX7_read_263 : decode cX7_read 263 = .ok (.goto (-18), 3) := by decide +kernel
theorem dX7_read_266 : decode cX7_read 266 = .ok (.aload_n 0, 1) := by decide +kernel
theorem dX7_read_267 : decode cX7_read 267 = .ok (.getfield 13, 3) := by decide +kernel
theorem dX7_read_270 : decode cX7_read 270 = .ok (.aload_n 0, 1) := by decide +kernel
theorem dX7_read_271 : decode cX7_read 271 = .ok (.getfield 134, 3) := by decide +kernel
theorem dX7_read_274 : decode cX7_read 274 = .ok (.iaload, 1) := by decide +kernel
theorem dX7_read_275 : decode cX7_read 275 = .ok (.ireturn, 1) := by decide +kernel
theorem dX7_isLayer_0 : decode cX7_isLayer 0 = .ok (.aload_n 0, 1) := by decide +kernel
theorem dX7_isLayer_1 : decode cX7_isLayer 1 = .ok (.getfield 201, 3) := by decide +kernel
theorem dX7_isLayer_4 : decode cX7_isLayer 4 = .ok (.ifCond .eq 24, 3) := by decide +kernel
theorem dX7_isLayer_7 : decode cX7_isLayer 7 = .ok (.iload_n 1, 1) := by decide +kernel
theorem dX7_isLayer_8 : decode cX7_isLayer 8 = .ok (.ifCond .lt 20, 3) := by decide +kernel
theorem dX7_isLayer_11 : decode cX7_isLayer 11 = .ok (.iload_n 1, 1) := by decide +kernel
theorem dX7_isLayer_12 : decode cX7_isLayer 12 = .ok (.aload_n 0, 1) := by decide +kernel
theorem dX7_isLayer_13 : decode cX7_isLayer 13 = .ok (.getfield 13, 3) := by decide +kernel
theorem dX7_isLayer_16 : decode cX7_isLayer 16 = .ok (.aload_n 0, 1) := by decide +kernel
theorem dX7_isLayer_17 : decode cX7_isLayer 17 = .ok (.getfield 195, 3) := by decide +kernel
theorem dX7_isLayer_20 : decode cX7_isLayer 20 = .ok (.iaload, 1) := by decide +kernel
theorem dX7_isLayer_21 : decode cX7_isLayer 21 = .ok (.if_icmp .ge 7, 3) := by decide +kernel
theorem dX7_isLayer_24 : decode cX7_isLayer 24 = .ok (.iconst 1, 1) := by decide +kernel
theorem dX7_isLayer_25 : decode cX7_isLayer 25 = .ok (.goto 4, 3) := by decide +kernel
theorem dX7_isLayer_28 : decode cX7_isLayer 28 = .ok (.iconst 0, 1) := by decide +kernel
theorem dX7_isLayer_29 : decode cX7_isLayer 29 = .ok (.ireturn, 1) := by decide +kernel
theorem dX7_isCopper_0 : decode cX7_isCopper 0 = .ok (.aload_n 0, 1) := by decide +kernel
theorem dX7_isCopper_1 : decode cX7_isCopper 1 = .ok (.getfield 201, 3) := by decide +kernel
theorem dX7_isCopper_4 : decode cX7_isCopper 4 = .ok (.ifCond .eq 24, 3) := by decide +kernel
theorem dX7_isCopper_7 : decode cX7_isCopper 7 = .ok (.iload_n 1, 1) := by decide +kernel
theorem dX7_isCopper_8 : decode cX7_isCopper 8 = .ok (.ifCond .lt 20, 3) := by decide +kernel
theorem dX7_isCopper_11 : decode cX7_isCopper 11 = .ok (.iload_n 1, 1) := by decide +kernel
theorem dX7_isCopper_12 : decode cX7_isCopper 12 = .ok (.aload_n 0, 1) := by decide +kernel
theorem dX7_isCopper_13 : decode cX7_isCopper 13 = .ok (.getfield 32, 3) := by decide +kernel
theorem dX7_isCopper_16 : decode cX7_isCopper 16 = .ok (.aload_n 0, 1) := by decide +kernel
theorem dX7_isCopper_17 : decode cX7_isCopper 17 = .ok (.getfield 195, 3) := by decide +kernel
theorem dX7_isCopper_20 : decode cX7_isCopper 20 = .ok (.iaload, 1) := by decide +kernel
theorem dX7_isCopper_21 : decode cX7_isCopper 21 = .ok (.if_icmp .ge 7, 3) := by decide +kernel
theorem dX7_isCopper_24 : decode cX7_isCopper 24 = .ok (.iconst 1, 1) := by decide +kernel
theorem dX7_isCopper_25 : decode cX7_isCopper 25 = .ok (.goto 4, 3) := by decide +kernel
theorem dX7_isCopper_28 : decode cX7_isCopper 28 = .ok (.iconst 0, 1) := by decide +kernel
theorem dX7_isCopper_29 : decode cX7_isCopper 29 = .ok (.ireturn, 1) := by decide +kernel
theorem dX7_common_0 : decode cX7_common 0 = .ok (.lload_n 0, 1) := by decide +kernel
theorem dX7_common_1 : decode cX7_common 1 = .ok (.lstore 4, 2) := by decide +kernel
theorem dX7_common_3 : decode cX7_common 3 = .ok (.lload_n 2, 1) := by decide +kernel
theorem dX7_common_4 : decode cX7_common 4 = .ok (.lstore 6, 2) := by decide +kernel
theorem dX7_common_6 : decode cX7_common 6 = .ok (.lload 6, 2) := by decide +kernel
theorem dX7_common_8 : decode cX7_common 8 = .ok (.lconst 0, 1) := by decide +kernel
theorem dX7_common_9 : decode cX7_common 9 = .ok (.lcmp, 1) := by decide +kernel
theorem dX7_common_10 : decode cX7_common 10 = .ok (.ifCond .eq 21, 3) := by decide +kernel
theorem dX7_common_13 : decode cX7_common 13 = .ok (.lload 4, 2) := by decide +kernel
theorem dX7_common_15 : decode cX7_common 15 = .ok (.lload 6, 2) := by decide +kernel
theorem dX7_common_17 : decode cX7_common 17 = .ok (.lrem, 1) := by decide +kernel
theorem dX7_common_18 : decode cX7_common 18 = .ok (.lstore 8, 2) := by decide +kernel
theorem dX7_common_20 : decode cX7_common 20 = .ok (.lload 6, 2) := by decide +kernel
theorem dX7_common_22 : decode cX7_common 22 = .ok (.lstore 4, 2) := by decide +kernel
theorem dX7_common_24 : decode cX7_common 24 = .ok (.lload 8, 2) := by decide +kernel
theorem dX7_common_26 : decode cX7_common 26 = .ok (.lstore 6, 2) := by decide +kernel
theorem dX7_common_28 : decode cX7_common 28 = .ok (.goto (-22), 3) := by decide +kernel
theorem dX7_common_31 : decode cX7_common 31 = .ok (.lload 4, 2) := by decide +kernel
theorem dX7_common_33 : decode cX7_common 33 = .ok (.lreturn, 1) := by decide +kernel
set_option maxRecDepth 20000 in
theorem ggX7_partOf_X7_common : GoodIn wsX7_partOf wsX7_common := goodIn_r _ [4] (by decide +kernel) (by decide +kernel)
set_option maxRecDepth 20000 in
theorem gX7_partOf_X7_common : GoodIn wsX7_partOf (va_wsS RX7 208 yX7_common wsX7_common) := goodIn_app (goodIn_of _ (by decide +kernel)) ggX7_partOf_X7_common
theorem dX7_partOf_0 : decode cX7_partOf 0 = .ok (.lload_n 0, 1) := by decide +kernel
theorem dX7_partOf_1 : decode cX7_partOf 1 = .ok (.lload_n 2, 1) := by decide +kernel
theorem dX7_partOf_2 : decode cX7_partOf 2 = .ok (.invokestatic 208, 3) := by decide +kernel
theorem dX7_partOf_5 : decode cX7_partOf 5 = .ok (.lstore 5, 2) := by decide +kernel
theorem dX7_partOf_7 : decode cX7_partOf 7 = .ok (.iload 4, 2) := by decide +kernel
theorem dX7_partOf_9 : decode cX7_partOf 9 = .ok (.ifCond .ne 10, 3) := by decide +kernel
theorem dX7_partOf_12 : decode cX7_partOf 12 = .ok (.lload_n 0, 1) := by decide +kernel
theorem dX7_partOf_13 : decode cX7_partOf 13 = .ok (.lload 5, 2) := by decide +kernel
theorem dX7_partOf_15 : decode cX7_partOf 15 = .ok (.ldiv, 1) := by decide +kernel
theorem dX7_partOf_16 : decode cX7_partOf 16 = .ok (.goto 7, 3) := by decide +kernel
theorem dX7_partOf_19 : decode cX7_partOf 19 = .ok (.lload_n 2, 1) := by decide +kernel
theorem dX7_partOf_20 : decode cX7_partOf 20 = .ok (.lload 5, 2) := by decide +kernel
theorem dX7_partOf_22 : decode cX7_partOf 22 = .ok (.ldiv, 1) := by decide +kernel
theorem dX7_partOf_23 : decode cX7_partOf 23 = .ok (.lreturn, 1) := by decide +kernel
theorem dX7_endOf_0 : decode cX7_endOf 0 = .ok (.bipush 80, 2) := by decide +kernel
theorem dX7_endOf_2 : decode cX7_endOf 2 = .ok (.aload_n 0, 1) := by decide +kernel
theorem dX7_endOf_3 : decode cX7_endOf 3 = .ok (.getfield 195, 3) := by decide +kernel
theorem dX7_endOf_6 : decode cX7_endOf 6 = .ok (.imul, 1) := by decide +kernel
theorem dX7_endOf_7 : decode cX7_endOf 7 = .ok (.iload_n 1, 1) := by decide +kernel
theorem dX7_endOf_8 : decode cX7_endOf 8 = .ok (.iadd, 1) := by decide +kernel
theorem dX7_endOf_9 : decode cX7_endOf 9 = .ok (.istore_n 3, 1) := by decide +kernel
theorem dX7_endOf_10 : decode cX7_endOf 10 = .ok (.aload_n 0, 1) := by decide +kernel
theorem dX7_endOf_11 : decode cX7_endOf 11 = .ok (.getfield 26, 3) := by decide +kernel
theorem dX7_endOf_14 : decode cX7_endOf 14 = .ok (.iload_n 3, 1) := by decide +kernel
theorem dX7_endOf_15 : decode cX7_endOf 15 = .ok (.laload, 1) := by decide +kernel
theorem dX7_endOf_16 : decode cX7_endOf 16 = .ok (.iload_n 2, 1) := by decide +kernel
theorem dX7_endOf_17 : decode cX7_endOf 17 = .ok (.ifCond .ne 17, 3) := by decide +kernel
theorem dX7_endOf_20 : decode cX7_endOf 20 = .ok (.ldc2_w 212, 3) := by decide +kernel
theorem dX7_endOf_23 : decode cX7_endOf 23 = .ok (.aload_n 0, 1) := by decide +kernel
theorem dX7_endOf_24 : decode cX7_endOf 24 = .ok (.getfield 29, 3) := by decide +kernel
theorem dX7_endOf_27 : decode cX7_endOf 27 = .ok (.iload_n 3, 1) := by decide +kernel
theorem dX7_endOf_28 : decode cX7_endOf 28 = .ok (.iaload, 1) := by decide +kernel
theorem dX7_endOf_29 : decode cX7_endOf 29 = .ok (.i2l, 1) := by decide +kernel
theorem dX7_endOf_30 : decode cX7_endOf 30 = .ok (.lsub, 1) := by decide +kernel
theorem dX7_endOf_31 : decode cX7_endOf 31 = .ok (.goto 14, 3) := by decide +kernel
theorem dX7_endOf_34 : decode cX7_endOf 34 = .ok (.ldc2_w 212, 3) := by decide +kernel
theorem dX7_endOf_37 : decode cX7_endOf 37 = .ok (.aload_n 0, 1) := by decide +kernel
theorem dX7_endOf_38 : decode cX7_endOf 38 = .ok (.getfield 29, 3) := by decide +kernel
theorem dX7_endOf_41 : decode cX7_endOf 41 = .ok (.iload_n 3, 1) := by decide +kernel
theorem dX7_endOf_42 : decode cX7_endOf 42 = .ok (.iaload, 1) := by decide +kernel
