theorem dX4_init_0 : decode cX4_init 0 = .ok (.aload_n 0, 1) := by decide +kernel
theorem dX4_init_1 : decode cX4_init 1 = .ok (.invokespecial 3, 3) := by decide +kernel
theorem dX4_init_4 : decode cX4_init 4 = .ok (.aload_n 0, 1) := by decide +kernel
theorem dX4_init_5 : decode cX4_init 5 = .ok (.sipush 3000, 3) := by decide +kernel
theorem dX4_init_8 : decode cX4_init 8 = .ok (.newarray .char, 2) := by decide +kernel
theorem dX4_init_10 : decode cX4_init 10 = .ok (.putfield 9, 3) := by decide +kernel
theorem dX4_init_13 : decode cX4_init 13 = .ok (.return_, 1) := by decide +kernel
theorem dX4_append_0 : decode cX4_append 0 = .ok (.iload_n 1, 1) := by decide +kernel
theorem dX4_append_1 : decode cX4_append 1 = .ok (.bipush 10, 2) := by decide +kernel
theorem dX4_append_3 : decode cX4_append 3 = .ok (.if_icmp .eq 15, 3) := by decide +kernel
theorem dX4_append_6 : decode cX4_append 6 = .ok (.iload_n 1, 1) := by decide +kernel
theorem dX4_append_7 : decode cX4_append 7 = .ok (.bipush 32, 2) := by decide +kernel
theorem dX4_append_9 : decode cX4_append 9 = .ok (.if_icmp .lt 13, 3) := by decide +kernel
theorem dX4_append_12 : decode cX4_append 12 = .ok (.iload_n 1, 1) := by decide +kernel
theorem dX4_append_13 : decode cX4_append 13 = .ok (.bipush 126, 2) := by decide +kernel
theorem dX4_append_15 : decode cX4_append 15 = .ok (.if_icmp .gt 7, 3) := by decide +kernel
theorem dX4_append_18 : decode cX4_append 18 = .ok (.iconst 1, 1) := by decide +kernel
theorem dX4_append_19 : decode cX4_append 19 = .ok (.goto 4, 3) := by decide +kernel
theorem dX4_append_22 : decode cX4_append 22 = .ok (.iconst 0, 1) := by decide +kernel
theorem dX4_append_23 : decode cX4_append 23 = .ok (.istore_n 2, 1) := by decide +kernel
theorem dX4_append_24 : decode cX4_append 24 = .ok (.iload_n 2, 1) := by decide +kernel
theorem dX4_append_25 : decode cX4_append 25 = .ok (.ifCond .eq 13, 3) := by decide +kernel
theorem dX4_append_28 : decode cX4_append 28 = .ok (.aload_n 0, 1) := by decide +kernel
theorem dX4_append_29 : decode cX4_append 29 = .ok (.getfield 15, 3) := by decide +kernel
theorem dX4_append_32 : decode cX4_append 32 = .ok (.sipush 3000, 3) := by decide +kernel
theorem dX4_append_35 : decode cX4_append 35 = .ok (.if_icmp .lt 5, 3) := by decide +kernel
theorem dX4_append_38 : decode cX4_append 38 = .ok (.iconst 0, 1) := by decide +kernel
theorem dX4_append_39 : decode cX4_append 39 = .ok (.ireturn, 1) := by decide +kernel
theorem dX4_append_40 : decode cX4_append 40 = .ok (.aload_n 0, 1) := by decide +kernel
theorem dX4_append_41 : decode cX4_append 41 = .ok (.getfield 9, 3) := by decide +kernel
theorem dX4_append_44 : decode cX4_append 44 = .ok (.aload_n 0, 1) := by decide +kernel
theorem dX4_append_45 : decode cX4_append 45 = .ok (.getfield 15, 3) := by decide +kernel
theorem dX4_append_48 : decode cX4_append 48 = .ok (.iload_n 1, 1) := by decide +kernel
theorem dX4_append_49 : decode cX4_append 49 = .ok (.i2c, 1) := by decide +kernel
theorem dX4_append_50 : decode cX4_append 50 = .ok (.castore, 1) := by decide +kernel
theorem dX4_append_51 : decode cX4_append 51 = .ok (.aload_n 0, 1) := by decide +kernel
theorem dX4_append_52 : decode cX4_append 52 = .ok (.dup, 1) := by decide +kernel
theorem dX4_append_53 : decode cX4_append 53 = .ok (.getfield 15, 3) := by decide +kernel
theorem dX4_append_56 : decode cX4_append 56 = .ok (.iconst 1, 1) := by decide +kernel
theorem dX4_append_57 : decode cX4_append 57 = .ok (.iadd, 1) := by decide +kernel
theorem dX4_append_58 : decode cX4_append 58 = .ok (.putfield 15, 3) := by decide +kernel
theorem dX4_append_61 : decode cX4_append 61 = .ok (.iconst 1, 1) := by decide +kernel
theorem dX4_append_62 : decode cX4_append 62 = .ok (.ireturn, 1) := by decide +kernel
theorem dX4_forget_0 : decode cX4_forget 0 = .ok (.aload_n 0, 1) := by decide +kernel
theorem dX4_forget_1 : decode cX4_forget 1 = .ok (.iconst 0, 1) := by decide +kernel
theorem dX4_forget_2 : decode cX4_forget 2 = .ok (.putfield 15, 3) := by decide +kernel
theorem dX4_forget_5 : decode cX4_forget 5 = .ok (.return_, 1) := by decide +kernel
set_option maxRecDepth 20000 in
theorem ggX4_readInto_X0_clear : GoodIn wsX4_readInto wsX0_clear := goodIn_r _ [8, 9, 10, 11, 12, 13, 14, 15, 16, 17, 18, 19, 20, 21, 22, 215, 216, 217, 218, 219, 220, 221, 222, 223, 224, 225, 226, 227, 228, 229, 230, 231] (by decide +kernel) (by decide +kernel)
set_option maxRecDepth 20000 in
theorem gX4_readInto_X0_clear : GoodIn wsX4_readInto (wsV RX4 19 RX0 yX0_clear wsX0_clear) := goodIn_app (goodIn_of _ (by decide +kernel)) ggX4_readInto_X0_clear
set_option maxRecDepth 20000 in
theorem ggX4_readInto_X4_readLine_wsX4_readLine_r1 : GoodIn wsX4_readInto wsX4_readLine_r1 := goodIn_r _ [1, 28, 29, 30, 31, 26, 32, 33, 34, 35, 36, 37, 38, 39, 40, 41, 42, 43, 44, 45, 46, 47, 48, 49] (by decide +kernel) (by decide +kernel)
set_option maxRecDepth 20000 in
theorem ggX4_readInto_X4_readLine_wsX4_readLine_r2 : GoodIn wsX4_readInto wsX4_readLine_r2 := goodIn_r _ [50, 51, 52, 53, 54, 55, 56, 57, 58, 59, 3, 60, 61, 62, 63, 64, 65, 66, 67, 68, 69, 70, 71, 72] (by decide +kernel) (by decide +kernel)
set_option maxRecDepth 20000 in
theorem ggX4_readInto_X4_readLine_wsX4_readLine_r3 : GoodIn wsX4_readInto wsX4_readLine_r3 := goodIn_r _ [73, 74, 75, 76, 77, 78, 79, 80, 81, 82, 83, 84, 85, 86, 87, 88, 89, 90, 91, 92, 93, 94, 95, 96] (by decide +kernel) (by decide +kernel)
set_option maxRecDepth 20000 in
theorem ggX4_readInto_X4_readLine_wsX4_readLine_r4 : GoodIn wsX4_readInto wsX4_readLine_r4 := goodIn_r _ [97, 98, 99, 100, 101, 2, 102, 103, 104, 105, 106, 107, 108, 7, 109, 10, 9, 110, 12, 111, 14, 112, 113, 114] (by decide +kernel) (by decide +kernel)
set_option maxRecDepth 20000 in
theorem ggX4_readInto_X4_readLine_wsX4_readLine_r5 : GoodIn wsX4_readInto wsX4_readLine_r5 := goodIn_r _ [18, 115, 20, 21, 116, 117, 118, 119, 120, 121, 122, 123, 124, 125, 126, 127, 13, 128, 129, 130, 131, 22, 132, 133] (by decide +kernel) (by decide +kernel)
set_option maxRecDepth 20000 in
theorem ggX4_readInto_X4_readLine_wsX4_readLine_r6 : GoodIn wsX4_readInto wsX4_readLine_r6 := goodIn_r _ [134, 135, 136, 137, 138, 139, 140, 141, 142, 143, 144, 145, 146, 147, 148, 149, 150, 151, 152, 153, 154, 155, 156, 157] (by decide +kernel) (by decide +kernel)
set_option maxRecDepth 20000 in
theorem ggX4_readInto_X4_readLine_wsX4_readLine_r7 : GoodIn wsX4_readInto wsX4_readLine_r7 := goodIn_r _ [158, 159, 160, 161, 162, 163, 164, 165, 166, 167, 168, 169, 170, 171, 172, 173, 174, 175, 176, 177, 178, 179, 180, 181] (by decide +kernel) (by decide +kernel)
set_option maxRecDepth 20000 in
theorem ggX4_readInto_X4_readLine_wsX4_readLine_r8 : GoodIn wsX4_readInto wsX4_readLine_r8 := goodIn_r _ [182, 183, 184, 185, 186, 187, 188, 189, 190, 191, 192, 193, 11, 194, 195, 196, 197, 198, 199, 200, 201, 202, 203, 204] (by decide +kernel) (by decide +kernel)
set_option maxRecDepth 20000 in
theorem ggX4_readInto_X4_readLine_wsX4_readLine_r9 : GoodIn wsX4_readInto wsX4_readLine_r9 := goodIn_r _ [205, 206, 207, 208, 209] (by decide +kernel) (by decide +kernel)
set_option maxRecDepth 20000 in
theorem ggX4_readInto_X4_readLine_wsX40 : GoodIn wsX4_readInto wsX40 := goodIn_r _ [210, 211, 212, 213, 214] (by decide +kernel) (by decide +kernel)
set_option maxRecDepth 20000 in
theorem ggX4_readInto_X4_readLine_wsX00 : GoodIn wsX4_readInto wsX00 := goodIn_r _ [215, 216, 217, 218, 219, 220, 221, 222, 223, 224, 225, 226] (by decide +kernel) (by decide +kernel)
set_option maxRecDepth 20000 in
theorem ggX4_readInto_X4_readLine_wsX20 : GoodIn wsX4_readInto wsX20 := goodIn_r _ [230, 231] (by decide +kernel) (by decide +kernel)
set_option maxRecDepth 20000 in
theorem ggX4_readInto_X4_readLine_wsX30 : GoodIn wsX4_readInto wsX30 := goodIn_r _ [227, 228, 229] (by decide +kernel) (by decide +kernel)
set_option maxRecDepth 20000 in
theorem ggX4_readInto_X4_readLine_c : GoodIn wsX4_readInto [.code yX4_readLine cX4_readLine 4 (some .boolean)] := goodIn_r _ [27] (by decide +kernel) (by decide +kernel)
set_option maxRecDepth 20000 in
theorem ggX4_readInto_X4_readLine : GoodIn wsX4_readInto wsX4_readLine := goodIn_app ggX4_readInto_X4_readLine_c (goodIn_app (goodIn_app (goodIn_app (goodIn_app (goodIn_app ggX4_readInto_X4_readLine_wsX4_readLine_r1 (goodIn_app ggX4_readInto_X4_readLine_wsX4_readLine_r2 (goodIn_app ggX4_readInto_X4_readLine_wsX4_readLine_r3 (goodIn_app ggX4_readInto_X4_readLine_wsX4_readLine_r4 (goodIn_app ggX4_readInto_X4_readLine_wsX4_readLine_r5 (goodIn_app ggX4_readInto_X4_readLine_wsX4_readLine_r6 (goodIn_app ggX4_readInto_X4_readLine_wsX4_readLine_r7 (goodIn_app ggX4_readInto_X4_readLine_wsX4_readLine_r8 ggX4_readInto_X4_readLine_wsX4_readLine_r9)))))))) ggX4_readInto_X4_readLine_wsX40) ggX4_readInto_X4_readLine_wsX00) ggX4_readInto_X4_readLine_wsX20) ggX4_readInto_X4_readLine_wsX30)
set_option maxRecDepth 20000 in
theorem gX4_readInto_X4_readLine : GoodIn wsX4_readInto (wsV RX4 30 RX4 yX4_readLine wsX4_readLine) := goodIn_app (goodIn_of _ (by decide +kernel)) ggX4_readInto_X4_readLine
set_option maxRecDepth 20000 in
theorem ggX4_readInto_X0_endLayers : GoodIn wsX4_readInto wsX0_endLayers := goodIn_r _ [109, 10, 9, 110, 12, 111, 14, 112, 113, 114, 18, 115, 20, 21, 116, 117, 118, 119, 120, 121, 122, 123, 215, 216, 217, 218, 219, 220, 221, 222, 223, 224, 225, 226, 230, 231, 227, 228, 229] (by decide +kernel) (by decide +kernel)
set_option maxRecDepth 20000 in
theorem gX4_readInto_X0_endLayers : GoodIn wsX4_readInto (wsV RX4 34 RX0 yX0_endLayers wsX0_endLayers) := goodIn_app (goodIn_of _ (by decide +kernel)) ggX4_readInto_X0_endLayers
theorem dX4_readInto_0 : decode cX4_readInto 0 = .ok (.aload_n 1, 1) := by decide +kernel
theorem dX4_readInto_1 : decode cX4_readInto 1 = .ok (.invokevirtual 19, 3) := by decide +kernel
theorem dX4_readInto_4 : decode cX4_readInto 4 = .ok (.aload_n 0, 1) := by decide +kernel
theorem dX4_readInto_5 : decode cX4_readInto 5 = .ok (.iconst 0, 1) := by decide +kernel
theorem dX4_readInto_6 : decode cX4_readInto 6 = .ok (.putfield 24, 3) := by decide +kernel
theorem dX4_readInto_9 : decode cX4_readInto 9 = .ok (.aload_n 0, 1) := by decide +kernel
theorem dX4_readInto_10 : decode cX4_readInto 10 = .ok (.iconst (-1), 1) := by decide +kernel
theorem dX4_readInto_11 : decode cX4_readInto 11 = .ok (.putfield 27, 3) := by decide +kernel
theorem dX4_readInto_14 : decode cX4_readInto 14 = .ok (.iconst 0, 1) := by decide +kernel
theorem dX4_readInto_15 : decode cX4_readInto 15 = .ok (.istore_n 2, 1) := by decide +kernel
theorem dX4_readInto_16 : decode cX4_readInto 16 = .ok (.iload_n 2, 1) := by decide +kernel
theorem dX4_readInto_17 : decode cX4_readInto 17 = .ok (.sipush 3000, 3) := by decide +kernel
theorem dX4_readInto_20 : decode cX4_readInto 20 = .ok (.if_icmp .ge 33, 3) := by decide +kernel
theorem dX4_readInto_23 : decode cX4_readInto 23 = .ok (.aload_n 0, 1) := by decide +kernel
theorem dX4_readInto_24 : decode cX4_readInto 24 = .ok (.getfield 24, 3) := by decide +kernel
theorem dX4_readInto_27 : decode cX4_readInto 27 = .ok (.aload_n 0, 1) := by decide +kernel
theorem dX4_readInto_28 : decode cX4_readInto 28 = .ok (.getfield 15, 3) := by decide +kernel
theorem dX4_readInto_31 : decode cX4_readInto 31 = .ok (.if_icmp .ge 22, 3) := by decide +kernel
theorem dX4_readInto_34 : decode cX4_readInto 34 = .ok (.aload_n 0, 1) := by decide +kernel
theorem dX4_readInto_35 : decode cX4_readInto 35 = .ok (.aload_n 1, 1) := by decide +kernel
theorem dX4_readInto_36 : decode cX4_readInto 36 = .ok (.invokevirtual 30, 3) := by decide +kernel
theorem dX4_readInto_39 : decode cX4_readInto 39 = .ok (.ifCond .ne 8, 3) := by decide +kernel
theorem dX4_readInto_42 : decode cX4_readInto 42 = .ok (.aload_n 0, 1) := by decide +kernel
theorem dX4_readInto_43 : decode cX4_readInto 43 = .ok (.getfield 27, 3) := by decide +kernel
theorem dX4_readInto_46 : decode cX4_readInto 46 = .ok (.ireturn, 1) := by decide +kernel
theorem dX4_readInto_47 : decode cX4_readInto 47 = .ok (.iinc 2 1, 3) := by decide +kernel
theorem dX4_readInto_50 : decode cX4_readInto 50 = .ok (.goto (-34), 3) := by decide +kernel
theorem dX4_readInto_53 : decode cX4_readInto 53 = .ok (.aload_n 1, 1) := by decide +kernel
theorem dX4_readInto_54 : decode cX4_readInto 54 = .ok (.invokevirtual 34, 3) := by decide +kernel
theorem dX4_readInto_57 : decode cX4_readInto 57 = .ok (.ifCond .eq 7, 3) := by decide +kernel
theorem dX4_readInto_60 : decode cX4_readInto 60 = .ok (.iconst (-1), 1) := by decide +kernel
theorem dX4_readInto_61 : decode cX4_readInto 61 = .ok (.goto 7, 3) := by decide +kernel
theorem dX4_readInto_64 : decode cX4_readInto 64 = .ok (.aload_n 0, 1) := by decide +kernel
theorem dX4_readInto_65 : decode cX4_readInto 65 = .ok (.getfield 15, 3) := by decide +kernel
theorem dX4_readInto_68 : decode cX4_readInto 68 = .ok (.ireturn, 1) := by decide +kernel
set_option maxRecDepth 20000 in
theorem ggX4_readLine_X4_readWord_wsX4_readWord_r1 : GoodIn wsX4_readLine wsX4_readWord_r1 := goodIn_r _ [1, 8, 9, 10, 11, 12, 13, 14, 15, 16, 17, 6, 18, 19, 20, 21, 22, 23, 24, 25, 26, 27, 28, 29] (by decide +kernel) (by decide +kernel)
set_option maxRecDepth 20000 in
theorem ggX4_readLine_X4_readWord_wsX4_readWord_r2 : GoodIn wsX4_readLine wsX4_readWord_r2 := goodIn_r _ [30, 31, 32, 33, 34, 35, 36, 37, 38, 39, 40, 41, 42, 43, 44, 45, 46, 47, 48, 49, 50, 51, 52, 53] (by decide +kernel) (by decide +kernel)
set_option maxRecDepth 20000 in
theorem ggX4_readLine_X4_readWord_wsX4_readWord_r3 : GoodIn wsX4_readLine wsX4_readWord_r3 := goodIn_r _ [54, 55, 56, 57, 58, 59, 60, 61, 62, 63, 64, 65, 66, 67, 68, 69, 70, 71, 72, 73, 74, 75, 76, 77] (by decide +kernel) (by decide +kernel)
set_option maxRecDepth 20000 in
theorem ggX4_readLine_X4_readWord_wsX4_readWord_r4 : GoodIn wsX4_readLine wsX4_readWord_r4 := goodIn_r _ [78] (by decide +kernel) (by decide +kernel)
set_option maxRecDepth 20000 in
theorem ggX4_readLine_X4_readWord_wsX40 : GoodIn wsX4_readLine wsX40 := goodIn_r _ [198, 199, 200, 201, 202] (by decide +kernel) (by decide +kernel)
set_option maxRecDepth 20000 in
theorem ggX4_readLine_X4_readWord_c : GoodIn wsX4_readLine [.code yX4_readWord cX4_readWord 5 (some .int)] := goodIn_r _ [7] (by decide +kernel) (by decide +kernel)
set_option maxRecDepth 20000 in
theorem ggX4_readLine_X4_readWord : GoodIn wsX4_readLine wsX4_readWord := goodIn_app ggX4_readLine_X4_readWord_c (goodIn_app (goodIn_app ggX4_readLine_X4_readWord_wsX4_readWord_r1 (goodIn_app ggX4_readLine_X4_readWord_wsX4_readWord_r2 (goodIn_app ggX4_readLine_X4_readWord_wsX4_readWord_r3 ggX4_readLine_X4_readWord_wsX4_readWord_r4))) ggX4_readLine_X4_readWord_wsX40)
set_option maxRecDepth 20000 in
theorem gX4_readLine_X4_readWord : GoodIn wsX4_readLine (wsV RX4 41 RX4 yX4_readWord wsX4_readWord) := goodIn_app (goodIn_of _ (by decide +kernel)) ggX4_readLine_X4_readWord
set_option maxRecDepth 20000 in
theorem ggX4_readLine_X4_readSpan_wsX4_readSpan_r1 : GoodIn wsX4_readLine wsX4_readSpan_r1 := goodIn_r _ [2, 83, 84, 85, 86, 87, 88, 89, 90, 91, 92, 93, 94, 95, 96, 97, 98, 99, 100, 101, 102, 103, 104, 105] (by decide +kernel) (by decide +kernel)
set_option maxRecDepth 20000 in
theorem ggX4_readLine_X4_readSpan_wsX4_readSpan_r2 : GoodIn wsX4_readLine wsX4_readSpan_r2 := goodIn_r _ [106, 107, 108, 109, 110, 111, 112, 113, 114, 115, 116, 117, 118, 119, 9, 10, 11, 74, 75, 76, 6, 77, 78, 120] (by decide +kernel) (by decide +kernel)
set_option maxRecDepth 20000 in
theorem ggX4_readLine_X4_readSpan_wsX4_readSpan_r3 : GoodIn wsX4_readLine wsX4_readSpan_r3 := goodIn_r _ [121, 122, 123, 1, 124, 125, 126, 127, 31, 32, 33, 34, 35, 36, 128, 129, 130, 131, 132, 133, 134, 135, 136, 137] (by decide +kernel) (by decide +kernel)
set_option maxRecDepth 20000 in
theorem ggX4_readLine_X4_readSpan_wsX4_readSpan_r4 : GoodIn wsX4_readLine wsX4_readSpan_r4 := goodIn_r _ [138, 139, 140, 141, 142, 143, 144, 145, 146, 147, 148, 149, 150, 151, 152, 153, 154, 155, 156, 157, 158, 159, 160, 161] (by decide +kernel) (by decide +kernel)
set_option maxRecDepth 20000 in
theorem ggX4_readLine_X4_readSpan_wsX4_readSpan_r5 : GoodIn wsX4_readLine wsX4_readSpan_r5 := goodIn_r _ [162, 163, 164, 165, 166, 167, 168, 169, 170, 171] (by decide +kernel) (by decide +kernel)
set_option maxRecDepth 20000 in
theorem ggX4_readLine_X4_readSpan_wsX40 : GoodIn wsX4_readLine wsX40 := goodIn_r _ [198, 199, 200, 201, 202] (by decide +kernel) (by decide +kernel)
set_option maxRecDepth 20000 in
theorem ggX4_readLine_X4_readSpan_wsX00 : GoodIn wsX4_readLine wsX00 := goodIn_r _ [203, 204, 205, 206, 207, 208, 209, 210, 211, 212, 213, 214] (by decide +kernel) (by decide +kernel)
set_option maxRecDepth 20000 in
theorem ggX4_readLine_X4_readSpan_wsX20 : GoodIn wsX4_readLine wsX20 := goodIn_r _ [215, 216] (by decide +kernel) (by decide +kernel)
set_option maxRecDepth 20000 in
theorem ggX4_readLine_X4_readSpan_wsX30 : GoodIn wsX4_readLine wsX30 := goodIn_r _ [217, 218, 219] (by decide +kernel) (by decide +kernel)
set_option maxRecDepth 20000 in
theorem ggX4_readLine_X4_readSpan_c : GoodIn wsX4_readLine [.code yX4_readSpan cX4_readSpan 5 (some .boolean)] := goodIn_r _ [82] (by decide +kernel) (by decide +kernel)
set_option maxRecDepth 20000 in
theorem ggX4_readLine_X4_readSpan : GoodIn wsX4_readLine wsX4_readSpan := goodIn_app ggX4_readLine_X4_readSpan_c (goodIn_app (goodIn_app (goodIn_app (goodIn_app (goodIn_app ggX4_readLine_X4_readSpan_wsX4_readSpan_r1 (goodIn_app ggX4_readLine_X4_readSpan_wsX4_readSpan_r2 (goodIn_app ggX4_readLine_X4_readSpan_wsX4_readSpan_r3 (goodIn_app ggX4_readLine_X4_readSpan_wsX4_readSpan_r4 ggX4_readLine_X4_readSpan_wsX4_readSpan_r5)))) ggX4_readLine_X4_readSpan_wsX40) ggX4_readLine_X4_readSpan_wsX00) ggX4_readLine_X4_readSpan_wsX20) ggX4_readLine_X4_readSpan_wsX30)
set_option maxRecDepth 20000 in
theorem gX4_readLine_X4_readSpan : GoodIn wsX4_readLine (wsV RX4 45 RX4 yX4_readSpan wsX4_readSpan) := goodIn_app (goodIn_of _ (by decide +kernel)) ggX4_readLine_X4_readSpan
set_option maxRecDepth 20000 in
theorem ggX4_readLine_X4_readLayer_wsX4_readLayer_r1 : GoodIn wsX4_readLine wsX4_readLayer_r1 := goodIn_r _ [2, 1, 176, 177, 178, 179, 86, 180, 89, 91, 113, 93, 90, 181, 88, 114, 115, 116, 97, 117, 118, 99, 100, 119] (by decide +kernel) (by decide +kernel)
set_option maxRecDepth 20000 in
theorem ggX4_readLine_X4_readLayer_wsX4_readLayer_r2 : GoodIn wsX4_readLine wsX4_readLayer_r2 := goodIn_r _ [9, 10, 11, 74, 75, 76, 6, 77, 78, 124, 125, 126, 127, 31, 32, 33, 34, 35, 36, 128, 129, 130, 131, 132] (by decide +kernel) (by decide +kernel)
set_option maxRecDepth 20000 in
theorem ggX4_readLine_X4_readLayer_wsX4_readLayer_r3 : GoodIn wsX4_readLine wsX4_readLayer_r3 := goodIn_r _ [133, 134, 135, 136, 137, 138, 139, 140, 141, 142, 143, 182, 183, 184, 185, 186, 187, 188, 189, 190, 191, 192, 193, 194] (by decide +kernel) (by decide +kernel)
set_option maxRecDepth 20000 in
theorem ggX4_readLine_X4_readLayer_wsX4_readLayer_r4 : GoodIn wsX4_readLine wsX4_readLayer_r4 := goodIn_r _ [195, 196, 197] (by decide +kernel) (by decide +kernel)
set_option maxRecDepth 20000 in
theorem ggX4_readLine_X4_readLayer_wsX40 : GoodIn wsX4_readLine wsX40 := goodIn_r _ [198, 199, 200, 201, 202] (by decide +kernel) (by decide +kernel)
set_option maxRecDepth 20000 in
theorem ggX4_readLine_X4_readLayer_wsX00 : GoodIn wsX4_readLine wsX00 := goodIn_r _ [203, 204, 205, 206, 207, 208, 209, 210, 211, 212, 213, 214] (by decide +kernel) (by decide +kernel)
set_option maxRecDepth 20000 in
theorem ggX4_readLine_X4_readLayer_wsX30 : GoodIn wsX4_readLine wsX30 := goodIn_r _ [217, 218, 219] (by decide +kernel) (by decide +kernel)
set_option maxRecDepth 20000 in
theorem ggX4_readLine_X4_readLayer_wsX20 : GoodIn wsX4_readLine wsX20 := goodIn_r _ [215, 216] (by decide +kernel) (by decide +kernel)
set_option maxRecDepth 20000 in
theorem ggX4_readLine_X4_readLayer_c : GoodIn wsX4_readLine [.code yX4_readLayer cX4_readLayer 8 (some .boolean)] := goodIn_r _ [175] (by decide +kernel) (by decide +kernel)
set_option maxRecDepth 20000 in
theorem ggX4_readLine_X4_readLayer : GoodIn wsX4_readLine wsX4_readLayer := goodIn_app ggX4_readLine_X4_readLayer_c (goodIn_app (goodIn_app (goodIn_app (goodIn_app (goodIn_app ggX4_readLine_X4_readLayer_wsX4_readLayer_r1 (goodIn_app ggX4_readLine_X4_readLayer_wsX4_readLayer_r2 (goodIn_app ggX4_readLine_X4_readLayer_wsX4_readLayer_r3 ggX4_readLine_X4_readLayer_wsX4_readLayer_r4))) ggX4_readLine_X4_readLayer_wsX40) ggX4_readLine_X4_readLayer_wsX00) ggX4_readLine_X4_readLayer_wsX30) ggX4_readLine_X4_readLayer_wsX20)
set_option maxRecDepth 20000 in
theorem gX4_readLine_X4_readLayer : GoodIn wsX4_readLine (wsV RX4 49 RX4 yX4_readLayer wsX4_readLayer) := goodIn_app (goodIn_of _ (by decide +kernel)) ggX4_readLine_X4_readLayer
set_option maxRecDepth 20000 in
theorem ggX4_readLine_X4_expect : GoodIn wsX4_readLine wsX4_expect := goodIn_r _ [127, 1, 31, 32, 33, 6, 34, 35, 36, 74, 75, 76, 77, 78, 198, 199, 200, 201, 202] (by decide +kernel) (by decide +kernel)
set_option maxRecDepth 20000 in
theorem gX4_readLine_X4_expect : GoodIn wsX4_readLine (wsV RX4 52 RX4 yX4_expect wsX4_expect) := goodIn_app (goodIn_of _ (by decide +kernel)) ggX4_readLine_X4_expect
theorem dX4_readLine_0 : decode cX4_readLine 0 = .ok (.aload_n 0, 1) := by decide +kernel
theorem dX4_readLine_1 : decode cX4_readLine 1 = .ok (.aload_n 0, 1) := by decide +kernel
theorem dX4_readLine_2 : decode cX4_readLine 2 = .ok (.getfield 24, 3) := by decide +kernel
theorem dX4_readLine_5 : decode cX4_readLine 5 = .ok (.putfield 38, 3) := by decide +kernel
theorem dX4_readLine_8 : decode cX4_readLine 8 = .ok (.aload_n 0, 1) := by decide +kernel
theorem dX4_readLine_9 : decode cX4_readLine 9 = .ok (.invokevirtual 41, 3) := by decide +kernel
theorem dX4_readLine_12 : decode cX4_readLine 12 = .ok (.istore_n 2, 1) := by decide +kernel
theorem dX4_readLine_13 : decode cX4_readLine 13 = .ok (.iload_n 2, 1) := by decide +kernel
theorem dX4_readLine_14 : decode cX4_readLine 14 = .ok (.iconst (-1), 1) := by decide +kernel
theorem dX4_readLine_15 : decode cX4_readLine 15 = .ok (.if_icmp .ne 5, 3) := by decide +kernel
theorem dX4_readLine_18 : decode cX4_readLine 18 = .ok (.iconst 0, 1) := by decide +kernel
theorem dX4_readLine_19 : decode cX4_readLine 19 = .ok (.ireturn, 1) := by decide +kernel
theorem dX4_readLine_20 : decode cX4_readLine 20 = .ok (.iload_n 2, 1) := by decide +kernel
theorem dX4_readLine_21 : decode cX4_readLine 21 = .ok (.iconst 5, 1) := by decide +kernel
theorem dX4_readLine_22 : decode cX4_readLine 22 = .ok (.if_icmp .eq 9, 3) := by decide +kernel
theorem dX4_readLine_25 : decode cX4_readLine 25 = .ok (.iload_n 2, 1) := by decide +kernel
theorem dX4_readLine_26 : decode cX4_readLine 26 = .ok (.bipush 6, 2) := by decide +kernel
theorem dX4_readLine_28 : decode cX4_readLine 28 = .ok (.if_icmp .ne 12, 3) := by decide +kernel
theorem dX4_readLine_31 : decode cX4_readLine 31 = .ok (.aload_n 0, 1) := by decide +kernel
theorem dX4_readLine_32 : decode cX4_readLine 32 = .ok (.aload_n 1, 1) := by decide +kernel
theorem dX4_readLine_33 : decode cX4_readLine 33 = .ok (.iload_n 2, 1) := by decide +kernel
theorem dX4_readLine_34 : decode cX4_readLine 34 = .ok (.invokevirtual 45, 3) := by decide +kernel
theorem dX4_readLine_37 : decode cX4_readLine 37 = .ok (.goto 9, 3) := by decide +kernel
theorem dX4_readLine_40 : decode cX4_readLine 40 = .ok (.aload_n 0, 1) := by decide +kernel
theorem dX4_readLine_41 : decode cX4_readLine 41 = .ok (.aload_n 1, 1) := by decide +kernel
theorem dX4_readLine_42 : decode cX4_readLine 42 = .ok (.iload_n 2, 1) := by decide +kernel
theorem dX4_readLine_43 : decode cX4_readLine 43 = .ok (.invokevirtual 49, 3) := by decide +kernel
theorem dX4_readLine_46 : decode cX4_readLine 46 = .ok (.istore_n 3, 1) := by decide +kernel
theorem dX4_readLine_47 : decode cX4_readLine 47 = .ok (.iload_n 3, 1) := by decide +kernel
theorem dX4_readLine_48 : decode cX4_readLine 48 = .ok (.ifCond .eq 16, 3) := by decide +kernel
theorem dX4_readLine_51 : decode cX4_readLine 51 = .ok (.aload_n 0, 1) := by decide +kernel
theorem dX4_readLine_52 : decode cX4_readLine 52 = .ok (.bipush 10, 2) := by decide +kernel
theorem dX4_readLine_54 : decode cX4_readLine 54 = .ok (.invokevirtual 52, 3) := by decide +kernel
theorem dX4_readLine_57 : decode cX4_readLine 57 = .ok (.ifCond .eq 7, 3) := by decide +kernel
theorem dX4_readLine_60 : decode cX4_readLine 60 = .ok (.iconst 1, 1) := by decide +kernel
theorem dX4_readLine_61 : decode cX4_readLine 61 = .ok (.goto 4, 3) := by decide +kernel
theorem dX4_readLine_64 : decode cX4_readLine 64 = .ok (.iconst 0, 1) := by decide +kernel
theorem dX4_readLine_65 : decode cX4_readLine 65 = .ok (.ireturn, 1) := by decide +kernel
set_option maxRecDepth 20000 in
theorem ggX4_readWord_X6_spellingOf : GoodIn wsX4_readWord wsX6_spellingOf := goodIn_r _ [8] (by decide +kernel) (by decide +kernel)
set_option maxRecDepth 20000 in
theorem gX4_readWord_X6_spellingOf_n56 : GoodIn wsX4_readWord (wsX6_spellingOf) := ggX4_readWord_X6_spellingOf
set_option maxRecDepth 20000 in
theorem ggX4_readWord_X4_countSameLetters_wsX4_countSameLetters_r1 : GoodIn wsX4_readWord wsX4_countSameLetters_r1 := goodIn_r _ [1, 14, 15, 16, 17, 18, 19, 20, 21, 22, 23, 24, 25, 26, 27, 28, 12, 29, 30, 31, 32, 33, 34, 35] (by decide +kernel) (by decide +kernel)
set_option maxRecDepth 20000 in
theorem ggX4_readWord_X4_countSameLetters_wsX4_countSameLetters_r2 : GoodIn wsX4_readWord wsX4_countSameLetters_r2 := goodIn_r _ [36, 37, 38, 39, 40, 41, 42, 43, 44, 45, 46, 47, 48, 49, 50, 51, 52, 53, 54, 55, 56, 57, 58, 59] (by decide +kernel) (by decide +kernel)
set_option maxRecDepth 20000 in
theorem ggX4_readWord_X4_countSameLetters_wsX4_countSameLetters_r3 : GoodIn wsX4_readWord wsX4_countSameLetters_r3 := goodIn_r _ [60, 61, 62, 63, 64, 65, 66, 67, 68] (by decide +kernel) (by decide +kernel)
set_option maxRecDepth 20000 in
theorem ggX4_readWord_X4_countSameLetters_wsX40 : GoodIn wsX4_readWord wsX40 := goodIn_r _ [74, 75, 76, 77, 78] (by decide +kernel) (by decide +kernel)
set_option maxRecDepth 20000 in
theorem ggX4_readWord_X4_countSameLetters_c : GoodIn wsX4_readWord [.code yX4_countSameLetters cX4_countSameLetters 3 (some .int)] := goodIn_r _ [13] (by decide +kernel) (by decide +kernel)
set_option maxRecDepth 20000 in
theorem ggX4_readWord_X4_countSameLetters : GoodIn wsX4_readWord wsX4_countSameLetters := goodIn_app ggX4_readWord_X4_countSameLetters_c (goodIn_app (goodIn_app ggX4_readWord_X4_countSameLetters_wsX4_countSameLetters_r1 (goodIn_app ggX4_readWord_X4_countSameLetters_wsX4_countSameLetters_r2 ggX4_readWord_X4_countSameLetters_wsX4_countSameLetters_r3)) ggX4_readWord_X4_countSameLetters_wsX40)
set_option maxRecDepth 20000 in
theorem gX4_readWord_X4_countSameLetters : GoodIn wsX4_readWord (wsV RX4 60 RX4 yX4_countSameLetters wsX4_countSameLetters) := goodIn_app (goodIn_of _ (by decide +kernel)) ggX4_readWord_X4_countSameLetters
set_option maxRecDepth 20000 in
theorem ggX4_readWord_J0_length_8abf5 : GoodIn wsX4_readWord wsJ0_length_8abf5 := goodIn_r _ [18, 19, 20, 21, 22, 17, 23, 24, 25] (by decide +kernel) (by decide +kernel)
set_option maxRecDepth 20000 in
theorem gX4_readWord_J0_length_8abf5 : GoodIn wsX4_readWord (wsV RX4 64 RJ0 yJ0_length_8abf5 wsJ0_length_8abf5) := goodIn_app (goodIn_of _ (by decide +kernel)) ggX4_readWord_J0_length_8abf5
set_option maxRecDepth 20000 in
theorem ggX4_readWord_X4_faultAt : GoodIn wsX4_readWord wsX4_faultAt := goodIn_r _ [72, 73, 74, 75, 76, 77, 78] (by decide +kernel) (by decide +kernel)
set_option maxRecDepth 20000 in
theorem gX4_readWord_X4_faultAt : GoodIn wsX4_readWord (wsV RX4 74 RX4 yX4_faultAt wsX4_faultAt) := goodIn_app (goodIn_of _ (by decide +kernel)) ggX4_readWord_X4_faultAt
theorem dX4_readWord_0 : decode cX4_readWord 0 = .ok (.iconst 0, 1) := by decide +kernel
theorem dX4_readWord_1 : decode cX4_readWord 1 = .ok (.istore_n 1, 1) := by decide +kernel
theorem dX4_readWord_2 : decode cX4_readWord 2 = .ok (.iconst 0, 1) := by decide +kernel
theorem dX4_readWord_3 : decode cX4_readWord 3 = .ok (.istore_n 2, 1) := by decide +kernel
theorem dX4_readWord_4 : decode cX4_readWord 4 = .ok (.iload_n 2, 1) := by decide +kernel
theorem dX4_readWord_5 : decode cX4_readWord 5 = .ok (.bipush 7, 2) := by decide +kernel
theorem dX4_readWord_7 : decode cX4_readWord 7 = .ok (.if_icmp .ge 50, 3) := by decide +kernel
theorem dX4_readWord_10 : decode cX4_readWord 10 = .ok (.iload_n 2, 1) := by decide +kernel
theorem dX4_readWord_11 : decode cX4_readWord 11 = .ok (.invokestatic 56, 3) := by decide +kernel
theorem dX4_readWord_14 : decode cX4_readWord 14 = .ok (.astore_n 3, 1) := by decide +kernel
theorem dX4_readWord_15 : decode cX4_readWord 15 = .ok (.aload_n 0, 1) := by decide +kernel
theorem dX4_readWord_16 : decode cX4_readWord 16 = .ok (.aload_n 3, 1) := by decide +kernel
theorem dX4_readWord_17 : decode cX4_readWord 17 = .ok (.invokevirtual 60, 3) := by decide +kernel
theorem dX4_readWord_20 : decode cX4_readWord 20 = .ok (.istore 4, 2) := by decide +kernel
theorem dX4_readWord_22 : decode cX4_readWord 22 = .ok (.iload 4, 2) := by decide +kernel
theorem dX4_readWord_24 : decode cX4_readWord 24 = .ok (.aload_n 3, 1) := by decide +kernel
theorem dX4_readWord_25 : decode cX4_readWord 25 = .ok (.invokevirtual 64, 3) := by decide +kernel
theorem dX4_readWord_28 : decode cX4_readWord 28 = .ok (.if_icmp .ne 16, 3) := by decide +kernel
theorem dX4_readWord_31 : decode cX4_readWord 31 = .ok (.aload_n 0, 1) := by decide +kernel
theorem dX4_readWord_32 : decode cX4_readWord 32 = .ok (.dup, 1) := by decide +kernel
theorem dX4_readWord_33 : decode cX4_readWord 33 = .ok (.getfield 24, 3) := by decide +kernel
theorem dX4_readWord_36 : decode cX4_readWord 36 = .ok (.iload 4, 2) := by decide +kernel
theorem dX4_readWord_38 : decode cX4_readWord 38 = .ok (.iadd, 1) := by decide +kernel
theorem dX4_readWord_39 : decode cX4_readWord 39 = .ok (.putfield 24, 3) := by decide +kernel
theorem dX4_readWord_42 : decode cX4_readWord 42 = .ok (.iload_n 2, 1) := by decide +kernel
theorem dX4_readWord_43 : decode cX4_readWord 43 = .ok (.ireturn, 1) := by decide +kernel
theorem dX4_readWord_44 : decode cX4_readWord 44 = .ok (.iload_n 1, 1) := by decide +kernel
theorem dX4_readWord_45 : decode cX4_readWord 45 = .ok (.iload 4, 2) := by decide +kernel
theorem dX4_readWord_47 : decode cX4_readWord 47 = .ok (.invokestatic 68, 3) := by decide +kernel
theorem dX4_readWord_50 : decode cX4_readWord 50 = .ok (.istore_n 1, 1) := by decide +kernel
theorem dX4_readWord_51 : decode cX4_readWord 51 = .ok (.iinc 2 1, 3) := by decide +kernel
theorem dX4_readWord_54 : decode cX4_readWord 54 = .ok (.goto (-50), 3) := by decide +kernel
theorem dX4_readWord_57 : decode cX4_readWord 57 = .ok (.aload_n 0, 1) := by decide +kernel
theorem dX4_readWord_58 : decode cX4_readWord 58 = .ok (.aload_n 0, 1) := by decide +kernel
theorem dX4_readWord_59 : decode cX4_readWord 59 = .ok (.getfield 24, 3) := by decide +kernel
theorem dX4_readWord_62 : decode cX4_readWord 62 = .ok (.iload_n 1, 1) := by decide +kernel
theorem dX4_readWord_63 : decode cX4_readWord 63 = .ok (.iadd, 1) := by decide +kernel
theorem dX4_readWord_64 : decode cX4_readWord 64 = .ok (.invokevirtual 74, 3) := by decide +kernel
theorem dX4_readWord_67 : decode cX4_readWord 67 = .ok (.pop, 1) := by decide +kernel
theorem dX4_readWord_68 : decode cX4_readWord 68 = .ok (.iconst (-1), 1) := by decide +kernel
theorem dX4_readWord_69 : decode cX4_readWord 69 = .ok (.ireturn, 1) := by decide +kernel
set_option maxRecDepth 20000 in
theorem ggX4_countSameLetters_J0_length_8abf5 : GoodIn wsX4_countSameLetters wsJ0_length_8abf5 := goodIn_r _ [6, 7, 8, 9, 10, 5, 11, 12, 13] (by decide +kernel) (by decide +kernel)
set_option maxRecDepth 20000 in
theorem gX4_countSameLetters_J0_length_8abf5 : GoodIn wsX4_countSameLetters (wsV RX4 64 RJ0 yJ0_length_8abf5 wsJ0_length_8abf5) := goodIn_app (goodIn_of _ (by decide +kernel)) ggX4_countSameLetters_J0_length_8abf5
set_option maxRecDepth 20000 in
theorem ggX4_countSameLetters_X4_characterAt : GoodIn wsX4_countSameLetters wsX4_characterAt := goodIn_r _ [18, 19, 20, 58, 59, 60, 61, 62] (by decide +kernel) (by decide +kernel)
set_option maxRecDepth 20000 in
theorem gX4_countSameLetters_X4_characterAt : GoodIn wsX4_countSameLetters (wsV RX4 78 RX4 yX4_characterAt wsX4_characterAt) := goodIn_app (goodIn_of _ (by decide +kernel)) ggX4_countSameLetters_X4_characterAt
set_option maxRecDepth 20000 in
theorem ggX4_countSameLetters_J0_charAt_5068e : GoodIn wsX4_countSameLetters wsJ0_charAt_5068e := goodIn_r _ [24, 7, 25, 26, 27, 5, 28, 12, 13, 29, 30, 31, 32, 33, 34, 35, 36, 37, 38, 39, 40, 41, 42, 43, 44, 45, 46, 47, 48, 49, 50, 51, 52, 53, 54, 55, 56, 57] (by decide +kernel) (by decide +kernel)
set_option maxRecDepth 20000 in
theorem gX4_countSameLetters_J0_charAt_5068e : GoodIn wsX4_countSameLetters (wsV RX4 82 RJ0 yJ0_charAt_5068e wsJ0_charAt_5068e) := goodIn_app (goodIn_of _ (by decide +kernel)) ggX4_countSameLetters_J0_charAt_5068e
theorem dX4_countSameLetters_0 : decode cX4_countSameLetters 0 = .ok (.iconst 0, 1) := by decide +kernel
theorem dX4_countSameLetters_1 : decode cX4_countSameLetters 1 = .ok (.istore_n 2, 1) := by decide +kernel
theorem dX4_countSameLetters_2 : decode cX4_countSameLetters 2 = .ok (.iload_n 2, 1) := by decide +kernel
theorem dX4_countSameLetters_3 : decode cX4_countSameLetters 3 = .ok (.aload_n 1, 1) := by decide +kernel
theorem dX4_countSameLetters_4 : decode cX4_countSameLetters 4 = .ok (.invokevirtual 64, 3) := by decide +kernel
theorem dX4_countSameLetters_7 : decode cX4_countSameLetters 7 = .ok (.if_icmp .ge 27, 3) := by decide +kernel
theorem dX4_countSameLetters_10 : decode cX4_countSameLetters 10 = .ok (.aload_n 0, 1) := by decide +kernel
theorem dX4_countSameLetters_11 : decode cX4_countSameLetters 11 = .ok (.aload_n 0, 1) := by decide +kernel
theorem dX4_countSameLetters_12 : decode cX4_countSameLetters 12 = .ok (.getfield 24, 3) := by decide +kernel
theorem dX4_countSameLetters_15 : decode cX4_countSameLetters 15 = .ok (.iload_n 2, 1) := by decide +kernel
theorem dX4_countSameLetters_16 : decode cX4_countSameLetters 16 = .ok (.iadd, 1) := by decide +kernel
theorem dX4_countSameLetters_17 : decode cX4_countSameLetters 17 = .ok (.invokevirtual 78, 3) := by decide +kernel
theorem dX4_countSameLetters_20 : decode cX4_countSameLetters 20 = .ok (.aload_n 1, 1) := by decide +kernel
theorem dX4_countSameLetters_21 : decode cX4_countSameLetters 21 = .ok (.iload_n 2, 1) := by decide +kernel
theorem dX4_countSameLetters_22 : decode cX4_countSameLetters 22 = .ok (.invokevirtual 82, 3) := by decide +kernel
theorem dX4_countSameLetters_25 : decode cX4_countSameLetters 25 = .ok (.if_icmp .ne 9, 3) := by decide +kernel
theorem dX4_countSameLetters_28 : decode cX4_countSameLetters 28 = .ok (.iinc 2 1, 3) := by decide +kernel
theorem dX4_countSameLetters_31 : decode cX4_countSameLetters 31 = .ok (.goto (-29), 3) := by decide +kernel
theorem dX4_countSameLetters_34 : decode cX4_countSameLetters 34 = .ok (.iload_n 2, 1) := by decide +kernel
theorem dX4_countSameLetters_35 : decode cX4_countSameLetters 35 = .ok (.ireturn, 1) := by decide +kernel
set_option maxRecDepth 20000 in
theorem ggX4_readLayer_X0_canTake : GoodIn wsX4_readLayer wsX0_canTake := goodIn_r _ [8, 9, 10, 11, 12, 13, 14, 15, 16, 17, 18, 19, 20, 21, 22, 23, 24, 25, 26, 27, 81, 82, 83, 84, 85, 86, 87, 88, 89, 90, 91, 92, 93, 94, 95, 96, 97] (by decide +kernel) (by decide +kernel)
set_option maxRecDepth 20000 in
theorem gX4_readLayer_X0_canTake : GoodIn wsX4_readLayer (wsV RX4 86 RX0 yX0_canTake wsX0_canTake) := goodIn_app (goodIn_of _ (by decide +kernel)) ggX4_readLayer_X0_canTake
set_option maxRecDepth 20000 in
theorem ggX4_readLayer_X4_faultAt : GoodIn wsX4_readLayer wsX4_faultAt := goodIn_r _ [32, 33, 76, 77, 78, 79, 80] (by decide +kernel) (by decide +kernel)
set_option maxRecDepth 20000 in
theorem gX4_readLayer_X4_faultAt : GoodIn wsX4_readLayer (wsV RX4 74 RX4 yX4_faultAt wsX4_faultAt) := goodIn_app (goodIn_of _ (by decide +kernel)) ggX4_readLayer_X4_faultAt
set_option maxRecDepth 20000 in
theorem ggX4_readLayer_X4_expect : GoodIn wsX4_readLayer wsX4_expect := goodIn_r _ [37, 2, 38, 39, 40, 31, 41, 42, 43, 28, 29, 30, 32, 33, 76, 77, 78, 79, 80] (by decide +kernel) (by decide +kernel)
set_option maxRecDepth 20000 in
theorem gX4_readLayer_X4_expect : GoodIn wsX4_readLayer (wsV RX4 52 RX4 yX4_expect wsX4_expect) := goodIn_app (goodIn_of _ (by decide +kernel)) ggX4_readLayer_X4_expect
set_option maxRecDepth 20000 in
theorem ggX4_readLayer_X4_readName : GoodIn wsX4_readLayer wsX4_readName := goodIn_r _ [47, 2, 38, 39, 40, 31, 41, 42, 43, 48, 49, 50, 51, 52, 53, 28, 29, 30, 32, 33, 76, 77, 78, 79, 80] (by decide +kernel) (by decide +kernel)
set_option maxRecDepth 20000 in
theorem gX4_readLayer_X4_readName : GoodIn wsX4_readLayer (wsV RX4 89 RX4 yX4_readName wsX4_readName) := goodIn_app (goodIn_of _ (by decide +kernel)) ggX4_readLayer_X4_readName
set_option maxRecDepth 20000 in
theorem ggX4_readLayer_X0_findCopper : GoodIn wsX4_readLayer wsX0_findCopper := goodIn_r _ [57, 15, 58, 59, 81, 82, 83, 84, 85, 86, 87, 88, 89, 90, 91, 92] (by decide +kernel) (by decide +kernel)
set_option maxRecDepth 20000 in
theorem gX4_readLayer_X0_findCopper : GoodIn wsX4_readLayer (wsV RX4 93 RX0 yX0_findCopper wsX0_findCopper) := goodIn_app (goodIn_of _ (by decide +kernel)) ggX4_readLayer_X0_findCopper
set_option maxRecDepth 20000 in
theorem ggX4_readLayer_X0_addLayer : GoodIn wsX4_readLayer wsX0_addLayer := goodIn_r _ [63, 9, 15, 13, 58, 64, 65, 66, 67, 59, 14, 81, 82, 83, 84, 85, 86, 87, 88, 89, 90, 91, 92] (by decide +kernel) (by decide +kernel)
set_option maxRecDepth 20000 in
theorem gX4_readLayer_X0_addLayer : GoodIn wsX4_readLayer (wsV RX4 97 RX0 yX0_addLayer wsX0_addLayer) := goodIn_app (goodIn_of _ (by decide +kernel)) ggX4_readLayer_X0_addLayer
set_option maxRecDepth 20000 in
theorem ggX4_readLayer_X4_readNumber : GoodIn wsX4_readLayer wsX4_readNumber := goodIn_r _ [71, 2, 34, 35, 36, 31, 37, 38, 39, 40, 41, 42, 43, 28, 29, 30, 32, 33, 72, 73, 74, 75, 51, 52, 53, 76, 77, 78, 79, 80] (by decide +kernel) (by decide +kernel)
set_option maxRecDepth 20000 in
theorem gX4_readLayer_X4_readNumber : GoodIn wsX4_readLayer (wsV RX4 102 RX4 yX4_readNumber wsX4_readNumber) := goodIn_app (goodIn_of _ (by decide +kernel)) ggX4_readLayer_X4_readNumber
theorem dX4_readLayer_0 : decode cX4_readLayer 0 = .ok (.aload_n 1, 1) := by decide +kernel
theorem dX4_readLayer_1 : decode cX4_readLayer 1 = .ok (.iload_n 2, 1) := by decide +kernel
theorem dX4_readLayer_2 : decode cX4_readLayer 2 = .ok (.invokevirtual 86, 3) := by decide +kernel
theorem dX4_readLayer_5 : decode cX4_readLayer 5 = .ok (.ifCond .ne 12, 3) := by decide +kernel
theorem dX4_readLayer_8 : decode cX4_readLayer 8 = .ok (.aload_n 0, 1) := by decide +kernel
theorem dX4_readLayer_9 : decode cX4_readLayer 9 = .ok (.aload_n 0, 1) := by decide +kernel
theorem dX4_readLayer_10 : decode cX4_readLayer 10 = .ok (.getfield 38, 3) := by decide +kernel
theorem dX4_readLayer_13 : decode cX4_readLayer 13 = .ok (.invokevirtual 74, 3) := by decide +kernel
theorem dX4_readLayer_16 : decode cX4_readLayer 16 = .ok (.ireturn, 1) := by decide +kernel
theorem dX4_readLayer_17 : decode cX4_readLayer 17 = .ok (.aload_n 0, 1) := by decide +kernel
theorem dX4_readLayer_18 : decode cX4_readLayer 18 = .ok (.bipush 32, 2) := by decide +kernel
theorem dX4_readLayer_20 : decode cX4_readLayer 20 = .ok (.invokevirtual 52, 3) := by decide +kernel
theorem dX4_readLayer_23 : decode cX4_readLayer 23 = .ok (.ifCond .ne 5, 3) := by decide +kernel
theorem dX4_readLayer_26 : decode cX4_readLayer 26 = .ok (.iconst 0, 1) := by decide +kernel
theorem dX4_readLayer_27 : decode cX4_readLayer 27 = .ok (.ireturn, 1) := by decide +kernel
theorem dX4_readLayer_28 : decode cX4_readLayer 28 = .ok (.aload_n 0, 1) := by decide +kernel
theorem dX4_readLayer_29 : decode cX4_readLayer 29 = .ok (.getfield 24, 3) := by decide +kernel
theorem dX4_readLayer_32 : decode cX4_readLayer 32 = .ok (.istore_n 3, 1) := by decide +kernel
theorem dX4_readLayer_33 : decode cX4_readLayer 33 = .ok (.aload_n 0, 1) := by decide +kernel
theorem dX4_readLayer_34 : decode cX4_readLayer 34 = .ok (.invokevirtual 89, 3) := by decide +kernel
theorem dX4_readLayer_37 : decode cX4_readLayer 37 = .ok (.lstore 4, 2) := by decide +kernel
theorem dX4_readLayer_39 : decode cX4_readLayer 39 = .ok (.lload 4, 2) := by decide +kernel
theorem dX4_readLayer_41 : decode cX4_readLayer 41 = .ok (.lconst 0, 1) := by decide +kernel
theorem dX4_readLayer_42 : decode cX4_readLayer 42 = .ok (.lcmp, 1) := by decide +kernel
theorem dX4_readLayer_43 : decode cX4_readLayer 43 = .ok (.ifCond .ne 5, 3) := by decide +kernel
theorem dX4_readLayer_46 : decode cX4_readLayer 46 = .ok (.iconst 0, 1) := by decide +kernel
theorem dX4_readLayer_47 : decode cX4_readLayer 47 = .ok (.ireturn, 1) := by decide +kernel
theorem dX4_readLayer_48 : decode cX4_readLayer 48 = .ok (.iload_n 2, 1) := by decide +kernel
theorem dX4_readLayer_49 : decode cX4_readLayer 49 = .ok (.ifCond .ne 19, 3) := by decide +kernel
theorem dX4_readLayer_52 : decode cX4_readLayer 52 = .ok (.aload_n 1, 1) := by decide +kernel
theorem dX4_readLayer_53 : decode cX4_readLayer 53 = .ok (.lload 4, 2) := by decide +kernel
theorem dX4_readLayer_55 : decode cX4_readLayer 55 = .ok (.invokevirtual 93, 3) := by decide +kernel
theorem dX4_readLayer_58 : decode cX4_readLayer 58 = .ok (.iconst (-1), 1) := by decide +kernel
theorem dX4_readLayer_59 : decode cX4_readLayer 59 = .ok (.if_icmp .eq 9, 3) := by decide +kernel
theorem dX4_readLayer_62 : decode cX4_readLayer 62 = .ok (.aload_n 0, 1) := by decide +kernel
theorem dX4_readLayer_63 : decode cX4_readLayer 63 = .ok (.iload_n 3, 1) := by decide +kernel
theorem dX4_readLayer_64 : decode cX4_readLayer 64 = .ok (.invokevirtual 74, 3) := by decide +kernel
theorem dX4_readLayer_67 : decode cX4_readLayer 67 = .ok (.ireturn, 1) := by decide +kernel
theorem dX4_readLayer_68 : decode cX4_readLayer 68 = .ok (.iload_n 2, 1) := by decide +kernel
theorem dX4_readLayer_69 : decode cX4_readLayer 69 = .ok (.iconst 4, 1) := by decide +kernel
theorem dX4_readLayer_70 : decode cX4_readLayer 70 = .ok (.if_icmp .ne 14, 3) := by decide +kernel
theorem dX4_readLayer_73 : decode cX4_readLayer 73 = .ok (.aload_n 1, 1) := by decide +kernel
theorem dX4_readLayer_74 : decode cX4_readLayer 74 = .ok (.iload_n 2, 1) := by decide +kernel
theorem dX4_readLayer_75 : decode cX4_readLayer 75 = .ok (.lload 4, 2) := by decide +kernel
theorem dX4_readLayer_77 : decode cX4_readLayer 77 = .ok (.iconst 0, 1) := by decide +kernel
theorem dX4_readLayer_78 : decode cX4_readLayer 78 = .ok (.iconst 0, 1) := by decide +kernel
theorem dX4_readLayer_79 : decode cX4_readLayer 79 = .ok (.invokevirtual 97, 3) := by decide +kernel
theorem dX4_readLayer_82 : decode cX4_readLayer 82 = .ok (.iconst 1, 1) := by decide +kernel
theorem dX4_readLayer_83 : decode cX4_readLayer 83 = .ok (.ireturn, 1) := by decide +kernel
theorem dX4_readLayer_84 : decode cX4_readLayer 84 = .ok (.aload_n 0, 1) := by decide +kernel
theorem dX4_readLayer_85 : decode cX4_readLayer 85 = .ok (.iconst 4, 1) := by decide +kernel
theorem dX4_readLayer_86 : decode cX4_readLayer 86 = .ok (.iconst 3, 1) := by decide +kernel
theorem dX4_readLayer_87 : decode cX4_readLayer 87 = .ok (.ldc 101, 2) := by decide +kernel
theorem dX4_readLayer_89 : decode cX4_readLayer 89 = .ok (.invokevirtual 102, 3) := by decide +kernel
theorem dX4_readLayer_92 : decode cX4_readLayer 92 = .ok (.istore 6, 2) := by decide +kernel
theorem dX4_readLayer_94 : decode cX4_readLayer 94 = .ok (.iload 6, 2) := by decide +kernel
theorem dX4_readLayer_96 : decode cX4_readLayer 96 = .ok (.iconst (-1), 1) := by decide +kernel
theorem dX4_readLayer_97 : decode cX4_readLayer 97 = .ok (.if_icmp .ne 5, 3) := by decide +kernel
theorem dX4_readLayer_100 : decode cX4_readLayer 100 = .ok (.iconst 0, 1) := by decide +kernel
theorem dX4_readLayer_101 : decode cX4_readLayer 101 = .ok (.ireturn, 1) := by decide +kernel
theorem dX4_readLayer_102 : decode cX4_readLayer 102 = .ok (.aload_n 0, 1) := by decide +kernel
theorem dX4_readLayer_103 : decode cX4_readLayer 103 = .ok (.iconst 2, 1) := by decide +kernel
theorem dX4_readLayer_104 : decode cX4_readLayer 104 = .ok (.iconst 1, 1) := by decide +kernel
theorem dX4_readLayer_105 : decode cX4_readLayer 105 = .ok (.sipush 500, 3) := by decide +kernel
theorem dX4_readLayer_108 : decode cX4_readLayer 108 = .ok (.invokevirtual 102, 3) := by decide +kernel
theorem dX4_readLayer_111 : decode cX4_readLayer 111 = .ok (.istore 7, 2) := by decide +kernel
theorem dX4_readLayer_113 : decode cX4_readLayer 113 = .ok (.iload 7, 2) := by decide +kernel
theorem dX4_readLayer_115 : decode cX4_readLayer 115 = .ok (.iconst (-1), 1) := by decide +kernel
theorem dX4_readLayer_116 : decode cX4_readLayer 116 = .ok (.if_icmp .ne 5, 3) := by decide +kernel
theorem dX4_readLayer_119 : decode cX4_readLayer 119 = .ok (.iconst 0, 1) := by decide +kernel
theorem dX4_readLayer_120 : decode cX4_readLayer 120 = .ok (.ireturn, 1) := by decide +kernel
theorem dX4_readLayer_121 : decode cX4_readLayer 121 = .ok (.aload_n 1, 1) := by decide +kernel
theorem dX4_readLayer_122 : decode cX4_readLayer 122 = .ok (.iload_n 2, 1) := by decide +kernel
theorem dX4_readLayer_123 : decode cX4_readLayer 123 = .ok (.lload 4, 2) := by decide +kernel
theorem dX4_readLayer_125 : decode cX4_readLayer 125 = .ok (.iload 6, 2) := by decide +kernel
theorem dX4_readLayer_127 : decode cX4_readLayer 127 = .ok (.iload 7, 2) := by decide +kernel
theorem dX4_readLayer_129 : decode cX4_readLayer 129 = .ok (.invokevirtual 97, 3) := by decide +kernel
theorem dX4_readLayer_132 : decode cX4_readLayer 132 = .ok (.iconst 1, 1) := by decide +kernel
theorem dX4_readLayer_133 : decode cX4_readLayer 133 = .ok (.ireturn, 1) := by decide +kernel
set_option maxRecDepth 20000 in
theorem ggX4_readSpan_X0_endLayers : GoodIn wsX4_readSpan wsX0_endLayers := goodIn_r _ [6, 7, 8, 9, 10, 11, 12, 13, 14, 15, 16, 17, 18, 19, 20, 21, 22, 23, 24, 25, 26, 27, 112, 113, 114, 115, 116, 117, 118, 119, 120, 121, 122, 123, 124, 125, 126, 127, 128] (by decide +kernel) (by decide +kernel)
set_option maxRecDepth 20000 in
theorem gX4_readSpan_X0_endLayers : GoodIn wsX4_readSpan (wsV RX4 34 RX0 yX0_endLayers wsX0_endLayers) := goodIn_app (goodIn_of _ (by decide +kernel)) ggX4_readSpan_X0_endLayers
set_option maxRecDepth 20000 in
theorem ggX4_readSpan_X0_canTell : GoodIn wsX4_readSpan wsX0_canTell := goodIn_r _ [31, 32, 12, 10, 33, 34, 35, 16, 36, 37, 18, 19, 38, 39, 40, 41, 112, 113, 114, 115, 116, 117, 118, 119, 120, 121, 122, 123, 126, 127, 128, 124, 125] (by decide +kernel) (by decide +kernel)
set_option maxRecDepth 20000 in
theorem gX4_readSpan_X0_canTell : GoodIn wsX4_readSpan (wsV RX4 106 RX0 yX0_canTell wsX0_canTell) := goodIn_app (goodIn_of _ (by decide +kernel)) ggX4_readSpan_X0_canTell
set_option maxRecDepth 20000 in
theorem ggX4_readSpan_X4_faultAt : GoodIn wsX4_readSpan wsX4_faultAt := goodIn_r _ [46, 47, 107, 108, 109, 110, 111] (by decide +kernel) (by decide +kernel)
set_option maxRecDepth 20000 in
theorem gX4_readSpan_X4_faultAt : GoodIn wsX4_readSpan (wsV RX4 74 RX4 yX4_faultAt wsX4_faultAt) := goodIn_app (goodIn_of _ (by decide +kernel)) ggX4_readSpan_X4_faultAt
set_option maxRecDepth 20000 in
theorem ggX4_readSpan_X4_readCopper : GoodIn wsX4_readSpan wsX4_readCopper := goodIn_r _ [51, 52, 53, 54, 55, 45, 56, 57, 58, 59, 60, 61, 62, 42, 43, 44, 46, 47, 63, 64, 65, 66, 67, 68, 69, 70, 71, 72, 73, 74, 75, 5, 76, 7, 77, 78, 107, 108, 109, 110, 111, 112, 113, 114, 115, 116, 117, 118, 119, 120, 121, 122, 123] (by decide +kernel) (by decide +kernel)
set_option maxRecDepth 20000 in
theorem gX4_readSpan_X4_readCopper : GoodIn wsX4_readSpan (wsV RX4 109 RX4 yX4_readCopper wsX4_readCopper) := goodIn_app (goodIn_of _ (by decide +kernel)) ggX4_readSpan_X4_readCopper
set_option maxRecDepth 20000 in
theorem ggX4_readSpan_X0_tell : GoodIn wsX4_readSpan wsX0_tell := goodIn_r _ [82, 10, 11, 32, 12, 83, 84, 85, 16, 86, 18, 19, 37, 87, 88, 89, 23, 90, 25, 26, 27, 91, 92, 93, 94, 95, 96, 97, 98, 99, 100, 101, 102, 103, 104, 20, 21, 22, 24, 105, 106, 112, 113, 114, 115, 116, 117, 118, 119, 120, 121, 122, 123, 124, 125, 126, 127, 128] (by decide +kernel) (by decide +kernel)
set_option maxRecDepth 20000 in
theorem gX4_readSpan_X0_tell : GoodIn wsX4_readSpan (wsV RX4 113 RX0 yX0_tell wsX0_tell) := goodIn_app (goodIn_of _ (by decide +kernel)) ggX4_readSpan_X0_tell
theorem dX4_readSpan_0 : decode cX4_readSpan 0 = .ok (.aload_n 1, 1) := by decide +kernel
theorem dX4_readSpan_1 : decode cX4_readSpan 1 = .ok (.invokevirtual 34, 3) := by decide +kernel
theorem dX4_readSpan_4 : decode cX4_readSpan 4 = .ok (.ifCond .eq 11, 3) := by decide +kernel
theorem dX4_readSpan_7 : decode cX4_readSpan 7 = .ok (.aload_n 1, 1) := by decide +kernel
theorem dX4_readSpan_8 : decode cX4_readSpan 8 = .ok (.iload_n 2, 1) := by decide +kernel
theorem dX4_readSpan_9 : decode cX4_readSpan 9 = .ok (.invokevirtual 106, 3) := by decide +kernel
theorem dX4_readSpan_12 : decode cX4_readSpan 12 = .ok (.ifCond .ne 12, 3) := by decide +kernel
theorem dX4_readSpan_15 : decode cX4_readSpan 15 = .ok (.aload_n 0, 1) := by decide +kernel
theorem dX4_readSpan_16 : decode cX4_readSpan 16 = .ok (.aload_n 0, 1) := by decide +kernel
theorem dX4_readSpan_17 : decode cX4_readSpan 17 = .ok (.getfield 38, 3) := by decide +kernel
theorem dX4_readSpan_20 : decode cX4_readSpan 20 = .ok (.invokevirtual 74, 3) := by decide +kernel
theorem dX4_readSpan_23 : decode cX4_readSpan 23 = .ok (.ireturn, 1) := by decide +kernel
theorem dX4_readSpan_24 : decode cX4_readSpan 24 = .ok (.aload_n 0, 1) := by decide +kernel
theorem dX4_readSpan_25 : decode cX4_readSpan 25 = .ok (.aload_n 1, 1) := by decide +kernel
theorem dX4_readSpan_26 : decode cX4_readSpan 26 = .ok (.iconst (-1), 1) := by decide +kernel
theorem dX4_readSpan_27 : decode cX4_readSpan 27 = .ok (.invokevirtual 109, 3) := by decide +kernel
theorem dX4_readSpan_30 : decode cX4_readSpan 30 = .ok (.istore_n 3, 1) := by decide +kernel
theorem dX4_readSpan_31 : decode cX4_readSpan 31 = .ok (.iload_n 3, 1) := by decide +kernel
theorem dX4_readSpan_32 : decode cX4_readSpan 32 = .ok (.iconst (-1), 1) := by decide +kernel
theorem dX4_readSpan_33 : decode cX4_readSpan 33 = .ok (.if_icmp .ne 7, 3) := by decide +kernel
theorem dX4_readSpan_36 : decode cX4_readSpan 36 = .ok (.iconst (-1), 1) := by decide +kernel
theorem dX4_readSpan_37 : decode cX4_readSpan 37 = .ok (.goto 9, 3) := by decide +kernel
theorem dX4_readSpan_40 : decode cX4_readSpan 40 = .ok (.aload_n 0, 1) := by decide +kernel
theorem dX4_readSpan_41 : decode cX4_readSpan 41 = .ok (.aload_n 1, 1) := by decide +kernel
theorem dX4_readSpan_42 : decode cX4_readSpan 42 = .ok (.iload_n 3, 1) := by decide +kernel
theorem dX4_readSpan_43 : decode cX4_readSpan 43 = .ok (.invokevirtual 109, 3) := by decide +kernel
theorem dX4_readSpan_46 : decode cX4_readSpan 46 = .ok (.istore 4, 2) := by decide +kernel
theorem dX4_readSpan_48 : decode cX4_readSpan 48 = .ok (.iload 4, 2) := by decide +kernel
theorem dX4_readSpan_50 : decode cX4_readSpan 50 = .ok (.iconst (-1), 1) := by decide +kernel
theorem dX4_readSpan_51 : decode cX4_readSpan 51 = .ok (.if_icmp .ne 5, 3) := by decide +kernel
theorem dX4_readSpan_54 : decode cX4_readSpan 54 = .ok (.iconst 0, 1) := by decide +kernel
theorem dX4_readSpan_55 : decode cX4_readSpan 55 = .ok (.ireturn, 1) := by decide +kernel
theorem dX4_readSpan_56 : decode cX4_readSpan 56 = .ok (.aload_n 1, 1) := by decide +kernel
theorem dX4_readSpan_57 : decode cX4_readSpan 57 = .ok (.iload_n 2, 1) := by decide +kernel
theorem dX4_readSpan_58 : decode cX4_readSpan 58 = .ok (.iload_n 3, 1) := by decide +kernel
theorem dX4_readSpan_59 : decode cX4_readSpan 59 = .ok (.iload 4, 2) := by decide +kernel
theorem dX4_readSpan_61 : decode cX4_readSpan 61 = .ok (.invokevirtual 113, 3) := by decide +kernel
theorem dX4_readSpan_64 : decode cX4_readSpan 64 = .ok (.ifCond .ne 14, 3) := by decide +kernel
theorem dX4_readSpan_67 : decode cX4_readSpan 67 = .ok (.aload_n 0, 1) := by decide +kernel
theorem dX4_readSpan_68 : decode cX4_readSpan 68 = .ok (.aload_n 0, 1) := by decide +kernel
theorem dX4_readSpan_69 : decode cX4_readSpan 69 = .ok (.getfield 38, 3) := by decide +kernel
theorem dX4_readSpan_72 : decode cX4_readSpan 72 = .ok (.invokevirtual 74, 3) := by decide +kernel
theorem dX4_readSpan_75 : decode cX4_readSpan 75 = .ok (.ifCond .eq 7, 3) := by decide +kernel
theorem dX4_readSpan_78 : decode cX4_readSpan 78 = .ok (.iconst 1, 1) := by decide +kernel
theorem dX4_readSpan_79 : decode cX4_readSpan 79 = .ok (.goto 4, 3) := by decide +kernel
theorem dX4_readSpan_82 : decode cX4_readSpan 82 = .ok (.iconst 0, 1) := by decide +kernel
theorem dX4_readSpan_83 : decode cX4_readSpan 83 = .ok (.ireturn, 1) := by decide +kernel
set_option maxRecDepth 20000 in
theorem ggX4_readCopper_X4_expect : GoodIn wsX4_readCopper wsX4_expect := goodIn_r _ [6, 1, 7, 8, 9, 5, 10, 11, 12, 13, 14, 15, 16, 17, 36, 37, 38, 39, 40] (by decide +kernel) (by decide +kernel)
set_option maxRecDepth 20000 in
theorem gX4_readCopper_X4_expect : GoodIn wsX4_readCopper (wsV RX4 52 RX4 yX4_expect wsX4_expect) := goodIn_app (goodIn_of _ (by decide +kernel)) ggX4_readCopper_X4_expect
set_option maxRecDepth 20000 in
theorem ggX4_readCopper_X4_readName : GoodIn wsX4_readCopper wsX4_readName := goodIn_r _ [21, 1, 7, 8, 9, 5, 10, 11, 12, 22, 23, 24, 25, 26, 27, 13, 14, 15, 16, 17, 36, 37, 38, 39, 40] (by decide +kernel) (by decide +kernel)
set_option maxRecDepth 20000 in
theorem gX4_readCopper_X4_readName : GoodIn wsX4_readCopper (wsV RX4 89 RX4 yX4_readName wsX4_readName) := goodIn_app (goodIn_of _ (by decide +kernel)) ggX4_readCopper_X4_readName
set_option maxRecDepth 20000 in
theorem ggX4_readCopper_X0_findCopper : GoodIn wsX4_readCopper wsX0_findCopper := goodIn_r _ [32, 33, 34, 35, 41, 42, 43, 44, 45, 46, 47, 48, 49, 50, 51, 52] (by decide +kernel) (by decide +kernel)
set_option maxRecDepth 20000 in
theorem gX4_readCopper_X0_findCopper : GoodIn wsX4_readCopper (wsV RX4 93 RX0 yX0_findCopper wsX0_findCopper) := goodIn_app (goodIn_of _ (by decide +kernel)) ggX4_readCopper_X0_findCopper
set_option maxRecDepth 20000 in
theorem ggX4_readCopper_X4_faultAt : GoodIn wsX4_readCopper wsX4_faultAt := goodIn_r _ [16, 17, 36, 37, 38, 39, 40] (by decide +kernel) (by decide +kernel)
set_option maxRecDepth 20000 in
theorem gX4_readCopper_X4_faultAt : GoodIn wsX4_readCopper (wsV RX4 74 RX4 yX4_faultAt wsX4_faultAt) := goodIn_app (goodIn_of _ (by decide +kernel)) ggX4_readCopper_X4_faultAt
theorem dX4_readCopper_0 : decode cX4_readCopper 0 = .ok (.aload_n 0, 1) := by decide +kernel
theorem dX4_readCopper_1 : decode cX4_readCopper 1 = .ok (.bipush 32, 2) := by decide +kernel
theorem dX4_readCopper_3 : decode cX4_readCopper 3 = .ok (.invokevirtual 52, 3) := by decide +kernel
theorem dX4_readCopper_6 : decode cX4_readCopper 6 = .ok (.ifCond .ne 5, 3) := by decide +kernel
theorem dX4_readCopper_9 : decode cX4_readCopper 9 = .ok (.iconst (-1), 1) := by decide +kernel
theorem dX4_readCopper_10 : decode cX4_readCopper 10 = .ok (.ireturn, 1) := by decide +kernel
theorem dX4_readCopper_11 : decode cX4_readCopper 11 = .ok (.aload_n 0, 1) := by decide +kernel
theorem dX4_readCopper_12 : decode cX4_readCopper 12 = .ok (.getfield 24, 3) := by decide +kernel
theorem dX4_readCopper_15 : decode cX4_readCopper 15 = .ok (.istore_n 3, 1) := by decide +kernel
theorem dX4_readCopper_16 : decode cX4_readCopper 16 = .ok (.aload_n 0, 1) := by decide +kernel
theorem dX4_readCopper_17 : decode cX4_readCopper 17 = .ok (.invokevirtual 89, 3) := by decide +kernel
theorem dX4_readCopper_20 : decode cX4_readCopper 20 = .ok (.lstore 4, 2) := by decide +kernel
theorem dX4_readCopper_22 : decode cX4_readCopper 22 = .ok (.lload 4, 2) := by decide +kernel
theorem dX4_readCopper_24 : decode cX4_readCopper 24 = .ok (.lconst 0, 1) := by decide +kernel
theorem dX4_readCopper_25 : decode cX4_readCopper 25 = .ok (.lcmp, 1) := by decide +kernel
theorem dX4_readCopper_26 : decode cX4_readCopper 26 = .ok (.ifCond .ne 5, 3) := by decide +kernel
theorem dX4_readCopper_29 : decode cX4_readCopper 29 = .ok (.iconst (-1), 1) := by decide +kernel
theorem dX4_readCopper_30 : decode cX4_readCopper 30 = .ok (.ireturn, 1) := by decide +kernel
theorem dX4_readCopper_31 : decode cX4_readCopper 31 = .ok (.aload_n 1, 1) := by decide +kernel
theorem dX4_readCopper_32 : decode cX4_readCopper 32 = .ok (.lload 4, 2) := by decide +kernel
theorem dX4_readCopper_34 : decode cX4_readCopper 34 = .ok (.invokevirtual 93, 3) := by decide +kernel
theorem dX4_readCopper_37 : decode cX4_readCopper 37 = .ok (.istore 6, 2) := by decide +kernel
theorem dX4_readCopper_39 : decode cX4_readCopper 39 = .ok (.iload 6, 2) := by decide +kernel
theorem dX4_readCopper_41 : decode cX4_readCopper 41 = .ok (.iload_n 2, 1) := by decide +kernel
theorem dX4_readCopper_42 : decode cX4_readCopper 42 = .ok (.if_icmp .gt 11, 3) := by decide +kernel
theorem dX4_readCopper_45 : decode cX4_readCopper 45 = .ok (.aload_n 0, 1) := by decide +kernel
theorem dX4_readCopper_46 : decode cX4_readCopper 46 = .ok (.iload_n 3, 1) := by decide +kernel
theorem dX4_readCopper_47 : decode cX4_readCopper 47 = .ok (.invokevirtual 74, 3) := by decide +kernel
theorem dX4_readCopper_50 : decode cX4_readCopper 50 = .ok (.pop, 1) := by decide +kernel
theorem dX4_readCopper_51 : decode cX4_readCopper 51 = .ok (.iconst (-1), 1) := by decide +kernel
theorem dX4_readCopper_52 : decode cX4_readCopper 52 = .ok (.ireturn, 1) := by decide +kernel
theorem dX4_readCopper_53 : decode cX4_readCopper 53 = .ok (.iload 6, 2) := by decide +kernel
theorem dX4_readCopper_55 : decode cX4_readCopper 55 = .ok (.ireturn, 1) := by decide +kernel
set_option maxRecDepth 20000 in
theorem ggX4_readName_X4_characterAt : GoodIn wsX4_readName wsX4_characterAt := goodIn_r _ [6, 7, 8, 20, 21, 22, 23, 24] (by decide +kernel) (by decide +kernel)
set_option maxRecDepth 20000 in
theorem gX4_readName_X4_characterAt : GoodIn wsX4_readName (wsV RX4 78 RX4 yX4_characterAt wsX4_characterAt) := goodIn_app (goodIn_of _ (by decide +kernel)) ggX4_readName_X4_characterAt
set_option maxRecDepth 20000 in
theorem ggX4_readName_X4_isLetterOrDigit : GoodIn wsX4_readName wsX4_isLetterOrDigit := goodIn_r _ [11, 12, 13, 5, 14] (by decide +kernel) (by decide +kernel)
set_option maxRecDepth 20000 in
theorem gX4_readName_X4_isLetterOrDigit : GoodIn wsX4_readName (va_wsS RX4 117 yX4_isLetterOrDigit wsX4_isLetterOrDigit) := goodIn_app (goodIn_of _ (by decide +kernel)) ggX4_readName_X4_isLetterOrDigit
set_option maxRecDepth 20000 in
theorem ggX4_readName_X4_faultAt : GoodIn wsX4_readName wsX4_faultAt := goodIn_r _ [18, 19, 20, 21, 22, 23, 24] (by decide +kernel) (by decide +kernel)
set_option maxRecDepth 20000 in
theorem gX4_readName_X4_faultAt : GoodIn wsX4_readName (wsV RX4 74 RX4 yX4_faultAt wsX4_faultAt) := goodIn_app (goodIn_of _ (by decide +kernel)) ggX4_readName_X4_faultAt
theorem dX4_readName_0 : decode cX4_readName 0 = .ok (.aload_n 0, 1) := by decide +kernel
theorem dX4_readName_1 : decode cX4_readName 1 = .ok (.getfield 24, 3) := by decide +kernel
theorem dX4_readName_4 : decode cX4_readName 4 = .ok (.istore_n 1, 1) := by decide +kernel
theorem dX4_readName_5 : decode cX4_readName 5 = .ok (.lconst 0, 1) := by decide +kernel
theorem dX4_readName_6 : decode cX4_readName 6 = .ok (.lstore_n 2, 1) := by decide +kernel
theorem dX4_readName_7 : decode cX4_readName 7 = .ok (.aload_n 0, 1) := by decide +kernel
theorem dX4_readName_8 : decode cX4_readName 8 = .ok (.getfield 24, 3) := by decide +kernel
theorem dX4_readName_11 : decode cX4_readName 11 = .ok (.iload_n 1, 1) := by decide +kernel
theorem dX4_readName_12 : decode cX4_readName 12 = .ok (.isub, 1) := by decide +kernel
theorem dX4_readName_13 : decode cX4_readName 13 = .ok (.bipush 8, 2) := by decide +kernel
theorem dX4_readName_15 : decode cX4_readName 15 = .ok (.if_icmp .ge 45, 3) := by decide +kernel
theorem dX4_readName_18 : decode cX4_readName 18 = .ok (.aload_n 0, 1) := by decide +kernel
theorem dX4_readName_19 : decode cX4_readName 19 = .ok (.aload_n 0, 1) := by decide +kernel
theorem dX4_readName_20 : decode cX4_readName 20 = .ok (.getfield 24, 3) := by decide +kernel
theorem dX4_readName_23 : decode cX4_readName 23 = .ok (.invokevirtual 78, 3) := by decide +kernel
theorem dX4_readName_26 : decode cX4_readName 26 = .ok (.invokestatic 117, 3) := by decide +kernel
theorem dX4_readName_29 : decode cX4_readName 29 = .ok (.ifCond .eq 31, 3) := by decide +kernel
theorem dX4_readName_32 : decode cX4_readName 32 = .ok (.lload_n 2, 1) := by decide +kernel
theorem dX4_readName_33 : decode cX4_readName 33 = .ok (.bipush 7, 2) := by decide +kernel
theorem dX4_readName_35 : decode cX4_readName 35 = .ok (.lshl, 1) := by decide +kernel
theorem dX4_readName_36 : decode cX4_readName 36 = .ok (.aload_n 0, 1) := by decide +kernel
theorem dX4_readName_37 : decode cX4_readName 37 = .ok (.aload_n 0, 1) := by decide +kernel
theorem dX4_readName_38 : decode cX4_readName 38 = .ok (.getfield 24, 3) := by decide +kernel
theorem dX4_readName_41 : decode cX4_readName 41 = .ok (.invokevirtual 78, 3) := by decide +kernel
theorem dX4_readName_44 : decode cX4_readName 44 = .ok (.i2l, 1) := by decide +kernel
theorem dX4_readName_45 : decode cX4_readName 45 = .ok (.lor, 1) := by decide +kernel
theorem dX4_readName_46 : decode cX4_readName 46 = .ok (.lstore_n 2, 1) := by decide +kernel
theorem dX4_readName_47 : decode cX4_readName 47 = .ok (.aload_n 0, 1) := by decide +kernel
theorem dX4_readName_48 : decode cX4_readName 48 = .ok (.dup, 1) := by decide +kernel
theorem dX4_readName_49 : decode cX4_readName 49 = .ok (.getfield 24, 3) := by decide +kernel
theorem dX4_readName_52 : decode cX4_readName 52 = .ok (.iconst 1, 1) := by decide +kernel
theorem dX4_readName_53 : decode cX4_readName 53 = .ok (.iadd, 1) := by decide +kernel
theorem dX4_readName_54 : decode cX4_readName 54 = .ok (.putfield 24, 3) := by decide +kernel
theorem dX4_readName_57 : decode cX4_readName 57 = .ok (.goto (-50), 3) := by decide +kernel
theorem dX4_readName_60 : decode cX4_readName 60 = .ok (.aload_n 0, 1) := by decide +kernel
theorem dX4_readName_61 : decode cX4_readName 61 = .ok (.getfield 24, 3) := by decide +kernel
theorem dX4_readName_64 : decode cX4_readName 64 = .ok (.iload_n 1, 1) := by decide +kernel
theorem dX4_readName_65 : decode cX4_readName 65 = .ok (.if_icmp .eq 17, 3) := by decide +kernel
theorem dX4_readName_68 : decode cX4_readName 68 = .ok (.aload_n 0, 1) := by decide +kernel
theorem dX4_readName_69 : decode cX4_readName 69 = .ok (.aload_n 0, 1) := by decide +kernel
theorem dX4_readName_70 : decode cX4_readName 70 = .ok (.getfield 24, 3) := by decide +kernel
theorem dX4_readName_73 : decode cX4_readName 73 = .ok (.invokevirtual 78, 3) := by decide +kernel
theorem dX4_readName_76 : decode cX4_readName 76 = .ok (.invokestatic 117, 3) := by decide +kernel
theorem dX4_readName_79 : decode cX4_readName 79 = .ok (.ifCond .eq 14, 3) := by decide +kernel
theorem dX4_readName_82 : decode cX4_readName 82 = .ok (.aload_n 0, 1) := by decide +kernel
theorem dX4_readName_83 : decode cX4_readName 83 = .ok (.aload_n 0, 1) := by decide +kernel
theorem dX4_readName_84 : decode cX4_readName 84 = .ok (.getfield 24, 3) := by decide +kernel
theorem dX4_readName_87 : decode cX4_readName 87 = .ok (.invokevirtual 74, 3) := by decide +kernel
theorem dX4_readName_90 : decode cX4_readName 90 = .ok (.pop, 1) := by decide +kernel
theorem dX4_readName_91 : decode cX4_readName 91 = .ok (.lconst 0, 1) := by decide +kernel
theorem dX4_readName_92 : decode cX4_readName 92 = .ok (.lreturn, 1) := by decide +kernel
theorem dX4_readName_93 : decode cX4_readName 93 = .ok (.lload_n 2, 1) := by decide +kernel
theorem dX4_readName_94 : decode cX4_readName 94 = .ok (.lreturn, 1) := by decide +kernel
set_option maxRecDepth 20000 in
theorem ggX4_readNumber_X4_expect : GoodIn wsX4_readNumber wsX4_expect := goodIn_r _ [6, 1, 7, 8, 9, 5, 10, 11, 12, 13, 14, 15, 16, 17, 25, 26, 27, 28, 29] (by decide +kernel) (by decide +kernel)
set_option maxRecDepth 20000 in
theorem gX4_readNumber_X4_expect : GoodIn wsX4_readNumber (wsV RX4 52 RX4 yX4_expect wsX4_expect) := goodIn_app (goodIn_of _ (by decide +kernel)) ggX4_readNumber_X4_expect
set_option maxRecDepth 20000 in
theorem ggX4_readNumber_X4_readDigits : GoodIn wsX4_readNumber wsX4_readDigits := goodIn_r _ [21, 1, 7, 8, 9, 5, 10, 11, 12, 22, 23, 24, 13, 14, 15, 16, 17, 25, 26, 27, 28, 29] (by decide +kernel) (by decide +kernel)
set_option maxRecDepth 20000 in
theorem gX4_readNumber_X4_readDigits : GoodIn wsX4_readNumber (wsV RX4 120 RX4 yX4_readDigits wsX4_readDigits) := goodIn_app (goodIn_of _ (by decide +kernel)) ggX4_readNumber_X4_readDigits
set_option maxRecDepth 20000 in
theorem ggX4_readNumber_X4_characterAt : GoodIn wsX4_readNumber wsX4_characterAt := goodIn_r _ [10, 11, 12, 25, 26, 27, 28, 29] (by decide +kernel) (by decide +kernel)
set_option maxRecDepth 20000 in
theorem gX4_readNumber_X4_characterAt : GoodIn wsX4_readNumber (wsV RX4 78 RX4 yX4_characterAt wsX4_characterAt) := goodIn_app (goodIn_of _ (by decide +kernel)) ggX4_readNumber_X4_characterAt
set_option maxRecDepth 20000 in
theorem ggX4_readNumber_X4_faultAt : GoodIn wsX4_readNumber wsX4_faultAt := goodIn_r _ [16, 17, 25, 26, 27, 28, 29] (by decide +kernel) (by decide +kernel)
set_option maxRecDepth 20000 in
theorem gX4_readNumber_X4_faultAt : GoodIn wsX4_readNumber (wsV RX4 74 RX4 yX4_faultAt wsX4_faultAt) := goodIn_app (goodIn_of _ (by decide +kernel)) ggX4_readNumber_X4_faultAt
theorem dX4_readNumber_0 : decode cX4_readNumber 0 = .ok (.aload_n 0, 1) := by decide +kernel
theorem dX4_readNumber_1 : decode cX4_readNumber 1 = .ok (.bipush 32, 2) := by decide +kernel
theorem dX4_readNumber_3 : decode cX4_readNumber 3 = .ok (.invokevirtual 52, 3) := by decide +kernel
theorem dX4_readNumber_6 : decode cX4_readNumber 6 = .ok (.ifCond .ne 5, 3) := by decide +kernel
theorem dX4_readNumber_9 : decode cX4_readNumber 9 = .ok (.iconst (-1), 1) := by decide +kernel
theorem dX4_readNumber_10 : decode cX4_readNumber 10 = .ok (.ireturn, 1) := by decide +kernel
theorem dX4_readNumber_11 : decode cX4_readNumber 11 = .ok (.aload_n 0, 1) := by decide +kernel
theorem dX4_readNumber_12 : decode cX4_readNumber 12 = .ok (.getfield 24, 3) := by decide +kernel
theorem dX4_readNumber_15 : decode cX4_readNumber 15 = .ok (.istore 4, 2) := by decide +kernel
theorem dX4_readNumber_17 : decode cX4_readNumber 17 = .ok (.aload_n 0, 1) := by decide +kernel
theorem dX4_readNumber_18 : decode cX4_readNumber 18 = .ok (.iconst 0, 1) := by decide +kernel
theorem dX4_readNumber_19 : decode cX4_readNumber 19 = .ok (.iload_n 1, 1) := by decide +kernel
theorem dX4_readNumber_20 : decode cX4_readNumber 20 = .ok (.invokevirtual 120, 3) := by decide +kernel
theorem dX4_readNumber_23 : decode cX4_readNumber 23 = .ok (.istore 5, 2) := by decide +kernel
theorem dX4_readNumber_25 : decode cX4_readNumber 25 = .ok (.iconst 0, 1) := by decide +kernel
theorem dX4_readNumber_26 : decode cX4_readNumber 26 = .ok (.istore 6, 2) := by decide +kernel
theorem dX4_readNumber_28 : decode cX4_readNumber 28 = .ok (.iload 5, 2) := by decide +kernel
theorem dX4_readNumber_30 : decode cX4_readNumber 30 = .ok (.iconst (-1), 1) := by decide +kernel
theorem dX4_readNumber_31 : decode cX4_readNumber 31 = .ok (.if_icmp .eq 50, 3) := by decide +kernel
theorem dX4_readNumber_34 : decode cX4_readNumber 34 = .ok (.aload_n 0, 1) := by decide +kernel
theorem dX4_readNumber_35 : decode cX4_readNumber 35 = .ok (.aload_n 0, 1) := by decide +kernel
theorem dX4_readNumber_36 : decode cX4_readNumber 36 = .ok (.getfield 24, 3) := by decide +kernel
theorem dX4_readNumber_39 : decode cX4_readNumber 39 = .ok (.invokevirtual 78, 3) := by decide +kernel
theorem dX4_readNumber_42 : decode cX4_readNumber 42 = .ok (.bipush 46, 2) := by decide +kernel
theorem dX4_readNumber_44 : decode cX4_readNumber 44 = .ok (.if_icmp .ne 37, 3) := by decide +kernel
theorem dX4_readNumber_47 : decode cX4_readNumber 47 = .ok (.aload_n 0, 1) := by decide +kernel
theorem dX4_readNumber_48 : decode cX4_readNumber 48 = .ok (.dup, 1) := by decide +kernel
theorem dX4_readNumber_49 : decode cX4_readNumber 49 = .ok (.getfield 24, 3) := by decide +kernel
theorem dX4_readNumber_52 : decode cX4_readNumber 52 = .ok (.iconst 1, 1) := by decide +kernel
theorem dX4_readNumber_53 : decode cX4_readNumber 53 = .ok (.iadd, 1) := by decide +kernel
theorem dX4_readNumber_54 : decode cX4_readNumber 54 = .ok (.putfield 24, 3) := by decide +kernel
theorem dX4_readNumber_57 : decode cX4_readNumber 57 = .ok (.aload_n 0, 1) := by decide +kernel
theorem dX4_readNumber_58 : decode cX4_readNumber 58 = .ok (.getfield 24, 3) := by decide +kernel
theorem dX4_readNumber_61 : decode cX4_readNumber 61 = .ok (.istore 7, 2) := by decide +kernel
theorem dX4_readNumber_63 : decode cX4_readNumber 63 = .ok (.aload_n 0, 1) := by decide +kernel
theorem dX4_readNumber_64 : decode cX4_readNumber 64 = .ok (.iload 5, 2) := by decide +kernel
theorem dX4_readNumber_66 : decode cX4_readNumber 66 = .ok (.iload_n 2, 1) := by decide +kernel
theorem dX4_readNumber_67 : decode cX4_readNumber 67 = .ok (.invokevirtual 120, 3) := by decide +kernel
theorem dX4_readNumber_70 : decode cX4_readNumber 70 = .ok (.istore 5, 2) := by decide +kernel
theorem dX4_readNumber_72 : decode cX4_readNumber 72 = .ok (.aload_n 0, 1) := by decide +kernel
theorem dX4_readNumber_73 : decode cX4_readNumber 73 = .ok (.getfield 24, 3) := by decide +kernel
theorem dX4_readNumber_76 : decode cX4_readNumber 76 = .ok (.iload 7, 2) := by decide +kernel
theorem dX4_readNumber_78 : decode cX4_readNumber 78 = .ok (.isub, 1) := by decide +kernel
theorem dX4_readNumber_79 : decode cX4_readNumber 79 = .ok (.istore 6, 2) := by decide +kernel
theorem dX4_readNumber_81 : decode cX4_readNumber 81 = .ok (.iload 5, 2) := by decide +kernel
theorem dX4_readNumber_83 : decode cX4_readNumber 83 = .ok (.iconst (-1), 1) := by decide +kernel
theorem dX4_readNumber_84 : decode cX4_readNumber 84 = .ok (.if_icmp .ne 5, 3) := by decide +kernel
theorem dX4_readNumber_87 : decode cX4_readNumber 87 = .ok (.iconst (-1), 1) := by decide +kernel
theorem dX4_readNumber_88 : decode cX4_readNumber 88 = .ok (.ireturn, 1) := by decide +kernel
theorem dX4_readNumber_89 : decode cX4_readNumber 89 = .ok (.iload 6, 2) := by decide +kernel
theorem dX4_readNumber_91 : decode cX4_readNumber 91 = .ok (.istore 7, 2) := by decide +kernel
theorem dX4_readNumber_93 : decode cX4_readNumber 93 = .ok (.iload 7, 2) := by decide +kernel
theorem dX4_readNumber_95 : decode cX4_readNumber 95 = .ok (.iload_n 2, 1) := by decide +kernel
theorem dX4_readNumber_96 : decode cX4_readNumber 96 = .ok (.if_icmp .ge 16, 3) := by decide +kernel
theorem dX4_readNumber_99 : decode cX4_readNumber 99 = .ok (.iload 5, 2) := by decide +kernel
theorem dX4_readNumber_101 : decode cX4_readNumber 101 = .ok (.bipush 10, 2) := by decide +kernel
theorem dX4_readNumber_103 : decode cX4_readNumber 103 = .ok (.imul, 1) := by decide +kernel
theorem dX4_readNumber_104 : decode cX4_readNumber 104 = .ok (.istore 5, 2) := by decide +kernel
theorem dX4_readNumber_106 : decode cX4_readNumber 106 = .ok (.iinc 7 1, 3) := by decide +kernel
theorem dX4_readNumber_109 : decode cX4_readNumber 109 = .ok (.goto (-16), 3) := by decide +kernel
theorem dX4_readNumber_112 : decode cX4_readNumber 112 = .ok (.iload 5, 2) := by decide +kernel
theorem dX4_readNumber_114 : decode cX4_readNumber 114 = .ok (.iload_n 3, 1) := by decide +kernel
theorem dX4_readNumber_115 : decode cX4_readNumber 115 = .ok (.if_icmp .le 12, 3) := by decide +kernel
theorem dX4_readNumber_118 : decode cX4_readNumber 118 = .ok (.aload_n 0, 1) := by decide +kernel
theorem dX4_readNumber_119 : decode cX4_readNumber 119 = .ok (.iload 4, 2) := by decide +kernel
theorem dX4_readNumber_121 : decode cX4_readNumber 121 = .ok (.invokevirtual 74, 3) := by decide +kernel
theorem dX4_readNumber_124 : decode cX4_readNumber 124 = .ok (.pop, 1) := by decide +kernel
theorem dX4_readNumber_125 : decode cX4_readNumber 125 = .ok (.iconst (-1), 1) := by decide +kernel
theorem dX4_readNumber_126 : decode cX4_readNumber 126 = .ok (.ireturn, 1) := by decide +kernel
theorem dX4_readNumber_127 : decode cX4_readNumber 127 = .ok (.iload 5, 2) := by decide +kernel
theorem dX4_readNumber_129 : decode cX4_readNumber 129 = .ok (.ireturn, 1) := by decide +kernel
set_option maxRecDepth 20000 in
theorem ggX4_readDigits_X4_characterAt : GoodIn wsX4_readDigits wsX4_characterAt := goodIn_r _ [6, 7, 8, 17, 18, 19, 20, 21] (by decide +kernel) (by decide +kernel)
set_option maxRecDepth 20000 in
theorem gX4_readDigits_X4_characterAt : GoodIn wsX4_readDigits (wsV RX4 78 RX4 yX4_characterAt wsX4_characterAt) := goodIn_app (goodIn_of _ (by decide +kernel)) ggX4_readDigits_X4_characterAt
set_option maxRecDepth 20000 in
theorem ggX4_readDigits_X4_isDigit : GoodIn wsX4_readDigits wsX4_isDigit := goodIn_r _ [11] (by decide +kernel) (by decide +kernel)
set_option maxRecDepth 20000 in
theorem gX4_readDigits_X4_isDigit : GoodIn wsX4_readDigits (va_wsS RX4 123 yX4_isDigit wsX4_isDigit) := goodIn_app (goodIn_of _ (by decide +kernel)) ggX4_readDigits_X4_isDigit
set_option maxRecDepth 20000 in
theorem ggX4_readDigits_X4_faultAt : GoodIn wsX4_readDigits wsX4_faultAt := goodIn_r _ [15, 16, 17, 18, 19, 20, 21] (by decide +kernel) (by decide +kernel)
set_option maxRecDepth 20000 in
theorem gX4_readDigits_X4_faultAt : GoodIn wsX4_readDigits (wsV RX4 74 RX4 yX4_faultAt wsX4_faultAt) := goodIn_app (goodIn_of _ (by decide +kernel)) ggX4_readDigits_X4_faultAt
theorem dX4_readDigits_0 : decode cX4_readDigits 0 = .ok (.aload_n 0, 1) := by decide +kernel
theorem dX4_readDigits_1 : decode cX4_readDigits 1 = .ok (.getfield 24, 3) := by decide +kernel
theorem dX4_readDigits_4 : decode cX4_readDigits 4 = .ok (.istore_n 3, 1) := by decide +kernel
theorem dX4_readDigits_5 : decode cX4_readDigits 5 = .ok (.iload_n 1, 1) := by decide +kernel
theorem dX4_readDigits_6 : decode cX4_readDigits 6 = .ok (.istore 4, 2) := by decide +kernel
theorem dX4_readDigits_8 : decode cX4_readDigits 8 = .ok (.aload_n 0, 1) := by decide +kernel
theorem dX4_readDigits_9 : decode cX4_readDigits 9 = .ok (.getfield 24, 3) := by decide +kernel
theorem dX4_readDigits_12 : decode cX4_readDigits 12 = .ok (.iload_n 3, 1) := by decide +kernel
theorem dX4_readDigits_13 : decode cX4_readDigits 13 = .ok (.isub, 1) := by decide +kernel
theorem dX4_readDigits_14 : decode cX4_readDigits 14 = .ok (.iload_n 2, 1) := by decide +kernel
theorem dX4_readDigits_15 : decode cX4_readDigits 15 = .ok (.if_icmp .ge 49, 3) := by decide +kernel
theorem dX4_readDigits_18 : decode cX4_readDigits 18 = .ok (.aload_n 0, 1) := by decide +kernel
theorem dX4_readDigits_19 : decode cX4_readDigits 19 = .ok (.aload_n 0, 1) := by decide +kernel
theorem dX4_readDigits_20 : decode cX4_readDigits 20 = .ok (.getfield 24, 3) := by decide +kernel
theorem dX4_readDigits_23 : decode cX4_readDigits 23 = .ok (.invokevirtual 78, 3) := by decide +kernel
theorem dX4_readDigits_26 : decode cX4_readDigits 26 = .ok (.invokestatic 123, 3) := by decide +kernel
theorem dX4_readDigits_29 : decode cX4_readDigits 29 = .ok (.ifCond .eq 35, 3) := by decide +kernel
theorem dX4_readDigits_32 : decode cX4_readDigits 32 = .ok (.iload 4, 2) := by decide +kernel
theorem dX4_readDigits_34 : decode cX4_readDigits 34 = .ok (.bipush 10, 2) := by decide +kernel
theorem dX4_readDigits_36 : decode cX4_readDigits 36 = .ok (.imul, 1) := by decide +kernel
theorem dX4_readDigits_37 : decode cX4_readDigits 37 = .ok (.aload_n 0, 1) := by decide +kernel
theorem dX4_readDigits_38 : decode cX4_readDigits 38 = .ok (.aload_n 0, 1) := by decide +kernel
theorem dX4_readDigits_39 : decode cX4_readDigits 39 = .ok (.getfield 24, 3) := by decide +kernel
theorem dX4_readDigits_42 : decode cX4_readDigits 42 = .ok (.invokevirtual 78, 3) := by decide +kernel
theorem dX4_readDigits_45 : decode cX4_readDigits 45 = .ok (.iadd, 1) := by decide +kernel
theorem dX4_readDigits_46 : decode cX4_readDigits 46 = .ok (.bipush 48, 2) := by decide +kernel
theorem dX4_readDigits_48 : decode cX4_readDigits 48 = .ok (.isub, 1) := by decide +kernel
theorem dX4_readDigits_49 : decode cX4_readDigits 49 = .ok (.istore 4, 2) := by decide +kernel
theorem dX4_readDigits_51 : decode cX4_readDigits 51 = .ok (.aload_n 0, 1) := by decide +kernel
theorem dX4_readDigits_52 : decode cX4_readDigits 52 = .ok (.dup, 1) := by decide +kernel
theorem dX4_readDigits_53 : decode cX4_readDigits 53 = .ok (.getfield 24, 3) := by decide +kernel
theorem dX4_readDigits_56 : decode cX4_readDigits 56 = .ok (.iconst 1, 1) := by decide +kernel
theorem dX4_readDigits_57 : decode cX4_readDigits 57 = .ok (.iadd, 1) := by decide +kernel
theorem dX4_readDigits_58 : decode cX4_readDigits 58 = .ok (.putfield 24, 3) := by decide +kernel
theorem dX4_readDigits_61 : decode cX4_readDigits 61 = .ok (.goto (-53), 3) := by decide +kernel
theorem dX4_readDigits_64 : decode cX4_readDigits 64 = .ok (.aload_n 0, 1) := by decide +kernel
theorem dX4_readDigits_65 : decode cX4_readDigits 65 = .ok (.getfield 24, 3) := by decide +kernel
theorem dX4_readDigits_68 : decode cX4_readDigits 68 = .ok (.iload_n 3, 1) := by decide +kernel
theorem dX4_readDigits_69 : decode cX4_readDigits 69 = .ok (.if_icmp .eq 17, 3) := by decide +kernel
theorem dX4_readDigits_72 : decode cX4_readDigits 72 = .ok (.aload_n 0, 1) := by decide +kernel
theorem dX4_readDigits_73 : decode cX4_readDigits 73 = .ok (.aload_n 0, 1) := by decide +kernel
theorem dX4_readDigits_74 : decode cX4_readDigits 74 = .ok (.getfield 24, 3) := by decide +kernel
theorem dX4_readDigits_77 : decode cX4_readDigits 77 = .ok (.invokevirtual 78, 3) := by decide +kernel
theorem dX4_readDigits_80 : decode cX4_readDigits 80 = .ok (.invokestatic 123, 3) := by decide +kernel
theorem dX4_readDigits_83 : decode cX4_readDigits 83 = .ok (.ifCond .eq 14, 3) := by decide +kernel
theorem dX4_readDigits_86 : decode cX4_readDigits 86 = .ok (.aload_n 0, 1) := by decide +kernel
theorem dX4_readDigits_87 : decode cX4_readDigits 87 = .ok (.aload_n 0, 1) := by decide +kernel
theorem dX4_readDigits_88 : decode cX4_readDigits 88 = .ok (.getfield 24, 3) := by decide +kernel
theorem dX4_readDigits_91 : decode cX4_readDigits 91 = .ok (.invokevirtual 74, 3) := by decide +kernel
theorem dX4_readDigits_94 : decode cX4_readDigits 94 = .ok (.pop, 1) := by decide +kernel
theorem dX4_readDigits_95 : decode cX4_readDigits 95 = .ok (.iconst (-1), 1) := by decide +kernel
theorem dX4_readDigits_96 : decode cX4_readDigits 96 = .ok (.ireturn, 1) := by decide +kernel
theorem dX4_readDigits_97 : decode cX4_readDigits 97 = .ok (.iload 4, 2) := by decide +kernel
theorem dX4_readDigits_99 : decode cX4_readDigits 99 = .ok (.ireturn, 1) := by decide +kernel
set_option maxRecDepth 20000 in
theorem ggX4_expect_X4_characterAt : GoodIn wsX4_expect wsX4_characterAt := goodIn_r _ [6, 7, 8, 14, 15, 16, 17, 18] (by decide +kernel) (by decide +kernel)
set_option maxRecDepth 20000 in
theorem gX4_expect_X4_characterAt : GoodIn wsX4_expect (wsV RX4 78 RX4 yX4_characterAt wsX4_characterAt) := goodIn_app (goodIn_of _ (by decide +kernel)) ggX4_expect_X4_characterAt
set_option maxRecDepth 20000 in
theorem ggX4_expect_X4_faultAt : GoodIn wsX4_expect wsX4_faultAt := goodIn_r _ [12, 13, 14, 15, 16, 17, 18] (by decide +kernel) (by decide +kernel)
set_option maxRecDepth 20000 in
theorem gX4_expect_X4_faultAt : GoodIn wsX4_expect (wsV RX4 74 RX4 yX4_faultAt wsX4_faultAt) := goodIn_app (goodIn_of _ (by decide +kernel)) ggX4_expect_X4_faultAt
theorem dX4_expect_0 : decode cX4_expect 0 = .ok (.aload_n 0, 1) := by decide +kernel
theorem dX4_expect_1 : decode cX4_expect 1 = .ok (.aload_n 0, 1) := by decide +kernel
theorem dX4_expect_2 : decode cX4_expect 2 = .ok (.getfield 24, 3) := by decide +kernel
theorem dX4_expect_5 : decode cX4_expect 5 = .ok (.invokevirtual 78, 3) := by decide +kernel
theorem dX4_expect_8 : decode cX4_expect 8 = .ok (.iload_n 1, 1) := by decide +kernel
theorem dX4_expect_9 : decode cX4_expect 9 = .ok (.if_icmp .eq 12, 3) := by decide +kernel
theorem dX4_expect_12 : decode cX4_expect 12 = .ok (.aload_n 0, 1) := by decide +kernel
theorem dX4_expect_13 : decode cX4_expect 13 = .ok (.aload_n 0, 1) := by decide +kernel
theorem dX4_expect_14 : decode cX4_expect 14 = .ok (.getfield 24, 3) := by decide +kernel
theorem dX4_expect_17 : decode cX4_expect 17 = .ok (.invokevirtual 74, 3) := by decide +kernel
theorem dX4_expect_20 : decode cX4_expect 20 = .ok (.ireturn, 1) := by decide +kernel
theorem dX4_expect_21 : decode cX4_expect 21 = .ok (.aload_n 0, 1) := by decide +kernel
theorem dX4_expect_22 : decode cX4_expect 22 = .ok (.dup, 1) := by decide +kernel
theorem dX4_expect_23 : decode cX4_expect 23 = .ok (.getfield 24, 3) := by decide +kernel
theorem dX4_expect_26 : decode cX4_expect 26 = .ok (.iconst 1, 1) := by decide +kernel
theorem dX4_expect_27 : decode cX4_expect 27 = .ok (.iadd, 1) := by decide +kernel
theorem dX4_expect_28 : decode cX4_expect 28 = .ok (.putfield 24, 3) := by decide +kernel
theorem dX4_expect_31 : decode cX4_expect 31 = .ok (.iconst 1, 1) := by decide +kernel
theorem dX4_expect_32 : decode cX4_expect 32 = .ok (.ireturn, 1) := by decide +kernel
theorem dX4_faultAt_0 : decode cX4_faultAt 0 = .ok (.aload_n 0, 1) := by decide +kernel
theorem dX4_faultAt_1 : decode cX4_faultAt 1 = .ok (.iload_n 1, 1) := by decide +kernel
theorem dX4_faultAt_2 : decode cX4_faultAt 2 = .ok (.putfield 27, 3) := by decide +kernel
theorem dX4_faultAt_5 : decode cX4_faultAt 5 = .ok (.iconst 0, 1) := by decide +kernel
theorem dX4_faultAt_6 : decode cX4_faultAt 6 = .ok (.ireturn, 1) := by decide +kernel
theorem dX4_characterAt_0 : decode cX4_characterAt 0 = .ok (.iload_n 1, 1) := by decide +kernel
theorem dX4_characterAt_1 : decode cX4_characterAt 1 = .ok (.ifCond .lt 27, 3) := by decide +kernel
theorem dX4_characterAt_4 : decode cX4_characterAt 4 = .ok (.iload_n 1, 1) := by decide +kernel
theorem dX4_characterAt_5 : decode cX4_characterAt 5 = .ok (.aload_n 0, 1) := by decide +kernel
theorem dX4_characterAt_6 : decode cX4_characterAt 6 = .ok (.getfield 15, 3) := by decide +kernel
theorem dX4_characterAt_9 : decode cX4_characterAt 9 = .ok (.if_icmp .ge 19, 3) := by decide +kernel
theorem dX4_characterAt_12 : decode cX4_characterAt 12 = .ok (.iload_n 1, 1) := by decide +kernel
theorem dX4_characterAt_13 : decode cX4_characterAt 13 = .ok (.sipush 3000, 3) := by decide +kernel
theorem dX4_characterAt_16 : decode cX4_characterAt 16 = .ok (.if_icmp .ge 12, 3) := by decide +kernel
theorem dX4_characterAt_19 : decode cX4_characterAt 19 = .ok (.aload_n 0, 1) := by decide +kernel
theorem dX4_characterAt_20 : decode cX4_characterAt 20 = .ok (.getfield 9, 3) := by decide +kernel
theorem dX4_characterAt_23 : decode cX4_characterAt 23 = .ok (.iload_n 1, 1) := by decide +kernel
theorem dX4_characterAt_24 : decode cX4_characterAt 24 = .ok (.caload, 1) := by decide +kernel
theorem dX4_characterAt_25 : decode cX4_characterAt 25 = .ok (.goto 4, 3) := by decide +kernel
theorem dX4_characterAt_28 : decode cX4_characterAt 28 = .ok (.iconst (-1), 1) := by decide +kernel
theorem dX4_characterAt_29 : decode cX4_characterAt 29 = .ok (.ireturn, 1) := by decide +kernel
theorem dX4_isDigit_0 : decode cX4_isDigit 0 = .ok (.iload_n 0, 1) := by decide +kernel
theorem dX4_isDigit_1 : decode cX4_isDigit 1 = .ok (.bipush 48, 2) := by decide +kernel
theorem dX4_isDigit_3 : decode cX4_isDigit 3 = .ok (.if_icmp .lt 13, 3) := by decide +kernel
theorem dX4_isDigit_6 : decode cX4_isDigit 6 = .ok (.iload_n 0, 1) := by decide +kernel
theorem dX4_isDigit_7 : decode cX4_isDigit 7 = .ok (.bipush 57, 2) := by decide +kernel
theorem dX4_isDigit_9 : decode cX4_isDigit 9 = .ok (.if_icmp .gt 7, 3) := by decide +kernel
theorem dX4_isDigit_12 : decode cX4_isDigit 12 = .ok (.iconst 1, 1) := by decide +kernel
theorem dX4_isDigit_13 : decode cX4_isDigit 13 = .ok (.goto 4, 3) := by decide +kernel
theorem dX4_isDigit_16 : decode cX4_isDigit 16 = .ok (.iconst 0, 1) := by decide +kernel
theorem dX4_isDigit_17 : decode cX4_isDigit 17 = .ok (.ireturn, 1) := by decide +kernel
set_option maxRecDepth 20000 in
theorem ggX4_isLetterOrDigit_X4_isDigit : GoodIn wsX4_isLetterOrDigit wsX4_isDigit := goodIn_r _ [4] (by decide +kernel) (by decide +kernel)
set_option maxRecDepth 20000 in
theorem gX4_isLetterOrDigit_X4_isDigit : GoodIn wsX4_isLetterOrDigit (va_wsS RX4 123 yX4_isDigit wsX4_isDigit) := goodIn_app (goodIn_of _ (by decide +kernel)) ggX4_isLetterOrDigit_X4_isDigit
theorem dX4_isLetterOrDigit_0 : decode cX4_isLetterOrDigit 0 = .ok (.iload_n 0, 1) := by decide +kernel
theorem dX4_isLetterOrDigit_1 : decode cX4_isLetterOrDigit 1 = .ok (.invokestatic 123, 3) := by decide +kernel
theorem dX4_isLetterOrDigit_4 : decode cX4_isLetterOrDigit 4 = .ok (.ifCond .ne 27, 3) := by decide +kernel
theorem dX4_isLetterOrDigit_7 : decode cX4_isLetterOrDigit 7 = .ok (.iload_n 0, 1) := by decide +kernel
theorem dX4_isLetterOrDigit_8 : decode cX4_isLetterOrDigit 8 = .ok (.bipush 97, 2) := by decide +kernel
theorem dX4_isLetterOrDigit_10 : decode cX4_isLetterOrDigit 10 = .ok (.if_icmp .lt 9, 3) := by decide +kernel
theorem dX4_isLetterOrDigit_13 : decode cX4_isLetterOrDigit 13 = .ok (.iload_n 0, 1) := by decide +kernel
theorem dX4_isLetterOrDigit_14 : decode cX4_isLetterOrDigit 14 = .ok (.bipush 122, 2) := by decide +kernel
theorem dX4_isLetterOrDigit_16 : decode cX4_isLetterOrDigit 16 = .ok (.if_icmp .le 15, 3) := by decide +kernel
theorem dX4_isLetterOrDigit_19 : decode cX4_isLetterOrDigit 19 = .ok (.iload_n 0, 1) := by decide +kernel
theorem dX4_isLetterOrDigit_20 : decode cX4_isLetterOrDigit 20 = .ok (.bipush 65, 2) := by decide +kernel
theorem dX4_isLetterOrDigit_22 : decode cX4_isLetterOrDigit 22 = .ok (.if_icmp .lt 13, 3) := by decide +kernel
theorem dX4_isLetterOrDigit_25 : decode cX4_isLetterOrDigit 25 = .ok (.iload_n 0, 1) := by decide +kernel
theorem dX4_isLetterOrDigit_26 : decode cX4_isLetterOrDigit 26 = .ok (.bipush 90, 2) := by decide +kernel
theorem dX4_isLetterOrDigit_28 : decode cX4_isLetterOrDigit 28 = .ok (.if_icmp .gt 7, 3) := by decide +kernel
theorem dX4_isLetterOrDigit_31 : decode cX4_isLetterOrDigit 31 = .ok (.iconst 1, 1) := by decide +kernel
theorem dX4_isLetterOrDigit_32 : decode cX4_isLetterOrDigit 32 = .ok (.goto 4, 3) := by decide +kernel
theorem dX4_isLetterOrDigit_35 : decode cX4_isLetterOrDigit 35 = .ok (.iconst 0, 1) := by decide +kernel
theorem dX4_isLetterOrDigit_36 : decode cX4_isLetterOrDigit 36 = .ok (.ireturn, 1) := by decide +kernel
