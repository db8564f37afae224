set_option maxRecDepth 20000 in
theorem ggX6_init_X4_init : GoodIn wsX6_init wsX4_init := goodIn_r _ [22, 23, 2, 3, 24, 25, 73, 74, 75, 76, 77] (by decide +kernel) (by decide +kernel)
set_option maxRecDepth 20000 in
theorem gX6_init_X4_init_n9 : GoodIn wsX6_init (wsX4_init) := ggX6_init_X4_init
set_option maxRecDepth 20000 in
theorem ggX6_init_X5_init : GoodIn wsX6_init wsX5_init := goodIn_r _ [27, 28, 2, 3, 24, 29, 30, 83, 84, 85] (by decide +kernel) (by decide +kernel)
set_option maxRecDepth 20000 in
theorem gX6_init_X5_init_n18 : GoodIn wsX6_init (wsX5_init) := ggX6_init_X5_init
set_option maxRecDepth 20000 in
theorem ggX6_init_X1_init : GoodIn wsX6_init wsX1_init := goodIn_r _ [32, 33, 2, 3, 34, 35, 36, 37, 86, 87, 88] (by decide +kernel) (by decide +kernel)
set_option maxRecDepth 20000 in
theorem gX6_init_X1_init_n25 : GoodIn wsX6_init (wsX1_init) := ggX6_init_X1_init
set_option maxRecDepth 20000 in
theorem ggX6_init_X0_init : GoodIn wsX6_init wsX0_init := goodIn_r _ [39, 40, 2, 3, 41, 42, 35, 43, 44, 45, 46, 47, 48, 49, 50, 51, 52, 53, 54, 55, 56, 57, 58, 59, 60, 61, 62, 63, 64, 65, 66, 67, 68, 69, 70, 71, 72, 89, 90, 91, 92, 93, 94, 95, 96, 97, 98, 99, 100, 101, 102, 103, 104, 105] (by decide +kernel) (by decide +kernel)
set_option maxRecDepth 20000 in
theorem gX6_init_X0_init_n32 : GoodIn wsX6_init (wsX0_init) := ggX6_init_X0_init
theorem dX6_init_0 : decode cX6_init 0 = .ok (.aload_n 0, 1) := by decide +kernel
theorem dX6_init_1 : decode cX6_init 1 = .ok (.invokespecial 1, 3) := by decide +kernel
theorem dX6_init_4 : decode cX6_init 4 = .ok (.aload_n 0, 1) := by decide +kernel
theorem dX6_init_5 : decode cX6_init 5 = .ok (.new 7, 3) := by decide +kernel
theorem dX6_init_8 : decode cX6_init 8 = .ok (.dup, 1) := by decide +kernel
theorem dX6_init_9 : decode cX6_init 9 = .ok (.invokespecial 9, 3) := by decide +kernel
theorem dX6_init_12 : decode cX6_init 12 = .ok (.putfield 10, 3) := by decide +kernel
theorem dX6_init_15 : decode cX6_init 15 = .ok (.aload_n 0, 1) := by decide +kernel
theorem dX6_init_16 : decode cX6_init 16 = .ok (.new 16, 3) := by decide +kernel
theorem dX6_init_19 : decode cX6_init 19 = .ok (.dup, 1) := by decide +kernel
theorem dX6_init_20 : decode cX6_init 20 = .ok (.invokespecial 18, 3) := by decide +kernel
theorem dX6_init_23 : decode cX6_init 23 = .ok (.putfield 19, 3) := by decide +kernel
theorem dX6_init_26 : decode cX6_init 26 = .ok (.aload_n 0, 1) := by decide +kernel
theorem dX6_init_27 : decode cX6_init 27 = .ok (.new 23, 3) := by decide +kernel
theorem dX6_init_30 : decode cX6_init 30 = .ok (.dup, 1) := by decide +kernel
theorem dX6_init_31 : decode cX6_init 31 = .ok (.invokespecial 25, 3) := by decide +kernel
theorem dX6_init_34 : decode cX6_init 34 = .ok (.putfield 26, 3) := by decide +kernel
theorem dX6_init_37 : decode cX6_init 37 = .ok (.aload_n 0, 1) := by decide +kernel
theorem dX6_init_38 : decode cX6_init 38 = .ok (.new 30, 3) := by decide +kernel
theorem dX6_init_41 : decode cX6_init 41 = .ok (.dup, 1) := by decide +kernel
theorem dX6_init_42 : decode cX6_init 42 = .ok (.invokespecial 32, 3) := by decide +kernel
theorem dX6_init_45 : decode cX6_init 45 = .ok (.putfield 33, 3) := by decide +kernel
theorem dX6_init_48 : decode cX6_init 48 = .ok (.aload_n 0, 1) := by decide +kernel
theorem dX6_init_49 : decode cX6_init 49 = .ok (.new 30, 3) := by decide +kernel
theorem dX6_init_52 : decode cX6_init 52 = .ok (.dup, 1) := by decide +kernel
theorem dX6_init_53 : decode cX6_init 53 = .ok (.invokespecial 32, 3) := by decide +kernel
theorem dX6_init_56 : decode cX6_init 56 = .ok (.putfield 37, 3) := by decide +kernel
theorem dX6_init_59 : decode cX6_init 59 = .ok (.return_, 1) := by decide +kernel
set_option maxRecDepth 20000 in
theorem ggX6_unit_X4_append : GoodIn wsX6_unit wsX4_append := goodIn_r _ [6, 7, 8, 14, 15, 16, 17, 18] (by decide +kernel) (by decide +kernel)
set_option maxRecDepth 20000 in
theorem gX6_unit_X4_append : GoodIn wsX6_unit (wsV RX6 40 RX4 yX4_append wsX4_append) := goodIn_app (goodIn_of _ (by decide +kernel)) ggX6_unit_X4_append
theorem dX6_unit_0 : decode cX6_unit 0 = .ok (.aload_n 0, 1) := by decide +kernel
theorem dX6_unit_1 : decode cX6_unit 1 = .ok (.getfield 10, 3) := by decide +kernel
theorem dX6_unit_4 : decode cX6_unit 4 = .ok (.iload_n 1, 1) := by decide +kernel
theorem dX6_unit_5 : decode cX6_unit 5 = .ok (.invokevirtual 40, 3) := by decide +kernel
theorem dX6_unit_8 : decode cX6_unit 8 = .ok (.ireturn, 1) := by decide +kernel
set_option maxRecDepth 20000 in
theorem ggX6_read_X4_readInto_wsX4_readInto_r1 : GoodIn wsX6_read wsX4_readInto_r1 := goodIn_r _ [12, 13, 14, 15, 16, 17, 18, 19, 20, 21, 22, 23, 24, 25, 26, 27, 28, 29, 30, 31, 32, 33, 34, 35] (by decide +kernel) (by decide +kernel)
set_option maxRecDepth 20000 in
theorem ggX6_read_X4_readInto_wsX4_readInto_r2 : GoodIn wsX6_read wsX4_readInto_r2 := goodIn_r _ [36, 10, 37, 38, 39, 40, 41, 42, 43, 44, 45, 46, 47, 48, 49, 50, 51, 52, 53, 54, 55, 56, 57, 58] (by decide +kernel) (by decide +kernel)
set_option maxRecDepth 20000 in
theorem ggX6_read_X4_readInto_wsX4_readInto_r3 : GoodIn wsX6_read wsX4_readInto_r3 := goodIn_r _ [59, 60, 61, 62, 63, 64, 65, 66, 67, 68, 69, 70, 71, 72, 73, 74, 75, 76, 77, 78, 79, 80, 81, 82] (by decide +kernel) (by decide +kernel)
set_option maxRecDepth 20000 in
theorem ggX6_read_X4_readInto_wsX4_readInto_r4 : GoodIn wsX6_read wsX4_readInto_r4 := goodIn_r _ [83, 84, 85, 86, 87, 88, 89, 90, 91, 92, 93, 94, 95, 96, 97, 98, 99, 100, 101, 102, 103, 104, 105, 106] (by decide +kernel) (by decide +kernel)
set_option maxRecDepth 20000 in
theorem ggX6_read_X4_readInto_wsX4_readInto_r5 : GoodIn wsX6_read wsX4_readInto_r5 := goodIn_r _ [107, 108, 109, 110, 111, 112, 113, 114, 115, 116, 117, 118, 119, 120, 121, 122, 123, 124, 125, 126, 127, 128, 129, 130] (by decide +kernel) (by decide +kernel)
set_option maxRecDepth 20000 in
theorem ggX6_read_X4_readInto_wsX4_readInto_r6 : GoodIn wsX6_read wsX4_readInto_r6 := goodIn_r _ [131, 132, 133, 134, 135, 136, 137, 138, 139, 140, 141, 142, 143, 144, 145, 146, 147, 148, 149, 150, 151, 152, 153, 154] (by decide +kernel) (by decide +kernel)
set_option maxRecDepth 20000 in
theorem ggX6_read_X4_readInto_wsX4_readInto_r7 : GoodIn wsX6_read wsX4_readInto_r7 := goodIn_r _ [155, 156, 157, 158, 159, 160, 161, 162, 163, 164, 165, 166, 167, 168, 169, 170, 171, 172, 173, 174, 175, 176, 177, 178] (by decide +kernel) (by decide +kernel)
set_option maxRecDepth 20000 in
theorem ggX6_read_X4_readInto_wsX4_readInto_r8 : GoodIn wsX6_read wsX4_readInto_r8 := goodIn_r _ [179, 180, 181, 182, 183, 184, 185, 186, 187, 188, 189, 190, 191, 192, 193, 194, 195, 196, 197, 198, 199, 200, 201, 202] (by decide +kernel) (by decide +kernel)
set_option maxRecDepth 20000 in
theorem ggX6_read_X4_readInto_wsX4_readInto_r9 : GoodIn wsX6_read wsX4_readInto_r9 := goodIn_r _ [203, 204, 205, 206, 207, 208, 209, 210, 211, 212, 213, 214, 215, 216, 217, 218, 219] (by decide +kernel) (by decide +kernel)
set_option maxRecDepth 20000 in
theorem ggX6_read_X4_readInto_wsX40 : GoodIn wsX6_read wsX40 := goodIn_r _ [293, 294, 295, 296, 297] (by decide +kernel) (by decide +kernel)
set_option maxRecDepth 20000 in
theorem ggX6_read_X4_readInto_wsX00 : GoodIn wsX6_read wsX00 := goodIn_r _ [281, 282, 283, 284, 285, 286, 287, 288, 289, 290, 291, 292] (by decide +kernel) (by decide +kernel)
set_option maxRecDepth 20000 in
theorem ggX6_read_X4_readInto_wsX30 : GoodIn wsX6_read wsX30 := goodIn_r _ [298, 299, 300] (by decide +kernel) (by decide +kernel)
set_option maxRecDepth 20000 in
theorem ggX6_read_X4_readInto_wsX20 : GoodIn wsX6_read wsX20 := goodIn_r _ [301, 302] (by decide +kernel) (by decide +kernel)
set_option maxRecDepth 20000 in
theorem ggX6_read_X4_readInto_c : GoodIn wsX6_read [.code yX4_readInto cX4_readInto 3 (some .int)] := goodIn_r _ [11] (by decide +kernel) (by decide +kernel)
set_option maxRecDepth 20000 in
theorem ggX6_read_X4_readInto : GoodIn wsX6_read wsX4_readInto := goodIn_app ggX6_read_X4_readInto_c (goodIn_app (goodIn_app (goodIn_app (goodIn_app (goodIn_app ggX6_read_X4_readInto_wsX4_readInto_r1 (goodIn_app ggX6_read_X4_readInto_wsX4_readInto_r2 (goodIn_app ggX6_read_X4_readInto_wsX4_readInto_r3 (goodIn_app ggX6_read_X4_readInto_wsX4_readInto_r4 (goodIn_app ggX6_read_X4_readInto_wsX4_readInto_r5 (goodIn_app ggX6_read_X4_readInto_wsX4_readInto_r6 (goodIn_app ggX6_read_X4_readInto_wsX4_readInto_r7 (goodIn_app ggX6_read_X4_readInto_wsX4_readInto_r8 ggX6_read_X4_readInto_wsX4_readInto_r9)))))))) ggX6_read_X4_readInto_wsX40) ggX6_read_X4_readInto_wsX00) ggX6_read_X4_readInto_wsX30) ggX6_read_X4_readInto_wsX20)
set_option maxRecDepth 20000 in
theorem gX6_read_X4_readInto : GoodIn wsX6_read (wsV RX6 44 RX4 yX4_readInto wsX4_readInto) := goodIn_app (goodIn_of _ (by decide +kernel)) ggX6_read_X4_readInto
set_option maxRecDepth 20000 in
theorem ggX6_read_X4_forget : GoodIn wsX6_read wsX4_forget := goodIn_r _ [223, 14, 293, 294, 295, 296, 297] (by decide +kernel) (by decide +kernel)
set_option maxRecDepth 20000 in
theorem gX6_read_X4_forget : GoodIn wsX6_read (wsV RX6 48 RX4 yX4_forget wsX4_forget) := goodIn_app (goodIn_of _ (by decide +kernel)) ggX6_read_X4_forget
set_option maxRecDepth 20000 in
theorem ggX6_read_X1_forget : GoodIn wsX6_read wsX1_forget := goodIn_r _ [228, 229, 303, 304, 305] (by decide +kernel) (by decide +kernel)
set_option maxRecDepth 20000 in
theorem gX6_read_X1_forget : GoodIn wsX6_read (wsV RX6 51 RX1 yX1_forget wsX1_forget) := goodIn_app (goodIn_of _ (by decide +kernel)) ggX6_read_X1_forget
set_option maxRecDepth 20000 in
theorem ggX6_read_X5_putBoard_wsX5_putBoard_r1 : GoodIn wsX6_read wsX5_putBoard_r1 := goodIn_r _ [235, 236, 237, 238, 239, 240, 241, 242, 243, 244, 245, 233, 246, 247, 248, 249, 250, 47, 48, 49, 251, 252, 253, 254] (by decide +kernel) (by decide +kernel)
set_option maxRecDepth 20000 in
theorem ggX6_read_X5_putBoard_wsX5_putBoard_r2 : GoodIn wsX6_read wsX5_putBoard_r2 := goodIn_r _ [255, 55, 56, 57, 58, 59, 60, 61, 62, 63, 64, 65, 256, 72, 73, 74, 75, 76, 77, 78, 79, 80, 81, 82] (by decide +kernel) (by decide +kernel)
set_option maxRecDepth 20000 in
theorem ggX6_read_X5_putBoard_wsX5_putBoard_r3 : GoodIn wsX6_read wsX5_putBoard_r3 := goodIn_r _ [83, 84, 85, 86, 87, 88, 89, 90, 91, 92, 93, 94, 95, 96, 97, 98, 99, 100, 101, 102, 103, 104, 105, 106] (by decide +kernel) (by decide +kernel)
set_option maxRecDepth 20000 in
theorem ggX6_read_X5_putBoard_wsX5_putBoard_r4 : GoodIn wsX6_read wsX5_putBoard_r4 := goodIn_r _ [107, 257, 258, 259, 260, 261, 262, 263, 264, 265, 266, 267, 268, 269, 270, 271, 272, 273, 274, 275] (by decide +kernel) (by decide +kernel)
set_option maxRecDepth 20000 in
theorem ggX6_read_X5_putBoard_wsX50 : GoodIn wsX6_read wsX50 := goodIn_r _ [306, 307, 308] (by decide +kernel) (by decide +kernel)
set_option maxRecDepth 20000 in
theorem ggX6_read_X5_putBoard_wsX00 : GoodIn wsX6_read wsX00 := goodIn_r _ [281, 282, 283, 284, 285, 286, 287, 288, 289, 290, 291, 292] (by decide +kernel) (by decide +kernel)
set_option maxRecDepth 20000 in
theorem ggX6_read_X5_putBoard_wsX20 : GoodIn wsX6_read wsX20 := goodIn_r _ [301, 302] (by decide +kernel) (by decide +kernel)
set_option maxRecDepth 20000 in
theorem ggX6_read_X5_putBoard_wsX30 : GoodIn wsX6_read wsX30 := goodIn_r _ [298, 299, 300] (by decide +kernel) (by decide +kernel)
set_option maxRecDepth 20000 in
theorem ggX6_read_X5_putBoard_c : GoodIn wsX6_read [.code yX5_putBoard cX5_putBoard 4 none] := goodIn_r _ [234] (by decide +kernel) (by decide +kernel)
set_option maxRecDepth 20000 in
theorem ggX6_read_X5_putBoard : GoodIn wsX6_read wsX5_putBoard := goodIn_app ggX6_read_X5_putBoard_c (goodIn_app (goodIn_app (goodIn_app (goodIn_app (goodIn_app ggX6_read_X5_putBoard_wsX5_putBoard_r1 (goodIn_app ggX6_read_X5_putBoard_wsX5_putBoard_r2 (goodIn_app ggX6_read_X5_putBoard_wsX5_putBoard_r3 ggX6_read_X5_putBoard_wsX5_putBoard_r4))) ggX6_read_X5_putBoard_wsX50) ggX6_read_X5_putBoard_wsX00) ggX6_read_X5_putBoard_wsX20) ggX6_read_X5_putBoard_wsX30)
set_option maxRecDepth 20000 in
theorem gX6_read_X5_putBoard : GoodIn wsX6_read (wsV RX6 52 RX5 yX5_putBoard wsX5_putBoard) := goodIn_app (goodIn_of _ (by decide +kernel)) ggX6_read_X5_putBoard
theorem dX6_read_0 : decode cX6_read 0 = .ok (.aload_n 0, 1) := by decide +kernel
theorem dX6_read_1 : decode cX6_read 1 = .ok (.getfield 10, 3) := by decide +kernel
theorem dX6_read_4 : decode cX6_read 4 = .ok (.aload_n 0, 1) := by decide +kernel
theorem dX6_read_5 : decode cX6_read 5 = .ok (.getfield 37, 3) := by decide +kernel
theorem dX6_read_8 : decode cX6_read 8 = .ok (.invokevirtual 44, 3) := by decide +kernel
theorem dX6_read_11 : decode cX6_read 11 = .ok (.istore_n 1, 1) := by decide +kernel
theorem dX6_read_12 : decode cX6_read 12 = .ok (.iload_n 1, 1) := by decide +kernel
theorem dX6_read_13 : decode cX6_read 13 = .ok (.iconst (-1), 1) := by decide +kernel
theorem dX6_read_14 : decode cX6_read 14 = .ok (.if_icmp .eq 7, 3) := by decide +kernel
theorem dX6_read_17 : decode cX6_read 17 = .ok (.iconst (-1), 1) := by decide +kernel
theorem dX6_read_18 : decode cX6_read 18 = .ok (.iload_n 1, 1) := by decide +kernel
theorem dX6_read_19 : decode cX6_read 19 = .ok (.isub, 1) := by decide +kernel
theorem dX6_read_20 : decode cX6_read 20 = .ok (.ireturn, 1) := by decide +kernel
theorem dX6_read_21 : decode cX6_read 21 = .ok (.aload_n 0, 1) := by decide +kernel
theorem dX6_read_22 : decode cX6_read 22 = .ok (.getfield 33, 3) := by decide +kernel
theorem dX6_read_25 : decode cX6_read 25 = .ok (.astore_n 2, 1) := by decide +kernel
theorem dX6_read_26 : decode cX6_read 26 = .ok (.aload_n 0, 1) := by decide +kernel
theorem dX6_read_27 : decode cX6_read 27 = .ok (.aload_n 0, 1) := by decide +kernel
theorem dX6_read_28 : decode cX6_read 28 = .ok (.getfield 37, 3) := by decide +kernel
theorem dX6_read_31 : decode cX6_read 31 = .ok (.putfield 33, 3) := by decide +kernel
theorem dX6_read_34 : decode cX6_read 34 = .ok (.aload_n 0, 1) := by decide +kernel
theorem dX6_read_35 : decode cX6_read 35 = .ok (.aload_n 2, 1) := by decide +kernel
theorem dX6_read_36 : decode cX6_read 36 = .ok (.putfield 37, 3) := by decide +kernel
theorem dX6_read_39 : decode cX6_read 39 = .ok (.aload_n 0, 1) := by decide +kernel
theorem dX6_read_40 : decode cX6_read 40 = .ok (.getfield 10, 3) := by decide +kernel
theorem dX6_read_43 : decode cX6_read 43 = .ok (.invokevirtual 48, 3) := by decide +kernel
theorem dX6_read_46 : decode cX6_read 46 = .ok (.aload_n 0, 1) := by decide +kernel
theorem dX6_read_47 : decode cX6_read 47 = .ok (.getfield 26, 3) := by decide +kernel
theorem dX6_read_50 : decode cX6_read 50 = .ok (.invokevirtual 51, 3) := by decide +kernel
theorem dX6_read_53 : decode cX6_read 53 = .ok (.aload_n 0, 1) := by decide +kernel
theorem dX6_read_54 : decode cX6_read 54 = .ok (.getfield 19, 3) := by decide +kernel
theorem dX6_read_57 : decode cX6_read 57 = .ok (.aload_n 0, 1) := by decide +kernel
theorem dX6_read_58 : decode cX6_read 58 = .ok (.getfield 33, 3) := by decide +kernel
theorem dX6_read_61 : decode cX6_read 61 = .ok (.invokevirtual 52, 3) := by decide +kernel
theorem dX6_read_64 : decode cX6_read 64 = .ok (.aload_n 0, 1) := by decide +kernel
theorem dX6_read_65 : decode cX6_read 65 = .ok (.getfield 33, 3) := by decide +kernel
theorem dX6_read_68 : decode cX6_read 68 = .ok (.getfield 56, 3) := by decide +kernel
theorem dX6_read_71 : decode cX6_read 71 = .ok (.ireturn, 1) := by decide +kernel
theorem dX6_thick_0 : decode cX6_thick 0 = .ok (.aload_n 0, 1) := by decide +kernel
theorem dX6_thick_1 : decode cX6_thick 1 = .ok (.iload_n 1, 1) := by decide +kernel
theorem dX6_thick_2 : decode cX6_thick 2 = .ok (.invokevirtual 60, 3) := by decide +kernel
theorem dX6_thick_5 : decode cX6_thick 5 = .ok (.iload_n 2, 1) := by decide +kernel
theorem dX6_thick_6 : decode cX6_thick 6 = .ok (.iload_n 3, 1) := by decide +kernel
theorem dX6_thick_7 : decode cX6_thick 7 = .ok (.invokestatic 64, 3) := by decide +kernel
theorem dX6_thick_10 : decode cX6_thick 10 = .ok (.aload_n 0, 1) := by decide +kernel
theorem dX6_thick_11 : decode cX6_thick 11 = .ok (.getfield 33, 3) := by decide +kernel
theorem dX6_thick_14 : decode cX6_thick 14 = .ok (.getfield 68, 3) := by decide +kernel
theorem dX6_thick_17 : decode cX6_thick 17 = .ok (.iload_n 1, 1) := by decide +kernel
theorem dX6_thick_18 : decode cX6_thick 18 = .ok (.iaload, 1) := by decide +kernel
theorem dX6_thick_19 : decode cX6_thick 19 = .ok (.iconst 4, 1) := by decide +kernel
theorem dX6_thick_20 : decode cX6_thick 20 = .ok (.if_icmp .ne 13, 3) := by decide +kernel
theorem dX6_thick_23 : decode cX6_thick 23 = .ok (.new 72, 3) := by decide +kernel
theorem dX6_thick_26 : decode cX6_thick 26 = .ok (.dup, 1) := by decide +kernel
theorem dX6_thick_27 : decode cX6_thick 27 = .ok (.ldc 74, 2) := by decide +kernel
theorem dX6_thick_29 : decode cX6_thick 29 = .ok (.invokespecial 76, 3) := by decide +kernel
theorem dX6_thick_32 : decode cX6_thick 32 = .ok (.athrow, 1) := by decide +kernel
theorem dX6_thick_33 : decode cX6_thick 33 = .ok (.aload_n 0, 1) := by decide +kernel
theorem dX6_thick_34 : decode cX6_thick 34 = .ok (.getfield 33, 3) := by decide +kernel
theorem dX6_thick_37 : decode cX6_thick 37 = .ok (.iload_n 1, 1) := by decide +kernel
theorem dX6_thick_38 : decode cX6_thick 38 = .ok (.iload_n 2, 1) := by decide +kernel
theorem dX6_thick_39 : decode cX6_thick 39 = .ok (.invokevirtual 79, 3) := by decide +kernel
theorem dX6_thick_42 : decode cX6_thick 42 = .ok (.ldc2_w 83, 3) := by decide +kernel
theorem dX6_thick_45 : decode cX6_thick 45 = .ok (.iload_n 3, 1) := by decide +kernel
theorem dX6_thick_46 : decode cX6_thick 46 = .ok (.invokestatic 85, 3) := by decide +kernel
theorem dX6_thick_49 : decode cX6_thick 49 = .ok (.lreturn, 1) := by decide +kernel
theorem dX6_kind_0 : decode cX6_kind 0 = .ok (.aload_n 0, 1) := by decide +kernel
theorem dX6_kind_1 : decode cX6_kind 1 = .ok (.iload_n 1, 1) := by decide +kernel
theorem dX6_kind_2 : decode cX6_kind 2 = .ok (.invokevirtual 60, 3) := by decide +kernel
theorem dX6_kind_5 : decode cX6_kind 5 = .ok (.aload_n 0, 1) := by decide +kernel
theorem dX6_kind_6 : decode cX6_kind 6 = .ok (.getfield 33, 3) := by decide +kernel
theorem dX6_kind_9 : decode cX6_kind 9 = .ok (.getfield 68, 3) := by decide +kernel
theorem dX6_kind_12 : decode cX6_kind 12 = .ok (.iload_n 1, 1) := by decide +kernel
theorem dX6_kind_13 : decode cX6_kind 13 = .ok (.iaload, 1) := by decide +kernel
theorem dX6_kind_14 : decode cX6_kind 14 = .ok (.ireturn, 1) := by decide +kernel
theorem dX6_via_0 : decode cX6_via 0 = .ok (.aload_n 0, 1) := by decide +kernel
theorem dX6_via_1 : decode cX6_via 1 = .ok (.iload_n 1, 1) := by decide +kernel
theorem dX6_via_2 : decode cX6_via 2 = .ok (.invokevirtual 89, 3) := by decide +kernel
theorem dX6_via_5 : decode cX6_via 5 = .ok (.aload_n 0, 1) := by decide +kernel
theorem dX6_via_6 : decode cX6_via 6 = .ok (.iload_n 2, 1) := by decide +kernel
theorem dX6_via_7 : decode cX6_via 7 = .ok (.invokevirtual 89, 3) := by decide +kernel
theorem dX6_via_10 : decode cX6_via 10 = .ok (.aload_n 0, 1) := by decide +kernel
theorem dX6_via_11 : decode cX6_via 11 = .ok (.getfield 33, 3) := by decide +kernel
theorem dX6_via_14 : decode cX6_via 14 = .ok (.getfield 92, 3) := by decide +kernel
theorem dX6_via_17 : decode cX6_via 17 = .ok (.iload_n 1, 1) := by decide +kernel
theorem dX6_via_18 : decode cX6_via 18 = .ok (.iload_n 2, 1) := by decide +kernel
theorem dX6_via_19 : decode cX6_via 19 = .ok (.invokestatic 96, 3) := by decide +kernel
theorem dX6_via_22 : decode cX6_via 22 = .ok (.iload_n 1, 1) := by decide +kernel
theorem dX6_via_23 : decode cX6_via 23 = .ok (.iload_n 2, 1) := by decide +kernel
theorem dX6_via_24 : decode cX6_via 24 = .ok (.invokestatic 102, 3) := by decide +kernel
theorem dX6_via_27 : decode cX6_via 27 = .ok (.invokevirtual 105, 3) := by decide +kernel
theorem dX6_via_30 : decode cX6_via 30 = .ok (.iconst (-1), 1) := by decide +kernel
theorem dX6_via_31 : decode cX6_via 31 = .ok (.if_icmp .eq 7, 3) := by decide +kernel
theorem dX6_via_34 : decode cX6_via 34 = .ok (.iconst 1, 1) := by decide +kernel
theorem dX6_via_35 : decode cX6_via 35 = .ok (.goto 4, 3) := by decide +kernel
theorem dX6_via_38 : decode cX6_via 38 = .ok (.iconst 0, 1) := by decide +kernel
theorem dX6_via_39 : decode cX6_via 39 = .ok (.ireturn, 1) := by decide +kernel
theorem dX6_pressed_0 : decode cX6_pressed 0 = .ok (.aload_n 0, 1) := by decide +kernel
theorem dX6_pressed_1 : decode cX6_pressed 1 = .ok (.getfield 33, 3) := by decide +kernel
theorem dX6_pressed_4 : decode cX6_pressed 4 = .ok (.getfield 110, 3) := by decide +kernel
theorem dX6_pressed_7 : decode cX6_pressed 7 = .ok (.getfield 114, 3) := by decide +kernel
theorem dX6_pressed_10 : decode cX6_pressed 10 = .ok (.astore_n 3, 1) := by decide +kernel
theorem dX6_pressed_11 : decode cX6_pressed 11 = .ok (.iload_n 1, 1) := by decide +kernel
theorem dX6_pressed_12 : decode cX6_pressed 12 = .ok (.ifCond .lt 20, 3) := by decide +kernel
theorem dX6_pressed_15 : decode cX6_pressed 15 = .ok (.iload_n 1, 1) := by decide +kernel
theorem dX6_pressed_16 : decode cX6_pressed 16 = .ok (.aload_n 3, 1) := by decide +kernel
theorem dX6_pressed_17 : decode cX6_pressed 17 = .ok (.getfield 119, 3) := by decide +kernel
theorem dX6_pressed_20 : decode cX6_pressed 20 = .ok (.if_icmp .ge 12, 3) := by decide +kernel
theorem dX6_pressed_23 : decode cX6_pressed 23 = .ok (.iload_n 2, 1) := by decide +kernel
theorem dX6_pressed_24 : decode cX6_pressed 24 = .ok (.ifCond .lt 8, 3) := by decide +kernel
theorem dX6_pressed_27 : decode cX6_pressed 27 = .ok (.iload_n 2, 1) := by decide +kernel
theorem dX6_pressed_28 : decode cX6_pressed 28 = .ok (.iconst 2, 1) := by decide +kernel
theorem dX6_pressed_29 : decode cX6_pressed 29 = .ok (.if_icmp .le 13, 3) := by decide +kernel
theorem dX6_pressed_32 : decode cX6_pressed 32 = .ok (.new 122, 3) := by decide +kernel
theorem dX6_pressed_35 : decode cX6_pressed 35 = .ok (.dup, 1) := by decide +kernel
theorem dX6_pressed_36 : decode cX6_pressed 36 = .ok (.ldc 124, 2) := by decide +kernel
theorem dX6_pressed_38 : decode cX6_pressed 38 = .ok (.invokespecial 126, 3) := by decide +kernel
theorem dX6_pressed_41 : decode cX6_pressed 41 = .ok (.athrow, 1) := by decide +kernel
theorem dX6_pressed_42 : decode cX6_pressed 42 = .ok (.iload_n 2, 1) := by decide +kernel
theorem dX6_pressed_43 : decode cX6_pressed 43 = .ok (.ifCond .ne 10, 3) := by decide +kernel
theorem dX6_pressed_46 : decode cX6_pressed 46 = .ok (.aload_n 3, 1) := by decide +kernel
theorem dX6_pressed_47 : decode cX6_pressed 47 = .ok (.getfield 127, 3) := by decide +kernel
theorem dX6_pressed_50 : decode cX6_pressed 50 = .ok (.iload_n 1, 1) := by decide +kernel
theorem dX6_pressed_51 : decode cX6_pressed 51 = .ok (.iaload, 1) := by decide +kernel
theorem dX6_pressed_52 : decode cX6_pressed 52 = .ok (.ireturn, 1) := by decide +kernel
theorem dX6_pressed_53 : decode cX6_pressed 53 = .ok (.iload_n 2, 1) := by decide +kernel
theorem dX6_pressed_54 : decode cX6_pressed 54 = .ok (.iconst 1, 1) := by decide +kernel
theorem dX6_pressed_55 : decode cX6_pressed 55 = .ok (.if_icmp .ne 12, 3) := by decide +kernel
theorem dX6_pressed_58 : decode cX6_pressed 58 = .ok (.aload_n 3, 1) := by decide +kernel
theorem dX6_pressed_59 : decode cX6_pressed 59 = .ok (.getfield 130, 3) := by decide +kernel
theorem dX6_pressed_62 : decode cX6_pressed 62 = .ok (.iload_n 1, 1) := by decide +kernel
theorem dX6_pressed_63 : decode cX6_pressed 63 = .ok (.iaload, 1) := by decide +kernel
theorem dX6_pressed_64 : decode cX6_pressed 64 = .ok (.goto 14, 3) := by decide +kernel
theorem dX6_pressed_67 : decode cX6_pressed 67 = .ok (.aload_n 0, 1) := by decide +kernel
theorem dX6_pressed_68 : decode cX6_pressed 68 = .ok (.getfield 33, 3) := by decide +kernel
theorem dX6_pressed_71 : decode cX6_pressed 71 = .ok (.getfield 110, 3) := by decide +kernel
theorem dX6_pressed_74 : decode cX6_pressed 74 = .ok (.iload_n 1, 1) := by decide +kernel
theorem dX6_pressed_75 : decode cX6_pressed 75 = .ok (.invokevirtual 133, 3) := by decide +kernel
theorem dX6_pressed_78 : decode cX6_pressed 78 = .ok (.ireturn, 1) := by decide +kernel
set_option maxRecDepth 20000 in
theorem ggX6_skew_X0_findSkew : GoodIn wsX6_skew wsX0_findSkew := goodIn_r _ [6, 7, 8, 9, 10, 5, 11, 12, 13, 14, 15, 16, 22, 23, 24, 25, 26, 27, 28, 29, 30, 31, 32, 33] (by decide +kernel) (by decide +kernel)
set_option maxRecDepth 20000 in
theorem gX6_skew_X0_findSkew : GoodIn wsX6_skew (wsV RX6 137 RX0 yX0_findSkew wsX0_findSkew) := goodIn_app (goodIn_of _ (by decide +kernel)) ggX6_skew_X0_findSkew
theorem dX6_skew_0 : decode cX6_skew 0 = .ok (.aload_n 0, 1) := by decide +kernel
theorem dX6_skew_1 : decode cX6_skew 1 = .ok (.getfield 33, 3) := by decide +kernel
theorem dX6_skew_4 : decode cX6_skew 4 = .ok (.iload_n 1, 1) := by decide +kernel
theorem dX6_skew_5 : decode cX6_skew 5 = .ok (.invokevirtual 137, 3) := by decide +kernel
theorem dX6_skew_8 : decode cX6_skew 8 = .ok (.ireturn, 1) := by decide +kernel
theorem dX6_copper_0 : decode cX6_copper 0 = .ok (.aload_n 0, 1) := by decide +kernel
theorem dX6_copper_1 : decode cX6_copper 1 = .ok (.iload_n 1, 1) := by decide +kernel
theorem dX6_copper_2 : decode cX6_copper 2 = .ok (.invokevirtual 89, 3) := by decide +kernel
theorem dX6_copper_5 : decode cX6_copper 5 = .ok (.lload 4, 2) := by decide +kernel
theorem dX6_copper_7 : decode cX6_copper 7 = .ok (.lconst 1, 1) := by decide +kernel
theorem dX6_copper_8 : decode cX6_copper 8 = .ok (.lcmp, 1) := by decide +kernel
theorem dX6_copper_9 : decode cX6_copper 9 = .ok (.ifCond .lt 25, 3) := by decide +kernel
theorem dX6_copper_12 : decode cX6_copper 12 = .ok (.lload 4, 2) := by decide +kernel
theorem dX6_copper_14 : decode cX6_copper 14 = .ok (.ldc2_w 140, 3) := by decide +kernel
theorem dX6_copper_17 : decode cX6_copper 17 = .ok (.lcmp, 1) := by decide +kernel
theorem dX6_copper_18 : decode cX6_copper 18 = .ok (.ifCond .gt 16, 3) := by decide +kernel
theorem dX6_copper_21 : decode cX6_copper 21 = .ok (.lload_n 2, 1) := by decide +kernel
theorem dX6_copper_22 : decode cX6_copper 22 = .ok (.lconst 0, 1) := by decide +kernel
theorem dX6_copper_23 : decode cX6_copper 23 = .ok (.lcmp, 1) := by decide +kernel
theorem dX6_copper_24 : decode cX6_copper 24 = .ok (.ifCond .lt 10, 3) := by decide +kernel
theorem dX6_copper_27 : decode cX6_copper 27 = .ok (.lload_n 2, 1) := by decide +kernel
theorem dX6_copper_28 : decode cX6_copper 28 = .ok (.lload 4, 2) := by decide +kernel
theorem dX6_copper_30 : decode cX6_copper 30 = .ok (.lcmp, 1) := by decide +kernel
theorem dX6_copper_31 : decode cX6_copper 31 = .ok (.ifCond .le 13, 3) := by decide +kernel
theorem dX6_copper_34 : decode cX6_copper 34 = .ok (.new 142, 3) := by decide +kernel
theorem dX6_copper_37 : decode cX6_copper 37 = .ok (.dup, 1) := by decide +kernel
theorem dX6_copper_38 : decode cX6_copper 38 = .ok (.ldc 144, 2) := by decide +kernel
theorem dX6_copper_40 : decode cX6_copper 40 = .ok (.invokespecial 146, 3) := by decide +kernel
theorem dX6_copper_43 : decode cX6_copper 43 = .ok (.athrow, 1) := by decide +kernel
theorem dX6_copper_44 : decode cX6_copper 44 = .ok (.aload_n 0, 1) := by decide +kernel
theorem dX6_copper_45 : decode cX6_copper 45 = .ok (.getfield 33, 3) := by decide +kernel
theorem dX6_copper_48 : decode cX6_copper 48 = .ok (.iload_n 1, 1) := by decide +kernel
theorem dX6_copper_49 : decode cX6_copper 49 = .ok (.lload_n 2, 1) := by decide +kernel
theorem dX6_copper_50 : decode cX6_copper 50 = .ok (.ldc2_w 83, 3) := by decide +kernel
theorem dX6_copper_53 : decode cX6_copper 53 = .ok (.lmul, 1) := by decide +kernel
theorem dX6_copper_54 : decode cX6_copper 54 = .ok (.lload 4, 2) := by decide +kernel
theorem dX6_copper_56 : decode cX6_copper 56 = .ok (.ldiv, 1) := by decide +kernel
theorem dX6_copper_57 : decode cX6_copper 57 = .ok (.l2i, 1) := by decide +kernel
theorem dX6_copper_58 : decode cX6_copper 58 = .ok (.invokevirtual 147, 3) := by decide +kernel
theorem dX6_copper_61 : decode cX6_copper 61 = .ok (.ireturn, 1) := by decide +kernel
theorem dX6_list_0 : decode cX6_list 0 = .ok (.aload_n 0, 1) := by decide +kernel
theorem dX6_list_1 : decode cX6_list 1 = .ok (.invokevirtual 151, 3) := by decide +kernel
theorem dX6_list_4 : decode cX6_list 4 = .ok (.aload_n 0, 1) := by decide +kernel
theorem dX6_list_5 : decode cX6_list 5 = .ok (.getfield 26, 3) := by decide +kernel
theorem dX6_list_8 : decode cX6_list 8 = .ok (.invokevirtual 154, 3) := by decide +kernel
theorem dX6_list_11 : decode cX6_list 11 = .ok (.ireturn, 1) := by decide +kernel
theorem dX6_row_0 : decode cX6_row 0 = .ok (.aload_n 0, 1) := by decide +kernel
theorem dX6_row_1 : decode cX6_row 1 = .ok (.iload_n 1, 1) := by decide +kernel
theorem dX6_row_2 : decode cX6_row 2 = .ok (.invokevirtual 158, 3) := by decide +kernel
theorem dX6_row_5 : decode cX6_row 5 = .ok (.aload_n 0, 1) := by decide +kernel
theorem dX6_row_6 : decode cX6_row 6 = .ok (.iload_n 2, 1) := by decide +kernel
theorem dX6_row_7 : decode cX6_row 7 = .ok (.invokevirtual 60, 3) := by decide +kernel
theorem dX6_row_10 : decode cX6_row 10 = .ok (.lload_n 3, 1) := by decide +kernel
theorem dX6_row_11 : decode cX6_row 11 = .ok (.lconst 0, 1) := by decide +kernel
theorem dX6_row_12 : decode cX6_row 12 = .ok (.lcmp, 1) := by decide +kernel
theorem dX6_row_13 : decode cX6_row 13 = .ok (.ifCond .lt 10, 3) := by decide +kernel
theorem dX6_row_16 : decode cX6_row 16 = .ok (.lload_n 3, 1) := by decide +kernel
theorem dX6_row_17 : decode cX6_row 17 = .ok (.lload 5, 2) := by decide +kernel
theorem dX6_row_19 : decode cX6_row 19 = .ok (.lcmp, 1) := by decide +kernel
theorem dX6_row_20 : decode cX6_row 20 = .ok (.ifCond .le 13, 3) := by decide +kernel
theorem dX6_row_23 : decode cX6_row 23 = .ok (.new 142, 3) := by decide +kernel
theorem dX6_row_26 : decode cX6_row 26 = .ok (.dup, 1) := by decide +kernel
theorem dX6_row_27 : decode cX6_row 27 = .ok (.ldc 161, 2) := by decide +kernel
theorem dX6_row_29 : decode cX6_row 29 = .ok (.invokespecial 146, 3) := by decide +kernel
theorem dX6_row_32 : decode cX6_row 32 = .ok (.athrow, 1) := by decide +kernel
theorem dX6_row_33 : decode cX6_row 33 = .ok (.aload_n 0, 1) := by decide +kernel
theorem dX6_row_34 : decode cX6_row 34 = .ok (.getfield 33, 3) := by decide +kernel
theorem dX6_row_37 : decode cX6_row 37 = .ok (.getfield 68, 3) := by decide +kernel
theorem dX6_row_40 : decode cX6_row 40 = .ok (.iload_n 2, 1) := by decide +kernel
theorem dX6_row_41 : decode cX6_row 41 = .ok (.iaload, 1) := by decide +kernel
theorem dX6_row_42 : decode cX6_row 42 = .ok (.iconst 4, 1) := by decide +kernel
theorem dX6_row_43 : decode cX6_row 43 = .ok (.if_icmp .eq 22, 3) := by decide +kernel
theorem dX6_row_46 : decode cX6_row 46 = .ok (.aload_n 0, 1) := by decide +kernel
theorem dX6_row_47 : decode cX6_row 47 = .ok (.getfield 26, 3) := by decide +kernel
theorem dX6_row_50 : decode cX6_row 50 = .ok (.iload_n 1, 1) := by decide +kernel
theorem dX6_row_51 : decode cX6_row 51 = .ok (.iload_n 2, 1) := by decide +kernel
theorem dX6_row_52 : decode cX6_row 52 = .ok (.lload_n 3, 1) := by decide +kernel
theorem dX6_row_53 : decode cX6_row 53 = .ok (.lload 5, 2) := by decide +kernel
theorem dX6_row_55 : decode cX6_row 55 = .ok (.invokevirtual 163, 3) := by decide +kernel
theorem dX6_row_58 : decode cX6_row 58 = .ok (.ifCond .eq 7, 3) := by decide +kernel
theorem dX6_row_61 : decode cX6_row 61 = .ok (.iconst 1, 1) := by decide +kernel
theorem dX6_row_62 : decode cX6_row 62 = .ok (.goto 4, 3) := by decide +kernel
theorem dX6_row_65 : decode cX6_row 65 = .ok (.iconst 0, 1) := by decide +kernel
theorem dX6_row_66 : decode cX6_row 66 = .ok (.ireturn, 1) := by decide +kernel
set_option maxRecDepth 20000 in
theorem ggX6_match_X1_findLeastChanged : GoodIn wsX6_match wsX1_findLeastChanged := goodIn_r _ [7, 8, 9, 10, 11, 6, 12, 13, 14, 15, 16, 17, 18, 19, 20, 21, 22, 28, 29, 30, 31, 32, 33, 34, 35, 36, 37, 38, 39, 40, 41, 42] (by decide +kernel) (by decide +kernel)
set_option maxRecDepth 20000 in
theorem gX6_match_X1_findLeastChanged : GoodIn wsX6_match (wsV RX6 167 RX1 yX1_findLeastChanged wsX1_findLeastChanged) := goodIn_app (goodIn_of _ (by decide +kernel)) ggX6_match_X1_findLeastChanged
theorem dX6_match_0 : decode cX6_match 0 = .ok (.aload_n 0, 1) := by decide +kernel
theorem dX6_match_1 : decode cX6_match 1 = .ok (.getfield 26, 3) := by decide +kernel
theorem dX6_match_4 : decode cX6_match 4 = .ok (.aload_n 0, 1) := by decide +kernel
theorem dX6_match_5 : decode cX6_match 5 = .ok (.getfield 33, 3) := by decide +kernel
theorem dX6_match_8 : decode cX6_match 8 = .ok (.invokevirtual 167, 3) := by decide +kernel
theorem dX6_match_11 : decode cX6_match 11 = .ok (.ireturn, 1) := by decide +kernel
theorem dX6_changes_0 : decode cX6_changes 0 = .ok (.aload_n 0, 1) := by decide +kernel
theorem dX6_changes_1 : decode cX6_changes 1 = .ok (.iload_n 1, 1) := by decide +kernel
theorem dX6_changes_2 : decode cX6_changes 2 = .ok (.invokevirtual 158, 3) := by decide +kernel
theorem dX6_changes_5 : decode cX6_changes 5 = .ok (.aload_n 0, 1) := by decide +kernel
theorem dX6_changes_6 : decode cX6_changes 6 = .ok (.getfield 26, 3) := by decide +kernel
theorem dX6_changes_9 : decode cX6_changes 9 = .ok (.iload_n 1, 1) := by decide +kernel
theorem dX6_changes_10 : decode cX6_changes 10 = .ok (.aload_n 0, 1) := by decide +kernel
theorem dX6_changes_11 : decode cX6_changes 11 = .ok (.getfield 33, 3) := by decide +kernel
theorem dX6_changes_14 : decode cX6_changes 14 = .ok (.invokevirtual 170, 3) := by decide +kernel
theorem dX6_changes_17 : decode cX6_changes 17 = .ok (.ireturn, 1) := by decide +kernel
theorem dX6_role_0 : decode cX6_role 0 = .ok (.aload_n 0, 1) := by decide +kernel
theorem dX6_role_1 : decode cX6_role 1 = .ok (.iload_n 1, 1) := by decide +kernel
theorem dX6_role_2 : decode cX6_role 2 = .ok (.invokevirtual 60, 3) := by decide +kernel
theorem dX6_role_5 : decode cX6_role 5 = .ok (.aload_n 0, 1) := by decide +kernel
theorem dX6_role_6 : decode cX6_role 6 = .ok (.getfield 33, 3) := by decide +kernel
theorem dX6_role_9 : decode cX6_role 9 = .ok (.getfield 174, 3) := by decide +kernel
theorem dX6_role_12 : decode cX6_role 12 = .ok (.iload_n 1, 1) := by decide +kernel
theorem dX6_role_13 : decode cX6_role 13 = .ok (.iaload, 1) := by decide +kernel
theorem dX6_role_14 : decode cX6_role 14 = .ok (.ireturn, 1) := by decide +kernel
theorem dX6_sum_0 : decode cX6_sum 0 = .ok (.iload_n 1, 1) := by decide +kernel
theorem dX6_sum_1 : decode cX6_sum 1 = .ok (.iload_n 2, 1) := by decide +kernel
theorem dX6_sum_2 : decode cX6_sum 2 = .ok (.invokestatic 64, 3) := by decide +kernel
theorem dX6_sum_5 : decode cX6_sum 5 = .ok (.aload_n 0, 1) := by decide +kernel
theorem dX6_sum_6 : decode cX6_sum 6 = .ok (.getfield 33, 3) := by decide +kernel
theorem dX6_sum_9 : decode cX6_sum 9 = .ok (.iload_n 1, 1) := by decide +kernel
theorem dX6_sum_10 : decode cX6_sum 10 = .ok (.invokevirtual 177, 3) := by decide +kernel
theorem dX6_sum_13 : decode cX6_sum 13 = .ok (.ldc2_w 181, 3) := by decide +kernel
theorem dX6_sum_16 : decode cX6_sum 16 = .ok (.iload_n 2, 1) := by decide +kernel
theorem dX6_sum_17 : decode cX6_sum 17 = .ok (.invokestatic 85, 3) := by decide +kernel
theorem dX6_sum_20 : decode cX6_sum 20 = .ok (.lreturn, 1) := by decide +kernel
theorem dX6_write_0 : decode cX6_write 0 = .ok (.iload_n 1, 1) := by decide +kernel
theorem dX6_write_1 : decode cX6_write 1 = .ok (.ifCond .ge 13, 3) := by decide +kernel
theorem dX6_write_4 : decode cX6_write 4 = .ok (.new 122, 3) := by decide +kernel
theorem dX6_write_7 : decode cX6_write 7 = .ok (.dup, 1) := by decide +kernel
theorem dX6_write_8 : decode cX6_write 8 = .ok (.ldc 183, 2) := by decide +kernel
theorem dX6_write_10 : decode cX6_write 10 = .ok (.invokespecial 126, 3) := by decide +kernel
theorem dX6_write_13 : decode cX6_write 13 = .ok (.athrow, 1) := by decide +kernel
theorem dX6_write_14 : decode cX6_write 14 = .ok (.aload_n 0, 1) := by decide +kernel
theorem dX6_write_15 : decode cX6_write 15 = .ok (.invokevirtual 151, 3) := by decide +kernel
theorem dX6_write_18 : decode cX6_write 18 = .ok (.aload_n 0, 1) := by decide +kernel
theorem dX6_write_19 : decode cX6_write 19 = .ok (.getfield 19, 3) := by decide +kernel
theorem dX6_write_22 : decode cX6_write 22 = .ok (.iload_n 1, 1) := by decide +kernel
theorem dX6_write_23 : decode cX6_write 23 = .ok (.invokevirtual 185, 3) := by decide +kernel
theorem dX6_write_26 : decode cX6_write 26 = .ok (.ireturn, 1) := by decide +kernel
theorem dX6_requireStack_0 : decode cX6_requireStack 0 = .ok (.aload_n 0, 1) := by decide +kernel
theorem dX6_requireStack_1 : decode cX6_requireStack 1 = .ok (.getfield 33, 3) := by decide +kernel
theorem dX6_requireStack_4 : decode cX6_requireStack 4 = .ok (.getfield 56, 3) := by decide +kernel
theorem dX6_requireStack_7 : decode cX6_requireStack 7 = .ok (.ifCond .ne 13, 3) := by decide +kernel
theorem dX6_requireStack_10 : decode cX6_requireStack 10 = .ok (.new 72, 3) := by decide +kernel
theorem dX6_requireStack_13 : decode cX6_requireStack 13 = .ok (.dup, 1) := by decide +kernel
theorem dX6_requireStack_14 : decode cX6_requireStack 14 = .ok (.ldc 188, 2) := by decide +kernel
theorem dX6_requireStack_16 : decode cX6_requireStack 16 = .ok (.invokespecial 76, 3) := by decide +kernel
theorem dX6_requireStack_19 : decode cX6_requireStack 19 = .ok (.athrow, 1) := by decide +kernel
theorem dX6_requireStack_20 : decode cX6_requireStack 20 = .ok (.return_, 1) := by decide +kernel
theorem dX6_requireLayer_0 : decode cX6_requireLayer 0 = .ok (.iload_n 1, 1) := by decide +kernel
theorem dX6_requireLayer_1 : decode cX6_requireLayer 1 = .ok (.ifCond .lt 14, 3) := by decide +kernel
theorem dX6_requireLayer_4 : decode cX6_requireLayer 4 = .ok (.iload_n 1, 1) := by decide +kernel
theorem dX6_requireLayer_5 : decode cX6_requireLayer 5 = .ok (.aload_n 0, 1) := by decide +kernel
theorem dX6_requireLayer_6 : decode cX6_requireLayer 6 = .ok (.getfield 33, 3) := by decide +kernel
theorem dX6_requireLayer_9 : decode cX6_requireLayer 9 = .ok (.getfield 56, 3) := by decide +kernel
theorem dX6_requireLayer_12 : decode cX6_requireLayer 12 = .ok (.if_icmp .lt 13, 3) := by decide +kernel
theorem dX6_requireLayer_15 : decode cX6_requireLayer 15 = .ok (.new 122, 3) := by decide +kernel
theorem dX6_requireLayer_18 : decode cX6_requireLayer 18 = .ok (.dup, 1) := by decide +kernel
theorem dX6_requireLayer_19 : decode cX6_requireLayer 19 = .ok (.ldc 190, 2) := by decide +kernel
theorem dX6_requireLayer_21 : decode cX6_requireLayer 21 = .ok (.invokespecial 126, 3) := by decide +kernel
theorem dX6_requireLayer_24 : decode cX6_requireLayer 24 = .ok (.athrow, 1) := by decide +kernel
theorem dX6_requireLayer_25 : decode cX6_requireLayer 25 = .ok (.return_, 1) := by decide +kernel
theorem dX6_requireCopper_0 : decode cX6_requireCopper 0 = .ok (.iload_n 1, 1) := by decide +kernel
theorem dX6_requireCopper_1 : decode cX6_requireCopper 1 = .ok (.ifCond .lt 14, 3) := by decide +kernel
theorem dX6_requireCopper_4 : decode cX6_requireCopper 4 = .ok (.iload_n 1, 1) := by decide +kernel
theorem dX6_requireCopper_5 : decode cX6_requireCopper 5 = .ok (.aload_n 0, 1) := by decide +kernel
theorem dX6_requireCopper_6 : decode cX6_requireCopper 6 = .ok (.getfield 33, 3) := by decide +kernel
theorem dX6_requireCopper_9 : decode cX6_requireCopper 9 = .ok (.getfield 192, 3) := by decide +kernel
theorem dX6_requireCopper_12 : decode cX6_requireCopper 12 = .ok (.if_icmp .lt 13, 3) := by decide +kernel
theorem dX6_requireCopper_15 : decode cX6_requireCopper 15 = .ok (.new 122, 3) := by decide +kernel
theorem dX6_requireCopper_18 : decode cX6_requireCopper 18 = .ok (.dup, 1) := by decide +kernel
theorem dX6_requireCopper_19 : decode cX6_requireCopper 19 = .ok (.ldc 195, 2) := by decide +kernel
theorem dX6_requireCopper_21 : decode cX6_requireCopper 21 = .ok (.invokespecial 126, 3) := by decide +kernel
theorem dX6_requireCopper_24 : decode cX6_requireCopper 24 = .ok (.athrow, 1) := by decide +kernel
theorem dX6_requireCopper_25 : decode cX6_requireCopper 25 = .ok (.return_, 1) := by decide +kernel
theorem dX6_requireList_0 : decode cX6_requireList 0 = .ok (.iload_n 1, 1) := by decide +kernel
theorem dX6_requireList_1 : decode cX6_requireList 1 = .ok (.ifCond .lt 14, 3) := by decide +kernel
theorem dX6_requireList_4 : decode cX6_requireList 4 = .ok (.iload_n 1, 1) := by decide +kernel
theorem dX6_requireList_5 : decode cX6_requireList 5 = .ok (.aload_n 0, 1) := by decide +kernel
theorem dX6_requireList_6 : decode cX6_requireList 6 = .ok (.getfield 26, 3) := by decide +kernel
theorem dX6_requireList_9 : decode cX6_requireList 9 = .ok (.getfield 197, 3) := by decide +kernel
theorem dX6_requireList_12 : decode cX6_requireList 12 = .ok (.if_icmp .lt 13, 3) := by decide +kernel
theorem dX6_requireList_15 : decode cX6_requireList 15 = .ok (.new 122, 3) := by decide +kernel
theorem dX6_requireList_18 : decode cX6_requireList 18 = .ok (.dup, 1) := by decide +kernel
theorem dX6_requireList_19 : decode cX6_requireList 19 = .ok (.ldc 198, 2) := by decide +kernel
theorem dX6_requireList_21 : decode cX6_requireList 21 = .ok (.invokespecial 126, 3) := by decide +kernel
theorem dX6_requireList_24 : decode cX6_requireList 24 = .ok (.athrow, 1) := by decide +kernel
theorem dX6_requireList_25 : decode cX6_requireList 25 = .ok (.return_, 1) := by decide +kernel
theorem dX6_requireEndAndPart_0 : decode cX6_requireEndAndPart 0 = .ok (.iload_n 0, 1) := by decide +kernel
theorem dX6_requireEndAndPart_1 : decode cX6_requireEndAndPart 1 = .ok (.ifCond .lt 17, 3) := by decide +kernel
theorem dX6_requireEndAndPart_4 : decode cX6_requireEndAndPart 4 = .ok (.iload_n 0, 1) := by decide +kernel
theorem dX6_requireEndAndPart_5 : decode cX6_requireEndAndPart 5 = .ok (.iconst 1, 1) := by decide +kernel
theorem dX6_requireEndAndPart_6 : decode cX6_requireEndAndPart 6 = .ok (.if_icmp .gt 12, 3) := by decide +kernel
theorem dX6_requireEndAndPart_9 : decode cX6_requireEndAndPart 9 = .ok (.iload_n 1, 1) := by decide +kernel
theorem dX6_requireEndAndPart_10 : decode cX6_requireEndAndPart 10 = .ok (.ifCond .lt 8, 3) := by decide +kernel
theorem dX6_requireEndAndPart_13 : decode cX6_requireEndAndPart 13 = .ok (.iload_n 1, 1) := by decide +kernel
theorem dX6_requireEndAndPart_14 : decode cX6_requireEndAndPart 14 = .ok (.iconst 1, 1) := by decide +kernel
theorem dX6_requireEndAndPart_15 : decode cX6_requireEndAndPart 15 = .ok (.if_icmp .le 13, 3) := by decide +kernel
theorem dX6_requireEndAndPart_18 : decode cX6_requireEndAndPart 18 = .ok (.new 122, 3) := by decide +kernel
theorem dX6_requireEndAndPart_21 : decode cX6_requireEndAndPart 21 = .ok (.dup, 1) := by decide +kernel
theorem dX6_requireEndAndPart_22 : decode cX6_requireEndAndPart 22 = .ok (.ldc 200, 2) := by decide +kernel
theorem dX6_requireEndAndPart_24 : decode cX6_requireEndAndPart 24 = .ok (.invokespecial 126, 3) := by decide +kernel
theorem dX6_requireEndAndPart_27 : decode cX6_requireEndAndPart 27 = .ok (.athrow, 1) := by decide +kernel
theorem dX6_requireEndAndPart_28 : decode cX6_requireEndAndPart 28 = .ok (.return_, 1) := by decide +kernel
set_option maxRecDepth 20000 in
theorem ggX6_partOfFraction_X6_commonDivisor : GoodIn wsX6_partOfFraction wsX6_commonDivisor := goodIn_r _ [4] (by decide +kernel) (by decide +kernel)
set_option maxRecDepth 20000 in
theorem gX6_partOfFraction_X6_commonDivisor : GoodIn wsX6_partOfFraction (va_wsS RX6 202 yX6_commonDivisor wsX6_commonDivisor) := goodIn_app (goodIn_of _ (by decide +kernel)) ggX6_partOfFraction_X6_commonDivisor
theorem dX6_partOfFraction_0 : decode cX6_partOfFraction 0 = .ok (.iload 4, 2) := by decide +kernel
theorem dX6_partOfFraction_2 : decode cX6_partOfFraction 2 = .ok (.ifCond .ne 7, 3) := by decide +kernel
theorem dX6_partOfFraction_5 : decode cX6_partOfFraction 5 = .ok (.lload_n 0, 1) := by decide +kernel
theorem dX6_partOfFraction_6 : decode cX6_partOfFraction 6 = .ok (.goto 4, 3) := by decide +kernel
theorem dX6_partOfFraction_9 : decode cX6_partOfFraction 9 = .ok (.lload_n 2, 1) := by decide +kernel
theorem dX6_partOfFraction_10 : decode cX6_partOfFraction 10 = .ok (.lstore 5, 2) := by decide +kernel
theorem dX6_partOfFraction_12 : decode cX6_partOfFraction 12 = .ok (.lload_n 0, 1) := by decide +kernel
theorem dX6_partOfFraction_13 : decode cX6_partOfFraction 13 = .ok (.lload_n 2, 1) := by decide +kernel
theorem dX6_partOfFraction_14 : decode cX6_partOfFraction 14 = .ok (.invokestatic 202, 3) := by decide +kernel
theorem dX6_partOfFraction_17 : decode cX6_partOfFraction 17 = .ok (.lstore 7, 2) := by decide +kernel
theorem dX6_partOfFraction_19 : decode cX6_partOfFraction 19 = .ok (.lload 7, 2) := by decide +kernel
theorem dX6_partOfFraction_21 : decode cX6_partOfFraction 21 = .ok (.lconst 1, 1) := by decide +kernel
theorem dX6_partOfFraction_22 : decode cX6_partOfFraction 22 = .ok (.lcmp, 1) := by decide +kernel
theorem dX6_partOfFraction_23 : decode cX6_partOfFraction 23 = .ok (.ifCond .le 11, 3) := by decide +kernel
theorem dX6_partOfFraction_26 : decode cX6_partOfFraction 26 = .ok (.lload 5, 2) := by decide +kernel
theorem dX6_partOfFraction_28 : decode cX6_partOfFraction 28 = .ok (.lload 7, 2) := by decide +kernel
theorem dX6_partOfFraction_30 : decode cX6_partOfFraction 30 = .ok (.ldiv, 1) := by decide +kernel
theorem dX6_partOfFraction_31 : decode cX6_partOfFraction 31 = .ok (.goto 5, 3) := by decide +kernel
theorem dX6_partOfFraction_34 : decode cX6_partOfFraction 34 = .ok (.lload 5, 2) := by decide +kernel
theorem dX6_partOfFraction_36 : decode cX6_partOfFraction 36 = .ok (.lreturn, 1) := by decide +kernel
theorem dX6_commonDivisor_0 : decode cX6_commonDivisor 0 = .ok (.lload_n 0, 1) := by decide +kernel
theorem dX6_commonDivisor_1 : decode cX6_commonDivisor 1 = .ok (.lstore 4, 2) := by decide +kernel
theorem dX6_commonDivisor_3 : decode cX6_commonDivisor 3 = .ok (.lload_n 2, 1) := by decide +kernel
theorem dX6_commonDivisor_4 : decode cX6_commonDivisor 4 = .ok (.lstore 6, 2) := by decide +kernel
theorem dX6_commonDivisor_6 : decode cX6_commonDivisor 6 = .ok (.iconst 0, 1) := by decide +kernel
theorem dX6_commonDivisor_7 : decode cX6_commonDivisor 7 = .ok (.istore 8, 2) := by decide +kernel
theorem dX6_commonDivisor_9 : decode cX6_commonDivisor 9 = .ok (.iload 8, 2) := by decide +kernel
theorem dX6_commonDivisor_11 : decode cX6_commonDivisor 11 = .ok (.bipush 100, 2) := by decide +kernel
theorem dX6_commonDivisor_13 : decode cX6_commonDivisor 13 = .ok (.if_icmp .ge 31, 3) := by decide +kernel
theorem dX6_commonDivisor_16 : decode cX6_commonDivisor 16 = .ok (.lload 6, 2) := by decide +kernel
theorem dX6_commonDivisor_18 : decode cX6_commonDivisor 18 = .ok (.lconst 0, 1) := by decide +kernel
theorem dX6_commonDivisor_19 : decode cX6_commonDivisor 19 = .ok (.lcmp, 1) := by decide +kernel
theorem dX6_commonDivisor_20 : decode cX6_commonDivisor 20 = .ok (.ifCond .eq 24, 3) := by decide +kernel
theorem dX6_commonDivisor_23 : decode cX6_commonDivisor 23 = .ok (.lload 4, 2) := by decide +kernel
theorem dX6_commonDivisor_25 : decode cX6_commonDivisor 25 = .ok (.lload 6, 2) := by decide +kernel
theorem dX6_commonDivisor_27 : decode cX6_commonDivisor 27 = .ok (.lrem, 1) := by decide +kernel
theorem dX6_commonDivisor_28 : decode cX6_commonDivisor 28 = .ok (.lstore 9, 2) := by decide +kernel
theorem dX6_commonDivisor_30 : decode cX6_commonDivisor 30 = .ok (.lload 6, 2) := by decide +kernel
theorem dX6_commonDivisor_32 : decode cX6_commonDivisor 32 = .ok (.lstore 4, 2) := by decide +kernel
theorem dX6_commonDivisor_34 : decode cX6_commonDivisor 34 = .ok (.lload 9, 2) := by decide +kernel
theorem dX6_commonDivisor_36 : decode cX6_commonDivisor 36 = .ok (.lstore 6, 2) := by decide +kernel
theorem dX6_commonDivisor_38 : decode cX6_commonDivisor 38 = .ok (.iinc 8 1, 3) := by decide +kernel
theorem dX6_commonDivisor_41 : decode cX6_commonDivisor 41 = .ok (.goto (-32), 3) := by decide +kernel
theorem dX6_commonDivisor_44 : decode cX6_commonDivisor 44 = .ok (.lload 4, 2) := by decide +kernel
theorem dX6_commonDivisor_46 : decode cX6_commonDivisor 46 = .ok (.lreturn, 1) := by decide +kernel
theorem dX6_spellingOf_0 : decode cX6_spellingOf 0 = .ok (.iload_n 0, 1) := by decide +kernel
theorem dX6_spellingOf_1 : decode cX6_spellingOf 1 = .ok (.tableswitch 57 0 5 #[39, 42, 45, 48, 51, 54], 39) := by decide +kernel
theorem dX6_spellingOf_40 : decode cX6_spellingOf 40 = .ok (.ldc 206, 2) := by decide +kernel
theorem dX6_spellingOf_42 : decode cX6_spellingOf 42 = .ok (.areturn, 1) := by decide +kernel
theorem dX6_spellingOf_43 : decode cX6_spellingOf 43 = .ok (.ldc 208, 2) := by decide +kernel
theorem dX6_spellingOf_45 : decode cX6_spellingOf 45 = .ok (.areturn, 1) := by decide +kernel
theorem dX6_spellingOf_46 : decode cX6_spellingOf 46 = .ok (.ldc 210, 2) := by decide +kernel
theorem dX6_spellingOf_48 : decode cX6_spellingOf 48 = .ok (.areturn, 1) := by decide +kernel
theorem dX6_spellingOf_49 : decode cX6_spellingOf 49 = .ok (.ldc 212, 2) := by decide +kernel
theorem dX6_spellingOf_51 : decode cX6_spellingOf 51 = .ok (.areturn, 1) := by decide +kernel
theorem dX6_spellingOf_52 : decode cX6_spellingOf 52 = .ok (.ldc 214, 2) := by decide +kernel
theorem dX6_spellingOf_54 : decode cX6_spellingOf 54 = .ok (.areturn, 1) := by decide +kernel
theorem dX6_spellingOf_55 : decode cX6_spellingOf 55 = .ok (.ldc 216, 2) := by decide +kernel
theorem dX6_spellingOf_57 : decode cX6_spellingOf 57 = .ok (.areturn, 1) := by decide +kernel
theorem dX6_spellingOf_58 : decode cX6_spellingOf 58 = .ok (.ldc 218, 2) := by decide +kernel
theorem dX6_spellingOf_60 : decode cX6_spellingOf 60 = .ok (.areturn, 1) := by decide +kernel
