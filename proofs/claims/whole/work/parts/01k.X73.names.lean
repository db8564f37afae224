theorem dX7_layerLine_163 : decode cX7_layerLine 163 = .ok (.ifCond .eq 17, 3) := by decide +kernel
theorem dX7_layerLine_166 : decode cX7_layerLine 166 = .ok (.lload 7, 2) := by decide +kernel
theorem dX7_layerLine_168 : decode cX7_layerLine 168 = .ok (.ldc2_w 157, 3) := by decide +kernel
theorem dX7_layerLine_171 : decode cX7_layerLine 171 = .ok (.lcmp, 1) := by decide +kernel
theorem dX7_layerLine_172 : decode cX7_layerLine 172 = .ok (.ifCond .le 8, 3) := by decide +kernel
theorem dX7_layerLine_175 : decode cX7_layerLine 175 = .ok (.aload_n 0, 1) := by decide +kernel
theorem dX7_layerLine_176 : decode cX7_layerLine 176 = .ok (.iload_n 3, 1) := by decide +kernel
theorem dX7_layerLine_177 : decode cX7_layerLine 177 = .ok (.invokevirtual 93, 3) := by decide +kernel
theorem dX7_layerLine_180 : decode cX7_layerLine 180 = .ok (.aload_n 0, 1) := by decide +kernel
theorem dX7_layerLine_181 : decode cX7_layerLine 181 = .ok (.invokevirtual 85, 3) := by decide +kernel
theorem dX7_layerLine_184 : decode cX7_layerLine 184 = .ok (.ifCond .eq 22, 3) := by decide +kernel
theorem dX7_layerLine_187 : decode cX7_layerLine 187 = .ok (.aload_n 0, 1) := by decide +kernel
theorem dX7_layerLine_188 : decode cX7_layerLine 188 = .ok (.getfield 26, 3) := by decide +kernel
theorem dX7_layerLine_191 : decode cX7_layerLine 191 = .ok (.iload 4, 2) := by decide +kernel
theorem dX7_layerLine_193 : decode cX7_layerLine 193 = .ok (.lload 5, 2) := by decide +kernel
theorem dX7_layerLine_195 : decode cX7_layerLine 195 = .ok (.lastore, 1) := by decide +kernel
theorem dX7_layerLine_196 : decode cX7_layerLine 196 = .ok (.aload_n 0, 1) := by decide +kernel
theorem dX7_layerLine_197 : decode cX7_layerLine 197 = .ok (.getfield 29, 3) := by decide +kernel
theorem dX7_layerLine_200 : decode cX7_layerLine 200 = .ok (.iload 4, 2) := by decide +kernel
theorem dX7_layerLine_202 : decode cX7_layerLine 202 = .ok (.lload 7, 2) := by decide +kernel
theorem dX7_layerLine_204 : decode cX7_layerLine 204 = .ok (.l2i, 1) := by decide +kernel
theorem dX7_layerLine_205 : decode cX7_layerLine 205 = .ok (.iastore, 1) := by decide +kernel
theorem dX7_layerLine_206 : decode cX7_layerLine 206 = .ok (.aload_n 0, 1) := by decide +kernel
theorem dX7_layerLine_207 : decode cX7_layerLine 207 = .ok (.bipush 10, 2) := by decide +kernel
theorem dX7_layerLine_209 : decode cX7_layerLine 209 = .ok (.invokevirtual 144, 3) := by decide +kernel
theorem dX7_layerLine_212 : decode cX7_layerLine 212 = .ok (.aload_n 0, 1) := by decide +kernel
theorem dX7_layerLine_213 : decode cX7_layerLine 213 = .ok (.invokevirtual 85, 3) := by decide +kernel
theorem dX7_layerLine_216 : decode cX7_layerLine 216 = .ok (.ifCond .ne 4, 3) := by decide +kernel
theorem dX7_layerLine_219 : decode cX7_layerLine 219 = .ok (.return_, 1) := by decide +kernel
theorem dX7_layerLine_220 : decode cX7_layerLine 220 = .ok (.iload_n 1, 1) := by decide +kernel
theorem dX7_layerLine_221 : decode cX7_layerLine 221 = .ok (.ifCond .ne 47, 3) := by decide +kernel
theorem dX7_layerLine_224 : decode cX7_layerLine 224 = .ok (.aload_n 0, 1) := by decide +kernel
theorem dX7_layerLine_225 : decode cX7_layerLine 225 = .ok (.getfield 35, 3) := by decide +kernel
theorem dX7_layerLine_228 : decode cX7_layerLine 228 = .ok (.bipush 32, 2) := by decide +kernel
theorem dX7_layerLine_230 : decode cX7_layerLine 230 = .ok (.aload_n 0, 1) := by decide +kernel
theorem dX7_layerLine_231 : decode cX7_layerLine 231 = .ok (.getfield 134, 3) := by decide +kernel
theorem dX7_layerLine_234 : decode cX7_layerLine 234 = .ok (.imul, 1) := by decide +kernel
theorem dX7_layerLine_235 : decode cX7_layerLine 235 = .ok (.aload_n 0, 1) := by decide +kernel
theorem dX7_layerLine_236 : decode cX7_layerLine 236 = .ok (.getfield 32, 3) := by decide +kernel
theorem dX7_layerLine_239 : decode cX7_layerLine 239 = .ok (.aload_n 0, 1) := by decide +kernel
theorem dX7_layerLine_240 : decode cX7_layerLine 240 = .ok (.getfield 134, 3) := by decide +kernel
theorem dX7_layerLine_243 : decode cX7_layerLine 243 = .ok (.iaload, 1) := by decide +kernel
theorem dX7_layerLine_244 : decode cX7_layerLine 244 = .ok (.iadd, 1) := by decide +kernel
theorem dX7_layerLine_245 : decode cX7_layerLine 245 = .ok (.aload_n 0, 1) := by decide +kernel
theorem dX7_layerLine_246 : decode cX7_layerLine 246 = .ok (.getfield 13, 3) := by decide +kernel
theorem dX7_layerLine_249 : decode cX7_layerLine 249 = .ok (.aload_n 0, 1) := by decide +kernel
theorem dX7_layerLine_250 : decode cX7_layerLine 250 = .ok (.getfield 134, 3) := by decide +kernel
theorem dX7_layerLine_253 : decode cX7_layerLine 253 = .ok (.iaload, 1) := by decide +kernel
theorem dX7_layerLine_254 : decode cX7_layerLine 254 = .ok (.iastore, 1) := by decide +kernel
theorem dX7_layerLine_255 : decode cX7_layerLine 255 = .ok (.aload_n 0, 1) := by decide +kernel
theorem dX7_layerLine_256 : decode cX7_layerLine 256 = .ok (.getfield 32, 3) := by decide +kernel
theorem dX7_layerLine_259 : decode cX7_layerLine 259 = .ok (.aload_n 0, 1) := by decide +kernel
theorem dX7_layerLine_260 : decode cX7_layerLine 260 = .ok (.getfield 134, 3) := by decide +kernel
theorem dX7_layerLine_263 : decode cX7_layerLine 263 = .ok (.dup2, 1) := by decide +kernel
theorem dX7_layerLine_264 : decode cX7_layerLine 264 = .ok (.iaload, 1) := by decide +kernel
theorem dX7_layerLine_265 : decode cX7_layerLine 265 = .ok (.iconst 1, 1) := by decide +kernel
theorem dX7_layerLine_266 : decode cX7_layerLine 266 = .ok (.iadd, 1) := by decide +kernel
theorem dX7_layerLine_267 : decode cX7_layerLine 267 = .ok (.iastore, 1) := by decide +kernel
theorem dX7_layerLine_268 : decode cX7_layerLine 268 = .ok (.aload_n 0, 1) := by decide +kernel
theorem dX7_layerLine_269 : decode cX7_layerLine 269 = .ok (.getfield 13, 3) := by decide +kernel
theorem dX7_layerLine_272 : decode cX7_layerLine 272 = .ok (.aload_n 0, 1) := by decide +kernel
theorem dX7_layerLine_273 : decode cX7_layerLine 273 = .ok (.getfield 134, 3) := by decide +kernel
theorem dX7_layerLine_276 : decode cX7_layerLine 276 = .ok (.dup2, 1) := by decide +kernel
theorem dX7_layerLine_277 : decode cX7_layerLine 277 = .ok (.iaload, 1) := by decide +kernel
theorem dX7_layerLine_278 : decode cX7_layerLine 278 = .ok (.iconst 1, 1) := by decide +kernel
theorem dX7_layerLine_279 : decode cX7_layerLine 279 = .ok (.iadd, 1) := by decide +kernel
theorem dX7_layerLine_280 : decode cX7_layerLine 280 = .ok (.iastore, 1) := by decide +kernel
theorem dX7_layerLine_281 : decode cX7_layerLine 281 = .ok (.return_, 1) := by decide +kernel
set_option maxRecDepth 20000 in
theorem ggX7_isWhole_X7_layerAt : GoodIn wsX7_isWhole wsX7_layerAt := goodIn_r _ [9, 2, 10, 11, 12, 13, 14, 15, 16, 17, 18, 19, 20, 21, 22, 23, 24, 25, 26, 27, 28, 29, 30, 31, 32, 33, 34, 35, 36, 37, 38, 39, 40, 41, 42] (by decide +kernel) (by decide +kernel)
set_option maxRecDepth 20000 in
theorem gX7_isWhole_X7_layerAt : GoodIn wsX7_isWhole (wsV RX7 137 RX7 yX7_layerAt wsX7_layerAt) := goodIn_app (goodIn_of _ (by decide +kernel)) ggX7_isWhole_X7_layerAt
theorem dX7_isWhole_0 : decode cX7_isWhole 0 = .ok (.aload_n 0, 1) := by decide +kernel
theorem dX7_isWhole_1 : decode cX7_isWhole 1 = .ok (.getfield 13, 3) := by decide +kernel
theorem dX7_isWhole_4 : decode cX7_isWhole 4 = .ok (.aload_n 0, 1) := by decide +kernel
theorem dX7_isWhole_5 : decode cX7_isWhole 5 = .ok (.getfield 134, 3) := by decide +kernel
theorem dX7_isWhole_8 : decode cX7_isWhole 8 = .ok (.iaload, 1) := by decide +kernel
theorem dX7_isWhole_9 : decode cX7_isWhole 9 = .ok (.ifCond .ne 7, 3) := by decide +kernel
theorem dX7_isWhole_12 : decode cX7_isWhole 12 = .ok (.iconst (-1), 1) := by decide +kernel
theorem dX7_isWhole_13 : decode cX7_isWhole 13 = .ok (.goto 23, 3) := by decide +kernel
theorem dX7_isWhole_16 : decode cX7_isWhole 16 = .ok (.aload_n 0, 1) := by decide +kernel
theorem dX7_isWhole_17 : decode cX7_isWhole 17 = .ok (.getfield 16, 3) := by decide +kernel
theorem dX7_isWhole_20 : decode cX7_isWhole 20 = .ok (.aload_n 0, 1) := by decide +kernel
theorem dX7_isWhole_21 : decode cX7_isWhole 21 = .ok (.aload_n 0, 1) := by decide +kernel
theorem dX7_isWhole_22 : decode cX7_isWhole 22 = .ok (.getfield 13, 3) := by decide +kernel
theorem dX7_isWhole_25 : decode cX7_isWhole 25 = .ok (.aload_n 0, 1) := by decide +kernel
theorem dX7_isWhole_26 : decode cX7_isWhole 26 = .ok (.getfield 134, 3) := by decide +kernel
theorem dX7_isWhole_29 : decode cX7_isWhole 29 = .ok (.iaload, 1) := by decide +kernel
theorem dX7_isWhole_30 : decode cX7_isWhole 30 = .ok (.iconst 1, 1) := by decide +kernel
theorem dX7_isWhole_31 : decode cX7_isWhole 31 = .ok (.isub, 1) := by decide +kernel
theorem dX7_isWhole_32 : decode cX7_isWhole 32 = .ok (.invokevirtual 137, 3) := by decide +kernel
theorem dX7_isWhole_35 : decode cX7_isWhole 35 = .ok (.iaload, 1) := by decide +kernel
theorem dX7_isWhole_36 : decode cX7_isWhole 36 = .ok (.istore_n 1, 1) := by decide +kernel
theorem dX7_isWhole_37 : decode cX7_isWhole 37 = .ok (.aload_n 0, 1) := by decide +kernel
theorem dX7_isWhole_38 : decode cX7_isWhole 38 = .ok (.getfield 32, 3) := by decide +kernel
theorem dX7_isWhole_41 : decode cX7_isWhole 41 = .ok (.aload_n 0, 1) := by decide +kernel
theorem dX7_isWhole_42 : decode cX7_isWhole 42 = .ok (.getfield 134, 3) := by decide +kernel
theorem dX7_isWhole_45 : decode cX7_isWhole 45 = .ok (.iaload, 1) := by decide +kernel
theorem dX7_isWhole_46 : decode cX7_isWhole 46 = .ok (.iconst 1, 1) := by decide +kernel
theorem dX7_isWhole_47 : decode cX7_isWhole 47 = .ok (.if_icmp .le 16, 3) := by decide +kernel
theorem dX7_isWhole_50 : decode cX7_isWhole 50 = .ok (.iload_n 1, 1) := by decide +kernel
theorem dX7_isWhole_51 : decode cX7_isWhole 51 = .ok (.ifCond .eq 8, 3) := by decide +kernel
theorem dX7_isWhole_54 : decode cX7_isWhole 54 = .ok (.iload_n 1, 1) := by decide +kernel
theorem dX7_isWhole_55 : decode cX7_isWhole 55 = .ok (.iconst 3, 1) := by decide +kernel
theorem dX7_isWhole_56 : decode cX7_isWhole 56 = .ok (.if_icmp .ne 7, 3) := by decide +kernel
theorem dX7_isWhole_59 : decode cX7_isWhole 59 = .ok (.iconst 1, 1) := by decide +kernel
theorem dX7_isWhole_60 : decode cX7_isWhole 60 = .ok (.goto 4, 3) := by decide +kernel
theorem dX7_isWhole_63 : decode cX7_isWhole 63 = .ok (.iconst 0, 1) := by decide +kernel
theorem dX7_isWhole_64 : decode cX7_isWhole 64 = .ok (.ireturn, 1) := by decide +kernel
set_option maxRecDepth 20000 in
theorem ggX7_twoNames_X7_expect : GoodIn wsX7_twoNames wsX7_expect := goodIn_r _ [7, 1, 8, 9, 10, 6, 11, 12, 13, 14, 15, 16, 17, 18, 19, 20, 21, 22, 45, 46, 47, 48, 49, 50, 51, 52, 53, 54, 55, 56, 57, 58, 59, 60, 61, 62, 63, 64, 65, 66, 67, 68, 69, 70, 71, 72, 73, 74, 75, 76, 77] (by decide +kernel) (by decide +kernel)
set_option maxRecDepth 20000 in
theorem gX7_twoNames_X7_expect : GoodIn wsX7_twoNames (wsV RX7 144 RX7 yX7_expect wsX7_expect) := goodIn_app (goodIn_of _ (by decide +kernel)) ggX7_twoNames_X7_expect
set_option maxRecDepth 20000 in
theorem ggX7_twoNames_X7_name : GoodIn wsX7_twoNames wsX7_name := goodIn_r _ [26, 27, 28, 1, 8, 9, 10, 6, 11, 12, 13, 14, 15, 16, 17, 18, 29, 30, 31, 19, 20, 21, 22, 45, 46, 47, 48, 49, 50, 51, 52, 53, 54, 55, 56, 57, 58, 59, 60, 61, 62, 63, 64, 65, 66, 67, 68, 69, 70, 71, 72, 73, 74, 75, 76, 77] (by decide +kernel) (by decide +kernel)
set_option maxRecDepth 20000 in
theorem gX7_twoNames_X7_name : GoodIn wsX7_twoNames (wsV RX7 147 RX7 yX7_name wsX7_name) := goodIn_app (goodIn_of _ (by decide +kernel)) ggX7_twoNames_X7_name
set_option maxRecDepth 20000 in
theorem ggX7_twoNames_X7_good : GoodIn wsX7_twoNames wsX7_good := goodIn_r _ [11, 12, 45, 46, 47, 48, 49, 50, 51, 52, 53, 54, 55, 56, 57, 58, 59, 60, 61, 62, 63, 64, 65, 66, 67, 68, 69, 70, 71, 72, 73, 74, 75, 76, 77] (by decide +kernel) (by decide +kernel)
set_option maxRecDepth 20000 in
theorem gX7_twoNames_X7_good : GoodIn wsX7_twoNames (wsV RX7 85 RX7 yX7_good wsX7_good) := goodIn_app (goodIn_of _ (by decide +kernel)) ggX7_twoNames_X7_good
set_option maxRecDepth 20000 in
theorem ggX7_twoNames_X7_copperNamed : GoodIn wsX7_twoNames wsX7_copperNamed := goodIn_r _ [35, 36, 37, 38, 39, 27, 40, 28, 41, 42, 43, 6, 44, 45, 46, 47, 48, 49, 50, 51, 52, 53, 54, 55, 56, 57, 58, 59, 60, 61, 62, 63, 64, 65, 66, 67, 68, 69, 70, 71, 72, 73, 74, 75, 76, 77] (by decide +kernel) (by decide +kernel)
set_option maxRecDepth 20000 in
theorem gX7_twoNames_X7_copperNamed : GoodIn wsX7_twoNames (wsV RX7 150 RX7 yX7_copperNamed wsX7_copperNamed) := goodIn_app (goodIn_of _ (by decide +kernel)) ggX7_twoNames_X7_copperNamed
set_option maxRecDepth 20000 in
theorem ggX7_twoNames_X7_fail : GoodIn wsX7_twoNames wsX7_fail := goodIn_r _ [22, 12, 45, 46, 47, 48, 49, 50, 51, 52, 53, 54, 55, 56, 57, 58, 59, 60, 61, 62, 63, 64, 65, 66, 67, 68, 69, 70, 71, 72, 73, 74, 75, 76, 77] (by decide +kernel) (by decide +kernel)
set_option maxRecDepth 20000 in
theorem gX7_twoNames_X7_fail : GoodIn wsX7_twoNames (wsV RX7 93 RX7 yX7_fail wsX7_fail) := goodIn_app (goodIn_of _ (by decide +kernel)) ggX7_twoNames_X7_fail
theorem dX7_twoNames_0 : decode cX7_twoNames 0 = .ok (.aload_n 0, 1) := by decide +kernel
theorem dX7_twoNames_1 : decode cX7_twoNames 1 = .ok (.bipush 32, 2) := by decide +kernel
theorem dX7_twoNames_3 : decode cX7_twoNames 3 = .ok (.invokevirtual 144, 3) := by decide +kernel
theorem dX7_twoNames_6 : decode cX7_twoNames 6 = .ok (.aload_n 0, 1) := by decide +kernel
theorem dX7_twoNames_7 : decode cX7_twoNames 7 = .ok (.getfield 79, 3) := by decide +kernel
theorem dX7_twoNames_10 : decode cX7_twoNames 10 = .ok (.istore_n 1, 1) := by decide +kernel
theorem dX7_twoNames_11 : decode cX7_twoNames 11 = .ok (.aload_n 0, 1) := by decide +kernel
theorem dX7_twoNames_12 : decode cX7_twoNames 12 = .ok (.invokevirtual 147, 3) := by decide +kernel
theorem dX7_twoNames_15 : decode cX7_twoNames 15 = .ok (.aload_n 0, 1) := by decide +kernel
theorem dX7_twoNames_16 : decode cX7_twoNames 16 = .ok (.invokevirtual 85, 3) := by decide +kernel
theorem dX7_twoNames_19 : decode cX7_twoNames 19 = .ok (.ifCond .eq 10, 3) := by decide +kernel
theorem dX7_twoNames_22 : decode cX7_twoNames 22 = .ok (.aload_n 0, 1) := by decide +kernel
theorem dX7_twoNames_23 : decode cX7_twoNames 23 = .ok (.invokevirtual 150, 3) := by decide +kernel
theorem dX7_twoNames_26 : decode cX7_twoNames 26 = .ok (.goto 4, 3) := by decide +kernel
theorem dX7_twoNames_29 : decode cX7_twoNames 29 = .ok (.iconst 0, 1) := by decide +kernel
theorem dX7_twoNames_30 : decode cX7_twoNames 30 = .ok (.istore_n 2, 1) := by decide +kernel
theorem dX7_twoNames_31 : decode cX7_twoNames 31 = .ok (.iload_n 2, 1) := by decide +kernel
theorem dX7_twoNames_32 : decode cX7_twoNames 32 = .ok (.iconst (-1), 1) := by decide +kernel
theorem dX7_twoNames_33 : decode cX7_twoNames 33 = .ok (.if_icmp .ne 8, 3) := by decide +kernel
theorem dX7_twoNames_36 : decode cX7_twoNames 36 = .ok (.aload_n 0, 1) := by decide +kernel
theorem dX7_twoNames_37 : decode cX7_twoNames 37 = .ok (.iload_n 1, 1) := by decide +kernel
theorem dX7_twoNames_38 : decode cX7_twoNames 38 = .ok (.invokevirtual 93, 3) := by decide +kernel
theorem dX7_twoNames_41 : decode cX7_twoNames 41 = .ok (.aload_n 0, 1) := by decide +kernel
theorem dX7_twoNames_42 : decode cX7_twoNames 42 = .ok (.bipush 32, 2) := by decide +kernel
theorem dX7_twoNames_44 : decode cX7_twoNames 44 = .ok (.invokevirtual 144, 3) := by decide +kernel
theorem dX7_twoNames_47 : decode cX7_twoNames 47 = .ok (.aload_n 0, 1) := by decide +kernel
theorem dX7_twoNames_48 : decode cX7_twoNames 48 = .ok (.getfield 79, 3) := by decide +kernel
theorem dX7_twoNames_51 : decode cX7_twoNames 51 = .ok (.istore_n 1, 1) := by decide +kernel
theorem dX7_twoNames_52 : decode cX7_twoNames 52 = .ok (.aload_n 0, 1) := by decide +kernel
theorem dX7_twoNames_53 : decode cX7_twoNames 53 = .ok (.invokevirtual 147, 3) := by decide +kernel
theorem dX7_twoNames_56 : decode cX7_twoNames 56 = .ok (.aload_n 0, 1) := by decide +kernel
theorem dX7_twoNames_57 : decode cX7_twoNames 57 = .ok (.aload_n 0, 1) := by decide +kernel
theorem dX7_twoNames_58 : decode cX7_twoNames 58 = .ok (.invokevirtual 85, 3) := by decide +kernel
theorem dX7_twoNames_61 : decode cX7_twoNames 61 = .ok (.ifCond .eq 10, 3) := by decide +kernel
theorem dX7_twoNames_64 : decode cX7_twoNames 64 = .ok (.aload_n 0, 1) := by decide +kernel
theorem dX7_twoNames_65 : decode cX7_twoNames 65 = .ok (.invokevirtual 150, 3) := by decide +kernel
theorem dX7_twoNames_68 : decode cX7_twoNames 68 = .ok (.goto 4, 3) := by decide +kernel
theorem dX7_twoNames_71 : decode cX7_twoNames 71 = .ok (.iconst 0, 1) := by decide +kernel
theorem dX7_twoNames_72 : decode cX7_twoNames 72 = .ok (.putfield 159, 3) := by decide +kernel
theorem dX7_twoNames_75 : decode cX7_twoNames 75 = .ok (.aload_n 0, 1) := by decide +kernel
theorem dX7_twoNames_76 : decode cX7_twoNames 76 = .ok (.invokevirtual 85, 3) := by decide +kernel
theorem dX7_twoNames_79 : decode cX7_twoNames 79 = .ok (.ifCond .eq 24, 3) := by decide +kernel
theorem dX7_twoNames_82 : decode cX7_twoNames 82 = .ok (.aload_n 0, 1) := by decide +kernel
theorem dX7_twoNames_83 : decode cX7_twoNames 83 = .ok (.getfield 159, 3) := by decide +kernel
theorem dX7_twoNames_86 : decode cX7_twoNames 86 = .ok (.iconst (-1), 1) := by decide +kernel
theorem dX7_twoNames_87 : decode cX7_twoNames 87 = .ok (.if_icmp .eq 11, 3) := by decide +kernel
theorem dX7_twoNames_90 : decode cX7_twoNames 90 = .ok (.aload_n 0, 1) := by decide +kernel
theorem dX7_twoNames_91 : decode cX7_twoNames 91 = .ok (.getfield 159, 3) := by decide +kernel
theorem dX7_twoNames_94 : decode cX7_twoNames 94 = .ok (.iload_n 2, 1) := by decide +kernel
theorem dX7_twoNames_95 : decode cX7_twoNames 95 = .ok (.if_icmp .gt 8, 3) := by decide +kernel
theorem dX7_twoNames_98 : decode cX7_twoNames 98 = .ok (.aload_n 0, 1) := by decide +kernel
theorem dX7_twoNames_99 : decode cX7_twoNames 99 = .ok (.iload_n 1, 1) := by decide +kernel
theorem dX7_twoNames_100 : decode cX7_twoNames 100 = .ok (.invokevirtual 93, 3) := by decide +kernel
theorem dX7_twoNames_103 : decode cX7_twoNames 103 = .ok (.iload_n 2, 1) := by decide +kernel
theorem dX7_twoNames_104 : decode cX7_twoNames 104 = .ok (.ireturn, 1) := by decide +kernel
set_option maxRecDepth 20000 in
theorem ggX7_pressLine_X7_fail : GoodIn wsX7_pressLine wsX7_fail := goodIn_r _ [11, 12, 61, 62, 63, 64, 65, 66, 67, 68, 69, 70, 71, 72, 73, 74, 75, 76, 77, 78, 79, 80, 81, 82, 83, 84, 85, 86, 87, 88, 89, 90, 91, 92, 93] (by decide +kernel) (by decide +kernel)
set_option maxRecDepth 20000 in
theorem gX7_pressLine_X7_fail : GoodIn wsX7_pressLine (wsV RX7 93 RX7 yX7_fail wsX7_fail) := goodIn_app (goodIn_of _ (by decide +kernel)) ggX7_pressLine_X7_fail
set_option maxRecDepth 20000 in
theorem ggX7_pressLine_X7_twoNames_wsX7_twoNames_r1 : GoodIn wsX7_pressLine wsX7_twoNames_r1 := goodIn_r _ [17, 4, 18, 19, 20, 10, 21, 22, 23, 24, 25, 12, 26, 27, 28, 29, 30, 31, 7, 8, 9, 11, 32, 33] (by decide +kernel) (by decide +kernel)
set_option maxRecDepth 20000 in
theorem ggX7_pressLine_X7_twoNames_wsX7_twoNames_r2 : GoodIn wsX7_pressLine wsX7_twoNames_r2 := goodIn_r _ [34, 35, 36, 37, 38, 39, 40, 41, 42, 43, 44, 45, 2, 46, 47, 48, 49, 50, 51, 52] (by decide +kernel) (by decide +kernel)
set_option maxRecDepth 20000 in
theorem ggX7_pressLine_X7_twoNames_wsX70 : GoodIn wsX7_pressLine wsX70 := goodIn_r _ [61, 62, 63, 64, 65, 66, 67, 68, 69, 70, 71, 72, 73, 74, 75, 76, 77, 78, 79, 80, 81, 82, 83, 84, 85, 86, 87, 88, 89, 90, 91, 92, 93] (by decide +kernel) (by decide +kernel)
set_option maxRecDepth 20000 in
theorem ggX7_pressLine_X7_twoNames_c : GoodIn wsX7_pressLine [.code yX7_twoNames cX7_twoNames 3 (some .int)] := goodIn_r _ [16] (by decide +kernel) (by decide +kernel)
set_option maxRecDepth 20000 in
theorem ggX7_pressLine_X7_twoNames : GoodIn wsX7_pressLine wsX7_twoNames := goodIn_app ggX7_pressLine_X7_twoNames_c (goodIn_app (goodIn_app ggX7_pressLine_X7_twoNames_wsX7_twoNames_r1 ggX7_pressLine_X7_twoNames_wsX7_twoNames_r2) ggX7_pressLine_X7_twoNames_wsX70)
set_option maxRecDepth 20000 in
theorem gX7_pressLine_X7_twoNames : GoodIn wsX7_pressLine (wsV RX7 162 RX7 yX7_twoNames wsX7_twoNames) := goodIn_app (goodIn_of _ (by decide +kernel)) ggX7_pressLine_X7_twoNames
set_option maxRecDepth 20000 in
theorem ggX7_pressLine_X7_good : GoodIn wsX7_pressLine wsX7_good := goodIn_r _ [25, 12, 61, 62, 63, 64, 65, 66, 67, 68, 69, 70, 71, 72, 73, 74, 75, 76, 77, 78, 79, 80, 81, 82, 83, 84, 85, 86, 87, 88, 89, 90, 91, 92, 93] (by decide +kernel) (by decide +kernel)
set_option maxRecDepth 20000 in
theorem gX7_pressLine_X7_good : GoodIn wsX7_pressLine (wsV RX7 85 RX7 yX7_good wsX7_good) := goodIn_app (goodIn_of _ (by decide +kernel)) ggX7_pressLine_X7_good
set_option maxRecDepth 20000 in
theorem ggX7_pressLine_X7_expect : GoodIn wsX7_pressLine wsX7_expect := goodIn_r _ [21, 17, 22, 23, 24, 10, 25, 12, 26, 27, 28, 29, 30, 31, 7, 8, 9, 11, 61, 62, 63, 64, 65, 66, 67, 68, 69, 70, 71, 72, 73, 74, 75, 76, 77, 78, 79, 80, 81, 82, 83, 84, 85, 86, 87, 88, 89, 90, 91, 92, 93] (by decide +kernel) (by decide +kernel)
set_option maxRecDepth 20000 in
theorem gX7_pressLine_X7_expect : GoodIn wsX7_pressLine (wsV RX7 144 RX7 yX7_expect wsX7_expect) := goodIn_app (goodIn_of _ (by decide +kernel)) ggX7_pressLine_X7_expect
set_option maxRecDepth 20000 in
theorem ggX7_pressLine_X7_keepPress : GoodIn wsX7_pressLine wsX7_keepPress := goodIn_r _ [56, 2, 3, 6, 5, 57, 58, 59, 10, 60, 61, 62, 63, 64, 65, 66, 67, 68, 69, 70, 71, 72, 73, 74, 75, 76, 77, 78, 79, 80, 81, 82, 83, 84, 85, 86, 87, 88, 89, 90, 91, 92, 93] (by decide +kernel) (by decide +kernel)
set_option maxRecDepth 20000 in
theorem gX7_pressLine_X7_keepPress : GoodIn wsX7_pressLine (wsV RX7 165 RX7 yX7_keepPress wsX7_keepPress) := goodIn_app (goodIn_of _ (by decide +kernel)) ggX7_pressLine_X7_keepPress
theorem dX7_pressLine_0 : decode cX7_pressLine 0 = .ok (.aload_n 0, 1) := by decide +kernel
theorem dX7_pressLine_1 : decode cX7_pressLine 1 = .ok (.getfield 47, 3) := by decide +kernel
theorem dX7_pressLine_4 : decode cX7_pressLine 4 = .ok (.aload_n 0, 1) := by decide +kernel
theorem dX7_pressLine_5 : decode cX7_pressLine 5 = .ok (.getfield 134, 3) := by decide +kernel
theorem dX7_pressLine_8 : decode cX7_pressLine 8 = .ok (.iaload, 1) := by decide +kernel
theorem dX7_pressLine_9 : decode cX7_pressLine 9 = .ok (.ifCond .gt 17, 3) := by decide +kernel
theorem dX7_pressLine_12 : decode cX7_pressLine 12 = .ok (.aload_n 0, 1) := by decide +kernel
theorem dX7_pressLine_13 : decode cX7_pressLine 13 = .ok (.getfield 38, 3) := by decide +kernel
theorem dX7_pressLine_16 : decode cX7_pressLine 16 = .ok (.aload_n 0, 1) := by decide +kernel
theorem dX7_pressLine_17 : decode cX7_pressLine 17 = .ok (.getfield 134, 3) := by decide +kernel
theorem dX7_pressLine_20 : decode cX7_pressLine 20 = .ok (.iaload, 1) := by decide +kernel
theorem dX7_pressLine_21 : decode cX7_pressLine 21 = .ok (.bipush 20, 2) := by decide +kernel
theorem dX7_pressLine_23 : decode cX7_pressLine 23 = .ok (.if_icmp .ne 9, 3) := by decide +kernel
theorem dX7_pressLine_26 : decode cX7_pressLine 26 = .ok (.aload_n 0, 1) := by decide +kernel
theorem dX7_pressLine_27 : decode cX7_pressLine 27 = .ok (.iload_n 1, 1) := by decide +kernel
theorem dX7_pressLine_28 : decode cX7_pressLine 28 = .ok (.invokevirtual 93, 3) := by decide +kernel
theorem dX7_pressLine_31 : decode cX7_pressLine 31 = .ok (.return_, 1) := by decide +kernel
theorem dX7_pressLine_32 : decode cX7_pressLine 32 = .ok (.aload_n 0, 1) := by decide +kernel
theorem dX7_pressLine_33 : decode cX7_pressLine 33 = .ok (.invokevirtual 162, 3) := by decide +kernel
theorem dX7_pressLine_36 : decode cX7_pressLine 36 = .ok (.istore_n 2, 1) := by decide +kernel
theorem dX7_pressLine_37 : decode cX7_pressLine 37 = .ok (.aload_n 0, 1) := by decide +kernel
theorem dX7_pressLine_38 : decode cX7_pressLine 38 = .ok (.getfield 159, 3) := by decide +kernel
theorem dX7_pressLine_41 : decode cX7_pressLine 41 = .ok (.istore_n 3, 1) := by decide +kernel
theorem dX7_pressLine_42 : decode cX7_pressLine 42 = .ok (.bipush 22, 2) := by decide +kernel
theorem dX7_pressLine_44 : decode cX7_pressLine 44 = .ok (.aload_n 0, 1) := by decide +kernel
theorem dX7_pressLine_45 : decode cX7_pressLine 45 = .ok (.getfield 134, 3) := by decide +kernel
theorem dX7_pressLine_48 : decode cX7_pressLine 48 = .ok (.imul, 1) := by decide +kernel
theorem dX7_pressLine_49 : decode cX7_pressLine 49 = .ok (.istore 4, 2) := by decide +kernel
theorem dX7_pressLine_51 : decode cX7_pressLine 51 = .ok (.iload 4, 2) := by decide +kernel
theorem dX7_pressLine_53 : decode cX7_pressLine 53 = .ok (.bipush 22, 2) := by decide +kernel
theorem dX7_pressLine_55 : decode cX7_pressLine 55 = .ok (.aload_n 0, 1) := by decide +kernel
theorem dX7_pressLine_56 : decode cX7_pressLine 56 = .ok (.getfield 134, 3) := by decide +kernel
theorem dX7_pressLine_59 : decode cX7_pressLine 59 = .ok (.imul, 1) := by decide +kernel
theorem dX7_pressLine_60 : decode cX7_pressLine 60 = .ok (.aload_n 0, 1) := by decide +kernel
theorem dX7_pressLine_61 : decode cX7_pressLine 61 = .ok (.getfield 38, 3) := by decide +kernel
theorem dX7_pressLine_64 : decode cX7_pressLine 64 = .ok (.aload_n 0, 1) := by decide +kernel
theorem dX7_pressLine_65 : decode cX7_pressLine 65 = .ok (.getfield 134, 3) := by decide +kernel
theorem dX7_pressLine_68 : decode cX7_pressLine 68 = .ok (.iaload, 1) := by decide +kernel
theorem dX7_pressLine_69 : decode cX7_pressLine 69 = .ok (.iadd, 1) := by decide +kernel
theorem dX7_pressLine_70 : decode cX7_pressLine 70 = .ok (.if_icmp .ge 145, 3) := by decide +kernel
theorem dX7_pressLine_73 : decode cX7_pressLine 73 = .ok (.aload_n 0, 1) := by decide +kernel
theorem dX7_pressLine_74 : decode cX7_pressLine 74 = .ok (.invokevirtual 85, 3) := by decide +kernel
theorem dX7_pressLine_77 : decode cX7_pressLine 77 = .ok (.ifCond .eq 138, 3) := by decide +kernel
theorem dX7_pressLine_80 : decode cX7_pressLine 80 = .ok (.aload_n 0, 1) := by decide +kernel
theorem dX7_pressLine_81 : decode cX7_pressLine 81 = .ok (.getfield 44, 3) := by decide +kernel
theorem dX7_pressLine_84 : decode cX7_pressLine 84 = .ok (.iload 4, 2) := by decide +kernel
theorem dX7_pressLine_86 : decode cX7_pressLine 86 = .ok (.iaload, 1) := by decide +kernel
theorem dX7_pressLine_87 : decode cX7_pressLine 87 = .ok (.iload_n 2, 1) := by decide +kernel
theorem dX7_pressLine_88 : decode cX7_pressLine 88 = .ok (.if_icmp .lt 14, 3) := by decide +kernel
theorem dX7_pressLine_91 : decode cX7_pressLine 91 = .ok (.aload_n 0, 1) := by decide +kernel
theorem dX7_pressLine_92 : decode cX7_pressLine 92 = .ok (.getfield 41, 3) := by decide +kernel
theorem dX7_pressLine_95 : decode cX7_pressLine 95 = .ok (.iload 4, 2) := by decide +kernel
theorem dX7_pressLine_97 : decode cX7_pressLine 97 = .ok (.iaload, 1) := by decide +kernel
theorem dX7_pressLine_98 : decode cX7_pressLine 98 = .ok (.iload_n 3, 1) := by decide +kernel
theorem dX7_pressLine_99 : decode cX7_pressLine 99 = .ok (.if_icmp .le 7, 3) := by decide +kernel
theorem dX7_pressLine_102 : decode cX7_pressLine 102 = .ok (.iconst 1, 1) := by decide +kernel
theorem dX7_pressLine_103 : decode cX7_pressLine 103 = .ok (.goto 4, 3) := by decide +kernel
theorem dX7_pressLine_106 : decode cX7_pressLine 106 = .ok (.iconst 0, 1) := by decide +kernel
theorem dX7_pressLine_107 : decode cX7_pressLine 107 = .ok (.istore 5, 2) := by decide +kernel
theorem dX7_pressLine_109 : decode cX7_pressLine 109 = .ok (.aload_n 0, 1) := by decide +kernel
theorem dX7_pressLine_110 : decode cX7_pressLine 110 = .ok (.getfield 41, 3) := by decide +kernel
theorem dX7_pressLine_113 : decode cX7_pressLine 113 = .ok (.iload 4, 2) := by decide +kernel
theorem dX7_pressLine_115 : decode cX7_pressLine 115 = .ok (.iaload, 1) := by decide +kernel
theorem dX7_pressLine_116 : decode cX7_pressLine 116 = .ok (.iload_n 2, 1) := by decide +kernel
theorem dX7_pressLine_117 : decode cX7_pressLine 117 = .ok (.if_icmp .ne 18, 3) := by decide +kernel
theorem dX7_pressLine_120 : decode cX7_pressLine 120 = .ok (.aload_n 0, 1) := by decide +kernel
theorem dX7_pressLine_121 : decode cX7_pressLine 121 = .ok (.getfield 44, 3) := by decide +kernel
theorem dX7_pressLine_124 : decode cX7_pressLine 124 = .ok (.iload 4, 2) := by decide +kernel
theorem dX7_pressLine_126 : decode cX7_pressLine 126 = .ok (.iaload, 1) := by decide +kernel
theorem dX7_pressLine_127 : decode cX7_pressLine 127 = .ok (.iload_n 3, 1) := by decide +kernel
theorem dX7_pressLine_128 : decode cX7_pressLine 128 = .ok (.if_icmp .ne 7, 3) := by decide +kernel
theorem dX7_pressLine_131 : decode cX7_pressLine 131 = .ok (.iconst 1, 1) := by decide +kernel
theorem dX7_pressLine_132 : decode cX7_pressLine 132 = .ok (.goto 4, 3) := by decide +kernel
theorem dX7_pressLine_135 : decode cX7_pressLine 135 = .ok (.iconst 0, 1) := by decide +kernel
theorem dX7_pressLine_136 : decode cX7_pressLine 136 = .ok (.istore 6, 2) := by decide +kernel
theorem dX7_pressLine_138 : decode cX7_pressLine 138 = .ok (.aload_n 0, 1) := by decide +kernel
theorem dX7_pressLine_139 : decode cX7_pressLine 139 = .ok (.getfield 41, 3) := by decide +kernel
theorem dX7_pressLine_142 : decode cX7_pressLine 142 = .ok (.iload 4, 2) := by decide +kernel
theorem dX7_pressLine_144 : decode cX7_pressLine 144 = .ok (.iaload, 1) := by decide +kernel
theorem dX7_pressLine_145 : decode cX7_pressLine 145 = .ok (.iload_n 2, 1) := by decide +kernel
theorem dX7_pressLine_146 : decode cX7_pressLine 146 = .ok (.if_icmp .lt 14, 3) := by decide +kernel
theorem dX7_pressLine_149 : decode cX7_pressLine 149 = .ok (.aload_n 0, 1) := by decide +kernel
theorem dX7_pressLine_150 : decode cX7_pressLine 150 = .ok (.getfield 44, 3) := by decide +kernel
theorem dX7_pressLine_153 : decode cX7_pressLine 153 = .ok (.iload 4, 2) := by decide +kernel
theorem dX7_pressLine_155 : decode cX7_pressLine 155 = .ok (.iaload, 1) := by decide +kernel
theorem dX7_pressLine_156 : decode cX7_pressLine 156 = .ok (.iload_n 3, 1) := by decide +kernel
theorem dX7_pressLine_157 : decode cX7_pressLine 157 = .ok (.if_icmp .le 25, 3) := by decide +kernel
theorem dX7_pressLine_160 : decode cX7_pressLine 160 = .ok (.aload_n 0, 1) := by decide +kernel
theorem dX7_pressLine_161 : decode cX7_pressLine 161 = .ok (.getfield 41, 3) := by decide +kernel
theorem dX7_pressLine_164 : decode cX7_pressLine 164 = .ok (.iload 4, 2) := by decide +kernel
theorem dX7_pressLine_166 : decode cX7_pressLine 166 = .ok (.iaload, 1) := by decide +kernel
theorem dX7_pressLine_167 : decode cX7_pressLine 167 = .ok (.iload_n 2, 1) := by decide +kernel
theorem dX7_pressLine_168 : decode cX7_pressLine 168 = .ok (.if_icmp .gt 18, 3) := by decide +kernel
theorem dX7_pressLine_171 : decode cX7_pressLine 171 = .ok (.aload_n 0, 1) := by decide +kernel
theorem dX7_pressLine_172 : decode cX7_pressLine 172 = .ok (.getfield 44, 3) := by decide +kernel
theorem dX7_pressLine_175 : decode cX7_pressLine 175 = .ok (.iload 4, 2) := by decide +kernel
theorem dX7_pressLine_177 : decode cX7_pressLine 177 = .ok (.iaload, 1) := by decide +kernel
theorem dX7_pressLine_178 : decode cX7_pressLine 178 = .ok (.iload_n 3, 1) := by decide +kernel
theorem dX7_pressLine_179 : decode cX7_pressLine 179 = .ok (.if_icmp .lt 7, 3) := by decide +kernel
theorem dX7_pressLine_182 : decode cX7_pressLine 182 = .ok (.iconst 1, 1) := by decide +kernel
theorem dX7_pressLine_183 : decode cX7_pressLine 183 = .ok (.goto 4, 3) := by decide +kernel
theorem dX7_pressLine_186 : decode cX7_pressLine 186 = .ok (.iconst 0, 1) := by decide +kernel
theorem dX7_pressLine_187 : decode cX7_pressLine 187 = .ok (.istore 7, 2) := by decide +kernel
theorem dX7_pressLine_189 : decode cX7_pressLine 189 = .ok (.iload 6, 2) := by decide +kernel
theorem dX7_pressLine_191 : decode cX7_pressLine 191 = .ok (.ifCond .ne 13, 3) := by decide +kernel
theorem dX7_pressLine_194 : decode cX7_pressLine 194 = .ok (.iload 5, 2) := by decide +kernel
theorem dX7_pressLine_196 : decode cX7_pressLine 196 = .ok (.ifCond .ne 13, 3) := by decide +kernel
theorem dX7_pressLine_199 : decode cX7_pressLine 199 = .ok (.iload 7, 2) := by decide +kernel
theorem dX7_pressLine_201 : decode cX7_pressLine 201 = .ok (.ifCond .ne 8, 3) := by decide +kernel
theorem dX7_pressLine_204 : decode cX7_pressLine 204 = .ok (.aload_n 0, 1) := by decide +kernel
theorem dX7_pressLine_205 : decode cX7_pressLine 205 = .ok (.iload_n 1, 1) := by decide +kernel
theorem dX7_pressLine_206 : decode cX7_pressLine 206 = .ok (.invokevirtual 93, 3) := by decide +kernel
theorem dX7_pressLine_209 : decode cX7_pressLine 209 = .ok (.iinc 4 1, 3) := by decide +kernel
theorem dX7_pressLine_212 : decode cX7_pressLine 212 = .ok (.goto (-161), 3) := by decide +kernel
theorem dX7_pressLine_215 : decode cX7_pressLine 215 = .ok (.aload_n 0, 1) := by decide +kernel
theorem dX7_pressLine_216 : decode cX7_pressLine 216 = .ok (.bipush 10, 2) := by decide +kernel
theorem dX7_pressLine_218 : decode cX7_pressLine 218 = .ok (.invokevirtual 144, 3) := by decide +kernel
theorem dX7_pressLine_221 : decode cX7_pressLine 221 = .ok (.aload_n 0, 1) := by decide +kernel
theorem dX7_pressLine_222 : decode cX7_pressLine 222 = .ok (.invokevirtual 85, 3) := by decide +kernel
