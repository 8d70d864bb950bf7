theorem dX5_made_211 : decode cX5_made 211 = .ok (.iconst 1, 1) := by decide +kernel
theorem dX5_made_212 : decode cX5_made 212 = .ok (.isub, 1) := by decide +kernel
theorem dX5_made_213 : decode cX5_made 213 = .ok (.putfield 160, 3) := by decide +kernel
theorem dX5_made_216 : decode cX5_made 216 = .ok (.aload_n 0, 1) := by decide +kernel
theorem dX5_made_217 : decode cX5_made 217 = .ok (.getfield 73, 3) := by decide +kernel
theorem dX5_made_220 : decode cX5_made 220 = .ok (.aload_n 0, 1) := by decide +kernel
theorem dX5_made_221 : decode cX5_made 221 = .ok (.getfield 160, 3) := by decide +kernel
theorem dX5_made_224 : decode cX5_made 224 = .ok (.iaload, 1) := by decide +kernel
theorem dX5_made_225 : decode cX5_made 225 = .ok (.istore 4, 2) := by decide +kernel
theorem dX5_made_227 : decode cX5_made 227 = .ok (.iload_n 2, 1) := by decide +kernel
theorem dX5_made_228 : decode cX5_made 228 = .ok (.iconst 5, 1) := by decide +kernel
theorem dX5_made_229 : decode cX5_made 229 = .ok (.if_icmp .ne 15, 3) := by decide +kernel
theorem dX5_made_232 : decode cX5_made 232 = .ok (.aload_n 0, 1) := by decide +kernel
theorem dX5_made_233 : decode cX5_made 233 = .ok (.bipush 14, 2) := by decide +kernel
theorem dX5_made_235 : decode cX5_made 235 = .ok (.iload 4, 2) := by decide +kernel
theorem dX5_made_237 : decode cX5_made 237 = .ok (.i2l, 1) := by decide +kernel
theorem dX5_made_238 : decode cX5_made 238 = .ok (.lconst 1, 1) := by decide +kernel
theorem dX5_made_239 : decode cX5_made 239 = .ok (.ladd, 1) := by decide +kernel
theorem dX5_made_240 : decode cX5_made 240 = .ok (.iconst 0, 1) := by decide +kernel
theorem dX5_made_241 : decode cX5_made 241 = .ok (.invokevirtual 152, 3) := by decide +kernel
theorem dX5_made_244 : decode cX5_made 244 = .ok (.iload 4, 2) := by decide +kernel
theorem dX5_made_246 : decode cX5_made 246 = .ok (.sipush 400, 3) := by decide +kernel
theorem dX5_made_249 : decode cX5_made 249 = .ok (.if_icmp .ge 15, 3) := by decide +kernel
theorem dX5_made_252 : decode cX5_made 252 = .ok (.aload_n 0, 1) := by decide +kernel
theorem dX5_made_253 : decode cX5_made 253 = .ok (.getfield 61, 3) := by decide +kernel
theorem dX5_made_256 : decode cX5_made 256 = .ok (.iload 4, 2) := by decide +kernel
theorem dX5_made_258 : decode cX5_made 258 = .ok (.aload_n 0, 1) := by decide +kernel
theorem dX5_made_259 : decode cX5_made 259 = .ok (.getfield 149, 3) := by decide +kernel
theorem dX5_made_262 : decode cX5_made 262 = .ok (.i2l, 1) := by decide +kernel
theorem dX5_made_263 : decode cX5_made 263 = .ok (.lastore, 1) := by decide +kernel
theorem dX5_made_264 : decode cX5_made 264 = .ok (.goto (-240), 3) := by decide +kernel
theorem dX5_made_267 : decode cX5_made 267 = .ok (.aload_n 0, 1) := by decide +kernel
theorem dX5_made_268 : decode cX5_made 268 = .ok (.getfield 149, 3) := by decide +kernel
theorem dX5_made_271 : decode cX5_made 271 = .ok (.sipush 400, 3) := by decide +kernel
theorem dX5_made_274 : decode cX5_made 274 = .ok (.if_icmp .gt 7, 3) := by decide +kernel
theorem dX5_made_277 : decode cX5_made 277 = .ok (.iconst 1, 1) := by decide +kernel
theorem dX5_made_278 : decode cX5_made 278 = .ok (.goto 4, 3) := by decide +kernel
theorem dX5_made_281 : decode cX5_made 281 = .ok (.iconst 0, 1) := by decide +kernel
theorem dX5_made_282 : decode cX5_made 282 = .ok (.ireturn, 1) := by decide +kernel
theorem dX5_keep_0 : decode cX5_keep 0 = .ok (.aload_n 0, 1) := by decide +kernel
theorem dX5_keep_1 : decode cX5_keep 1 = .ok (.iload_n 1, 1) := by decide +kernel
theorem dX5_keep_2 : decode cX5_keep 2 = .ok (.ifCond .eq 10, 3) := by decide +kernel
theorem dX5_keep_5 : decode cX5_keep 5 = .ok (.aload_n 0, 1) := by decide +kernel
theorem dX5_keep_6 : decode cX5_keep 6 = .ok (.getfield 149, 3) := by decide +kernel
theorem dX5_keep_9 : decode cX5_keep 9 = .ok (.goto 4, 3) := by decide +kernel
theorem dX5_keep_12 : decode cX5_keep 12 = .ok (.iconst 0, 1) := by decide +kernel
theorem dX5_keep_13 : decode cX5_keep 13 = .ok (.putfield 167, 3) := by decide +kernel
theorem dX5_keep_16 : decode cX5_keep 16 = .ok (.iconst 0, 1) := by decide +kernel
theorem dX5_keep_17 : decode cX5_keep 17 = .ok (.istore_n 2, 1) := by decide +kernel
theorem dX5_keep_18 : decode cX5_keep 18 = .ok (.iload_n 2, 1) := by decide +kernel
theorem dX5_keep_19 : decode cX5_keep 19 = .ok (.aload_n 0, 1) := by decide +kernel
theorem dX5_keep_20 : decode cX5_keep 20 = .ok (.getfield 167, 3) := by decide +kernel
theorem dX5_keep_23 : decode cX5_keep 23 = .ok (.if_icmp .ge 45, 3) := by decide +kernel
theorem dX5_keep_26 : decode cX5_keep 26 = .ok (.aload_n 0, 1) := by decide +kernel
theorem dX5_keep_27 : decode cX5_keep 27 = .ok (.getfield 46, 3) := by decide +kernel
theorem dX5_keep_30 : decode cX5_keep 30 = .ok (.iload_n 2, 1) := by decide +kernel
theorem dX5_keep_31 : decode cX5_keep 31 = .ok (.aload_n 0, 1) := by decide +kernel
theorem dX5_keep_32 : decode cX5_keep 32 = .ok (.getfield 52, 3) := by decide +kernel
theorem dX5_keep_35 : decode cX5_keep 35 = .ok (.iload_n 2, 1) := by decide +kernel
theorem dX5_keep_36 : decode cX5_keep 36 = .ok (.iaload, 1) := by decide +kernel
theorem dX5_keep_37 : decode cX5_keep 37 = .ok (.iastore, 1) := by decide +kernel
theorem dX5_keep_38 : decode cX5_keep 38 = .ok (.aload_n 0, 1) := by decide +kernel
theorem dX5_keep_39 : decode cX5_keep 39 = .ok (.getfield 58, 3) := by decide +kernel
theorem dX5_keep_42 : decode cX5_keep 42 = .ok (.iload_n 2, 1) := by decide +kernel
theorem dX5_keep_43 : decode cX5_keep 43 = .ok (.aload_n 0, 1) := by decide +kernel
theorem dX5_keep_44 : decode cX5_keep 44 = .ok (.getfield 61, 3) := by decide +kernel
theorem dX5_keep_47 : decode cX5_keep 47 = .ok (.iload_n 2, 1) := by decide +kernel
theorem dX5_keep_48 : decode cX5_keep 48 = .ok (.laload, 1) := by decide +kernel
theorem dX5_keep_49 : decode cX5_keep 49 = .ok (.lastore, 1) := by decide +kernel
theorem dX5_keep_50 : decode cX5_keep 50 = .ok (.aload_n 0, 1) := by decide +kernel
theorem dX5_keep_51 : decode cX5_keep 51 = .ok (.getfield 49, 3) := by decide +kernel
theorem dX5_keep_54 : decode cX5_keep 54 = .ok (.iload_n 2, 1) := by decide +kernel
theorem dX5_keep_55 : decode cX5_keep 55 = .ok (.aload_n 0, 1) := by decide +kernel
theorem dX5_keep_56 : decode cX5_keep 56 = .ok (.getfield 55, 3) := by decide +kernel
theorem dX5_keep_59 : decode cX5_keep 59 = .ok (.iload_n 2, 1) := by decide +kernel
theorem dX5_keep_60 : decode cX5_keep 60 = .ok (.iaload, 1) := by decide +kernel
theorem dX5_keep_61 : decode cX5_keep 61 = .ok (.iastore, 1) := by decide +kernel
theorem dX5_keep_62 : decode cX5_keep 62 = .ok (.iinc 2 1, 3) := by decide +kernel
theorem dX5_keep_65 : decode cX5_keep 65 = .ok (.goto (-47), 3) := by decide +kernel
theorem dX5_keep_68 : decode cX5_keep 68 = .ok (.iload_n 1, 1) := by decide +kernel
theorem dX5_keep_69 : decode cX5_keep 69 = .ok (.ifCond .eq 10, 3) := by decide +kernel
theorem dX5_keep_72 : decode cX5_keep 72 = .ok (.aload_n 0, 1) := by decide +kernel
theorem dX5_keep_73 : decode cX5_keep 73 = .ok (.getfield 149, 3) := by decide +kernel
theorem dX5_keep_76 : decode cX5_keep 76 = .ok (.goto 4, 3) := by decide +kernel
theorem dX5_keep_79 : decode cX5_keep 79 = .ok (.iconst (-1), 1) := by decide +kernel
theorem dX5_keep_80 : decode cX5_keep 80 = .ok (.ireturn, 1) := by decide +kernel
set_option maxRecDepth 20000 in
theorem ggX5_make_X5_isNode : GoodIn wsX5_make wsX5_isNode := goodIn_r _ [6, 7, 49, 50, 51, 52, 53, 54, 55, 56, 57, 58, 59, 60, 61, 62, 63, 64, 65, 66, 67, 68, 69, 70, 71, 72, 73, 74, 75, 76, 77, 78, 79, 80, 81] (by decide +kernel) (by decide +kernel)
set_option maxRecDepth 20000 in
theorem gX5_make_X5_isNode : GoodIn wsX5_make (wsV RX5 121 RX5 yX5_isNode wsX5_isNode) := goodIn_app (goodIn_of _ (by decide +kernel)) ggX5_make_X5_isNode
set_option maxRecDepth 20000 in
theorem ggX5_make_X5_made : GoodIn wsX5_make wsX5_made := goodIn_r _ [11, 12, 13, 14, 15, 16, 17, 18, 19, 20, 21, 22, 23, 24, 5, 25, 26, 27, 28, 29, 30, 31, 32, 33, 34, 35, 36, 37, 38, 39, 40, 49, 50, 51, 52, 53, 54, 55, 56, 57, 58, 59, 60, 61, 62, 63, 64, 65, 66, 67, 68, 69, 70, 71, 72, 73, 74, 75, 76, 77, 78, 79, 80, 81] (by decide +kernel) (by decide +kernel)
set_option maxRecDepth 20000 in
theorem gX5_make_X5_made : GoodIn wsX5_make (wsV RX5 170 RX5 yX5_made wsX5_made) := goodIn_app (goodIn_of _ (by decide +kernel)) ggX5_make_X5_made
set_option maxRecDepth 20000 in
theorem ggX5_make_X5_keep : GoodIn wsX5_make wsX5_keep := goodIn_r _ [44, 12, 45, 46, 39, 47, 21, 48, 40, 49, 50, 51, 52, 53, 54, 55, 56, 57, 58, 59, 60, 61, 62, 63, 64, 65, 66, 67, 68, 69, 70, 71, 72, 73, 74, 75, 76, 77, 78, 79, 80, 81] (by decide +kernel) (by decide +kernel)
set_option maxRecDepth 20000 in
theorem gX5_make_X5_keep : GoodIn wsX5_make (wsV RX5 173 RX5 yX5_keep wsX5_keep) := goodIn_app (goodIn_of _ (by decide +kernel)) ggX5_make_X5_keep
theorem dX5_make_0 : decode cX5_make 0 = .ok (.aload_n 0, 1) := by decide +kernel
theorem dX5_make_1 : decode cX5_make 1 = .ok (.iconst 0, 1) := by decide +kernel
theorem dX5_make_2 : decode cX5_make 2 = .ok (.putfield 85, 3) := by decide +kernel
theorem dX5_make_5 : decode cX5_make 5 = .ok (.aload_n 0, 1) := by decide +kernel
theorem dX5_make_6 : decode cX5_make 6 = .ok (.iload_n 1, 1) := by decide +kernel
theorem dX5_make_7 : decode cX5_make 7 = .ok (.invokevirtual 121, 3) := by decide +kernel
theorem dX5_make_10 : decode cX5_make 10 = .ok (.ifCond .ne 6, 3) := by decide +kernel
theorem dX5_make_13 : decode cX5_make 13 = .ok (.bipush (-2), 2) := by decide +kernel
theorem dX5_make_15 : decode cX5_make 15 = .ok (.ireturn, 1) := by decide +kernel
theorem dX5_make_16 : decode cX5_make 16 = .ok (.aload_n 0, 1) := by decide +kernel
theorem dX5_make_17 : decode cX5_make 17 = .ok (.aload_n 0, 1) := by decide +kernel
theorem dX5_make_18 : decode cX5_make 18 = .ok (.iload_n 1, 1) := by decide +kernel
theorem dX5_make_19 : decode cX5_make 19 = .ok (.invokevirtual 170, 3) := by decide +kernel
theorem dX5_make_22 : decode cX5_make 22 = .ok (.invokevirtual 173, 3) := by decide +kernel
theorem dX5_make_25 : decode cX5_make 25 = .ok (.ireturn, 1) := by decide +kernel
theorem dX5_placeOf_0 : decode cX5_placeOf 0 = .ok (.lload_n 2, 1) := by decide +kernel
theorem dX5_placeOf_1 : decode cX5_placeOf 1 = .ok (.ldc2_w 177, 3) := by decide +kernel
theorem dX5_placeOf_4 : decode cX5_placeOf 4 = .ok (.lcmp, 1) := by decide +kernel
theorem dX5_placeOf_5 : decode cX5_placeOf 5 = .ok (.ifCond .lt 11, 3) := by decide +kernel
theorem dX5_placeOf_8 : decode cX5_placeOf 8 = .ok (.lload_n 2, 1) := by decide +kernel
theorem dX5_placeOf_9 : decode cX5_placeOf 9 = .ok (.ldc2_w 179, 3) := by decide +kernel
theorem dX5_placeOf_12 : decode cX5_placeOf 12 = .ok (.lcmp, 1) := by decide +kernel
theorem dX5_placeOf_13 : decode cX5_placeOf 13 = .ok (.ifCond .le 5, 3) := by decide +kernel
theorem dX5_placeOf_16 : decode cX5_placeOf 16 = .ok (.iconst (-1), 1) := by decide +kernel
theorem dX5_placeOf_17 : decode cX5_placeOf 17 = .ok (.ireturn, 1) := by decide +kernel
theorem dX5_placeOf_18 : decode cX5_placeOf 18 = .ok (.aload_n 0, 1) := by decide +kernel
theorem dX5_placeOf_19 : decode cX5_placeOf 19 = .ok (.getfield 23, 3) := by decide +kernel
theorem dX5_placeOf_22 : decode cX5_placeOf 22 = .ok (.iload_n 1, 1) := by decide +kernel
theorem dX5_placeOf_23 : decode cX5_placeOf 23 = .ok (.iaload, 1) := by decide +kernel
theorem dX5_placeOf_24 : decode cX5_placeOf 24 = .ok (.i2l, 1) := by decide +kernel
theorem dX5_placeOf_25 : decode cX5_placeOf 25 = .ok (.lload_n 2, 1) := by decide +kernel
theorem dX5_placeOf_26 : decode cX5_placeOf 26 = .ok (.aload_n 0, 1) := by decide +kernel
theorem dX5_placeOf_27 : decode cX5_placeOf 27 = .ok (.getfield 20, 3) := by decide +kernel
theorem dX5_placeOf_30 : decode cX5_placeOf 30 = .ok (.iload_n 1, 1) := by decide +kernel
theorem dX5_placeOf_31 : decode cX5_placeOf 31 = .ok (.iaload, 1) := by decide +kernel
theorem dX5_placeOf_32 : decode cX5_placeOf 32 = .ok (.i2l, 1) := by decide +kernel
theorem dX5_placeOf_33 : decode cX5_placeOf 33 = .ok (.lmul, 1) := by decide +kernel
theorem dX5_placeOf_34 : decode cX5_placeOf 34 = .ok (.ladd, 1) := by decide +kernel
theorem dX5_placeOf_35 : decode cX5_placeOf 35 = .ok (.lstore 4, 2) := by decide +kernel
theorem dX5_placeOf_37 : decode cX5_placeOf 37 = .ok (.lload 4, 2) := by decide +kernel
theorem dX5_placeOf_39 : decode cX5_placeOf 39 = .ok (.lconst 0, 1) := by decide +kernel
theorem dX5_placeOf_40 : decode cX5_placeOf 40 = .ok (.lcmp, 1) := by decide +kernel
theorem dX5_placeOf_41 : decode cX5_placeOf 41 = .ok (.ifCond .lt 19, 3) := by decide +kernel
theorem dX5_placeOf_44 : decode cX5_placeOf 44 = .ok (.lload 4, 2) := by decide +kernel
theorem dX5_placeOf_46 : decode cX5_placeOf 46 = .ok (.bipush 64, 2) := by decide +kernel
theorem dX5_placeOf_48 : decode cX5_placeOf 48 = .ok (.aload_n 0, 1) := by decide +kernel
theorem dX5_placeOf_49 : decode cX5_placeOf 49 = .ok (.getfield 20, 3) := by decide +kernel
theorem dX5_placeOf_52 : decode cX5_placeOf 52 = .ok (.iload_n 1, 1) := by decide +kernel
theorem dX5_placeOf_53 : decode cX5_placeOf 53 = .ok (.iaload, 1) := by decide +kernel
theorem dX5_placeOf_54 : decode cX5_placeOf 54 = .ok (.isub, 1) := by decide +kernel
theorem dX5_placeOf_55 : decode cX5_placeOf 55 = .ok (.i2l, 1) := by decide +kernel
theorem dX5_placeOf_56 : decode cX5_placeOf 56 = .ok (.lcmp, 1) := by decide +kernel
theorem dX5_placeOf_57 : decode cX5_placeOf 57 = .ok (.ifCond .le 7, 3) := by decide +kernel
theorem dX5_placeOf_60 : decode cX5_placeOf 60 = .ok (.iconst (-1), 1) := by decide +kernel
theorem dX5_placeOf_61 : decode cX5_placeOf 61 = .ok (.goto 6, 3) := by decide +kernel
theorem dX5_placeOf_64 : decode cX5_placeOf 64 = .ok (.lload 4, 2) := by decide +kernel
theorem dX5_placeOf_66 : decode cX5_placeOf 66 = .ok (.l2i, 1) := by decide +kernel
theorem dX5_placeOf_67 : decode cX5_placeOf 67 = .ok (.ireturn, 1) := by decide +kernel
set_option maxRecDepth 20000 in
theorem ggX5_step_X5_read : GoodIn wsX5_step wsX5_read := goodIn_r _ [11, 12, 13, 14, 15, 16, 17, 18, 10, 19, 20, 21, 22, 23, 24, 49, 50, 51, 52, 53, 54, 55, 56, 57, 58, 59, 60, 61, 62, 63, 64, 65, 66, 67, 68, 69, 70, 71, 72, 73, 74, 75, 76, 77, 78, 79, 80, 81] (by decide +kernel) (by decide +kernel)
set_option maxRecDepth 20000 in
theorem gX5_step_X5_read : GoodIn wsX5_step (wsV RX5 181 RX5 yX5_read wsX5_read) := goodIn_app (goodIn_of _ (by decide +kernel)) ggX5_step_X5_read
set_option maxRecDepth 20000 in
theorem ggX5_step_X5_placeOf : GoodIn wsX5_step wsX5_placeOf := goodIn_r _ [28, 29, 30, 5, 15, 49, 50, 51, 52, 53, 54, 55, 56, 57, 58, 59, 60, 61, 62, 63, 64, 65, 66, 67, 68, 69, 70, 71, 72, 73, 74, 75, 76, 77, 78, 79, 80, 81] (by decide +kernel) (by decide +kernel)
set_option maxRecDepth 20000 in
theorem gX5_step_X5_placeOf : GoodIn wsX5_step (wsV RX5 185 RX5 yX5_placeOf wsX5_placeOf) := goodIn_app (goodIn_of _ (by decide +kernel)) ggX5_step_X5_placeOf
set_option maxRecDepth 20000 in
theorem ggX5_step_X5_store : GoodIn wsX5_step wsX5_store := goodIn_r _ [34, 12, 13, 14, 35, 36, 37, 15, 38, 39, 40, 10, 41, 42, 43, 44, 45, 20, 49, 50, 51, 52, 53, 54, 55, 56, 57, 58, 59, 60, 61, 62, 63, 64, 65, 66, 67, 68, 69, 70, 71, 72, 73, 74, 75, 76, 77, 78, 79, 80, 81] (by decide +kernel) (by decide +kernel)
set_option maxRecDepth 20000 in
theorem gX5_step_X5_store : GoodIn wsX5_step (wsV RX5 189 RX5 yX5_store wsX5_store) := goodIn_app (goodIn_of _ (by decide +kernel)) ggX5_step_X5_store
set_option maxRecDepth 20000 in
theorem ggX5_step_X5_reckoned : GoodIn wsX5_step wsX5_reckoned := goodIn_r _ [48] (by decide +kernel) (by decide +kernel)
set_option maxRecDepth 20000 in
theorem gX5_step_X5_reckoned : GoodIn wsX5_step (va_wsS RX5 142 yX5_reckoned wsX5_reckoned) := goodIn_app (goodIn_of _ (by decide +kernel)) ggX5_step_X5_reckoned
theorem dX5_step_0 : decode cX5_step 0 = .ok (.iconst 0, 1) := by decide +kernel
theorem dX5_step_1 : decode cX5_step 1 = .ok (.istore_n 2, 1) := by decide +kernel
theorem dX5_step_2 : decode cX5_step 2 = .ok (.iconst 0, 1) := by decide +kernel
theorem dX5_step_3 : decode cX5_step 3 = .ok (.istore_n 3, 1) := by decide +kernel
theorem dX5_step_4 : decode cX5_step 4 = .ok (.iconst 0, 1) := by decide +kernel
theorem dX5_step_5 : decode cX5_step 5 = .ok (.istore 4, 2) := by decide +kernel
theorem dX5_step_7 : decode cX5_step 7 = .ok (.iconst 0, 1) := by decide +kernel
theorem dX5_step_8 : decode cX5_step 8 = .ok (.istore 5, 2) := by decide +kernel
theorem dX5_step_10 : decode cX5_step 10 = .ok (.iload 5, 2) := by decide +kernel
theorem dX5_step_12 : decode cX5_step 12 = .ok (.aload_n 0, 1) := by decide +kernel
theorem dX5_step_13 : decode cX5_step 13 = .ok (.getfield 149, 3) := by decide +kernel
theorem dX5_step_16 : decode cX5_step 16 = .ok (.if_icmp .ge 477, 3) := by decide +kernel
