theorem dX1_init_0 : decode cX1_init 0 = .ok (.aload_n 0, 1) := by decide +kernel
theorem dX1_init_1 : decode cX1_init 1 = .ok (.invokespecial 3, 3) := by decide +kernel
theorem dX1_init_4 : decode cX1_init 4 = .ok (.aload_n 0, 1) := by decide +kernel
theorem dX1_init_5 : decode cX1_init 5 = .ok (.sipush 400, 3) := by decide +kernel
theorem dX1_init_8 : decode cX1_init 8 = .ok (.newarray .int, 2) := by decide +kernel
theorem dX1_init_10 : decode cX1_init 10 = .ok (.putfield 9, 3) := by decide +kernel
theorem dX1_init_13 : decode cX1_init 13 = .ok (.aload_n 0, 1) := by decide +kernel
theorem dX1_init_14 : decode cX1_init 14 = .ok (.sipush 400, 3) := by decide +kernel
theorem dX1_init_17 : decode cX1_init 17 = .ok (.newarray .long, 2) := by decide +kernel
theorem dX1_init_19 : decode cX1_init 19 = .ok (.putfield 15, 3) := by decide +kernel
theorem dX1_init_22 : decode cX1_init 22 = .ok (.aload_n 0, 1) := by decide +kernel
theorem dX1_init_23 : decode cX1_init 23 = .ok (.sipush 400, 3) := by decide +kernel
theorem dX1_init_26 : decode cX1_init 26 = .ok (.newarray .boolean, 2) := by decide +kernel
theorem dX1_init_28 : decode cX1_init 28 = .ok (.putfield 19, 3) := by decide +kernel
theorem dX1_init_31 : decode cX1_init 31 = .ok (.aload_n 0, 1) := by decide +kernel
theorem dX1_init_32 : decode cX1_init 32 = .ok (.sipush 201, 3) := by decide +kernel
theorem dX1_init_35 : decode cX1_init 35 = .ok (.newarray .long, 2) := by decide +kernel
theorem dX1_init_37 : decode cX1_init 37 = .ok (.putfield 23, 3) := by decide +kernel
theorem dX1_init_40 : decode cX1_init 40 = .ok (.aload_n 0, 1) := by decide +kernel
theorem dX1_init_41 : decode cX1_init 41 = .ok (.aload_n 1, 1) := by decide +kernel
theorem dX1_init_42 : decode cX1_init 42 = .ok (.putfield 26, 3) := by decide +kernel
theorem dX1_init_45 : decode cX1_init 45 = .ok (.return_, 1) := by decide +kernel
theorem dX1_has_0 : decode cX1_has 0 = .ok (.iload_n 1, 1) := by decide +kernel
theorem dX1_has_1 : decode cX1_has 1 = .ok (.ifCond .lt 15, 3) := by decide +kernel
theorem dX1_has_4 : decode cX1_has 4 = .ok (.iload_n 1, 1) := by decide +kernel
theorem dX1_has_5 : decode cX1_has 5 = .ok (.aload_n 0, 1) := by decide +kernel
theorem dX1_has_6 : decode cX1_has 6 = .ok (.getfield 30, 3) := by decide +kernel
theorem dX1_has_9 : decode cX1_has 9 = .ok (.if_icmp .ge 7, 3) := by decide +kernel
theorem dX1_has_12 : decode cX1_has 12 = .ok (.iconst 1, 1) := by decide +kernel
theorem dX1_has_13 : decode cX1_has 13 = .ok (.goto 4, 3) := by decide +kernel
theorem dX1_has_16 : decode cX1_has 16 = .ok (.iconst 0, 1) := by decide +kernel
theorem dX1_has_17 : decode cX1_has 17 = .ok (.ireturn, 1) := by decide +kernel
set_option maxRecDepth 20000 in
theorem ggX1_opOf_X1_has : GoodIn wsX1_opOf wsX1_has := goodIn_r _ [6, 7, 8, 9, 10, 11, 12, 13, 14] (by decide +kernel) (by decide +kernel)
set_option maxRecDepth 20000 in
theorem gX1_opOf_X1_has : GoodIn wsX1_opOf (wsV RX1 34 RX1 yX1_has wsX1_has) := goodIn_app (goodIn_of _ (by decide +kernel)) ggX1_opOf_X1_has
theorem dX1_opOf_0 : decode cX1_opOf 0 = .ok (.aload_n 0, 1) := by decide +kernel
theorem dX1_opOf_1 : decode cX1_opOf 1 = .ok (.iload_n 1, 1) := by decide +kernel
theorem dX1_opOf_2 : decode cX1_opOf 2 = .ok (.invokevirtual 34, 3) := by decide +kernel
theorem dX1_opOf_5 : decode cX1_opOf 5 = .ok (.ifCond .eq 12, 3) := by decide +kernel
theorem dX1_opOf_8 : decode cX1_opOf 8 = .ok (.aload_n 0, 1) := by decide +kernel
theorem dX1_opOf_9 : decode cX1_opOf 9 = .ok (.getfield 9, 3) := by decide +kernel
theorem dX1_opOf_12 : decode cX1_opOf 12 = .ok (.iload_n 1, 1) := by decide +kernel
theorem dX1_opOf_13 : decode cX1_opOf 13 = .ok (.iaload, 1) := by decide +kernel
theorem dX1_opOf_14 : decode cX1_opOf 14 = .ok (.goto 4, 3) := by decide +kernel
theorem dX1_opOf_17 : decode cX1_opOf 17 = .ok (.iconst (-1), 1) := by decide +kernel
theorem dX1_opOf_18 : decode cX1_opOf 18 = .ok (.ireturn, 1) := by decide +kernel
set_option maxRecDepth 20000 in
theorem ggX1_numberOf_X1_has : GoodIn wsX1_numberOf wsX1_has := goodIn_r _ [7, 8, 9, 10, 11, 12, 13, 14, 15] (by decide +kernel) (by decide +kernel)
set_option maxRecDepth 20000 in
theorem gX1_numberOf_X1_has : GoodIn wsX1_numberOf (wsV RX1 34 RX1 yX1_has wsX1_has) := goodIn_app (goodIn_of _ (by decide +kernel)) ggX1_numberOf_X1_has
theorem dX1_numberOf_0 : decode cX1_numberOf 0 = .ok (.aload_n 0, 1) := by decide +kernel
theorem dX1_numberOf_1 : decode cX1_numberOf 1 = .ok (.iload_n 1, 1) := by decide +kernel
theorem dX1_numberOf_2 : decode cX1_numberOf 2 = .ok (.invokevirtual 34, 3) := by decide +kernel
theorem dX1_numberOf_5 : decode cX1_numberOf 5 = .ok (.ifCond .eq 12, 3) := by decide +kernel
theorem dX1_numberOf_8 : decode cX1_numberOf 8 = .ok (.aload_n 0, 1) := by decide +kernel
theorem dX1_numberOf_9 : decode cX1_numberOf 9 = .ok (.getfield 15, 3) := by decide +kernel
theorem dX1_numberOf_12 : decode cX1_numberOf 12 = .ok (.iload_n 1, 1) := by decide +kernel
theorem dX1_numberOf_13 : decode cX1_numberOf 13 = .ok (.laload, 1) := by decide +kernel
theorem dX1_numberOf_14 : decode cX1_numberOf 14 = .ok (.goto 6, 3) := by decide +kernel
theorem dX1_numberOf_17 : decode cX1_numberOf 17 = .ok (.ldc2_w 38, 3) := by decide +kernel
theorem dX1_numberOf_20 : decode cX1_numberOf 20 = .ok (.lreturn, 1) := by decide +kernel
set_option maxRecDepth 20000 in
theorem ggX1_isShort_X1_has : GoodIn wsX1_isShort wsX1_has := goodIn_r _ [6, 7, 8, 9, 10, 11, 12, 13, 14] (by decide +kernel) (by decide +kernel)
set_option maxRecDepth 20000 in
theorem gX1_isShort_X1_has : GoodIn wsX1_isShort (wsV RX1 34 RX1 yX1_has wsX1_has) := goodIn_app (goodIn_of _ (by decide +kernel)) ggX1_isShort_X1_has
theorem dX1_isShort_0 : decode cX1_isShort 0 = .ok (.aload_n 0, 1) := by decide +kernel
theorem dX1_isShort_1 : decode cX1_isShort 1 = .ok (.iload_n 1, 1) := by decide +kernel
theorem dX1_isShort_2 : decode cX1_isShort 2 = .ok (.invokevirtual 34, 3) := by decide +kernel
theorem dX1_isShort_5 : decode cX1_isShort 5 = .ok (.ifCond .eq 16, 3) := by decide +kernel
theorem dX1_isShort_8 : decode cX1_isShort 8 = .ok (.aload_n 0, 1) := by decide +kernel
theorem dX1_isShort_9 : decode cX1_isShort 9 = .ok (.getfield 19, 3) := by decide +kernel
theorem dX1_isShort_12 : decode cX1_isShort 12 = .ok (.iload_n 1, 1) := by decide +kernel
theorem dX1_isShort_13 : decode cX1_isShort 13 = .ok (.baload, 1) := by decide +kernel
theorem dX1_isShort_14 : decode cX1_isShort 14 = .ok (.ifCond .eq 7, 3) := by decide +kernel
theorem dX1_isShort_17 : decode cX1_isShort 17 = .ok (.iconst 1, 1) := by decide +kernel
theorem dX1_isShort_18 : decode cX1_isShort 18 = .ok (.goto 4, 3) := by decide +kernel
theorem dX1_isShort_21 : decode cX1_isShort 21 = .ok (.iconst 0, 1) := by decide +kernel
theorem dX1_isShort_22 : decode cX1_isShort 22 = .ok (.ireturn, 1) := by decide +kernel
theorem dX1_storingRow_0 : decode cX1_storingRow 0 = .ok (.iconst 0, 1) := by decide +kernel
theorem dX1_storingRow_1 : decode cX1_storingRow 1 = .ok (.istore_n 2, 1) := by decide +kernel
theorem dX1_storingRow_2 : decode cX1_storingRow 2 = .ok (.iconst 0, 1) := by decide +kernel
theorem dX1_storingRow_3 : decode cX1_storingRow 3 = .ok (.istore_n 3, 1) := by decide +kernel
theorem dX1_storingRow_4 : decode cX1_storingRow 4 = .ok (.iload_n 3, 1) := by decide +kernel
theorem dX1_storingRow_5 : decode cX1_storingRow 5 = .ok (.aload_n 0, 1) := by decide +kernel
theorem dX1_storingRow_6 : decode cX1_storingRow 6 = .ok (.getfield 30, 3) := by decide +kernel
theorem dX1_storingRow_9 : decode cX1_storingRow 9 = .ok (.if_icmp .ge 48, 3) := by decide +kernel
theorem dX1_storingRow_12 : decode cX1_storingRow 12 = .ok (.iload_n 3, 1) := by decide +kernel
theorem dX1_storingRow_13 : decode cX1_storingRow 13 = .ok (.sipush 400, 3) := by decide +kernel
theorem dX1_storingRow_16 : decode cX1_storingRow 16 = .ok (.if_icmp .ge 41, 3) := by decide +kernel
theorem dX1_storingRow_19 : decode cX1_storingRow 19 = .ok (.aload_n 0, 1) := by decide +kernel
theorem dX1_storingRow_20 : decode cX1_storingRow 20 = .ok (.getfield 9, 3) := by decide +kernel
theorem dX1_storingRow_23 : decode cX1_storingRow 23 = .ok (.iload_n 3, 1) := by decide +kernel
theorem dX1_storingRow_24 : decode cX1_storingRow 24 = .ok (.iaload, 1) := by decide +kernel
theorem dX1_storingRow_25 : decode cX1_storingRow 25 = .ok (.bipush 9, 2) := by decide +kernel
theorem dX1_storingRow_27 : decode cX1_storingRow 27 = .ok (.if_icmp .eq 14, 3) := by decide +kernel
theorem dX1_storingRow_30 : decode cX1_storingRow 30 = .ok (.aload_n 0, 1) := by decide +kernel
theorem dX1_storingRow_31 : decode cX1_storingRow 31 = .ok (.getfield 9, 3) := by decide +kernel
theorem dX1_storingRow_34 : decode cX1_storingRow 34 = .ok (.iload_n 3, 1) := by decide +kernel
theorem dX1_storingRow_35 : decode cX1_storingRow 35 = .ok (.iaload, 1) := by decide +kernel
theorem dX1_storingRow_36 : decode cX1_storingRow 36 = .ok (.bipush 10, 2) := by decide +kernel
theorem dX1_storingRow_38 : decode cX1_storingRow 38 = .ok (.if_icmp .ne 13, 3) := by decide +kernel
theorem dX1_storingRow_41 : decode cX1_storingRow 41 = .ok (.iload_n 2, 1) := by decide +kernel
theorem dX1_storingRow_42 : decode cX1_storingRow 42 = .ok (.iload_n 1, 1) := by decide +kernel
theorem dX1_storingRow_43 : decode cX1_storingRow 43 = .ok (.if_icmp .ne 5, 3) := by decide +kernel
theorem dX1_storingRow_46 : decode cX1_storingRow 46 = .ok (.iload_n 3, 1) := by decide +kernel
theorem dX1_storingRow_47 : decode cX1_storingRow 47 = .ok (.ireturn, 1) := by decide +kernel
theorem dX1_storingRow_48 : decode cX1_storingRow 48 = .ok (.iinc 2 1, 3) := by decide +kernel
theorem dX1_storingRow_51 : decode cX1_storingRow 51 = .ok (.iinc 3 1, 3) := by decide +kernel
theorem dX1_storingRow_54 : decode cX1_storingRow 54 = .ok (.goto (-50), 3) := by decide +kernel
theorem dX1_storingRow_57 : decode cX1_storingRow 57 = .ok (.iconst (-1), 1) := by decide +kernel
theorem dX1_storingRow_58 : decode cX1_storingRow 58 = .ok (.ireturn, 1) := by decide +kernel
set_option maxRecDepth 20000 in
theorem ggX1_build_X3_has : GoodIn wsX1_build wsX3_has := goodIn_r _ [7, 8, 76, 77, 78, 79, 80, 81, 82, 83, 84] (by decide +kernel) (by decide +kernel)
set_option maxRecDepth 20000 in
theorem gX1_build_X3_has : GoodIn wsX1_build (wsV RX1 40 RX3 yX3_has wsX3_has) := goodIn_app (goodIn_of _ (by decide +kernel)) ggX1_build_X3_has
set_option maxRecDepth 20000 in
theorem ggX1_build_X3_rowsOf : GoodIn wsX1_build wsX3_rowsOf := goodIn_r _ [12, 13, 14, 4, 5, 6, 7, 8, 76, 77, 78, 79, 80, 81, 82, 83, 84] (by decide +kernel) (by decide +kernel)
set_option maxRecDepth 20000 in
theorem gX1_build_X3_rowsOf : GoodIn wsX1_build (wsV RX1 43 RX3 yX3_rowsOf wsX3_rowsOf) := goodIn_app (goodIn_of _ (by decide +kernel)) ggX1_build_X3_rowsOf
set_option maxRecDepth 20000 in
theorem ggX1_build_X1_emit : GoodIn wsX1_build wsX1_emit := goodIn_r _ [19, 1, 2, 3, 4, 5, 6, 7, 8, 20, 21, 22, 23, 24, 14, 25, 26, 27, 28, 29, 30, 31, 32, 33, 34, 35, 36, 37, 38, 39, 40, 41, 42, 43, 44, 45, 46, 47, 18, 48, 49, 50, 51, 15, 16, 17, 52, 53, 54, 55, 56, 57, 58, 59, 60, 61, 62, 63, 64, 65, 66, 67, 68, 69, 70, 71, 72, 73, 74, 75, 76, 77, 78, 79, 80, 81, 82, 83, 84] (by decide +kernel) (by decide +kernel)
set_option maxRecDepth 20000 in
theorem gX1_build_X1_emit : GoodIn wsX1_build (wsV RX1 47 RX1 yX1_emit wsX1_emit) := goodIn_app (goodIn_of _ (by decide +kernel)) ggX1_build_X1_emit
theorem dX1_build_0 : decode cX1_build 0 = .ok (.aload_n 0, 1) := by decide +kernel
theorem dX1_build_1 : decode cX1_build 1 = .ok (.getfield 26, 3) := by decide +kernel
theorem dX1_build_4 : decode cX1_build 4 = .ok (.iload_n 1, 1) := by decide +kernel
theorem dX1_build_5 : decode cX1_build 5 = .ok (.invokevirtual 40, 3) := by decide +kernel
theorem dX1_build_8 : decode cX1_build 8 = .ok (.ifCond .ne 6, 3) := by decide +kernel
theorem dX1_build_11 : decode cX1_build 11 = .ok (.bipush (-2), 2) := by decide +kernel
theorem dX1_build_13 : decode cX1_build 13 = .ok (.ireturn, 1) := by decide +kernel
theorem dX1_build_14 : decode cX1_build 14 = .ok (.aload_n 0, 1) := by decide +kernel
theorem dX1_build_15 : decode cX1_build 15 = .ok (.iconst 0, 1) := by decide +kernel
theorem dX1_build_16 : decode cX1_build 16 = .ok (.putfield 30, 3) := by decide +kernel
theorem dX1_build_19 : decode cX1_build 19 = .ok (.aload_n 0, 1) := by decide +kernel
theorem dX1_build_20 : decode cX1_build 20 = .ok (.getfield 26, 3) := by decide +kernel
theorem dX1_build_23 : decode cX1_build 23 = .ok (.iload_n 1, 1) := by decide +kernel
theorem dX1_build_24 : decode cX1_build 24 = .ok (.invokevirtual 43, 3) := by decide +kernel
theorem dX1_build_27 : decode cX1_build 27 = .ok (.sipush 400, 3) := by decide +kernel
theorem dX1_build_30 : decode cX1_build 30 = .ok (.if_icmp .le 5, 3) := by decide +kernel
theorem dX1_build_33 : decode cX1_build 33 = .ok (.iconst (-1), 1) := by decide +kernel
theorem dX1_build_34 : decode cX1_build 34 = .ok (.ireturn, 1) := by decide +kernel
theorem dX1_build_35 : decode cX1_build 35 = .ok (.aload_n 0, 1) := by decide +kernel
theorem dX1_build_36 : decode cX1_build 36 = .ok (.iload_n 1, 1) := by decide +kernel
theorem dX1_build_37 : decode cX1_build 37 = .ok (.iconst 0, 1) := by decide +kernel
theorem dX1_build_38 : decode cX1_build 38 = .ok (.iconst 1, 1) := by decide +kernel
theorem dX1_build_39 : decode cX1_build 39 = .ok (.invokevirtual 47, 3) := by decide +kernel
theorem dX1_build_42 : decode cX1_build 42 = .ok (.aload_n 0, 1) := by decide +kernel
theorem dX1_build_43 : decode cX1_build 43 = .ok (.getfield 30, 3) := by decide +kernel
theorem dX1_build_46 : decode cX1_build 46 = .ok (.ireturn, 1) := by decide +kernel
set_option maxRecDepth 20000 in
theorem ggX1_emit_X3_has : GoodIn wsX1_emit wsX3_has := goodIn_r _ [7, 8, 70, 71, 72, 73, 74, 75, 76, 77, 78] (by decide +kernel) (by decide +kernel)
set_option maxRecDepth 20000 in
theorem gX1_emit_X3_has : GoodIn wsX1_emit (wsV RX1 40 RX3 yX3_has wsX3_has) := goodIn_app (goodIn_of _ (by decide +kernel)) ggX1_emit_X3_has
set_option maxRecDepth 20000 in
theorem ggX1_emit_X3_kindOf : GoodIn wsX1_emit wsX3_kindOf := goodIn_r _ [12, 13, 14, 4, 5, 6, 7, 8, 70, 71, 72, 73, 74, 75, 76, 77, 78] (by decide +kernel) (by decide +kernel)
set_option maxRecDepth 20000 in
theorem gX1_emit_X3_kindOf : GoodIn wsX1_emit (wsV RX1 51 RX3 yX3_kindOf wsX3_kindOf) := goodIn_app (goodIn_of _ (by decide +kernel)) ggX1_emit_X3_kindOf
set_option maxRecDepth 20000 in
theorem ggX1_emit_X3_firstOf : GoodIn wsX1_emit wsX3_firstOf := goodIn_r _ [18, 19, 14, 4, 5, 6, 7, 8, 70, 71, 72, 73, 74, 75, 76, 77, 78] (by decide +kernel) (by decide +kernel)
set_option maxRecDepth 20000 in
theorem gX1_emit_X3_firstOf : GoodIn wsX1_emit (wsV RX1 54 RX3 yX3_firstOf wsX3_firstOf) := goodIn_app (goodIn_of _ (by decide +kernel)) ggX1_emit_X3_firstOf
set_option maxRecDepth 20000 in
theorem ggX1_emit_X3_secondOf : GoodIn wsX1_emit wsX3_secondOf := goodIn_r _ [23, 24, 14, 4, 5, 6, 7, 8, 70, 71, 72, 73, 74, 75, 76, 77, 78] (by decide +kernel) (by decide +kernel)
set_option maxRecDepth 20000 in
theorem gX1_emit_X3_secondOf : GoodIn wsX1_emit (wsV RX1 57 RX3 yX3_secondOf wsX3_secondOf) := goodIn_app (goodIn_of _ (by decide +kernel)) ggX1_emit_X3_secondOf
set_option maxRecDepth 20000 in
theorem ggX1_emit_X3_isFolded : GoodIn wsX1_emit wsX3_isFolded := goodIn_r _ [28, 29, 14, 4, 5, 6, 7, 8, 70, 71, 72, 73, 74, 75, 76, 77, 78] (by decide +kernel) (by decide +kernel)
set_option maxRecDepth 20000 in
theorem gX1_emit_X3_isFolded : GoodIn wsX1_emit (wsV RX1 60 RX3 yX3_isFolded wsX3_isFolded) := goodIn_app (goodIn_of _ (by decide +kernel)) ggX1_emit_X3_isFolded
set_option maxRecDepth 20000 in
theorem ggX1_emit_X3_foldedOf : GoodIn wsX1_emit wsX3_foldedOf := goodIn_r _ [33, 34, 14, 4, 5, 6, 7, 8, 70, 71, 72, 73, 74, 75, 76, 77, 78] (by decide +kernel) (by decide +kernel)
set_option maxRecDepth 20000 in
theorem gX1_emit_X3_foldedOf : GoodIn wsX1_emit (wsV RX1 63 RX3 yX3_foldedOf wsX3_foldedOf) := goodIn_app (goodIn_of _ (by decide +kernel)) ggX1_emit_X3_foldedOf
set_option maxRecDepth 20000 in
theorem ggX1_emit_X1_addRow : GoodIn wsX1_emit wsX1_addRow := goodIn_r _ [39, 2, 40, 41, 42, 63, 64, 65, 66, 67, 68, 69] (by decide +kernel) (by decide +kernel)
set_option maxRecDepth 20000 in
theorem gX1_emit_X1_addRow : GoodIn wsX1_emit (wsV RX1 67 RX1 yX1_addRow wsX1_addRow) := goodIn_app (goodIn_of _ (by decide +kernel)) ggX1_emit_X1_addRow
set_option maxRecDepth 20000 in
theorem ggX1_emit_X1_emit : GoodIn wsX1_emit wsX1_emit := goodIn_r _ [0, 1, 2, 3, 4, 5, 6, 7, 8, 9, 10, 11, 12, 13, 14, 15, 16, 17, 18, 19, 20, 21, 22, 23, 24, 25, 26, 27, 28, 29, 30, 31, 32, 33, 34, 35, 36, 37, 38, 39, 40, 41, 42, 43, 44, 45, 46, 47, 48, 49, 50, 51, 52, 53, 54, 55, 56, 57, 58, 59, 60, 61, 62, 63, 64, 65, 66, 67, 68, 69, 70, 71, 72, 73, 74, 75, 76, 77, 78] (by decide +kernel) (by decide +kernel)
set_option maxRecDepth 20000 in
theorem gX1_emit_X1_emit : GoodIn wsX1_emit (wsV RX1 47 RX1 yX1_emit wsX1_emit) := goodIn_app (goodIn_of _ (by decide +kernel)) ggX1_emit_X1_emit
set_option maxRecDepth 20000 in
theorem ggX1_emit_X1_aim : GoodIn wsX1_emit wsX1_aim := goodIn_r _ [49, 41, 50, 51, 52, 38, 53, 2, 63, 64, 65, 66, 67, 68, 69] (by decide +kernel) (by decide +kernel)
set_option maxRecDepth 20000 in
theorem gX1_emit_X1_aim : GoodIn wsX1_emit (wsV RX1 71 RX1 yX1_aim wsX1_aim) := goodIn_app (goodIn_of _ (by decide +kernel)) ggX1_emit_X1_aim
set_option maxRecDepth 20000 in
theorem ggX1_emit_X3_digitsOf : GoodIn wsX1_emit wsX3_digitsOf := goodIn_r _ [57, 58, 14, 4, 5, 6, 7, 8, 70, 71, 72, 73, 74, 75, 76, 77, 78] (by decide +kernel) (by decide +kernel)
set_option maxRecDepth 20000 in
theorem gX1_emit_X3_digitsOf : GoodIn wsX1_emit (wsV RX1 75 RX3 yX3_digitsOf wsX3_digitsOf) := goodIn_app (goodIn_of _ (by decide +kernel)) ggX1_emit_X3_digitsOf
set_option maxRecDepth 20000 in
theorem ggX1_emit_X3_isValue : GoodIn wsX1_emit wsX3_isValue := goodIn_r _ [62, 13, 14, 4, 5, 6, 7, 8, 70, 71, 72, 73, 74, 75, 76, 77, 78] (by decide +kernel) (by decide +kernel)
set_option maxRecDepth 20000 in
theorem gX1_emit_X3_isValue : GoodIn wsX1_emit (wsV RX1 78 RX3 yX3_isValue wsX3_isValue) := goodIn_app (goodIn_of _ (by decide +kernel)) ggX1_emit_X3_isValue
theorem dX1_emit_0 : decode cX1_emit 0 = .ok (.iload_n 3, 1) := by decide +kernel
theorem dX1_emit_1 : decode cX1_emit 1 = .ok (.sipush 200, 3) := by decide +kernel
theorem dX1_emit_4 : decode cX1_emit 4 = .ok (.if_icmp .gt 14, 3) := by decide +kernel
theorem dX1_emit_7 : decode cX1_emit 7 = .ok (.aload_n 0, 1) := by decide +kernel
theorem dX1_emit_8 : decode cX1_emit 8 = .ok (.getfield 26, 3) := by decide +kernel
theorem dX1_emit_11 : decode cX1_emit 11 = .ok (.iload_n 1, 1) := by decide +kernel
theorem dX1_emit_12 : decode cX1_emit 12 = .ok (.invokevirtual 40, 3) := by decide +kernel
theorem dX1_emit_15 : decode cX1_emit 15 = .ok (.ifCond .ne 4, 3) := by decide +kernel
theorem dX1_emit_18 : decode cX1_emit 18 = .ok (.return_, 1) := by decide +kernel
theorem dX1_emit_19 : decode cX1_emit 19 = .ok (.aload_n 0, 1) := by decide +kernel
theorem dX1_emit_20 : decode cX1_emit 20 = .ok (.getfield 26, 3) := by decide +kernel
theorem dX1_emit_23 : decode cX1_emit 23 = .ok (.iload_n 1, 1) := by decide +kernel
theorem dX1_emit_24 : decode cX1_emit 24 = .ok (.invokevirtual 51, 3) := by decide +kernel
theorem dX1_emit_27 : decode cX1_emit 27 = .ok (.istore 4, 2) := by decide +kernel
theorem dX1_emit_29 : decode cX1_emit 29 = .ok (.aload_n 0, 1) := by decide +kernel
theorem dX1_emit_30 : decode cX1_emit 30 = .ok (.getfield 26, 3) := by decide +kernel
theorem dX1_emit_33 : decode cX1_emit 33 = .ok (.iload_n 1, 1) := by decide +kernel
theorem dX1_emit_34 : decode cX1_emit 34 = .ok (.invokevirtual 54, 3) := by decide +kernel
theorem dX1_emit_37 : decode cX1_emit 37 = .ok (.istore 5, 2) := by decide +kernel
theorem dX1_emit_39 : decode cX1_emit 39 = .ok (.aload_n 0, 1) := by decide +kernel
theorem dX1_emit_40 : decode cX1_emit 40 = .ok (.getfield 26, 3) := by decide +kernel
theorem dX1_emit_43 : decode cX1_emit 43 = .ok (.iload_n 1, 1) := by decide +kernel
theorem dX1_emit_44 : decode cX1_emit 44 = .ok (.invokevirtual 57, 3) := by decide +kernel
theorem dX1_emit_47 : decode cX1_emit 47 = .ok (.istore 6, 2) := by decide +kernel
theorem dX1_emit_49 : decode cX1_emit 49 = .ok (.aload_n 0, 1) := by decide +kernel
theorem dX1_emit_50 : decode cX1_emit 50 = .ok (.getfield 26, 3) := by decide +kernel
theorem dX1_emit_53 : decode cX1_emit 53 = .ok (.iload_n 1, 1) := by decide +kernel
theorem dX1_emit_54 : decode cX1_emit 54 = .ok (.invokevirtual 60, 3) := by decide +kernel
theorem dX1_emit_57 : decode cX1_emit 57 = .ok (.ifCond .eq 20, 3) := by decide +kernel
theorem dX1_emit_60 : decode cX1_emit 60 = .ok (.aload_n 0, 1) := by decide +kernel
theorem dX1_emit_61 : decode cX1_emit 61 = .ok (.iconst 0, 1) := by decide +kernel
theorem dX1_emit_62 : decode cX1_emit 62 = .ok (.aload_n 0, 1) := by decide +kernel
theorem dX1_emit_63 : decode cX1_emit 63 = .ok (.getfield 26, 3) := by decide +kernel
theorem dX1_emit_66 : decode cX1_emit 66 = .ok (.iload_n 1, 1) := by decide +kernel
theorem dX1_emit_67 : decode cX1_emit 67 = .ok (.invokevirtual 63, 3) := by decide +kernel
theorem dX1_emit_70 : decode cX1_emit 70 = .ok (.iconst 0, 1) := by decide +kernel
theorem dX1_emit_71 : decode cX1_emit 71 = .ok (.invokevirtual 67, 3) := by decide +kernel
theorem dX1_emit_74 : decode cX1_emit 74 = .ok (.goto 273, 3) := by decide +kernel
theorem dX1_emit_77 : decode cX1_emit 77 = .ok (.iload 4, 2) := by decide +kernel
theorem dX1_emit_79 : decode cX1_emit 79 = .ok (.iconst 1, 1) := by decide +kernel
theorem dX1_emit_80 : decode cX1_emit 80 = .ok (.if_icmp .ne 15, 3) := by decide +kernel
theorem dX1_emit_83 : decode cX1_emit 83 = .ok (.aload_n 0, 1) := by decide +kernel
theorem dX1_emit_84 : decode cX1_emit 84 = .ok (.iconst 1, 1) := by decide +kernel
theorem dX1_emit_85 : decode cX1_emit 85 = .ok (.iload 5, 2) := by decide +kernel
theorem dX1_emit_87 : decode cX1_emit 87 = .ok (.i2l, 1) := by decide +kernel
theorem dX1_emit_88 : decode cX1_emit 88 = .ok (.iconst 0, 1) := by decide +kernel
theorem dX1_emit_89 : decode cX1_emit 89 = .ok (.invokevirtual 67, 3) := by decide +kernel
theorem dX1_emit_92 : decode cX1_emit 92 = .ok (.goto 255, 3) := by decide +kernel
theorem dX1_emit_95 : decode cX1_emit 95 = .ok (.iload 4, 2) := by decide +kernel
theorem dX1_emit_97 : decode cX1_emit 97 = .ok (.iconst 2, 1) := by decide +kernel
theorem dX1_emit_98 : decode cX1_emit 98 = .ok (.if_icmp .eq 10, 3) := by decide +kernel
theorem dX1_emit_101 : decode cX1_emit 101 = .ok (.iload 4, 2) := by decide +kernel
theorem dX1_emit_103 : decode cX1_emit 103 = .ok (.bipush 9, 2) := by decide +kernel
theorem dX1_emit_105 : decode cX1_emit 105 = .ok (.if_icmp .ne 26, 3) := by decide +kernel
theorem dX1_emit_108 : decode cX1_emit 108 = .ok (.aload_n 0, 1) := by decide +kernel
theorem dX1_emit_109 : decode cX1_emit 109 = .ok (.iload 6, 2) := by decide +kernel
theorem dX1_emit_111 : decode cX1_emit 111 = .ok (.iconst 0, 1) := by decide +kernel
theorem dX1_emit_112 : decode cX1_emit 112 = .ok (.iload_n 3, 1) := by decide +kernel
theorem dX1_emit_113 : decode cX1_emit 113 = .ok (.iconst 1, 1) := by decide +kernel
theorem dX1_emit_114 : decode cX1_emit 114 = .ok (.iadd, 1) := by decide +kernel
theorem dX1_emit_115 : decode cX1_emit 115 = .ok (.invokevirtual 47, 3) := by decide +kernel
theorem dX1_emit_118 : decode cX1_emit 118 = .ok (.aload_n 0, 1) := by decide +kernel
theorem dX1_emit_119 : decode cX1_emit 119 = .ok (.iload 4, 2) := by decide +kernel
theorem dX1_emit_121 : decode cX1_emit 121 = .ok (.iload 5, 2) := by decide +kernel
theorem dX1_emit_123 : decode cX1_emit 123 = .ok (.i2l, 1) := by decide +kernel
theorem dX1_emit_124 : decode cX1_emit 124 = .ok (.iconst 0, 1) := by decide +kernel
theorem dX1_emit_125 : decode cX1_emit 125 = .ok (.invokevirtual 67, 3) := by decide +kernel
theorem dX1_emit_128 : decode cX1_emit 128 = .ok (.goto 219, 3) := by decide +kernel
theorem dX1_emit_131 : decode cX1_emit 131 = .ok (.iload 4, 2) := by decide +kernel
theorem dX1_emit_133 : decode cX1_emit 133 = .ok (.bipush 10, 2) := by decide +kernel
theorem dX1_emit_135 : decode cX1_emit 135 = .ok (.if_icmp .ne 50, 3) := by decide +kernel
theorem dX1_emit_138 : decode cX1_emit 138 = .ok (.aload_n 0, 1) := by decide +kernel
theorem dX1_emit_139 : decode cX1_emit 139 = .ok (.aload_n 0, 1) := by decide +kernel
theorem dX1_emit_140 : decode cX1_emit 140 = .ok (.getfield 26, 3) := by decide +kernel
theorem dX1_emit_143 : decode cX1_emit 143 = .ok (.iload 6, 2) := by decide +kernel
theorem dX1_emit_145 : decode cX1_emit 145 = .ok (.invokevirtual 54, 3) := by decide +kernel
theorem dX1_emit_148 : decode cX1_emit 148 = .ok (.iconst 0, 1) := by decide +kernel
theorem dX1_emit_149 : decode cX1_emit 149 = .ok (.iload_n 3, 1) := by decide +kernel
theorem dX1_emit_150 : decode cX1_emit 150 = .ok (.iconst 1, 1) := by decide +kernel
theorem dX1_emit_151 : decode cX1_emit 151 = .ok (.iadd, 1) := by decide +kernel
theorem dX1_emit_152 : decode cX1_emit 152 = .ok (.invokevirtual 47, 3) := by decide +kernel
theorem dX1_emit_155 : decode cX1_emit 155 = .ok (.aload_n 0, 1) := by decide +kernel
theorem dX1_emit_156 : decode cX1_emit 156 = .ok (.aload_n 0, 1) := by decide +kernel
theorem dX1_emit_157 : decode cX1_emit 157 = .ok (.getfield 26, 3) := by decide +kernel
theorem dX1_emit_160 : decode cX1_emit 160 = .ok (.iload 6, 2) := by decide +kernel
theorem dX1_emit_162 : decode cX1_emit 162 = .ok (.invokevirtual 57, 3) := by decide +kernel
theorem dX1_emit_165 : decode cX1_emit 165 = .ok (.iconst 0, 1) := by decide +kernel
theorem dX1_emit_166 : decode cX1_emit 166 = .ok (.iload_n 3, 1) := by decide +kernel
theorem dX1_emit_167 : decode cX1_emit 167 = .ok (.iconst 1, 1) := by decide +kernel
theorem dX1_emit_168 : decode cX1_emit 168 = .ok (.iadd, 1) := by decide +kernel
theorem dX1_emit_169 : decode cX1_emit 169 = .ok (.invokevirtual 47, 3) := by decide +kernel
theorem dX1_emit_172 : decode cX1_emit 172 = .ok (.aload_n 0, 1) := by decide +kernel
theorem dX1_emit_173 : decode cX1_emit 173 = .ok (.bipush 10, 2) := by decide +kernel
theorem dX1_emit_175 : decode cX1_emit 175 = .ok (.iload 5, 2) := by decide +kernel
theorem dX1_emit_177 : decode cX1_emit 177 = .ok (.i2l, 1) := by decide +kernel
theorem dX1_emit_178 : decode cX1_emit 178 = .ok (.iconst 0, 1) := by decide +kernel
theorem dX1_emit_179 : decode cX1_emit 179 = .ok (.invokevirtual 67, 3) := by decide +kernel
theorem dX1_emit_182 : decode cX1_emit 182 = .ok (.goto 165, 3) := by decide +kernel
theorem dX1_emit_185 : decode cX1_emit 185 = .ok (.iload 4, 2) := by decide +kernel
theorem dX1_emit_187 : decode cX1_emit 187 = .ok (.bipush 11, 2) := by decide +kernel
theorem dX1_emit_189 : decode cX1_emit 189 = .ok (.if_icmp .ne 26, 3) := by decide +kernel
theorem dX1_emit_192 : decode cX1_emit 192 = .ok (.aload_n 0, 1) := by decide +kernel
theorem dX1_emit_193 : decode cX1_emit 193 = .ok (.iload 5, 2) := by decide +kernel
theorem dX1_emit_195 : decode cX1_emit 195 = .ok (.iconst 1, 1) := by decide +kernel
theorem dX1_emit_196 : decode cX1_emit 196 = .ok (.iload_n 3, 1) := by decide +kernel
theorem dX1_emit_197 : decode cX1_emit 197 = .ok (.iconst 1, 1) := by decide +kernel
theorem dX1_emit_198 : decode cX1_emit 198 = .ok (.iadd, 1) := by decide +kernel
theorem dX1_emit_199 : decode cX1_emit 199 = .ok (.invokevirtual 47, 3) := by decide +kernel
theorem dX1_emit_202 : decode cX1_emit 202 = .ok (.aload_n 0, 1) := by decide +kernel
theorem dX1_emit_203 : decode cX1_emit 203 = .ok (.iload 6, 2) := by decide +kernel
theorem dX1_emit_205 : decode cX1_emit 205 = .ok (.iconst 1, 1) := by decide +kernel
theorem dX1_emit_206 : decode cX1_emit 206 = .ok (.iload_n 3, 1) := by decide +kernel
theorem dX1_emit_207 : decode cX1_emit 207 = .ok (.iconst 1, 1) := by decide +kernel
theorem dX1_emit_208 : decode cX1_emit 208 = .ok (.iadd, 1) := by decide +kernel
theorem dX1_emit_209 : decode cX1_emit 209 = .ok (.invokevirtual 47, 3) := by decide +kernel
theorem dX1_emit_212 : decode cX1_emit 212 = .ok (.goto 135, 3) := by decide +kernel
theorem dX1_emit_215 : decode cX1_emit 215 = .ok (.iload 4, 2) := by decide +kernel
theorem dX1_emit_217 : decode cX1_emit 217 = .ok (.bipush 12, 2) := by decide +kernel
theorem dX1_emit_219 : decode cX1_emit 219 = .ok (.if_icmp .eq 10, 3) := by decide +kernel
theorem dX1_emit_222 : decode cX1_emit 222 = .ok (.iload 4, 2) := by decide +kernel
theorem dX1_emit_224 : decode cX1_emit 224 = .ok (.bipush 13, 2) := by decide +kernel
theorem dX1_emit_226 : decode cX1_emit 226 = .ok (.if_icmp .ne 69, 3) := by decide +kernel
theorem dX1_emit_229 : decode cX1_emit 229 = .ok (.aload_n 0, 1) := by decide +kernel
theorem dX1_emit_230 : decode cX1_emit 230 = .ok (.iload 5, 2) := by decide +kernel
theorem dX1_emit_232 : decode cX1_emit 232 = .ok (.iconst 0, 1) := by decide +kernel
theorem dX1_emit_233 : decode cX1_emit 233 = .ok (.iload_n 3, 1) := by decide +kernel
theorem dX1_emit_234 : decode cX1_emit 234 = .ok (.iconst 1, 1) := by decide +kernel
theorem dX1_emit_235 : decode cX1_emit 235 = .ok (.iadd, 1) := by decide +kernel
theorem dX1_emit_236 : decode cX1_emit 236 = .ok (.invokevirtual 47, 3) := by decide +kernel
theorem dX1_emit_239 : decode cX1_emit 239 = .ok (.aload_n 0, 1) := by decide +kernel
theorem dX1_emit_240 : decode cX1_emit 240 = .ok (.getfield 30, 3) := by decide +kernel
theorem dX1_emit_243 : decode cX1_emit 243 = .ok (.istore 7, 2) := by decide +kernel
theorem dX1_emit_245 : decode cX1_emit 245 = .ok (.aload_n 0, 1) := by decide +kernel
theorem dX1_emit_246 : decode cX1_emit 246 = .ok (.iload 4, 2) := by decide +kernel
theorem dX1_emit_248 : decode cX1_emit 248 = .ok (.lconst 0, 1) := by decide +kernel
theorem dX1_emit_249 : decode cX1_emit 249 = .ok (.iconst 0, 1) := by decide +kernel
theorem dX1_emit_250 : decode cX1_emit 250 = .ok (.invokevirtual 67, 3) := by decide +kernel
theorem dX1_emit_253 : decode cX1_emit 253 = .ok (.aload_n 0, 1) := by decide +kernel
theorem dX1_emit_254 : decode cX1_emit 254 = .ok (.iload 6, 2) := by decide +kernel
theorem dX1_emit_256 : decode cX1_emit 256 = .ok (.iconst 1, 1) := by decide +kernel
theorem dX1_emit_257 : decode cX1_emit 257 = .ok (.iload_n 3, 1) := by decide +kernel
theorem dX1_emit_258 : decode cX1_emit 258 = .ok (.iconst 1, 1) := by decide +kernel
theorem dX1_emit_259 : decode cX1_emit 259 = .ok (.iadd, 1) := by decide +kernel
theorem dX1_emit_260 : decode cX1_emit 260 = .ok (.invokevirtual 47, 3) := by decide +kernel
theorem dX1_emit_263 : decode cX1_emit 263 = .ok (.iload 4, 2) := by decide +kernel
theorem dX1_emit_265 : decode cX1_emit 265 = .ok (.bipush 13, 2) := by decide +kernel
theorem dX1_emit_267 : decode cX1_emit 267 = .ok (.if_icmp .ne 15, 3) := by decide +kernel
theorem dX1_emit_270 : decode cX1_emit 270 = .ok (.aload_n 0, 1) := by decide +kernel
theorem dX1_emit_271 : decode cX1_emit 271 = .ok (.bipush 14, 2) := by decide +kernel
theorem dX1_emit_273 : decode cX1_emit 273 = .ok (.iload 7, 2) := by decide +kernel
theorem dX1_emit_275 : decode cX1_emit 275 = .ok (.iconst 1, 1) := by decide +kernel
theorem dX1_emit_276 : decode cX1_emit 276 = .ok (.iadd, 1) := by decide +kernel
theorem dX1_emit_277 : decode cX1_emit 277 = .ok (.i2l, 1) := by decide +kernel
theorem dX1_emit_278 : decode cX1_emit 278 = .ok (.iconst 0, 1) := by decide +kernel
theorem dX1_emit_279 : decode cX1_emit 279 = .ok (.invokevirtual 67, 3) := by decide +kernel
theorem dX1_emit_282 : decode cX1_emit 282 = .ok (.aload_n 0, 1) := by decide +kernel
theorem dX1_emit_283 : decode cX1_emit 283 = .ok (.iload 7, 2) := by decide +kernel
theorem dX1_emit_285 : decode cX1_emit 285 = .ok (.aload_n 0, 1) := by decide +kernel
theorem dX1_emit_286 : decode cX1_emit 286 = .ok (.getfield 30, 3) := by decide +kernel
theorem dX1_emit_289 : decode cX1_emit 289 = .ok (.invokevirtual 71, 3) := by decide +kernel
theorem dX1_emit_292 : decode cX1_emit 292 = .ok (.goto 55, 3) := by decide +kernel
theorem dX1_emit_295 : decode cX1_emit 295 = .ok (.aload_n 0, 1) := by decide +kernel
theorem dX1_emit_296 : decode cX1_emit 296 = .ok (.iload 5, 2) := by decide +kernel
theorem dX1_emit_298 : decode cX1_emit 298 = .ok (.iconst 0, 1) := by decide +kernel
theorem dX1_emit_299 : decode cX1_emit 299 = .ok (.iload_n 3, 1) := by decide +kernel
theorem dX1_emit_300 : decode cX1_emit 300 = .ok (.iconst 1, 1) := by decide +kernel
theorem dX1_emit_301 : decode cX1_emit 301 = .ok (.iadd, 1) := by decide +kernel
theorem dX1_emit_302 : decode cX1_emit 302 = .ok (.invokevirtual 47, 3) := by decide +kernel
theorem dX1_emit_305 : decode cX1_emit 305 = .ok (.aload_n 0, 1) := by decide +kernel
theorem dX1_emit_306 : decode cX1_emit 306 = .ok (.iload 6, 2) := by decide +kernel
theorem dX1_emit_308 : decode cX1_emit 308 = .ok (.iconst 0, 1) := by decide +kernel
theorem dX1_emit_309 : decode cX1_emit 309 = .ok (.iload_n 3, 1) := by decide +kernel
theorem dX1_emit_310 : decode cX1_emit 310 = .ok (.iconst 1, 1) := by decide +kernel
theorem dX1_emit_311 : decode cX1_emit 311 = .ok (.iadd, 1) := by decide +kernel
theorem dX1_emit_312 : decode cX1_emit 312 = .ok (.invokevirtual 47, 3) := by decide +kernel
theorem dX1_emit_315 : decode cX1_emit 315 = .ok (.aload_n 0, 1) := by decide +kernel
theorem dX1_emit_316 : decode cX1_emit 316 = .ok (.iload 4, 2) := by decide +kernel
theorem dX1_emit_318 : decode cX1_emit 318 = .ok (.lconst 0, 1) := by decide +kernel
theorem dX1_emit_319 : decode cX1_emit 319 = .ok (.iload 4, 2) := by decide +kernel
theorem dX1_emit_321 : decode cX1_emit 321 = .ok (.bipush 6, 2) := by decide +kernel
theorem dX1_emit_323 : decode cX1_emit 323 = .ok (.if_icmp .gt 20, 3) := by decide +kernel
theorem dX1_emit_326 : decode cX1_emit 326 = .ok (.aload_n 0, 1) := by decide +kernel
theorem dX1_emit_327 : decode cX1_emit 327 = .ok (.getfield 26, 3) := by decide +kernel
theorem dX1_emit_330 : decode cX1_emit 330 = .ok (.iload_n 1, 1) := by decide +kernel
theorem dX1_emit_331 : decode cX1_emit 331 = .ok (.invokevirtual 75, 3) := by decide +kernel
theorem dX1_emit_334 : decode cX1_emit 334 = .ok (.bipush 18, 2) := by decide +kernel
theorem dX1_emit_336 : decode cX1_emit 336 = .ok (.if_icmp .gt 7, 3) := by decide +kernel
theorem dX1_emit_339 : decode cX1_emit 339 = .ok (.iconst 1, 1) := by decide +kernel
theorem dX1_emit_340 : decode cX1_emit 340 = .ok (.goto 4, 3) := by decide +kernel
theorem dX1_emit_343 : decode cX1_emit 343 = .ok (.iconst 0, 1) := by decide +kernel
theorem dX1_emit_344 : decode cX1_emit 344 = .ok (.invokevirtual 67, 3) := by decide +kernel
theorem dX1_emit_347 : decode cX1_emit 347 = .ok (.iload_n 2, 1) := by decide +kernel
theorem dX1_emit_348 : decode cX1_emit 348 = .ok (.ifCond .eq 22, 3) := by decide +kernel
theorem dX1_emit_351 : decode cX1_emit 351 = .ok (.aload_n 0, 1) := by decide +kernel
theorem dX1_emit_352 : decode cX1_emit 352 = .ok (.getfield 26, 3) := by decide +kernel
theorem dX1_emit_355 : decode cX1_emit 355 = .ok (.iload_n 1, 1) := by decide +kernel
theorem dX1_emit_356 : decode cX1_emit 356 = .ok (.invokevirtual 78, 3) := by decide +kernel
theorem dX1_emit_359 : decode cX1_emit 359 = .ok (.ifCond .eq 11, 3) := by decide +kernel
theorem dX1_emit_362 : decode cX1_emit 362 = .ok (.aload_n 0, 1) := by decide +kernel
theorem dX1_emit_363 : decode cX1_emit 363 = .ok (.bipush 15, 2) := by decide +kernel
theorem dX1_emit_365 : decode cX1_emit 365 = .ok (.lconst 0, 1) := by decide +kernel
theorem dX1_emit_366 : decode cX1_emit 366 = .ok (.iconst 0, 1) := by decide +kernel
theorem dX1_emit_367 : decode cX1_emit 367 = .ok (.invokevirtual 67, 3) := by decide +kernel
theorem dX1_emit_370 : decode cX1_emit 370 = .ok (.return_, 1) := by decide +kernel
theorem dX1_addRow_0 : decode cX1_addRow 0 = .ok (.aload_n 0, 1) := by decide +kernel
theorem dX1_addRow_1 : decode cX1_addRow 1 = .ok (.getfield 30, 3) := by decide +kernel
theorem dX1_addRow_4 : decode cX1_addRow 4 = .ok (.ifCond .lt 13, 3) := by decide +kernel
theorem dX1_addRow_7 : decode cX1_addRow 7 = .ok (.aload_n 0, 1) := by decide +kernel
theorem dX1_addRow_8 : decode cX1_addRow 8 = .ok (.getfield 30, 3) := by decide +kernel
theorem dX1_addRow_11 : decode cX1_addRow 11 = .ok (.sipush 400, 3) := by decide +kernel
theorem dX1_addRow_14 : decode cX1_addRow 14 = .ok (.if_icmp .lt 4, 3) := by decide +kernel
theorem dX1_addRow_17 : decode cX1_addRow 17 = .ok (.return_, 1) := by decide +kernel
theorem dX1_addRow_18 : decode cX1_addRow 18 = .ok (.aload_n 0, 1) := by decide +kernel
theorem dX1_addRow_19 : decode cX1_addRow 19 = .ok (.getfield 9, 3) := by decide +kernel
theorem dX1_addRow_22 : decode cX1_addRow 22 = .ok (.aload_n 0, 1) := by decide +kernel
theorem dX1_addRow_23 : decode cX1_addRow 23 = .ok (.getfield 30, 3) := by decide +kernel
theorem dX1_addRow_26 : decode cX1_addRow 26 = .ok (.iload_n 1, 1) := by decide +kernel
theorem dX1_addRow_27 : decode cX1_addRow 27 = .ok (.iastore, 1) := by decide +kernel
theorem dX1_addRow_28 : decode cX1_addRow 28 = .ok (.aload_n 0, 1) := by decide +kernel
theorem dX1_addRow_29 : decode cX1_addRow 29 = .ok (.getfield 15, 3) := by decide +kernel
theorem dX1_addRow_32 : decode cX1_addRow 32 = .ok (.aload_n 0, 1) := by decide +kernel
theorem dX1_addRow_33 : decode cX1_addRow 33 = .ok (.getfield 30, 3) := by decide +kernel
theorem dX1_addRow_36 : decode cX1_addRow 36 = .ok (.lload_n 2, 1) := by decide +kernel
theorem dX1_addRow_37 : decode cX1_addRow 37 = .ok (.lastore, 1) := by decide +kernel
theorem dX1_addRow_38 : decode cX1_addRow 38 = .ok (.aload_n 0, 1) := by decide +kernel
theorem dX1_addRow_39 : decode cX1_addRow 39 = .ok (.getfield 19, 3) := by decide +kernel
theorem dX1_addRow_42 : decode cX1_addRow 42 = .ok (.aload_n 0, 1) := by decide +kernel
theorem dX1_addRow_43 : decode cX1_addRow 43 = .ok (.getfield 30, 3) := by decide +kernel
theorem dX1_addRow_46 : decode cX1_addRow 46 = .ok (.iload 4, 2) := by decide +kernel
theorem dX1_addRow_48 : decode cX1_addRow 48 = .ok (.bastore, 1) := by decide +kernel
theorem dX1_addRow_49 : decode cX1_addRow 49 = .ok (.aload_n 0, 1) := by decide +kernel
theorem dX1_addRow_50 : decode cX1_addRow 50 = .ok (.dup, 1) := by decide +kernel
theorem dX1_addRow_51 : decode cX1_addRow 51 = .ok (.getfield 30, 3) := by decide +kernel
theorem dX1_addRow_54 : decode cX1_addRow 54 = .ok (.iconst 1, 1) := by decide +kernel
theorem dX1_addRow_55 : decode cX1_addRow 55 = .ok (.iadd, 1) := by decide +kernel
theorem dX1_addRow_56 : decode cX1_addRow 56 = .ok (.putfield 30, 3) := by decide +kernel
theorem dX1_addRow_59 : decode cX1_addRow 59 = .ok (.return_, 1) := by decide +kernel
set_option maxRecDepth 20000 in
theorem ggX1_aim_X1_has : GoodIn wsX1_aim wsX1_has := goodIn_r _ [6, 7, 8, 9, 10, 11, 12, 13, 14] (by decide +kernel) (by decide +kernel)
set_option maxRecDepth 20000 in
theorem gX1_aim_X1_has : GoodIn wsX1_aim (wsV RX1 34 RX1 yX1_has wsX1_has) := goodIn_app (goodIn_of _ (by decide +kernel)) ggX1_aim_X1_has
theorem dX1_aim_0 : decode cX1_aim 0 = .ok (.aload_n 0, 1) := by decide +kernel
theorem dX1_aim_1 : decode cX1_aim 1 = .ok (.iload_n 1, 1) := by decide +kernel
theorem dX1_aim_2 : decode cX1_aim 2 = .ok (.invokevirtual 34, 3) := by decide +kernel
theorem dX1_aim_5 : decode cX1_aim 5 = .ok (.ifCond .eq 11, 3) := by decide +kernel
theorem dX1_aim_8 : decode cX1_aim 8 = .ok (.aload_n 0, 1) := by decide +kernel
theorem dX1_aim_9 : decode cX1_aim 9 = .ok (.getfield 15, 3) := by decide +kernel
theorem dX1_aim_12 : decode cX1_aim 12 = .ok (.iload_n 1, 1) := by decide +kernel
theorem dX1_aim_13 : decode cX1_aim 13 = .ok (.iload_n 2, 1) := by decide +kernel
theorem dX1_aim_14 : decode cX1_aim 14 = .ok (.i2l, 1) := by decide +kernel
theorem dX1_aim_15 : decode cX1_aim 15 = .ok (.lastore, 1) := by decide +kernel
theorem dX1_aim_16 : decode cX1_aim 16 = .ok (.return_, 1) := by decide +kernel
set_option maxRecDepth 20000 in
theorem ggX1_stepAll_X2_begin : GoodIn wsX1_stepAll wsX2_begin := goodIn_r _ [7, 8, 9, 126, 127, 128, 129] (by decide +kernel) (by decide +kernel)
set_option maxRecDepth 20000 in
theorem gX1_stepAll_X2_begin : GoodIn wsX1_stepAll (wsV RX1 81 RX2 yX2_begin wsX2_begin) := goodIn_app (goodIn_of _ (by decide +kernel)) ggX1_stepAll_X2_begin
set_option maxRecDepth 20000 in
theorem ggX1_stepAll_X1_has : GoodIn wsX1_stepAll wsX1_has := goodIn_r _ [14, 15, 119, 120, 121, 122, 123, 124, 125] (by decide +kernel) (by decide +kernel)
set_option maxRecDepth 20000 in
theorem gX1_stepAll_X1_has : GoodIn wsX1_stepAll (wsV RX1 34 RX1 yX1_has wsX1_has) := goodIn_app (goodIn_of _ (by decide +kernel)) ggX1_stepAll_X1_has
set_option maxRecDepth 20000 in
theorem ggX1_stepAll_X1_step : GoodIn wsX1_stepAll wsX1_step := goodIn_r _ [19, 20, 21, 22, 13, 23, 24, 10, 11, 12, 14, 15, 25, 26, 27, 28, 29, 30, 31, 32, 33, 34, 1, 35, 36, 37, 38, 6, 39, 8, 40, 41, 42, 43, 44, 45, 46, 47, 48, 49, 50, 51, 52, 53, 54, 55, 56, 57, 58, 59, 60, 61, 62, 63, 64, 65, 66, 67, 68, 69, 70, 71, 72, 73, 74, 75, 76, 77, 78, 79, 80, 81, 82, 83, 84, 85, 86, 87, 88, 9, 89, 90, 91, 92, 93, 94, 95, 96, 97, 98, 99, 100, 101, 102, 103, 104, 105, 106, 107, 108, 109, 110, 111, 112, 113, 114, 115, 116, 117, 118, 119, 120, 121, 122, 123, 124, 125, 126, 127, 128, 129, 130, 131, 132, 133] (by decide +kernel) (by decide +kernel)
set_option maxRecDepth 20000 in
theorem gX1_stepAll_X1_step : GoodIn wsX1_stepAll (wsV RX1 93 RX1 yX1_step wsX1_step) := goodIn_app (goodIn_of _ (by decide +kernel)) ggX1_stepAll_X1_step
theorem dX1_stepAll_0 : decode cX1_stepAll 0 = .ok (.aload_n 1, 1) := by decide +kernel
theorem dX1_stepAll_1 : decode cX1_stepAll 1 = .ok (.invokevirtual 81, 3) := by decide +kernel
theorem dX1_stepAll_4 : decode cX1_stepAll 4 = .ok (.aload_n 0, 1) := by decide +kernel
theorem dX1_stepAll_5 : decode cX1_stepAll 5 = .ok (.iconst 0, 1) := by decide +kernel
theorem dX1_stepAll_6 : decode cX1_stepAll 6 = .ok (.putfield 86, 3) := by decide +kernel
theorem dX1_stepAll_9 : decode cX1_stepAll 9 = .ok (.iconst 0, 1) := by decide +kernel
theorem dX1_stepAll_10 : decode cX1_stepAll 10 = .ok (.istore_n 2, 1) := by decide +kernel
theorem dX1_stepAll_11 : decode cX1_stepAll 11 = .ok (.iconst 0, 1) := by decide +kernel
theorem dX1_stepAll_12 : decode cX1_stepAll 12 = .ok (.istore_n 3, 1) := by decide +kernel
theorem dX1_stepAll_13 : decode cX1_stepAll 13 = .ok (.iload_n 3, 1) := by decide +kernel
theorem dX1_stepAll_14 : decode cX1_stepAll 14 = .ok (.ldc 89, 2) := by decide +kernel
theorem dX1_stepAll_16 : decode cX1_stepAll 16 = .ok (.if_icmp .ge 31, 3) := by decide +kernel
theorem dX1_stepAll_19 : decode cX1_stepAll 19 = .ok (.aload_n 0, 1) := by decide +kernel
theorem dX1_stepAll_20 : decode cX1_stepAll 20 = .ok (.iload_n 2, 1) := by decide +kernel
theorem dX1_stepAll_21 : decode cX1_stepAll 21 = .ok (.invokevirtual 34, 3) := by decide +kernel
theorem dX1_stepAll_24 : decode cX1_stepAll 24 = .ok (.ifCond .eq 23, 3) := by decide +kernel
theorem dX1_stepAll_27 : decode cX1_stepAll 27 = .ok (.aload_n 1, 1) := by decide +kernel
theorem dX1_stepAll_28 : decode cX1_stepAll 28 = .ok (.getfield 90, 3) := by decide +kernel
theorem dX1_stepAll_31 : decode cX1_stepAll 31 = .ok (.ifCond .ne 16, 3) := by decide +kernel
theorem dX1_stepAll_34 : decode cX1_stepAll 34 = .ok (.aload_n 0, 1) := by decide +kernel
theorem dX1_stepAll_35 : decode cX1_stepAll 35 = .ok (.aload_n 1, 1) := by decide +kernel
theorem dX1_stepAll_36 : decode cX1_stepAll 36 = .ok (.iload_n 2, 1) := by decide +kernel
theorem dX1_stepAll_37 : decode cX1_stepAll 37 = .ok (.invokevirtual 93, 3) := by decide +kernel
theorem dX1_stepAll_40 : decode cX1_stepAll 40 = .ok (.istore_n 2, 1) := by decide +kernel
theorem dX1_stepAll_41 : decode cX1_stepAll 41 = .ok (.iinc 3 1, 3) := by decide +kernel
theorem dX1_stepAll_44 : decode cX1_stepAll 44 = .ok (.goto (-31), 3) := by decide +kernel
theorem dX1_stepAll_47 : decode cX1_stepAll 47 = .ok (.return_, 1) := by decide +kernel
set_option maxRecDepth 20000 in
theorem ggX1_step_X1_opOf : GoodIn wsX1_step wsX1_opOf := goodIn_r _ [5, 6, 7, 8, 9, 4, 10, 11, 110, 111, 112, 113, 114, 115, 116] (by decide +kernel) (by decide +kernel)
set_option maxRecDepth 20000 in
theorem gX1_step_X1_opOf : GoodIn wsX1_step (wsV RX1 97 RX1 yX1_opOf wsX1_opOf) := goodIn_app (goodIn_of _ (by decide +kernel)) ggX1_step_X1_opOf
set_option maxRecDepth 20000 in
theorem ggX1_step_X1_numberOf : GoodIn wsX1_step wsX1_numberOf := goodIn_r _ [15, 16, 17, 7, 8, 9, 4, 10, 11, 110, 111, 112, 113, 114, 115, 116] (by decide +kernel) (by decide +kernel)
set_option maxRecDepth 20000 in
theorem gX1_step_X1_numberOf : GoodIn wsX1_step (wsV RX1 100 RX1 yX1_numberOf wsX1_numberOf) := goodIn_app (goodIn_of _ (by decide +kernel)) ggX1_step_X1_numberOf
set_option maxRecDepth 20000 in
theorem ggX1_step_X1_push : GoodIn wsX1_step wsX1_push := goodIn_r _ [21, 22, 23, 110, 111, 112, 113, 114, 115, 116] (by decide +kernel) (by decide +kernel)
set_option maxRecDepth 20000 in
theorem gX1_step_X1_push : GoodIn wsX1_step (wsV RX1 103 RX1 yX1_push wsX1_push) := goodIn_app (goodIn_of _ (by decide +kernel)) ggX1_step_X1_push
set_option maxRecDepth 20000 in
theorem ggX1_step_X2_load : GoodIn wsX1_step wsX2_load := goodIn_r _ [28, 29, 30, 31, 32, 33, 34, 35, 36, 37, 38, 39, 40, 41, 42, 43, 44, 45, 46, 47, 48, 49, 50, 51, 52, 53, 54, 55, 56, 57, 58, 59, 60, 61, 62, 63, 64, 65, 66, 117, 118, 119, 120, 121, 122, 123, 124] (by decide +kernel) (by decide +kernel)
set_option maxRecDepth 20000 in
theorem gX1_step_X2_load : GoodIn wsX1_step (wsV RX1 107 RX2 yX2_load wsX2_load) := goodIn_app (goodIn_of _ (by decide +kernel)) ggX1_step_X2_load
set_option maxRecDepth 20000 in
theorem ggX1_step_X1_pop : GoodIn wsX1_step wsX1_pop := goodIn_r _ [70, 22, 23, 110, 111, 112, 113, 114, 115, 116] (by decide +kernel) (by decide +kernel)
set_option maxRecDepth 20000 in
theorem gX1_step_X1_pop : GoodIn wsX1_step (wsV RX1 111 RX1 yX1_pop wsX1_pop) := goodIn_app (goodIn_of _ (by decide +kernel)) ggX1_step_X1_pop
set_option maxRecDepth 20000 in
theorem ggX1_step_X2_save : GoodIn wsX1_step wsX2_save := goodIn_r _ [74, 29, 30, 31, 32, 33, 34, 35, 36, 37, 38, 39, 40, 41, 42, 43, 44, 45, 46, 47, 48, 49, 75, 76, 77, 27, 78, 79, 80, 81, 82, 83, 84, 85, 86, 63, 87, 88, 89, 57, 58, 59, 90, 91, 92, 93, 94, 95, 96, 97, 117, 118, 119, 120, 121, 122, 123, 124] (by decide +kernel) (by decide +kernel)
set_option maxRecDepth 20000 in
theorem gX1_step_X2_save : GoodIn wsX1_step (wsV RX1 115 RX2 yX2_save wsX2_save) := goodIn_app (goodIn_of _ (by decide +kernel)) ggX1_step_X2_save
set_option maxRecDepth 20000 in
theorem ggX1_step_X1_nextTime : GoodIn wsX1_step wsX1_nextTime := goodIn_r _ [101, 67, 68, 69, 4, 70, 22, 23, 102, 76, 77, 27, 78, 29, 79, 18, 19, 20, 21, 110, 111, 112, 113, 114, 115, 116, 117, 118, 119, 120] (by decide +kernel) (by decide +kernel)
set_option maxRecDepth 20000 in
theorem gX1_step_X1_nextTime : GoodIn wsX1_step (wsV RX1 119 RX1 yX1_nextTime wsX1_nextTime) := goodIn_app (goodIn_of _ (by decide +kernel)) ggX1_step_X1_nextTime
set_option maxRecDepth 20000 in
theorem ggX1_step_X2_result : GoodIn wsX1_step wsX2_result := goodIn_r _ [106, 29, 107, 108, 109, 117, 118, 119, 120] (by decide +kernel) (by decide +kernel)
set_option maxRecDepth 20000 in
theorem gX1_step_X2_result : GoodIn wsX1_step (wsV RX1 123 RX2 yX2_result wsX2_result) := goodIn_app (goodIn_of _ (by decide +kernel)) ggX1_step_X2_result
theorem dX1_step_0 : decode cX1_step 0 = .ok (.aload_n 0, 1) := by decide +kernel
theorem dX1_step_1 : decode cX1_step 1 = .ok (.iload_n 2, 1) := by decide +kernel
theorem dX1_step_2 : decode cX1_step 2 = .ok (.invokevirtual 97, 3) := by decide +kernel
theorem dX1_step_5 : decode cX1_step 5 = .ok (.istore_n 3, 1) := by decide +kernel
theorem dX1_step_6 : decode cX1_step 6 = .ok (.aload_n 0, 1) := by decide +kernel
theorem dX1_step_7 : decode cX1_step 7 = .ok (.iload_n 2, 1) := by decide +kernel
theorem dX1_step_8 : decode cX1_step 8 = .ok (.invokevirtual 100, 3) := by decide +kernel
theorem dX1_step_11 : decode cX1_step 11 = .ok (.lstore 4, 2) := by decide +kernel
theorem dX1_step_13 : decode cX1_step 13 = .ok (.lload 4, 2) := by decide +kernel
theorem dX1_step_15 : decode cX1_step 15 = .ok (.l2i, 1) := by decide +kernel
theorem dX1_step_16 : decode cX1_step 16 = .ok (.istore 6, 2) := by decide +kernel
theorem dX1_step_18 : decode cX1_step 18 = .ok (.iload_n 3, 1) := by decide +kernel
theorem dX1_step_19 : decode cX1_step 19 = .ok (.tableswitch 206 0 15 #[77, 87, 102, 206, 206, 206, 206, 206, 206, 120, 135, 206, 157, 175, 186, 197], 77) := by decide +kernel
theorem dX1_step_96 : decode cX1_step 96 = .ok (.aload_n 0, 1) := by decide +kernel
theorem dX1_step_97 : decode cX1_step 97 = .ok (.lload 4, 2) := by decide +kernel
theorem dX1_step_99 : decode cX1_step 99 = .ok (.invokevirtual 103, 3) := by decide +kernel
theorem dX1_step_102 : decode cX1_step 102 = .ok (.iload_n 2, 1) := by decide +kernel
theorem dX1_step_103 : decode cX1_step 103 = .ok (.iconst 1, 1) := by decide +kernel
theorem dX1_step_104 : decode cX1_step 104 = .ok (.iadd, 1) := by decide +kernel
theorem dX1_step_105 : decode cX1_step 105 = .ok (.ireturn, 1) := by decide +kernel
theorem dX1_step_106 : decode cX1_step 106 = .ok (.aload_n 0, 1) := by decide +kernel
theorem dX1_step_107 : decode cX1_step 107 = .ok (.aload_n 1, 1) := by decide +kernel
theorem dX1_step_108 : decode cX1_step 108 = .ok (.iload 6, 2) := by decide +kernel
theorem dX1_step_110 : decode cX1_step 110 = .ok (.lconst 0, 1) := by decide +kernel
theorem dX1_step_111 : decode cX1_step 111 = .ok (.invokevirtual 107, 3) := by decide +kernel
theorem dX1_step_114 : decode cX1_step 114 = .ok (.invokevirtual 103, 3) := by decide +kernel
theorem dX1_step_117 : decode cX1_step 117 = .ok (.iload_n 2, 1) := by decide +kernel
theorem dX1_step_118 : decode cX1_step 118 = .ok (.iconst 1, 1) := by decide +kernel
theorem dX1_step_119 : decode cX1_step 119 = .ok (.iadd, 1) := by decide +kernel
theorem dX1_step_120 : decode cX1_step 120 = .ok (.ireturn, 1) := by decide +kernel
theorem dX1_step_121 : decode cX1_step 121 = .ok (.aload_n 0, 1) := by decide +kernel
theorem dX1_step_122 : decode cX1_step 122 = .ok (.aload_n 1, 1) := by decide +kernel
theorem dX1_step_123 : decode cX1_step 123 = .ok (.iload 6, 2) := by decide +kernel
theorem dX1_step_125 : decode cX1_step 125 = .ok (.aload_n 0, 1) := by decide +kernel
theorem dX1_step_126 : decode cX1_step 126 = .ok (.invokevirtual 111, 3) := by decide +kernel
theorem dX1_step_129 : decode cX1_step 129 = .ok (.invokevirtual 107, 3) := by decide +kernel
theorem dX1_step_132 : decode cX1_step 132 = .ok (.invokevirtual 103, 3) := by decide +kernel
theorem dX1_step_135 : decode cX1_step 135 = .ok (.iload_n 2, 1) := by decide +kernel
theorem dX1_step_136 : decode cX1_step 136 = .ok (.iconst 1, 1) := by decide +kernel
theorem dX1_step_137 : decode cX1_step 137 = .ok (.iadd, 1) := by decide +kernel
theorem dX1_step_138 : decode cX1_step 138 = .ok (.ireturn, 1) := by decide +kernel
theorem dX1_step_139 : decode cX1_step 139 = .ok (.aload_n 1, 1) := by decide +kernel
theorem dX1_step_140 : decode cX1_step 140 = .ok (.iload 6, 2) := by decide +kernel
theorem dX1_step_142 : decode cX1_step 142 = .ok (.lconst 0, 1) := by decide +kernel
theorem dX1_step_143 : decode cX1_step 143 = .ok (.aload_n 0, 1) := by decide +kernel
theorem dX1_step_144 : decode cX1_step 144 = .ok (.invokevirtual 111, 3) := by decide +kernel
theorem dX1_step_147 : decode cX1_step 147 = .ok (.invokevirtual 115, 3) := by decide +kernel
theorem dX1_step_150 : decode cX1_step 150 = .ok (.iload_n 2, 1) := by decide +kernel
theorem dX1_step_151 : decode cX1_step 151 = .ok (.iconst 1, 1) := by decide +kernel
theorem dX1_step_152 : decode cX1_step 152 = .ok (.iadd, 1) := by decide +kernel
theorem dX1_step_153 : decode cX1_step 153 = .ok (.ireturn, 1) := by decide +kernel
theorem dX1_step_154 : decode cX1_step 154 = .ok (.aload_n 0, 1) := by decide +kernel
theorem dX1_step_155 : decode cX1_step 155 = .ok (.invokevirtual 111, 3) := by decide +kernel
theorem dX1_step_158 : decode cX1_step 158 = .ok (.lstore 7, 2) := by decide +kernel
theorem dX1_step_160 : decode cX1_step 160 = .ok (.aload_n 1, 1) := by decide +kernel
theorem dX1_step_161 : decode cX1_step 161 = .ok (.iload 6, 2) := by decide +kernel
theorem dX1_step_163 : decode cX1_step 163 = .ok (.aload_n 0, 1) := by decide +kernel
theorem dX1_step_164 : decode cX1_step 164 = .ok (.invokevirtual 111, 3) := by decide +kernel
theorem dX1_step_167 : decode cX1_step 167 = .ok (.lload 7, 2) := by decide +kernel
theorem dX1_step_169 : decode cX1_step 169 = .ok (.invokevirtual 115, 3) := by decide +kernel
theorem dX1_step_172 : decode cX1_step 172 = .ok (.iload_n 2, 1) := by decide +kernel
theorem dX1_step_173 : decode cX1_step 173 = .ok (.iconst 1, 1) := by decide +kernel
theorem dX1_step_174 : decode cX1_step 174 = .ok (.iadd, 1) := by decide +kernel
theorem dX1_step_175 : decode cX1_step 175 = .ok (.ireturn, 1) := by decide +kernel
theorem dX1_step_176 : decode cX1_step 176 = .ok (.aload_n 0, 1) := by decide +kernel
theorem dX1_step_177 : decode cX1_step 177 = .ok (.invokevirtual 111, 3) := by decide +kernel
theorem dX1_step_180 : decode cX1_step 180 = .ok (.lconst 0, 1) := by decide +kernel
theorem dX1_step_181 : decode cX1_step 181 = .ok (.lcmp, 1) := by decide +kernel
theorem dX1_step_182 : decode cX1_step 182 = .ok (.ifCond .ne 8, 3) := by decide +kernel
theorem dX1_step_185 : decode cX1_step 185 = .ok (.iload 6, 2) := by decide +kernel
theorem dX1_step_187 : decode cX1_step 187 = .ok (.goto 6, 3) := by decide +kernel
theorem dX1_step_190 : decode cX1_step 190 = .ok (.iload_n 2, 1) := by decide +kernel
theorem dX1_step_191 : decode cX1_step 191 = .ok (.iconst 1, 1) := by decide +kernel
theorem dX1_step_192 : decode cX1_step 192 = .ok (.iadd, 1) := by decide +kernel
theorem dX1_step_193 : decode cX1_step 193 = .ok (.ireturn, 1) := by decide +kernel
theorem dX1_step_194 : decode cX1_step 194 = .ok (.aload_n 0, 1) := by decide +kernel
theorem dX1_step_195 : decode cX1_step 195 = .ok (.aload_n 1, 1) := by decide +kernel
theorem dX1_step_196 : decode cX1_step 196 = .ok (.iload_n 2, 1) := by decide +kernel
theorem dX1_step_197 : decode cX1_step 197 = .ok (.iconst 1, 1) := by decide +kernel
theorem dX1_step_198 : decode cX1_step 198 = .ok (.iadd, 1) := by decide +kernel
theorem dX1_step_199 : decode cX1_step 199 = .ok (.iload 6, 2) := by decide +kernel
theorem dX1_step_201 : decode cX1_step 201 = .ok (.invokevirtual 119, 3) := by decide +kernel
theorem dX1_step_204 : decode cX1_step 204 = .ok (.ireturn, 1) := by decide +kernel
theorem dX1_step_205 : decode cX1_step 205 = .ok (.aload_n 0, 1) := by decide +kernel
theorem dX1_step_206 : decode cX1_step 206 = .ok (.aload_n 1, 1) := by decide +kernel
theorem dX1_step_207 : decode cX1_step 207 = .ok (.iload 6, 2) := by decide +kernel
theorem dX1_step_209 : decode cX1_step 209 = .ok (.iload_n 2, 1) := by decide +kernel
theorem dX1_step_210 : decode cX1_step 210 = .ok (.iconst 1, 1) := by decide +kernel
theorem dX1_step_211 : decode cX1_step 211 = .ok (.iadd, 1) := by decide +kernel
theorem dX1_step_212 : decode cX1_step 212 = .ok (.invokevirtual 119, 3) := by decide +kernel
theorem dX1_step_215 : decode cX1_step 215 = .ok (.ireturn, 1) := by decide +kernel
theorem dX1_step_216 : decode cX1_step 216 = .ok (.aload_n 0, 1) := by decide +kernel
theorem dX1_step_217 : decode cX1_step 217 = .ok (.invokevirtual 111, 3) := by decide +kernel
theorem dX1_step_220 : decode cX1_step 220 = .ok (.pop2, 1) := by decide +kernel
theorem dX1_step_221 : decode cX1_step 221 = .ok (.iload_n 2, 1) := by decide +kernel
theorem dX1_step_222 : decode cX1_step 222 = .ok (.iconst 1, 1) := by decide +kernel
theorem dX1_step_223 : decode cX1_step 223 = .ok (.iadd, 1) := by decide +kernel
theorem dX1_step_224 : decode cX1_step 224 = .ok (.ireturn, 1) := by decide +kernel
theorem dX1_step_225 : decode cX1_step 225 = .ok (.aload_n 0, 1) := by decide +kernel
theorem dX1_step_226 : decode cX1_step 226 = .ok (.invokevirtual 111, 3) := by decide +kernel
theorem dX1_step_229 : decode cX1_step 229 = .ok (.lstore 9, 2) := by decide +kernel
theorem dX1_step_231 : decode cX1_step 231 = .ok (.aload_n 0, 1) := by decide +kernel
theorem dX1_step_232 : decode cX1_step 232 = .ok (.aload_n 1, 1) := by decide +kernel
theorem dX1_step_233 : decode cX1_step 233 = .ok (.iload_n 3, 1) := by decide +kernel
theorem dX1_step_234 : decode cX1_step 234 = .ok (.aload_n 0, 1) := by decide +kernel
theorem dX1_step_235 : decode cX1_step 235 = .ok (.invokevirtual 111, 3) := by decide +kernel
theorem dX1_step_238 : decode cX1_step 238 = .ok (.lload 9, 2) := by decide +kernel
theorem dX1_step_240 : decode cX1_step 240 = .ok (.invokevirtual 123, 3) := by decide +kernel
theorem dX1_step_243 : decode cX1_step 243 = .ok (.invokevirtual 103, 3) := by decide +kernel
theorem dX1_step_246 : decode cX1_step 246 = .ok (.iload_n 2, 1) := by decide +kernel
theorem dX1_step_247 : decode cX1_step 247 = .ok (.iconst 1, 1) := by decide +kernel
theorem dX1_step_248 : decode cX1_step 248 = .ok (.iadd, 1) := by decide +kernel
theorem dX1_step_249 : decode cX1_step 249 = .ok (.ireturn, 1) := by decide +kernel
set_option maxRecDepth 20000 in
theorem ggX1_nextTime_X1_pop : GoodIn wsX1_nextTime wsX1_pop := goodIn_r _ [5, 6, 7, 19, 20, 21, 22, 23, 24, 25] (by decide +kernel) (by decide +kernel)
set_option maxRecDepth 20000 in
theorem gX1_nextTime_X1_pop : GoodIn wsX1_nextTime (wsV RX1 111 RX1 yX1_pop wsX1_pop) := goodIn_app (goodIn_of _ (by decide +kernel)) ggX1_nextTime_X1_pop
set_option maxRecDepth 20000 in
theorem ggX1_nextTime_X2_countOne : GoodIn wsX1_nextTime wsX2_countOne := goodIn_r _ [12, 13, 14, 26, 27, 28, 29] (by decide +kernel) (by decide +kernel)
set_option maxRecDepth 20000 in
theorem gX1_nextTime_X2_countOne : GoodIn wsX1_nextTime (wsV RX1 127 RX2 yX2_countOne wsX2_countOne) := goodIn_app (goodIn_of _ (by decide +kernel)) ggX1_nextTime_X2_countOne
set_option maxRecDepth 20000 in
theorem ggX1_nextTime_X1_push : GoodIn wsX1_nextTime wsX1_push := goodIn_r _ [18, 6, 7, 19, 20, 21, 22, 23, 24, 25] (by decide +kernel) (by decide +kernel)
set_option maxRecDepth 20000 in
theorem gX1_nextTime_X1_push : GoodIn wsX1_nextTime (wsV RX1 103 RX1 yX1_push wsX1_push) := goodIn_app (goodIn_of _ (by decide +kernel)) ggX1_nextTime_X1_push
theorem dX1_nextTime_0 : decode cX1_nextTime 0 = .ok (.aload_n 0, 1) := by decide +kernel
theorem dX1_nextTime_1 : decode cX1_nextTime 1 = .ok (.invokevirtual 111, 3) := by decide +kernel
theorem dX1_nextTime_4 : decode cX1_nextTime 4 = .ok (.lstore 4, 2) := by decide +kernel
theorem dX1_nextTime_6 : decode cX1_nextTime 6 = .ok (.lload 4, 2) := by decide +kernel
theorem dX1_nextTime_8 : decode cX1_nextTime 8 = .ok (.lconst 0, 1) := by decide +kernel
theorem dX1_nextTime_9 : decode cX1_nextTime 9 = .ok (.lcmp, 1) := by decide +kernel
theorem dX1_nextTime_10 : decode cX1_nextTime 10 = .ok (.ifCond .gt 5, 3) := by decide +kernel
theorem dX1_nextTime_13 : decode cX1_nextTime 13 = .ok (.iload_n 3, 1) := by decide +kernel
theorem dX1_nextTime_14 : decode cX1_nextTime 14 = .ok (.ireturn, 1) := by decide +kernel
theorem dX1_nextTime_15 : decode cX1_nextTime 15 = .ok (.aload_n 1, 1) := by decide +kernel
theorem dX1_nextTime_16 : decode cX1_nextTime 16 = .ok (.invokevirtual 127, 3) := by decide +kernel
theorem dX1_nextTime_19 : decode cX1_nextTime 19 = .ok (.aload_n 0, 1) := by decide +kernel
theorem dX1_nextTime_20 : decode cX1_nextTime 20 = .ok (.lload 4, 2) := by decide +kernel
theorem dX1_nextTime_22 : decode cX1_nextTime 22 = .ok (.lconst 1, 1) := by decide +kernel
theorem dX1_nextTime_23 : decode cX1_nextTime 23 = .ok (.lsub, 1) := by decide +kernel
theorem dX1_nextTime_24 : decode cX1_nextTime 24 = .ok (.invokevirtual 103, 3) := by decide +kernel
theorem dX1_nextTime_27 : decode cX1_nextTime 27 = .ok (.iload_n 2, 1) := by decide +kernel
theorem dX1_nextTime_28 : decode cX1_nextTime 28 = .ok (.ireturn, 1) := by decide +kernel
theorem dX1_push_0 : decode cX1_push 0 = .ok (.aload_n 0, 1) := by decide +kernel
theorem dX1_push_1 : decode cX1_push 1 = .ok (.getfield 86, 3) := by decide +kernel
theorem dX1_push_4 : decode cX1_push 4 = .ok (.ifCond .lt 35, 3) := by decide +kernel
theorem dX1_push_7 : decode cX1_push 7 = .ok (.aload_n 0, 1) := by decide +kernel
theorem dX1_push_8 : decode cX1_push 8 = .ok (.getfield 86, 3) := by decide +kernel
theorem dX1_push_11 : decode cX1_push 11 = .ok (.aload_n 0, 1) := by decide +kernel
theorem dX1_push_12 : decode cX1_push 12 = .ok (.getfield 23, 3) := by decide +kernel
theorem dX1_push_15 : decode cX1_push 15 = .ok (.arraylength, 1) := by decide +kernel
theorem dX1_push_16 : decode cX1_push 16 = .ok (.if_icmp .ge 23, 3) := by decide +kernel
theorem dX1_push_19 : decode cX1_push 19 = .ok (.aload_n 0, 1) := by decide +kernel
theorem dX1_push_20 : decode cX1_push 20 = .ok (.getfield 23, 3) := by decide +kernel
theorem dX1_push_23 : decode cX1_push 23 = .ok (.aload_n 0, 1) := by decide +kernel
theorem dX1_push_24 : decode cX1_push 24 = .ok (.getfield 86, 3) := by decide +kernel
theorem dX1_push_27 : decode cX1_push 27 = .ok (.lload_n 1, 1) := by decide +kernel
theorem dX1_push_28 : decode cX1_push 28 = .ok (.lastore, 1) := by decide +kernel
theorem dX1_push_29 : decode cX1_push 29 = .ok (.aload_n 0, 1) := by decide +kernel
theorem dX1_push_30 : decode cX1_push 30 = .ok (.dup, 1) := by decide +kernel
theorem dX1_push_31 : decode cX1_push 31 = .ok (.getfield 86, 3) := by decide +kernel
theorem dX1_push_34 : decode cX1_push 34 = .ok (.iconst 1, 1) := by decide +kernel
theorem dX1_push_35 : decode cX1_push 35 = .ok (.iadd, 1) := by decide +kernel
theorem dX1_push_36 : decode cX1_push 36 = .ok (.putfield 86, 3) := by decide +kernel
theorem dX1_push_39 : decode cX1_push 39 = .ok (.return_, 1) := by decide +kernel
theorem dX1_pop_0 : decode cX1_pop 0 = .ok (.aload_n 0, 1) := by decide +kernel
theorem dX1_pop_1 : decode cX1_pop 1 = .ok (.getfield 86, 3) := by decide +kernel
theorem dX1_pop_4 : decode cX1_pop 4 = .ok (.iconst 1, 1) := by decide +kernel
theorem dX1_pop_5 : decode cX1_pop 5 = .ok (.if_icmp .lt 15, 3) := by decide +kernel
theorem dX1_pop_8 : decode cX1_pop 8 = .ok (.aload_n 0, 1) := by decide +kernel
theorem dX1_pop_9 : decode cX1_pop 9 = .ok (.getfield 86, 3) := by decide +kernel
theorem dX1_pop_12 : decode cX1_pop 12 = .ok (.aload_n 0, 1) := by decide +kernel
theorem dX1_pop_13 : decode cX1_pop 13 = .ok (.getfield 23, 3) := by decide +kernel
theorem dX1_pop_16 : decode cX1_pop 16 = .ok (.arraylength, 1) := by decide +kernel
theorem dX1_pop_17 : decode cX1_pop 17 = .ok (.if_icmp .le 5, 3) := by decide +kernel
theorem dX1_pop_20 : decode cX1_pop 20 = .ok (.lconst 0, 1) := by decide +kernel
theorem dX1_pop_21 : decode cX1_pop 21 = .ok (.lreturn, 1) := by decide +kernel
theorem dX1_pop_22 : decode cX1_pop 22 = .ok (.aload_n 0, 1) := by decide +kernel
theorem dX1_pop_23 : decode cX1_pop 23 = .ok (.dup, 1) := by decide +kernel
theorem dX1_pop_24 : decode cX1_pop 24 = .ok (.getfield 86, 3) := by decide +kernel
theorem dX1_pop_27 : decode cX1_pop 27 = .ok (.iconst 1, 1) := by decide +kernel
theorem dX1_pop_28 : decode cX1_pop 28 = .ok (.isub, 1) := by decide +kernel
theorem dX1_pop_29 : decode cX1_pop 29 = .ok (.putfield 86, 3) := by decide +kernel
theorem dX1_pop_32 : decode cX1_pop 32 = .ok (.aload_n 0, 1) := by decide +kernel
theorem dX1_pop_33 : decode cX1_pop 33 = .ok (.getfield 23, 3) := by decide +kernel
theorem dX1_pop_36 : decode cX1_pop 36 = .ok (.aload_n 0, 1) := by decide +kernel
theorem dX1_pop_37 : decode cX1_pop 37 = .ok (.getfield 86, 3) := by decide +kernel
theorem dX1_pop_40 : decode cX1_pop 40 = .ok (.laload, 1) := by decide +kernel
theorem dX1_pop_41 : decode cX1_pop 41 = .ok (.lreturn, 1) := by decide +kernel
