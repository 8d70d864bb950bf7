theorem dX2_init_0 : decode cX2_init 0 = .ok (.aload_n 0, 1) := by decide +kernel
theorem dX2_init_1 : decode cX2_init 1 = .ok (.invokespecial 3, 3) := by decide +kernel
theorem dX2_init_4 : decode cX2_init 4 = .ok (.aload_n 0, 1) := by decide +kernel
theorem dX2_init_5 : decode cX2_init 5 = .ok (.bipush 64, 2) := by decide +kernel
theorem dX2_init_7 : decode cX2_init 7 = .ok (.newarray .byte, 2) := by decide +kernel
theorem dX2_init_9 : decode cX2_init 9 = .ok (.putfield 9, 3) := by decide +kernel
theorem dX2_init_12 : decode cX2_init 12 = .ok (.aload_n 0, 1) := by decide +kernel
theorem dX2_init_13 : decode cX2_init 13 = .ok (.aload_n 1, 1) := by decide +kernel
theorem dX2_init_14 : decode cX2_init 14 = .ok (.putfield 15, 3) := by decide +kernel
theorem dX2_init_17 : decode cX2_init 17 = .ok (.return_, 1) := by decide +kernel
theorem dX2_holds_0 : decode cX2_holds 0 = .ok (.iload_n 0, 1) := by decide +kernel
theorem dX2_holds_1 : decode cX2_holds 1 = .ok (.ifCond .lt 13, 3) := by decide +kernel
theorem dX2_holds_4 : decode cX2_holds 4 = .ok (.iload_n 0, 1) := by decide +kernel
theorem dX2_holds_5 : decode cX2_holds 5 = .ok (.bipush 64, 2) := by decide +kernel
theorem dX2_holds_7 : decode cX2_holds 7 = .ok (.if_icmp .ge 7, 3) := by decide +kernel
theorem dX2_holds_10 : decode cX2_holds 10 = .ok (.iconst 1, 1) := by decide +kernel
theorem dX2_holds_11 : decode cX2_holds 11 = .ok (.goto 4, 3) := by decide +kernel
theorem dX2_holds_14 : decode cX2_holds 14 = .ok (.iconst 0, 1) := by decide +kernel
theorem dX2_holds_15 : decode cX2_holds 15 = .ok (.ireturn, 1) := by decide +kernel
set_option maxRecDepth 20000 in
theorem ggX2_byteAt_X2_holds : GoodIn wsX2_byteAt wsX2_holds := goodIn_r _ [5] (by decide +kernel) (by decide +kernel)
set_option maxRecDepth 20000 in
theorem gX2_byteAt_X2_holds : GoodIn wsX2_byteAt (va_wsS RX2 19 yX2_holds wsX2_holds) := goodIn_app (goodIn_of _ (by decide +kernel)) ggX2_byteAt_X2_holds
theorem dX2_byteAt_0 : decode cX2_byteAt 0 = .ok (.iload_n 1, 1) := by decide +kernel
theorem dX2_byteAt_1 : decode cX2_byteAt 1 = .ok (.invokestatic 19, 3) := by decide +kernel
theorem dX2_byteAt_4 : decode cX2_byteAt 4 = .ok (.ifCond .eq 12, 3) := by decide +kernel
theorem dX2_byteAt_7 : decode cX2_byteAt 7 = .ok (.aload_n 0, 1) := by decide +kernel
theorem dX2_byteAt_8 : decode cX2_byteAt 8 = .ok (.getfield 9, 3) := by decide +kernel
theorem dX2_byteAt_11 : decode cX2_byteAt 11 = .ok (.iload_n 1, 1) := by decide +kernel
theorem dX2_byteAt_12 : decode cX2_byteAt 12 = .ok (.baload, 1) := by decide +kernel
theorem dX2_byteAt_13 : decode cX2_byteAt 13 = .ok (.goto 4, 3) := by decide +kernel
theorem dX2_byteAt_16 : decode cX2_byteAt 16 = .ok (.iconst 0, 1) := by decide +kernel
theorem dX2_byteAt_17 : decode cX2_byteAt 17 = .ok (.ireturn, 1) := by decide +kernel
set_option maxRecDepth 20000 in
theorem ggX2_setByte_X2_holds : GoodIn wsX2_setByte wsX2_holds := goodIn_r _ [5] (by decide +kernel) (by decide +kernel)
set_option maxRecDepth 20000 in
theorem gX2_setByte_X2_holds : GoodIn wsX2_setByte (va_wsS RX2 19 yX2_holds wsX2_holds) := goodIn_app (goodIn_of _ (by decide +kernel)) ggX2_setByte_X2_holds
theorem dX2_setByte_0 : decode cX2_setByte 0 = .ok (.iload_n 1, 1) := by decide +kernel
theorem dX2_setByte_1 : decode cX2_setByte 1 = .ok (.invokestatic 19, 3) := by decide +kernel
theorem dX2_setByte_4 : decode cX2_setByte 4 = .ok (.ifCond .eq 10, 3) := by decide +kernel
theorem dX2_setByte_7 : decode cX2_setByte 7 = .ok (.aload_n 0, 1) := by decide +kernel
theorem dX2_setByte_8 : decode cX2_setByte 8 = .ok (.getfield 9, 3) := by decide +kernel
theorem dX2_setByte_11 : decode cX2_setByte 11 = .ok (.iload_n 1, 1) := by decide +kernel
theorem dX2_setByte_12 : decode cX2_setByte 12 = .ok (.iload_n 2, 1) := by decide +kernel
theorem dX2_setByte_13 : decode cX2_setByte 13 = .ok (.bastore, 1) := by decide +kernel
theorem dX2_setByte_14 : decode cX2_setByte 14 = .ok (.return_, 1) := by decide +kernel
theorem dX2_copyFrom_0 : decode cX2_copyFrom 0 = .ok (.aload_n 1, 1) := by decide +kernel
theorem dX2_copyFrom_1 : decode cX2_copyFrom 1 = .ok (.getfield 9, 3) := by decide +kernel
theorem dX2_copyFrom_4 : decode cX2_copyFrom 4 = .ok (.iconst 0, 1) := by decide +kernel
theorem dX2_copyFrom_5 : decode cX2_copyFrom 5 = .ok (.aload_n 0, 1) := by decide +kernel
theorem dX2_copyFrom_6 : decode cX2_copyFrom 6 = .ok (.getfield 9, 3) := by decide +kernel
theorem dX2_copyFrom_9 : decode cX2_copyFrom 9 = .ok (.iconst 0, 1) := by decide +kernel
theorem dX2_copyFrom_10 : decode cX2_copyFrom 10 = .ok (.bipush 64, 2) := by decide +kernel
theorem dX2_copyFrom_12 : decode cX2_copyFrom 12 = .ok (.invokestatic 23, 3) := by decide +kernel
theorem dX2_copyFrom_15 : decode cX2_copyFrom 15 = .ok (.return_, 1) := by decide +kernel
theorem dX2_isLike_0 : decode cX2_isLike 0 = .ok (.iconst 0, 1) := by decide +kernel
theorem dX2_isLike_1 : decode cX2_isLike 1 = .ok (.istore_n 2, 1) := by decide +kernel
theorem dX2_isLike_2 : decode cX2_isLike 2 = .ok (.iload_n 2, 1) := by decide +kernel
theorem dX2_isLike_3 : decode cX2_isLike 3 = .ok (.bipush 64, 2) := by decide +kernel
theorem dX2_isLike_5 : decode cX2_isLike 5 = .ok (.if_icmp .ge 26, 3) := by decide +kernel
theorem dX2_isLike_8 : decode cX2_isLike 8 = .ok (.aload_n 0, 1) := by decide +kernel
theorem dX2_isLike_9 : decode cX2_isLike 9 = .ok (.getfield 9, 3) := by decide +kernel
theorem dX2_isLike_12 : decode cX2_isLike 12 = .ok (.iload_n 2, 1) := by decide +kernel
theorem dX2_isLike_13 : decode cX2_isLike 13 = .ok (.baload, 1) := by decide +kernel
theorem dX2_isLike_14 : decode cX2_isLike 14 = .ok (.aload_n 1, 1) := by decide +kernel
theorem dX2_isLike_15 : decode cX2_isLike 15 = .ok (.getfield 9, 3) := by decide +kernel
theorem dX2_isLike_18 : decode cX2_isLike 18 = .ok (.iload_n 2, 1) := by decide +kernel
theorem dX2_isLike_19 : decode cX2_isLike 19 = .ok (.baload, 1) := by decide +kernel
theorem dX2_isLike_20 : decode cX2_isLike 20 = .ok (.if_icmp .eq 5, 3) := by decide +kernel
theorem dX2_isLike_23 : decode cX2_isLike 23 = .ok (.iconst 0, 1) := by decide +kernel
theorem dX2_isLike_24 : decode cX2_isLike 24 = .ok (.ireturn, 1) := by decide +kernel
theorem dX2_isLike_25 : decode cX2_isLike 25 = .ok (.iinc 2 1, 3) := by decide +kernel
theorem dX2_isLike_28 : decode cX2_isLike 28 = .ok (.goto (-26), 3) := by decide +kernel
theorem dX2_isLike_31 : decode cX2_isLike 31 = .ok (.aload_n 0, 1) := by decide +kernel
theorem dX2_isLike_32 : decode cX2_isLike 32 = .ok (.getfield 29, 3) := by decide +kernel
theorem dX2_isLike_35 : decode cX2_isLike 35 = .ok (.aload_n 1, 1) := by decide +kernel
theorem dX2_isLike_36 : decode cX2_isLike 36 = .ok (.getfield 29, 3) := by decide +kernel
theorem dX2_isLike_39 : decode cX2_isLike 39 = .ok (.if_icmp .ne 7, 3) := by decide +kernel
theorem dX2_isLike_42 : decode cX2_isLike 42 = .ok (.iconst 1, 1) := by decide +kernel
theorem dX2_isLike_43 : decode cX2_isLike 43 = .ok (.goto 4, 3) := by decide +kernel
theorem dX2_isLike_46 : decode cX2_isLike 46 = .ok (.iconst 0, 1) := by decide +kernel
theorem dX2_isLike_47 : decode cX2_isLike 47 = .ok (.ireturn, 1) := by decide +kernel
theorem dX2_begin_0 : decode cX2_begin 0 = .ok (.aload_n 0, 1) := by decide +kernel
theorem dX2_begin_1 : decode cX2_begin 1 = .ok (.iconst 0, 1) := by decide +kernel
theorem dX2_begin_2 : decode cX2_begin 2 = .ok (.putfield 29, 3) := by decide +kernel
theorem dX2_begin_5 : decode cX2_begin 5 = .ok (.aload_n 0, 1) := by decide +kernel
theorem dX2_begin_6 : decode cX2_begin 6 = .ok (.iconst 0, 1) := by decide +kernel
theorem dX2_begin_7 : decode cX2_begin 7 = .ok (.putfield 33, 3) := by decide +kernel
theorem dX2_begin_10 : decode cX2_begin 10 = .ok (.return_, 1) := by decide +kernel
theorem dX2_outcome_0 : decode cX2_outcome 0 = .ok (.aload_n 0, 1) := by decide +kernel
theorem dX2_outcome_1 : decode cX2_outcome 1 = .ok (.getfield 29, 3) := by decide +kernel
theorem dX2_outcome_4 : decode cX2_outcome 4 = .ok (.ifCond .ne 7, 3) := by decide +kernel
theorem dX2_outcome_7 : decode cX2_outcome 7 = .ok (.iconst 1, 1) := by decide +kernel
theorem dX2_outcome_8 : decode cX2_outcome 8 = .ok (.goto 4, 3) := by decide +kernel
theorem dX2_outcome_11 : decode cX2_outcome 11 = .ok (.iconst 2, 1) := by decide +kernel
theorem dX2_outcome_12 : decode cX2_outcome 12 = .ok (.ireturn, 1) := by decide +kernel
set_option maxRecDepth 20000 in
theorem ggX2_load_X0_placeBehind : GoodIn wsX2_load wsX0_placeBehind := goodIn_r _ [8, 9, 10, 11, 12, 13, 14, 15, 16, 7, 17, 18, 19, 20, 21, 43, 44, 45, 46] (by decide +kernel) (by decide +kernel)
set_option maxRecDepth 20000 in
theorem gX2_load_X0_placeBehind : GoodIn wsX2_load (wsV RX2 36 RX0 yX0_placeBehind wsX0_placeBehind) := goodIn_app (goodIn_of _ (by decide +kernel)) ggX2_load_X0_placeBehind
set_option maxRecDepth 20000 in
theorem ggX2_load_X0_read : GoodIn wsX2_load wsX0_read := goodIn_r _ [25, 11, 12, 14, 15, 16, 7, 17, 18, 26, 27, 28, 29, 30, 31, 32, 33, 34, 35, 19, 20, 21, 36, 37, 38, 43, 44, 45, 46] (by decide +kernel) (by decide +kernel)
set_option maxRecDepth 20000 in
theorem gX2_load_X0_read : GoodIn wsX2_load (wsV RX2 42 RX0 yX0_read wsX0_read) := goodIn_app (goodIn_of _ (by decide +kernel)) ggX2_load_X0_read
theorem dX2_load_0 : decode cX2_load 0 = .ok (.aload_n 0, 1) := by decide +kernel
theorem dX2_load_1 : decode cX2_load 1 = .ok (.getfield 29, 3) := by decide +kernel
theorem dX2_load_4 : decode cX2_load 4 = .ok (.ifCond .eq 5, 3) := by decide +kernel
theorem dX2_load_7 : decode cX2_load 7 = .ok (.lconst 0, 1) := by decide +kernel
theorem dX2_load_8 : decode cX2_load 8 = .ok (.lreturn, 1) := by decide +kernel
theorem dX2_load_9 : decode cX2_load 9 = .ok (.aload_n 0, 1) := by decide +kernel
theorem dX2_load_10 : decode cX2_load 10 = .ok (.getfield 15, 3) := by decide +kernel
theorem dX2_load_13 : decode cX2_load 13 = .ok (.iload_n 1, 1) := by decide +kernel
theorem dX2_load_14 : decode cX2_load 14 = .ok (.lload_n 2, 1) := by decide +kernel
theorem dX2_load_15 : decode cX2_load 15 = .ok (.invokevirtual 36, 3) := by decide +kernel
theorem dX2_load_18 : decode cX2_load 18 = .ok (.istore 4, 2) := by decide +kernel
theorem dX2_load_20 : decode cX2_load 20 = .ok (.iload 4, 2) := by decide +kernel
theorem dX2_load_22 : decode cX2_load 22 = .ok (.iconst (-1), 1) := by decide +kernel
theorem dX2_load_23 : decode cX2_load 23 = .ok (.if_icmp .ne 10, 3) := by decide +kernel
theorem dX2_load_26 : decode cX2_load 26 = .ok (.aload_n 0, 1) := by decide +kernel
theorem dX2_load_27 : decode cX2_load 27 = .ok (.iconst 1, 1) := by decide +kernel
theorem dX2_load_28 : decode cX2_load 28 = .ok (.putfield 29, 3) := by decide +kernel
theorem dX2_load_31 : decode cX2_load 31 = .ok (.lconst 0, 1) := by decide +kernel
theorem dX2_load_32 : decode cX2_load 32 = .ok (.lreturn, 1) := by decide +kernel
theorem dX2_load_33 : decode cX2_load 33 = .ok (.aload_n 0, 1) := by decide +kernel
theorem dX2_load_34 : decode cX2_load 34 = .ok (.getfield 15, 3) := by decide +kernel
theorem dX2_load_37 : decode cX2_load 37 = .ok (.aload_n 0, 1) := by decide +kernel
theorem dX2_load_38 : decode cX2_load 38 = .ok (.getfield 9, 3) := by decide +kernel
theorem dX2_load_41 : decode cX2_load 41 = .ok (.iload_n 1, 1) := by decide +kernel
theorem dX2_load_42 : decode cX2_load 42 = .ok (.iload 4, 2) := by decide +kernel
theorem dX2_load_44 : decode cX2_load 44 = .ok (.invokevirtual 42, 3) := by decide +kernel
theorem dX2_load_47 : decode cX2_load 47 = .ok (.lreturn, 1) := by decide +kernel
set_option maxRecDepth 20000 in
theorem ggX2_save_X0_placeBehind : GoodIn wsX2_save wsX0_placeBehind := goodIn_r _ [8, 9, 10, 11, 12, 13, 14, 15, 16, 7, 17, 18, 19, 20, 21, 54, 55, 56, 57] (by decide +kernel) (by decide +kernel)
set_option maxRecDepth 20000 in
theorem gX2_save_X0_placeBehind : GoodIn wsX2_save (wsV RX2 36 RX0 yX0_placeBehind wsX0_placeBehind) := goodIn_app (goodIn_of _ (by decide +kernel)) ggX2_save_X0_placeBehind
set_option maxRecDepth 20000 in
theorem ggX2_save_X2_countOne : GoodIn wsX2_save wsX2_countOne := goodIn_r _ [26, 1, 27, 50, 51, 52, 53] (by decide +kernel) (by decide +kernel)
set_option maxRecDepth 20000 in
theorem gX2_save_X2_countOne : GoodIn wsX2_save (wsV RX2 46 RX2 yX2_countOne wsX2_countOne) := goodIn_app (goodIn_of _ (by decide +kernel)) ggX2_save_X2_countOne
set_option maxRecDepth 20000 in
theorem ggX2_save_X0_write : GoodIn wsX2_save wsX0_write := goodIn_r _ [31, 12, 11, 14, 15, 16, 7, 17, 18, 32, 33, 34, 35, 36, 37, 38, 39, 40, 41, 42, 43, 44, 45, 19, 20, 21, 46, 47, 48, 49, 54, 55, 56, 57] (by decide +kernel) (by decide +kernel)
set_option maxRecDepth 20000 in
theorem gX2_save_X0_write : GoodIn wsX2_save (wsV RX2 49 RX0 yX0_write wsX0_write) := goodIn_app (goodIn_of _ (by decide +kernel)) ggX2_save_X0_write
theorem dX2_save_0 : decode cX2_save 0 = .ok (.aload_n 0, 1) := by decide +kernel
theorem dX2_save_1 : decode cX2_save 1 = .ok (.getfield 29, 3) := by decide +kernel
theorem dX2_save_4 : decode cX2_save 4 = .ok (.ifCond .eq 4, 3) := by decide +kernel
theorem dX2_save_7 : decode cX2_save 7 = .ok (.return_, 1) := by decide +kernel
theorem dX2_save_8 : decode cX2_save 8 = .ok (.aload_n 0, 1) := by decide +kernel
theorem dX2_save_9 : decode cX2_save 9 = .ok (.getfield 15, 3) := by decide +kernel
theorem dX2_save_12 : decode cX2_save 12 = .ok (.iload_n 1, 1) := by decide +kernel
theorem dX2_save_13 : decode cX2_save 13 = .ok (.lload_n 2, 1) := by decide +kernel
theorem dX2_save_14 : decode cX2_save 14 = .ok (.invokevirtual 36, 3) := by decide +kernel
theorem dX2_save_17 : decode cX2_save 17 = .ok (.istore 6, 2) := by decide +kernel
theorem dX2_save_19 : decode cX2_save 19 = .ok (.iload 6, 2) := by decide +kernel
theorem dX2_save_21 : decode cX2_save 21 = .ok (.iconst (-1), 1) := by decide +kernel
theorem dX2_save_22 : decode cX2_save 22 = .ok (.if_icmp .ne 9, 3) := by decide +kernel
theorem dX2_save_25 : decode cX2_save 25 = .ok (.aload_n 0, 1) := by decide +kernel
theorem dX2_save_26 : decode cX2_save 26 = .ok (.iconst 1, 1) := by decide +kernel
theorem dX2_save_27 : decode cX2_save 27 = .ok (.putfield 29, 3) := by decide +kernel
theorem dX2_save_30 : decode cX2_save 30 = .ok (.return_, 1) := by decide +kernel
theorem dX2_save_31 : decode cX2_save 31 = .ok (.aload_n 0, 1) := by decide +kernel
theorem dX2_save_32 : decode cX2_save 32 = .ok (.invokevirtual 46, 3) := by decide +kernel
theorem dX2_save_35 : decode cX2_save 35 = .ok (.aload_n 0, 1) := by decide +kernel
theorem dX2_save_36 : decode cX2_save 36 = .ok (.getfield 29, 3) := by decide +kernel
theorem dX2_save_39 : decode cX2_save 39 = .ok (.ifCond .ne 19, 3) := by decide +kernel
theorem dX2_save_42 : decode cX2_save 42 = .ok (.aload_n 0, 1) := by decide +kernel
theorem dX2_save_43 : decode cX2_save 43 = .ok (.getfield 15, 3) := by decide +kernel
theorem dX2_save_46 : decode cX2_save 46 = .ok (.aload_n 0, 1) := by decide +kernel
theorem dX2_save_47 : decode cX2_save 47 = .ok (.getfield 9, 3) := by decide +kernel
theorem dX2_save_50 : decode cX2_save 50 = .ok (.iload_n 1, 1) := by decide +kernel
theorem dX2_save_51 : decode cX2_save 51 = .ok (.iload 6, 2) := by decide +kernel
theorem dX2_save_53 : decode cX2_save 53 = .ok (.lload 4, 2) := by decide +kernel
theorem dX2_save_55 : decode cX2_save 55 = .ok (.invokevirtual 49, 3) := by decide +kernel
theorem dX2_save_58 : decode cX2_save 58 = .ok (.return_, 1) := by decide +kernel
set_option maxRecDepth 20000 in
theorem ggX2_result_X4_reckon : GoodIn wsX2_result wsX4_reckon := goodIn_r _ [4] (by decide +kernel) (by decide +kernel)
set_option maxRecDepth 20000 in
theorem gX2_result_X4_reckon_n53 : GoodIn wsX2_result (wsX4_reckon) := ggX2_result_X4_reckon
theorem dX2_result_0 : decode cX2_result 0 = .ok (.aload_n 0, 1) := by decide +kernel
theorem dX2_result_1 : decode cX2_result 1 = .ok (.getfield 29, 3) := by decide +kernel
theorem dX2_result_4 : decode cX2_result 4 = .ok (.ifCond .eq 5, 3) := by decide +kernel
theorem dX2_result_7 : decode cX2_result 7 = .ok (.lconst 0, 1) := by decide +kernel
theorem dX2_result_8 : decode cX2_result 8 = .ok (.lreturn, 1) := by decide +kernel
theorem dX2_result_9 : decode cX2_result 9 = .ok (.iload_n 1, 1) := by decide +kernel
theorem dX2_result_10 : decode cX2_result 10 = .ok (.bipush 6, 2) := by decide +kernel
theorem dX2_result_12 : decode cX2_result 12 = .ok (.if_icmp .ne 17, 3) := by decide +kernel
theorem dX2_result_15 : decode cX2_result 15 = .ok (.lload 4, 2) := by decide +kernel
theorem dX2_result_17 : decode cX2_result 17 = .ok (.lconst 0, 1) := by decide +kernel
theorem dX2_result_18 : decode cX2_result 18 = .ok (.lcmp, 1) := by decide +kernel
theorem dX2_result_19 : decode cX2_result 19 = .ok (.ifCond .ne 10, 3) := by decide +kernel
theorem dX2_result_22 : decode cX2_result 22 = .ok (.aload_n 0, 1) := by decide +kernel
theorem dX2_result_23 : decode cX2_result 23 = .ok (.iconst 2, 1) := by decide +kernel
theorem dX2_result_24 : decode cX2_result 24 = .ok (.putfield 29, 3) := by decide +kernel
theorem dX2_result_27 : decode cX2_result 27 = .ok (.lconst 0, 1) := by decide +kernel
theorem dX2_result_28 : decode cX2_result 28 = .ok (.lreturn, 1) := by decide +kernel
theorem dX2_result_29 : decode cX2_result 29 = .ok (.iload_n 1, 1) := by decide +kernel
theorem dX2_result_30 : decode cX2_result 30 = .ok (.lload_n 2, 1) := by decide +kernel
theorem dX2_result_31 : decode cX2_result 31 = .ok (.lload 4, 2) := by decide +kernel
theorem dX2_result_33 : decode cX2_result 33 = .ok (.invokestatic 53, 3) := by decide +kernel
theorem dX2_result_36 : decode cX2_result 36 = .ok (.lreturn, 1) := by decide +kernel
theorem dX2_countOne_0 : decode cX2_countOne 0 = .ok (.aload_n 0, 1) := by decide +kernel
theorem dX2_countOne_1 : decode cX2_countOne 1 = .ok (.getfield 29, 3) := by decide +kernel
theorem dX2_countOne_4 : decode cX2_countOne 4 = .ok (.ifCond .eq 4, 3) := by decide +kernel
theorem dX2_countOne_7 : decode cX2_countOne 7 = .ok (.return_, 1) := by decide +kernel
theorem dX2_countOne_8 : decode cX2_countOne 8 = .ok (.aload_n 0, 1) := by decide +kernel
theorem dX2_countOne_9 : decode cX2_countOne 9 = .ok (.dup, 1) := by decide +kernel
theorem dX2_countOne_10 : decode cX2_countOne 10 = .ok (.getfield 33, 3) := by decide +kernel
theorem dX2_countOne_13 : decode cX2_countOne 13 = .ok (.iconst 1, 1) := by decide +kernel
theorem dX2_countOne_14 : decode cX2_countOne 14 = .ok (.iadd, 1) := by decide +kernel
theorem dX2_countOne_15 : decode cX2_countOne 15 = .ok (.putfield 33, 3) := by decide +kernel
theorem dX2_countOne_18 : decode cX2_countOne 18 = .ok (.aload_n 0, 1) := by decide +kernel
theorem dX2_countOne_19 : decode cX2_countOne 19 = .ok (.getfield 33, 3) := by decide +kernel
theorem dX2_countOne_22 : decode cX2_countOne 22 = .ok (.sipush 1000, 3) := by decide +kernel
theorem dX2_countOne_25 : decode cX2_countOne 25 = .ok (.if_icmp .le 8, 3) := by decide +kernel
theorem dX2_countOne_28 : decode cX2_countOne 28 = .ok (.aload_n 0, 1) := by decide +kernel
theorem dX2_countOne_29 : decode cX2_countOne 29 = .ok (.iconst 3, 1) := by decide +kernel
theorem dX2_countOne_30 : decode cX2_countOne 30 = .ok (.putfield 29, 3) := by decide +kernel
theorem dX2_countOne_33 : decode cX2_countOne 33 = .ok (.return_, 1) := by decide +kernel
theorem dX3_init_0 : decode cX3_init 0 = .ok (.aload_n 0, 1) := by decide +kernel
theorem dX3_init_1 : decode cX3_init 1 = .ok (.invokespecial 3, 3) := by decide +kernel
theorem dX3_init_4 : decode cX3_init 4 = .ok (.aload_n 0, 1) := by decide +kernel
theorem dX3_init_5 : decode cX3_init 5 = .ok (.sipush 201, 3) := by decide +kernel
theorem dX3_init_8 : decode cX3_init 8 = .ok (.newarray .int, 2) := by decide +kernel
theorem dX3_init_10 : decode cX3_init 10 = .ok (.putfield 9, 3) := by decide +kernel
theorem dX3_init_13 : decode cX3_init 13 = .ok (.aload_n 0, 1) := by decide +kernel
theorem dX3_init_14 : decode cX3_init 14 = .ok (.sipush 201, 3) := by decide +kernel
theorem dX3_init_17 : decode cX3_init 17 = .ok (.newarray .int, 2) := by decide +kernel
theorem dX3_init_19 : decode cX3_init 19 = .ok (.putfield 15, 3) := by decide +kernel
theorem dX3_init_22 : decode cX3_init 22 = .ok (.aload_n 0, 1) := by decide +kernel
theorem dX3_init_23 : decode cX3_init 23 = .ok (.sipush 201, 3) := by decide +kernel
theorem dX3_init_26 : decode cX3_init 26 = .ok (.newarray .int, 2) := by decide +kernel
theorem dX3_init_28 : decode cX3_init 28 = .ok (.putfield 18, 3) := by decide +kernel
theorem dX3_init_31 : decode cX3_init 31 = .ok (.aload_n 0, 1) := by decide +kernel
theorem dX3_init_32 : decode cX3_init 32 = .ok (.sipush 201, 3) := by decide +kernel
theorem dX3_init_35 : decode cX3_init 35 = .ok (.newarray .int, 2) := by decide +kernel
theorem dX3_init_37 : decode cX3_init 37 = .ok (.putfield 21, 3) := by decide +kernel
theorem dX3_init_40 : decode cX3_init 40 = .ok (.aload_n 0, 1) := by decide +kernel
theorem dX3_init_41 : decode cX3_init 41 = .ok (.sipush 201, 3) := by decide +kernel
theorem dX3_init_44 : decode cX3_init 44 = .ok (.newarray .int, 2) := by decide +kernel
theorem dX3_init_46 : decode cX3_init 46 = .ok (.putfield 24, 3) := by decide +kernel
theorem dX3_init_49 : decode cX3_init 49 = .ok (.aload_n 0, 1) := by decide +kernel
theorem dX3_init_50 : decode cX3_init 50 = .ok (.sipush 201, 3) := by decide +kernel
theorem dX3_init_53 : decode cX3_init 53 = .ok (.newarray .boolean, 2) := by decide +kernel
theorem dX3_init_55 : decode cX3_init 55 = .ok (.putfield 27, 3) := by decide +kernel
theorem dX3_init_58 : decode cX3_init 58 = .ok (.aload_n 0, 1) := by decide +kernel
theorem dX3_init_59 : decode cX3_init 59 = .ok (.sipush 201, 3) := by decide +kernel
theorem dX3_init_62 : decode cX3_init 62 = .ok (.newarray .long, 2) := by decide +kernel
theorem dX3_init_64 : decode cX3_init 64 = .ok (.putfield 31, 3) := by decide +kernel
theorem dX3_init_67 : decode cX3_init 67 = .ok (.aload_n 0, 1) := by decide +kernel
theorem dX3_init_68 : decode cX3_init 68 = .ok (.aload_n 1, 1) := by decide +kernel
theorem dX3_init_69 : decode cX3_init 69 = .ok (.putfield 35, 3) := by decide +kernel
theorem dX3_init_72 : decode cX3_init 72 = .ok (.return_, 1) := by decide +kernel
theorem dX3_has_0 : decode cX3_has 0 = .ok (.iload_n 1, 1) := by decide +kernel
theorem dX3_has_1 : decode cX3_has 1 = .ok (.iconst 1, 1) := by decide +kernel
theorem dX3_has_2 : decode cX3_has 2 = .ok (.if_icmp .lt 15, 3) := by decide +kernel
theorem dX3_has_5 : decode cX3_has 5 = .ok (.iload_n 1, 1) := by decide +kernel
theorem dX3_has_6 : decode cX3_has 6 = .ok (.aload_n 0, 1) := by decide +kernel
theorem dX3_has_7 : decode cX3_has 7 = .ok (.getfield 39, 3) := by decide +kernel
theorem dX3_has_10 : decode cX3_has 10 = .ok (.if_icmp .gt 7, 3) := by decide +kernel
theorem dX3_has_13 : decode cX3_has 13 = .ok (.iconst 1, 1) := by decide +kernel
theorem dX3_has_14 : decode cX3_has 14 = .ok (.goto 4, 3) := by decide +kernel
theorem dX3_has_17 : decode cX3_has 17 = .ok (.iconst 0, 1) := by decide +kernel
theorem dX3_has_18 : decode cX3_has 18 = .ok (.ireturn, 1) := by decide +kernel
set_option maxRecDepth 20000 in
theorem ggX3_kindOf_X3_has : GoodIn wsX3_kindOf wsX3_has := goodIn_r _ [6, 7, 8, 9, 10, 11, 12, 13, 14, 15, 16] (by decide +kernel) (by decide +kernel)
set_option maxRecDepth 20000 in
theorem gX3_kindOf_X3_has : GoodIn wsX3_kindOf (wsV RX3 43 RX3 yX3_has wsX3_has) := goodIn_app (goodIn_of _ (by decide +kernel)) ggX3_kindOf_X3_has
theorem dX3_kindOf_0 : decode cX3_kindOf 0 = .ok (.aload_n 0, 1) := by decide +kernel
theorem dX3_kindOf_1 : decode cX3_kindOf 1 = .ok (.iload_n 1, 1) := by decide +kernel
theorem dX3_kindOf_2 : decode cX3_kindOf 2 = .ok (.invokevirtual 43, 3) := by decide +kernel
theorem dX3_kindOf_5 : decode cX3_kindOf 5 = .ok (.ifCond .eq 12, 3) := by decide +kernel
theorem dX3_kindOf_8 : decode cX3_kindOf 8 = .ok (.aload_n 0, 1) := by decide +kernel
theorem dX3_kindOf_9 : decode cX3_kindOf 9 = .ok (.getfield 9, 3) := by decide +kernel
theorem dX3_kindOf_12 : decode cX3_kindOf 12 = .ok (.iload_n 1, 1) := by decide +kernel
theorem dX3_kindOf_13 : decode cX3_kindOf 13 = .ok (.iaload, 1) := by decide +kernel
theorem dX3_kindOf_14 : decode cX3_kindOf 14 = .ok (.goto 4, 3) := by decide +kernel
theorem dX3_kindOf_17 : decode cX3_kindOf 17 = .ok (.iconst (-1), 1) := by decide +kernel
theorem dX3_kindOf_18 : decode cX3_kindOf 18 = .ok (.ireturn, 1) := by decide +kernel
set_option maxRecDepth 20000 in
theorem ggX3_firstOf_X3_has : GoodIn wsX3_firstOf wsX3_has := goodIn_r _ [6, 7, 8, 9, 10, 11, 12, 13, 14, 15, 16] (by decide +kernel) (by decide +kernel)
set_option maxRecDepth 20000 in
theorem gX3_firstOf_X3_has : GoodIn wsX3_firstOf (wsV RX3 43 RX3 yX3_has wsX3_has) := goodIn_app (goodIn_of _ (by decide +kernel)) ggX3_firstOf_X3_has
theorem dX3_firstOf_0 : decode cX3_firstOf 0 = .ok (.aload_n 0, 1) := by decide +kernel
theorem dX3_firstOf_1 : decode cX3_firstOf 1 = .ok (.iload_n 1, 1) := by decide +kernel
theorem dX3_firstOf_2 : decode cX3_firstOf 2 = .ok (.invokevirtual 43, 3) := by decide +kernel
theorem dX3_firstOf_5 : decode cX3_firstOf 5 = .ok (.ifCond .eq 12, 3) := by decide +kernel
theorem dX3_firstOf_8 : decode cX3_firstOf 8 = .ok (.aload_n 0, 1) := by decide +kernel
theorem dX3_firstOf_9 : decode cX3_firstOf 9 = .ok (.getfield 15, 3) := by decide +kernel
theorem dX3_firstOf_12 : decode cX3_firstOf 12 = .ok (.iload_n 1, 1) := by decide +kernel
theorem dX3_firstOf_13 : decode cX3_firstOf 13 = .ok (.iaload, 1) := by decide +kernel
theorem dX3_firstOf_14 : decode cX3_firstOf 14 = .ok (.goto 4, 3) := by decide +kernel
theorem dX3_firstOf_17 : decode cX3_firstOf 17 = .ok (.iconst (-1), 1) := by decide +kernel
theorem dX3_firstOf_18 : decode cX3_firstOf 18 = .ok (.ireturn, 1) := by decide +kernel
set_option maxRecDepth 20000 in
theorem ggX3_secondOf_X3_has : GoodIn wsX3_secondOf wsX3_has := goodIn_r _ [6, 7, 8, 9, 10, 11, 12, 13, 14, 15, 16] (by decide +kernel) (by decide +kernel)
set_option maxRecDepth 20000 in
theorem gX3_secondOf_X3_has : GoodIn wsX3_secondOf (wsV RX3 43 RX3 yX3_has wsX3_has) := goodIn_app (goodIn_of _ (by decide +kernel)) ggX3_secondOf_X3_has
theorem dX3_secondOf_0 : decode cX3_secondOf 0 = .ok (.aload_n 0, 1) := by decide +kernel
theorem dX3_secondOf_1 : decode cX3_secondOf 1 = .ok (.iload_n 1, 1) := by decide +kernel
theorem dX3_secondOf_2 : decode cX3_secondOf 2 = .ok (.invokevirtual 43, 3) := by decide +kernel
theorem dX3_secondOf_5 : decode cX3_secondOf 5 = .ok (.ifCond .eq 12, 3) := by decide +kernel
theorem dX3_secondOf_8 : decode cX3_secondOf 8 = .ok (.aload_n 0, 1) := by decide +kernel
theorem dX3_secondOf_9 : decode cX3_secondOf 9 = .ok (.getfield 18, 3) := by decide +kernel
theorem dX3_secondOf_12 : decode cX3_secondOf 12 = .ok (.iload_n 1, 1) := by decide +kernel
theorem dX3_secondOf_13 : decode cX3_secondOf 13 = .ok (.iaload, 1) := by decide +kernel
theorem dX3_secondOf_14 : decode cX3_secondOf 14 = .ok (.goto 4, 3) := by decide +kernel
theorem dX3_secondOf_17 : decode cX3_secondOf 17 = .ok (.iconst (-1), 1) := by decide +kernel
theorem dX3_secondOf_18 : decode cX3_secondOf 18 = .ok (.ireturn, 1) := by decide +kernel
set_option maxRecDepth 20000 in
theorem ggX3_digitsOf_X3_has : GoodIn wsX3_digitsOf wsX3_has := goodIn_r _ [6, 7, 8, 9, 10, 11, 12, 13, 14, 15, 16] (by decide +kernel) (by decide +kernel)
set_option maxRecDepth 20000 in
theorem gX3_digitsOf_X3_has : GoodIn wsX3_digitsOf (wsV RX3 43 RX3 yX3_has wsX3_has) := goodIn_app (goodIn_of _ (by decide +kernel)) ggX3_digitsOf_X3_has
theorem dX3_digitsOf_0 : decode cX3_digitsOf 0 = .ok (.aload_n 0, 1) := by decide +kernel
theorem dX3_digitsOf_1 : decode cX3_digitsOf 1 = .ok (.iload_n 1, 1) := by decide +kernel
theorem dX3_digitsOf_2 : decode cX3_digitsOf 2 = .ok (.invokevirtual 43, 3) := by decide +kernel
theorem dX3_digitsOf_5 : decode cX3_digitsOf 5 = .ok (.ifCond .eq 12, 3) := by decide +kernel
theorem dX3_digitsOf_8 : decode cX3_digitsOf 8 = .ok (.aload_n 0, 1) := by decide +kernel
theorem dX3_digitsOf_9 : decode cX3_digitsOf 9 = .ok (.getfield 21, 3) := by decide +kernel
theorem dX3_digitsOf_12 : decode cX3_digitsOf 12 = .ok (.iload_n 1, 1) := by decide +kernel
theorem dX3_digitsOf_13 : decode cX3_digitsOf 13 = .ok (.iaload, 1) := by decide +kernel
theorem dX3_digitsOf_14 : decode cX3_digitsOf 14 = .ok (.goto 4, 3) := by decide +kernel
theorem dX3_digitsOf_17 : decode cX3_digitsOf 17 = .ok (.iconst 0, 1) := by decide +kernel
theorem dX3_digitsOf_18 : decode cX3_digitsOf 18 = .ok (.ireturn, 1) := by decide +kernel
set_option maxRecDepth 20000 in
theorem ggX3_rowsOf_X3_has : GoodIn wsX3_rowsOf wsX3_has := goodIn_r _ [6, 7, 8, 9, 10, 11, 12, 13, 14, 15, 16] (by decide +kernel) (by decide +kernel)
set_option maxRecDepth 20000 in
theorem gX3_rowsOf_X3_has : GoodIn wsX3_rowsOf (wsV RX3 43 RX3 yX3_has wsX3_has) := goodIn_app (goodIn_of _ (by decide +kernel)) ggX3_rowsOf_X3_has
theorem dX3_rowsOf_0 : decode cX3_rowsOf 0 = .ok (.aload_n 0, 1) := by decide +kernel
theorem dX3_rowsOf_1 : decode cX3_rowsOf 1 = .ok (.iload_n 1, 1) := by decide +kernel
theorem dX3_rowsOf_2 : decode cX3_rowsOf 2 = .ok (.invokevirtual 43, 3) := by decide +kernel
theorem dX3_rowsOf_5 : decode cX3_rowsOf 5 = .ok (.ifCond .eq 12, 3) := by decide +kernel
theorem dX3_rowsOf_8 : decode cX3_rowsOf 8 = .ok (.aload_n 0, 1) := by decide +kernel
theorem dX3_rowsOf_9 : decode cX3_rowsOf 9 = .ok (.getfield 24, 3) := by decide +kernel
theorem dX3_rowsOf_12 : decode cX3_rowsOf 12 = .ok (.iload_n 1, 1) := by decide +kernel
theorem dX3_rowsOf_13 : decode cX3_rowsOf 13 = .ok (.iaload, 1) := by decide +kernel
theorem dX3_rowsOf_14 : decode cX3_rowsOf 14 = .ok (.goto 4, 3) := by decide +kernel
theorem dX3_rowsOf_17 : decode cX3_rowsOf 17 = .ok (.iconst 0, 1) := by decide +kernel
theorem dX3_rowsOf_18 : decode cX3_rowsOf 18 = .ok (.ireturn, 1) := by decide +kernel
set_option maxRecDepth 20000 in
theorem ggX3_isFolded_X3_has : GoodIn wsX3_isFolded wsX3_has := goodIn_r _ [6, 7, 8, 9, 10, 11, 12, 13, 14, 15, 16] (by decide +kernel) (by decide +kernel)
set_option maxRecDepth 20000 in
theorem gX3_isFolded_X3_has : GoodIn wsX3_isFolded (wsV RX3 43 RX3 yX3_has wsX3_has) := goodIn_app (goodIn_of _ (by decide +kernel)) ggX3_isFolded_X3_has
theorem dX3_isFolded_0 : decode cX3_isFolded 0 = .ok (.aload_n 0, 1) := by decide +kernel
theorem dX3_isFolded_1 : decode cX3_isFolded 1 = .ok (.iload_n 1, 1) := by decide +kernel
theorem dX3_isFolded_2 : decode cX3_isFolded 2 = .ok (.invokevirtual 43, 3) := by decide +kernel
theorem dX3_isFolded_5 : decode cX3_isFolded 5 = .ok (.ifCond .eq 16, 3) := by decide +kernel
theorem dX3_isFolded_8 : decode cX3_isFolded 8 = .ok (.aload_n 0, 1) := by decide +kernel
theorem dX3_isFolded_9 : decode cX3_isFolded 9 = .ok (.getfield 27, 3) := by decide +kernel
theorem dX3_isFolded_12 : decode cX3_isFolded 12 = .ok (.iload_n 1, 1) := by decide +kernel
theorem dX3_isFolded_13 : decode cX3_isFolded 13 = .ok (.baload, 1) := by decide +kernel
theorem dX3_isFolded_14 : decode cX3_isFolded 14 = .ok (.ifCond .eq 7, 3) := by decide +kernel
theorem dX3_isFolded_17 : decode cX3_isFolded 17 = .ok (.iconst 1, 1) := by decide +kernel
theorem dX3_isFolded_18 : decode cX3_isFolded 18 = .ok (.goto 4, 3) := by decide +kernel
theorem dX3_isFolded_21 : decode cX3_isFolded 21 = .ok (.iconst 0, 1) := by decide +kernel
theorem dX3_isFolded_22 : decode cX3_isFolded 22 = .ok (.ireturn, 1) := by decide +kernel
set_option maxRecDepth 20000 in
theorem ggX3_foldedOf_X3_has : GoodIn wsX3_foldedOf wsX3_has := goodIn_r _ [6, 7, 8, 9, 10, 11, 12, 13, 14, 15, 16] (by decide +kernel) (by decide +kernel)
set_option maxRecDepth 20000 in
theorem gX3_foldedOf_X3_has : GoodIn wsX3_foldedOf (wsV RX3 43 RX3 yX3_has wsX3_has) := goodIn_app (goodIn_of _ (by decide +kernel)) ggX3_foldedOf_X3_has
theorem dX3_foldedOf_0 : decode cX3_foldedOf 0 = .ok (.aload_n 0, 1) := by decide +kernel
theorem dX3_foldedOf_1 : decode cX3_foldedOf 1 = .ok (.iload_n 1, 1) := by decide +kernel
theorem dX3_foldedOf_2 : decode cX3_foldedOf 2 = .ok (.invokevirtual 43, 3) := by decide +kernel
theorem dX3_foldedOf_5 : decode cX3_foldedOf 5 = .ok (.ifCond .eq 12, 3) := by decide +kernel
theorem dX3_foldedOf_8 : decode cX3_foldedOf 8 = .ok (.aload_n 0, 1) := by decide +kernel
theorem dX3_foldedOf_9 : decode cX3_foldedOf 9 = .ok (.getfield 31, 3) := by decide +kernel
theorem dX3_foldedOf_12 : decode cX3_foldedOf 12 = .ok (.iload_n 1, 1) := by decide +kernel
theorem dX3_foldedOf_13 : decode cX3_foldedOf 13 = .ok (.laload, 1) := by decide +kernel
theorem dX3_foldedOf_14 : decode cX3_foldedOf 14 = .ok (.goto 4, 3) := by decide +kernel
theorem dX3_foldedOf_17 : decode cX3_foldedOf 17 = .ok (.lconst 0, 1) := by decide +kernel
theorem dX3_foldedOf_18 : decode cX3_foldedOf 18 = .ok (.lreturn, 1) := by decide +kernel
set_option maxRecDepth 20000 in
theorem ggX3_isValue_X3_has : GoodIn wsX3_isValue wsX3_has := goodIn_r _ [6, 7, 8, 9, 10, 11, 12, 13, 14, 15, 16] (by decide +kernel) (by decide +kernel)
set_option maxRecDepth 20000 in
theorem gX3_isValue_X3_has : GoodIn wsX3_isValue (wsV RX3 43 RX3 yX3_has wsX3_has) := goodIn_app (goodIn_of _ (by decide +kernel)) ggX3_isValue_X3_has
theorem dX3_isValue_0 : decode cX3_isValue 0 = .ok (.aload_n 0, 1) := by decide +kernel
theorem dX3_isValue_1 : decode cX3_isValue 1 = .ok (.iload_n 1, 1) := by decide +kernel
theorem dX3_isValue_2 : decode cX3_isValue 2 = .ok (.invokevirtual 43, 3) := by decide +kernel
theorem dX3_isValue_5 : decode cX3_isValue 5 = .ok (.ifCond .eq 18, 3) := by decide +kernel
theorem dX3_isValue_8 : decode cX3_isValue 8 = .ok (.aload_n 0, 1) := by decide +kernel
theorem dX3_isValue_9 : decode cX3_isValue 9 = .ok (.getfield 9, 3) := by decide +kernel
theorem dX3_isValue_12 : decode cX3_isValue 12 = .ok (.iload_n 1, 1) := by decide +kernel
theorem dX3_isValue_13 : decode cX3_isValue 13 = .ok (.iaload, 1) := by decide +kernel
theorem dX3_isValue_14 : decode cX3_isValue 14 = .ok (.bipush 9, 2) := by decide +kernel
theorem dX3_isValue_16 : decode cX3_isValue 16 = .ok (.if_icmp .ge 7, 3) := by decide +kernel
theorem dX3_isValue_19 : decode cX3_isValue 19 = .ok (.iconst 1, 1) := by decide +kernel
theorem dX3_isValue_20 : decode cX3_isValue 20 = .ok (.goto 4, 3) := by decide +kernel
theorem dX3_isValue_23 : decode cX3_isValue 23 = .ok (.iconst 0, 1) := by decide +kernel
theorem dX3_isValue_24 : decode cX3_isValue 24 = .ok (.ireturn, 1) := by decide +kernel
set_option maxRecDepth 20000 in
theorem ggX3_add_X3_areSides : GoodIn wsX3_add wsX3_areSides := goodIn_r _ [16, 17, 18, 19, 20, 21, 22, 23, 24, 25, 26, 15, 27, 2, 28, 29, 30, 31, 1, 32, 33, 34, 35, 36, 37, 38, 39, 3, 40, 41, 42, 43, 4, 95, 96, 97, 98, 99, 100, 101, 102, 103, 104, 105, 106, 107] (by decide +kernel) (by decide +kernel)
set_option maxRecDepth 20000 in
theorem gX3_add_X3_areSides : GoodIn wsX3_add (wsV RX3 47 RX3 yX3_areSides wsX3_areSides) := goodIn_app (goodIn_of _ (by decide +kernel)) ggX3_add_X3_areSides
set_option maxRecDepth 20000 in
theorem ggX3_add_X3_fold : GoodIn wsX3_add wsX3_fold := goodIn_r _ [47, 11, 48, 49, 50, 51, 52, 53, 54, 15, 55, 28, 29, 30, 31, 1, 56, 57, 58, 59, 60, 61, 95, 96, 97, 98, 99, 100, 101, 102, 103] (by decide +kernel) (by decide +kernel)
set_option maxRecDepth 20000 in
theorem gX3_add_X3_fold : GoodIn wsX3_add (wsV RX3 51 RX3 yX3_fold wsX3_fold) := goodIn_app (goodIn_of _ (by decide +kernel)) ggX3_add_X3_fold
set_option maxRecDepth 20000 in
theorem ggX3_add_X3_digitsFor : GoodIn wsX3_add wsX3_digitsFor := goodIn_r _ [65, 17, 66, 67, 8, 68, 69, 70, 15, 71, 72, 73, 74, 21, 75, 76, 77, 78, 19, 20, 22, 23, 79, 80, 81, 82, 5, 28, 29, 30, 31, 1, 95, 96, 97, 98, 99, 100, 101, 102, 103, 104, 105, 106, 107] (by decide +kernel) (by decide +kernel)
set_option maxRecDepth 20000 in
theorem gX3_add_X3_digitsFor : GoodIn wsX3_add (wsV RX3 55 RX3 yX3_digitsFor wsX3_digitsFor) := goodIn_app (goodIn_of _ (by decide +kernel)) ggX3_add_X3_digitsFor
set_option maxRecDepth 20000 in
theorem ggX3_add_X3_rowsFor : GoodIn wsX3_add wsX3_rowsFor := goodIn_r _ [86, 87, 88, 89, 15, 90, 10, 28, 29, 30, 31, 1, 36, 37, 38, 39, 3, 40, 41, 42, 43, 4, 91, 92, 93, 94, 24, 25, 26, 27, 2, 95, 96, 97, 98, 99, 100, 101, 102, 103] (by decide +kernel) (by decide +kernel)
set_option maxRecDepth 20000 in
theorem gX3_add_X3_rowsFor : GoodIn wsX3_add (wsV RX3 65 RX3 yX3_rowsFor wsX3_rowsFor) := goodIn_app (goodIn_of _ (by decide +kernel)) ggX3_add_X3_rowsFor
theorem dX3_add_0 : decode cX3_add 0 = .ok (.iload_n 1, 1) := by decide +kernel
theorem dX3_add_1 : decode cX3_add 1 = .ok (.ifCond .lt 9, 3) := by decide +kernel
theorem dX3_add_4 : decode cX3_add 4 = .ok (.iload_n 1, 1) := by decide +kernel
theorem dX3_add_5 : decode cX3_add 5 = .ok (.bipush 13, 2) := by decide +kernel
theorem dX3_add_7 : decode cX3_add 7 = .ok (.if_icmp .le 6, 3) := by decide +kernel
theorem dX3_add_10 : decode cX3_add 10 = .ok (.bipush (-4), 2) := by decide +kernel
theorem dX3_add_12 : decode cX3_add 12 = .ok (.ireturn, 1) := by decide +kernel
theorem dX3_add_13 : decode cX3_add 13 = .ok (.aload_n 0, 1) := by decide +kernel
theorem dX3_add_14 : decode cX3_add 14 = .ok (.iload_n 1, 1) := by decide +kernel
theorem dX3_add_15 : decode cX3_add 15 = .ok (.iload_n 2, 1) := by decide +kernel
theorem dX3_add_16 : decode cX3_add 16 = .ok (.iload_n 3, 1) := by decide +kernel
theorem dX3_add_17 : decode cX3_add 17 = .ok (.invokevirtual 47, 3) := by decide +kernel
theorem dX3_add_20 : decode cX3_add 20 = .ok (.ifCond .ne 6, 3) := by decide +kernel
theorem dX3_add_23 : decode cX3_add 23 = .ok (.bipush (-2), 2) := by decide +kernel
theorem dX3_add_25 : decode cX3_add 25 = .ok (.ireturn, 1) := by decide +kernel
theorem dX3_add_26 : decode cX3_add 26 = .ok (.aload_n 0, 1) := by decide +kernel
theorem dX3_add_27 : decode cX3_add 27 = .ok (.getfield 39, 3) := by decide +kernel
theorem dX3_add_30 : decode cX3_add 30 = .ok (.sipush 200, 3) := by decide +kernel
theorem dX3_add_33 : decode cX3_add 33 = .ok (.if_icmp .lt 5, 3) := by decide +kernel
theorem dX3_add_36 : decode cX3_add 36 = .ok (.iconst (-1), 1) := by decide +kernel
theorem dX3_add_37 : decode cX3_add 37 = .ok (.ireturn, 1) := by decide +kernel
theorem dX3_add_38 : decode cX3_add 38 = .ok (.aload_n 0, 1) := by decide +kernel
theorem dX3_add_39 : decode cX3_add 39 = .ok (.getfield 39, 3) := by decide +kernel
theorem dX3_add_42 : decode cX3_add 42 = .ok (.iconst 1, 1) := by decide +kernel
theorem dX3_add_43 : decode cX3_add 43 = .ok (.iadd, 1) := by decide +kernel
theorem dX3_add_44 : decode cX3_add 44 = .ok (.istore 4, 2) := by decide +kernel
theorem dX3_add_46 : decode cX3_add 46 = .ok (.aload_n 0, 1) := by decide +kernel
theorem dX3_add_47 : decode cX3_add 47 = .ok (.getfield 9, 3) := by decide +kernel
theorem dX3_add_50 : decode cX3_add 50 = .ok (.iload 4, 2) := by decide +kernel
theorem dX3_add_52 : decode cX3_add 52 = .ok (.iload_n 1, 1) := by decide +kernel
theorem dX3_add_53 : decode cX3_add 53 = .ok (.iastore, 1) := by decide +kernel
theorem dX3_add_54 : decode cX3_add 54 = .ok (.aload_n 0, 1) := by decide +kernel
theorem dX3_add_55 : decode cX3_add 55 = .ok (.getfield 15, 3) := by decide +kernel
theorem dX3_add_58 : decode cX3_add 58 = .ok (.iload 4, 2) := by decide +kernel
theorem dX3_add_60 : decode cX3_add 60 = .ok (.iload_n 2, 1) := by decide +kernel
theorem dX3_add_61 : decode cX3_add 61 = .ok (.iastore, 1) := by decide +kernel
theorem dX3_add_62 : decode cX3_add 62 = .ok (.aload_n 0, 1) := by decide +kernel
theorem dX3_add_63 : decode cX3_add 63 = .ok (.getfield 18, 3) := by decide +kernel
theorem dX3_add_66 : decode cX3_add 66 = .ok (.iload 4, 2) := by decide +kernel
theorem dX3_add_68 : decode cX3_add 68 = .ok (.iload_n 3, 1) := by decide +kernel
theorem dX3_add_69 : decode cX3_add 69 = .ok (.iastore, 1) := by decide +kernel
theorem dX3_add_70 : decode cX3_add 70 = .ok (.aload_n 0, 1) := by decide +kernel
theorem dX3_add_71 : decode cX3_add 71 = .ok (.iload 4, 2) := by decide +kernel
theorem dX3_add_73 : decode cX3_add 73 = .ok (.iload_n 1, 1) := by decide +kernel
theorem dX3_add_74 : decode cX3_add 74 = .ok (.iload_n 2, 1) := by decide +kernel
theorem dX3_add_75 : decode cX3_add 75 = .ok (.iload_n 3, 1) := by decide +kernel
theorem dX3_add_76 : decode cX3_add 76 = .ok (.invokevirtual 51, 3) := by decide +kernel
theorem dX3_add_79 : decode cX3_add 79 = .ok (.aload_n 0, 1) := by decide +kernel
theorem dX3_add_80 : decode cX3_add 80 = .ok (.getfield 21, 3) := by decide +kernel
theorem dX3_add_83 : decode cX3_add 83 = .ok (.iload 4, 2) := by decide +kernel
theorem dX3_add_85 : decode cX3_add 85 = .ok (.bipush 100, 2) := by decide +kernel
theorem dX3_add_87 : decode cX3_add 87 = .ok (.aload_n 0, 1) := by decide +kernel
theorem dX3_add_88 : decode cX3_add 88 = .ok (.iload_n 1, 1) := by decide +kernel
theorem dX3_add_89 : decode cX3_add 89 = .ok (.iload_n 2, 1) := by decide +kernel
theorem dX3_add_90 : decode cX3_add 90 = .ok (.iload_n 3, 1) := by decide +kernel
theorem dX3_add_91 : decode cX3_add 91 = .ok (.invokevirtual 55, 3) := by decide +kernel
theorem dX3_add_94 : decode cX3_add 94 = .ok (.invokestatic 59, 3) := by decide +kernel
theorem dX3_add_97 : decode cX3_add 97 = .ok (.iastore, 1) := by decide +kernel
theorem dX3_add_98 : decode cX3_add 98 = .ok (.aload_n 0, 1) := by decide +kernel
theorem dX3_add_99 : decode cX3_add 99 = .ok (.getfield 24, 3) := by decide +kernel
theorem dX3_add_102 : decode cX3_add 102 = .ok (.iload 4, 2) := by decide +kernel
theorem dX3_add_104 : decode cX3_add 104 = .ok (.aload_n 0, 1) := by decide +kernel
theorem dX3_add_105 : decode cX3_add 105 = .ok (.getfield 27, 3) := by decide +kernel
theorem dX3_add_108 : decode cX3_add 108 = .ok (.iload 4, 2) := by decide +kernel
theorem dX3_add_110 : decode cX3_add 110 = .ok (.baload, 1) := by decide +kernel
theorem dX3_add_111 : decode cX3_add 111 = .ok (.ifCond .eq 7, 3) := by decide +kernel
theorem dX3_add_114 : decode cX3_add 114 = .ok (.iconst 1, 1) := by decide +kernel
theorem dX3_add_115 : decode cX3_add 115 = .ok (.goto 16, 3) := by decide +kernel
theorem dX3_add_118 : decode cX3_add 118 = .ok (.sipush 401, 3) := by decide +kernel
theorem dX3_add_121 : decode cX3_add 121 = .ok (.aload_n 0, 1) := by decide +kernel
theorem dX3_add_122 : decode cX3_add 122 = .ok (.iload_n 1, 1) := by decide +kernel
theorem dX3_add_123 : decode cX3_add 123 = .ok (.iload_n 2, 1) := by decide +kernel
theorem dX3_add_124 : decode cX3_add 124 = .ok (.iload_n 3, 1) := by decide +kernel
theorem dX3_add_125 : decode cX3_add 125 = .ok (.invokevirtual 65, 3) := by decide +kernel
theorem dX3_add_128 : decode cX3_add 128 = .ok (.invokestatic 59, 3) := by decide +kernel
theorem dX3_add_131 : decode cX3_add 131 = .ok (.iastore, 1) := by decide +kernel
theorem dX3_add_132 : decode cX3_add 132 = .ok (.aload_n 0, 1) := by decide +kernel
theorem dX3_add_133 : decode cX3_add 133 = .ok (.iload 4, 2) := by decide +kernel
theorem dX3_add_135 : decode cX3_add 135 = .ok (.putfield 39, 3) := by decide +kernel
theorem dX3_add_138 : decode cX3_add 138 = .ok (.iload 4, 2) := by decide +kernel
theorem dX3_add_140 : decode cX3_add 140 = .ok (.ireturn, 1) := by decide +kernel
set_option maxRecDepth 20000 in
theorem ggX3_areSides_X0_has : GoodIn wsX3_areSides wsX0_has := goodIn_r _ [6, 7, 42, 43, 44, 45] (by decide +kernel) (by decide +kernel)
set_option maxRecDepth 20000 in
theorem gX3_areSides_X0_has : GoodIn wsX3_areSides (wsV RX3 68 RX0 yX0_has wsX0_has) := goodIn_app (goodIn_of _ (by decide +kernel)) ggX3_areSides_X0_has
set_option maxRecDepth 20000 in
theorem ggX3_areSides_X3_isValue : GoodIn wsX3_areSides wsX3_isValue := goodIn_r _ [12, 13, 14, 15, 16, 11, 17, 18, 33, 34, 35, 36, 37, 38, 39, 40, 41] (by decide +kernel) (by decide +kernel)
set_option maxRecDepth 20000 in
theorem gX3_areSides_X3_isValue : GoodIn wsX3_areSides (wsV RX3 71 RX3 yX3_isValue wsX3_isValue) := goodIn_app (goodIn_of _ (by decide +kernel)) ggX3_areSides_X3_isValue
set_option maxRecDepth 20000 in
theorem ggX3_areSides_X3_kindOf : GoodIn wsX3_areSides wsX3_kindOf := goodIn_r _ [22, 13, 14, 15, 16, 11, 17, 18, 33, 34, 35, 36, 37, 38, 39, 40, 41] (by decide +kernel) (by decide +kernel)
set_option maxRecDepth 20000 in
theorem gX3_areSides_X3_kindOf : GoodIn wsX3_areSides (wsV RX3 74 RX3 yX3_kindOf wsX3_kindOf) := goodIn_app (goodIn_of _ (by decide +kernel)) ggX3_areSides_X3_kindOf
set_option maxRecDepth 20000 in
theorem ggX3_areSides_X3_firstOf : GoodIn wsX3_areSides wsX3_firstOf := goodIn_r _ [26, 27, 14, 15, 16, 11, 17, 18, 33, 34, 35, 36, 37, 38, 39, 40, 41] (by decide +kernel) (by decide +kernel)
set_option maxRecDepth 20000 in
theorem gX3_areSides_X3_firstOf : GoodIn wsX3_areSides (wsV RX3 78 RX3 yX3_firstOf wsX3_firstOf) := goodIn_app (goodIn_of _ (by decide +kernel)) ggX3_areSides_X3_firstOf
set_option maxRecDepth 20000 in
theorem ggX3_areSides_X3_secondOf : GoodIn wsX3_areSides wsX3_secondOf := goodIn_r _ [31, 32, 14, 15, 16, 11, 17, 18, 33, 34, 35, 36, 37, 38, 39, 40, 41] (by decide +kernel) (by decide +kernel)
set_option maxRecDepth 20000 in
theorem gX3_areSides_X3_secondOf : GoodIn wsX3_areSides (wsV RX3 81 RX3 yX3_secondOf wsX3_secondOf) := goodIn_app (goodIn_of _ (by decide +kernel)) ggX3_areSides_X3_secondOf
set_option maxRecDepth 20000 in
theorem ggX3_areSides_X3_has : GoodIn wsX3_areSides wsX3_has := goodIn_r _ [17, 18, 33, 34, 35, 36, 37, 38, 39, 40, 41] (by decide +kernel) (by decide +kernel)
set_option maxRecDepth 20000 in
theorem gX3_areSides_X3_has : GoodIn wsX3_areSides (wsV RX3 43 RX3 yX3_has wsX3_has) := goodIn_app (goodIn_of _ (by decide +kernel)) ggX3_areSides_X3_has
theorem dX3_areSides_0 : decode cX3_areSides 0 = .ok (.iload_n 1, 1) := by decide +kernel
theorem dX3_areSides_1 : decode cX3_areSides 1 = .ok (.tableswitch 202 0 13 #[71, 73, 82, 202, 202, 202, 202, 202, 202, 82, 107, 158, 180, 180], 71) := by decide +kernel
theorem dX3_areSides_72 : decode cX3_areSides 72 = .ok (.iconst 1, 1) := by decide +kernel
theorem dX3_areSides_73 : decode cX3_areSides 73 = .ok (.ireturn, 1) := by decide +kernel
theorem dX3_areSides_74 : decode cX3_areSides 74 = .ok (.aload_n 0, 1) := by decide +kernel
theorem dX3_areSides_75 : decode cX3_areSides 75 = .ok (.getfield 35, 3) := by decide +kernel
theorem dX3_areSides_78 : decode cX3_areSides 78 = .ok (.iload_n 2, 1) := by decide +kernel
theorem dX3_areSides_79 : decode cX3_areSides 79 = .ok (.invokevirtual 68, 3) := by decide +kernel
theorem dX3_areSides_82 : decode cX3_areSides 82 = .ok (.ireturn, 1) := by decide +kernel
theorem dX3_areSides_83 : decode cX3_areSides 83 = .ok (.aload_n 0, 1) := by decide +kernel
theorem dX3_areSides_84 : decode cX3_areSides 84 = .ok (.getfield 35, 3) := by decide +kernel
theorem dX3_areSides_87 : decode cX3_areSides 87 = .ok (.iload_n 2, 1) := by decide +kernel
theorem dX3_areSides_88 : decode cX3_areSides 88 = .ok (.invokevirtual 68, 3) := by decide +kernel
theorem dX3_areSides_91 : decode cX3_areSides 91 = .ok (.ifCond .eq 15, 3) := by decide +kernel
theorem dX3_areSides_94 : decode cX3_areSides 94 = .ok (.aload_n 0, 1) := by decide +kernel
theorem dX3_areSides_95 : decode cX3_areSides 95 = .ok (.iload_n 3, 1) := by decide +kernel
theorem dX3_areSides_96 : decode cX3_areSides 96 = .ok (.invokevirtual 71, 3) := by decide +kernel
theorem dX3_areSides_99 : decode cX3_areSides 99 = .ok (.ifCond .eq 7, 3) := by decide +kernel
theorem dX3_areSides_102 : decode cX3_areSides 102 = .ok (.iconst 1, 1) := by decide +kernel
theorem dX3_areSides_103 : decode cX3_areSides 103 = .ok (.goto 4, 3) := by decide +kernel
theorem dX3_areSides_106 : decode cX3_areSides 106 = .ok (.iconst 0, 1) := by decide +kernel
theorem dX3_areSides_107 : decode cX3_areSides 107 = .ok (.ireturn, 1) := by decide +kernel
theorem dX3_areSides_108 : decode cX3_areSides 108 = .ok (.aload_n 0, 1) := by decide +kernel
theorem dX3_areSides_109 : decode cX3_areSides 109 = .ok (.getfield 35, 3) := by decide +kernel
theorem dX3_areSides_112 : decode cX3_areSides 112 = .ok (.iload_n 2, 1) := by decide +kernel
theorem dX3_areSides_113 : decode cX3_areSides 113 = .ok (.invokevirtual 68, 3) := by decide +kernel
theorem dX3_areSides_116 : decode cX3_areSides 116 = .ok (.ifCond .eq 41, 3) := by decide +kernel
theorem dX3_areSides_119 : decode cX3_areSides 119 = .ok (.aload_n 0, 1) := by decide +kernel
theorem dX3_areSides_120 : decode cX3_areSides 120 = .ok (.iload_n 3, 1) := by decide +kernel
theorem dX3_areSides_121 : decode cX3_areSides 121 = .ok (.invokevirtual 74, 3) := by decide +kernel
theorem dX3_areSides_124 : decode cX3_areSides 124 = .ok (.bipush 11, 2) := by decide +kernel
theorem dX3_areSides_126 : decode cX3_areSides 126 = .ok (.if_icmp .ne 31, 3) := by decide +kernel
theorem dX3_areSides_129 : decode cX3_areSides 129 = .ok (.aload_n 0, 1) := by decide +kernel
theorem dX3_areSides_130 : decode cX3_areSides 130 = .ok (.aload_n 0, 1) := by decide +kernel
theorem dX3_areSides_131 : decode cX3_areSides 131 = .ok (.iload_n 3, 1) := by decide +kernel
theorem dX3_areSides_132 : decode cX3_areSides 132 = .ok (.invokevirtual 78, 3) := by decide +kernel
theorem dX3_areSides_135 : decode cX3_areSides 135 = .ok (.invokevirtual 71, 3) := by decide +kernel
theorem dX3_areSides_138 : decode cX3_areSides 138 = .ok (.ifCond .eq 19, 3) := by decide +kernel
theorem dX3_areSides_141 : decode cX3_areSides 141 = .ok (.aload_n 0, 1) := by decide +kernel
theorem dX3_areSides_142 : decode cX3_areSides 142 = .ok (.aload_n 0, 1) := by decide +kernel
theorem dX3_areSides_143 : decode cX3_areSides 143 = .ok (.iload_n 3, 1) := by decide +kernel
theorem dX3_areSides_144 : decode cX3_areSides 144 = .ok (.invokevirtual 81, 3) := by decide +kernel
theorem dX3_areSides_147 : decode cX3_areSides 147 = .ok (.invokevirtual 71, 3) := by decide +kernel
theorem dX3_areSides_150 : decode cX3_areSides 150 = .ok (.ifCond .eq 7, 3) := by decide +kernel
theorem dX3_areSides_153 : decode cX3_areSides 153 = .ok (.iconst 1, 1) := by decide +kernel
theorem dX3_areSides_154 : decode cX3_areSides 154 = .ok (.goto 4, 3) := by decide +kernel
theorem dX3_areSides_157 : decode cX3_areSides 157 = .ok (.iconst 0, 1) := by decide +kernel
theorem dX3_areSides_158 : decode cX3_areSides 158 = .ok (.ireturn, 1) := by decide +kernel
theorem dX3_areSides_159 : decode cX3_areSides 159 = .ok (.aload_n 0, 1) := by decide +kernel
theorem dX3_areSides_160 : decode cX3_areSides 160 = .ok (.iload_n 2, 1) := by decide +kernel
theorem dX3_areSides_161 : decode cX3_areSides 161 = .ok (.invokevirtual 43, 3) := by decide +kernel
theorem dX3_areSides_164 : decode cX3_areSides 164 = .ok (.ifCond .eq 15, 3) := by decide +kernel
theorem dX3_areSides_167 : decode cX3_areSides 167 = .ok (.aload_n 0, 1) := by decide +kernel
theorem dX3_areSides_168 : decode cX3_areSides 168 = .ok (.iload_n 3, 1) := by decide +kernel
theorem dX3_areSides_169 : decode cX3_areSides 169 = .ok (.invokevirtual 43, 3) := by decide +kernel
theorem dX3_areSides_172 : decode cX3_areSides 172 = .ok (.ifCond .eq 7, 3) := by decide +kernel
theorem dX3_areSides_175 : decode cX3_areSides 175 = .ok (.iconst 1, 1) := by decide +kernel
theorem dX3_areSides_176 : decode cX3_areSides 176 = .ok (.goto 4, 3) := by decide +kernel
theorem dX3_areSides_179 : decode cX3_areSides 179 = .ok (.iconst 0, 1) := by decide +kernel
theorem dX3_areSides_180 : decode cX3_areSides 180 = .ok (.ireturn, 1) := by decide +kernel
theorem dX3_areSides_181 : decode cX3_areSides 181 = .ok (.aload_n 0, 1) := by decide +kernel
theorem dX3_areSides_182 : decode cX3_areSides 182 = .ok (.iload_n 2, 1) := by decide +kernel
theorem dX3_areSides_183 : decode cX3_areSides 183 = .ok (.invokevirtual 71, 3) := by decide +kernel
theorem dX3_areSides_186 : decode cX3_areSides 186 = .ok (.ifCond .eq 15, 3) := by decide +kernel
theorem dX3_areSides_189 : decode cX3_areSides 189 = .ok (.aload_n 0, 1) := by decide +kernel
theorem dX3_areSides_190 : decode cX3_areSides 190 = .ok (.iload_n 3, 1) := by decide +kernel
theorem dX3_areSides_191 : decode cX3_areSides 191 = .ok (.invokevirtual 43, 3) := by decide +kernel
theorem dX3_areSides_194 : decode cX3_areSides 194 = .ok (.ifCond .eq 7, 3) := by decide +kernel
theorem dX3_areSides_197 : decode cX3_areSides 197 = .ok (.iconst 1, 1) := by decide +kernel
theorem dX3_areSides_198 : decode cX3_areSides 198 = .ok (.goto 4, 3) := by decide +kernel
theorem dX3_areSides_201 : decode cX3_areSides 201 = .ok (.iconst 0, 1) := by decide +kernel
theorem dX3_areSides_202 : decode cX3_areSides 202 = .ok (.ireturn, 1) := by decide +kernel
theorem dX3_areSides_203 : decode cX3_areSides 203 = .ok (.aload_n 0, 1) := by decide +kernel
theorem dX3_areSides_204 : decode cX3_areSides 204 = .ok (.iload_n 2, 1) := by decide +kernel
theorem dX3_areSides_205 : decode cX3_areSides 205 = .ok (.invokevirtual 71, 3) := by decide +kernel
theorem dX3_areSides_208 : decode cX3_areSides 208 = .ok (.ifCond .eq 15, 3) := by decide +kernel
theorem dX3_areSides_211 : decode cX3_areSides 211 = .ok (.aload_n 0, 1) := by decide +kernel
theorem dX3_areSides_212 : decode cX3_areSides 212 = .ok (.iload_n 3, 1) := by decide +kernel
theorem dX3_areSides_213 : decode cX3_areSides 213 = .ok (.invokevirtual 71, 3) := by decide +kernel
theorem dX3_areSides_216 : decode cX3_areSides 216 = .ok (.ifCond .eq 7, 3) := by decide +kernel
theorem dX3_areSides_219 : decode cX3_areSides 219 = .ok (.iconst 1, 1) := by decide +kernel
theorem dX3_areSides_220 : decode cX3_areSides 220 = .ok (.goto 4, 3) := by decide +kernel
theorem dX3_areSides_223 : decode cX3_areSides 223 = .ok (.iconst 0, 1) := by decide +kernel
theorem dX3_areSides_224 : decode cX3_areSides 224 = .ok (.ireturn, 1) := by decide +kernel
set_option maxRecDepth 20000 in
theorem ggX3_fold_X4_isReckoned : GoodIn wsX3_fold wsX4_isReckoned := goodIn_r _ [5] (by decide +kernel) (by decide +kernel)
set_option maxRecDepth 20000 in
theorem gX3_fold_X4_isReckoned_n84 : GoodIn wsX3_fold (wsX4_isReckoned) := ggX3_fold_X4_isReckoned
set_option maxRecDepth 20000 in
theorem ggX3_fold_X3_isFolded : GoodIn wsX3_fold wsX3_isFolded := goodIn_r _ [10, 1, 11, 12, 13, 9, 14, 15, 22, 23, 24, 25, 26, 27, 28, 29, 30] (by decide +kernel) (by decide +kernel)
set_option maxRecDepth 20000 in
theorem gX3_fold_X3_isFolded : GoodIn wsX3_fold (wsV RX3 87 RX3 yX3_isFolded wsX3_isFolded) := goodIn_app (goodIn_of _ (by decide +kernel)) ggX3_fold_X3_isFolded
set_option maxRecDepth 20000 in
theorem ggX3_fold_X3_foldedOf : GoodIn wsX3_fold wsX3_foldedOf := goodIn_r _ [19, 2, 11, 12, 13, 9, 14, 15, 22, 23, 24, 25, 26, 27, 28, 29, 30] (by decide +kernel) (by decide +kernel)
set_option maxRecDepth 20000 in
theorem gX3_fold_X3_foldedOf : GoodIn wsX3_fold (wsV RX3 90 RX3 yX3_foldedOf wsX3_foldedOf) := goodIn_app (goodIn_of _ (by decide +kernel)) ggX3_fold_X3_foldedOf
set_option maxRecDepth 20000 in
theorem ggX3_fold_X4_reckon : GoodIn wsX3_fold wsX4_reckon := goodIn_r _ [21] (by decide +kernel) (by decide +kernel)
set_option maxRecDepth 20000 in
theorem gX3_fold_X4_reckon_n94 : GoodIn wsX3_fold (wsX4_reckon) := ggX3_fold_X4_reckon
theorem dX3_fold_0 : decode cX3_fold 0 = .ok (.iload_n 1, 1) := by decide +kernel
theorem dX3_fold_1 : decode cX3_fold 1 = .ok (.iconst 1, 1) := by decide +kernel
theorem dX3_fold_2 : decode cX3_fold 2 = .ok (.if_icmp .lt 10, 3) := by decide +kernel
theorem dX3_fold_5 : decode cX3_fold 5 = .ok (.iload_n 1, 1) := by decide +kernel
theorem dX3_fold_6 : decode cX3_fold 6 = .ok (.sipush 200, 3) := by decide +kernel
theorem dX3_fold_9 : decode cX3_fold 9 = .ok (.if_icmp .le 4, 3) := by decide +kernel
theorem dX3_fold_12 : decode cX3_fold 12 = .ok (.return_, 1) := by decide +kernel
theorem dX3_fold_13 : decode cX3_fold 13 = .ok (.iload_n 2, 1) := by decide +kernel
theorem dX3_fold_14 : decode cX3_fold 14 = .ok (.ifCond .ne 21, 3) := by decide +kernel
theorem dX3_fold_17 : decode cX3_fold 17 = .ok (.aload_n 0, 1) := by decide +kernel
theorem dX3_fold_18 : decode cX3_fold 18 = .ok (.getfield 27, 3) := by decide +kernel
theorem dX3_fold_21 : decode cX3_fold 21 = .ok (.iload_n 1, 1) := by decide +kernel
theorem dX3_fold_22 : decode cX3_fold 22 = .ok (.iconst 1, 1) := by decide +kernel
theorem dX3_fold_23 : decode cX3_fold 23 = .ok (.bastore, 1) := by decide +kernel
theorem dX3_fold_24 : decode cX3_fold 24 = .ok (.aload_n 0, 1) := by decide +kernel
theorem dX3_fold_25 : decode cX3_fold 25 = .ok (.getfield 31, 3) := by decide +kernel
theorem dX3_fold_28 : decode cX3_fold 28 = .ok (.iload_n 1, 1) := by decide +kernel
theorem dX3_fold_29 : decode cX3_fold 29 = .ok (.iload_n 3, 1) := by decide +kernel
theorem dX3_fold_30 : decode cX3_fold 30 = .ok (.i2l, 1) := by decide +kernel
theorem dX3_fold_31 : decode cX3_fold 31 = .ok (.lastore, 1) := by decide +kernel
theorem dX3_fold_32 : decode cX3_fold 32 = .ok (.goto 76, 3) := by decide +kernel
theorem dX3_fold_35 : decode cX3_fold 35 = .ok (.iload_n 2, 1) := by decide +kernel
theorem dX3_fold_36 : decode cX3_fold 36 = .ok (.invokestatic 84, 3) := by decide +kernel
theorem dX3_fold_39 : decode cX3_fold 39 = .ok (.ifCond .eq 69, 3) := by decide +kernel
theorem dX3_fold_42 : decode cX3_fold 42 = .ok (.aload_n 0, 1) := by decide +kernel
theorem dX3_fold_43 : decode cX3_fold 43 = .ok (.iload_n 3, 1) := by decide +kernel
theorem dX3_fold_44 : decode cX3_fold 44 = .ok (.invokevirtual 87, 3) := by decide +kernel
theorem dX3_fold_47 : decode cX3_fold 47 = .ok (.ifCond .eq 61, 3) := by decide +kernel
theorem dX3_fold_50 : decode cX3_fold 50 = .ok (.aload_n 0, 1) := by decide +kernel
theorem dX3_fold_51 : decode cX3_fold 51 = .ok (.iload 4, 2) := by decide +kernel
theorem dX3_fold_53 : decode cX3_fold 53 = .ok (.invokevirtual 87, 3) := by decide +kernel
theorem dX3_fold_56 : decode cX3_fold 56 = .ok (.ifCond .eq 52, 3) := by decide +kernel
theorem dX3_fold_59 : decode cX3_fold 59 = .ok (.aload_n 0, 1) := by decide +kernel
theorem dX3_fold_60 : decode cX3_fold 60 = .ok (.getfield 27, 3) := by decide +kernel
theorem dX3_fold_63 : decode cX3_fold 63 = .ok (.iload_n 1, 1) := by decide +kernel
theorem dX3_fold_64 : decode cX3_fold 64 = .ok (.iload_n 2, 1) := by decide +kernel
theorem dX3_fold_65 : decode cX3_fold 65 = .ok (.bipush 6, 2) := by decide +kernel
theorem dX3_fold_67 : decode cX3_fold 67 = .ok (.if_icmp .ne 14, 3) := by decide +kernel
theorem dX3_fold_70 : decode cX3_fold 70 = .ok (.aload_n 0, 1) := by decide +kernel
theorem dX3_fold_71 : decode cX3_fold 71 = .ok (.iload 4, 2) := by decide +kernel
theorem dX3_fold_73 : decode cX3_fold 73 = .ok (.invokevirtual 90, 3) := by decide +kernel
theorem dX3_fold_76 : decode cX3_fold 76 = .ok (.lconst 0, 1) := by decide +kernel
theorem dX3_fold_77 : decode cX3_fold 77 = .ok (.lcmp, 1) := by decide +kernel
theorem dX3_fold_78 : decode cX3_fold 78 = .ok (.ifCond .eq 7, 3) := by decide +kernel
theorem dX3_fold_81 : decode cX3_fold 81 = .ok (.iconst 1, 1) := by decide +kernel
theorem dX3_fold_82 : decode cX3_fold 82 = .ok (.goto 4, 3) := by decide +kernel
theorem dX3_fold_85 : decode cX3_fold 85 = .ok (.iconst 0, 1) := by decide +kernel
theorem dX3_fold_86 : decode cX3_fold 86 = .ok (.bastore, 1) := by decide +kernel
theorem dX3_fold_87 : decode cX3_fold 87 = .ok (.aload_n 0, 1) := by decide +kernel
theorem dX3_fold_88 : decode cX3_fold 88 = .ok (.getfield 31, 3) := by decide +kernel
theorem dX3_fold_91 : decode cX3_fold 91 = .ok (.iload_n 1, 1) := by decide +kernel
theorem dX3_fold_92 : decode cX3_fold 92 = .ok (.iload_n 2, 1) := by decide +kernel
theorem dX3_fold_93 : decode cX3_fold 93 = .ok (.aload_n 0, 1) := by decide +kernel
theorem dX3_fold_94 : decode cX3_fold 94 = .ok (.iload_n 3, 1) := by decide +kernel
theorem dX3_fold_95 : decode cX3_fold 95 = .ok (.invokevirtual 90, 3) := by decide +kernel
theorem dX3_fold_98 : decode cX3_fold 98 = .ok (.aload_n 0, 1) := by decide +kernel
theorem dX3_fold_99 : decode cX3_fold 99 = .ok (.iload 4, 2) := by decide +kernel
theorem dX3_fold_101 : decode cX3_fold 101 = .ok (.invokevirtual 90, 3) := by decide +kernel
theorem dX3_fold_104 : decode cX3_fold 104 = .ok (.invokestatic 94, 3) := by decide +kernel
theorem dX3_fold_107 : decode cX3_fold 107 = .ok (.lastore, 1) := by decide +kernel
theorem dX3_fold_108 : decode cX3_fold 108 = .ok (.return_, 1) := by decide +kernel
set_option maxRecDepth 20000 in
theorem ggX3_digitsFor_X3_digitsIn : GoodIn wsX3_digitsFor wsX3_digitsIn := goodIn_r _ [9] (by decide +kernel) (by decide +kernel)
set_option maxRecDepth 20000 in
theorem gX3_digitsFor_X3_digitsIn : GoodIn wsX3_digitsFor (va_wsS RX3 98 yX3_digitsIn wsX3_digitsIn) := goodIn_app (goodIn_of _ (by decide +kernel)) ggX3_digitsFor_X3_digitsIn
set_option maxRecDepth 20000 in
theorem ggX3_digitsFor_X0_surelyWithin : GoodIn wsX3_digitsFor wsX0_surelyWithin := goodIn_r _ [14, 15, 16, 17, 18, 19, 13, 20, 21, 41, 42, 43, 44] (by decide +kernel) (by decide +kernel)
set_option maxRecDepth 20000 in
theorem gX3_digitsFor_X0_surelyWithin : GoodIn wsX3_digitsFor (wsV RX3 101 RX0 yX0_surelyWithin wsX0_surelyWithin) := goodIn_app (goodIn_of _ (by decide +kernel)) ggX3_digitsFor_X0_surelyWithin
set_option maxRecDepth 20000 in
theorem ggX3_digitsFor_X3_digitsOf : GoodIn wsX3_digitsFor wsX3_digitsOf := goodIn_r _ [25, 26, 27, 28, 29, 8, 30, 31, 32, 33, 34, 35, 36, 37, 38, 39, 40] (by decide +kernel) (by decide +kernel)
set_option maxRecDepth 20000 in
theorem gX3_digitsFor_X3_digitsOf : GoodIn wsX3_digitsFor (wsV RX3 104 RX3 yX3_digitsOf wsX3_digitsOf) := goodIn_app (goodIn_of _ (by decide +kernel)) ggX3_digitsFor_X3_digitsOf
theorem dX3_digitsFor_0 : decode cX3_digitsFor 0 = .ok (.iload_n 1, 1) := by decide +kernel
theorem dX3_digitsFor_1 : decode cX3_digitsFor 1 = .ok (.tableswitch 101 0 8 #[51, 56, 56, 65, 65, 81, 93, 99, 99], 51) := by decide +kernel
theorem dX3_digitsFor_52 : decode cX3_digitsFor 52 = .ok (.iload_n 2, 1) := by decide +kernel
theorem dX3_digitsFor_53 : decode cX3_digitsFor 53 = .ok (.invokestatic 98, 3) := by decide +kernel
theorem dX3_digitsFor_56 : decode cX3_digitsFor 56 = .ok (.ireturn, 1) := by decide +kernel
theorem dX3_digitsFor_57 : decode cX3_digitsFor 57 = .ok (.aload_n 0, 1) := by decide +kernel
theorem dX3_digitsFor_58 : decode cX3_digitsFor 58 = .ok (.getfield 35, 3) := by decide +kernel
theorem dX3_digitsFor_61 : decode cX3_digitsFor 61 = .ok (.iload_n 2, 1) := by decide +kernel
theorem dX3_digitsFor_62 : decode cX3_digitsFor 62 = .ok (.invokevirtual 101, 3) := by decide +kernel
theorem dX3_digitsFor_65 : decode cX3_digitsFor 65 = .ok (.ireturn, 1) := by decide +kernel
theorem dX3_digitsFor_66 : decode cX3_digitsFor 66 = .ok (.aload_n 0, 1) := by decide +kernel
theorem dX3_digitsFor_67 : decode cX3_digitsFor 67 = .ok (.iload_n 2, 1) := by decide +kernel
theorem dX3_digitsFor_68 : decode cX3_digitsFor 68 = .ok (.invokevirtual 104, 3) := by decide +kernel
theorem dX3_digitsFor_71 : decode cX3_digitsFor 71 = .ok (.aload_n 0, 1) := by decide +kernel
theorem dX3_digitsFor_72 : decode cX3_digitsFor 72 = .ok (.iload_n 3, 1) := by decide +kernel
theorem dX3_digitsFor_73 : decode cX3_digitsFor 73 = .ok (.invokevirtual 104, 3) := by decide +kernel
theorem dX3_digitsFor_76 : decode cX3_digitsFor 76 = .ok (.invokestatic 107, 3) := by decide +kernel
theorem dX3_digitsFor_79 : decode cX3_digitsFor 79 = .ok (.iconst 1, 1) := by decide +kernel
theorem dX3_digitsFor_80 : decode cX3_digitsFor 80 = .ok (.iadd, 1) := by decide +kernel
theorem dX3_digitsFor_81 : decode cX3_digitsFor 81 = .ok (.ireturn, 1) := by decide +kernel
theorem dX3_digitsFor_82 : decode cX3_digitsFor 82 = .ok (.aload_n 0, 1) := by decide +kernel
theorem dX3_digitsFor_83 : decode cX3_digitsFor 83 = .ok (.iload_n 2, 1) := by decide +kernel
theorem dX3_digitsFor_84 : decode cX3_digitsFor 84 = .ok (.invokevirtual 104, 3) := by decide +kernel
theorem dX3_digitsFor_87 : decode cX3_digitsFor 87 = .ok (.aload_n 0, 1) := by decide +kernel
theorem dX3_digitsFor_88 : decode cX3_digitsFor 88 = .ok (.iload_n 3, 1) := by decide +kernel
theorem dX3_digitsFor_89 : decode cX3_digitsFor 89 = .ok (.invokevirtual 104, 3) := by decide +kernel
theorem dX3_digitsFor_92 : decode cX3_digitsFor 92 = .ok (.iadd, 1) := by decide +kernel
theorem dX3_digitsFor_93 : decode cX3_digitsFor 93 = .ok (.ireturn, 1) := by decide +kernel
theorem dX3_digitsFor_94 : decode cX3_digitsFor 94 = .ok (.aload_n 0, 1) := by decide +kernel
theorem dX3_digitsFor_95 : decode cX3_digitsFor 95 = .ok (.iload_n 2, 1) := by decide +kernel
theorem dX3_digitsFor_96 : decode cX3_digitsFor 96 = .ok (.invokevirtual 104, 3) := by decide +kernel
theorem dX3_digitsFor_99 : decode cX3_digitsFor 99 = .ok (.ireturn, 1) := by decide +kernel
theorem dX3_digitsFor_100 : decode cX3_digitsFor 100 = .ok (.iconst 1, 1) := by decide +kernel
theorem dX3_digitsFor_101 : decode cX3_digitsFor 101 = .ok (.ireturn, 1) := by decide +kernel
theorem dX3_digitsFor_102 : decode cX3_digitsFor 102 = .ok (.iconst 0, 1) := by decide +kernel
theorem dX3_digitsFor_103 : decode cX3_digitsFor 103 = .ok (.ireturn, 1) := by decide +kernel
theorem dX3_digitsIn_0 : decode cX3_digitsIn 0 = .ok (.iconst 1, 1) := by decide +kernel
theorem dX3_digitsIn_1 : decode cX3_digitsIn 1 = .ok (.istore_n 1, 1) := by decide +kernel
theorem dX3_digitsIn_2 : decode cX3_digitsIn 2 = .ok (.iload_n 0, 1) := by decide +kernel
theorem dX3_digitsIn_3 : decode cX3_digitsIn 3 = .ok (.bipush 10, 2) := by decide +kernel
theorem dX3_digitsIn_5 : decode cX3_digitsIn 5 = .ok (.idiv, 1) := by decide +kernel
theorem dX3_digitsIn_6 : decode cX3_digitsIn 6 = .ok (.istore_n 2, 1) := by decide +kernel
theorem dX3_digitsIn_7 : decode cX3_digitsIn 7 = .ok (.iload_n 2, 1) := by decide +kernel
theorem dX3_digitsIn_8 : decode cX3_digitsIn 8 = .ok (.ifCond .eq 20, 3) := by decide +kernel
theorem dX3_digitsIn_11 : decode cX3_digitsIn 11 = .ok (.iload_n 1, 1) := by decide +kernel
theorem dX3_digitsIn_12 : decode cX3_digitsIn 12 = .ok (.bipush 10, 2) := by decide +kernel
theorem dX3_digitsIn_14 : decode cX3_digitsIn 14 = .ok (.if_icmp .ge 14, 3) := by decide +kernel
theorem dX3_digitsIn_17 : decode cX3_digitsIn 17 = .ok (.iinc 1 1, 3) := by decide +kernel
theorem dX3_digitsIn_20 : decode cX3_digitsIn 20 = .ok (.iload_n 2, 1) := by decide +kernel
theorem dX3_digitsIn_21 : decode cX3_digitsIn 21 = .ok (.bipush 10, 2) := by decide +kernel
theorem dX3_digitsIn_23 : decode cX3_digitsIn 23 = .ok (.idiv, 1) := by decide +kernel
theorem dX3_digitsIn_24 : decode cX3_digitsIn 24 = .ok (.istore_n 2, 1) := by decide +kernel
theorem dX3_digitsIn_25 : decode cX3_digitsIn 25 = .ok (.goto (-18), 3) := by decide +kernel
theorem dX3_digitsIn_28 : decode cX3_digitsIn 28 = .ok (.iload_n 1, 1) := by decide +kernel
theorem dX3_digitsIn_29 : decode cX3_digitsIn 29 = .ok (.ireturn, 1) := by decide +kernel
set_option maxRecDepth 20000 in
theorem ggX3_rowsFor_X3_rowsOf : GoodIn wsX3_rowsFor wsX3_rowsOf := goodIn_r _ [5, 6, 7, 8, 9, 4, 10, 11, 31, 32, 33, 34, 35, 36, 37, 38, 39] (by decide +kernel) (by decide +kernel)
set_option maxRecDepth 20000 in
theorem gX3_rowsFor_X3_rowsOf : GoodIn wsX3_rowsFor (wsV RX3 110 RX3 yX3_rowsOf wsX3_rowsOf) := goodIn_app (goodIn_of _ (by decide +kernel)) ggX3_rowsFor_X3_rowsOf
set_option maxRecDepth 20000 in
theorem ggX3_rowsFor_X3_firstOf : GoodIn wsX3_rowsFor wsX3_firstOf := goodIn_r _ [15, 16, 7, 8, 9, 4, 10, 11, 31, 32, 33, 34, 35, 36, 37, 38, 39] (by decide +kernel) (by decide +kernel)
set_option maxRecDepth 20000 in
theorem gX3_rowsFor_X3_firstOf : GoodIn wsX3_rowsFor (wsV RX3 78 RX3 yX3_firstOf wsX3_firstOf) := goodIn_app (goodIn_of _ (by decide +kernel)) ggX3_rowsFor_X3_firstOf
set_option maxRecDepth 20000 in
theorem ggX3_rowsFor_X3_secondOf : GoodIn wsX3_rowsFor wsX3_secondOf := goodIn_r _ [20, 21, 7, 8, 9, 4, 10, 11, 31, 32, 33, 34, 35, 36, 37, 38, 39] (by decide +kernel) (by decide +kernel)
set_option maxRecDepth 20000 in
theorem gX3_rowsFor_X3_secondOf : GoodIn wsX3_rowsFor (wsV RX3 81 RX3 yX3_secondOf wsX3_secondOf) := goodIn_app (goodIn_of _ (by decide +kernel)) ggX3_rowsFor_X3_secondOf
set_option maxRecDepth 20000 in
theorem ggX3_rowsFor_X3_rowsAlone : GoodIn wsX3_rowsFor wsX3_rowsAlone := goodIn_r _ [25, 26, 27, 28, 4, 29, 30, 7, 8, 9, 10, 11, 1, 2, 3, 5, 6, 31, 32, 33, 34, 35, 36, 37, 38, 39] (by decide +kernel) (by decide +kernel)
set_option maxRecDepth 20000 in
theorem gX3_rowsFor_X3_rowsAlone : GoodIn wsX3_rowsFor (wsV RX3 113 RX3 yX3_rowsAlone wsX3_rowsAlone) := goodIn_app (goodIn_of _ (by decide +kernel)) ggX3_rowsFor_X3_rowsAlone
theorem dX3_rowsFor_0 : decode cX3_rowsFor 0 = .ok (.iload_n 1, 1) := by decide +kernel
theorem dX3_rowsFor_1 : decode cX3_rowsFor 1 = .ok (.tableswitch 143 0 13 #[71, 71, 73, 143, 143, 143, 143, 143, 143, 73, 81, 103, 115, 129], 71) := by decide +kernel
theorem dX3_rowsFor_72 : decode cX3_rowsFor 72 = .ok (.iconst 1, 1) := by decide +kernel
theorem dX3_rowsFor_73 : decode cX3_rowsFor 73 = .ok (.ireturn, 1) := by decide +kernel
theorem dX3_rowsFor_74 : decode cX3_rowsFor 74 = .ok (.aload_n 0, 1) := by decide +kernel
theorem dX3_rowsFor_75 : decode cX3_rowsFor 75 = .ok (.iload_n 3, 1) := by decide +kernel
theorem dX3_rowsFor_76 : decode cX3_rowsFor 76 = .ok (.invokevirtual 110, 3) := by decide +kernel
theorem dX3_rowsFor_79 : decode cX3_rowsFor 79 = .ok (.iconst 1, 1) := by decide +kernel
theorem dX3_rowsFor_80 : decode cX3_rowsFor 80 = .ok (.iadd, 1) := by decide +kernel
theorem dX3_rowsFor_81 : decode cX3_rowsFor 81 = .ok (.ireturn, 1) := by decide +kernel
theorem dX3_rowsFor_82 : decode cX3_rowsFor 82 = .ok (.aload_n 0, 1) := by decide +kernel
theorem dX3_rowsFor_83 : decode cX3_rowsFor 83 = .ok (.aload_n 0, 1) := by decide +kernel
theorem dX3_rowsFor_84 : decode cX3_rowsFor 84 = .ok (.iload_n 3, 1) := by decide +kernel
theorem dX3_rowsFor_85 : decode cX3_rowsFor 85 = .ok (.invokevirtual 78, 3) := by decide +kernel
theorem dX3_rowsFor_88 : decode cX3_rowsFor 88 = .ok (.invokevirtual 110, 3) := by decide +kernel
theorem dX3_rowsFor_91 : decode cX3_rowsFor 91 = .ok (.aload_n 0, 1) := by decide +kernel
theorem dX3_rowsFor_92 : decode cX3_rowsFor 92 = .ok (.aload_n 0, 1) := by decide +kernel
theorem dX3_rowsFor_93 : decode cX3_rowsFor 93 = .ok (.iload_n 3, 1) := by decide +kernel
theorem dX3_rowsFor_94 : decode cX3_rowsFor 94 = .ok (.invokevirtual 81, 3) := by decide +kernel
theorem dX3_rowsFor_97 : decode cX3_rowsFor 97 = .ok (.invokevirtual 110, 3) := by decide +kernel
theorem dX3_rowsFor_100 : decode cX3_rowsFor 100 = .ok (.iadd, 1) := by decide +kernel
theorem dX3_rowsFor_101 : decode cX3_rowsFor 101 = .ok (.iconst 1, 1) := by decide +kernel
theorem dX3_rowsFor_102 : decode cX3_rowsFor 102 = .ok (.iadd, 1) := by decide +kernel
theorem dX3_rowsFor_103 : decode cX3_rowsFor 103 = .ok (.ireturn, 1) := by decide +kernel
theorem dX3_rowsFor_104 : decode cX3_rowsFor 104 = .ok (.aload_n 0, 1) := by decide +kernel
theorem dX3_rowsFor_105 : decode cX3_rowsFor 105 = .ok (.iload_n 2, 1) := by decide +kernel
theorem dX3_rowsFor_106 : decode cX3_rowsFor 106 = .ok (.invokevirtual 113, 3) := by decide +kernel
theorem dX3_rowsFor_109 : decode cX3_rowsFor 109 = .ok (.aload_n 0, 1) := by decide +kernel
theorem dX3_rowsFor_110 : decode cX3_rowsFor 110 = .ok (.iload_n 3, 1) := by decide +kernel
theorem dX3_rowsFor_111 : decode cX3_rowsFor 111 = .ok (.invokevirtual 113, 3) := by decide +kernel
theorem dX3_rowsFor_114 : decode cX3_rowsFor 114 = .ok (.iadd, 1) := by decide +kernel
theorem dX3_rowsFor_115 : decode cX3_rowsFor 115 = .ok (.ireturn, 1) := by decide +kernel
theorem dX3_rowsFor_116 : decode cX3_rowsFor 116 = .ok (.aload_n 0, 1) := by decide +kernel
theorem dX3_rowsFor_117 : decode cX3_rowsFor 117 = .ok (.iload_n 2, 1) := by decide +kernel
theorem dX3_rowsFor_118 : decode cX3_rowsFor 118 = .ok (.invokevirtual 110, 3) := by decide +kernel
theorem dX3_rowsFor_121 : decode cX3_rowsFor 121 = .ok (.iconst 1, 1) := by decide +kernel
theorem dX3_rowsFor_122 : decode cX3_rowsFor 122 = .ok (.iadd, 1) := by decide +kernel
theorem dX3_rowsFor_123 : decode cX3_rowsFor 123 = .ok (.aload_n 0, 1) := by decide +kernel
theorem dX3_rowsFor_124 : decode cX3_rowsFor 124 = .ok (.iload_n 3, 1) := by decide +kernel
theorem dX3_rowsFor_125 : decode cX3_rowsFor 125 = .ok (.invokevirtual 113, 3) := by decide +kernel
theorem dX3_rowsFor_128 : decode cX3_rowsFor 128 = .ok (.iadd, 1) := by decide +kernel
theorem dX3_rowsFor_129 : decode cX3_rowsFor 129 = .ok (.ireturn, 1) := by decide +kernel
theorem dX3_rowsFor_130 : decode cX3_rowsFor 130 = .ok (.aload_n 0, 1) := by decide +kernel
theorem dX3_rowsFor_131 : decode cX3_rowsFor 131 = .ok (.iload_n 2, 1) := by decide +kernel
theorem dX3_rowsFor_132 : decode cX3_rowsFor 132 = .ok (.invokevirtual 110, 3) := by decide +kernel
theorem dX3_rowsFor_135 : decode cX3_rowsFor 135 = .ok (.iconst 2, 1) := by decide +kernel
theorem dX3_rowsFor_136 : decode cX3_rowsFor 136 = .ok (.iadd, 1) := by decide +kernel
theorem dX3_rowsFor_137 : decode cX3_rowsFor 137 = .ok (.aload_n 0, 1) := by decide +kernel
theorem dX3_rowsFor_138 : decode cX3_rowsFor 138 = .ok (.iload_n 3, 1) := by decide +kernel
theorem dX3_rowsFor_139 : decode cX3_rowsFor 139 = .ok (.invokevirtual 113, 3) := by decide +kernel
theorem dX3_rowsFor_142 : decode cX3_rowsFor 142 = .ok (.iadd, 1) := by decide +kernel
theorem dX3_rowsFor_143 : decode cX3_rowsFor 143 = .ok (.ireturn, 1) := by decide +kernel
theorem dX3_rowsFor_144 : decode cX3_rowsFor 144 = .ok (.aload_n 0, 1) := by decide +kernel
theorem dX3_rowsFor_145 : decode cX3_rowsFor 145 = .ok (.iload_n 2, 1) := by decide +kernel
theorem dX3_rowsFor_146 : decode cX3_rowsFor 146 = .ok (.invokevirtual 110, 3) := by decide +kernel
theorem dX3_rowsFor_149 : decode cX3_rowsFor 149 = .ok (.aload_n 0, 1) := by decide +kernel
theorem dX3_rowsFor_150 : decode cX3_rowsFor 150 = .ok (.iload_n 3, 1) := by decide +kernel
theorem dX3_rowsFor_151 : decode cX3_rowsFor 151 = .ok (.invokevirtual 110, 3) := by decide +kernel
theorem dX3_rowsFor_154 : decode cX3_rowsFor 154 = .ok (.iadd, 1) := by decide +kernel
theorem dX3_rowsFor_155 : decode cX3_rowsFor 155 = .ok (.iconst 1, 1) := by decide +kernel
theorem dX3_rowsFor_156 : decode cX3_rowsFor 156 = .ok (.iadd, 1) := by decide +kernel
theorem dX3_rowsFor_157 : decode cX3_rowsFor 157 = .ok (.ireturn, 1) := by decide +kernel
set_option maxRecDepth 20000 in
theorem ggX3_rowsAlone_X3_isValue : GoodIn wsX3_rowsAlone wsX3_isValue := goodIn_r _ [5, 6, 7, 8, 9, 4, 10, 11, 17, 18, 19, 20, 21, 22, 23, 24, 25] (by decide +kernel) (by decide +kernel)
set_option maxRecDepth 20000 in
theorem gX3_rowsAlone_X3_isValue : GoodIn wsX3_rowsAlone (wsV RX3 71 RX3 yX3_isValue wsX3_isValue) := goodIn_app (goodIn_of _ (by decide +kernel)) ggX3_rowsAlone_X3_isValue
set_option maxRecDepth 20000 in
theorem ggX3_rowsAlone_X3_rowsOf : GoodIn wsX3_rowsAlone wsX3_rowsOf := goodIn_r _ [15, 16, 7, 8, 9, 4, 10, 11, 17, 18, 19, 20, 21, 22, 23, 24, 25] (by decide +kernel) (by decide +kernel)
set_option maxRecDepth 20000 in
theorem gX3_rowsAlone_X3_rowsOf : GoodIn wsX3_rowsAlone (wsV RX3 110 RX3 yX3_rowsOf wsX3_rowsOf) := goodIn_app (goodIn_of _ (by decide +kernel)) ggX3_rowsAlone_X3_rowsOf
theorem dX3_rowsAlone_0 : decode cX3_rowsAlone 0 = .ok (.aload_n 0, 1) := by decide +kernel
theorem dX3_rowsAlone_1 : decode cX3_rowsAlone 1 = .ok (.iload_n 1, 1) := by decide +kernel
theorem dX3_rowsAlone_2 : decode cX3_rowsAlone 2 = .ok (.invokevirtual 71, 3) := by decide +kernel
theorem dX3_rowsAlone_5 : decode cX3_rowsAlone 5 = .ok (.ifCond .eq 13, 3) := by decide +kernel
theorem dX3_rowsAlone_8 : decode cX3_rowsAlone 8 = .ok (.aload_n 0, 1) := by decide +kernel
theorem dX3_rowsAlone_9 : decode cX3_rowsAlone 9 = .ok (.iload_n 1, 1) := by decide +kernel
theorem dX3_rowsAlone_10 : decode cX3_rowsAlone 10 = .ok (.invokevirtual 110, 3) := by decide +kernel
theorem dX3_rowsAlone_13 : decode cX3_rowsAlone 13 = .ok (.iconst 1, 1) := by decide +kernel
theorem dX3_rowsAlone_14 : decode cX3_rowsAlone 14 = .ok (.iadd, 1) := by decide +kernel
theorem dX3_rowsAlone_15 : decode cX3_rowsAlone 15 = .ok (.goto 8, 3) := by decide +kernel
theorem dX3_rowsAlone_18 : decode cX3_rowsAlone 18 = .ok (.aload_n 0, 1) := by decide +kernel
theorem dX3_rowsAlone_19 : decode cX3_rowsAlone 19 = .ok (.iload_n 1, 1) := by decide +kernel
theorem dX3_rowsAlone_20 : decode cX3_rowsAlone 20 = .ok (.invokevirtual 110, 3) := by decide +kernel
theorem dX3_rowsAlone_23 : decode cX3_rowsAlone 23 = .ok (.ireturn, 1) := by decide +kernel
set_option maxRecDepth 20000 in
theorem ggX3_walkAll_X2_begin : GoodIn wsX3_walkAll wsX2_begin := goodIn_r _ [5, 6, 7, 123, 124, 125, 126] (by decide +kernel) (by decide +kernel)
set_option maxRecDepth 20000 in
theorem gX3_walkAll_X2_begin : GoodIn wsX3_walkAll (wsV RX3 116 RX2 yX2_begin wsX2_begin) := goodIn_app (goodIn_of _ (by decide +kernel)) ggX3_walkAll_X2_begin
set_option maxRecDepth 20000 in
theorem ggX3_walkAll_X3_walk : GoodIn wsX3_walkAll wsX3_walk := goodIn_r _ [12, 13, 14, 15, 16, 17, 18, 19, 20, 11, 21, 22, 23, 24, 25, 26, 27, 28, 29, 30, 31, 32, 33, 34, 35, 36, 37, 38, 39, 40, 41, 42, 43, 44, 45, 46, 47, 48, 49, 50, 4, 51, 6, 52, 53, 54, 55, 56, 57, 58, 59, 60, 61, 62, 63, 64, 65, 66, 67, 68, 69, 70, 71, 72, 73, 74, 75, 76, 77, 78, 79, 80, 81, 82, 83, 84, 85, 86, 87, 88, 8, 9, 10, 89, 90, 91, 92, 93, 94, 95, 96, 7, 97, 98, 99, 100, 101, 102, 103, 104, 105, 106, 107, 108, 109, 110, 111, 112, 113, 114, 115, 116, 117, 118, 119, 120, 121, 122, 123, 124, 125, 126, 127, 128, 129, 130, 131, 132, 133, 134, 135, 136, 137, 138, 139] (by decide +kernel) (by decide +kernel)
set_option maxRecDepth 20000 in
theorem gX3_walkAll_X3_walk : GoodIn wsX3_walkAll (wsV RX3 121 RX3 yX3_walk wsX3_walk) := goodIn_app (goodIn_of _ (by decide +kernel)) ggX3_walkAll_X3_walk
theorem dX3_walkAll_0 : decode cX3_walkAll 0 = .ok (.aload_n 1, 1) := by decide +kernel
theorem dX3_walkAll_1 : decode cX3_walkAll 1 = .ok (.invokevirtual 116, 3) := by decide +kernel
theorem dX3_walkAll_4 : decode cX3_walkAll 4 = .ok (.aload_n 0, 1) := by decide +kernel
theorem dX3_walkAll_5 : decode cX3_walkAll 5 = .ok (.aload_n 1, 1) := by decide +kernel
theorem dX3_walkAll_6 : decode cX3_walkAll 6 = .ok (.iload_n 2, 1) := by decide +kernel
theorem dX3_walkAll_7 : decode cX3_walkAll 7 = .ok (.iconst 1, 1) := by decide +kernel
theorem dX3_walkAll_8 : decode cX3_walkAll 8 = .ok (.invokevirtual 121, 3) := by decide +kernel
theorem dX3_walkAll_11 : decode cX3_walkAll 11 = .ok (.pop2, 1) := by decide +kernel
theorem dX3_walkAll_12 : decode cX3_walkAll 12 = .ok (.return_, 1) := by decide +kernel
set_option maxRecDepth 20000 in
theorem ggX3_walk_X3_has : GoodIn wsX3_walk wsX3_has := goodIn_r _ [10, 11, 122, 123, 124, 125, 126, 127, 128, 129, 130] (by decide +kernel) (by decide +kernel)
set_option maxRecDepth 20000 in
theorem gX3_walk_X3_has : GoodIn wsX3_walk (wsV RX3 43 RX3 yX3_has wsX3_has) := goodIn_app (goodIn_of _ (by decide +kernel)) ggX3_walk_X3_has
set_option maxRecDepth 20000 in
theorem ggX3_walk_X3_isFolded : GoodIn wsX3_walk wsX3_isFolded := goodIn_r _ [15, 16, 6, 7, 8, 9, 10, 11, 122, 123, 124, 125, 126, 127, 128, 129, 130] (by decide +kernel) (by decide +kernel)
set_option maxRecDepth 20000 in
theorem gX3_walk_X3_isFolded : GoodIn wsX3_walk (wsV RX3 87 RX3 yX3_isFolded wsX3_isFolded) := goodIn_app (goodIn_of _ (by decide +kernel)) ggX3_walk_X3_isFolded
set_option maxRecDepth 20000 in
theorem ggX3_walk_X3_foldedOf : GoodIn wsX3_walk wsX3_foldedOf := goodIn_r _ [20, 21, 6, 7, 8, 9, 10, 11, 122, 123, 124, 125, 126, 127, 128, 129, 130] (by decide +kernel) (by decide +kernel)
set_option maxRecDepth 20000 in
theorem gX3_walk_X3_foldedOf : GoodIn wsX3_walk (wsV RX3 90 RX3 yX3_foldedOf wsX3_foldedOf) := goodIn_app (goodIn_of _ (by decide +kernel)) ggX3_walk_X3_foldedOf
set_option maxRecDepth 20000 in
theorem ggX3_walk_X3_kindOf : GoodIn wsX3_walk wsX3_kindOf := goodIn_r _ [25, 26, 6, 7, 8, 9, 10, 11, 122, 123, 124, 125, 126, 127, 128, 129, 130] (by decide +kernel) (by decide +kernel)
set_option maxRecDepth 20000 in
theorem gX3_walk_X3_kindOf : GoodIn wsX3_walk (wsV RX3 74 RX3 yX3_kindOf wsX3_kindOf) := goodIn_app (goodIn_of _ (by decide +kernel)) ggX3_walk_X3_kindOf
set_option maxRecDepth 20000 in
theorem ggX3_walk_X3_firstOf : GoodIn wsX3_walk wsX3_firstOf := goodIn_r _ [30, 31, 6, 7, 8, 9, 10, 11, 122, 123, 124, 125, 126, 127, 128, 129, 130] (by decide +kernel) (by decide +kernel)
set_option maxRecDepth 20000 in
theorem gX3_walk_X3_firstOf : GoodIn wsX3_walk (wsV RX3 78 RX3 yX3_firstOf wsX3_firstOf) := goodIn_app (goodIn_of _ (by decide +kernel)) ggX3_walk_X3_firstOf
set_option maxRecDepth 20000 in
theorem ggX3_walk_X3_secondOf : GoodIn wsX3_walk wsX3_secondOf := goodIn_r _ [35, 36, 6, 7, 8, 9, 10, 11, 122, 123, 124, 125, 126, 127, 128, 129, 130] (by decide +kernel) (by decide +kernel)
set_option maxRecDepth 20000 in
theorem gX3_walk_X3_secondOf : GoodIn wsX3_walk (wsV RX3 81 RX3 yX3_secondOf wsX3_secondOf) := goodIn_app (goodIn_of _ (by decide +kernel)) ggX3_walk_X3_secondOf
set_option maxRecDepth 20000 in
theorem ggX3_walk_X2_load : GoodIn wsX3_walk wsX2_load := goodIn_r _ [41, 42, 43, 44, 45, 46, 47, 48, 49, 50, 51, 52, 53, 54, 55, 56, 57, 58, 59, 60, 61, 62, 63, 64, 65, 66, 67, 68, 69, 70, 71, 72, 73, 74, 75, 76, 77, 78, 79, 118, 119, 120, 121, 131, 132, 133, 134] (by decide +kernel) (by decide +kernel)
set_option maxRecDepth 20000 in
theorem gX3_walk_X2_load : GoodIn wsX3_walk (wsV RX3 128 RX2 yX2_load wsX2_load) := goodIn_app (goodIn_of _ (by decide +kernel)) ggX3_walk_X2_load
set_option maxRecDepth 20000 in
theorem ggX3_walk_X3_walk : GoodIn wsX3_walk wsX3_walk := goodIn_r _ [0, 1, 2, 3, 4, 5, 6, 7, 8, 9, 10, 11, 12, 13, 14, 15, 16, 17, 18, 19, 20, 21, 22, 23, 24, 25, 26, 27, 28, 29, 30, 31, 32, 33, 34, 35, 36, 37, 38, 39, 40, 41, 42, 43, 44, 45, 46, 47, 48, 49, 50, 51, 52, 53, 54, 55, 56, 57, 58, 59, 60, 61, 62, 63, 64, 65, 66, 67, 68, 69, 70, 71, 72, 73, 74, 75, 76, 77, 78, 79, 80, 81, 82, 83, 84, 85, 86, 87, 88, 89, 90, 91, 92, 93, 94, 95, 96, 97, 98, 99, 100, 101, 102, 103, 104, 105, 106, 107, 108, 109, 110, 111, 112, 113, 114, 115, 116, 117, 118, 119, 120, 121, 122, 123, 124, 125, 126, 127, 128, 129, 130, 131, 132, 133, 134] (by decide +kernel) (by decide +kernel)
set_option maxRecDepth 20000 in
theorem gX3_walk_X3_walk : GoodIn wsX3_walk (wsV RX3 121 RX3 yX3_walk wsX3_walk) := goodIn_app (goodIn_of _ (by decide +kernel)) ggX3_walk_X3_walk
set_option maxRecDepth 20000 in
theorem ggX3_walk_X2_save : GoodIn wsX3_walk wsX2_save := goodIn_r _ [86, 42, 43, 44, 45, 46, 47, 48, 49, 50, 51, 52, 53, 54, 55, 56, 57, 58, 59, 60, 61, 62, 87, 88, 89, 40, 90, 91, 92, 93, 94, 95, 96, 97, 98, 76, 99, 100, 101, 70, 71, 72, 102, 103, 104, 105, 106, 107, 108, 109, 118, 119, 120, 121, 131, 132, 133, 134] (by decide +kernel) (by decide +kernel)
set_option maxRecDepth 20000 in
theorem gX3_walk_X2_save : GoodIn wsX3_walk (wsV RX3 132 RX2 yX2_save wsX2_save) := goodIn_app (goodIn_of _ (by decide +kernel)) ggX3_walk_X2_save
set_option maxRecDepth 20000 in
theorem ggX3_walk_X2_countOne : GoodIn wsX3_walk wsX2_countOne := goodIn_r _ [90, 42, 91, 118, 119, 120, 121] (by decide +kernel) (by decide +kernel)
set_option maxRecDepth 20000 in
theorem gX3_walk_X2_countOne : GoodIn wsX3_walk (wsV RX3 141 RX2 yX2_countOne wsX2_countOne) := goodIn_app (goodIn_of _ (by decide +kernel)) ggX3_walk_X2_countOne
set_option maxRecDepth 20000 in
theorem ggX3_walk_X2_result : GoodIn wsX3_walk wsX2_result := goodIn_r _ [114, 42, 115, 116, 117, 118, 119, 120, 121] (by decide +kernel) (by decide +kernel)
set_option maxRecDepth 20000 in
theorem gX3_walk_X2_result : GoodIn wsX3_walk (wsV RX3 144 RX2 yX2_result wsX2_result) := goodIn_app (goodIn_of _ (by decide +kernel)) ggX3_walk_X2_result
theorem dX3_walk_0 : decode cX3_walk 0 = .ok (.iload_n 3, 1) := by decide +kernel
theorem dX3_walk_1 : decode cX3_walk 1 = .ok (.sipush 200, 3) := by decide +kernel
theorem dX3_walk_4 : decode cX3_walk 4 = .ok (.if_icmp .gt 18, 3) := by decide +kernel
theorem dX3_walk_7 : decode cX3_walk 7 = .ok (.aload_n 0, 1) := by decide +kernel
theorem dX3_walk_8 : decode cX3_walk 8 = .ok (.iload_n 2, 1) := by decide +kernel
theorem dX3_walk_9 : decode cX3_walk 9 = .ok (.invokevirtual 43, 3) := by decide +kernel
theorem dX3_walk_12 : decode cX3_walk 12 = .ok (.ifCond .eq 10, 3) := by decide +kernel
theorem dX3_walk_15 : decode cX3_walk 15 = .ok (.aload_n 1, 1) := by decide +kernel
theorem dX3_walk_16 : decode cX3_walk 16 = .ok (.getfield 125, 3) := by decide +kernel
theorem dX3_walk_19 : decode cX3_walk 19 = .ok (.ifCond .eq 5, 3) := by decide +kernel
theorem dX3_walk_22 : decode cX3_walk 22 = .ok (.lconst 0, 1) := by decide +kernel
theorem dX3_walk_23 : decode cX3_walk 23 = .ok (.lreturn, 1) := by decide +kernel
theorem dX3_walk_24 : decode cX3_walk 24 = .ok (.aload_n 0, 1) := by decide +kernel
theorem dX3_walk_25 : decode cX3_walk 25 = .ok (.iload_n 2, 1) := by decide +kernel
theorem dX3_walk_26 : decode cX3_walk 26 = .ok (.invokevirtual 87, 3) := by decide +kernel
theorem dX3_walk_29 : decode cX3_walk 29 = .ok (.ifCond .eq 9, 3) := by decide +kernel
theorem dX3_walk_32 : decode cX3_walk 32 = .ok (.aload_n 0, 1) := by decide +kernel
theorem dX3_walk_33 : decode cX3_walk 33 = .ok (.iload_n 2, 1) := by decide +kernel
theorem dX3_walk_34 : decode cX3_walk 34 = .ok (.invokevirtual 90, 3) := by decide +kernel
theorem dX3_walk_37 : decode cX3_walk 37 = .ok (.lreturn, 1) := by decide +kernel
theorem dX3_walk_38 : decode cX3_walk 38 = .ok (.aload_n 0, 1) := by decide +kernel
theorem dX3_walk_39 : decode cX3_walk 39 = .ok (.iload_n 2, 1) := by decide +kernel
theorem dX3_walk_40 : decode cX3_walk 40 = .ok (.invokevirtual 74, 3) := by decide +kernel
theorem dX3_walk_43 : decode cX3_walk 43 = .ok (.istore 4, 2) := by decide +kernel
theorem dX3_walk_45 : decode cX3_walk 45 = .ok (.aload_n 0, 1) := by decide +kernel
theorem dX3_walk_46 : decode cX3_walk 46 = .ok (.iload_n 2, 1) := by decide +kernel
theorem dX3_walk_47 : decode cX3_walk 47 = .ok (.invokevirtual 78, 3) := by decide +kernel
theorem dX3_walk_50 : decode cX3_walk 50 = .ok (.istore 5, 2) := by decide +kernel
theorem dX3_walk_52 : decode cX3_walk 52 = .ok (.aload_n 0, 1) := by decide +kernel
theorem dX3_walk_53 : decode cX3_walk 53 = .ok (.iload_n 2, 1) := by decide +kernel
theorem dX3_walk_54 : decode cX3_walk 54 = .ok (.invokevirtual 81, 3) := by decide +kernel
theorem dX3_walk_57 : decode cX3_walk 57 = .ok (.istore 6, 2) := by decide +kernel
theorem dX3_walk_59 : decode cX3_walk 59 = .ok (.iload 4, 2) := by decide +kernel
theorem dX3_walk_61 : decode cX3_walk 61 = .ok (.tableswitch 265 1 13 #[67, 75, 265, 265, 265, 265, 265, 265, 92, 111, 151, 175, 203], 67) := by decide +kernel
theorem dX3_walk_128 : decode cX3_walk 128 = .ok (.aload_n 1, 1) := by decide +kernel
theorem dX3_walk_129 : decode cX3_walk 129 = .ok (.iload 5, 2) := by decide +kernel
theorem dX3_walk_131 : decode cX3_walk 131 = .ok (.lconst 0, 1) := by decide +kernel
theorem dX3_walk_132 : decode cX3_walk 132 = .ok (.invokevirtual 128, 3) := by decide +kernel
theorem dX3_walk_135 : decode cX3_walk 135 = .ok (.lreturn, 1) := by decide +kernel
theorem dX3_walk_136 : decode cX3_walk 136 = .ok (.aload_n 1, 1) := by decide +kernel
theorem dX3_walk_137 : decode cX3_walk 137 = .ok (.iload 5, 2) := by decide +kernel
theorem dX3_walk_139 : decode cX3_walk 139 = .ok (.aload_n 0, 1) := by decide +kernel
theorem dX3_walk_140 : decode cX3_walk 140 = .ok (.aload_n 1, 1) := by decide +kernel
theorem dX3_walk_141 : decode cX3_walk 141 = .ok (.iload 6, 2) := by decide +kernel
theorem dX3_walk_143 : decode cX3_walk 143 = .ok (.iload_n 3, 1) := by decide +kernel
theorem dX3_walk_144 : decode cX3_walk 144 = .ok (.iconst 1, 1) := by decide +kernel
theorem dX3_walk_145 : decode cX3_walk 145 = .ok (.iadd, 1) := by decide +kernel
theorem dX3_walk_146 : decode cX3_walk 146 = .ok (.invokevirtual 121, 3) := by decide +kernel
theorem dX3_walk_149 : decode cX3_walk 149 = .ok (.invokevirtual 128, 3) := by decide +kernel
theorem dX3_walk_152 : decode cX3_walk 152 = .ok (.lreturn, 1) := by decide +kernel
theorem dX3_walk_153 : decode cX3_walk 153 = .ok (.aload_n 1, 1) := by decide +kernel
theorem dX3_walk_154 : decode cX3_walk 154 = .ok (.iload 5, 2) := by decide +kernel
theorem dX3_walk_156 : decode cX3_walk 156 = .ok (.lconst 0, 1) := by decide +kernel
theorem dX3_walk_157 : decode cX3_walk 157 = .ok (.aload_n 0, 1) := by decide +kernel
theorem dX3_walk_158 : decode cX3_walk 158 = .ok (.aload_n 1, 1) := by decide +kernel
theorem dX3_walk_159 : decode cX3_walk 159 = .ok (.iload 6, 2) := by decide +kernel
theorem dX3_walk_161 : decode cX3_walk 161 = .ok (.iload_n 3, 1) := by decide +kernel
theorem dX3_walk_162 : decode cX3_walk 162 = .ok (.iconst 1, 1) := by decide +kernel
theorem dX3_walk_163 : decode cX3_walk 163 = .ok (.iadd, 1) := by decide +kernel
theorem dX3_walk_164 : decode cX3_walk 164 = .ok (.invokevirtual 121, 3) := by decide +kernel
theorem dX3_walk_167 : decode cX3_walk 167 = .ok (.invokevirtual 132, 3) := by decide +kernel
theorem dX3_walk_170 : decode cX3_walk 170 = .ok (.lconst 0, 1) := by decide +kernel
theorem dX3_walk_171 : decode cX3_walk 171 = .ok (.lreturn, 1) := by decide +kernel
theorem dX3_walk_172 : decode cX3_walk 172 = .ok (.aload_n 0, 1) := by decide +kernel
theorem dX3_walk_173 : decode cX3_walk 173 = .ok (.aload_n 1, 1) := by decide +kernel
theorem dX3_walk_174 : decode cX3_walk 174 = .ok (.aload_n 0, 1) := by decide +kernel
theorem dX3_walk_175 : decode cX3_walk 175 = .ok (.iload 6, 2) := by decide +kernel
theorem dX3_walk_177 : decode cX3_walk 177 = .ok (.invokevirtual 78, 3) := by decide +kernel
theorem dX3_walk_180 : decode cX3_walk 180 = .ok (.iload_n 3, 1) := by decide +kernel
theorem dX3_walk_181 : decode cX3_walk 181 = .ok (.iconst 1, 1) := by decide +kernel
theorem dX3_walk_182 : decode cX3_walk 182 = .ok (.iadd, 1) := by decide +kernel
theorem dX3_walk_183 : decode cX3_walk 183 = .ok (.invokevirtual 121, 3) := by decide +kernel
theorem dX3_walk_186 : decode cX3_walk 186 = .ok (.lstore 7, 2) := by decide +kernel
theorem dX3_walk_188 : decode cX3_walk 188 = .ok (.aload_n 1, 1) := by decide +kernel
theorem dX3_walk_189 : decode cX3_walk 189 = .ok (.iload 5, 2) := by decide +kernel
theorem dX3_walk_191 : decode cX3_walk 191 = .ok (.lload 7, 2) := by decide +kernel
theorem dX3_walk_193 : decode cX3_walk 193 = .ok (.aload_n 0, 1) := by decide +kernel
theorem dX3_walk_194 : decode cX3_walk 194 = .ok (.aload_n 1, 1) := by decide +kernel
theorem dX3_walk_195 : decode cX3_walk 195 = .ok (.aload_n 0, 1) := by decide +kernel
theorem dX3_walk_196 : decode cX3_walk 196 = .ok (.iload 6, 2) := by decide +kernel
theorem dX3_walk_198 : decode cX3_walk 198 = .ok (.invokevirtual 81, 3) := by decide +kernel
theorem dX3_walk_201 : decode cX3_walk 201 = .ok (.iload_n 3, 1) := by decide +kernel
theorem dX3_walk_202 : decode cX3_walk 202 = .ok (.iconst 1, 1) := by decide +kernel
theorem dX3_walk_203 : decode cX3_walk 203 = .ok (.iadd, 1) := by decide +kernel
theorem dX3_walk_204 : decode cX3_walk 204 = .ok (.invokevirtual 121, 3) := by decide +kernel
theorem dX3_walk_207 : decode cX3_walk 207 = .ok (.invokevirtual 132, 3) := by decide +kernel
theorem dX3_walk_210 : decode cX3_walk 210 = .ok (.lconst 0, 1) := by decide +kernel
theorem dX3_walk_211 : decode cX3_walk 211 = .ok (.lreturn, 1) := by decide +kernel
theorem dX3_walk_212 : decode cX3_walk 212 = .ok (.aload_n 0, 1) := by decide +kernel
theorem dX3_walk_213 : decode cX3_walk 213 = .ok (.aload_n 1, 1) := by decide +kernel
theorem dX3_walk_214 : decode cX3_walk 214 = .ok (.iload 5, 2) := by decide +kernel
theorem dX3_walk_216 : decode cX3_walk 216 = .ok (.iload_n 3, 1) := by decide +kernel
theorem dX3_walk_217 : decode cX3_walk 217 = .ok (.iconst 1, 1) := by decide +kernel
theorem dX3_walk_218 : decode cX3_walk 218 = .ok (.iadd, 1) := by decide +kernel
theorem dX3_walk_219 : decode cX3_walk 219 = .ok (.invokevirtual 121, 3) := by decide +kernel
theorem dX3_walk_222 : decode cX3_walk 222 = .ok (.pop2, 1) := by decide +kernel
theorem dX3_walk_223 : decode cX3_walk 223 = .ok (.aload_n 0, 1) := by decide +kernel
theorem dX3_walk_224 : decode cX3_walk 224 = .ok (.aload_n 1, 1) := by decide +kernel
theorem dX3_walk_225 : decode cX3_walk 225 = .ok (.iload 6, 2) := by decide +kernel
theorem dX3_walk_227 : decode cX3_walk 227 = .ok (.iload_n 3, 1) := by decide +kernel
theorem dX3_walk_228 : decode cX3_walk 228 = .ok (.iconst 1, 1) := by decide +kernel
theorem dX3_walk_229 : decode cX3_walk 229 = .ok (.iadd, 1) := by decide +kernel
theorem dX3_walk_230 : decode cX3_walk 230 = .ok (.invokevirtual 121, 3) := by decide +kernel
theorem dX3_walk_233 : decode cX3_walk 233 = .ok (.pop2, 1) := by decide +kernel
theorem dX3_walk_234 : decode cX3_walk 234 = .ok (.lconst 0, 1) := by decide +kernel
theorem dX3_walk_235 : decode cX3_walk 235 = .ok (.lreturn, 1) := by decide +kernel
theorem dX3_walk_236 : decode cX3_walk 236 = .ok (.aload_n 0, 1) := by decide +kernel
theorem dX3_walk_237 : decode cX3_walk 237 = .ok (.aload_n 1, 1) := by decide +kernel
theorem dX3_walk_238 : decode cX3_walk 238 = .ok (.iload 5, 2) := by decide +kernel
theorem dX3_walk_240 : decode cX3_walk 240 = .ok (.iload_n 3, 1) := by decide +kernel
theorem dX3_walk_241 : decode cX3_walk 241 = .ok (.iconst 1, 1) := by decide +kernel
theorem dX3_walk_242 : decode cX3_walk 242 = .ok (.iadd, 1) := by decide +kernel
theorem dX3_walk_243 : decode cX3_walk 243 = .ok (.invokevirtual 121, 3) := by decide +kernel
theorem dX3_walk_246 : decode cX3_walk 246 = .ok (.lconst 0, 1) := by decide +kernel
theorem dX3_walk_247 : decode cX3_walk 247 = .ok (.lcmp, 1) := by decide +kernel
theorem dX3_walk_248 : decode cX3_walk 248 = .ok (.ifCond .eq 14, 3) := by decide +kernel
theorem dX3_walk_251 : decode cX3_walk 251 = .ok (.aload_n 0, 1) := by decide +kernel
theorem dX3_walk_252 : decode cX3_walk 252 = .ok (.aload_n 1, 1) := by decide +kernel
theorem dX3_walk_253 : decode cX3_walk 253 = .ok (.iload 6, 2) := by decide +kernel
theorem dX3_walk_255 : decode cX3_walk 255 = .ok (.iload_n 3, 1) := by decide +kernel
theorem dX3_walk_256 : decode cX3_walk 256 = .ok (.iconst 1, 1) := by decide +kernel
theorem dX3_walk_257 : decode cX3_walk 257 = .ok (.iadd, 1) := by decide +kernel
theorem dX3_walk_258 : decode cX3_walk 258 = .ok (.invokevirtual 121, 3) := by decide +kernel
theorem dX3_walk_261 : decode cX3_walk 261 = .ok (.pop2, 1) := by decide +kernel
theorem dX3_walk_262 : decode cX3_walk 262 = .ok (.lconst 0, 1) := by decide +kernel
theorem dX3_walk_263 : decode cX3_walk 263 = .ok (.lreturn, 1) := by decide +kernel
theorem dX3_walk_264 : decode cX3_walk 264 = .ok (.aload_n 0, 1) := by decide +kernel
theorem dX3_walk_265 : decode cX3_walk 265 = .ok (.aload_n 1, 1) := by decide +kernel
theorem dX3_walk_266 : decode cX3_walk 266 = .ok (.iload 5, 2) := by decide +kernel
theorem dX3_walk_268 : decode cX3_walk 268 = .ok (.iload_n 3, 1) := by decide +kernel
theorem dX3_walk_269 : decode cX3_walk 269 = .ok (.iconst 1, 1) := by decide +kernel
theorem dX3_walk_270 : decode cX3_walk 270 = .ok (.iadd, 1) := by decide +kernel
theorem dX3_walk_271 : decode cX3_walk 271 = .ok (.invokevirtual 121, 3) := by decide +kernel
theorem dX3_walk_274 : decode cX3_walk 274 = .ok (.ldc2_w 136, 3) := by decide +kernel
theorem dX3_walk_277 : decode cX3_walk 277 = .ok (.invokestatic 138, 3) := by decide +kernel
theorem dX3_walk_280 : decode cX3_walk 280 = .ok (.lstore 9, 2) := by decide +kernel
theorem dX3_walk_282 : decode cX3_walk 282 = .ok (.lconst 0, 1) := by decide +kernel
theorem dX3_walk_283 : decode cX3_walk 283 = .ok (.lstore 11, 2) := by decide +kernel
theorem dX3_walk_285 : decode cX3_walk 285 = .ok (.lload 11, 2) := by decide +kernel
theorem dX3_walk_287 : decode cX3_walk 287 = .ok (.lload 9, 2) := by decide +kernel
theorem dX3_walk_289 : decode cX3_walk 289 = .ok (.lcmp, 1) := by decide +kernel
theorem dX3_walk_290 : decode cX3_walk 290 = .ok (.ifCond .ge 34, 3) := by decide +kernel
theorem dX3_walk_293 : decode cX3_walk 293 = .ok (.aload_n 1, 1) := by decide +kernel
theorem dX3_walk_294 : decode cX3_walk 294 = .ok (.getfield 125, 3) := by decide +kernel
theorem dX3_walk_297 : decode cX3_walk 297 = .ok (.ifCond .ne 27, 3) := by decide +kernel
theorem dX3_walk_300 : decode cX3_walk 300 = .ok (.aload_n 1, 1) := by decide +kernel
theorem dX3_walk_301 : decode cX3_walk 301 = .ok (.invokevirtual 141, 3) := by decide +kernel
theorem dX3_walk_304 : decode cX3_walk 304 = .ok (.aload_n 0, 1) := by decide +kernel
theorem dX3_walk_305 : decode cX3_walk 305 = .ok (.aload_n 1, 1) := by decide +kernel
theorem dX3_walk_306 : decode cX3_walk 306 = .ok (.iload 6, 2) := by decide +kernel
theorem dX3_walk_308 : decode cX3_walk 308 = .ok (.iload_n 3, 1) := by decide +kernel
theorem dX3_walk_309 : decode cX3_walk 309 = .ok (.iconst 1, 1) := by decide +kernel
theorem dX3_walk_310 : decode cX3_walk 310 = .ok (.iadd, 1) := by decide +kernel
theorem dX3_walk_311 : decode cX3_walk 311 = .ok (.invokevirtual 121, 3) := by decide +kernel
theorem dX3_walk_314 : decode cX3_walk 314 = .ok (.pop2, 1) := by decide +kernel
theorem dX3_walk_315 : decode cX3_walk 315 = .ok (.lload 11, 2) := by decide +kernel
theorem dX3_walk_317 : decode cX3_walk 317 = .ok (.lconst 1, 1) := by decide +kernel
theorem dX3_walk_318 : decode cX3_walk 318 = .ok (.ladd, 1) := by decide +kernel
theorem dX3_walk_319 : decode cX3_walk 319 = .ok (.lstore 11, 2) := by decide +kernel
theorem dX3_walk_321 : decode cX3_walk 321 = .ok (.goto (-36), 3) := by decide +kernel
theorem dX3_walk_324 : decode cX3_walk 324 = .ok (.lconst 0, 1) := by decide +kernel
theorem dX3_walk_325 : decode cX3_walk 325 = .ok (.lreturn, 1) := by decide +kernel
theorem dX3_walk_326 : decode cX3_walk 326 = .ok (.aload_n 0, 1) := by decide +kernel
theorem dX3_walk_327 : decode cX3_walk 327 = .ok (.aload_n 1, 1) := by decide +kernel
theorem dX3_walk_328 : decode cX3_walk 328 = .ok (.iload 5, 2) := by decide +kernel
theorem dX3_walk_330 : decode cX3_walk 330 = .ok (.iload_n 3, 1) := by decide +kernel
theorem dX3_walk_331 : decode cX3_walk 331 = .ok (.iconst 1, 1) := by decide +kernel
theorem dX3_walk_332 : decode cX3_walk 332 = .ok (.iadd, 1) := by decide +kernel
theorem dX3_walk_333 : decode cX3_walk 333 = .ok (.invokevirtual 121, 3) := by decide +kernel
theorem dX3_walk_336 : decode cX3_walk 336 = .ok (.lstore 11, 2) := by decide +kernel
theorem dX3_walk_338 : decode cX3_walk 338 = .ok (.aload_n 1, 1) := by decide +kernel
theorem dX3_walk_339 : decode cX3_walk 339 = .ok (.iload 4, 2) := by decide +kernel
theorem dX3_walk_341 : decode cX3_walk 341 = .ok (.lload 11, 2) := by decide +kernel
theorem dX3_walk_343 : decode cX3_walk 343 = .ok (.aload_n 0, 1) := by decide +kernel
theorem dX3_walk_344 : decode cX3_walk 344 = .ok (.aload_n 1, 1) := by decide +kernel
theorem dX3_walk_345 : decode cX3_walk 345 = .ok (.iload 6, 2) := by decide +kernel
theorem dX3_walk_347 : decode cX3_walk 347 = .ok (.iload_n 3, 1) := by decide +kernel
theorem dX3_walk_348 : decode cX3_walk 348 = .ok (.iconst 1, 1) := by decide +kernel
theorem dX3_walk_349 : decode cX3_walk 349 = .ok (.iadd, 1) := by decide +kernel
theorem dX3_walk_350 : decode cX3_walk 350 = .ok (.invokevirtual 121, 3) := by decide +kernel
theorem dX3_walk_353 : decode cX3_walk 353 = .ok (.invokevirtual 144, 3) := by decide +kernel
theorem dX3_walk_356 : decode cX3_walk 356 = .ok (.lreturn, 1) := by decide +kernel
set_option maxRecDepth 20000 in
theorem ggX4_init_X0_init : GoodIn wsX4_init wsX0_init := goodIn_r _ [24, 25, 2, 3, 26, 27, 28, 29, 60, 61, 62, 63] (by decide +kernel) (by decide +kernel)
set_option maxRecDepth 20000 in
theorem gX4_init_X0_init_n9 : GoodIn wsX4_init (wsX0_init) := ggX4_init_X0_init
set_option maxRecDepth 20000 in
theorem ggX4_init_X3_init : GoodIn wsX4_init wsX3_init := goodIn_r _ [32, 33, 2, 3, 26, 34, 35, 36, 37, 38, 39, 40, 41, 42, 43, 71, 72, 73, 74, 75, 76, 77, 78, 79] (by decide +kernel) (by decide +kernel)
set_option maxRecDepth 20000 in
theorem gX4_init_X3_init : GoodIn wsX4_init (wsX3_init) := ggX4_init_X3_init
set_option maxRecDepth 20000 in
theorem ggX4_init_X1_init : GoodIn wsX4_init wsX1_init := goodIn_r _ [46, 47, 2, 3, 26, 48, 41, 49, 39, 50, 51, 52, 80, 81, 82, 83, 84, 85, 86] (by decide +kernel) (by decide +kernel)
set_option maxRecDepth 20000 in
theorem gX4_init_X1_init : GoodIn wsX4_init (wsX1_init) := ggX4_init_X1_init
set_option maxRecDepth 20000 in
theorem ggX4_init_X2_init : GoodIn wsX4_init wsX2_init := goodIn_r _ [55, 56, 2, 3, 57, 58, 59, 87, 88, 89, 90] (by decide +kernel) (by decide +kernel)
set_option maxRecDepth 20000 in
theorem gX4_init_X2_init : GoodIn wsX4_init (wsX2_init) := ggX4_init_X2_init
