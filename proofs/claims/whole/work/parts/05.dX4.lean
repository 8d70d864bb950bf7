theorem dX4_init_0 : decode cX4_init 0 = .ok (.aload_n 0, 1) := by decide +kernel
theorem dX4_init_1 : decode cX4_init 1 = .ok (.invokespecial 1, 3) := by decide +kernel
theorem dX4_init_4 : decode cX4_init 4 = .ok (.aload_n 0, 1) := by decide +kernel
theorem dX4_init_5 : decode cX4_init 5 = .ok (.new 7, 3) := by decide +kernel
theorem dX4_init_8 : decode cX4_init 8 = .ok (.dup, 1) := by decide +kernel
theorem dX4_init_9 : decode cX4_init 9 = .ok (.invokespecial 9, 3) := by decide +kernel
theorem dX4_init_12 : decode cX4_init 12 = .ok (.putfield 10, 3) := by decide +kernel
theorem dX4_init_15 : decode cX4_init 15 = .ok (.aload_n 0, 1) := by decide +kernel
theorem dX4_init_16 : decode cX4_init 16 = .ok (.new 16, 3) := by decide +kernel
theorem dX4_init_19 : decode cX4_init 19 = .ok (.dup, 1) := by decide +kernel
theorem dX4_init_20 : decode cX4_init 20 = .ok (.aload_n 0, 1) := by decide +kernel
theorem dX4_init_21 : decode cX4_init 21 = .ok (.getfield 10, 3) := by decide +kernel
theorem dX4_init_24 : decode cX4_init 24 = .ok (.invokespecial 18, 3) := by decide +kernel
theorem dX4_init_27 : decode cX4_init 27 = .ok (.putfield 21, 3) := by decide +kernel
theorem dX4_init_30 : decode cX4_init 30 = .ok (.aload_n 0, 1) := by decide +kernel
theorem dX4_init_31 : decode cX4_init 31 = .ok (.new 25, 3) := by decide +kernel
theorem dX4_init_34 : decode cX4_init 34 = .ok (.dup, 1) := by decide +kernel
theorem dX4_init_35 : decode cX4_init 35 = .ok (.aload_n 0, 1) := by decide +kernel
theorem dX4_init_36 : decode cX4_init 36 = .ok (.getfield 21, 3) := by decide +kernel
theorem dX4_init_39 : decode cX4_init 39 = .ok (.invokespecial 27, 3) := by decide +kernel
theorem dX4_init_42 : decode cX4_init 42 = .ok (.putfield 30, 3) := by decide +kernel
theorem dX4_init_45 : decode cX4_init 45 = .ok (.aload_n 0, 1) := by decide +kernel
theorem dX4_init_46 : decode cX4_init 46 = .ok (.new 34, 3) := by decide +kernel
theorem dX4_init_49 : decode cX4_init 49 = .ok (.dup, 1) := by decide +kernel
theorem dX4_init_50 : decode cX4_init 50 = .ok (.aload_n 0, 1) := by decide +kernel
theorem dX4_init_51 : decode cX4_init 51 = .ok (.getfield 10, 3) := by decide +kernel
theorem dX4_init_54 : decode cX4_init 54 = .ok (.invokespecial 36, 3) := by decide +kernel
theorem dX4_init_57 : decode cX4_init 57 = .ok (.putfield 37, 3) := by decide +kernel
theorem dX4_init_60 : decode cX4_init 60 = .ok (.aload_n 0, 1) := by decide +kernel
theorem dX4_init_61 : decode cX4_init 61 = .ok (.new 34, 3) := by decide +kernel
theorem dX4_init_64 : decode cX4_init 64 = .ok (.dup, 1) := by decide +kernel
theorem dX4_init_65 : decode cX4_init 65 = .ok (.aload_n 0, 1) := by decide +kernel
theorem dX4_init_66 : decode cX4_init 66 = .ok (.getfield 10, 3) := by decide +kernel
theorem dX4_init_69 : decode cX4_init 69 = .ok (.invokespecial 36, 3) := by decide +kernel
theorem dX4_init_72 : decode cX4_init 72 = .ok (.putfield 41, 3) := by decide +kernel
theorem dX4_init_75 : decode cX4_init 75 = .ok (.aload_n 0, 1) := by decide +kernel
theorem dX4_init_76 : decode cX4_init 76 = .ok (.new 34, 3) := by decide +kernel
theorem dX4_init_79 : decode cX4_init 79 = .ok (.dup, 1) := by decide +kernel
theorem dX4_init_80 : decode cX4_init 80 = .ok (.aload_n 0, 1) := by decide +kernel
theorem dX4_init_81 : decode cX4_init 81 = .ok (.getfield 10, 3) := by decide +kernel
theorem dX4_init_84 : decode cX4_init 84 = .ok (.invokespecial 36, 3) := by decide +kernel
theorem dX4_init_87 : decode cX4_init 87 = .ok (.putfield 44, 3) := by decide +kernel
theorem dX4_init_90 : decode cX4_init 90 = .ok (.aload_n 0, 1) := by decide +kernel
theorem dX4_init_91 : decode cX4_init 91 = .ok (.new 34, 3) := by decide +kernel
theorem dX4_init_94 : decode cX4_init 94 = .ok (.dup, 1) := by decide +kernel
theorem dX4_init_95 : decode cX4_init 95 = .ok (.aload_n 0, 1) := by decide +kernel
theorem dX4_init_96 : decode cX4_init 96 = .ok (.getfield 10, 3) := by decide +kernel
theorem dX4_init_99 : decode cX4_init 99 = .ok (.invokespecial 36, 3) := by decide +kernel
theorem dX4_init_102 : decode cX4_init 102 = .ok (.putfield 47, 3) := by decide +kernel
theorem dX4_init_105 : decode cX4_init 105 = .ok (.return_, 1) := by decide +kernel
set_option maxRecDepth 20000 in
theorem ggX4_cell_X0_add : GoodIn wsX4_cell wsX0_add := goodIn_r _ [6, 7, 8, 9, 10, 11, 12, 5, 13, 21, 22, 23, 24] (by decide +kernel) (by decide +kernel)
set_option maxRecDepth 20000 in
theorem gX4_cell_X0_add : GoodIn wsX4_cell (wsV RX4 50 RX0 yX0_add wsX0_add) := goodIn_app (goodIn_of _ (by decide +kernel)) ggX4_cell_X0_add
theorem dX4_cell_0 : decode cX4_cell 0 = .ok (.aload_n 0, 1) := by decide +kernel
theorem dX4_cell_1 : decode cX4_cell 1 = .ok (.getfield 10, 3) := by decide +kernel
theorem dX4_cell_4 : decode cX4_cell 4 = .ok (.iload_n 1, 1) := by decide +kernel
theorem dX4_cell_5 : decode cX4_cell 5 = .ok (.iload_n 2, 1) := by decide +kernel
theorem dX4_cell_6 : decode cX4_cell 6 = .ok (.iload_n 3, 1) := by decide +kernel
theorem dX4_cell_7 : decode cX4_cell 7 = .ok (.invokevirtual 50, 3) := by decide +kernel
theorem dX4_cell_10 : decode cX4_cell 10 = .ok (.ireturn, 1) := by decide +kernel
set_option maxRecDepth 20000 in
theorem ggX4_node_X3_add : GoodIn wsX4_node wsX3_add := goodIn_r _ [6, 7, 8, 9, 10, 11, 12, 13, 14, 15, 16, 17, 18, 19, 20, 5, 21, 22, 23, 24, 25, 26, 27, 28, 29, 30, 31, 32, 33, 34, 35, 36, 37, 38, 39, 40, 41, 42, 43, 44, 45, 46, 47, 48, 49, 50, 51, 52, 53, 54, 55, 56, 57, 58, 59, 60, 61, 62, 63, 64, 65, 66, 67, 68, 69, 70, 71, 72, 73, 74, 75, 76, 77, 78, 79, 80, 81, 82, 83, 84, 85, 86, 87, 88, 89, 90, 91, 92, 93, 94, 95, 96, 97, 98, 99, 107, 108, 109, 110, 111, 112, 113, 114, 115, 116, 117, 118, 119] (by decide +kernel) (by decide +kernel)
set_option maxRecDepth 20000 in
theorem gX4_node_X3_add : GoodIn wsX4_node (wsV RX4 54 RX3 yX3_add wsX3_add) := goodIn_app (goodIn_of _ (by decide +kernel)) ggX4_node_X3_add
theorem dX4_node_0 : decode cX4_node 0 = .ok (.aload_n 0, 1) := by decide +kernel
theorem dX4_node_1 : decode cX4_node 1 = .ok (.getfield 21, 3) := by decide +kernel
theorem dX4_node_4 : decode cX4_node 4 = .ok (.iload_n 1, 1) := by decide +kernel
theorem dX4_node_5 : decode cX4_node 5 = .ok (.iload_n 2, 1) := by decide +kernel
theorem dX4_node_6 : decode cX4_node 6 = .ok (.iload_n 3, 1) := by decide +kernel
theorem dX4_node_7 : decode cX4_node 7 = .ok (.invokevirtual 54, 3) := by decide +kernel
theorem dX4_node_10 : decode cX4_node 10 = .ok (.ireturn, 1) := by decide +kernel
set_option maxRecDepth 20000 in
theorem ggX4_make_X1_build : GoodIn wsX4_make wsX1_build := goodIn_r _ [6, 7, 8, 9, 10, 11, 12, 13, 14, 15, 16, 17, 18, 19, 20, 21, 22, 23, 5, 24, 25, 26, 27, 28, 29, 30, 31, 32, 33, 34, 35, 36, 37, 38, 39, 40, 41, 42, 43, 44, 45, 46, 47, 48, 49, 50, 51, 52, 53, 54, 55, 56, 57, 58, 59, 60, 61, 62, 63, 64, 65, 66, 67, 68, 69, 70, 71, 72, 73, 81, 82, 83, 84, 85, 86, 87, 88, 89, 90, 91, 92, 93, 94, 95, 96] (by decide +kernel) (by decide +kernel)
set_option maxRecDepth 20000 in
theorem gX4_make_X1_build : GoodIn wsX4_make (wsV RX4 55 RX1 yX1_build wsX1_build) := goodIn_app (goodIn_of _ (by decide +kernel)) ggX4_make_X1_build
theorem dX4_make_0 : decode cX4_make 0 = .ok (.aload_n 0, 1) := by decide +kernel
theorem dX4_make_1 : decode cX4_make 1 = .ok (.getfield 30, 3) := by decide +kernel
theorem dX4_make_4 : decode cX4_make 4 = .ok (.iload_n 1, 1) := by decide +kernel
theorem dX4_make_5 : decode cX4_make 5 = .ok (.invokevirtual 55, 3) := by decide +kernel
theorem dX4_make_8 : decode cX4_make 8 = .ok (.ireturn, 1) := by decide +kernel
set_option maxRecDepth 20000 in
theorem ggX4_code_X1_has : GoodIn wsX4_code wsX1_has := goodIn_r _ [6, 7, 27, 28, 29, 30, 31, 32, 33] (by decide +kernel) (by decide +kernel)
set_option maxRecDepth 20000 in
theorem gX4_code_X1_has : GoodIn wsX4_code (wsV RX4 59 RX1 yX1_has wsX1_has) := goodIn_app (goodIn_of _ (by decide +kernel)) ggX4_code_X1_has
set_option maxRecDepth 20000 in
theorem ggX4_code_X1_opOf : GoodIn wsX4_code wsX1_opOf := goodIn_r _ [11, 12, 13, 3, 4, 5, 6, 7, 27, 28, 29, 30, 31, 32, 33] (by decide +kernel) (by decide +kernel)
set_option maxRecDepth 20000 in
theorem gX4_code_X1_opOf : GoodIn wsX4_code (wsV RX4 63 RX1 yX1_opOf wsX1_opOf) := goodIn_app (goodIn_of _ (by decide +kernel)) ggX4_code_X1_opOf
set_option maxRecDepth 20000 in
theorem ggX4_code_X1_numberOf : GoodIn wsX4_code wsX1_numberOf := goodIn_r _ [17, 18, 19, 13, 3, 4, 5, 6, 7, 27, 28, 29, 30, 31, 32, 33] (by decide +kernel) (by decide +kernel)
set_option maxRecDepth 20000 in
theorem gX4_code_X1_numberOf : GoodIn wsX4_code (wsV RX4 66 RX1 yX1_numberOf wsX1_numberOf) := goodIn_app (goodIn_of _ (by decide +kernel)) ggX4_code_X1_numberOf
theorem dX4_code_0 : decode cX4_code 0 = .ok (.aload_n 0, 1) := by decide +kernel
theorem dX4_code_1 : decode cX4_code 1 = .ok (.getfield 30, 3) := by decide +kernel
theorem dX4_code_4 : decode cX4_code 4 = .ok (.iload_n 1, 1) := by decide +kernel
theorem dX4_code_5 : decode cX4_code 5 = .ok (.invokevirtual 59, 3) := by decide +kernel
theorem dX4_code_8 : decode cX4_code 8 = .ok (.ifCond .ne 5, 3) := by decide +kernel
theorem dX4_code_11 : decode cX4_code 11 = .ok (.iconst (-1), 1) := by decide +kernel
theorem dX4_code_12 : decode cX4_code 12 = .ok (.ireturn, 1) := by decide +kernel
theorem dX4_code_13 : decode cX4_code 13 = .ok (.iload_n 2, 1) := by decide +kernel
theorem dX4_code_14 : decode cX4_code 14 = .ok (.ifCond .ne 12, 3) := by decide +kernel
theorem dX4_code_17 : decode cX4_code 17 = .ok (.aload_n 0, 1) := by decide +kernel
theorem dX4_code_18 : decode cX4_code 18 = .ok (.getfield 30, 3) := by decide +kernel
theorem dX4_code_21 : decode cX4_code 21 = .ok (.iload_n 1, 1) := by decide +kernel
theorem dX4_code_22 : decode cX4_code 22 = .ok (.invokevirtual 63, 3) := by decide +kernel
theorem dX4_code_25 : decode cX4_code 25 = .ok (.ireturn, 1) := by decide +kernel
theorem dX4_code_26 : decode cX4_code 26 = .ok (.iload_n 2, 1) := by decide +kernel
theorem dX4_code_27 : decode cX4_code 27 = .ok (.iconst 1, 1) := by decide +kernel
theorem dX4_code_28 : decode cX4_code 28 = .ok (.if_icmp .ne 15, 3) := by decide +kernel
theorem dX4_code_31 : decode cX4_code 31 = .ok (.aload_n 0, 1) := by decide +kernel
theorem dX4_code_32 : decode cX4_code 32 = .ok (.getfield 30, 3) := by decide +kernel
theorem dX4_code_35 : decode cX4_code 35 = .ok (.iload_n 1, 1) := by decide +kernel
theorem dX4_code_36 : decode cX4_code 36 = .ok (.invokevirtual 66, 3) := by decide +kernel
theorem dX4_code_39 : decode cX4_code 39 = .ok (.l2i, 1) := by decide +kernel
theorem dX4_code_40 : decode cX4_code 40 = .ok (.goto 4, 3) := by decide +kernel
theorem dX4_code_43 : decode cX4_code 43 = .ok (.iconst (-1), 1) := by decide +kernel
theorem dX4_code_44 : decode cX4_code 44 = .ok (.ireturn, 1) := by decide +kernel
set_option maxRecDepth 20000 in
theorem ggX4_run_X4_make : GoodIn wsX4_run wsX4_make := goodIn_r _ [9, 1, 10, 11, 12, 13, 14, 15, 16, 17, 18, 19, 20, 21, 22, 23, 24, 25, 26, 27, 28, 29, 30, 31, 32, 33, 34, 35, 36, 37, 38, 39, 40, 41, 42, 43, 44, 45, 46, 47, 48, 49, 50, 51, 52, 53, 54, 55, 56, 57, 58, 59, 60, 61, 62, 63, 64, 65, 66, 67, 68, 69, 70, 71, 72, 73, 74, 75, 76, 77, 78, 79, 80, 81, 224, 225, 226, 227, 228, 229, 230, 231, 232, 233, 234, 235, 236, 237, 238, 239, 240, 241, 242, 243, 244, 245, 246] (by decide +kernel) (by decide +kernel)
set_option maxRecDepth 20000 in
theorem gX4_run_X4_make : GoodIn wsX4_run (wsV RX4 70 RX4 yX4_make wsX4_make) := goodIn_app (goodIn_of _ (by decide +kernel)) ggX4_run_X4_make
set_option maxRecDepth 20000 in
theorem ggX4_run_X1_stepAll : GoodIn wsX4_run wsX1_stepAll := goodIn_r _ [85, 86, 87, 88, 89, 90, 91, 92, 93, 94, 69, 70, 71, 13, 72, 16, 95, 96, 97, 98, 99, 100, 101, 102, 62, 103, 104, 105, 106, 63, 107, 108, 109, 110, 111, 112, 113, 114, 115, 116, 117, 118, 119, 120, 121, 122, 123, 124, 125, 126, 127, 128, 129, 130, 131, 132, 133, 134, 135, 136, 137, 138, 139, 140, 141, 142, 143, 144, 145, 146, 147, 148, 149, 150, 151, 152, 153, 154, 155, 156, 157, 158, 159, 160, 161, 162, 163, 164, 165, 166, 167, 168, 169, 170, 171, 172, 173, 174, 175, 176, 177, 178, 179, 180, 181, 182, 183, 184, 185, 186, 187, 188, 189, 190, 191, 192, 193, 8, 194, 231, 232, 233, 234, 235, 236, 237, 247, 248, 249, 250, 251, 252, 253, 254] (by decide +kernel) (by decide +kernel)
set_option maxRecDepth 20000 in
theorem gX4_run_X1_stepAll : GoodIn wsX4_run (wsV RX4 73 RX1 yX1_stepAll wsX1_stepAll) := goodIn_app (goodIn_of _ (by decide +kernel)) ggX4_run_X1_stepAll
set_option maxRecDepth 20000 in
theorem ggX4_run_X2_outcome : GoodIn wsX4_run wsX2_outcome := goodIn_r _ [198, 93, 247, 248, 249, 250] (by decide +kernel) (by decide +kernel)
set_option maxRecDepth 20000 in
theorem gX4_run_X2_outcome : GoodIn wsX4_run (wsV RX4 77 RX2 yX2_outcome wsX2_outcome) := goodIn_app (goodIn_of _ (by decide +kernel)) ggX4_run_X2_outcome
set_option maxRecDepth 20000 in
theorem ggX4_run_X3_has : GoodIn wsX4_run wsX3_has := goodIn_r _ [21, 22, 238, 239, 240, 241, 242, 243, 244, 245, 246] (by decide +kernel) (by decide +kernel)
set_option maxRecDepth 20000 in
theorem gX4_run_X3_has : GoodIn wsX4_run (wsV RX4 81 RX3 yX3_has wsX3_has) := goodIn_app (goodIn_of _ (by decide +kernel)) ggX4_run_X3_has
set_option maxRecDepth 20000 in
theorem ggX4_run_X3_rowsOf : GoodIn wsX4_run wsX3_rowsOf := goodIn_r _ [26, 27, 28, 18, 19, 20, 21, 22, 238, 239, 240, 241, 242, 243, 244, 245, 246] (by decide +kernel) (by decide +kernel)
set_option maxRecDepth 20000 in
theorem gX4_run_X3_rowsOf : GoodIn wsX4_run (wsV RX4 82 RX3 yX3_rowsOf wsX3_rowsOf) := goodIn_app (goodIn_of _ (by decide +kernel)) ggX4_run_X3_rowsOf
set_option maxRecDepth 20000 in
theorem ggX4_run_X3_walkAll : GoodIn wsX4_run wsX3_walkAll := goodIn_r _ [204, 205, 89, 90, 91, 92, 93, 94, 206, 207, 208, 20, 209, 210, 211, 212, 213, 214, 28, 18, 19, 21, 22, 215, 49, 50, 51, 52, 216, 54, 55, 56, 57, 217, 34, 35, 36, 37, 218, 39, 40, 41, 42, 219, 44, 45, 46, 47, 220, 114, 115, 116, 117, 118, 119, 120, 121, 122, 123, 124, 125, 126, 127, 128, 129, 130, 131, 132, 133, 134, 135, 136, 137, 138, 139, 140, 141, 142, 143, 144, 145, 146, 147, 148, 149, 150, 151, 152, 153, 221, 159, 160, 161, 162, 163, 164, 165, 166, 167, 168, 169, 170, 171, 172, 173, 174, 175, 176, 177, 178, 179, 180, 181, 182, 183, 222, 223, 190, 191, 192, 193, 8, 194, 247, 248, 249, 250, 238, 239, 240, 241, 242, 243, 244, 245, 246, 251, 252, 253, 254] (by decide +kernel) (by decide +kernel)
set_option maxRecDepth 20000 in
theorem gX4_run_X3_walkAll : GoodIn wsX4_run (wsV RX4 85 RX3 yX3_walkAll wsX3_walkAll) := goodIn_app (goodIn_of _ (by decide +kernel)) ggX4_run_X3_walkAll
theorem dX4_run_0 : decode cX4_run 0 = .ok (.iload_n 1, 1) := by decide +kernel
theorem dX4_run_1 : decode cX4_run 1 = .ok (.ifCond .eq 32, 3) := by decide +kernel
theorem dX4_run_4 : decode cX4_run 4 = .ok (.aload_n 0, 1) := by decide +kernel
theorem dX4_run_5 : decode cX4_run 5 = .ok (.iload_n 2, 1) := by decide +kernel
theorem dX4_run_6 : decode cX4_run 6 = .ok (.invokevirtual 70, 3) := by decide +kernel
theorem dX4_run_9 : decode cX4_run 9 = .ok (.ifCond .ge 5, 3) := by decide +kernel
theorem dX4_run_12 : decode cX4_run 12 = .ok (.iconst 0, 1) := by decide +kernel
theorem dX4_run_13 : decode cX4_run 13 = .ok (.ireturn, 1) := by decide +kernel
theorem dX4_run_14 : decode cX4_run 14 = .ok (.aload_n 0, 1) := by decide +kernel
theorem dX4_run_15 : decode cX4_run 15 = .ok (.getfield 30, 3) := by decide +kernel
theorem dX4_run_18 : decode cX4_run 18 = .ok (.aload_n 0, 1) := by decide +kernel
theorem dX4_run_19 : decode cX4_run 19 = .ok (.getfield 41, 3) := by decide +kernel
theorem dX4_run_22 : decode cX4_run 22 = .ok (.invokevirtual 73, 3) := by decide +kernel
theorem dX4_run_25 : decode cX4_run 25 = .ok (.aload_n 0, 1) := by decide +kernel
theorem dX4_run_26 : decode cX4_run 26 = .ok (.getfield 41, 3) := by decide +kernel
theorem dX4_run_29 : decode cX4_run 29 = .ok (.invokevirtual 77, 3) := by decide +kernel
theorem dX4_run_32 : decode cX4_run 32 = .ok (.ireturn, 1) := by decide +kernel
theorem dX4_run_33 : decode cX4_run 33 = .ok (.aload_n 0, 1) := by decide +kernel
theorem dX4_run_34 : decode cX4_run 34 = .ok (.getfield 21, 3) := by decide +kernel
theorem dX4_run_37 : decode cX4_run 37 = .ok (.iload_n 2, 1) := by decide +kernel
theorem dX4_run_38 : decode cX4_run 38 = .ok (.invokevirtual 81, 3) := by decide +kernel
theorem dX4_run_41 : decode cX4_run 41 = .ok (.ifCond .eq 17, 3) := by decide +kernel
theorem dX4_run_44 : decode cX4_run 44 = .ok (.aload_n 0, 1) := by decide +kernel
theorem dX4_run_45 : decode cX4_run 45 = .ok (.getfield 21, 3) := by decide +kernel
theorem dX4_run_48 : decode cX4_run 48 = .ok (.iload_n 2, 1) := by decide +kernel
theorem dX4_run_49 : decode cX4_run 49 = .ok (.invokevirtual 82, 3) := by decide +kernel
theorem dX4_run_52 : decode cX4_run 52 = .ok (.sipush 400, 3) := by decide +kernel
theorem dX4_run_55 : decode cX4_run 55 = .ok (.if_icmp .le 5, 3) := by decide +kernel
theorem dX4_run_58 : decode cX4_run 58 = .ok (.iconst 0, 1) := by decide +kernel
theorem dX4_run_59 : decode cX4_run 59 = .ok (.ireturn, 1) := by decide +kernel
theorem dX4_run_60 : decode cX4_run 60 = .ok (.aload_n 0, 1) := by decide +kernel
theorem dX4_run_61 : decode cX4_run 61 = .ok (.getfield 21, 3) := by decide +kernel
theorem dX4_run_64 : decode cX4_run 64 = .ok (.aload_n 0, 1) := by decide +kernel
theorem dX4_run_65 : decode cX4_run 65 = .ok (.getfield 37, 3) := by decide +kernel
theorem dX4_run_68 : decode cX4_run 68 = .ok (.iload_n 2, 1) := by decide +kernel
theorem dX4_run_69 : decode cX4_run 69 = .ok (.invokevirtual 85, 3) := by decide +kernel
theorem dX4_run_72 : decode cX4_run 72 = .ok (.aload_n 0, 1) := by decide +kernel
theorem dX4_run_73 : decode cX4_run 73 = .ok (.getfield 37, 3) := by decide +kernel
theorem dX4_run_76 : decode cX4_run 76 = .ok (.invokevirtual 77, 3) := by decide +kernel
theorem dX4_run_79 : decode cX4_run 79 = .ok (.ireturn, 1) := by decide +kernel
set_option maxRecDepth 20000 in
theorem ggX4_at_X2_holds : GoodIn wsX4_at wsX2_holds := goodIn_r _ [9] (by decide +kernel) (by decide +kernel)
set_option maxRecDepth 20000 in
theorem gX4_at_X2_holds : GoodIn wsX4_at (va_wsS RX4 89 yX2_holds wsX2_holds) := goodIn_app (goodIn_of _ (by decide +kernel)) ggX4_at_X2_holds
set_option maxRecDepth 20000 in
theorem ggX4_at_X2_byteAt : GoodIn wsX4_at wsX2_byteAt := goodIn_r _ [13, 14, 15, 7, 8, 9, 29, 30, 31, 32] (by decide +kernel) (by decide +kernel)
set_option maxRecDepth 20000 in
theorem gX4_at_X2_byteAt : GoodIn wsX4_at (wsV RX4 95 RX2 yX2_byteAt wsX2_byteAt) := goodIn_app (goodIn_of _ (by decide +kernel)) ggX4_at_X2_byteAt
theorem dX4_at_0 : decode cX4_at 0 = .ok (.iload_n 2, 1) := by decide +kernel
theorem dX4_at_1 : decode cX4_at 1 = .ok (.invokestatic 89, 3) := by decide +kernel
theorem dX4_at_4 : decode cX4_at 4 = .ok (.ifCond .ne 11, 3) := by decide +kernel
theorem dX4_at_7 : decode cX4_at 7 = .ok (.new 92, 3) := by decide +kernel
theorem dX4_at_10 : decode cX4_at 10 = .ok (.dup, 1) := by decide +kernel
theorem dX4_at_11 : decode cX4_at 11 = .ok (.invokespecial 94, 3) := by decide +kernel
theorem dX4_at_14 : decode cX4_at 14 = .ok (.athrow, 1) := by decide +kernel
theorem dX4_at_15 : decode cX4_at 15 = .ok (.iload_n 1, 1) := by decide +kernel
theorem dX4_at_16 : decode cX4_at 16 = .ok (.ifCond .eq 14, 3) := by decide +kernel
theorem dX4_at_19 : decode cX4_at 19 = .ok (.aload_n 0, 1) := by decide +kernel
theorem dX4_at_20 : decode cX4_at 20 = .ok (.getfield 41, 3) := by decide +kernel
theorem dX4_at_23 : decode cX4_at 23 = .ok (.iload_n 2, 1) := by decide +kernel
theorem dX4_at_24 : decode cX4_at 24 = .ok (.invokevirtual 95, 3) := by decide +kernel
theorem dX4_at_27 : decode cX4_at 27 = .ok (.goto 11, 3) := by decide +kernel
theorem dX4_at_30 : decode cX4_at 30 = .ok (.aload_n 0, 1) := by decide +kernel
theorem dX4_at_31 : decode cX4_at 31 = .ok (.getfield 37, 3) := by decide +kernel
theorem dX4_at_34 : decode cX4_at 34 = .ok (.iload_n 2, 1) := by decide +kernel
theorem dX4_at_35 : decode cX4_at 35 = .ok (.invokevirtual 95, 3) := by decide +kernel
theorem dX4_at_38 : decode cX4_at 38 = .ok (.ireturn, 1) := by decide +kernel
set_option maxRecDepth 20000 in
theorem ggX4_put_X2_holds : GoodIn wsX4_put wsX2_holds := goodIn_r _ [6] (by decide +kernel) (by decide +kernel)
set_option maxRecDepth 20000 in
theorem gX4_put_X2_holds : GoodIn wsX4_put (va_wsS RX4 89 yX2_holds wsX2_holds) := goodIn_app (goodIn_of _ (by decide +kernel)) ggX4_put_X2_holds
set_option maxRecDepth 20000 in
theorem ggX4_put_X2_setByte : GoodIn wsX4_put wsX2_setByte := goodIn_r _ [10, 11, 12, 4, 5, 6, 20, 21, 22, 23] (by decide +kernel) (by decide +kernel)
set_option maxRecDepth 20000 in
theorem gX4_put_X2_setByte : GoodIn wsX4_put (wsV RX4 99 RX2 yX2_setByte wsX2_setByte) := goodIn_app (goodIn_of _ (by decide +kernel)) ggX4_put_X2_setByte
theorem dX4_put_0 : decode cX4_put 0 = .ok (.iload_n 1, 1) := by decide +kernel
theorem dX4_put_1 : decode cX4_put 1 = .ok (.invokestatic 89, 3) := by decide +kernel
theorem dX4_put_4 : decode cX4_put 4 = .ok (.ifCond .ne 6, 3) := by decide +kernel
theorem dX4_put_7 : decode cX4_put 7 = .ok (.bipush (-4), 2) := by decide +kernel
theorem dX4_put_9 : decode cX4_put 9 = .ok (.ireturn, 1) := by decide +kernel
theorem dX4_put_10 : decode cX4_put 10 = .ok (.aload_n 0, 1) := by decide +kernel
theorem dX4_put_11 : decode cX4_put 11 = .ok (.getfield 37, 3) := by decide +kernel
theorem dX4_put_14 : decode cX4_put 14 = .ok (.iload_n 1, 1) := by decide +kernel
theorem dX4_put_15 : decode cX4_put 15 = .ok (.iload_n 2, 1) := by decide +kernel
theorem dX4_put_16 : decode cX4_put 16 = .ok (.invokevirtual 99, 3) := by decide +kernel
theorem dX4_put_19 : decode cX4_put 19 = .ok (.aload_n 0, 1) := by decide +kernel
theorem dX4_put_20 : decode cX4_put 20 = .ok (.getfield 41, 3) := by decide +kernel
theorem dX4_put_23 : decode cX4_put 23 = .ok (.iload_n 1, 1) := by decide +kernel
theorem dX4_put_24 : decode cX4_put 24 = .ok (.iload_n 2, 1) := by decide +kernel
theorem dX4_put_25 : decode cX4_put 25 = .ok (.invokevirtual 99, 3) := by decide +kernel
theorem dX4_put_28 : decode cX4_put 28 = .ok (.iconst 1, 1) := by decide +kernel
theorem dX4_put_29 : decode cX4_put 29 = .ok (.ireturn, 1) := by decide +kernel
set_option maxRecDepth 20000 in
theorem ggX4_fast_X1_has : GoodIn wsX4_fast wsX1_has := goodIn_r _ [6, 7, 21, 22, 23, 24, 25, 26, 27] (by decide +kernel) (by decide +kernel)
set_option maxRecDepth 20000 in
theorem gX4_fast_X1_has : GoodIn wsX4_fast (wsV RX4 59 RX1 yX1_has wsX1_has) := goodIn_app (goodIn_of _ (by decide +kernel)) ggX4_fast_X1_has
set_option maxRecDepth 20000 in
theorem ggX4_fast_X1_isShort : GoodIn wsX4_fast wsX1_isShort := goodIn_r _ [11, 12, 13, 3, 4, 5, 6, 7, 21, 22, 23, 24, 25, 26, 27] (by decide +kernel) (by decide +kernel)
set_option maxRecDepth 20000 in
theorem gX4_fast_X1_isShort : GoodIn wsX4_fast (wsV RX4 103 RX1 yX1_isShort wsX1_isShort) := goodIn_app (goodIn_of _ (by decide +kernel)) ggX4_fast_X1_isShort
theorem dX4_fast_0 : decode cX4_fast 0 = .ok (.aload_n 0, 1) := by decide +kernel
theorem dX4_fast_1 : decode cX4_fast 1 = .ok (.getfield 30, 3) := by decide +kernel
theorem dX4_fast_4 : decode cX4_fast 4 = .ok (.iload_n 1, 1) := by decide +kernel
theorem dX4_fast_5 : decode cX4_fast 5 = .ok (.invokevirtual 59, 3) := by decide +kernel
theorem dX4_fast_8 : decode cX4_fast 8 = .ok (.ifCond .eq 18, 3) := by decide +kernel
theorem dX4_fast_11 : decode cX4_fast 11 = .ok (.aload_n 0, 1) := by decide +kernel
theorem dX4_fast_12 : decode cX4_fast 12 = .ok (.getfield 30, 3) := by decide +kernel
theorem dX4_fast_15 : decode cX4_fast 15 = .ok (.iload_n 1, 1) := by decide +kernel
theorem dX4_fast_16 : decode cX4_fast 16 = .ok (.invokevirtual 103, 3) := by decide +kernel
theorem dX4_fast_19 : decode cX4_fast 19 = .ok (.ifCond .eq 7, 3) := by decide +kernel
theorem dX4_fast_22 : decode cX4_fast 22 = .ok (.iconst 1, 1) := by decide +kernel
theorem dX4_fast_23 : decode cX4_fast 23 = .ok (.goto 4, 3) := by decide +kernel
theorem dX4_fast_26 : decode cX4_fast 26 = .ok (.iconst 0, 1) := by decide +kernel
theorem dX4_fast_27 : decode cX4_fast 27 = .ok (.ireturn, 1) := by decide +kernel
set_option maxRecDepth 20000 in
theorem ggX4_point_X1_storingRow : GoodIn wsX4_point wsX1_storingRow := goodIn_r _ [6, 7, 8, 16, 17, 18, 19, 20, 21, 22] (by decide +kernel) (by decide +kernel)
set_option maxRecDepth 20000 in
theorem gX4_point_X1_storingRow : GoodIn wsX4_point (wsV RX4 106 RX1 yX1_storingRow wsX1_storingRow) := goodIn_app (goodIn_of _ (by decide +kernel)) ggX4_point_X1_storingRow
theorem dX4_point_0 : decode cX4_point 0 = .ok (.aload_n 0, 1) := by decide +kernel
theorem dX4_point_1 : decode cX4_point 1 = .ok (.getfield 30, 3) := by decide +kernel
theorem dX4_point_4 : decode cX4_point 4 = .ok (.iload_n 1, 1) := by decide +kernel
theorem dX4_point_5 : decode cX4_point 5 = .ok (.invokevirtual 106, 3) := by decide +kernel
theorem dX4_point_8 : decode cX4_point 8 = .ok (.ireturn, 1) := by decide +kernel
theorem dX4_raised_0 : decode cX4_raised 0 = .ok (.iload_n 1, 1) := by decide +kernel
theorem dX4_raised_1 : decode cX4_raised 1 = .ok (.ifCond .eq 13, 3) := by decide +kernel
theorem dX4_raised_4 : decode cX4_raised 4 = .ok (.aload_n 0, 1) := by decide +kernel
theorem dX4_raised_5 : decode cX4_raised 5 = .ok (.getfield 41, 3) := by decide +kernel
theorem dX4_raised_8 : decode cX4_raised 8 = .ok (.getfield 109, 3) := by decide +kernel
theorem dX4_raised_11 : decode cX4_raised 11 = .ok (.goto 10, 3) := by decide +kernel
theorem dX4_raised_14 : decode cX4_raised 14 = .ok (.aload_n 0, 1) := by decide +kernel
theorem dX4_raised_15 : decode cX4_raised 15 = .ok (.getfield 37, 3) := by decide +kernel
theorem dX4_raised_18 : decode cX4_raised 18 = .ok (.getfield 109, 3) := by decide +kernel
theorem dX4_raised_21 : decode cX4_raised 21 = .ok (.ireturn, 1) := by decide +kernel
set_option maxRecDepth 20000 in
theorem ggX4_same_X4_make : GoodIn wsX4_same wsX4_make := goodIn_r _ [10, 5, 11, 12, 13, 14, 15, 16, 17, 18, 19, 20, 21, 22, 23, 24, 25, 26, 27, 28, 29, 30, 31, 32, 33, 34, 35, 36, 37, 38, 39, 40, 41, 42, 43, 44, 45, 46, 47, 48, 49, 50, 51, 52, 53, 54, 55, 56, 57, 58, 59, 60, 61, 62, 63, 64, 65, 66, 67, 68, 69, 70, 71, 72, 73, 74, 75, 76, 77, 78, 79, 80, 81, 82, 231, 232, 233, 234, 235, 236, 237, 238, 239, 240, 241, 242, 243, 244, 245, 246, 247, 248, 249, 250, 251, 252, 253] (by decide +kernel) (by decide +kernel)
set_option maxRecDepth 20000 in
theorem gX4_same_X4_make : GoodIn wsX4_same (wsV RX4 70 RX4 yX4_make wsX4_make) := goodIn_app (goodIn_of _ (by decide +kernel)) ggX4_same_X4_make
set_option maxRecDepth 20000 in
theorem ggX4_same_X2_copyFrom : GoodIn wsX4_same wsX2_copyFrom := goodIn_r _ [87, 88, 89, 90, 91, 92, 254, 255, 256, 257] (by decide +kernel) (by decide +kernel)
set_option maxRecDepth 20000 in
theorem gX4_same_X2_copyFrom : GoodIn wsX4_same (wsV RX4 113 RX2 yX2_copyFrom wsX2_copyFrom) := goodIn_app (goodIn_of _ (by decide +kernel)) ggX4_same_X2_copyFrom
set_option maxRecDepth 20000 in
theorem ggX4_same_X3_walkAll : GoodIn wsX4_same wsX3_walkAll := goodIn_r _ [96, 97, 98, 99, 86, 100, 101, 102, 103, 104, 105, 21, 106, 107, 108, 109, 110, 111, 29, 19, 20, 22, 23, 112, 50, 51, 52, 53, 113, 55, 56, 57, 58, 114, 35, 36, 37, 38, 115, 40, 41, 42, 43, 116, 45, 46, 47, 48, 117, 118, 119, 120, 121, 88, 122, 123, 124, 125, 126, 127, 128, 129, 130, 131, 132, 133, 134, 135, 136, 137, 138, 139, 140, 141, 142, 143, 144, 145, 146, 147, 148, 149, 150, 151, 152, 153, 154, 155, 156, 157, 158, 159, 160, 161, 162, 163, 164, 165, 166, 167, 168, 169, 170, 171, 172, 173, 174, 175, 176, 177, 178, 179, 180, 181, 182, 183, 184, 185, 186, 187, 188, 9, 189, 254, 255, 256, 257, 245, 246, 247, 248, 249, 250, 251, 252, 253, 258, 259, 260, 261] (by decide +kernel) (by decide +kernel)
set_option maxRecDepth 20000 in
theorem gX4_same_X3_walkAll : GoodIn wsX4_same (wsV RX4 85 RX3 yX3_walkAll wsX3_walkAll) := goodIn_app (goodIn_of _ (by decide +kernel)) ggX4_same_X3_walkAll
set_option maxRecDepth 20000 in
theorem ggX4_same_X1_stepAll : GoodIn wsX4_same wsX1_stepAll := goodIn_r _ [193, 194, 195, 196, 98, 99, 86, 100, 101, 102, 70, 71, 72, 14, 73, 17, 197, 198, 199, 200, 201, 202, 203, 204, 63, 205, 206, 207, 208, 64, 209, 210, 211, 212, 213, 214, 215, 118, 119, 120, 121, 88, 122, 123, 124, 125, 126, 127, 128, 129, 130, 131, 132, 133, 134, 135, 136, 137, 138, 139, 140, 141, 142, 143, 144, 145, 146, 147, 148, 149, 150, 151, 152, 153, 154, 155, 156, 216, 217, 218, 219, 220, 158, 159, 160, 161, 162, 163, 164, 165, 166, 167, 168, 169, 170, 171, 172, 173, 174, 175, 176, 177, 178, 179, 180, 181, 182, 221, 222, 223, 224, 225, 226, 185, 186, 187, 188, 9, 189, 238, 239, 240, 241, 242, 243, 244, 254, 255, 256, 257, 258, 259, 260, 261] (by decide +kernel) (by decide +kernel)
set_option maxRecDepth 20000 in
theorem gX4_same_X1_stepAll : GoodIn wsX4_same (wsV RX4 73 RX1 yX1_stepAll wsX1_stepAll) := goodIn_app (goodIn_of _ (by decide +kernel)) ggX4_same_X1_stepAll
set_option maxRecDepth 20000 in
theorem ggX4_same_X2_isLike : GoodIn wsX4_same wsX2_isLike := goodIn_r _ [230, 88, 101, 254, 255, 256, 257] (by decide +kernel) (by decide +kernel)
set_option maxRecDepth 20000 in
theorem gX4_same_X2_isLike : GoodIn wsX4_same (wsV RX4 116 RX2 yX2_isLike wsX2_isLike) := goodIn_app (goodIn_of _ (by decide +kernel)) ggX4_same_X2_isLike
theorem dX4_same_0 : decode cX4_same 0 = .ok (.aload_n 0, 1) := by decide +kernel
theorem dX4_same_1 : decode cX4_same 1 = .ok (.iload_n 1, 1) := by decide +kernel
theorem dX4_same_2 : decode cX4_same 2 = .ok (.invokevirtual 70, 3) := by decide +kernel
theorem dX4_same_5 : decode cX4_same 5 = .ok (.ifCond .ge 5, 3) := by decide +kernel
theorem dX4_same_8 : decode cX4_same 8 = .ok (.iconst 0, 1) := by decide +kernel
theorem dX4_same_9 : decode cX4_same 9 = .ok (.ireturn, 1) := by decide +kernel
theorem dX4_same_10 : decode cX4_same 10 = .ok (.aload_n 0, 1) := by decide +kernel
theorem dX4_same_11 : decode cX4_same 11 = .ok (.getfield 44, 3) := by decide +kernel
theorem dX4_same_14 : decode cX4_same 14 = .ok (.aload_n 0, 1) := by decide +kernel
theorem dX4_same_15 : decode cX4_same 15 = .ok (.getfield 37, 3) := by decide +kernel
theorem dX4_same_18 : decode cX4_same 18 = .ok (.invokevirtual 113, 3) := by decide +kernel
theorem dX4_same_21 : decode cX4_same 21 = .ok (.aload_n 0, 1) := by decide +kernel
theorem dX4_same_22 : decode cX4_same 22 = .ok (.getfield 47, 3) := by decide +kernel
theorem dX4_same_25 : decode cX4_same 25 = .ok (.aload_n 0, 1) := by decide +kernel
theorem dX4_same_26 : decode cX4_same 26 = .ok (.getfield 37, 3) := by decide +kernel
theorem dX4_same_29 : decode cX4_same 29 = .ok (.invokevirtual 113, 3) := by decide +kernel
theorem dX4_same_32 : decode cX4_same 32 = .ok (.aload_n 0, 1) := by decide +kernel
theorem dX4_same_33 : decode cX4_same 33 = .ok (.getfield 21, 3) := by decide +kernel
theorem dX4_same_36 : decode cX4_same 36 = .ok (.aload_n 0, 1) := by decide +kernel
theorem dX4_same_37 : decode cX4_same 37 = .ok (.getfield 44, 3) := by decide +kernel
theorem dX4_same_40 : decode cX4_same 40 = .ok (.iload_n 1, 1) := by decide +kernel
theorem dX4_same_41 : decode cX4_same 41 = .ok (.invokevirtual 85, 3) := by decide +kernel
theorem dX4_same_44 : decode cX4_same 44 = .ok (.aload_n 0, 1) := by decide +kernel
theorem dX4_same_45 : decode cX4_same 45 = .ok (.getfield 30, 3) := by decide +kernel
theorem dX4_same_48 : decode cX4_same 48 = .ok (.aload_n 0, 1) := by decide +kernel
theorem dX4_same_49 : decode cX4_same 49 = .ok (.getfield 47, 3) := by decide +kernel
theorem dX4_same_52 : decode cX4_same 52 = .ok (.invokevirtual 73, 3) := by decide +kernel
theorem dX4_same_55 : decode cX4_same 55 = .ok (.aload_n 0, 1) := by decide +kernel
theorem dX4_same_56 : decode cX4_same 56 = .ok (.getfield 44, 3) := by decide +kernel
theorem dX4_same_59 : decode cX4_same 59 = .ok (.aload_n 0, 1) := by decide +kernel
theorem dX4_same_60 : decode cX4_same 60 = .ok (.getfield 47, 3) := by decide +kernel
theorem dX4_same_63 : decode cX4_same 63 = .ok (.invokevirtual 116, 3) := by decide +kernel
theorem dX4_same_66 : decode cX4_same 66 = .ok (.ireturn, 1) := by decide +kernel
theorem dX4_reckon_0 : decode cX4_reckon 0 = .ok (.iload_n 0, 1) := by decide +kernel
theorem dX4_reckon_1 : decode cX4_reckon 1 = .ok (.tableswitch 73 3 7 #[35, 39, 43, 47, 61], 35) := by decide +kernel
theorem dX4_reckon_36 : decode cX4_reckon 36 = .ok (.lload_n 1, 1) := by decide +kernel
theorem dX4_reckon_37 : decode cX4_reckon 37 = .ok (.lload_n 3, 1) := by decide +kernel
theorem dX4_reckon_38 : decode cX4_reckon 38 = .ok (.ladd, 1) := by decide +kernel
theorem dX4_reckon_39 : decode cX4_reckon 39 = .ok (.lreturn, 1) := by decide +kernel
theorem dX4_reckon_40 : decode cX4_reckon 40 = .ok (.lload_n 1, 1) := by decide +kernel
theorem dX4_reckon_41 : decode cX4_reckon 41 = .ok (.lload_n 3, 1) := by decide +kernel
theorem dX4_reckon_42 : decode cX4_reckon 42 = .ok (.lsub, 1) := by decide +kernel
theorem dX4_reckon_43 : decode cX4_reckon 43 = .ok (.lreturn, 1) := by decide +kernel
theorem dX4_reckon_44 : decode cX4_reckon 44 = .ok (.lload_n 1, 1) := by decide +kernel
theorem dX4_reckon_45 : decode cX4_reckon 45 = .ok (.lload_n 3, 1) := by decide +kernel
theorem dX4_reckon_46 : decode cX4_reckon 46 = .ok (.lmul, 1) := by decide +kernel
theorem dX4_reckon_47 : decode cX4_reckon 47 = .ok (.lreturn, 1) := by decide +kernel
theorem dX4_reckon_48 : decode cX4_reckon 48 = .ok (.lload_n 3, 1) := by decide +kernel
theorem dX4_reckon_49 : decode cX4_reckon 49 = .ok (.lconst 0, 1) := by decide +kernel
theorem dX4_reckon_50 : decode cX4_reckon 50 = .ok (.lcmp, 1) := by decide +kernel
theorem dX4_reckon_51 : decode cX4_reckon 51 = .ok (.ifCond .ne 7, 3) := by decide +kernel
theorem dX4_reckon_54 : decode cX4_reckon 54 = .ok (.lconst 0, 1) := by decide +kernel
theorem dX4_reckon_55 : decode cX4_reckon 55 = .ok (.goto 6, 3) := by decide +kernel
theorem dX4_reckon_58 : decode cX4_reckon 58 = .ok (.lload_n 1, 1) := by decide +kernel
theorem dX4_reckon_59 : decode cX4_reckon 59 = .ok (.lload_n 3, 1) := by decide +kernel
theorem dX4_reckon_60 : decode cX4_reckon 60 = .ok (.ldiv, 1) := by decide +kernel
theorem dX4_reckon_61 : decode cX4_reckon 61 = .ok (.lreturn, 1) := by decide +kernel
theorem dX4_reckon_62 : decode cX4_reckon 62 = .ok (.lload_n 1, 1) := by decide +kernel
theorem dX4_reckon_63 : decode cX4_reckon 63 = .ok (.lload_n 3, 1) := by decide +kernel
theorem dX4_reckon_64 : decode cX4_reckon 64 = .ok (.lcmp, 1) := by decide +kernel
theorem dX4_reckon_65 : decode cX4_reckon 65 = .ok (.ifCond .ge 7, 3) := by decide +kernel
theorem dX4_reckon_68 : decode cX4_reckon 68 = .ok (.lconst 1, 1) := by decide +kernel
theorem dX4_reckon_69 : decode cX4_reckon 69 = .ok (.goto 4, 3) := by decide +kernel
theorem dX4_reckon_72 : decode cX4_reckon 72 = .ok (.lconst 0, 1) := by decide +kernel
theorem dX4_reckon_73 : decode cX4_reckon 73 = .ok (.lreturn, 1) := by decide +kernel
theorem dX4_reckon_74 : decode cX4_reckon 74 = .ok (.lload_n 1, 1) := by decide +kernel
theorem dX4_reckon_75 : decode cX4_reckon 75 = .ok (.lload_n 3, 1) := by decide +kernel
theorem dX4_reckon_76 : decode cX4_reckon 76 = .ok (.lcmp, 1) := by decide +kernel
theorem dX4_reckon_77 : decode cX4_reckon 77 = .ok (.ifCond .ne 7, 3) := by decide +kernel
theorem dX4_reckon_80 : decode cX4_reckon 80 = .ok (.lconst 1, 1) := by decide +kernel
theorem dX4_reckon_81 : decode cX4_reckon 81 = .ok (.goto 4, 3) := by decide +kernel
theorem dX4_reckon_84 : decode cX4_reckon 84 = .ok (.lconst 0, 1) := by decide +kernel
theorem dX4_reckon_85 : decode cX4_reckon 85 = .ok (.lreturn, 1) := by decide +kernel
theorem dX4_isReckoned_0 : decode cX4_isReckoned 0 = .ok (.iload_n 0, 1) := by decide +kernel
theorem dX4_isReckoned_1 : decode cX4_isReckoned 1 = .ok (.iconst 3, 1) := by decide +kernel
theorem dX4_isReckoned_2 : decode cX4_isReckoned 2 = .ok (.if_icmp .lt 13, 3) := by decide +kernel
theorem dX4_isReckoned_5 : decode cX4_isReckoned 5 = .ok (.iload_n 0, 1) := by decide +kernel
theorem dX4_isReckoned_6 : decode cX4_isReckoned 6 = .ok (.bipush 8, 2) := by decide +kernel
theorem dX4_isReckoned_8 : decode cX4_isReckoned 8 = .ok (.if_icmp .gt 7, 3) := by decide +kernel
theorem dX4_isReckoned_11 : decode cX4_isReckoned 11 = .ok (.iconst 1, 1) := by decide +kernel
theorem dX4_isReckoned_12 : decode cX4_isReckoned 12 = .ok (.goto 4, 3) := by decide +kernel
theorem dX4_isReckoned_15 : decode cX4_isReckoned 15 = .ok (.iconst 0, 1) := by decide +kernel
theorem dX4_isReckoned_16 : decode cX4_isReckoned 16 = .ok (.ireturn, 1) := by decide +kernel
