theorem dX5_init_0 : decode cX5_init 0 = .ok (.aload_n 0, 1) := by decide +kernel
theorem dX5_init_1 : decode cX5_init 1 = .ok (.invokespecial 1, 3) := by decide +kernel
theorem dX5_init_4 : decode cX5_init 4 = .ok (.aload_n 0, 1) := by decide +kernel
theorem dX5_init_5 : decode cX5_init 5 = .ok (.sipush 128, 3) := by decide +kernel
theorem dX5_init_8 : decode cX5_init 8 = .ok (.newarray .byte, 2) := by decide +kernel
theorem dX5_init_10 : decode cX5_init 10 = .ok (.putfield 7, 3) := by decide +kernel
theorem dX5_init_13 : decode cX5_init 13 = .ok (.aload_n 0, 1) := by decide +kernel
theorem dX5_init_14 : decode cX5_init 14 = .ok (.bipush 40, 2) := by decide +kernel
theorem dX5_init_16 : decode cX5_init 16 = .ok (.newarray .int, 2) := by decide +kernel
theorem dX5_init_18 : decode cX5_init 18 = .ok (.putfield 13, 3) := by decide +kernel
theorem dX5_init_21 : decode cX5_init 21 = .ok (.aload_n 0, 1) := by decide +kernel
theorem dX5_init_22 : decode cX5_init 22 = .ok (.bipush 40, 2) := by decide +kernel
theorem dX5_init_24 : decode cX5_init 24 = .ok (.newarray .int, 2) := by decide +kernel
theorem dX5_init_26 : decode cX5_init 26 = .ok (.putfield 17, 3) := by decide +kernel
theorem dX5_init_29 : decode cX5_init 29 = .ok (.aload_n 0, 1) := by decide +kernel
theorem dX5_init_30 : decode cX5_init 30 = .ok (.bipush 40, 2) := by decide +kernel
theorem dX5_init_32 : decode cX5_init 32 = .ok (.newarray .int, 2) := by decide +kernel
theorem dX5_init_34 : decode cX5_init 34 = .ok (.putfield 20, 3) := by decide +kernel
theorem dX5_init_37 : decode cX5_init 37 = .ok (.aload_n 0, 1) := by decide +kernel
theorem dX5_init_38 : decode cX5_init 38 = .ok (.bipush 40, 2) := by decide +kernel
theorem dX5_init_40 : decode cX5_init 40 = .ok (.newarray .int, 2) := by decide +kernel
theorem dX5_init_42 : decode cX5_init 42 = .ok (.putfield 23, 3) := by decide +kernel
theorem dX5_init_45 : decode cX5_init 45 = .ok (.aload_n 0, 1) := by decide +kernel
theorem dX5_init_46 : decode cX5_init 46 = .ok (.sipush 201, 3) := by decide +kernel
theorem dX5_init_49 : decode cX5_init 49 = .ok (.newarray .int, 2) := by decide +kernel
theorem dX5_init_51 : decode cX5_init 51 = .ok (.putfield 26, 3) := by decide +kernel
theorem dX5_init_54 : decode cX5_init 54 = .ok (.aload_n 0, 1) := by decide +kernel
theorem dX5_init_55 : decode cX5_init 55 = .ok (.sipush 201, 3) := by decide +kernel
theorem dX5_init_58 : decode cX5_init 58 = .ok (.newarray .int, 2) := by decide +kernel
theorem dX5_init_60 : decode cX5_init 60 = .ok (.putfield 29, 3) := by decide +kernel
theorem dX5_init_63 : decode cX5_init 63 = .ok (.aload_n 0, 1) := by decide +kernel
theorem dX5_init_64 : decode cX5_init 64 = .ok (.sipush 201, 3) := by decide +kernel
theorem dX5_init_67 : decode cX5_init 67 = .ok (.newarray .int, 2) := by decide +kernel
theorem dX5_init_69 : decode cX5_init 69 = .ok (.putfield 32, 3) := by decide +kernel
theorem dX5_init_72 : decode cX5_init 72 = .ok (.aload_n 0, 1) := by decide +kernel
theorem dX5_init_73 : decode cX5_init 73 = .ok (.sipush 201, 3) := by decide +kernel
theorem dX5_init_76 : decode cX5_init 76 = .ok (.newarray .int, 2) := by decide +kernel
theorem dX5_init_78 : decode cX5_init 78 = .ok (.putfield 35, 3) := by decide +kernel
theorem dX5_init_81 : decode cX5_init 81 = .ok (.aload_n 0, 1) := by decide +kernel
theorem dX5_init_82 : decode cX5_init 82 = .ok (.sipush 201, 3) := by decide +kernel
theorem dX5_init_85 : decode cX5_init 85 = .ok (.newarray .boolean, 2) := by decide +kernel
theorem dX5_init_87 : decode cX5_init 87 = .ok (.putfield 38, 3) := by decide +kernel
theorem dX5_init_90 : decode cX5_init 90 = .ok (.aload_n 0, 1) := by decide +kernel
theorem dX5_init_91 : decode cX5_init 91 = .ok (.sipush 201, 3) := by decide +kernel
theorem dX5_init_94 : decode cX5_init 94 = .ok (.newarray .long, 2) := by decide +kernel
theorem dX5_init_96 : decode cX5_init 96 = .ok (.putfield 42, 3) := by decide +kernel
theorem dX5_init_99 : decode cX5_init 99 = .ok (.aload_n 0, 1) := by decide +kernel
theorem dX5_init_100 : decode cX5_init 100 = .ok (.sipush 401, 3) := by decide +kernel
theorem dX5_init_103 : decode cX5_init 103 = .ok (.newarray .int, 2) := by decide +kernel
theorem dX5_init_105 : decode cX5_init 105 = .ok (.putfield 46, 3) := by decide +kernel
theorem dX5_init_108 : decode cX5_init 108 = .ok (.aload_n 0, 1) := by decide +kernel
theorem dX5_init_109 : decode cX5_init 109 = .ok (.sipush 401, 3) := by decide +kernel
theorem dX5_init_112 : decode cX5_init 112 = .ok (.newarray .int, 2) := by decide +kernel
theorem dX5_init_114 : decode cX5_init 114 = .ok (.putfield 49, 3) := by decide +kernel
theorem dX5_init_117 : decode cX5_init 117 = .ok (.aload_n 0, 1) := by decide +kernel
theorem dX5_init_118 : decode cX5_init 118 = .ok (.sipush 401, 3) := by decide +kernel
theorem dX5_init_121 : decode cX5_init 121 = .ok (.newarray .int, 2) := by decide +kernel
theorem dX5_init_123 : decode cX5_init 123 = .ok (.putfield 52, 3) := by decide +kernel
theorem dX5_init_126 : decode cX5_init 126 = .ok (.aload_n 0, 1) := by decide +kernel
theorem dX5_init_127 : decode cX5_init 127 = .ok (.sipush 401, 3) := by decide +kernel
theorem dX5_init_130 : decode cX5_init 130 = .ok (.newarray .int, 2) := by decide +kernel
theorem dX5_init_132 : decode cX5_init 132 = .ok (.putfield 55, 3) := by decide +kernel
theorem dX5_init_135 : decode cX5_init 135 = .ok (.aload_n 0, 1) := by decide +kernel
theorem dX5_init_136 : decode cX5_init 136 = .ok (.sipush 401, 3) := by decide +kernel
theorem dX5_init_139 : decode cX5_init 139 = .ok (.newarray .long, 2) := by decide +kernel
theorem dX5_init_141 : decode cX5_init 141 = .ok (.putfield 58, 3) := by decide +kernel
theorem dX5_init_144 : decode cX5_init 144 = .ok (.aload_n 0, 1) := by decide +kernel
theorem dX5_init_145 : decode cX5_init 145 = .ok (.sipush 401, 3) := by decide +kernel
theorem dX5_init_148 : decode cX5_init 148 = .ok (.newarray .long, 2) := by decide +kernel
theorem dX5_init_150 : decode cX5_init 150 = .ok (.putfield 61, 3) := by decide +kernel
theorem dX5_init_153 : decode cX5_init 153 = .ok (.aload_n 0, 1) := by decide +kernel
theorem dX5_init_154 : decode cX5_init 154 = .ok (.sipush 3000, 3) := by decide +kernel
theorem dX5_init_157 : decode cX5_init 157 = .ok (.newarray .int, 2) := by decide +kernel
theorem dX5_init_159 : decode cX5_init 159 = .ok (.putfield 64, 3) := by decide +kernel
theorem dX5_init_162 : decode cX5_init 162 = .ok (.aload_n 0, 1) := by decide +kernel
theorem dX5_init_163 : decode cX5_init 163 = .ok (.sipush 3000, 3) := by decide +kernel
theorem dX5_init_166 : decode cX5_init 166 = .ok (.newarray .int, 2) := by decide +kernel
theorem dX5_init_168 : decode cX5_init 168 = .ok (.putfield 67, 3) := by decide +kernel
theorem dX5_init_171 : decode cX5_init 171 = .ok (.aload_n 0, 1) := by decide +kernel
theorem dX5_init_172 : decode cX5_init 172 = .ok (.sipush 3000, 3) := by decide +kernel
theorem dX5_init_175 : decode cX5_init 175 = .ok (.newarray .int, 2) := by decide +kernel
theorem dX5_init_177 : decode cX5_init 177 = .ok (.putfield 70, 3) := by decide +kernel
theorem dX5_init_180 : decode cX5_init 180 = .ok (.aload_n 0, 1) := by decide +kernel
theorem dX5_init_181 : decode cX5_init 181 = .ok (.sipush 500, 3) := by decide +kernel
theorem dX5_init_184 : decode cX5_init 184 = .ok (.newarray .int, 2) := by decide +kernel
theorem dX5_init_186 : decode cX5_init 186 = .ok (.putfield 73, 3) := by decide +kernel
theorem dX5_init_189 : decode cX5_init 189 = .ok (.aload_n 0, 1) := by decide +kernel
theorem dX5_init_190 : decode cX5_init 190 = .ok (.sipush 3000, 3) := by decide +kernel
theorem dX5_init_193 : decode cX5_init 193 = .ok (.newarray .long, 2) := by decide +kernel
theorem dX5_init_195 : decode cX5_init 195 = .ok (.putfield 76, 3) := by decide +kernel
theorem dX5_init_198 : decode cX5_init 198 = .ok (.aload_n 0, 1) := by decide +kernel
theorem dX5_init_199 : decode cX5_init 199 = .ok (.sipush 500, 3) := by decide +kernel
theorem dX5_init_202 : decode cX5_init 202 = .ok (.newarray .long, 2) := by decide +kernel
theorem dX5_init_204 : decode cX5_init 204 = .ok (.putfield 79, 3) := by decide +kernel
theorem dX5_init_207 : decode cX5_init 207 = .ok (.aload_n 0, 1) := by decide +kernel
theorem dX5_init_208 : decode cX5_init 208 = .ok (.sipush 500, 3) := by decide +kernel
theorem dX5_init_211 : decode cX5_init 211 = .ok (.newarray .long, 2) := by decide +kernel
theorem dX5_init_213 : decode cX5_init 213 = .ok (.putfield 82, 3) := by decide +kernel
theorem dX5_init_216 : decode cX5_init 216 = .ok (.return_, 1) := by decide +kernel
theorem dX5_thrown_0 : decode cX5_thrown 0 = .ok (.aload_n 0, 1) := by decide +kernel
theorem dX5_thrown_1 : decode cX5_thrown 1 = .ok (.getfield 85, 3) := by decide +kernel
theorem dX5_thrown_4 : decode cX5_thrown 4 = .ok (.ireturn, 1) := by decide +kernel
theorem dX5_cell_0 : decode cX5_cell 0 = .ok (.aload_n 0, 1) := by decide +kernel
theorem dX5_cell_1 : decode cX5_cell 1 = .ok (.iconst 0, 1) := by decide +kernel
theorem dX5_cell_2 : decode cX5_cell 2 = .ok (.putfield 85, 3) := by decide +kernel
theorem dX5_cell_5 : decode cX5_cell 5 = .ok (.iload_n 1, 1) := by decide +kernel
theorem dX5_cell_6 : decode cX5_cell 6 = .ok (.ifCond .lt 19, 3) := by decide +kernel
theorem dX5_cell_9 : decode cX5_cell 9 = .ok (.iload_n 1, 1) := by decide +kernel
theorem dX5_cell_10 : decode cX5_cell 10 = .ok (.iconst 2, 1) := by decide +kernel
theorem dX5_cell_11 : decode cX5_cell 11 = .ok (.if_icmp .gt 14, 3) := by decide +kernel
theorem dX5_cell_14 : decode cX5_cell 14 = .ok (.iload_n 2, 1) := by decide +kernel
theorem dX5_cell_15 : decode cX5_cell 15 = .ok (.iconst 1, 1) := by decide +kernel
theorem dX5_cell_16 : decode cX5_cell 16 = .ok (.if_icmp .lt 9, 3) := by decide +kernel
theorem dX5_cell_19 : decode cX5_cell 19 = .ok (.iload_n 2, 1) := by decide +kernel
theorem dX5_cell_20 : decode cX5_cell 20 = .ok (.bipush 9, 2) := by decide +kernel
theorem dX5_cell_22 : decode cX5_cell 22 = .ok (.if_icmp .le 6, 3) := by decide +kernel
theorem dX5_cell_25 : decode cX5_cell 25 = .ok (.bipush (-4), 2) := by decide +kernel
theorem dX5_cell_27 : decode cX5_cell 27 = .ok (.ireturn, 1) := by decide +kernel
theorem dX5_cell_28 : decode cX5_cell 28 = .ok (.iload_n 1, 1) := by decide +kernel
theorem dX5_cell_29 : decode cX5_cell 29 = .ok (.ifCond .ne 7, 3) := by decide +kernel
theorem dX5_cell_32 : decode cX5_cell 32 = .ok (.iload_n 2, 1) := by decide +kernel
theorem dX5_cell_33 : decode cX5_cell 33 = .ok (.goto 17, 3) := by decide +kernel
theorem dX5_cell_36 : decode cX5_cell 36 = .ok (.iload_n 1, 1) := by decide +kernel
theorem dX5_cell_37 : decode cX5_cell 37 = .ok (.iconst 1, 1) := by decide +kernel
theorem dX5_cell_38 : decode cX5_cell 38 = .ok (.if_icmp .ne 11, 3) := by decide +kernel
theorem dX5_cell_41 : decode cX5_cell 41 = .ok (.iload_n 2, 1) := by decide +kernel
theorem dX5_cell_42 : decode cX5_cell 42 = .ok (.iconst 2, 1) := by decide +kernel
theorem dX5_cell_43 : decode cX5_cell 43 = .ok (.idiv, 1) := by decide +kernel
theorem dX5_cell_44 : decode cX5_cell 44 = .ok (.iconst 1, 1) := by decide +kernel
theorem dX5_cell_45 : decode cX5_cell 45 = .ok (.iadd, 1) := by decide +kernel
theorem dX5_cell_46 : decode cX5_cell 46 = .ok (.goto 4, 3) := by decide +kernel
theorem dX5_cell_49 : decode cX5_cell 49 = .ok (.iconst 4, 1) := by decide +kernel
theorem dX5_cell_50 : decode cX5_cell 50 = .ok (.istore 4, 2) := by decide +kernel
theorem dX5_cell_52 : decode cX5_cell 52 = .ok (.iload_n 3, 1) := by decide +kernel
theorem dX5_cell_53 : decode cX5_cell 53 = .ok (.ifCond .lt 12, 3) := by decide +kernel
theorem dX5_cell_56 : decode cX5_cell 56 = .ok (.iload_n 3, 1) := by decide +kernel
theorem dX5_cell_57 : decode cX5_cell 57 = .ok (.bipush 64, 2) := by decide +kernel
theorem dX5_cell_59 : decode cX5_cell 59 = .ok (.iload 4, 2) := by decide +kernel
theorem dX5_cell_61 : decode cX5_cell 61 = .ok (.isub, 1) := by decide +kernel
theorem dX5_cell_62 : decode cX5_cell 62 = .ok (.if_icmp .le 6, 3) := by decide +kernel
theorem dX5_cell_65 : decode cX5_cell 65 = .ok (.bipush (-4), 2) := by decide +kernel
theorem dX5_cell_67 : decode cX5_cell 67 = .ok (.ireturn, 1) := by decide +kernel
theorem dX5_cell_68 : decode cX5_cell 68 = .ok (.aload_n 0, 1) := by decide +kernel
theorem dX5_cell_69 : decode cX5_cell 69 = .ok (.getfield 89, 3) := by decide +kernel
theorem dX5_cell_72 : decode cX5_cell 72 = .ok (.bipush 40, 2) := by decide +kernel
theorem dX5_cell_74 : decode cX5_cell 74 = .ok (.if_icmp .ne 5, 3) := by decide +kernel
theorem dX5_cell_77 : decode cX5_cell 77 = .ok (.iconst (-1), 1) := by decide +kernel
theorem dX5_cell_78 : decode cX5_cell 78 = .ok (.ireturn, 1) := by decide +kernel
theorem dX5_cell_79 : decode cX5_cell 79 = .ok (.aload_n 0, 1) := by decide +kernel
theorem dX5_cell_80 : decode cX5_cell 80 = .ok (.getfield 13, 3) := by decide +kernel
theorem dX5_cell_83 : decode cX5_cell 83 = .ok (.aload_n 0, 1) := by decide +kernel
theorem dX5_cell_84 : decode cX5_cell 84 = .ok (.getfield 89, 3) := by decide +kernel
theorem dX5_cell_87 : decode cX5_cell 87 = .ok (.iload_n 1, 1) := by decide +kernel
theorem dX5_cell_88 : decode cX5_cell 88 = .ok (.iastore, 1) := by decide +kernel
theorem dX5_cell_89 : decode cX5_cell 89 = .ok (.aload_n 0, 1) := by decide +kernel
theorem dX5_cell_90 : decode cX5_cell 90 = .ok (.getfield 17, 3) := by decide +kernel
theorem dX5_cell_93 : decode cX5_cell 93 = .ok (.aload_n 0, 1) := by decide +kernel
theorem dX5_cell_94 : decode cX5_cell 94 = .ok (.getfield 89, 3) := by decide +kernel
theorem dX5_cell_97 : decode cX5_cell 97 = .ok (.iload_n 2, 1) := by decide +kernel
theorem dX5_cell_98 : decode cX5_cell 98 = .ok (.iastore, 1) := by decide +kernel
theorem dX5_cell_99 : decode cX5_cell 99 = .ok (.aload_n 0, 1) := by decide +kernel
theorem dX5_cell_100 : decode cX5_cell 100 = .ok (.getfield 20, 3) := by decide +kernel
theorem dX5_cell_103 : decode cX5_cell 103 = .ok (.aload_n 0, 1) := by decide +kernel
theorem dX5_cell_104 : decode cX5_cell 104 = .ok (.getfield 89, 3) := by decide +kernel
theorem dX5_cell_107 : decode cX5_cell 107 = .ok (.iload 4, 2) := by decide +kernel
theorem dX5_cell_109 : decode cX5_cell 109 = .ok (.iastore, 1) := by decide +kernel
theorem dX5_cell_110 : decode cX5_cell 110 = .ok (.aload_n 0, 1) := by decide +kernel
theorem dX5_cell_111 : decode cX5_cell 111 = .ok (.getfield 23, 3) := by decide +kernel
theorem dX5_cell_114 : decode cX5_cell 114 = .ok (.aload_n 0, 1) := by decide +kernel
theorem dX5_cell_115 : decode cX5_cell 115 = .ok (.getfield 89, 3) := by decide +kernel
theorem dX5_cell_118 : decode cX5_cell 118 = .ok (.iload_n 3, 1) := by decide +kernel
theorem dX5_cell_119 : decode cX5_cell 119 = .ok (.iastore, 1) := by decide +kernel
theorem dX5_cell_120 : decode cX5_cell 120 = .ok (.aload_n 0, 1) := by decide +kernel
theorem dX5_cell_121 : decode cX5_cell 121 = .ok (.dup, 1) := by decide +kernel
theorem dX5_cell_122 : decode cX5_cell 122 = .ok (.getfield 89, 3) := by decide +kernel
theorem dX5_cell_125 : decode cX5_cell 125 = .ok (.iconst 1, 1) := by decide +kernel
theorem dX5_cell_126 : decode cX5_cell 126 = .ok (.iadd, 1) := by decide +kernel
theorem dX5_cell_127 : decode cX5_cell 127 = .ok (.putfield 89, 3) := by decide +kernel
theorem dX5_cell_130 : decode cX5_cell 130 = .ok (.aload_n 0, 1) := by decide +kernel
theorem dX5_cell_131 : decode cX5_cell 131 = .ok (.getfield 89, 3) := by decide +kernel
theorem dX5_cell_134 : decode cX5_cell 134 = .ok (.iconst 1, 1) := by decide +kernel
theorem dX5_cell_135 : decode cX5_cell 135 = .ok (.isub, 1) := by decide +kernel
theorem dX5_cell_136 : decode cX5_cell 136 = .ok (.ireturn, 1) := by decide +kernel
theorem dX5_ten_0 : decode cX5_ten 0 = .ok (.lconst 1, 1) := by decide +kernel
theorem dX5_ten_1 : decode cX5_ten 1 = .ok (.lstore_n 1, 1) := by decide +kernel
theorem dX5_ten_2 : decode cX5_ten 2 = .ok (.iconst 0, 1) := by decide +kernel
theorem dX5_ten_3 : decode cX5_ten 3 = .ok (.istore_n 3, 1) := by decide +kernel
theorem dX5_ten_4 : decode cX5_ten 4 = .ok (.iload_n 3, 1) := by decide +kernel
theorem dX5_ten_5 : decode cX5_ten 5 = .ok (.iload_n 0, 1) := by decide +kernel
theorem dX5_ten_6 : decode cX5_ten 6 = .ok (.if_icmp .ge 15, 3) := by decide +kernel
theorem dX5_ten_9 : decode cX5_ten 9 = .ok (.lload_n 1, 1) := by decide +kernel
theorem dX5_ten_10 : decode cX5_ten 10 = .ok (.ldc2_w 92, 3) := by decide +kernel
theorem dX5_ten_13 : decode cX5_ten 13 = .ok (.lmul, 1) := by decide +kernel
theorem dX5_ten_14 : decode cX5_ten 14 = .ok (.lstore_n 1, 1) := by decide +kernel
theorem dX5_ten_15 : decode cX5_ten 15 = .ok (.iinc 3 1, 3) := by decide +kernel
theorem dX5_ten_18 : decode cX5_ten 18 = .ok (.goto (-14), 3) := by decide +kernel
theorem dX5_ten_21 : decode cX5_ten 21 = .ok (.lload_n 1, 1) := by decide +kernel
theorem dX5_ten_22 : decode cX5_ten 22 = .ok (.lreturn, 1) := by decide +kernel
theorem dX5_octet_0 : decode cX5_octet 0 = .ok (.aload_n 0, 1) := by decide +kernel
theorem dX5_octet_1 : decode cX5_octet 1 = .ok (.getfield 7, 3) := by decide +kernel
theorem dX5_octet_4 : decode cX5_octet 4 = .ok (.bipush 64, 2) := by decide +kernel
theorem dX5_octet_6 : decode cX5_octet 6 = .ok (.iload_n 1, 1) := by decide +kernel
theorem dX5_octet_7 : decode cX5_octet 7 = .ok (.imul, 1) := by decide +kernel
theorem dX5_octet_8 : decode cX5_octet 8 = .ok (.iload_n 2, 1) := by decide +kernel
theorem dX5_octet_9 : decode cX5_octet 9 = .ok (.iadd, 1) := by decide +kernel
theorem dX5_octet_10 : decode cX5_octet 10 = .ok (.baload, 1) := by decide +kernel
theorem dX5_octet_11 : decode cX5_octet 11 = .ok (.sipush 255, 3) := by decide +kernel
theorem dX5_octet_14 : decode cX5_octet 14 = .ok (.iand, 1) := by decide +kernel
theorem dX5_octet_15 : decode cX5_octet 15 = .ok (.ireturn, 1) := by decide +kernel
set_option maxRecDepth 20000 in
theorem ggX5_half_X5_octet : GoodIn wsX5_half wsX5_octet := goodIn_r _ [5, 6, 7, 8, 9, 10, 11, 12, 13, 14, 15, 16, 17, 18, 19, 20, 21, 22, 23, 24, 25, 26, 27, 28, 29, 30, 31, 32, 33, 34, 35, 36, 37, 38, 39] (by decide +kernel) (by decide +kernel)
set_option maxRecDepth 20000 in
theorem gX5_half_X5_octet : GoodIn wsX5_half (wsV RX5 94 RX5 yX5_octet wsX5_octet) := goodIn_app (goodIn_of _ (by decide +kernel)) ggX5_half_X5_octet
theorem dX5_half_0 : decode cX5_half 0 = .ok (.iload_n 3, 1) := by decide +kernel
theorem dX5_half_1 : decode cX5_half 1 = .ok (.iconst 2, 1) := by decide +kernel
theorem dX5_half_2 : decode cX5_half 2 = .ok (.irem, 1) := by decide +kernel
theorem dX5_half_3 : decode cX5_half 3 = .ok (.ifCond .ne 18, 3) := by decide +kernel
theorem dX5_half_6 : decode cX5_half 6 = .ok (.aload_n 0, 1) := by decide +kernel
theorem dX5_half_7 : decode cX5_half 7 = .ok (.iload_n 1, 1) := by decide +kernel
theorem dX5_half_8 : decode cX5_half 8 = .ok (.iload_n 2, 1) := by decide +kernel
theorem dX5_half_9 : decode cX5_half 9 = .ok (.iload_n 3, 1) := by decide +kernel
theorem dX5_half_10 : decode cX5_half 10 = .ok (.iconst 2, 1) := by decide +kernel
theorem dX5_half_11 : decode cX5_half 11 = .ok (.idiv, 1) := by decide +kernel
theorem dX5_half_12 : decode cX5_half 12 = .ok (.iadd, 1) := by decide +kernel
theorem dX5_half_13 : decode cX5_half 13 = .ok (.invokevirtual 94, 3) := by decide +kernel
theorem dX5_half_16 : decode cX5_half 16 = .ok (.iconst 4, 1) := by decide +kernel
theorem dX5_half_17 : decode cX5_half 17 = .ok (.ishr, 1) := by decide +kernel
theorem dX5_half_18 : decode cX5_half 18 = .ok (.goto 16, 3) := by decide +kernel
theorem dX5_half_21 : decode cX5_half 21 = .ok (.aload_n 0, 1) := by decide +kernel
theorem dX5_half_22 : decode cX5_half 22 = .ok (.iload_n 1, 1) := by decide +kernel
theorem dX5_half_23 : decode cX5_half 23 = .ok (.iload_n 2, 1) := by decide +kernel
theorem dX5_half_24 : decode cX5_half 24 = .ok (.iload_n 3, 1) := by decide +kernel
theorem dX5_half_25 : decode cX5_half 25 = .ok (.iconst 2, 1) := by decide +kernel
theorem dX5_half_26 : decode cX5_half 26 = .ok (.idiv, 1) := by decide +kernel
theorem dX5_half_27 : decode cX5_half 27 = .ok (.iadd, 1) := by decide +kernel
theorem dX5_half_28 : decode cX5_half 28 = .ok (.invokevirtual 94, 3) := by decide +kernel
theorem dX5_half_31 : decode cX5_half 31 = .ok (.bipush 15, 2) := by decide +kernel
theorem dX5_half_33 : decode cX5_half 33 = .ok (.iand, 1) := by decide +kernel
theorem dX5_half_34 : decode cX5_half 34 = .ok (.ireturn, 1) := by decide +kernel
set_option maxRecDepth 20000 in
theorem ggX5_read_X5_octet : GoodIn wsX5_read wsX5_octet := goodIn_r _ [9, 10, 15, 16, 17, 18, 19, 20, 21, 22, 23, 24, 25, 26, 27, 28, 29, 30, 31, 32, 33, 34, 35, 36, 37, 38, 39, 40, 41, 42, 43, 44, 45, 46, 47] (by decide +kernel) (by decide +kernel)
set_option maxRecDepth 20000 in
theorem gX5_read_X5_octet : GoodIn wsX5_read (wsV RX5 94 RX5 yX5_octet wsX5_octet) := goodIn_app (goodIn_of _ (by decide +kernel)) ggX5_read_X5_octet
set_option maxRecDepth 20000 in
theorem ggX5_read_X5_half : GoodIn wsX5_read wsX5_half := goodIn_r _ [14, 5, 6, 7, 8, 9, 10, 15, 16, 17, 18, 19, 20, 21, 22, 23, 24, 25, 26, 27, 28, 29, 30, 31, 32, 33, 34, 35, 36, 37, 38, 39, 40, 41, 42, 43, 44, 45, 46, 47] (by decide +kernel) (by decide +kernel)
set_option maxRecDepth 20000 in
theorem gX5_read_X5_half : GoodIn wsX5_read (wsV RX5 98 RX5 yX5_half wsX5_half) := goodIn_app (goodIn_of _ (by decide +kernel)) ggX5_read_X5_half
theorem dX5_read_0 : decode cX5_read 0 = .ok (.aload_n 0, 1) := by decide +kernel
theorem dX5_read_1 : decode cX5_read 1 = .ok (.getfield 17, 3) := by decide +kernel
theorem dX5_read_4 : decode cX5_read 4 = .ok (.iload_n 2, 1) := by decide +kernel
theorem dX5_read_5 : decode cX5_read 5 = .ok (.iaload, 1) := by decide +kernel
theorem dX5_read_6 : decode cX5_read 6 = .ok (.istore 4, 2) := by decide +kernel
theorem dX5_read_8 : decode cX5_read 8 = .ok (.lconst 0, 1) := by decide +kernel
theorem dX5_read_9 : decode cX5_read 9 = .ok (.lstore 5, 2) := by decide +kernel
theorem dX5_read_11 : decode cX5_read 11 = .ok (.aload_n 0, 1) := by decide +kernel
theorem dX5_read_12 : decode cX5_read 12 = .ok (.getfield 13, 3) := by decide +kernel
theorem dX5_read_15 : decode cX5_read 15 = .ok (.iload_n 2, 1) := by decide +kernel
theorem dX5_read_16 : decode cX5_read 16 = .ok (.iaload, 1) := by decide +kernel
theorem dX5_read_17 : decode cX5_read 17 = .ok (.iconst 2, 1) := by decide +kernel
theorem dX5_read_18 : decode cX5_read 18 = .ok (.if_icmp .ne 47, 3) := by decide +kernel
theorem dX5_read_21 : decode cX5_read 21 = .ok (.aload_n 0, 1) := by decide +kernel
theorem dX5_read_22 : decode cX5_read 22 = .ok (.iload_n 1, 1) := by decide +kernel
theorem dX5_read_23 : decode cX5_read 23 = .ok (.iload_n 3, 1) := by decide +kernel
theorem dX5_read_24 : decode cX5_read 24 = .ok (.invokevirtual 94, 3) := by decide +kernel
theorem dX5_read_27 : decode cX5_read 27 = .ok (.bipush 24, 2) := by decide +kernel
theorem dX5_read_29 : decode cX5_read 29 = .ok (.ishl, 1) := by decide +kernel
theorem dX5_read_30 : decode cX5_read 30 = .ok (.aload_n 0, 1) := by decide +kernel
theorem dX5_read_31 : decode cX5_read 31 = .ok (.iload_n 1, 1) := by decide +kernel
theorem dX5_read_32 : decode cX5_read 32 = .ok (.iload_n 3, 1) := by decide +kernel
theorem dX5_read_33 : decode cX5_read 33 = .ok (.iconst 1, 1) := by decide +kernel
theorem dX5_read_34 : decode cX5_read 34 = .ok (.iadd, 1) := by decide +kernel
theorem dX5_read_35 : decode cX5_read 35 = .ok (.invokevirtual 94, 3) := by decide +kernel
theorem dX5_read_38 : decode cX5_read 38 = .ok (.bipush 16, 2) := by decide +kernel
theorem dX5_read_40 : decode cX5_read 40 = .ok (.ishl, 1) := by decide +kernel
theorem dX5_read_41 : decode cX5_read 41 = .ok (.ior, 1) := by decide +kernel
theorem dX5_read_42 : decode cX5_read 42 = .ok (.aload_n 0, 1) := by decide +kernel
theorem dX5_read_43 : decode cX5_read 43 = .ok (.iload_n 1, 1) := by decide +kernel
theorem dX5_read_44 : decode cX5_read 44 = .ok (.iload_n 3, 1) := by decide +kernel
theorem dX5_read_45 : decode cX5_read 45 = .ok (.iconst 2, 1) := by decide +kernel
theorem dX5_read_46 : decode cX5_read 46 = .ok (.iadd, 1) := by decide +kernel
theorem dX5_read_47 : decode cX5_read 47 = .ok (.invokevirtual 94, 3) := by decide +kernel
theorem dX5_read_50 : decode cX5_read 50 = .ok (.bipush 8, 2) := by decide +kernel
theorem dX5_read_52 : decode cX5_read 52 = .ok (.ishl, 1) := by decide +kernel
theorem dX5_read_53 : decode cX5_read 53 = .ok (.ior, 1) := by decide +kernel
theorem dX5_read_54 : decode cX5_read 54 = .ok (.aload_n 0, 1) := by decide +kernel
theorem dX5_read_55 : decode cX5_read 55 = .ok (.iload_n 1, 1) := by decide +kernel
theorem dX5_read_56 : decode cX5_read 56 = .ok (.iload_n 3, 1) := by decide +kernel
theorem dX5_read_57 : decode cX5_read 57 = .ok (.iconst 3, 1) := by decide +kernel
theorem dX5_read_58 : decode cX5_read 58 = .ok (.iadd, 1) := by decide +kernel
theorem dX5_read_59 : decode cX5_read 59 = .ok (.invokevirtual 94, 3) := by decide +kernel
theorem dX5_read_62 : decode cX5_read 62 = .ok (.ior, 1) := by decide +kernel
theorem dX5_read_63 : decode cX5_read 63 = .ok (.i2l, 1) := by decide +kernel
theorem dX5_read_64 : decode cX5_read 64 = .ok (.lreturn, 1) := by decide +kernel
theorem dX5_read_65 : decode cX5_read 65 = .ok (.aload_n 0, 1) := by decide +kernel
theorem dX5_read_66 : decode cX5_read 66 = .ok (.getfield 13, 3) := by decide +kernel
theorem dX5_read_69 : decode cX5_read 69 = .ok (.iload_n 2, 1) := by decide +kernel
theorem dX5_read_70 : decode cX5_read 70 = .ok (.iaload, 1) := by decide +kernel
theorem dX5_read_71 : decode cX5_read 71 = .ok (.ifCond .ne 71, 3) := by decide +kernel
theorem dX5_read_74 : decode cX5_read 74 = .ok (.iconst 0, 1) := by decide +kernel
theorem dX5_read_75 : decode cX5_read 75 = .ok (.istore 7, 2) := by decide +kernel
theorem dX5_read_77 : decode cX5_read 77 = .ok (.iload 7, 2) := by decide +kernel
theorem dX5_read_79 : decode cX5_read 79 = .ok (.iload 4, 2) := by decide +kernel
theorem dX5_read_81 : decode cX5_read 81 = .ok (.if_icmp .ge 34, 3) := by decide +kernel
theorem dX5_read_84 : decode cX5_read 84 = .ok (.ldc2_w 92, 3) := by decide +kernel
theorem dX5_read_87 : decode cX5_read 87 = .ok (.lload 5, 2) := by decide +kernel
theorem dX5_read_89 : decode cX5_read 89 = .ok (.lmul, 1) := by decide +kernel
theorem dX5_read_90 : decode cX5_read 90 = .ok (.aload_n 0, 1) := by decide +kernel
theorem dX5_read_91 : decode cX5_read 91 = .ok (.iload_n 1, 1) := by decide +kernel
theorem dX5_read_92 : decode cX5_read 92 = .ok (.iload_n 3, 1) := by decide +kernel
theorem dX5_read_93 : decode cX5_read 93 = .ok (.iload 7, 2) := by decide +kernel
theorem dX5_read_95 : decode cX5_read 95 = .ok (.iadd, 1) := by decide +kernel
theorem dX5_read_96 : decode cX5_read 96 = .ok (.invokevirtual 94, 3) := by decide +kernel
theorem dX5_read_99 : decode cX5_read 99 = .ok (.bipush 15, 2) := by decide +kernel
theorem dX5_read_101 : decode cX5_read 101 = .ok (.iand, 1) := by decide +kernel
theorem dX5_read_102 : decode cX5_read 102 = .ok (.bipush 10, 2) := by decide +kernel
theorem dX5_read_104 : decode cX5_read 104 = .ok (.irem, 1) := by decide +kernel
theorem dX5_read_105 : decode cX5_read 105 = .ok (.i2l, 1) := by decide +kernel
theorem dX5_read_106 : decode cX5_read 106 = .ok (.ladd, 1) := by decide +kernel
theorem dX5_read_107 : decode cX5_read 107 = .ok (.lstore 5, 2) := by decide +kernel
theorem dX5_read_109 : decode cX5_read 109 = .ok (.iinc 7 1, 3) := by decide +kernel
theorem dX5_read_112 : decode cX5_read 112 = .ok (.goto (-35), 3) := by decide +kernel
theorem dX5_read_115 : decode cX5_read 115 = .ok (.aload_n 0, 1) := by decide +kernel
theorem dX5_read_116 : decode cX5_read 116 = .ok (.iload_n 1, 1) := by decide +kernel
theorem dX5_read_117 : decode cX5_read 117 = .ok (.iload_n 3, 1) := by decide +kernel
theorem dX5_read_118 : decode cX5_read 118 = .ok (.iload 4, 2) := by decide +kernel
theorem dX5_read_120 : decode cX5_read 120 = .ok (.iadd, 1) := by decide +kernel
theorem dX5_read_121 : decode cX5_read 121 = .ok (.iconst 1, 1) := by decide +kernel
theorem dX5_read_122 : decode cX5_read 122 = .ok (.isub, 1) := by decide +kernel
theorem dX5_read_123 : decode cX5_read 123 = .ok (.invokevirtual 94, 3) := by decide +kernel
theorem dX5_read_126 : decode cX5_read 126 = .ok (.bipush 64, 2) := by decide +kernel
theorem dX5_read_128 : decode cX5_read 128 = .ok (.iand, 1) := by decide +kernel
theorem dX5_read_129 : decode cX5_read 129 = .ok (.ifCond .eq 10, 3) := by decide +kernel
theorem dX5_read_132 : decode cX5_read 132 = .ok (.lconst 0, 1) := by decide +kernel
theorem dX5_read_133 : decode cX5_read 133 = .ok (.lload 5, 2) := by decide +kernel
theorem dX5_read_135 : decode cX5_read 135 = .ok (.lsub, 1) := by decide +kernel
theorem dX5_read_136 : decode cX5_read 136 = .ok (.goto 5, 3) := by decide +kernel
theorem dX5_read_139 : decode cX5_read 139 = .ok (.lload 5, 2) := by decide +kernel
theorem dX5_read_141 : decode cX5_read 141 = .ok (.lreturn, 1) := by decide +kernel
theorem dX5_read_142 : decode cX5_read 142 = .ok (.iconst 2, 1) := by decide +kernel
theorem dX5_read_143 : decode cX5_read 143 = .ok (.aload_n 0, 1) := by decide +kernel
theorem dX5_read_144 : decode cX5_read 144 = .ok (.getfield 20, 3) := by decide +kernel
theorem dX5_read_147 : decode cX5_read 147 = .ok (.iload_n 2, 1) := by decide +kernel
theorem dX5_read_148 : decode cX5_read 148 = .ok (.iaload, 1) := by decide +kernel
theorem dX5_read_149 : decode cX5_read 149 = .ok (.imul, 1) := by decide +kernel
theorem dX5_read_150 : decode cX5_read 150 = .ok (.iconst 1, 1) := by decide +kernel
theorem dX5_read_151 : decode cX5_read 151 = .ok (.isub, 1) := by decide +kernel
theorem dX5_read_152 : decode cX5_read 152 = .ok (.istore 7, 2) := by decide +kernel
theorem dX5_read_154 : decode cX5_read 154 = .ok (.iload 7, 2) := by decide +kernel
theorem dX5_read_156 : decode cX5_read 156 = .ok (.iload 4, 2) := by decide +kernel
theorem dX5_read_158 : decode cX5_read 158 = .ok (.isub, 1) := by decide +kernel
theorem dX5_read_159 : decode cX5_read 159 = .ok (.istore 8, 2) := by decide +kernel
theorem dX5_read_161 : decode cX5_read 161 = .ok (.iload 8, 2) := by decide +kernel
theorem dX5_read_163 : decode cX5_read 163 = .ok (.iload 7, 2) := by decide +kernel
theorem dX5_read_165 : decode cX5_read 165 = .ok (.if_icmp .ge 30, 3) := by decide +kernel
theorem dX5_read_168 : decode cX5_read 168 = .ok (.ldc2_w 92, 3) := by decide +kernel
theorem dX5_read_171 : decode cX5_read 171 = .ok (.lload 5, 2) := by decide +kernel
theorem dX5_read_173 : decode cX5_read 173 = .ok (.lmul, 1) := by decide +kernel
theorem dX5_read_174 : decode cX5_read 174 = .ok (.aload_n 0, 1) := by decide +kernel
theorem dX5_read_175 : decode cX5_read 175 = .ok (.iload_n 1, 1) := by decide +kernel
theorem dX5_read_176 : decode cX5_read 176 = .ok (.iload_n 3, 1) := by decide +kernel
theorem dX5_read_177 : decode cX5_read 177 = .ok (.iload 8, 2) := by decide +kernel
theorem dX5_read_179 : decode cX5_read 179 = .ok (.invokevirtual 98, 3) := by decide +kernel
theorem dX5_read_182 : decode cX5_read 182 = .ok (.bipush 10, 2) := by decide +kernel
theorem dX5_read_184 : decode cX5_read 184 = .ok (.irem, 1) := by decide +kernel
theorem dX5_read_185 : decode cX5_read 185 = .ok (.i2l, 1) := by decide +kernel
theorem dX5_read_186 : decode cX5_read 186 = .ok (.ladd, 1) := by decide +kernel
theorem dX5_read_187 : decode cX5_read 187 = .ok (.lstore 5, 2) := by decide +kernel
theorem dX5_read_189 : decode cX5_read 189 = .ok (.iinc 8 1, 3) := by decide +kernel
theorem dX5_read_192 : decode cX5_read 192 = .ok (.goto (-31), 3) := by decide +kernel
theorem dX5_read_195 : decode cX5_read 195 = .ok (.aload_n 0, 1) := by decide +kernel
theorem dX5_read_196 : decode cX5_read 196 = .ok (.iload_n 1, 1) := by decide +kernel
theorem dX5_read_197 : decode cX5_read 197 = .ok (.iload_n 3, 1) := by decide +kernel
theorem dX5_read_198 : decode cX5_read 198 = .ok (.iload 7, 2) := by decide +kernel
theorem dX5_read_200 : decode cX5_read 200 = .ok (.invokevirtual 98, 3) := by decide +kernel
theorem dX5_read_203 : decode cX5_read 203 = .ok (.bipush 13, 2) := by decide +kernel
theorem dX5_read_205 : decode cX5_read 205 = .ok (.if_icmp .ne 10, 3) := by decide +kernel
theorem dX5_read_208 : decode cX5_read 208 = .ok (.lconst 0, 1) := by decide +kernel
theorem dX5_read_209 : decode cX5_read 209 = .ok (.lload 5, 2) := by decide +kernel
theorem dX5_read_211 : decode cX5_read 211 = .ok (.lsub, 1) := by decide +kernel
theorem dX5_read_212 : decode cX5_read 212 = .ok (.goto 5, 3) := by decide +kernel
theorem dX5_read_215 : decode cX5_read 215 = .ok (.lload 5, 2) := by decide +kernel
theorem dX5_read_217 : decode cX5_read 217 = .ok (.lreturn, 1) := by decide +kernel
theorem dX5_lay_0 : decode cX5_lay 0 = .ok (.aload_n 0, 1) := by decide +kernel
theorem dX5_lay_1 : decode cX5_lay 1 = .ok (.getfield 7, 3) := by decide +kernel
theorem dX5_lay_4 : decode cX5_lay 4 = .ok (.bipush 64, 2) := by decide +kernel
theorem dX5_lay_6 : decode cX5_lay 6 = .ok (.iload_n 1, 1) := by decide +kernel
theorem dX5_lay_7 : decode cX5_lay 7 = .ok (.imul, 1) := by decide +kernel
theorem dX5_lay_8 : decode cX5_lay 8 = .ok (.iload_n 2, 1) := by decide +kernel
theorem dX5_lay_9 : decode cX5_lay 9 = .ok (.iadd, 1) := by decide +kernel
theorem dX5_lay_10 : decode cX5_lay 10 = .ok (.iload_n 3, 1) := by decide +kernel
theorem dX5_lay_11 : decode cX5_lay 11 = .ok (.i2b, 1) := by decide +kernel
theorem dX5_lay_12 : decode cX5_lay 12 = .ok (.bastore, 1) := by decide +kernel
theorem dX5_lay_13 : decode cX5_lay 13 = .ok (.return_, 1) := by decide +kernel
set_option maxRecDepth 20000 in
theorem ggX5_store_X5_ten : GoodIn wsX5_store wsX5_ten := goodIn_r _ [12, 3] (by decide +kernel) (by decide +kernel)
set_option maxRecDepth 20000 in
theorem gX5_store_X5_ten : GoodIn wsX5_store (va_wsS RX5 102 yX5_ten wsX5_ten) := goodIn_app (goodIn_of _ (by decide +kernel)) ggX5_store_X5_ten
set_option maxRecDepth 20000 in
theorem ggX5_store_X5_lay : GoodIn wsX5_store wsX5_lay := goodIn_r _ [16, 17, 18, 19, 20, 21, 22, 23, 24, 25, 26, 27, 28, 29, 30, 31, 32, 33, 34, 35, 36, 37, 38, 39, 40, 41, 42, 43, 44, 45, 46, 47, 48, 49, 50] (by decide +kernel) (by decide +kernel)
set_option maxRecDepth 20000 in
theorem gX5_store_X5_lay : GoodIn wsX5_store (wsV RX5 106 RX5 yX5_lay wsX5_lay) := goodIn_app (goodIn_of _ (by decide +kernel)) ggX5_store_X5_lay
theorem dX5_store_0 : decode cX5_store 0 = .ok (.aload_n 0, 1) := by decide +kernel
theorem dX5_store_1 : decode cX5_store 1 = .ok (.getfield 17, 3) := by decide +kernel
theorem dX5_store_4 : decode cX5_store 4 = .ok (.iload_n 2, 1) := by decide +kernel
theorem dX5_store_5 : decode cX5_store 5 = .ok (.iaload, 1) := by decide +kernel
theorem dX5_store_6 : decode cX5_store 6 = .ok (.istore 6, 2) := by decide +kernel
theorem dX5_store_8 : decode cX5_store 8 = .ok (.lload 4, 2) := by decide +kernel
theorem dX5_store_10 : decode cX5_store 10 = .ok (.iload 6, 2) := by decide +kernel
theorem dX5_store_12 : decode cX5_store 12 = .ok (.invokestatic 102, 3) := by decide +kernel
theorem dX5_store_15 : decode cX5_store 15 = .ok (.lrem, 1) := by decide +kernel
theorem dX5_store_16 : decode cX5_store 16 = .ok (.lstore 7, 2) := by decide +kernel
theorem dX5_store_18 : decode cX5_store 18 = .ok (.lload 7, 2) := by decide +kernel
theorem dX5_store_20 : decode cX5_store 20 = .ok (.lconst 0, 1) := by decide +kernel
theorem dX5_store_21 : decode cX5_store 21 = .ok (.lcmp, 1) := by decide +kernel
theorem dX5_store_22 : decode cX5_store 22 = .ok (.ifCond .ge 10, 3) := by decide +kernel
theorem dX5_store_25 : decode cX5_store 25 = .ok (.lconst 0, 1) := by decide +kernel
theorem dX5_store_26 : decode cX5_store 26 = .ok (.lload 7, 2) := by decide +kernel
theorem dX5_store_28 : decode cX5_store 28 = .ok (.lsub, 1) := by decide +kernel
theorem dX5_store_29 : decode cX5_store 29 = .ok (.goto 5, 3) := by decide +kernel
theorem dX5_store_32 : decode cX5_store 32 = .ok (.lload 7, 2) := by decide +kernel
theorem dX5_store_34 : decode cX5_store 34 = .ok (.lstore 9, 2) := by decide +kernel
theorem dX5_store_36 : decode cX5_store 36 = .ok (.aload_n 0, 1) := by decide +kernel
theorem dX5_store_37 : decode cX5_store 37 = .ok (.getfield 13, 3) := by decide +kernel
theorem dX5_store_40 : decode cX5_store 40 = .ok (.iload_n 2, 1) := by decide +kernel
theorem dX5_store_41 : decode cX5_store 41 = .ok (.iaload, 1) := by decide +kernel
theorem dX5_store_42 : decode cX5_store 42 = .ok (.iconst 2, 1) := by decide +kernel
theorem dX5_store_43 : decode cX5_store 43 = .ok (.if_icmp .ne 42, 3) := by decide +kernel
theorem dX5_store_46 : decode cX5_store 46 = .ok (.iconst 0, 1) := by decide +kernel
theorem dX5_store_47 : decode cX5_store 47 = .ok (.istore 11, 2) := by decide +kernel
theorem dX5_store_49 : decode cX5_store 49 = .ok (.iload 11, 2) := by decide +kernel
theorem dX5_store_51 : decode cX5_store 51 = .ok (.iconst 4, 1) := by decide +kernel
theorem dX5_store_52 : decode cX5_store 52 = .ok (.if_icmp .ge 30, 3) := by decide +kernel
theorem dX5_store_55 : decode cX5_store 55 = .ok (.aload_n 0, 1) := by decide +kernel
theorem dX5_store_56 : decode cX5_store 56 = .ok (.iload_n 1, 1) := by decide +kernel
theorem dX5_store_57 : decode cX5_store 57 = .ok (.iload_n 3, 1) := by decide +kernel
theorem dX5_store_58 : decode cX5_store 58 = .ok (.iload 11, 2) := by decide +kernel
theorem dX5_store_60 : decode cX5_store 60 = .ok (.iadd, 1) := by decide +kernel
theorem dX5_store_61 : decode cX5_store 61 = .ok (.lload 7, 2) := by decide +kernel
theorem dX5_store_63 : decode cX5_store 63 = .ok (.bipush 24, 2) := by decide +kernel
theorem dX5_store_65 : decode cX5_store 65 = .ok (.bipush 8, 2) := by decide +kernel
theorem dX5_store_67 : decode cX5_store 67 = .ok (.iload 11, 2) := by decide +kernel
theorem dX5_store_69 : decode cX5_store 69 = .ok (.imul, 1) := by decide +kernel
theorem dX5_store_70 : decode cX5_store 70 = .ok (.isub, 1) := by decide +kernel
theorem dX5_store_71 : decode cX5_store 71 = .ok (.lshr, 1) := by decide +kernel
theorem dX5_store_72 : decode cX5_store 72 = .ok (.l2i, 1) := by decide +kernel
theorem dX5_store_73 : decode cX5_store 73 = .ok (.invokevirtual 106, 3) := by decide +kernel
theorem dX5_store_76 : decode cX5_store 76 = .ok (.iinc 11 1, 3) := by decide +kernel
theorem dX5_store_79 : decode cX5_store 79 = .ok (.goto (-30), 3) := by decide +kernel
theorem dX5_store_82 : decode cX5_store 82 = .ok (.goto 195, 3) := by decide +kernel
theorem dX5_store_85 : decode cX5_store 85 = .ok (.aload_n 0, 1) := by decide +kernel
theorem dX5_store_86 : decode cX5_store 86 = .ok (.getfield 13, 3) := by decide +kernel
theorem dX5_store_89 : decode cX5_store 89 = .ok (.iload_n 2, 1) := by decide +kernel
theorem dX5_store_90 : decode cX5_store 90 = .ok (.iaload, 1) := by decide +kernel
theorem dX5_store_91 : decode cX5_store 91 = .ok (.ifCond .ne 73, 3) := by decide +kernel
theorem dX5_store_94 : decode cX5_store 94 = .ok (.iload 6, 2) := by decide +kernel
theorem dX5_store_96 : decode cX5_store 96 = .ok (.iconst 1, 1) := by decide +kernel
theorem dX5_store_97 : decode cX5_store 97 = .ok (.isub, 1) := by decide +kernel
theorem dX5_store_98 : decode cX5_store 98 = .ok (.istore 11, 2) := by decide +kernel
theorem dX5_store_100 : decode cX5_store 100 = .ok (.iload 11, 2) := by decide +kernel
theorem dX5_store_102 : decode cX5_store 102 = .ok (.ifCond .lt 59, 3) := by decide +kernel
theorem dX5_store_105 : decode cX5_store 105 = .ok (.aload_n 0, 1) := by decide +kernel
theorem dX5_store_106 : decode cX5_store 106 = .ok (.iload_n 1, 1) := by decide +kernel
theorem dX5_store_107 : decode cX5_store 107 = .ok (.iload_n 3, 1) := by decide +kernel
theorem dX5_store_108 : decode cX5_store 108 = .ok (.iload 11, 2) := by decide +kernel
theorem dX5_store_110 : decode cX5_store 110 = .ok (.iadd, 1) := by decide +kernel
theorem dX5_store_111 : decode cX5_store 111 = .ok (.bipush 48, 2) := by decide +kernel
theorem dX5_store_113 : decode cX5_store 113 = .ok (.lload 9, 2) := by decide +kernel
theorem dX5_store_115 : decode cX5_store 115 = .ok (.ldc2_w 92, 3) := by decide +kernel
theorem dX5_store_118 : decode cX5_store 118 = .ok (.lrem, 1) := by decide +kernel
theorem dX5_store_119 : decode cX5_store 119 = .ok (.l2i, 1) := by decide +kernel
theorem dX5_store_120 : decode cX5_store 120 = .ok (.iadd, 1) := by decide +kernel
theorem dX5_store_121 : decode cX5_store 121 = .ok (.iload 11, 2) := by decide +kernel
theorem dX5_store_123 : decode cX5_store 123 = .ok (.iload 6, 2) := by decide +kernel
theorem dX5_store_125 : decode cX5_store 125 = .ok (.iconst 1, 1) := by decide +kernel
theorem dX5_store_126 : decode cX5_store 126 = .ok (.isub, 1) := by decide +kernel
theorem dX5_store_127 : decode cX5_store 127 = .ok (.if_icmp .ne 15, 3) := by decide +kernel
theorem dX5_store_130 : decode cX5_store 130 = .ok (.lload 7, 2) := by decide +kernel
theorem dX5_store_132 : decode cX5_store 132 = .ok (.lconst 0, 1) := by decide +kernel
theorem dX5_store_133 : decode cX5_store 133 = .ok (.lcmp, 1) := by decide +kernel
theorem dX5_store_134 : decode cX5_store 134 = .ok (.ifCond .ge 8, 3) := by decide +kernel
theorem dX5_store_137 : decode cX5_store 137 = .ok (.bipush 64, 2) := by decide +kernel
theorem dX5_store_139 : decode cX5_store 139 = .ok (.goto 4, 3) := by decide +kernel
theorem dX5_store_142 : decode cX5_store 142 = .ok (.iconst 0, 1) := by decide +kernel
theorem dX5_store_143 : decode cX5_store 143 = .ok (.iadd, 1) := by decide +kernel
theorem dX5_store_144 : decode cX5_store 144 = .ok (.invokevirtual 106, 3) := by decide +kernel
theorem dX5_store_147 : decode cX5_store 147 = .ok (.lload 9, 2) := by decide +kernel
theorem dX5_store_149 : decode cX5_store 149 = .ok (.ldc2_w 92, 3) := by decide +kernel
theorem dX5_store_152 : decode cX5_store 152 = .ok (.ldiv, 1) := by decide +kernel
theorem dX5_store_153 : decode cX5_store 153 = .ok (.lstore 9, 2) := by decide +kernel
theorem dX5_store_155 : decode cX5_store 155 = .ok (.iinc 11 (-1), 3) := by decide +kernel
theorem dX5_store_158 : decode cX5_store 158 = .ok (.goto (-58), 3) := by decide +kernel
theorem dX5_store_161 : decode cX5_store 161 = .ok (.goto 116, 3) := by decide +kernel
theorem dX5_store_164 : decode cX5_store 164 = .ok (.lload 7, 2) := by decide +kernel
theorem dX5_store_166 : decode cX5_store 166 = .ok (.lconst 0, 1) := by decide +kernel
theorem dX5_store_167 : decode cX5_store 167 = .ok (.lcmp, 1) := by decide +kernel
theorem dX5_store_168 : decode cX5_store 168 = .ok (.ifCond .ge 9, 3) := by decide +kernel
theorem dX5_store_171 : decode cX5_store 171 = .ok (.ldc2_w 110, 3) := by decide +kernel
theorem dX5_store_174 : decode cX5_store 174 = .ok (.goto 6, 3) := by decide +kernel
theorem dX5_store_177 : decode cX5_store 177 = .ok (.ldc2_w 112, 3) := by decide +kernel
theorem dX5_store_180 : decode cX5_store 180 = .ok (.lstore 11, 2) := by decide +kernel
theorem dX5_store_182 : decode cX5_store 182 = .ok (.ldc2_w 114, 3) := by decide +kernel
theorem dX5_store_185 : decode cX5_store 185 = .ok (.lstore 13, 2) := by decide +kernel
theorem dX5_store_187 : decode cX5_store 187 = .ok (.iconst 0, 1) := by decide +kernel
theorem dX5_store_188 : decode cX5_store 188 = .ok (.istore 15, 2) := by decide +kernel
theorem dX5_store_190 : decode cX5_store 190 = .ok (.iload 15, 2) := by decide +kernel
theorem dX5_store_192 : decode cX5_store 192 = .ok (.iload 6, 2) := by decide +kernel
theorem dX5_store_194 : decode cX5_store 194 = .ok (.if_icmp .ge 39, 3) := by decide +kernel
theorem dX5_store_197 : decode cX5_store 197 = .ok (.lload 11, 2) := by decide +kernel
theorem dX5_store_199 : decode cX5_store 199 = .ok (.lload 13, 2) := by decide +kernel
theorem dX5_store_201 : decode cX5_store 201 = .ok (.lload 9, 2) := by decide +kernel
theorem dX5_store_203 : decode cX5_store 203 = .ok (.ldc2_w 92, 3) := by decide +kernel
theorem dX5_store_206 : decode cX5_store 206 = .ok (.lrem, 1) := by decide +kernel
theorem dX5_store_207 : decode cX5_store 207 = .ok (.lmul, 1) := by decide +kernel
theorem dX5_store_208 : decode cX5_store 208 = .ok (.ladd, 1) := by decide +kernel
theorem dX5_store_209 : decode cX5_store 209 = .ok (.lstore 11, 2) := by decide +kernel
theorem dX5_store_211 : decode cX5_store 211 = .ok (.lload 9, 2) := by decide +kernel
theorem dX5_store_213 : decode cX5_store 213 = .ok (.ldc2_w 92, 3) := by decide +kernel
theorem dX5_store_216 : decode cX5_store 216 = .ok (.ldiv, 1) := by decide +kernel
theorem dX5_store_217 : decode cX5_store 217 = .ok (.lstore 9, 2) := by decide +kernel
theorem dX5_store_219 : decode cX5_store 219 = .ok (.lload 13, 2) := by decide +kernel
theorem dX5_store_221 : decode cX5_store 221 = .ok (.ldc2_w 114, 3) := by decide +kernel
theorem dX5_store_224 : decode cX5_store 224 = .ok (.lmul, 1) := by decide +kernel
theorem dX5_store_225 : decode cX5_store 225 = .ok (.lstore 13, 2) := by decide +kernel
theorem dX5_store_227 : decode cX5_store 227 = .ok (.iinc 15 1, 3) := by decide +kernel
theorem dX5_store_230 : decode cX5_store 230 = .ok (.goto (-40), 3) := by decide +kernel
theorem dX5_store_233 : decode cX5_store 233 = .ok (.aload_n 0, 1) := by decide +kernel
theorem dX5_store_234 : decode cX5_store 234 = .ok (.getfield 20, 3) := by decide +kernel
theorem dX5_store_237 : decode cX5_store 237 = .ok (.iload_n 2, 1) := by decide +kernel
theorem dX5_store_238 : decode cX5_store 238 = .ok (.iaload, 1) := by decide +kernel
theorem dX5_store_239 : decode cX5_store 239 = .ok (.iconst 1, 1) := by decide +kernel
theorem dX5_store_240 : decode cX5_store 240 = .ok (.isub, 1) := by decide +kernel
theorem dX5_store_241 : decode cX5_store 241 = .ok (.istore 15, 2) := by decide +kernel
theorem dX5_store_243 : decode cX5_store 243 = .ok (.iload 15, 2) := by decide +kernel
theorem dX5_store_245 : decode cX5_store 245 = .ok (.ifCond .lt 32, 3) := by decide +kernel
theorem dX5_store_248 : decode cX5_store 248 = .ok (.aload_n 0, 1) := by decide +kernel
theorem dX5_store_249 : decode cX5_store 249 = .ok (.iload_n 1, 1) := by decide +kernel
theorem dX5_store_250 : decode cX5_store 250 = .ok (.iload_n 3, 1) := by decide +kernel
theorem dX5_store_251 : decode cX5_store 251 = .ok (.iload 15, 2) := by decide +kernel
theorem dX5_store_253 : decode cX5_store 253 = .ok (.iadd, 1) := by decide +kernel
theorem dX5_store_254 : decode cX5_store 254 = .ok (.lload 11, 2) := by decide +kernel
theorem dX5_store_256 : decode cX5_store 256 = .ok (.ldc2_w 116, 3) := by decide +kernel
theorem dX5_store_259 : decode cX5_store 259 = .ok (.land, 1) := by decide +kernel
theorem dX5_store_260 : decode cX5_store 260 = .ok (.l2i, 1) := by decide +kernel
theorem dX5_store_261 : decode cX5_store 261 = .ok (.invokevirtual 106, 3) := by decide +kernel
theorem dX5_store_264 : decode cX5_store 264 = .ok (.lload 11, 2) := by decide +kernel
theorem dX5_store_266 : decode cX5_store 266 = .ok (.bipush 8, 2) := by decide +kernel
theorem dX5_store_268 : decode cX5_store 268 = .ok (.lshr, 1) := by decide +kernel
theorem dX5_store_269 : decode cX5_store 269 = .ok (.lstore 11, 2) := by decide +kernel
theorem dX5_store_271 : decode cX5_store 271 = .ok (.iinc 15 (-1), 3) := by decide +kernel
theorem dX5_store_274 : decode cX5_store 274 = .ok (.goto (-31), 3) := by decide +kernel
theorem dX5_store_277 : decode cX5_store 277 = .ok (.return_, 1) := by decide +kernel
theorem dX5_isCell_0 : decode cX5_isCell 0 = .ok (.iload_n 1, 1) := by decide +kernel
theorem dX5_isCell_1 : decode cX5_isCell 1 = .ok (.ifCond .lt 15, 3) := by decide +kernel
theorem dX5_isCell_4 : decode cX5_isCell 4 = .ok (.iload_n 1, 1) := by decide +kernel
theorem dX5_isCell_5 : decode cX5_isCell 5 = .ok (.aload_n 0, 1) := by decide +kernel
theorem dX5_isCell_6 : decode cX5_isCell 6 = .ok (.getfield 89, 3) := by decide +kernel
theorem dX5_isCell_9 : decode cX5_isCell 9 = .ok (.if_icmp .ge 7, 3) := by decide +kernel
theorem dX5_isCell_12 : decode cX5_isCell 12 = .ok (.iconst 1, 1) := by decide +kernel
theorem dX5_isCell_13 : decode cX5_isCell 13 = .ok (.goto 4, 3) := by decide +kernel
theorem dX5_isCell_16 : decode cX5_isCell 16 = .ok (.iconst 0, 1) := by decide +kernel
theorem dX5_isCell_17 : decode cX5_isCell 17 = .ok (.ireturn, 1) := by decide +kernel
theorem dX5_isNode_0 : decode cX5_isNode 0 = .ok (.iload_n 1, 1) := by decide +kernel
theorem dX5_isNode_1 : decode cX5_isNode 1 = .ok (.ifCond .le 15, 3) := by decide +kernel
theorem dX5_isNode_4 : decode cX5_isNode 4 = .ok (.iload_n 1, 1) := by decide +kernel
theorem dX5_isNode_5 : decode cX5_isNode 5 = .ok (.aload_n 0, 1) := by decide +kernel
theorem dX5_isNode_6 : decode cX5_isNode 6 = .ok (.getfield 118, 3) := by decide +kernel
theorem dX5_isNode_9 : decode cX5_isNode 9 = .ok (.if_icmp .gt 7, 3) := by decide +kernel
theorem dX5_isNode_12 : decode cX5_isNode 12 = .ok (.iconst 1, 1) := by decide +kernel
theorem dX5_isNode_13 : decode cX5_isNode 13 = .ok (.goto 4, 3) := by decide +kernel
theorem dX5_isNode_16 : decode cX5_isNode 16 = .ok (.iconst 0, 1) := by decide +kernel
theorem dX5_isNode_17 : decode cX5_isNode 17 = .ok (.ireturn, 1) := by decide +kernel
set_option maxRecDepth 20000 in
theorem ggX5_isValue_X5_isNode : GoodIn wsX5_isValue wsX5_isNode := goodIn_r _ [6, 7, 8, 9, 10, 11, 12, 13, 14, 15, 16, 17, 18, 19, 20, 21, 22, 23, 24, 25, 26, 27, 28, 29, 30, 31, 32, 33, 34, 35, 36, 37, 38, 39, 40] (by decide +kernel) (by decide +kernel)
set_option maxRecDepth 20000 in
theorem gX5_isValue_X5_isNode : GoodIn wsX5_isValue (wsV RX5 121 RX5 yX5_isNode wsX5_isNode) := goodIn_app (goodIn_of _ (by decide +kernel)) ggX5_isValue_X5_isNode
theorem dX5_isValue_0 : decode cX5_isValue 0 = .ok (.aload_n 0, 1) := by decide +kernel
theorem dX5_isValue_1 : decode cX5_isValue 1 = .ok (.iload_n 1, 1) := by decide +kernel
theorem dX5_isValue_2 : decode cX5_isValue 2 = .ok (.invokevirtual 121, 3) := by decide +kernel
theorem dX5_isValue_5 : decode cX5_isValue 5 = .ok (.ifCond .eq 18, 3) := by decide +kernel
theorem dX5_isValue_8 : decode cX5_isValue 8 = .ok (.aload_n 0, 1) := by decide +kernel
theorem dX5_isValue_9 : decode cX5_isValue 9 = .ok (.getfield 26, 3) := by decide +kernel
theorem dX5_isValue_12 : decode cX5_isValue 12 = .ok (.iload_n 1, 1) := by decide +kernel
theorem dX5_isValue_13 : decode cX5_isValue 13 = .ok (.iaload, 1) := by decide +kernel
theorem dX5_isValue_14 : decode cX5_isValue 14 = .ok (.bipush 9, 2) := by decide +kernel
theorem dX5_isValue_16 : decode cX5_isValue 16 = .ok (.if_icmp .ge 7, 3) := by decide +kernel
theorem dX5_isValue_19 : decode cX5_isValue 19 = .ok (.iconst 1, 1) := by decide +kernel
theorem dX5_isValue_20 : decode cX5_isValue 20 = .ok (.goto 4, 3) := by decide +kernel
theorem dX5_isValue_23 : decode cX5_isValue 23 = .ok (.iconst 0, 1) := by decide +kernel
theorem dX5_isValue_24 : decode cX5_isValue 24 = .ok (.ireturn, 1) := by decide +kernel
set_option maxRecDepth 20000 in
theorem ggX5_isSo_X5_isCell : GoodIn wsX5_isSo wsX5_isCell := goodIn_r _ [8, 9, 19, 20, 21, 22, 23, 24, 25, 26, 27, 28, 29, 30, 31, 32, 33, 34, 35, 36, 37, 38, 39, 40, 41, 42, 43, 44, 45, 46, 47, 48, 49, 50, 51] (by decide +kernel) (by decide +kernel)
set_option maxRecDepth 20000 in
theorem gX5_isSo_X5_isCell : GoodIn wsX5_isSo (wsV RX5 125 RX5 yX5_isCell wsX5_isCell) := goodIn_app (goodIn_of _ (by decide +kernel)) ggX5_isSo_X5_isCell
set_option maxRecDepth 20000 in
theorem ggX5_isSo_X5_isValue : GoodIn wsX5_isSo wsX5_isValue := goodIn_r _ [13, 1, 14, 15, 16, 7, 17, 18, 19, 20, 21, 22, 23, 24, 25, 26, 27, 28, 29, 30, 31, 32, 33, 34, 35, 36, 37, 38, 39, 40, 41, 42, 43, 44, 45, 46, 47, 48, 49, 50, 51] (by decide +kernel) (by decide +kernel)
set_option maxRecDepth 20000 in
theorem gX5_isSo_X5_isValue : GoodIn wsX5_isSo (wsV RX5 128 RX5 yX5_isValue wsX5_isValue) := goodIn_app (goodIn_of _ (by decide +kernel)) ggX5_isSo_X5_isValue
set_option maxRecDepth 20000 in
theorem ggX5_isSo_X5_isNode : GoodIn wsX5_isSo wsX5_isNode := goodIn_r _ [17, 18, 19, 20, 21, 22, 23, 24, 25, 26, 27, 28, 29, 30, 31, 32, 33, 34, 35, 36, 37, 38, 39, 40, 41, 42, 43, 44, 45, 46, 47, 48, 49, 50, 51] (by decide +kernel) (by decide +kernel)
set_option maxRecDepth 20000 in
theorem gX5_isSo_X5_isNode : GoodIn wsX5_isSo (wsV RX5 121 RX5 yX5_isNode wsX5_isNode) := goodIn_app (goodIn_of _ (by decide +kernel)) ggX5_isSo_X5_isNode
theorem dX5_isSo_0 : decode cX5_isSo 0 = .ok (.iload_n 1, 1) := by decide +kernel
theorem dX5_isSo_1 : decode cX5_isSo 1 = .ok (.tableswitch 204 0 13 #[71, 73, 79, 204, 204, 204, 204, 204, 204, 79, 101, 160, 182, 182], 71) := by decide +kernel
theorem dX5_isSo_72 : decode cX5_isSo 72 = .ok (.iconst 1, 1) := by decide +kernel
theorem dX5_isSo_73 : decode cX5_isSo 73 = .ok (.ireturn, 1) := by decide +kernel
theorem dX5_isSo_74 : decode cX5_isSo 74 = .ok (.aload_n 0, 1) := by decide +kernel
theorem dX5_isSo_75 : decode cX5_isSo 75 = .ok (.iload_n 2, 1) := by decide +kernel
theorem dX5_isSo_76 : decode cX5_isSo 76 = .ok (.invokevirtual 125, 3) := by decide +kernel
theorem dX5_isSo_79 : decode cX5_isSo 79 = .ok (.ireturn, 1) := by decide +kernel
theorem dX5_isSo_80 : decode cX5_isSo 80 = .ok (.aload_n 0, 1) := by decide +kernel
theorem dX5_isSo_81 : decode cX5_isSo 81 = .ok (.iload_n 2, 1) := by decide +kernel
theorem dX5_isSo_82 : decode cX5_isSo 82 = .ok (.invokevirtual 125, 3) := by decide +kernel
theorem dX5_isSo_85 : decode cX5_isSo 85 = .ok (.ifCond .eq 15, 3) := by decide +kernel
theorem dX5_isSo_88 : decode cX5_isSo 88 = .ok (.aload_n 0, 1) := by decide +kernel
theorem dX5_isSo_89 : decode cX5_isSo 89 = .ok (.iload_n 3, 1) := by decide +kernel
theorem dX5_isSo_90 : decode cX5_isSo 90 = .ok (.invokevirtual 128, 3) := by decide +kernel
theorem dX5_isSo_93 : decode cX5_isSo 93 = .ok (.ifCond .eq 7, 3) := by decide +kernel
theorem dX5_isSo_96 : decode cX5_isSo 96 = .ok (.iconst 1, 1) := by decide +kernel
theorem dX5_isSo_97 : decode cX5_isSo 97 = .ok (.goto 4, 3) := by decide +kernel
theorem dX5_isSo_100 : decode cX5_isSo 100 = .ok (.iconst 0, 1) := by decide +kernel
theorem dX5_isSo_101 : decode cX5_isSo 101 = .ok (.ireturn, 1) := by decide +kernel
theorem dX5_isSo_102 : decode cX5_isSo 102 = .ok (.aload_n 0, 1) := by decide +kernel
theorem dX5_isSo_103 : decode cX5_isSo 103 = .ok (.iload_n 2, 1) := by decide +kernel
theorem dX5_isSo_104 : decode cX5_isSo 104 = .ok (.invokevirtual 125, 3) := by decide +kernel
theorem dX5_isSo_107 : decode cX5_isSo 107 = .ok (.ifCond .eq 52, 3) := by decide +kernel
theorem dX5_isSo_110 : decode cX5_isSo 110 = .ok (.aload_n 0, 1) := by decide +kernel
theorem dX5_isSo_111 : decode cX5_isSo 111 = .ok (.iload_n 3, 1) := by decide +kernel
theorem dX5_isSo_112 : decode cX5_isSo 112 = .ok (.invokevirtual 121, 3) := by decide +kernel
theorem dX5_isSo_115 : decode cX5_isSo 115 = .ok (.ifCond .eq 44, 3) := by decide +kernel
theorem dX5_isSo_118 : decode cX5_isSo 118 = .ok (.aload_n 0, 1) := by decide +kernel
theorem dX5_isSo_119 : decode cX5_isSo 119 = .ok (.getfield 26, 3) := by decide +kernel
theorem dX5_isSo_122 : decode cX5_isSo 122 = .ok (.iload_n 3, 1) := by decide +kernel
theorem dX5_isSo_123 : decode cX5_isSo 123 = .ok (.iaload, 1) := by decide +kernel
theorem dX5_isSo_124 : decode cX5_isSo 124 = .ok (.bipush 11, 2) := by decide +kernel
theorem dX5_isSo_126 : decode cX5_isSo 126 = .ok (.if_icmp .ne 33, 3) := by decide +kernel
theorem dX5_isSo_129 : decode cX5_isSo 129 = .ok (.aload_n 0, 1) := by decide +kernel
theorem dX5_isSo_130 : decode cX5_isSo 130 = .ok (.aload_n 0, 1) := by decide +kernel
theorem dX5_isSo_131 : decode cX5_isSo 131 = .ok (.getfield 29, 3) := by decide +kernel
theorem dX5_isSo_134 : decode cX5_isSo 134 = .ok (.iload_n 3, 1) := by decide +kernel
theorem dX5_isSo_135 : decode cX5_isSo 135 = .ok (.iaload, 1) := by decide +kernel
theorem dX5_isSo_136 : decode cX5_isSo 136 = .ok (.invokevirtual 128, 3) := by decide +kernel
theorem dX5_isSo_139 : decode cX5_isSo 139 = .ok (.ifCond .eq 20, 3) := by decide +kernel
theorem dX5_isSo_142 : decode cX5_isSo 142 = .ok (.aload_n 0, 1) := by decide +kernel
theorem dX5_isSo_143 : decode cX5_isSo 143 = .ok (.aload_n 0, 1) := by decide +kernel
theorem dX5_isSo_144 : decode cX5_isSo 144 = .ok (.getfield 32, 3) := by decide +kernel
theorem dX5_isSo_147 : decode cX5_isSo 147 = .ok (.iload_n 3, 1) := by decide +kernel
theorem dX5_isSo_148 : decode cX5_isSo 148 = .ok (.iaload, 1) := by decide +kernel
theorem dX5_isSo_149 : decode cX5_isSo 149 = .ok (.invokevirtual 128, 3) := by decide +kernel
theorem dX5_isSo_152 : decode cX5_isSo 152 = .ok (.ifCond .eq 7, 3) := by decide +kernel
theorem dX5_isSo_155 : decode cX5_isSo 155 = .ok (.iconst 1, 1) := by decide +kernel
theorem dX5_isSo_156 : decode cX5_isSo 156 = .ok (.goto 4, 3) := by decide +kernel
theorem dX5_isSo_159 : decode cX5_isSo 159 = .ok (.iconst 0, 1) := by decide +kernel
theorem dX5_isSo_160 : decode cX5_isSo 160 = .ok (.ireturn, 1) := by decide +kernel
theorem dX5_isSo_161 : decode cX5_isSo 161 = .ok (.aload_n 0, 1) := by decide +kernel
theorem dX5_isSo_162 : decode cX5_isSo 162 = .ok (.iload_n 2, 1) := by decide +kernel
theorem dX5_isSo_163 : decode cX5_isSo 163 = .ok (.invokevirtual 121, 3) := by decide +kernel
theorem dX5_isSo_166 : decode cX5_isSo 166 = .ok (.ifCond .eq 15, 3) := by decide +kernel
theorem dX5_isSo_169 : decode cX5_isSo 169 = .ok (.aload_n 0, 1) := by decide +kernel
theorem dX5_isSo_170 : decode cX5_isSo 170 = .ok (.iload_n 3, 1) := by decide +kernel
theorem dX5_isSo_171 : decode cX5_isSo 171 = .ok (.invokevirtual 121, 3) := by decide +kernel
theorem dX5_isSo_174 : decode cX5_isSo 174 = .ok (.ifCond .eq 7, 3) := by decide +kernel
theorem dX5_isSo_177 : decode cX5_isSo 177 = .ok (.iconst 1, 1) := by decide +kernel
theorem dX5_isSo_178 : decode cX5_isSo 178 = .ok (.goto 4, 3) := by decide +kernel
theorem dX5_isSo_181 : decode cX5_isSo 181 = .ok (.iconst 0, 1) := by decide +kernel
theorem dX5_isSo_182 : decode cX5_isSo 182 = .ok (.ireturn, 1) := by decide +kernel
theorem dX5_isSo_183 : decode cX5_isSo 183 = .ok (.aload_n 0, 1) := by decide +kernel
theorem dX5_isSo_184 : decode cX5_isSo 184 = .ok (.iload_n 2, 1) := by decide +kernel
theorem dX5_isSo_185 : decode cX5_isSo 185 = .ok (.invokevirtual 128, 3) := by decide +kernel
theorem dX5_isSo_188 : decode cX5_isSo 188 = .ok (.ifCond .eq 15, 3) := by decide +kernel
theorem dX5_isSo_191 : decode cX5_isSo 191 = .ok (.aload_n 0, 1) := by decide +kernel
theorem dX5_isSo_192 : decode cX5_isSo 192 = .ok (.iload_n 3, 1) := by decide +kernel
theorem dX5_isSo_193 : decode cX5_isSo 193 = .ok (.invokevirtual 121, 3) := by decide +kernel
theorem dX5_isSo_196 : decode cX5_isSo 196 = .ok (.ifCond .eq 7, 3) := by decide +kernel
theorem dX5_isSo_199 : decode cX5_isSo 199 = .ok (.iconst 1, 1) := by decide +kernel
theorem dX5_isSo_200 : decode cX5_isSo 200 = .ok (.goto 4, 3) := by decide +kernel
theorem dX5_isSo_203 : decode cX5_isSo 203 = .ok (.iconst 0, 1) := by decide +kernel
theorem dX5_isSo_204 : decode cX5_isSo 204 = .ok (.ireturn, 1) := by decide +kernel
theorem dX5_isSo_205 : decode cX5_isSo 205 = .ok (.aload_n 0, 1) := by decide +kernel
theorem dX5_isSo_206 : decode cX5_isSo 206 = .ok (.iload_n 2, 1) := by decide +kernel
theorem dX5_isSo_207 : decode cX5_isSo 207 = .ok (.invokevirtual 128, 3) := by decide +kernel
theorem dX5_isSo_210 : decode cX5_isSo 210 = .ok (.ifCond .eq 15, 3) := by decide +kernel
theorem dX5_isSo_213 : decode cX5_isSo 213 = .ok (.aload_n 0, 1) := by decide +kernel
theorem dX5_isSo_214 : decode cX5_isSo 214 = .ok (.iload_n 3, 1) := by decide +kernel
theorem dX5_isSo_215 : decode cX5_isSo 215 = .ok (.invokevirtual 128, 3) := by decide +kernel
theorem dX5_isSo_218 : decode cX5_isSo 218 = .ok (.ifCond .eq 7, 3) := by decide +kernel
theorem dX5_isSo_221 : decode cX5_isSo 221 = .ok (.iconst 1, 1) := by decide +kernel
theorem dX5_isSo_222 : decode cX5_isSo 222 = .ok (.goto 4, 3) := by decide +kernel
theorem dX5_isSo_225 : decode cX5_isSo 225 = .ok (.iconst 0, 1) := by decide +kernel
theorem dX5_isSo_226 : decode cX5_isSo 226 = .ok (.ireturn, 1) := by decide +kernel
theorem dX5_reckoned_0 : decode cX5_reckoned 0 = .ok (.iload_n 0, 1) := by decide +kernel
theorem dX5_reckoned_1 : decode cX5_reckoned 1 = .ok (.tableswitch 63 3 7 #[35, 39, 43, 47, 51], 35) := by decide +kernel
theorem dX5_reckoned_36 : decode cX5_reckoned 36 = .ok (.lload_n 1, 1) := by decide +kernel
theorem dX5_reckoned_37 : decode cX5_reckoned 37 = .ok (.lload_n 3, 1) := by decide +kernel
theorem dX5_reckoned_38 : decode cX5_reckoned 38 = .ok (.ladd, 1) := by decide +kernel
theorem dX5_reckoned_39 : decode cX5_reckoned 39 = .ok (.lreturn, 1) := by decide +kernel
theorem dX5_reckoned_40 : decode cX5_reckoned 40 = .ok (.lload_n 1, 1) := by decide +kernel
theorem dX5_reckoned_41 : decode cX5_reckoned 41 = .ok (.lload_n 3, 1) := by decide +kernel
theorem dX5_reckoned_42 : decode cX5_reckoned 42 = .ok (.lsub, 1) := by decide +kernel
theorem dX5_reckoned_43 : decode cX5_reckoned 43 = .ok (.lreturn, 1) := by decide +kernel
theorem dX5_reckoned_44 : decode cX5_reckoned 44 = .ok (.lload_n 1, 1) := by decide +kernel
theorem dX5_reckoned_45 : decode cX5_reckoned 45 = .ok (.lload_n 3, 1) := by decide +kernel
theorem dX5_reckoned_46 : decode cX5_reckoned 46 = .ok (.lmul, 1) := by decide +kernel
theorem dX5_reckoned_47 : decode cX5_reckoned 47 = .ok (.lreturn, 1) := by decide +kernel
theorem dX5_reckoned_48 : decode cX5_reckoned 48 = .ok (.lload_n 1, 1) := by decide +kernel
theorem dX5_reckoned_49 : decode cX5_reckoned 49 = .ok (.lload_n 3, 1) := by decide +kernel
theorem dX5_reckoned_50 : decode cX5_reckoned 50 = .ok (.ldiv, 1) := by decide +kernel
theorem dX5_reckoned_51 : decode cX5_reckoned 51 = .ok (.lreturn, 1) := by decide +kernel
theorem dX5_reckoned_52 : decode cX5_reckoned 52 = .ok (.lload_n 1, 1) := by decide +kernel
theorem dX5_reckoned_53 : decode cX5_reckoned 53 = .ok (.lload_n 3, 1) := by decide +kernel
theorem dX5_reckoned_54 : decode cX5_reckoned 54 = .ok (.lcmp, 1) := by decide +kernel
theorem dX5_reckoned_55 : decode cX5_reckoned 55 = .ok (.ifCond .ge 7, 3) := by decide +kernel
theorem dX5_reckoned_58 : decode cX5_reckoned 58 = .ok (.lconst 1, 1) := by decide +kernel
theorem dX5_reckoned_59 : decode cX5_reckoned 59 = .ok (.goto 4, 3) := by decide +kernel
theorem dX5_reckoned_62 : decode cX5_reckoned 62 = .ok (.lconst 0, 1) := by decide +kernel
theorem dX5_reckoned_63 : decode cX5_reckoned 63 = .ok (.lreturn, 1) := by decide +kernel
theorem dX5_reckoned_64 : decode cX5_reckoned 64 = .ok (.lload_n 1, 1) := by decide +kernel
theorem dX5_reckoned_65 : decode cX5_reckoned 65 = .ok (.lload_n 3, 1) := by decide +kernel
theorem dX5_reckoned_66 : decode cX5_reckoned 66 = .ok (.lcmp, 1) := by decide +kernel
theorem dX5_reckoned_67 : decode cX5_reckoned 67 = .ok (.ifCond .ne 7, 3) := by decide +kernel
theorem dX5_reckoned_70 : decode cX5_reckoned 70 = .ok (.lconst 1, 1) := by decide +kernel
theorem dX5_reckoned_71 : decode cX5_reckoned 71 = .ok (.goto 4, 3) := by decide +kernel
theorem dX5_reckoned_74 : decode cX5_reckoned 74 = .ok (.lconst 0, 1) := by decide +kernel
theorem dX5_reckoned_75 : decode cX5_reckoned 75 = .ok (.lreturn, 1) := by decide +kernel
theorem dX5_digitsOf_0 : decode cX5_digitsOf 0 = .ok (.iconst 1, 1) := by decide +kernel
theorem dX5_digitsOf_1 : decode cX5_digitsOf 1 = .ok (.istore_n 2, 1) := by decide +kernel
theorem dX5_digitsOf_2 : decode cX5_digitsOf 2 = .ok (.lload_n 0, 1) := by decide +kernel
theorem dX5_digitsOf_3 : decode cX5_digitsOf 3 = .ok (.lconst 0, 1) := by decide +kernel
theorem dX5_digitsOf_4 : decode cX5_digitsOf 4 = .ok (.lcmp, 1) := by decide +kernel
theorem dX5_digitsOf_5 : decode cX5_digitsOf 5 = .ok (.ifCond .ge 9, 3) := by decide +kernel
theorem dX5_digitsOf_8 : decode cX5_digitsOf 8 = .ok (.lconst 0, 1) := by decide +kernel
theorem dX5_digitsOf_9 : decode cX5_digitsOf 9 = .ok (.lload_n 0, 1) := by decide +kernel
theorem dX5_digitsOf_10 : decode cX5_digitsOf 10 = .ok (.lsub, 1) := by decide +kernel
theorem dX5_digitsOf_11 : decode cX5_digitsOf 11 = .ok (.goto 4, 3) := by decide +kernel
theorem dX5_digitsOf_14 : decode cX5_digitsOf 14 = .ok (.lload_n 0, 1) := by decide +kernel
theorem dX5_digitsOf_15 : decode cX5_digitsOf 15 = .ok (.ldc2_w 92, 3) := by decide +kernel
theorem dX5_digitsOf_18 : decode cX5_digitsOf 18 = .ok (.ldiv, 1) := by decide +kernel
theorem dX5_digitsOf_19 : decode cX5_digitsOf 19 = .ok (.lstore_n 3, 1) := by decide +kernel
theorem dX5_digitsOf_20 : decode cX5_digitsOf 20 = .ok (.lload_n 3, 1) := by decide +kernel
theorem dX5_digitsOf_21 : decode cX5_digitsOf 21 = .ok (.lconst 0, 1) := by decide +kernel
theorem dX5_digitsOf_22 : decode cX5_digitsOf 22 = .ok (.lcmp, 1) := by decide +kernel
theorem dX5_digitsOf_23 : decode cX5_digitsOf 23 = .ok (.ifCond .le 15, 3) := by decide +kernel
theorem dX5_digitsOf_26 : decode cX5_digitsOf 26 = .ok (.lload_n 3, 1) := by decide +kernel
theorem dX5_digitsOf_27 : decode cX5_digitsOf 27 = .ok (.ldc2_w 92, 3) := by decide +kernel
theorem dX5_digitsOf_30 : decode cX5_digitsOf 30 = .ok (.ldiv, 1) := by decide +kernel
theorem dX5_digitsOf_31 : decode cX5_digitsOf 31 = .ok (.lstore_n 3, 1) := by decide +kernel
theorem dX5_digitsOf_32 : decode cX5_digitsOf 32 = .ok (.iinc 2 1, 3) := by decide +kernel
theorem dX5_digitsOf_35 : decode cX5_digitsOf 35 = .ok (.goto (-15), 3) := by decide +kernel
theorem dX5_digitsOf_38 : decode cX5_digitsOf 38 = .ok (.iload_n 2, 1) := by decide +kernel
theorem dX5_digitsOf_39 : decode cX5_digitsOf 39 = .ok (.ireturn, 1) := by decide +kernel
set_option maxRecDepth 20000 in
theorem ggX5_sureOf_X5_digitsOf : GoodIn wsX5_sureOf wsX5_digitsOf := goodIn_r _ [7, 8] (by decide +kernel) (by decide +kernel)
set_option maxRecDepth 20000 in
theorem gX5_sureOf_X5_digitsOf : GoodIn wsX5_sureOf (va_wsS RX5 131 yX5_digitsOf wsX5_digitsOf) := goodIn_app (goodIn_of _ (by decide +kernel)) ggX5_sureOf_X5_digitsOf
theorem dX5_sureOf_0 : decode cX5_sureOf 0 = .ok (.iconst 0, 1) := by decide +kernel
theorem dX5_sureOf_1 : decode cX5_sureOf 1 = .ok (.istore 4, 2) := by decide +kernel
theorem dX5_sureOf_3 : decode cX5_sureOf 3 = .ok (.iload_n 1, 1) := by decide +kernel
theorem dX5_sureOf_4 : decode cX5_sureOf 4 = .ok (.ifCond .ne 10, 3) := by decide +kernel
theorem dX5_sureOf_7 : decode cX5_sureOf 7 = .ok (.iload_n 2, 1) := by decide +kernel
theorem dX5_sureOf_8 : decode cX5_sureOf 8 = .ok (.i2l, 1) := by decide +kernel
theorem dX5_sureOf_9 : decode cX5_sureOf 9 = .ok (.invokestatic 131, 3) := by decide +kernel
theorem dX5_sureOf_12 : decode cX5_sureOf 12 = .ok (.istore 4, 2) := by decide +kernel
theorem dX5_sureOf_14 : decode cX5_sureOf 14 = .ok (.iload_n 1, 1) := by decide +kernel
theorem dX5_sureOf_15 : decode cX5_sureOf 15 = .ok (.iconst 1, 1) := by decide +kernel
theorem dX5_sureOf_16 : decode cX5_sureOf 16 = .ok (.if_icmp .eq 8, 3) := by decide +kernel
theorem dX5_sureOf_19 : decode cX5_sureOf 19 = .ok (.iload_n 1, 1) := by decide +kernel
theorem dX5_sureOf_20 : decode cX5_sureOf 20 = .ok (.iconst 2, 1) := by decide +kernel
theorem dX5_sureOf_21 : decode cX5_sureOf 21 = .ok (.if_icmp .ne 26, 3) := by decide +kernel
theorem dX5_sureOf_24 : decode cX5_sureOf 24 = .ok (.aload_n 0, 1) := by decide +kernel
theorem dX5_sureOf_25 : decode cX5_sureOf 25 = .ok (.getfield 13, 3) := by decide +kernel
theorem dX5_sureOf_28 : decode cX5_sureOf 28 = .ok (.iload_n 2, 1) := by decide +kernel
theorem dX5_sureOf_29 : decode cX5_sureOf 29 = .ok (.iaload, 1) := by decide +kernel
theorem dX5_sureOf_30 : decode cX5_sureOf 30 = .ok (.iconst 2, 1) := by decide +kernel
theorem dX5_sureOf_31 : decode cX5_sureOf 31 = .ok (.if_icmp .ne 8, 3) := by decide +kernel
theorem dX5_sureOf_34 : decode cX5_sureOf 34 = .ok (.bipush 10, 2) := by decide +kernel
theorem dX5_sureOf_36 : decode cX5_sureOf 36 = .ok (.goto 9, 3) := by decide +kernel
theorem dX5_sureOf_39 : decode cX5_sureOf 39 = .ok (.aload_n 0, 1) := by decide +kernel
theorem dX5_sureOf_40 : decode cX5_sureOf 40 = .ok (.getfield 17, 3) := by decide +kernel
theorem dX5_sureOf_43 : decode cX5_sureOf 43 = .ok (.iload_n 2, 1) := by decide +kernel
theorem dX5_sureOf_44 : decode cX5_sureOf 44 = .ok (.iaload, 1) := by decide +kernel
theorem dX5_sureOf_45 : decode cX5_sureOf 45 = .ok (.istore 4, 2) := by decide +kernel
theorem dX5_sureOf_47 : decode cX5_sureOf 47 = .ok (.iload_n 1, 1) := by decide +kernel
theorem dX5_sureOf_48 : decode cX5_sureOf 48 = .ok (.iconst 3, 1) := by decide +kernel
theorem dX5_sureOf_49 : decode cX5_sureOf 49 = .ok (.if_icmp .eq 8, 3) := by decide +kernel
theorem dX5_sureOf_52 : decode cX5_sureOf 52 = .ok (.iload_n 1, 1) := by decide +kernel
theorem dX5_sureOf_53 : decode cX5_sureOf 53 = .ok (.iconst 4, 1) := by decide +kernel
theorem dX5_sureOf_54 : decode cX5_sureOf 54 = .ok (.if_icmp .ne 37, 3) := by decide +kernel
theorem dX5_sureOf_57 : decode cX5_sureOf 57 = .ok (.iconst 1, 1) := by decide +kernel
theorem dX5_sureOf_58 : decode cX5_sureOf 58 = .ok (.aload_n 0, 1) := by decide +kernel
theorem dX5_sureOf_59 : decode cX5_sureOf 59 = .ok (.getfield 35, 3) := by decide +kernel
theorem dX5_sureOf_62 : decode cX5_sureOf 62 = .ok (.iload_n 2, 1) := by decide +kernel
theorem dX5_sureOf_63 : decode cX5_sureOf 63 = .ok (.iaload, 1) := by decide +kernel
theorem dX5_sureOf_64 : decode cX5_sureOf 64 = .ok (.aload_n 0, 1) := by decide +kernel
theorem dX5_sureOf_65 : decode cX5_sureOf 65 = .ok (.getfield 35, 3) := by decide +kernel
theorem dX5_sureOf_68 : decode cX5_sureOf 68 = .ok (.iload_n 3, 1) := by decide +kernel
theorem dX5_sureOf_69 : decode cX5_sureOf 69 = .ok (.iaload, 1) := by decide +kernel
theorem dX5_sureOf_70 : decode cX5_sureOf 70 = .ok (.if_icmp .le 12, 3) := by decide +kernel
theorem dX5_sureOf_73 : decode cX5_sureOf 73 = .ok (.aload_n 0, 1) := by decide +kernel
theorem dX5_sureOf_74 : decode cX5_sureOf 74 = .ok (.getfield 35, 3) := by decide +kernel
theorem dX5_sureOf_77 : decode cX5_sureOf 77 = .ok (.iload_n 2, 1) := by decide +kernel
theorem dX5_sureOf_78 : decode cX5_sureOf 78 = .ok (.iaload, 1) := by decide +kernel
theorem dX5_sureOf_79 : decode cX5_sureOf 79 = .ok (.goto 9, 3) := by decide +kernel
theorem dX5_sureOf_82 : decode cX5_sureOf 82 = .ok (.aload_n 0, 1) := by decide +kernel
theorem dX5_sureOf_83 : decode cX5_sureOf 83 = .ok (.getfield 35, 3) := by decide +kernel
theorem dX5_sureOf_86 : decode cX5_sureOf 86 = .ok (.iload_n 3, 1) := by decide +kernel
theorem dX5_sureOf_87 : decode cX5_sureOf 87 = .ok (.iaload, 1) := by decide +kernel
theorem dX5_sureOf_88 : decode cX5_sureOf 88 = .ok (.iadd, 1) := by decide +kernel
theorem dX5_sureOf_89 : decode cX5_sureOf 89 = .ok (.istore 4, 2) := by decide +kernel
theorem dX5_sureOf_91 : decode cX5_sureOf 91 = .ok (.iload_n 1, 1) := by decide +kernel
theorem dX5_sureOf_92 : decode cX5_sureOf 92 = .ok (.iconst 5, 1) := by decide +kernel
theorem dX5_sureOf_93 : decode cX5_sureOf 93 = .ok (.if_icmp .ne 18, 3) := by decide +kernel
theorem dX5_sureOf_96 : decode cX5_sureOf 96 = .ok (.aload_n 0, 1) := by decide +kernel
theorem dX5_sureOf_97 : decode cX5_sureOf 97 = .ok (.getfield 35, 3) := by decide +kernel
theorem dX5_sureOf_100 : decode cX5_sureOf 100 = .ok (.iload_n 2, 1) := by decide +kernel
theorem dX5_sureOf_101 : decode cX5_sureOf 101 = .ok (.iaload, 1) := by decide +kernel
theorem dX5_sureOf_102 : decode cX5_sureOf 102 = .ok (.aload_n 0, 1) := by decide +kernel
theorem dX5_sureOf_103 : decode cX5_sureOf 103 = .ok (.getfield 35, 3) := by decide +kernel
theorem dX5_sureOf_106 : decode cX5_sureOf 106 = .ok (.iload_n 3, 1) := by decide +kernel
theorem dX5_sureOf_107 : decode cX5_sureOf 107 = .ok (.iaload, 1) := by decide +kernel
theorem dX5_sureOf_108 : decode cX5_sureOf 108 = .ok (.iadd, 1) := by decide +kernel
theorem dX5_sureOf_109 : decode cX5_sureOf 109 = .ok (.istore 4, 2) := by decide +kernel
theorem dX5_sureOf_111 : decode cX5_sureOf 111 = .ok (.iload_n 1, 1) := by decide +kernel
theorem dX5_sureOf_112 : decode cX5_sureOf 112 = .ok (.bipush 6, 2) := by decide +kernel
theorem dX5_sureOf_114 : decode cX5_sureOf 114 = .ok (.if_icmp .ne 11, 3) := by decide +kernel
theorem dX5_sureOf_117 : decode cX5_sureOf 117 = .ok (.aload_n 0, 1) := by decide +kernel
theorem dX5_sureOf_118 : decode cX5_sureOf 118 = .ok (.getfield 35, 3) := by decide +kernel
theorem dX5_sureOf_121 : decode cX5_sureOf 121 = .ok (.iload_n 2, 1) := by decide +kernel
theorem dX5_sureOf_122 : decode cX5_sureOf 122 = .ok (.iaload, 1) := by decide +kernel
theorem dX5_sureOf_123 : decode cX5_sureOf 123 = .ok (.istore 4, 2) := by decide +kernel
theorem dX5_sureOf_125 : decode cX5_sureOf 125 = .ok (.iload_n 1, 1) := by decide +kernel
theorem dX5_sureOf_126 : decode cX5_sureOf 126 = .ok (.bipush 7, 2) := by decide +kernel
theorem dX5_sureOf_128 : decode cX5_sureOf 128 = .ok (.if_icmp .eq 9, 3) := by decide +kernel
theorem dX5_sureOf_131 : decode cX5_sureOf 131 = .ok (.iload_n 1, 1) := by decide +kernel
theorem dX5_sureOf_132 : decode cX5_sureOf 132 = .ok (.bipush 8, 2) := by decide +kernel
theorem dX5_sureOf_134 : decode cX5_sureOf 134 = .ok (.if_icmp .ne 6, 3) := by decide +kernel
theorem dX5_sureOf_137 : decode cX5_sureOf 137 = .ok (.iconst 1, 1) := by decide +kernel
theorem dX5_sureOf_138 : decode cX5_sureOf 138 = .ok (.istore 4, 2) := by decide +kernel
theorem dX5_sureOf_140 : decode cX5_sureOf 140 = .ok (.iload 4, 2) := by decide +kernel
theorem dX5_sureOf_142 : decode cX5_sureOf 142 = .ok (.sipush 10000, 3) := by decide +kernel
theorem dX5_sureOf_145 : decode cX5_sureOf 145 = .ok (.if_icmp .le 9, 3) := by decide +kernel
theorem dX5_sureOf_148 : decode cX5_sureOf 148 = .ok (.sipush 10000, 3) := by decide +kernel
theorem dX5_sureOf_151 : decode cX5_sureOf 151 = .ok (.goto 5, 3) := by decide +kernel
theorem dX5_sureOf_154 : decode cX5_sureOf 154 = .ok (.iload 4, 2) := by decide +kernel
theorem dX5_sureOf_156 : decode cX5_sureOf 156 = .ok (.ireturn, 1) := by decide +kernel
set_option maxRecDepth 20000 in
theorem ggX5_node_X5_isSo : GoodIn wsX5_node wsX5_isSo := goodIn_r _ [13, 3, 4, 5, 14, 15, 16, 12, 17, 18, 19, 20, 21, 22, 23, 24, 25, 26, 2, 40, 41, 42, 43, 44, 45, 46, 47, 48, 49, 50, 51, 52, 53, 54, 55, 56, 57, 58, 59, 60, 61, 62, 63, 64, 65, 66, 67, 68, 69, 70, 71, 72] (by decide +kernel) (by decide +kernel)
set_option maxRecDepth 20000 in
theorem gX5_node_X5_isSo : GoodIn wsX5_node (wsV RX5 135 RX5 yX5_isSo wsX5_isSo) := goodIn_app (goodIn_of _ (by decide +kernel)) ggX5_node_X5_isSo
set_option maxRecDepth 20000 in
theorem ggX5_node_X5_sureOf : GoodIn wsX5_node wsX5_sureOf := goodIn_r _ [30, 31, 32, 6, 33, 34, 12, 35, 36, 40, 41, 42, 43, 44, 45, 46, 47, 48, 49, 50, 51, 52, 53, 54, 55, 56, 57, 58, 59, 60, 61, 62, 63, 64, 65, 66, 67, 68, 69, 70, 71, 72] (by decide +kernel) (by decide +kernel)
set_option maxRecDepth 20000 in
theorem gX5_node_X5_sureOf : GoodIn wsX5_node (wsV RX5 139 RX5 yX5_sureOf wsX5_sureOf) := goodIn_app (goodIn_of _ (by decide +kernel)) ggX5_node_X5_sureOf
set_option maxRecDepth 20000 in
theorem ggX5_node_X5_reckoned : GoodIn wsX5_node wsX5_reckoned := goodIn_r _ [39] (by decide +kernel) (by decide +kernel)
set_option maxRecDepth 20000 in
theorem gX5_node_X5_reckoned : GoodIn wsX5_node (va_wsS RX5 142 yX5_reckoned wsX5_reckoned) := goodIn_app (goodIn_of _ (by decide +kernel)) ggX5_node_X5_reckoned
theorem dX5_node_0 : decode cX5_node 0 = .ok (.aload_n 0, 1) := by decide +kernel
theorem dX5_node_1 : decode cX5_node 1 = .ok (.iconst 0, 1) := by decide +kernel
theorem dX5_node_2 : decode cX5_node 2 = .ok (.putfield 85, 3) := by decide +kernel
theorem dX5_node_5 : decode cX5_node 5 = .ok (.iload_n 1, 1) := by decide +kernel
theorem dX5_node_6 : decode cX5_node 6 = .ok (.ifCond .lt 9, 3) := by decide +kernel
theorem dX5_node_9 : decode cX5_node 9 = .ok (.iload_n 1, 1) := by decide +kernel
theorem dX5_node_10 : decode cX5_node 10 = .ok (.bipush 13, 2) := by decide +kernel
theorem dX5_node_12 : decode cX5_node 12 = .ok (.if_icmp .le 6, 3) := by decide +kernel
theorem dX5_node_15 : decode cX5_node 15 = .ok (.bipush (-4), 2) := by decide +kernel
theorem dX5_node_17 : decode cX5_node 17 = .ok (.ireturn, 1) := by decide +kernel
theorem dX5_node_18 : decode cX5_node 18 = .ok (.aload_n 0, 1) := by decide +kernel
theorem dX5_node_19 : decode cX5_node 19 = .ok (.iload_n 1, 1) := by decide +kernel
theorem dX5_node_20 : decode cX5_node 20 = .ok (.iload_n 2, 1) := by decide +kernel
theorem dX5_node_21 : decode cX5_node 21 = .ok (.iload_n 3, 1) := by decide +kernel
theorem dX5_node_22 : decode cX5_node 22 = .ok (.invokevirtual 135, 3) := by decide +kernel
theorem dX5_node_25 : decode cX5_node 25 = .ok (.ifCond .ne 6, 3) := by decide +kernel
theorem dX5_node_28 : decode cX5_node 28 = .ok (.bipush (-2), 2) := by decide +kernel
theorem dX5_node_30 : decode cX5_node 30 = .ok (.ireturn, 1) := by decide +kernel
theorem dX5_node_31 : decode cX5_node 31 = .ok (.aload_n 0, 1) := by decide +kernel
theorem dX5_node_32 : decode cX5_node 32 = .ok (.getfield 118, 3) := by decide +kernel
theorem dX5_node_35 : decode cX5_node 35 = .ok (.sipush 200, 3) := by decide +kernel
theorem dX5_node_38 : decode cX5_node 38 = .ok (.if_icmp .ne 5, 3) := by decide +kernel
theorem dX5_node_41 : decode cX5_node 41 = .ok (.iconst (-1), 1) := by decide +kernel
theorem dX5_node_42 : decode cX5_node 42 = .ok (.ireturn, 1) := by decide +kernel
theorem dX5_node_43 : decode cX5_node 43 = .ok (.aload_n 0, 1) := by decide +kernel
theorem dX5_node_44 : decode cX5_node 44 = .ok (.dup, 1) := by decide +kernel
theorem dX5_node_45 : decode cX5_node 45 = .ok (.getfield 118, 3) := by decide +kernel
theorem dX5_node_48 : decode cX5_node 48 = .ok (.iconst 1, 1) := by decide +kernel
theorem dX5_node_49 : decode cX5_node 49 = .ok (.iadd, 1) := by decide +kernel
theorem dX5_node_50 : decode cX5_node 50 = .ok (.putfield 118, 3) := by decide +kernel
theorem dX5_node_53 : decode cX5_node 53 = .ok (.aload_n 0, 1) := by decide +kernel
theorem dX5_node_54 : decode cX5_node 54 = .ok (.getfield 26, 3) := by decide +kernel
theorem dX5_node_57 : decode cX5_node 57 = .ok (.aload_n 0, 1) := by decide +kernel
theorem dX5_node_58 : decode cX5_node 58 = .ok (.getfield 118, 3) := by decide +kernel
theorem dX5_node_61 : decode cX5_node 61 = .ok (.iload_n 1, 1) := by decide +kernel
theorem dX5_node_62 : decode cX5_node 62 = .ok (.iastore, 1) := by decide +kernel
theorem dX5_node_63 : decode cX5_node 63 = .ok (.aload_n 0, 1) := by decide +kernel
theorem dX5_node_64 : decode cX5_node 64 = .ok (.getfield 29, 3) := by decide +kernel
theorem dX5_node_67 : decode cX5_node 67 = .ok (.aload_n 0, 1) := by decide +kernel
theorem dX5_node_68 : decode cX5_node 68 = .ok (.getfield 118, 3) := by decide +kernel
theorem dX5_node_71 : decode cX5_node 71 = .ok (.iload_n 2, 1) := by decide +kernel
theorem dX5_node_72 : decode cX5_node 72 = .ok (.iastore, 1) := by decide +kernel
theorem dX5_node_73 : decode cX5_node 73 = .ok (.aload_n 0, 1) := by decide +kernel
theorem dX5_node_74 : decode cX5_node 74 = .ok (.getfield 32, 3) := by decide +kernel
theorem dX5_node_77 : decode cX5_node 77 = .ok (.aload_n 0, 1) := by decide +kernel
theorem dX5_node_78 : decode cX5_node 78 = .ok (.getfield 118, 3) := by decide +kernel
theorem dX5_node_81 : decode cX5_node 81 = .ok (.iload_n 3, 1) := by decide +kernel
theorem dX5_node_82 : decode cX5_node 82 = .ok (.iastore, 1) := by decide +kernel
theorem dX5_node_83 : decode cX5_node 83 = .ok (.aload_n 0, 1) := by decide +kernel
theorem dX5_node_84 : decode cX5_node 84 = .ok (.getfield 35, 3) := by decide +kernel
theorem dX5_node_87 : decode cX5_node 87 = .ok (.aload_n 0, 1) := by decide +kernel
theorem dX5_node_88 : decode cX5_node 88 = .ok (.getfield 118, 3) := by decide +kernel
theorem dX5_node_91 : decode cX5_node 91 = .ok (.aload_n 0, 1) := by decide +kernel
theorem dX5_node_92 : decode cX5_node 92 = .ok (.iload_n 1, 1) := by decide +kernel
theorem dX5_node_93 : decode cX5_node 93 = .ok (.iload_n 2, 1) := by decide +kernel
theorem dX5_node_94 : decode cX5_node 94 = .ok (.iload_n 3, 1) := by decide +kernel
theorem dX5_node_95 : decode cX5_node 95 = .ok (.invokevirtual 139, 3) := by decide +kernel
theorem dX5_node_98 : decode cX5_node 98 = .ok (.iastore, 1) := by decide +kernel
theorem dX5_node_99 : decode cX5_node 99 = .ok (.aload_n 0, 1) := by decide +kernel
theorem dX5_node_100 : decode cX5_node 100 = .ok (.getfield 38, 3) := by decide +kernel
theorem dX5_node_103 : decode cX5_node 103 = .ok (.aload_n 0, 1) := by decide +kernel
theorem dX5_node_104 : decode cX5_node 104 = .ok (.getfield 118, 3) := by decide +kernel
theorem dX5_node_107 : decode cX5_node 107 = .ok (.iload_n 1, 1) := by decide +kernel
theorem dX5_node_108 : decode cX5_node 108 = .ok (.ifCond .eq 49, 3) := by decide +kernel
theorem dX5_node_111 : decode cX5_node 111 = .ok (.iload_n 1, 1) := by decide +kernel
theorem dX5_node_112 : decode cX5_node 112 = .ok (.iconst 2, 1) := by decide +kernel
theorem dX5_node_113 : decode cX5_node 113 = .ok (.if_icmp .le 48, 3) := by decide +kernel
theorem dX5_node_116 : decode cX5_node 116 = .ok (.iload_n 1, 1) := by decide +kernel
theorem dX5_node_117 : decode cX5_node 117 = .ok (.bipush 9, 2) := by decide +kernel
theorem dX5_node_119 : decode cX5_node 119 = .ok (.if_icmp .ge 42, 3) := by decide +kernel
theorem dX5_node_122 : decode cX5_node 122 = .ok (.aload_n 0, 1) := by decide +kernel
theorem dX5_node_123 : decode cX5_node 123 = .ok (.getfield 38, 3) := by decide +kernel
theorem dX5_node_126 : decode cX5_node 126 = .ok (.iload_n 2, 1) := by decide +kernel
theorem dX5_node_127 : decode cX5_node 127 = .ok (.baload, 1) := by decide +kernel
theorem dX5_node_128 : decode cX5_node 128 = .ok (.ifCond .eq 33, 3) := by decide +kernel
theorem dX5_node_131 : decode cX5_node 131 = .ok (.aload_n 0, 1) := by decide +kernel
theorem dX5_node_132 : decode cX5_node 132 = .ok (.getfield 38, 3) := by decide +kernel
theorem dX5_node_135 : decode cX5_node 135 = .ok (.iload_n 3, 1) := by decide +kernel
theorem dX5_node_136 : decode cX5_node 136 = .ok (.baload, 1) := by decide +kernel
theorem dX5_node_137 : decode cX5_node 137 = .ok (.ifCond .eq 24, 3) := by decide +kernel
theorem dX5_node_140 : decode cX5_node 140 = .ok (.iload_n 1, 1) := by decide +kernel
theorem dX5_node_141 : decode cX5_node 141 = .ok (.bipush 6, 2) := by decide +kernel
theorem dX5_node_143 : decode cX5_node 143 = .ok (.if_icmp .ne 14, 3) := by decide +kernel
theorem dX5_node_146 : decode cX5_node 146 = .ok (.aload_n 0, 1) := by decide +kernel
theorem dX5_node_147 : decode cX5_node 147 = .ok (.getfield 42, 3) := by decide +kernel
theorem dX5_node_150 : decode cX5_node 150 = .ok (.iload_n 3, 1) := by decide +kernel
theorem dX5_node_151 : decode cX5_node 151 = .ok (.laload, 1) := by decide +kernel
theorem dX5_node_152 : decode cX5_node 152 = .ok (.lconst 0, 1) := by decide +kernel
theorem dX5_node_153 : decode cX5_node 153 = .ok (.lcmp, 1) := by decide +kernel
theorem dX5_node_154 : decode cX5_node 154 = .ok (.ifCond .eq 7, 3) := by decide +kernel
theorem dX5_node_157 : decode cX5_node 157 = .ok (.iconst 1, 1) := by decide +kernel
theorem dX5_node_158 : decode cX5_node 158 = .ok (.goto 4, 3) := by decide +kernel
theorem dX5_node_161 : decode cX5_node 161 = .ok (.iconst 0, 1) := by decide +kernel
theorem dX5_node_162 : decode cX5_node 162 = .ok (.bastore, 1) := by decide +kernel
theorem dX5_node_163 : decode cX5_node 163 = .ok (.aload_n 0, 1) := by decide +kernel
theorem dX5_node_164 : decode cX5_node 164 = .ok (.getfield 42, 3) := by decide +kernel
theorem dX5_node_167 : decode cX5_node 167 = .ok (.aload_n 0, 1) := by decide +kernel
theorem dX5_node_168 : decode cX5_node 168 = .ok (.getfield 118, 3) := by decide +kernel
theorem dX5_node_171 : decode cX5_node 171 = .ok (.aload_n 0, 1) := by decide +kernel
theorem dX5_node_172 : decode cX5_node 172 = .ok (.getfield 38, 3) := by decide +kernel
theorem dX5_node_175 : decode cX5_node 175 = .ok (.aload_n 0, 1) := by decide +kernel
theorem dX5_node_176 : decode cX5_node 176 = .ok (.getfield 118, 3) := by decide +kernel
theorem dX5_node_179 : decode cX5_node 179 = .ok (.baload, 1) := by decide +kernel
theorem dX5_node_180 : decode cX5_node 180 = .ok (.ifCond .ne 7, 3) := by decide +kernel
theorem dX5_node_183 : decode cX5_node 183 = .ok (.lconst 0, 1) := by decide +kernel
theorem dX5_node_184 : decode cX5_node 184 = .ok (.goto 28, 3) := by decide +kernel
theorem dX5_node_187 : decode cX5_node 187 = .ok (.iload_n 1, 1) := by decide +kernel
theorem dX5_node_188 : decode cX5_node 188 = .ok (.ifCond .ne 8, 3) := by decide +kernel
theorem dX5_node_191 : decode cX5_node 191 = .ok (.iload_n 2, 1) := by decide +kernel
theorem dX5_node_192 : decode cX5_node 192 = .ok (.i2l, 1) := by decide +kernel
theorem dX5_node_193 : decode cX5_node 193 = .ok (.goto 19, 3) := by decide +kernel
theorem dX5_node_196 : decode cX5_node 196 = .ok (.iload_n 1, 1) := by decide +kernel
theorem dX5_node_197 : decode cX5_node 197 = .ok (.aload_n 0, 1) := by decide +kernel
theorem dX5_node_198 : decode cX5_node 198 = .ok (.getfield 42, 3) := by decide +kernel
theorem dX5_node_201 : decode cX5_node 201 = .ok (.iload_n 2, 1) := by decide +kernel
theorem dX5_node_202 : decode cX5_node 202 = .ok (.laload, 1) := by decide +kernel
theorem dX5_node_203 : decode cX5_node 203 = .ok (.aload_n 0, 1) := by decide +kernel
theorem dX5_node_204 : decode cX5_node 204 = .ok (.getfield 42, 3) := by decide +kernel
theorem dX5_node_207 : decode cX5_node 207 = .ok (.iload_n 3, 1) := by decide +kernel
theorem dX5_node_208 : decode cX5_node 208 = .ok (.laload, 1) := by decide +kernel
theorem dX5_node_209 : decode cX5_node 209 = .ok (.invokestatic 142, 3) := by decide +kernel
theorem dX5_node_212 : decode cX5_node 212 = .ok (.lastore, 1) := by decide +kernel
theorem dX5_node_213 : decode cX5_node 213 = .ok (.aload_n 0, 1) := by decide +kernel
theorem dX5_node_214 : decode cX5_node 214 = .ok (.getfield 118, 3) := by decide +kernel
theorem dX5_node_217 : decode cX5_node 217 = .ok (.ireturn, 1) := by decide +kernel
theorem dX5_task_0 : decode cX5_task 0 = .ok (.aload_n 0, 1) := by decide +kernel
theorem dX5_task_1 : decode cX5_task 1 = .ok (.getfield 64, 3) := by decide +kernel
theorem dX5_task_4 : decode cX5_task 4 = .ok (.aload_n 0, 1) := by decide +kernel
theorem dX5_task_5 : decode cX5_task 5 = .ok (.getfield 146, 3) := by decide +kernel
theorem dX5_task_8 : decode cX5_task 8 = .ok (.iload_n 1, 1) := by decide +kernel
theorem dX5_task_9 : decode cX5_task 9 = .ok (.iastore, 1) := by decide +kernel
theorem dX5_task_10 : decode cX5_task 10 = .ok (.aload_n 0, 1) := by decide +kernel
theorem dX5_task_11 : decode cX5_task 11 = .ok (.getfield 67, 3) := by decide +kernel
theorem dX5_task_14 : decode cX5_task 14 = .ok (.aload_n 0, 1) := by decide +kernel
theorem dX5_task_15 : decode cX5_task 15 = .ok (.getfield 146, 3) := by decide +kernel
theorem dX5_task_18 : decode cX5_task 18 = .ok (.iload_n 2, 1) := by decide +kernel
theorem dX5_task_19 : decode cX5_task 19 = .ok (.iastore, 1) := by decide +kernel
theorem dX5_task_20 : decode cX5_task 20 = .ok (.aload_n 0, 1) := by decide +kernel
theorem dX5_task_21 : decode cX5_task 21 = .ok (.getfield 76, 3) := by decide +kernel
theorem dX5_task_24 : decode cX5_task 24 = .ok (.aload_n 0, 1) := by decide +kernel
theorem dX5_task_25 : decode cX5_task 25 = .ok (.getfield 146, 3) := by decide +kernel
theorem dX5_task_28 : decode cX5_task 28 = .ok (.lload_n 3, 1) := by decide +kernel
theorem dX5_task_29 : decode cX5_task 29 = .ok (.lastore, 1) := by decide +kernel
theorem dX5_task_30 : decode cX5_task 30 = .ok (.aload_n 0, 1) := by decide +kernel
theorem dX5_task_31 : decode cX5_task 31 = .ok (.getfield 70, 3) := by decide +kernel
theorem dX5_task_34 : decode cX5_task 34 = .ok (.aload_n 0, 1) := by decide +kernel
theorem dX5_task_35 : decode cX5_task 35 = .ok (.getfield 146, 3) := by decide +kernel
theorem dX5_task_38 : decode cX5_task 38 = .ok (.iload 5, 2) := by decide +kernel
theorem dX5_task_40 : decode cX5_task 40 = .ok (.iastore, 1) := by decide +kernel
theorem dX5_task_41 : decode cX5_task 41 = .ok (.aload_n 0, 1) := by decide +kernel
theorem dX5_task_42 : decode cX5_task 42 = .ok (.dup, 1) := by decide +kernel
theorem dX5_task_43 : decode cX5_task 43 = .ok (.getfield 146, 3) := by decide +kernel
theorem dX5_task_46 : decode cX5_task 46 = .ok (.iconst 1, 1) := by decide +kernel
theorem dX5_task_47 : decode cX5_task 47 = .ok (.iadd, 1) := by decide +kernel
