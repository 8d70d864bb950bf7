theorem dX5_task_48 : decode cX5_task 48 = .ok (.putfield 146, 3) := by decide +kernel
theorem dX5_task_51 : decode cX5_task 51 = .ok (.return_, 1) := by decide +kernel
theorem dX5_row_0 : decode cX5_row 0 = .ok (.aload_n 0, 1) := by decide +kernel
theorem dX5_row_1 : decode cX5_row 1 = .ok (.getfield 149, 3) := by decide +kernel
theorem dX5_row_4 : decode cX5_row 4 = .ok (.sipush 400, 3) := by decide +kernel
theorem dX5_row_7 : decode cX5_row 7 = .ok (.if_icmp .ge 34, 3) := by decide +kernel
theorem dX5_row_10 : decode cX5_row 10 = .ok (.aload_n 0, 1) := by decide +kernel
theorem dX5_row_11 : decode cX5_row 11 = .ok (.getfield 52, 3) := by decide +kernel
theorem dX5_row_14 : decode cX5_row 14 = .ok (.aload_n 0, 1) := by decide +kernel
theorem dX5_row_15 : decode cX5_row 15 = .ok (.getfield 149, 3) := by decide +kernel
theorem dX5_row_18 : decode cX5_row 18 = .ok (.iload_n 1, 1) := by decide +kernel
theorem dX5_row_19 : decode cX5_row 19 = .ok (.iastore, 1) := by decide +kernel
theorem dX5_row_20 : decode cX5_row 20 = .ok (.aload_n 0, 1) := by decide +kernel
theorem dX5_row_21 : decode cX5_row 21 = .ok (.getfield 61, 3) := by decide +kernel
theorem dX5_row_24 : decode cX5_row 24 = .ok (.aload_n 0, 1) := by decide +kernel
theorem dX5_row_25 : decode cX5_row 25 = .ok (.getfield 149, 3) := by decide +kernel
theorem dX5_row_28 : decode cX5_row 28 = .ok (.lload_n 2, 1) := by decide +kernel
theorem dX5_row_29 : decode cX5_row 29 = .ok (.lastore, 1) := by decide +kernel
theorem dX5_row_30 : decode cX5_row 30 = .ok (.aload_n 0, 1) := by decide +kernel
theorem dX5_row_31 : decode cX5_row 31 = .ok (.getfield 55, 3) := by decide +kernel
theorem dX5_row_34 : decode cX5_row 34 = .ok (.aload_n 0, 1) := by decide +kernel
theorem dX5_row_35 : decode cX5_row 35 = .ok (.getfield 149, 3) := by decide +kernel
theorem dX5_row_38 : decode cX5_row 38 = .ok (.iload 4, 2) := by decide +kernel
theorem dX5_row_40 : decode cX5_row 40 = .ok (.iastore, 1) := by decide +kernel
theorem dX5_row_41 : decode cX5_row 41 = .ok (.aload_n 0, 1) := by decide +kernel
theorem dX5_row_42 : decode cX5_row 42 = .ok (.dup, 1) := by decide +kernel
theorem dX5_row_43 : decode cX5_row 43 = .ok (.getfield 149, 3) := by decide +kernel
theorem dX5_row_46 : decode cX5_row 46 = .ok (.iconst 1, 1) := by decide +kernel
theorem dX5_row_47 : decode cX5_row 47 = .ok (.iadd, 1) := by decide +kernel
theorem dX5_row_48 : decode cX5_row 48 = .ok (.putfield 149, 3) := by decide +kernel
theorem dX5_row_51 : decode cX5_row 51 = .ok (.return_, 1) := by decide +kernel
set_option maxRecDepth 20000 in
theorem ggX5_laid_X5_row : GoodIn wsX5_laid wsX5_row := goodIn_r _ [11, 12, 13, 14, 15, 25, 26, 27, 28, 29, 30, 31, 32, 33, 34, 35, 36, 37, 38, 39, 40, 41, 42, 43, 44, 45, 46, 47, 48, 49, 50, 51, 52, 53, 54, 55, 56, 57] (by decide +kernel) (by decide +kernel)
set_option maxRecDepth 20000 in
theorem gX5_laid_X5_row : GoodIn wsX5_laid (wsV RX5 152 RX5 yX5_row wsX5_row) := goodIn_app (goodIn_of _ (by decide +kernel)) ggX5_laid_X5_row
set_option maxRecDepth 20000 in
theorem ggX5_laid_X5_task : GoodIn wsX5_laid wsX5_task := goodIn_r _ [19, 20, 21, 22, 23, 24, 25, 26, 27, 28, 29, 30, 31, 32, 33, 34, 35, 36, 37, 38, 39, 40, 41, 42, 43, 44, 45, 46, 47, 48, 49, 50, 51, 52, 53, 54, 55, 56, 57] (by decide +kernel) (by decide +kernel)
set_option maxRecDepth 20000 in
theorem gX5_laid_X5_task : GoodIn wsX5_laid (wsV RX5 156 RX5 yX5_task wsX5_task) := goodIn_app (goodIn_of _ (by decide +kernel)) ggX5_laid_X5_task
theorem dX5_laid_0 : decode cX5_laid 0 = .ok (.aload_n 0, 1) := by decide +kernel
theorem dX5_laid_1 : decode cX5_laid 1 = .ok (.getfield 26, 3) := by decide +kernel
theorem dX5_laid_4 : decode cX5_laid 4 = .ok (.iload_n 1, 1) := by decide +kernel
theorem dX5_laid_5 : decode cX5_laid 5 = .ok (.iaload, 1) := by decide +kernel
theorem dX5_laid_6 : decode cX5_laid 6 = .ok (.istore_n 2, 1) := by decide +kernel
theorem dX5_laid_7 : decode cX5_laid 7 = .ok (.aload_n 0, 1) := by decide +kernel
theorem dX5_laid_8 : decode cX5_laid 8 = .ok (.getfield 38, 3) := by decide +kernel
theorem dX5_laid_11 : decode cX5_laid 11 = .ok (.iload_n 1, 1) := by decide +kernel
theorem dX5_laid_12 : decode cX5_laid 12 = .ok (.baload, 1) := by decide +kernel
theorem dX5_laid_13 : decode cX5_laid 13 = .ok (.ifCond .eq 16, 3) := by decide +kernel
theorem dX5_laid_16 : decode cX5_laid 16 = .ok (.aload_n 0, 1) := by decide +kernel
theorem dX5_laid_17 : decode cX5_laid 17 = .ok (.iconst 0, 1) := by decide +kernel
theorem dX5_laid_18 : decode cX5_laid 18 = .ok (.aload_n 0, 1) := by decide +kernel
theorem dX5_laid_19 : decode cX5_laid 19 = .ok (.getfield 42, 3) := by decide +kernel
theorem dX5_laid_22 : decode cX5_laid 22 = .ok (.iload_n 1, 1) := by decide +kernel
theorem dX5_laid_23 : decode cX5_laid 23 = .ok (.laload, 1) := by decide +kernel
theorem dX5_laid_24 : decode cX5_laid 24 = .ok (.iconst 0, 1) := by decide +kernel
theorem dX5_laid_25 : decode cX5_laid 25 = .ok (.invokevirtual 152, 3) := by decide +kernel
theorem dX5_laid_28 : decode cX5_laid 28 = .ok (.return_, 1) := by decide +kernel
theorem dX5_laid_29 : decode cX5_laid 29 = .ok (.iload_n 2, 1) := by decide +kernel
theorem dX5_laid_30 : decode cX5_laid 30 = .ok (.tableswitch 257 1 13 #[66, 82, 257, 257, 257, 257, 257, 257, 82, 113, 169, 200, 200], 66) := by decide +kernel
theorem dX5_laid_96 : decode cX5_laid 96 = .ok (.aload_n 0, 1) := by decide +kernel
theorem dX5_laid_97 : decode cX5_laid 97 = .ok (.iconst 1, 1) := by decide +kernel
theorem dX5_laid_98 : decode cX5_laid 98 = .ok (.aload_n 0, 1) := by decide +kernel
theorem dX5_laid_99 : decode cX5_laid 99 = .ok (.getfield 29, 3) := by decide +kernel
theorem dX5_laid_102 : decode cX5_laid 102 = .ok (.iload_n 1, 1) := by decide +kernel
theorem dX5_laid_103 : decode cX5_laid 103 = .ok (.iaload, 1) := by decide +kernel
theorem dX5_laid_104 : decode cX5_laid 104 = .ok (.i2l, 1) := by decide +kernel
theorem dX5_laid_105 : decode cX5_laid 105 = .ok (.iconst 0, 1) := by decide +kernel
theorem dX5_laid_106 : decode cX5_laid 106 = .ok (.invokevirtual 152, 3) := by decide +kernel
theorem dX5_laid_109 : decode cX5_laid 109 = .ok (.goto 219, 3) := by decide +kernel
theorem dX5_laid_112 : decode cX5_laid 112 = .ok (.aload_n 0, 1) := by decide +kernel
theorem dX5_laid_113 : decode cX5_laid 113 = .ok (.iconst 2, 1) := by decide +kernel
theorem dX5_laid_114 : decode cX5_laid 114 = .ok (.iload_n 2, 1) := by decide +kernel
theorem dX5_laid_115 : decode cX5_laid 115 = .ok (.aload_n 0, 1) := by decide +kernel
theorem dX5_laid_116 : decode cX5_laid 116 = .ok (.getfield 29, 3) := by decide +kernel
theorem dX5_laid_119 : decode cX5_laid 119 = .ok (.iload_n 1, 1) := by decide +kernel
theorem dX5_laid_120 : decode cX5_laid 120 = .ok (.iaload, 1) := by decide +kernel
theorem dX5_laid_121 : decode cX5_laid 121 = .ok (.i2l, 1) := by decide +kernel
theorem dX5_laid_122 : decode cX5_laid 122 = .ok (.iconst 0, 1) := by decide +kernel
theorem dX5_laid_123 : decode cX5_laid 123 = .ok (.invokevirtual 156, 3) := by decide +kernel
theorem dX5_laid_126 : decode cX5_laid 126 = .ok (.aload_n 0, 1) := by decide +kernel
theorem dX5_laid_127 : decode cX5_laid 127 = .ok (.iconst 0, 1) := by decide +kernel
theorem dX5_laid_128 : decode cX5_laid 128 = .ok (.iconst 0, 1) := by decide +kernel
theorem dX5_laid_129 : decode cX5_laid 129 = .ok (.aload_n 0, 1) := by decide +kernel
theorem dX5_laid_130 : decode cX5_laid 130 = .ok (.getfield 32, 3) := by decide +kernel
theorem dX5_laid_133 : decode cX5_laid 133 = .ok (.iload_n 1, 1) := by decide +kernel
theorem dX5_laid_134 : decode cX5_laid 134 = .ok (.iaload, 1) := by decide +kernel
theorem dX5_laid_135 : decode cX5_laid 135 = .ok (.i2l, 1) := by decide +kernel
theorem dX5_laid_136 : decode cX5_laid 136 = .ok (.iconst 0, 1) := by decide +kernel
theorem dX5_laid_137 : decode cX5_laid 137 = .ok (.invokevirtual 156, 3) := by decide +kernel
theorem dX5_laid_140 : decode cX5_laid 140 = .ok (.goto 188, 3) := by decide +kernel
theorem dX5_laid_143 : decode cX5_laid 143 = .ok (.aload_n 0, 1) := by decide +kernel
theorem dX5_laid_144 : decode cX5_laid 144 = .ok (.iconst 2, 1) := by decide +kernel
theorem dX5_laid_145 : decode cX5_laid 145 = .ok (.bipush 10, 2) := by decide +kernel
theorem dX5_laid_147 : decode cX5_laid 147 = .ok (.aload_n 0, 1) := by decide +kernel
theorem dX5_laid_148 : decode cX5_laid 148 = .ok (.getfield 29, 3) := by decide +kernel
theorem dX5_laid_151 : decode cX5_laid 151 = .ok (.iload_n 1, 1) := by decide +kernel
theorem dX5_laid_152 : decode cX5_laid 152 = .ok (.iaload, 1) := by decide +kernel
theorem dX5_laid_153 : decode cX5_laid 153 = .ok (.i2l, 1) := by decide +kernel
theorem dX5_laid_154 : decode cX5_laid 154 = .ok (.iconst 0, 1) := by decide +kernel
theorem dX5_laid_155 : decode cX5_laid 155 = .ok (.invokevirtual 156, 3) := by decide +kernel
theorem dX5_laid_158 : decode cX5_laid 158 = .ok (.aload_n 0, 1) := by decide +kernel
theorem dX5_laid_159 : decode cX5_laid 159 = .ok (.iconst 0, 1) := by decide +kernel
theorem dX5_laid_160 : decode cX5_laid 160 = .ok (.iconst 0, 1) := by decide +kernel
theorem dX5_laid_161 : decode cX5_laid 161 = .ok (.aload_n 0, 1) := by decide +kernel
theorem dX5_laid_162 : decode cX5_laid 162 = .ok (.getfield 32, 3) := by decide +kernel
theorem dX5_laid_165 : decode cX5_laid 165 = .ok (.aload_n 0, 1) := by decide +kernel
theorem dX5_laid_166 : decode cX5_laid 166 = .ok (.getfield 32, 3) := by decide +kernel
theorem dX5_laid_169 : decode cX5_laid 169 = .ok (.iload_n 1, 1) := by decide +kernel
theorem dX5_laid_170 : decode cX5_laid 170 = .ok (.iaload, 1) := by decide +kernel
theorem dX5_laid_171 : decode cX5_laid 171 = .ok (.iaload, 1) := by decide +kernel
theorem dX5_laid_172 : decode cX5_laid 172 = .ok (.i2l, 1) := by decide +kernel
theorem dX5_laid_173 : decode cX5_laid 173 = .ok (.iconst 0, 1) := by decide +kernel
theorem dX5_laid_174 : decode cX5_laid 174 = .ok (.invokevirtual 156, 3) := by decide +kernel
theorem dX5_laid_177 : decode cX5_laid 177 = .ok (.aload_n 0, 1) := by decide +kernel
theorem dX5_laid_178 : decode cX5_laid 178 = .ok (.iconst 0, 1) := by decide +kernel
theorem dX5_laid_179 : decode cX5_laid 179 = .ok (.iconst 0, 1) := by decide +kernel
theorem dX5_laid_180 : decode cX5_laid 180 = .ok (.aload_n 0, 1) := by decide +kernel
theorem dX5_laid_181 : decode cX5_laid 181 = .ok (.getfield 29, 3) := by decide +kernel
theorem dX5_laid_184 : decode cX5_laid 184 = .ok (.aload_n 0, 1) := by decide +kernel
theorem dX5_laid_185 : decode cX5_laid 185 = .ok (.getfield 32, 3) := by decide +kernel
theorem dX5_laid_188 : decode cX5_laid 188 = .ok (.iload_n 1, 1) := by decide +kernel
theorem dX5_laid_189 : decode cX5_laid 189 = .ok (.iaload, 1) := by decide +kernel
theorem dX5_laid_190 : decode cX5_laid 190 = .ok (.iaload, 1) := by decide +kernel
theorem dX5_laid_191 : decode cX5_laid 191 = .ok (.i2l, 1) := by decide +kernel
theorem dX5_laid_192 : decode cX5_laid 192 = .ok (.iconst 0, 1) := by decide +kernel
theorem dX5_laid_193 : decode cX5_laid 193 = .ok (.invokevirtual 156, 3) := by decide +kernel
theorem dX5_laid_196 : decode cX5_laid 196 = .ok (.goto 132, 3) := by decide +kernel
theorem dX5_laid_199 : decode cX5_laid 199 = .ok (.aload_n 0, 1) := by decide +kernel
theorem dX5_laid_200 : decode cX5_laid 200 = .ok (.iconst 1, 1) := by decide +kernel
theorem dX5_laid_201 : decode cX5_laid 201 = .ok (.iconst 0, 1) := by decide +kernel
theorem dX5_laid_202 : decode cX5_laid 202 = .ok (.aload_n 0, 1) := by decide +kernel
theorem dX5_laid_203 : decode cX5_laid 203 = .ok (.getfield 32, 3) := by decide +kernel
theorem dX5_laid_206 : decode cX5_laid 206 = .ok (.iload_n 1, 1) := by decide +kernel
theorem dX5_laid_207 : decode cX5_laid 207 = .ok (.iaload, 1) := by decide +kernel
theorem dX5_laid_208 : decode cX5_laid 208 = .ok (.i2l, 1) := by decide +kernel
theorem dX5_laid_209 : decode cX5_laid 209 = .ok (.iconst 0, 1) := by decide +kernel
theorem dX5_laid_210 : decode cX5_laid 210 = .ok (.invokevirtual 156, 3) := by decide +kernel
theorem dX5_laid_213 : decode cX5_laid 213 = .ok (.aload_n 0, 1) := by decide +kernel
theorem dX5_laid_214 : decode cX5_laid 214 = .ok (.iconst 1, 1) := by decide +kernel
theorem dX5_laid_215 : decode cX5_laid 215 = .ok (.iconst 0, 1) := by decide +kernel
theorem dX5_laid_216 : decode cX5_laid 216 = .ok (.aload_n 0, 1) := by decide +kernel
theorem dX5_laid_217 : decode cX5_laid 217 = .ok (.getfield 29, 3) := by decide +kernel
theorem dX5_laid_220 : decode cX5_laid 220 = .ok (.iload_n 1, 1) := by decide +kernel
theorem dX5_laid_221 : decode cX5_laid 221 = .ok (.iaload, 1) := by decide +kernel
theorem dX5_laid_222 : decode cX5_laid 222 = .ok (.i2l, 1) := by decide +kernel
theorem dX5_laid_223 : decode cX5_laid 223 = .ok (.iconst 0, 1) := by decide +kernel
theorem dX5_laid_224 : decode cX5_laid 224 = .ok (.invokevirtual 156, 3) := by decide +kernel
theorem dX5_laid_227 : decode cX5_laid 227 = .ok (.goto 101, 3) := by decide +kernel
theorem dX5_laid_230 : decode cX5_laid 230 = .ok (.aload_n 0, 1) := by decide +kernel
theorem dX5_laid_231 : decode cX5_laid 231 = .ok (.iload_n 2, 1) := by decide +kernel
theorem dX5_laid_232 : decode cX5_laid 232 = .ok (.bipush 12, 2) := by decide +kernel
theorem dX5_laid_234 : decode cX5_laid 234 = .ok (.if_icmp .ne 7, 3) := by decide +kernel
theorem dX5_laid_237 : decode cX5_laid 237 = .ok (.iconst 4, 1) := by decide +kernel
theorem dX5_laid_238 : decode cX5_laid 238 = .ok (.goto 4, 3) := by decide +kernel
theorem dX5_laid_241 : decode cX5_laid 241 = .ok (.iconst 5, 1) := by decide +kernel
theorem dX5_laid_242 : decode cX5_laid 242 = .ok (.iconst 0, 1) := by decide +kernel
theorem dX5_laid_243 : decode cX5_laid 243 = .ok (.lconst 0, 1) := by decide +kernel
theorem dX5_laid_244 : decode cX5_laid 244 = .ok (.iconst 0, 1) := by decide +kernel
theorem dX5_laid_245 : decode cX5_laid 245 = .ok (.invokevirtual 156, 3) := by decide +kernel
theorem dX5_laid_248 : decode cX5_laid 248 = .ok (.aload_n 0, 1) := by decide +kernel
theorem dX5_laid_249 : decode cX5_laid 249 = .ok (.iconst 1, 1) := by decide +kernel
theorem dX5_laid_250 : decode cX5_laid 250 = .ok (.iconst 0, 1) := by decide +kernel
theorem dX5_laid_251 : decode cX5_laid 251 = .ok (.aload_n 0, 1) := by decide +kernel
theorem dX5_laid_252 : decode cX5_laid 252 = .ok (.getfield 32, 3) := by decide +kernel
theorem dX5_laid_255 : decode cX5_laid 255 = .ok (.iload_n 1, 1) := by decide +kernel
theorem dX5_laid_256 : decode cX5_laid 256 = .ok (.iaload, 1) := by decide +kernel
theorem dX5_laid_257 : decode cX5_laid 257 = .ok (.i2l, 1) := by decide +kernel
theorem dX5_laid_258 : decode cX5_laid 258 = .ok (.iconst 0, 1) := by decide +kernel
theorem dX5_laid_259 : decode cX5_laid 259 = .ok (.invokevirtual 156, 3) := by decide +kernel
theorem dX5_laid_262 : decode cX5_laid 262 = .ok (.aload_n 0, 1) := by decide +kernel
theorem dX5_laid_263 : decode cX5_laid 263 = .ok (.iconst 3, 1) := by decide +kernel
theorem dX5_laid_264 : decode cX5_laid 264 = .ok (.iload_n 2, 1) := by decide +kernel
theorem dX5_laid_265 : decode cX5_laid 265 = .ok (.lconst 0, 1) := by decide +kernel
