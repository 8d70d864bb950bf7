theorem dX5_laid_266 : decode cX5_laid 266 = .ok (.iconst 0, 1) := by decide +kernel
theorem dX5_laid_267 : decode cX5_laid 267 = .ok (.invokevirtual 156, 3) := by decide +kernel
theorem dX5_laid_270 : decode cX5_laid 270 = .ok (.aload_n 0, 1) := by decide +kernel
theorem dX5_laid_271 : decode cX5_laid 271 = .ok (.iconst 0, 1) := by decide +kernel
theorem dX5_laid_272 : decode cX5_laid 272 = .ok (.iconst 0, 1) := by decide +kernel
theorem dX5_laid_273 : decode cX5_laid 273 = .ok (.aload_n 0, 1) := by decide +kernel
theorem dX5_laid_274 : decode cX5_laid 274 = .ok (.getfield 29, 3) := by decide +kernel
theorem dX5_laid_277 : decode cX5_laid 277 = .ok (.iload_n 1, 1) := by decide +kernel
theorem dX5_laid_278 : decode cX5_laid 278 = .ok (.iaload, 1) := by decide +kernel
theorem dX5_laid_279 : decode cX5_laid 279 = .ok (.i2l, 1) := by decide +kernel
theorem dX5_laid_280 : decode cX5_laid 280 = .ok (.iconst 0, 1) := by decide +kernel
theorem dX5_laid_281 : decode cX5_laid 281 = .ok (.invokevirtual 156, 3) := by decide +kernel
theorem dX5_laid_284 : decode cX5_laid 284 = .ok (.goto 44, 3) := by decide +kernel
theorem dX5_laid_287 : decode cX5_laid 287 = .ok (.aload_n 0, 1) := by decide +kernel
theorem dX5_laid_288 : decode cX5_laid 288 = .ok (.iconst 2, 1) := by decide +kernel
theorem dX5_laid_289 : decode cX5_laid 289 = .ok (.iload_n 2, 1) := by decide +kernel
theorem dX5_laid_290 : decode cX5_laid 290 = .ok (.lconst 0, 1) := by decide +kernel
theorem dX5_laid_291 : decode cX5_laid 291 = .ok (.aload_n 0, 1) := by decide +kernel
theorem dX5_laid_292 : decode cX5_laid 292 = .ok (.getfield 35, 3) := by decide +kernel
theorem dX5_laid_295 : decode cX5_laid 295 = .ok (.iload_n 1, 1) := by decide +kernel
theorem dX5_laid_296 : decode cX5_laid 296 = .ok (.iaload, 1) := by decide +kernel
theorem dX5_laid_297 : decode cX5_laid 297 = .ok (.invokevirtual 156, 3) := by decide +kernel
theorem dX5_laid_300 : decode cX5_laid 300 = .ok (.aload_n 0, 1) := by decide +kernel
theorem dX5_laid_301 : decode cX5_laid 301 = .ok (.iconst 0, 1) := by decide +kernel
theorem dX5_laid_302 : decode cX5_laid 302 = .ok (.iconst 0, 1) := by decide +kernel
theorem dX5_laid_303 : decode cX5_laid 303 = .ok (.aload_n 0, 1) := by decide +kernel
theorem dX5_laid_304 : decode cX5_laid 304 = .ok (.getfield 32, 3) := by decide +kernel
theorem dX5_laid_307 : decode cX5_laid 307 = .ok (.iload_n 1, 1) := by decide +kernel
theorem dX5_laid_308 : decode cX5_laid 308 = .ok (.iaload, 1) := by decide +kernel
theorem dX5_laid_309 : decode cX5_laid 309 = .ok (.i2l, 1) := by decide +kernel
theorem dX5_laid_310 : decode cX5_laid 310 = .ok (.iconst 0, 1) := by decide +kernel
theorem dX5_laid_311 : decode cX5_laid 311 = .ok (.invokevirtual 156, 3) := by decide +kernel
theorem dX5_laid_314 : decode cX5_laid 314 = .ok (.aload_n 0, 1) := by decide +kernel
theorem dX5_laid_315 : decode cX5_laid 315 = .ok (.iconst 0, 1) := by decide +kernel
theorem dX5_laid_316 : decode cX5_laid 316 = .ok (.iconst 0, 1) := by decide +kernel
theorem dX5_laid_317 : decode cX5_laid 317 = .ok (.aload_n 0, 1) := by decide +kernel
theorem dX5_laid_318 : decode cX5_laid 318 = .ok (.getfield 29, 3) := by decide +kernel
theorem dX5_laid_321 : decode cX5_laid 321 = .ok (.iload_n 1, 1) := by decide +kernel
theorem dX5_laid_322 : decode cX5_laid 322 = .ok (.iaload, 1) := by decide +kernel
theorem dX5_laid_323 : decode cX5_laid 323 = .ok (.i2l, 1) := by decide +kernel
theorem dX5_laid_324 : decode cX5_laid 324 = .ok (.iconst 0, 1) := by decide +kernel
theorem dX5_laid_325 : decode cX5_laid 325 = .ok (.invokevirtual 156, 3) := by decide +kernel
theorem dX5_laid_328 : decode cX5_laid 328 = .ok (.return_, 1) := by decide +kernel
set_option maxRecDepth 20000 in
theorem ggX5_made_X5_task : GoodIn wsX5_made wsX5_task := goodIn_r _ [15, 4, 2, 7, 5, 8, 31, 32, 33, 34, 35, 36, 37, 38, 39, 40, 41, 42, 43, 44, 45, 46, 47, 48, 49, 50, 51, 52, 53, 54, 55, 56, 57, 58, 59, 60, 61, 62, 63] (by decide +kernel) (by decide +kernel)
set_option maxRecDepth 20000 in
theorem gX5_made_X5_task : GoodIn wsX5_made (wsV RX5 156 RX5 yX5_task wsX5_task) := goodIn_app (goodIn_of _ (by decide +kernel)) ggX5_made_X5_task
set_option maxRecDepth 20000 in
theorem ggX5_made_X5_laid : GoodIn wsX5_made wsX5_laid := goodIn_r _ [19, 6, 20, 21, 22, 23, 24, 25, 26, 27, 14, 28, 1, 29, 10, 30, 11, 12, 13, 15, 4, 2, 7, 5, 8, 31, 32, 33, 34, 35, 36, 37, 38, 39, 40, 41, 42, 43, 44, 45, 46, 47, 48, 49, 50, 51, 52, 53, 54, 55, 56, 57, 58, 59, 60, 61, 62, 63] (by decide +kernel) (by decide +kernel)
set_option maxRecDepth 20000 in
theorem gX5_made_X5_laid : GoodIn wsX5_made (wsV RX5 163 RX5 yX5_laid wsX5_laid) := goodIn_app (goodIn_of _ (by decide +kernel)) ggX5_made_X5_laid
set_option maxRecDepth 20000 in
theorem ggX5_made_X5_row : GoodIn wsX5_made wsX5_row := goodIn_r _ [28, 1, 29, 10, 30, 31, 32, 33, 34, 35, 36, 37, 38, 39, 40, 41, 42, 43, 44, 45, 46, 47, 48, 49, 50, 51, 52, 53, 54, 55, 56, 57, 58, 59, 60, 61, 62, 63] (by decide +kernel) (by decide +kernel)
set_option maxRecDepth 20000 in
theorem gX5_made_X5_row : GoodIn wsX5_made (wsV RX5 152 RX5 yX5_row wsX5_row) := goodIn_app (goodIn_of _ (by decide +kernel)) ggX5_made_X5_row
theorem dX5_made_0 : decode cX5_made 0 = .ok (.aload_n 0, 1) := by decide +kernel
theorem dX5_made_1 : decode cX5_made 1 = .ok (.iconst 0, 1) := by decide +kernel
theorem dX5_made_2 : decode cX5_made 2 = .ok (.putfield 149, 3) := by decide +kernel
theorem dX5_made_5 : decode cX5_made 5 = .ok (.aload_n 0, 1) := by decide +kernel
theorem dX5_made_6 : decode cX5_made 6 = .ok (.iconst 0, 1) := by decide +kernel
theorem dX5_made_7 : decode cX5_made 7 = .ok (.putfield 146, 3) := by decide +kernel
theorem dX5_made_10 : decode cX5_made 10 = .ok (.aload_n 0, 1) := by decide +kernel
theorem dX5_made_11 : decode cX5_made 11 = .ok (.iconst 0, 1) := by decide +kernel
theorem dX5_made_12 : decode cX5_made 12 = .ok (.putfield 160, 3) := by decide +kernel
theorem dX5_made_15 : decode cX5_made 15 = .ok (.aload_n 0, 1) := by decide +kernel
theorem dX5_made_16 : decode cX5_made 16 = .ok (.iconst 0, 1) := by decide +kernel
theorem dX5_made_17 : decode cX5_made 17 = .ok (.iconst 0, 1) := by decide +kernel
theorem dX5_made_18 : decode cX5_made 18 = .ok (.iload_n 1, 1) := by decide +kernel
theorem dX5_made_19 : decode cX5_made 19 = .ok (.i2l, 1) := by decide +kernel
theorem dX5_made_20 : decode cX5_made 20 = .ok (.iconst 0, 1) := by decide +kernel
theorem dX5_made_21 : decode cX5_made 21 = .ok (.invokevirtual 156, 3) := by decide +kernel
theorem dX5_made_24 : decode cX5_made 24 = .ok (.aload_n 0, 1) := by decide +kernel
theorem dX5_made_25 : decode cX5_made 25 = .ok (.getfield 146, 3) := by decide +kernel
theorem dX5_made_28 : decode cX5_made 28 = .ok (.ifCond .le 239, 3) := by decide +kernel
theorem dX5_made_31 : decode cX5_made 31 = .ok (.aload_n 0, 1) := by decide +kernel
theorem dX5_made_32 : decode cX5_made 32 = .ok (.getfield 149, 3) := by decide +kernel
theorem dX5_made_35 : decode cX5_made 35 = .ok (.sipush 400, 3) := by decide +kernel
theorem dX5_made_38 : decode cX5_made 38 = .ok (.if_icmp .gt 229, 3) := by decide +kernel
theorem dX5_made_41 : decode cX5_made 41 = .ok (.aload_n 0, 1) := by decide +kernel
theorem dX5_made_42 : decode cX5_made 42 = .ok (.dup, 1) := by decide +kernel
theorem dX5_made_43 : decode cX5_made 43 = .ok (.getfield 146, 3) := by decide +kernel
theorem dX5_made_46 : decode cX5_made 46 = .ok (.iconst 1, 1) := by decide +kernel
theorem dX5_made_47 : decode cX5_made 47 = .ok (.isub, 1) := by decide +kernel
theorem dX5_made_48 : decode cX5_made 48 = .ok (.putfield 146, 3) := by decide +kernel
theorem dX5_made_51 : decode cX5_made 51 = .ok (.aload_n 0, 1) := by decide +kernel
theorem dX5_made_52 : decode cX5_made 52 = .ok (.getfield 64, 3) := by decide +kernel
theorem dX5_made_55 : decode cX5_made 55 = .ok (.aload_n 0, 1) := by decide +kernel
theorem dX5_made_56 : decode cX5_made 56 = .ok (.getfield 146, 3) := by decide +kernel
theorem dX5_made_59 : decode cX5_made 59 = .ok (.iaload, 1) := by decide +kernel
theorem dX5_made_60 : decode cX5_made 60 = .ok (.istore_n 2, 1) := by decide +kernel
theorem dX5_made_61 : decode cX5_made 61 = .ok (.aload_n 0, 1) := by decide +kernel
theorem dX5_made_62 : decode cX5_made 62 = .ok (.getfield 76, 3) := by decide +kernel
theorem dX5_made_65 : decode cX5_made 65 = .ok (.aload_n 0, 1) := by decide +kernel
theorem dX5_made_66 : decode cX5_made 66 = .ok (.getfield 146, 3) := by decide +kernel
theorem dX5_made_69 : decode cX5_made 69 = .ok (.laload, 1) := by decide +kernel
theorem dX5_made_70 : decode cX5_made 70 = .ok (.l2i, 1) := by decide +kernel
theorem dX5_made_71 : decode cX5_made 71 = .ok (.istore_n 3, 1) := by decide +kernel
theorem dX5_made_72 : decode cX5_made 72 = .ok (.iload_n 2, 1) := by decide +kernel
theorem dX5_made_73 : decode cX5_made 73 = .ok (.ifCond .ne 11, 3) := by decide +kernel
theorem dX5_made_76 : decode cX5_made 76 = .ok (.aload_n 0, 1) := by decide +kernel
theorem dX5_made_77 : decode cX5_made 77 = .ok (.iload_n 3, 1) := by decide +kernel
theorem dX5_made_78 : decode cX5_made 78 = .ok (.invokevirtual 163, 3) := by decide +kernel
theorem dX5_made_81 : decode cX5_made 81 = .ok (.goto 183, 3) := by decide +kernel
theorem dX5_made_84 : decode cX5_made 84 = .ok (.iload_n 2, 1) := by decide +kernel
theorem dX5_made_85 : decode cX5_made 85 = .ok (.iconst 1, 1) := by decide +kernel
theorem dX5_made_86 : decode cX5_made 86 = .ok (.if_icmp .ne 35, 3) := by decide +kernel
theorem dX5_made_89 : decode cX5_made 89 = .ok (.aload_n 0, 1) := by decide +kernel
theorem dX5_made_90 : decode cX5_made 90 = .ok (.getfield 26, 3) := by decide +kernel
theorem dX5_made_93 : decode cX5_made 93 = .ok (.iload_n 3, 1) := by decide +kernel
theorem dX5_made_94 : decode cX5_made 94 = .ok (.iaload, 1) := by decide +kernel
theorem dX5_made_95 : decode cX5_made 95 = .ok (.bipush 9, 2) := by decide +kernel
theorem dX5_made_97 : decode cX5_made 97 = .ok (.if_icmp .ge 12, 3) := by decide +kernel
theorem dX5_made_100 : decode cX5_made 100 = .ok (.aload_n 0, 1) := by decide +kernel
theorem dX5_made_101 : decode cX5_made 101 = .ok (.iconst 2, 1) := by decide +kernel
theorem dX5_made_102 : decode cX5_made 102 = .ok (.bipush 15, 2) := by decide +kernel
theorem dX5_made_104 : decode cX5_made 104 = .ok (.lconst 0, 1) := by decide +kernel
theorem dX5_made_105 : decode cX5_made 105 = .ok (.iconst 0, 1) := by decide +kernel
theorem dX5_made_106 : decode cX5_made 106 = .ok (.invokevirtual 156, 3) := by decide +kernel
theorem dX5_made_109 : decode cX5_made 109 = .ok (.aload_n 0, 1) := by decide +kernel
theorem dX5_made_110 : decode cX5_made 110 = .ok (.iconst 0, 1) := by decide +kernel
theorem dX5_made_111 : decode cX5_made 111 = .ok (.iconst 0, 1) := by decide +kernel
theorem dX5_made_112 : decode cX5_made 112 = .ok (.iload_n 3, 1) := by decide +kernel
theorem dX5_made_113 : decode cX5_made 113 = .ok (.i2l, 1) := by decide +kernel
theorem dX5_made_114 : decode cX5_made 114 = .ok (.iconst 0, 1) := by decide +kernel
theorem dX5_made_115 : decode cX5_made 115 = .ok (.invokevirtual 156, 3) := by decide +kernel
theorem dX5_made_118 : decode cX5_made 118 = .ok (.goto 146, 3) := by decide +kernel
theorem dX5_made_121 : decode cX5_made 121 = .ok (.iload_n 2, 1) := by decide +kernel
theorem dX5_made_122 : decode cX5_made 122 = .ok (.iconst 2, 1) := by decide +kernel
theorem dX5_made_123 : decode cX5_made 123 = .ok (.if_icmp .ne 37, 3) := by decide +kernel
theorem dX5_made_126 : decode cX5_made 126 = .ok (.aload_n 0, 1) := by decide +kernel
theorem dX5_made_127 : decode cX5_made 127 = .ok (.aload_n 0, 1) := by decide +kernel
theorem dX5_made_128 : decode cX5_made 128 = .ok (.getfield 67, 3) := by decide +kernel
theorem dX5_made_131 : decode cX5_made 131 = .ok (.aload_n 0, 1) := by decide +kernel
theorem dX5_made_132 : decode cX5_made 132 = .ok (.getfield 146, 3) := by decide +kernel
theorem dX5_made_135 : decode cX5_made 135 = .ok (.iaload, 1) := by decide +kernel
theorem dX5_made_136 : decode cX5_made 136 = .ok (.aload_n 0, 1) := by decide +kernel
theorem dX5_made_137 : decode cX5_made 137 = .ok (.getfield 76, 3) := by decide +kernel
theorem dX5_made_140 : decode cX5_made 140 = .ok (.aload_n 0, 1) := by decide +kernel
theorem dX5_made_141 : decode cX5_made 141 = .ok (.getfield 146, 3) := by decide +kernel
theorem dX5_made_144 : decode cX5_made 144 = .ok (.laload, 1) := by decide +kernel
theorem dX5_made_145 : decode cX5_made 145 = .ok (.aload_n 0, 1) := by decide +kernel
theorem dX5_made_146 : decode cX5_made 146 = .ok (.getfield 70, 3) := by decide +kernel
theorem dX5_made_149 : decode cX5_made 149 = .ok (.aload_n 0, 1) := by decide +kernel
theorem dX5_made_150 : decode cX5_made 150 = .ok (.getfield 146, 3) := by decide +kernel
theorem dX5_made_153 : decode cX5_made 153 = .ok (.iaload, 1) := by decide +kernel
theorem dX5_made_154 : decode cX5_made 154 = .ok (.invokevirtual 152, 3) := by decide +kernel
theorem dX5_made_157 : decode cX5_made 157 = .ok (.goto 107, 3) := by decide +kernel
theorem dX5_made_160 : decode cX5_made 160 = .ok (.iload_n 2, 1) := by decide +kernel
theorem dX5_made_161 : decode cX5_made 161 = .ok (.iconst 3, 1) := by decide +kernel
theorem dX5_made_162 : decode cX5_made 162 = .ok (.if_icmp .ne 44, 3) := by decide +kernel
theorem dX5_made_165 : decode cX5_made 165 = .ok (.aload_n 0, 1) := by decide +kernel
theorem dX5_made_166 : decode cX5_made 166 = .ok (.getfield 73, 3) := by decide +kernel
theorem dX5_made_169 : decode cX5_made 169 = .ok (.aload_n 0, 1) := by decide +kernel
theorem dX5_made_170 : decode cX5_made 170 = .ok (.getfield 160, 3) := by decide +kernel
theorem dX5_made_173 : decode cX5_made 173 = .ok (.aload_n 0, 1) := by decide +kernel
theorem dX5_made_174 : decode cX5_made 174 = .ok (.getfield 149, 3) := by decide +kernel
theorem dX5_made_177 : decode cX5_made 177 = .ok (.iastore, 1) := by decide +kernel
theorem dX5_made_178 : decode cX5_made 178 = .ok (.aload_n 0, 1) := by decide +kernel
theorem dX5_made_179 : decode cX5_made 179 = .ok (.dup, 1) := by decide +kernel
theorem dX5_made_180 : decode cX5_made 180 = .ok (.getfield 160, 3) := by decide +kernel
theorem dX5_made_183 : decode cX5_made 183 = .ok (.iconst 1, 1) := by decide +kernel
theorem dX5_made_184 : decode cX5_made 184 = .ok (.iadd, 1) := by decide +kernel
theorem dX5_made_185 : decode cX5_made 185 = .ok (.putfield 160, 3) := by decide +kernel
theorem dX5_made_188 : decode cX5_made 188 = .ok (.aload_n 0, 1) := by decide +kernel
theorem dX5_made_189 : decode cX5_made 189 = .ok (.aload_n 0, 1) := by decide +kernel
theorem dX5_made_190 : decode cX5_made 190 = .ok (.getfield 67, 3) := by decide +kernel
theorem dX5_made_193 : decode cX5_made 193 = .ok (.aload_n 0, 1) := by decide +kernel
theorem dX5_made_194 : decode cX5_made 194 = .ok (.getfield 146, 3) := by decide +kernel
theorem dX5_made_197 : decode cX5_made 197 = .ok (.iaload, 1) := by decide +kernel
theorem dX5_made_198 : decode cX5_made 198 = .ok (.lconst 0, 1) := by decide +kernel
theorem dX5_made_199 : decode cX5_made 199 = .ok (.iconst 0, 1) := by decide +kernel
theorem dX5_made_200 : decode cX5_made 200 = .ok (.invokevirtual 152, 3) := by decide +kernel
theorem dX5_made_203 : decode cX5_made 203 = .ok (.goto 61, 3) := by decide +kernel
theorem dX5_made_206 : decode cX5_made 206 = .ok (.aload_n 0, 1) := by decide +kernel
theorem dX5_made_207 : decode cX5_made 207 = .ok (.dup, 1) := by decide +kernel
theorem dX5_made_208 : decode cX5_made 208 = .ok (.getfield 160, 3) := by decide +kernel
