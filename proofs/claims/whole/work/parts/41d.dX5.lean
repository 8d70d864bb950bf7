theorem dX5_step_19 : decode cX5_step 19 = .ok (.aload_n 0, 1) := by decide +kernel
theorem dX5_step_20 : decode cX5_step 20 = .ok (.getfield 52, 3) := by decide +kernel
theorem dX5_step_23 : decode cX5_step 23 = .ok (.iload 5, 2) := by decide +kernel
theorem dX5_step_25 : decode cX5_step 25 = .ok (.iaload, 1) := by decide +kernel
theorem dX5_step_26 : decode cX5_step 26 = .ok (.istore 6, 2) := by decide +kernel
theorem dX5_step_28 : decode cX5_step 28 = .ok (.aload_n 0, 1) := by decide +kernel
theorem dX5_step_29 : decode cX5_step 29 = .ok (.getfield 61, 3) := by decide +kernel
theorem dX5_step_32 : decode cX5_step 32 = .ok (.iload 5, 2) := by decide +kernel
theorem dX5_step_34 : decode cX5_step 34 = .ok (.laload, 1) := by decide +kernel
theorem dX5_step_35 : decode cX5_step 35 = .ok (.lstore 7, 2) := by decide +kernel
theorem dX5_step_37 : decode cX5_step 37 = .ok (.lload 7, 2) := by decide +kernel
theorem dX5_step_39 : decode cX5_step 39 = .ok (.l2i, 1) := by decide +kernel
theorem dX5_step_40 : decode cX5_step 40 = .ok (.istore 9, 2) := by decide +kernel
theorem dX5_step_42 : decode cX5_step 42 = .ok (.iinc 5 1, 3) := by decide +kernel
theorem dX5_step_45 : decode cX5_step 45 = .ok (.iconst 0, 1) := by decide +kernel
theorem dX5_step_46 : decode cX5_step 46 = .ok (.istore 10, 2) := by decide +kernel
theorem dX5_step_48 : decode cX5_step 48 = .ok (.iload 6, 2) := by decide +kernel
theorem dX5_step_50 : decode cX5_step 50 = .ok (.tableswitch 390 0 15 #[78, 92, 118, 390, 390, 390, 390, 390, 390, 162, 162, 390, 251, 277, 277, 384], 78) := by decide +kernel
theorem dX5_step_128 : decode cX5_step 128 = .ok (.aload_n 0, 1) := by decide +kernel
theorem dX5_step_129 : decode cX5_step 129 = .ok (.getfield 79, 3) := by decide +kernel
theorem dX5_step_132 : decode cX5_step 132 = .ok (.iload_n 2, 1) := by decide +kernel
theorem dX5_step_133 : decode cX5_step 133 = .ok (.lload 7, 2) := by decide +kernel
theorem dX5_step_135 : decode cX5_step 135 = .ok (.lastore, 1) := by decide +kernel
theorem dX5_step_136 : decode cX5_step 136 = .ok (.iinc 2 1, 3) := by decide +kernel
theorem dX5_step_139 : decode cX5_step 139 = .ok (.goto 351, 3) := by decide +kernel
theorem dX5_step_142 : decode cX5_step 142 = .ok (.aload_n 0, 1) := by decide +kernel
theorem dX5_step_143 : decode cX5_step 143 = .ok (.getfield 79, 3) := by decide +kernel
theorem dX5_step_146 : decode cX5_step 146 = .ok (.iload_n 2, 1) := by decide +kernel
theorem dX5_step_147 : decode cX5_step 147 = .ok (.aload_n 0, 1) := by decide +kernel
theorem dX5_step_148 : decode cX5_step 148 = .ok (.iload_n 1, 1) := by decide +kernel
theorem dX5_step_149 : decode cX5_step 149 = .ok (.iload 9, 2) := by decide +kernel
theorem dX5_step_151 : decode cX5_step 151 = .ok (.aload_n 0, 1) := by decide +kernel
theorem dX5_step_152 : decode cX5_step 152 = .ok (.getfield 23, 3) := by decide +kernel
theorem dX5_step_155 : decode cX5_step 155 = .ok (.iload 9, 2) := by decide +kernel
theorem dX5_step_157 : decode cX5_step 157 = .ok (.iaload, 1) := by decide +kernel
theorem dX5_step_158 : decode cX5_step 158 = .ok (.invokevirtual 181, 3) := by decide +kernel
theorem dX5_step_161 : decode cX5_step 161 = .ok (.lastore, 1) := by decide +kernel
theorem dX5_step_162 : decode cX5_step 162 = .ok (.iinc 2 1, 3) := by decide +kernel
theorem dX5_step_165 : decode cX5_step 165 = .ok (.goto 325, 3) := by decide +kernel
theorem dX5_step_168 : decode cX5_step 168 = .ok (.aload_n 0, 1) := by decide +kernel
theorem dX5_step_169 : decode cX5_step 169 = .ok (.iload 9, 2) := by decide +kernel
theorem dX5_step_171 : decode cX5_step 171 = .ok (.aload_n 0, 1) := by decide +kernel
theorem dX5_step_172 : decode cX5_step 172 = .ok (.getfield 79, 3) := by decide +kernel
theorem dX5_step_175 : decode cX5_step 175 = .ok (.iload_n 2, 1) := by decide +kernel
theorem dX5_step_176 : decode cX5_step 176 = .ok (.iconst 1, 1) := by decide +kernel
theorem dX5_step_177 : decode cX5_step 177 = .ok (.isub, 1) := by decide +kernel
theorem dX5_step_178 : decode cX5_step 178 = .ok (.laload, 1) := by decide +kernel
theorem dX5_step_179 : decode cX5_step 179 = .ok (.invokevirtual 185, 3) := by decide +kernel
theorem dX5_step_182 : decode cX5_step 182 = .ok (.istore 10, 2) := by decide +kernel
theorem dX5_step_184 : decode cX5_step 184 = .ok (.iload 10, 2) := by decide +kernel
theorem dX5_step_186 : decode cX5_step 186 = .ok (.iconst (-1), 1) := by decide +kernel
theorem dX5_step_187 : decode cX5_step 187 = .ok (.if_icmp .ne 5, 3) := by decide +kernel
theorem dX5_step_190 : decode cX5_step 190 = .ok (.iconst 1, 1) := by decide +kernel
theorem dX5_step_191 : decode cX5_step 191 = .ok (.ireturn, 1) := by decide +kernel
theorem dX5_step_192 : decode cX5_step 192 = .ok (.aload_n 0, 1) := by decide +kernel
theorem dX5_step_193 : decode cX5_step 193 = .ok (.getfield 79, 3) := by decide +kernel
theorem dX5_step_196 : decode cX5_step 196 = .ok (.iload_n 2, 1) := by decide +kernel
theorem dX5_step_197 : decode cX5_step 197 = .ok (.iconst 1, 1) := by decide +kernel
theorem dX5_step_198 : decode cX5_step 198 = .ok (.isub, 1) := by decide +kernel
theorem dX5_step_199 : decode cX5_step 199 = .ok (.aload_n 0, 1) := by decide +kernel
theorem dX5_step_200 : decode cX5_step 200 = .ok (.iload_n 1, 1) := by decide +kernel
theorem dX5_step_201 : decode cX5_step 201 = .ok (.iload 9, 2) := by decide +kernel
theorem dX5_step_203 : decode cX5_step 203 = .ok (.iload 10, 2) := by decide +kernel
theorem dX5_step_205 : decode cX5_step 205 = .ok (.invokevirtual 181, 3) := by decide +kernel
theorem dX5_step_208 : decode cX5_step 208 = .ok (.lastore, 1) := by decide +kernel
theorem dX5_step_209 : decode cX5_step 209 = .ok (.goto 281, 3) := by decide +kernel
theorem dX5_step_212 : decode cX5_step 212 = .ok (.iload 6, 2) := by decide +kernel
theorem dX5_step_214 : decode cX5_step 214 = .ok (.bipush 9, 2) := by decide +kernel
theorem dX5_step_216 : decode cX5_step 216 = .ok (.if_icmp .ne 13, 3) := by decide +kernel
theorem dX5_step_219 : decode cX5_step 219 = .ok (.aload_n 0, 1) := by decide +kernel
theorem dX5_step_220 : decode cX5_step 220 = .ok (.getfield 23, 3) := by decide +kernel
theorem dX5_step_223 : decode cX5_step 223 = .ok (.iload 9, 2) := by decide +kernel
theorem dX5_step_225 : decode cX5_step 225 = .ok (.iaload, 1) := by decide +kernel
theorem dX5_step_226 : decode cX5_step 226 = .ok (.goto 17, 3) := by decide +kernel
theorem dX5_step_229 : decode cX5_step 229 = .ok (.aload_n 0, 1) := by decide +kernel
theorem dX5_step_230 : decode cX5_step 230 = .ok (.iload 9, 2) := by decide +kernel
theorem dX5_step_232 : decode cX5_step 232 = .ok (.aload_n 0, 1) := by decide +kernel
theorem dX5_step_233 : decode cX5_step 233 = .ok (.getfield 79, 3) := by decide +kernel
theorem dX5_step_236 : decode cX5_step 236 = .ok (.iload_n 2, 1) := by decide +kernel
theorem dX5_step_237 : decode cX5_step 237 = .ok (.iconst 2, 1) := by decide +kernel
theorem dX5_step_238 : decode cX5_step 238 = .ok (.isub, 1) := by decide +kernel
theorem dX5_step_239 : decode cX5_step 239 = .ok (.laload, 1) := by decide +kernel
theorem dX5_step_240 : decode cX5_step 240 = .ok (.invokevirtual 185, 3) := by decide +kernel
theorem dX5_step_243 : decode cX5_step 243 = .ok (.istore 10, 2) := by decide +kernel
theorem dX5_step_245 : decode cX5_step 245 = .ok (.iload 10, 2) := by decide +kernel
theorem dX5_step_247 : decode cX5_step 247 = .ok (.iconst (-1), 1) := by decide +kernel
theorem dX5_step_248 : decode cX5_step 248 = .ok (.if_icmp .ne 5, 3) := by decide +kernel
theorem dX5_step_251 : decode cX5_step 251 = .ok (.iconst 1, 1) := by decide +kernel
theorem dX5_step_252 : decode cX5_step 252 = .ok (.ireturn, 1) := by decide +kernel
theorem dX5_step_253 : decode cX5_step 253 = .ok (.iinc 4 1, 3) := by decide +kernel
theorem dX5_step_256 : decode cX5_step 256 = .ok (.iload 4, 2) := by decide +kernel
theorem dX5_step_258 : decode cX5_step 258 = .ok (.sipush 1000, 3) := by decide +kernel
theorem dX5_step_261 : decode cX5_step 261 = .ok (.if_icmp .le 5, 3) := by decide +kernel
theorem dX5_step_264 : decode cX5_step 264 = .ok (.iconst 3, 1) := by decide +kernel
theorem dX5_step_265 : decode cX5_step 265 = .ok (.ireturn, 1) := by decide +kernel
theorem dX5_step_266 : decode cX5_step 266 = .ok (.aload_n 0, 1) := by decide +kernel
theorem dX5_step_267 : decode cX5_step 267 = .ok (.iload_n 1, 1) := by decide +kernel
theorem dX5_step_268 : decode cX5_step 268 = .ok (.iload 9, 2) := by decide +kernel
theorem dX5_step_270 : decode cX5_step 270 = .ok (.iload 10, 2) := by decide +kernel
theorem dX5_step_272 : decode cX5_step 272 = .ok (.aload_n 0, 1) := by decide +kernel
theorem dX5_step_273 : decode cX5_step 273 = .ok (.getfield 79, 3) := by decide +kernel
theorem dX5_step_276 : decode cX5_step 276 = .ok (.iload_n 2, 1) := by decide +kernel
theorem dX5_step_277 : decode cX5_step 277 = .ok (.iconst 1, 1) := by decide +kernel
theorem dX5_step_278 : decode cX5_step 278 = .ok (.isub, 1) := by decide +kernel
theorem dX5_step_279 : decode cX5_step 279 = .ok (.laload, 1) := by decide +kernel
theorem dX5_step_280 : decode cX5_step 280 = .ok (.invokevirtual 189, 3) := by decide +kernel
theorem dX5_step_283 : decode cX5_step 283 = .ok (.iload_n 2, 1) := by decide +kernel
theorem dX5_step_284 : decode cX5_step 284 = .ok (.iload 6, 2) := by decide +kernel
theorem dX5_step_286 : decode cX5_step 286 = .ok (.bipush 9, 2) := by decide +kernel
theorem dX5_step_288 : decode cX5_step 288 = .ok (.if_icmp .ne 7, 3) := by decide +kernel
theorem dX5_step_291 : decode cX5_step 291 = .ok (.iconst 1, 1) := by decide +kernel
theorem dX5_step_292 : decode cX5_step 292 = .ok (.goto 4, 3) := by decide +kernel
theorem dX5_step_295 : decode cX5_step 295 = .ok (.iconst 2, 1) := by decide +kernel
theorem dX5_step_296 : decode cX5_step 296 = .ok (.isub, 1) := by decide +kernel
theorem dX5_step_297 : decode cX5_step 297 = .ok (.istore_n 2, 1) := by decide +kernel
theorem dX5_step_298 : decode cX5_step 298 = .ok (.goto 192, 3) := by decide +kernel
theorem dX5_step_301 : decode cX5_step 301 = .ok (.iinc 2 (-1), 3) := by decide +kernel
theorem dX5_step_304 : decode cX5_step 304 = .ok (.aload_n 0, 1) := by decide +kernel
theorem dX5_step_305 : decode cX5_step 305 = .ok (.getfield 79, 3) := by decide +kernel
theorem dX5_step_308 : decode cX5_step 308 = .ok (.iload_n 2, 1) := by decide +kernel
theorem dX5_step_309 : decode cX5_step 309 = .ok (.laload, 1) := by decide +kernel
theorem dX5_step_310 : decode cX5_step 310 = .ok (.lconst 0, 1) := by decide +kernel
theorem dX5_step_311 : decode cX5_step 311 = .ok (.lcmp, 1) := by decide +kernel
theorem dX5_step_312 : decode cX5_step 312 = .ok (.ifCond .ne 8, 3) := by decide +kernel
theorem dX5_step_315 : decode cX5_step 315 = .ok (.iload 9, 2) := by decide +kernel
theorem dX5_step_317 : decode cX5_step 317 = .ok (.goto 5, 3) := by decide +kernel
theorem dX5_step_320 : decode cX5_step 320 = .ok (.iload 5, 2) := by decide +kernel
theorem dX5_step_322 : decode cX5_step 322 = .ok (.istore 5, 2) := by decide +kernel
theorem dX5_step_324 : decode cX5_step 324 = .ok (.goto 166, 3) := by decide +kernel
theorem dX5_step_327 : decode cX5_step 327 = .ok (.iload 6, 2) := by decide +kernel
theorem dX5_step_329 : decode cX5_step 329 = .ok (.bipush 13, 2) := by decide +kernel
theorem dX5_step_331 : decode cX5_step 331 = .ok (.if_icmp .ne 24, 3) := by decide +kernel
theorem dX5_step_334 : decode cX5_step 334 = .ok (.iinc 2 (-1), 3) := by decide +kernel
theorem dX5_step_337 : decode cX5_step 337 = .ok (.aload_n 0, 1) := by decide +kernel
theorem dX5_step_338 : decode cX5_step 338 = .ok (.getfield 82, 3) := by decide +kernel
theorem dX5_step_341 : decode cX5_step 341 = .ok (.iload_n 3, 1) := by decide +kernel
theorem dX5_step_342 : decode cX5_step 342 = .ok (.aload_n 0, 1) := by decide +kernel
theorem dX5_step_343 : decode cX5_step 343 = .ok (.getfield 79, 3) := by decide +kernel
theorem dX5_step_346 : decode cX5_step 346 = .ok (.iload_n 2, 1) := by decide +kernel
theorem dX5_step_347 : decode cX5_step 347 = .ok (.laload, 1) := by decide +kernel
theorem dX5_step_348 : decode cX5_step 348 = .ok (.lastore, 1) := by decide +kernel
theorem dX5_step_349 : decode cX5_step 349 = .ok (.iinc 3 1, 3) := by decide +kernel
theorem dX5_step_352 : decode cX5_step 352 = .ok (.goto 15, 3) := by decide +kernel
theorem dX5_step_355 : decode cX5_step 355 = .ok (.aload_n 0, 1) := by decide +kernel
theorem dX5_step_356 : decode cX5_step 356 = .ok (.getfield 82, 3) := by decide +kernel
theorem dX5_step_359 : decode cX5_step 359 = .ok (.iload_n 3, 1) := by decide +kernel
theorem dX5_step_360 : decode cX5_step 360 = .ok (.iconst 1, 1) := by decide +kernel
theorem dX5_step_361 : decode cX5_step 361 = .ok (.isub, 1) := by decide +kernel
theorem dX5_step_362 : decode cX5_step 362 = .ok (.dup2, 1) := by decide +kernel
theorem dX5_step_363 : decode cX5_step 363 = .ok (.laload, 1) := by decide +kernel
theorem dX5_step_364 : decode cX5_step 364 = .ok (.lconst 1, 1) := by decide +kernel
theorem dX5_step_365 : decode cX5_step 365 = .ok (.lsub, 1) := by decide +kernel
theorem dX5_step_366 : decode cX5_step 366 = .ok (.lastore, 1) := by decide +kernel
theorem dX5_step_367 : decode cX5_step 367 = .ok (.aload_n 0, 1) := by decide +kernel
theorem dX5_step_368 : decode cX5_step 368 = .ok (.getfield 82, 3) := by decide +kernel
theorem dX5_step_371 : decode cX5_step 371 = .ok (.iload_n 3, 1) := by decide +kernel
theorem dX5_step_372 : decode cX5_step 372 = .ok (.iconst 1, 1) := by decide +kernel
theorem dX5_step_373 : decode cX5_step 373 = .ok (.isub, 1) := by decide +kernel
theorem dX5_step_374 : decode cX5_step 374 = .ok (.laload, 1) := by decide +kernel
theorem dX5_step_375 : decode cX5_step 375 = .ok (.lconst 0, 1) := by decide +kernel
theorem dX5_step_376 : decode cX5_step 376 = .ok (.lcmp, 1) := by decide +kernel
theorem dX5_step_377 : decode cX5_step 377 = .ok (.ifCond .le 35, 3) := by decide +kernel
theorem dX5_step_380 : decode cX5_step 380 = .ok (.iinc 4 1, 3) := by decide +kernel
theorem dX5_step_383 : decode cX5_step 383 = .ok (.iload 4, 2) := by decide +kernel
theorem dX5_step_385 : decode cX5_step 385 = .ok (.sipush 1000, 3) := by decide +kernel
theorem dX5_step_388 : decode cX5_step 388 = .ok (.if_icmp .le 5, 3) := by decide +kernel
theorem dX5_step_391 : decode cX5_step 391 = .ok (.iconst 3, 1) := by decide +kernel
theorem dX5_step_392 : decode cX5_step 392 = .ok (.ireturn, 1) := by decide +kernel
theorem dX5_step_393 : decode cX5_step 393 = .ok (.iload 6, 2) := by decide +kernel
theorem dX5_step_395 : decode cX5_step 395 = .ok (.bipush 14, 2) := by decide +kernel
