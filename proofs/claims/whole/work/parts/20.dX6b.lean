theorem dX6_measure_100 : decode cX6_measure 100 = .ok (.goto 11, 3) := by decide +kernel
theorem dX6_measure_103 : decode cX6_measure 103 = .ok (.iconst 1, 1) := by decide +kernel
theorem dX6_measure_104 : decode cX6_measure 104 = .ok (.aload_n 0, 1) := by decide +kernel
theorem dX6_measure_105 : decode cX6_measure 105 = .ok (.getfield 26, 3) := by decide +kernel
theorem dX6_measure_108 : decode cX6_measure 108 = .ok (.iload_n 1, 1) := by decide +kernel
theorem dX6_measure_109 : decode cX6_measure 109 = .ok (.iaload, 1) := by decide +kernel
theorem dX6_measure_110 : decode cX6_measure 110 = .ok (.ishl, 1) := by decide +kernel
theorem dX6_measure_111 : decode cX6_measure 111 = .ok (.istore 8, 2) := by decide +kernel
theorem dX6_measure_113 : decode cX6_measure 113 = .ok (.aload_n 0, 1) := by decide +kernel
theorem dX6_measure_114 : decode cX6_measure 114 = .ok (.getfield 13, 3) := by decide +kernel
theorem dX6_measure_117 : decode cX6_measure 117 = .ok (.iload_n 1, 1) := by decide +kernel
theorem dX6_measure_118 : decode cX6_measure 118 = .ok (.iaload, 1) := by decide +kernel
theorem dX6_measure_119 : decode cX6_measure 119 = .ok (.tableswitch 236 0 7 #[45, 45, 55, 74, 74, 74, 209, 182], 45) := by decide +kernel
theorem dX6_measure_164 : decode cX6_measure 164 = .ok (.iload 7, 2) := by decide +kernel
theorem dX6_measure_166 : decode cX6_measure 166 = .ok (.iload 8, 2) := by decide +kernel
theorem dX6_measure_168 : decode cX6_measure 168 = .ok (.ior, 1) := by decide +kernel
theorem dX6_measure_169 : decode cX6_measure 169 = .ok (.istore 6, 2) := by decide +kernel
theorem dX6_measure_171 : decode cX6_measure 171 = .ok (.goto 196, 3) := by decide +kernel
theorem dX6_measure_174 : decode cX6_measure 174 = .ok (.aload_n 0, 1) := by decide +kernel
theorem dX6_measure_175 : decode cX6_measure 175 = .ok (.getfield 32, 3) := by decide +kernel
theorem dX6_measure_178 : decode cX6_measure 178 = .ok (.iload_n 2, 1) := by decide +kernel
theorem dX6_measure_179 : decode cX6_measure 179 = .ok (.iaload, 1) := by decide +kernel
theorem dX6_measure_180 : decode cX6_measure 180 = .ok (.istore 4, 2) := by decide +kernel
theorem dX6_measure_182 : decode cX6_measure 182 = .ok (.aload_n 0, 1) := by decide +kernel
theorem dX6_measure_183 : decode cX6_measure 183 = .ok (.getfield 29, 3) := by decide +kernel
theorem dX6_measure_186 : decode cX6_measure 186 = .ok (.iload_n 2, 1) := by decide +kernel
theorem dX6_measure_187 : decode cX6_measure 187 = .ok (.iaload, 1) := by decide +kernel
theorem dX6_measure_188 : decode cX6_measure 188 = .ok (.istore 5, 2) := by decide +kernel
theorem dX6_measure_190 : decode cX6_measure 190 = .ok (.goto 177, 3) := by decide +kernel
theorem dX6_measure_193 : decode cX6_measure 193 = .ok (.aload_n 0, 1) := by decide +kernel
theorem dX6_measure_194 : decode cX6_measure 194 = .ok (.getfield 13, 3) := by decide +kernel
theorem dX6_measure_197 : decode cX6_measure 197 = .ok (.iload_n 1, 1) := by decide +kernel
theorem dX6_measure_198 : decode cX6_measure 198 = .ok (.iaload, 1) := by decide +kernel
theorem dX6_measure_199 : decode cX6_measure 199 = .ok (.iconst 5, 1) := by decide +kernel
theorem dX6_measure_200 : decode cX6_measure 200 = .ok (.if_icmp .ne 12, 3) := by decide +kernel
theorem dX6_measure_203 : decode cX6_measure 203 = .ok (.aload_n 0, 1) := by decide +kernel
theorem dX6_measure_204 : decode cX6_measure 204 = .ok (.getfield 32, 3) := by decide +kernel
theorem dX6_measure_207 : decode cX6_measure 207 = .ok (.iload_n 2, 1) := by decide +kernel
theorem dX6_measure_208 : decode cX6_measure 208 = .ok (.iaload, 1) := by decide +kernel
theorem dX6_measure_209 : decode cX6_measure 209 = .ok (.goto 5, 3) := by decide +kernel
theorem dX6_measure_212 : decode cX6_measure 212 = .ok (.iload 4, 2) := by decide +kernel
theorem dX6_measure_214 : decode cX6_measure 214 = .ok (.istore 4, 2) := by decide +kernel
theorem dX6_measure_216 : decode cX6_measure 216 = .ok (.aload_n 0, 1) := by decide +kernel
theorem dX6_measure_217 : decode cX6_measure 217 = .ok (.getfield 13, 3) := by decide +kernel
theorem dX6_measure_220 : decode cX6_measure 220 = .ok (.iload_n 1, 1) := by decide +kernel
theorem dX6_measure_221 : decode cX6_measure 221 = .ok (.iaload, 1) := by decide +kernel
theorem dX6_measure_222 : decode cX6_measure 222 = .ok (.iconst 5, 1) := by decide +kernel
theorem dX6_measure_223 : decode cX6_measure 223 = .ok (.if_icmp .ne 12, 3) := by decide +kernel
theorem dX6_measure_226 : decode cX6_measure 226 = .ok (.aload_n 0, 1) := by decide +kernel
theorem dX6_measure_227 : decode cX6_measure 227 = .ok (.getfield 29, 3) := by decide +kernel
theorem dX6_measure_230 : decode cX6_measure 230 = .ok (.iload_n 2, 1) := by decide +kernel
theorem dX6_measure_231 : decode cX6_measure 231 = .ok (.iaload, 1) := by decide +kernel
theorem dX6_measure_232 : decode cX6_measure 232 = .ok (.goto 5, 3) := by decide +kernel
theorem dX6_measure_235 : decode cX6_measure 235 = .ok (.iload 5, 2) := by decide +kernel
theorem dX6_measure_237 : decode cX6_measure 237 = .ok (.istore 5, 2) := by decide +kernel
theorem dX6_measure_239 : decode cX6_measure 239 = .ok (.aload_n 0, 1) := by decide +kernel
theorem dX6_measure_240 : decode cX6_measure 240 = .ok (.getfield 29, 3) := by decide +kernel
theorem dX6_measure_243 : decode cX6_measure 243 = .ok (.iload_n 3, 1) := by decide +kernel
theorem dX6_measure_244 : decode cX6_measure 244 = .ok (.iaload, 1) := by decide +kernel
theorem dX6_measure_245 : decode cX6_measure 245 = .ok (.iload 4, 2) := by decide +kernel
theorem dX6_measure_247 : decode cX6_measure 247 = .ok (.if_icmp .le 12, 3) := by decide +kernel
theorem dX6_measure_250 : decode cX6_measure 250 = .ok (.aload_n 0, 1) := by decide +kernel
theorem dX6_measure_251 : decode cX6_measure 251 = .ok (.getfield 29, 3) := by decide +kernel
theorem dX6_measure_254 : decode cX6_measure 254 = .ok (.iload_n 3, 1) := by decide +kernel
theorem dX6_measure_255 : decode cX6_measure 255 = .ok (.iaload, 1) := by decide +kernel
theorem dX6_measure_256 : decode cX6_measure 256 = .ok (.goto 5, 3) := by decide +kernel
theorem dX6_measure_259 : decode cX6_measure 259 = .ok (.iload 4, 2) := by decide +kernel
theorem dX6_measure_261 : decode cX6_measure 261 = .ok (.istore 4, 2) := by decide +kernel
theorem dX6_measure_263 : decode cX6_measure 263 = .ok (.aload_n 0, 1) := by decide +kernel
theorem dX6_measure_264 : decode cX6_measure 264 = .ok (.getfield 32, 3) := by decide +kernel
theorem dX6_measure_267 : decode cX6_measure 267 = .ok (.iload_n 3, 1) := by decide +kernel
theorem dX6_measure_268 : decode cX6_measure 268 = .ok (.iaload, 1) := by decide +kernel
theorem dX6_measure_269 : decode cX6_measure 269 = .ok (.iload 5, 2) := by decide +kernel
theorem dX6_measure_271 : decode cX6_measure 271 = .ok (.if_icmp .le 12, 3) := by decide +kernel
theorem dX6_measure_274 : decode cX6_measure 274 = .ok (.aload_n 0, 1) := by decide +kernel
theorem dX6_measure_275 : decode cX6_measure 275 = .ok (.getfield 32, 3) := by decide +kernel
theorem dX6_measure_278 : decode cX6_measure 278 = .ok (.iload_n 3, 1) := by decide +kernel
theorem dX6_measure_279 : decode cX6_measure 279 = .ok (.iaload, 1) := by decide +kernel
theorem dX6_measure_280 : decode cX6_measure 280 = .ok (.goto 5, 3) := by decide +kernel
theorem dX6_measure_283 : decode cX6_measure 283 = .ok (.iload 5, 2) := by decide +kernel
theorem dX6_measure_285 : decode cX6_measure 285 = .ok (.istore 5, 2) := by decide +kernel
theorem dX6_measure_287 : decode cX6_measure 287 = .ok (.iload 6, 2) := by decide +kernel
theorem dX6_measure_289 : decode cX6_measure 289 = .ok (.aload_n 0, 1) := by decide +kernel
theorem dX6_measure_290 : decode cX6_measure 290 = .ok (.getfield 35, 3) := by decide +kernel
theorem dX6_measure_293 : decode cX6_measure 293 = .ok (.iload_n 3, 1) := by decide +kernel
theorem dX6_measure_294 : decode cX6_measure 294 = .ok (.iaload, 1) := by decide +kernel
theorem dX6_measure_295 : decode cX6_measure 295 = .ok (.ior, 1) := by decide +kernel
theorem dX6_measure_296 : decode cX6_measure 296 = .ok (.istore 6, 2) := by decide +kernel
theorem dX6_measure_298 : decode cX6_measure 298 = .ok (.goto 69, 3) := by decide +kernel
theorem dX6_measure_301 : decode cX6_measure 301 = .ok (.iload 4, 2) := by decide +kernel
theorem dX6_measure_303 : decode cX6_measure 303 = .ok (.iload 5, 2) := by decide +kernel
theorem dX6_measure_305 : decode cX6_measure 305 = .ok (.invokestatic 110, 3) := by decide +kernel
theorem dX6_measure_308 : decode cX6_measure 308 = .ok (.istore 4, 2) := by decide +kernel
theorem dX6_measure_310 : decode cX6_measure 310 = .ok (.iload 4, 2) := by decide +kernel
theorem dX6_measure_312 : decode cX6_measure 312 = .ok (.iconst 1, 1) := by decide +kernel
theorem dX6_measure_313 : decode cX6_measure 313 = .ok (.iadd, 1) := by decide +kernel
theorem dX6_measure_314 : decode cX6_measure 314 = .ok (.istore 5, 2) := by decide +kernel
theorem dX6_measure_316 : decode cX6_measure 316 = .ok (.iload 6, 2) := by decide +kernel
theorem dX6_measure_318 : decode cX6_measure 318 = .ok (.iload 7, 2) := by decide +kernel
theorem dX6_measure_320 : decode cX6_measure 320 = .ok (.iconst (-1), 1) := by decide +kernel
theorem dX6_measure_321 : decode cX6_measure 321 = .ok (.ixor, 1) := by decide +kernel
theorem dX6_measure_322 : decode cX6_measure 322 = .ok (.iand, 1) := by decide +kernel
theorem dX6_measure_323 : decode cX6_measure 323 = .ok (.istore 6, 2) := by decide +kernel
theorem dX6_measure_325 : decode cX6_measure 325 = .ok (.goto 42, 3) := by decide +kernel
theorem dX6_measure_328 : decode cX6_measure 328 = .ok (.iload 5, 2) := by decide +kernel
theorem dX6_measure_330 : decode cX6_measure 330 = .ok (.iload 4, 2) := by decide +kernel
theorem dX6_measure_332 : decode cX6_measure 332 = .ok (.invokestatic 110, 3) := by decide +kernel
theorem dX6_measure_335 : decode cX6_measure 335 = .ok (.istore 5, 2) := by decide +kernel
theorem dX6_measure_337 : decode cX6_measure 337 = .ok (.iload 5, 2) := by decide +kernel
theorem dX6_measure_339 : decode cX6_measure 339 = .ok (.iconst 1, 1) := by decide +kernel
theorem dX6_measure_340 : decode cX6_measure 340 = .ok (.iadd, 1) := by decide +kernel
theorem dX6_measure_341 : decode cX6_measure 341 = .ok (.istore 4, 2) := by decide +kernel
theorem dX6_measure_343 : decode cX6_measure 343 = .ok (.iload 6, 2) := by decide +kernel
theorem dX6_measure_345 : decode cX6_measure 345 = .ok (.iload 7, 2) := by decide +kernel
theorem dX6_measure_347 : decode cX6_measure 347 = .ok (.iconst (-1), 1) := by decide +kernel
theorem dX6_measure_348 : decode cX6_measure 348 = .ok (.ixor, 1) := by decide +kernel
theorem dX6_measure_349 : decode cX6_measure 349 = .ok (.iand, 1) := by decide +kernel
theorem dX6_measure_350 : decode cX6_measure 350 = .ok (.istore 6, 2) := by decide +kernel
theorem dX6_measure_352 : decode cX6_measure 352 = .ok (.goto 15, 3) := by decide +kernel
theorem dX6_measure_355 : decode cX6_measure 355 = .ok (.iload 6, 2) := by decide +kernel
theorem dX6_measure_357 : decode cX6_measure 357 = .ok (.iload 7, 2) := by decide +kernel
theorem dX6_measure_359 : decode cX6_measure 359 = .ok (.iconst (-1), 1) := by decide +kernel
theorem dX6_measure_360 : decode cX6_measure 360 = .ok (.ixor, 1) := by decide +kernel
theorem dX6_measure_361 : decode cX6_measure 361 = .ok (.iand, 1) := by decide +kernel
theorem dX6_measure_362 : decode cX6_measure 362 = .ok (.iload 8, 2) := by decide +kernel
theorem dX6_measure_364 : decode cX6_measure 364 = .ok (.ior, 1) := by decide +kernel
theorem dX6_measure_365 : decode cX6_measure 365 = .ok (.istore 6, 2) := by decide +kernel
theorem dX6_measure_367 : decode cX6_measure 367 = .ok (.aload_n 0, 1) := by decide +kernel
theorem dX6_measure_368 : decode cX6_measure 368 = .ok (.getfield 29, 3) := by decide +kernel
theorem dX6_measure_371 : decode cX6_measure 371 = .ok (.iload_n 1, 1) := by decide +kernel
theorem dX6_measure_372 : decode cX6_measure 372 = .ok (.iload 4, 2) := by decide +kernel
theorem dX6_measure_374 : decode cX6_measure 374 = .ok (.iastore, 1) := by decide +kernel
theorem dX6_measure_375 : decode cX6_measure 375 = .ok (.aload_n 0, 1) := by decide +kernel
theorem dX6_measure_376 : decode cX6_measure 376 = .ok (.getfield 32, 3) := by decide +kernel
theorem dX6_measure_379 : decode cX6_measure 379 = .ok (.iload_n 1, 1) := by decide +kernel
theorem dX6_measure_380 : decode cX6_measure 380 = .ok (.iload 5, 2) := by decide +kernel
theorem dX6_measure_382 : decode cX6_measure 382 = .ok (.iastore, 1) := by decide +kernel
theorem dX6_measure_383 : decode cX6_measure 383 = .ok (.aload_n 0, 1) := by decide +kernel
theorem dX6_measure_384 : decode cX6_measure 384 = .ok (.getfield 35, 3) := by decide +kernel
theorem dX6_measure_387 : decode cX6_measure 387 = .ok (.iload_n 1, 1) := by decide +kernel
theorem dX6_measure_388 : decode cX6_measure 388 = .ok (.iload 6, 2) := by decide +kernel
theorem dX6_measure_390 : decode cX6_measure 390 = .ok (.iastore, 1) := by decide +kernel
theorem dX6_measure_391 : decode cX6_measure 391 = .ok (.return_, 1) := by decide +kernel
theorem dX6_lesser_0 : decode cX6_lesser 0 = .ok (.iload_n 0, 1) := by decide +kernel
theorem dX6_lesser_1 : decode cX6_lesser 1 = .ok (.iconst 1, 1) := by decide +kernel
theorem dX6_lesser_2 : decode cX6_lesser 2 = .ok (.if_icmp .ge 7, 3) := by decide +kernel
theorem dX6_lesser_5 : decode cX6_lesser 5 = .ok (.iconst 1, 1) := by decide +kernel
theorem dX6_lesser_6 : decode cX6_lesser 6 = .ok (.goto 4, 3) := by decide +kernel
theorem dX6_lesser_9 : decode cX6_lesser 9 = .ok (.iload_n 0, 1) := by decide +kernel
theorem dX6_lesser_10 : decode cX6_lesser 10 = .ok (.istore_n 2, 1) := by decide +kernel
theorem dX6_lesser_11 : decode cX6_lesser 11 = .ok (.iload_n 2, 1) := by decide +kernel
theorem dX6_lesser_12 : decode cX6_lesser 12 = .ok (.iload_n 1, 1) := by decide +kernel
theorem dX6_lesser_13 : decode cX6_lesser 13 = .ok (.iconst 1, 1) := by decide +kernel
theorem dX6_lesser_14 : decode cX6_lesser 14 = .ok (.iadd, 1) := by decide +kernel
theorem dX6_lesser_15 : decode cX6_lesser 15 = .ok (.if_icmp .ge 7, 3) := by decide +kernel
theorem dX6_lesser_18 : decode cX6_lesser 18 = .ok (.iload_n 2, 1) := by decide +kernel
theorem dX6_lesser_19 : decode cX6_lesser 19 = .ok (.goto 6, 3) := by decide +kernel
theorem dX6_lesser_22 : decode cX6_lesser 22 = .ok (.iload_n 1, 1) := by decide +kernel
theorem dX6_lesser_23 : decode cX6_lesser 23 = .ok (.iconst 1, 1) := by decide +kernel
theorem dX6_lesser_24 : decode cX6_lesser 24 = .ok (.iadd, 1) := by decide +kernel
theorem dX6_lesser_25 : decode cX6_lesser 25 = .ok (.ireturn, 1) := by decide +kernel
theorem dX6_begin_0 : decode cX6_begin 0 = .ok (.aload_n 0, 1) := by decide +kernel
theorem dX6_begin_1 : decode cX6_begin 1 = .ok (.getfield 38, 3) := by decide +kernel
theorem dX6_begin_4 : decode cX6_begin 4 = .ok (.aload_n 0, 1) := by decide +kernel
theorem dX6_begin_5 : decode cX6_begin 5 = .ok (.getfield 114, 3) := by decide +kernel
theorem dX6_begin_8 : decode cX6_begin 8 = .ok (.iload_n 1, 1) := by decide +kernel
theorem dX6_begin_9 : decode cX6_begin 9 = .ok (.iastore, 1) := by decide +kernel
theorem dX6_begin_10 : decode cX6_begin 10 = .ok (.aload_n 0, 1) := by decide +kernel
theorem dX6_begin_11 : decode cX6_begin 11 = .ok (.getfield 41, 3) := by decide +kernel
theorem dX6_begin_14 : decode cX6_begin 14 = .ok (.aload_n 0, 1) := by decide +kernel
theorem dX6_begin_15 : decode cX6_begin 15 = .ok (.getfield 114, 3) := by decide +kernel
theorem dX6_begin_18 : decode cX6_begin 18 = .ok (.iload_n 2, 1) := by decide +kernel
theorem dX6_begin_19 : decode cX6_begin 19 = .ok (.iastore, 1) := by decide +kernel
theorem dX6_begin_20 : decode cX6_begin 20 = .ok (.aload_n 0, 1) := by decide +kernel
theorem dX6_begin_21 : decode cX6_begin 21 = .ok (.getfield 44, 3) := by decide +kernel
theorem dX6_begin_24 : decode cX6_begin 24 = .ok (.aload_n 0, 1) := by decide +kernel
theorem dX6_begin_25 : decode cX6_begin 25 = .ok (.getfield 114, 3) := by decide +kernel
theorem dX6_begin_28 : decode cX6_begin 28 = .ok (.iload_n 3, 1) := by decide +kernel
theorem dX6_begin_29 : decode cX6_begin 29 = .ok (.iastore, 1) := by decide +kernel
theorem dX6_begin_30 : decode cX6_begin 30 = .ok (.aload_n 0, 1) := by decide +kernel
theorem dX6_begin_31 : decode cX6_begin 31 = .ok (.dup, 1) := by decide +kernel
theorem dX6_begin_32 : decode cX6_begin 32 = .ok (.getfield 114, 3) := by decide +kernel
theorem dX6_begin_35 : decode cX6_begin 35 = .ok (.iconst 1, 1) := by decide +kernel
theorem dX6_begin_36 : decode cX6_begin 36 = .ok (.iadd, 1) := by decide +kernel
theorem dX6_begin_37 : decode cX6_begin 37 = .ok (.putfield 114, 3) := by decide +kernel
theorem dX6_begin_40 : decode cX6_begin 40 = .ok (.return_, 1) := by decide +kernel
set_option maxRecDepth 20000 in
theorem ggX6_end_X6_in : GoodIn wsX6_end wsX6_in := goodIn_r _ [9] rfl (by decide +kernel)
set_option maxRecDepth 20000 in
theorem gX6_end_X6_in : GoodIn wsX6_end (va_wsS RX6 85 yX6_in wsX6_in) := goodIn_app (goodIn_of _ (by decide +kernel)) ggX6_end_X6_in
set_option maxRecDepth 20000 in
theorem ggX6_end_X6_make : GoodIn wsX6_end wsX6_make := goodIn_r _ [13, 14, 15, 16, 17, 18, 19, 20, 21, 22, 8, 23, 24, 25, 26, 27, 28, 29, 30, 31, 32, 33, 34, 35, 36, 37, 38, 39, 40, 41, 42, 43, 44, 45, 46, 47, 48, 49, 50, 51, 52, 53, 54, 55, 56, 57, 58, 59, 60, 61] rfl (by decide +kernel)
set_option maxRecDepth 20000 in
theorem gX6_end_X6_make : GoodIn wsX6_end (wsV RX6 117 RX6 yX6_make wsX6_make) := goodIn_app (goodIn_of _ (by decide +kernel)) ggX6_end_X6_make
theorem dX6_end_0 : decode cX6_end 0 = .ok (.iload_n 1, 1) := by decide +kernel
theorem dX6_end_1 : decode cX6_end 1 = .ok (.istore_n 2, 1) := by decide +kernel
theorem dX6_end_2 : decode cX6_end 2 = .ok (.aload_n 0, 1) := by decide +kernel
theorem dX6_end_3 : decode cX6_end 3 = .ok (.getfield 114, 3) := by decide +kernel
theorem dX6_end_6 : decode cX6_end 6 = .ok (.ifCond .le 86, 3) := by decide +kernel
theorem dX6_end_9 : decode cX6_end 9 = .ok (.aload_n 0, 1) := by decide +kernel
theorem dX6_end_10 : decode cX6_end 10 = .ok (.getfield 38, 3) := by decide +kernel
theorem dX6_end_13 : decode cX6_end 13 = .ok (.aload_n 0, 1) := by decide +kernel
theorem dX6_end_14 : decode cX6_end 14 = .ok (.getfield 114, 3) := by decide +kernel
theorem dX6_end_17 : decode cX6_end 17 = .ok (.iconst 1, 1) := by decide +kernel
theorem dX6_end_18 : decode cX6_end 18 = .ok (.isub, 1) := by decide +kernel
theorem dX6_end_19 : decode cX6_end 19 = .ok (.iaload, 1) := by decide +kernel
theorem dX6_end_20 : decode cX6_end 20 = .ok (.iconst 2, 1) := by decide +kernel
theorem dX6_end_21 : decode cX6_end 21 = .ok (.if_icmp .eq 24, 3) := by decide +kernel
theorem dX6_end_24 : decode cX6_end 24 = .ok (.aload_n 0, 1) := by decide +kernel
theorem dX6_end_25 : decode cX6_end 25 = .ok (.getfield 38, 3) := by decide +kernel
theorem dX6_end_28 : decode cX6_end 28 = .ok (.aload_n 0, 1) := by decide +kernel
theorem dX6_end_29 : decode cX6_end 29 = .ok (.getfield 114, 3) := by decide +kernel
theorem dX6_end_32 : decode cX6_end 32 = .ok (.iconst 1, 1) := by decide +kernel
theorem dX6_end_33 : decode cX6_end 33 = .ok (.isub, 1) := by decide +kernel
theorem dX6_end_34 : decode cX6_end 34 = .ok (.iaload, 1) := by decide +kernel
theorem dX6_end_35 : decode cX6_end 35 = .ok (.bipush 6, 2) := by decide +kernel
theorem dX6_end_37 : decode cX6_end 37 = .ok (.bipush 9, 2) := by decide +kernel
theorem dX6_end_39 : decode cX6_end 39 = .ok (.invokestatic 85, 3) := by decide +kernel
theorem dX6_end_42 : decode cX6_end 42 = .ok (.ifCond .eq 50, 3) := by decide +kernel
theorem dX6_end_45 : decode cX6_end 45 = .ok (.aload_n 0, 1) := by decide +kernel
theorem dX6_end_46 : decode cX6_end 46 = .ok (.dup, 1) := by decide +kernel
theorem dX6_end_47 : decode cX6_end 47 = .ok (.getfield 114, 3) := by decide +kernel
theorem dX6_end_50 : decode cX6_end 50 = .ok (.iconst 1, 1) := by decide +kernel
theorem dX6_end_51 : decode cX6_end 51 = .ok (.isub, 1) := by decide +kernel
theorem dX6_end_52 : decode cX6_end 52 = .ok (.putfield 114, 3) := by decide +kernel
theorem dX6_end_55 : decode cX6_end 55 = .ok (.aload_n 0, 1) := by decide +kernel
theorem dX6_end_56 : decode cX6_end 56 = .ok (.aload_n 0, 1) := by decide +kernel
theorem dX6_end_57 : decode cX6_end 57 = .ok (.getfield 38, 3) := by decide +kernel
theorem dX6_end_60 : decode cX6_end 60 = .ok (.aload_n 0, 1) := by decide +kernel
theorem dX6_end_61 : decode cX6_end 61 = .ok (.getfield 114, 3) := by decide +kernel
theorem dX6_end_64 : decode cX6_end 64 = .ok (.iaload, 1) := by decide +kernel
theorem dX6_end_65 : decode cX6_end 65 = .ok (.iload_n 2, 1) := by decide +kernel
theorem dX6_end_66 : decode cX6_end 66 = .ok (.iconst (-1), 1) := by decide +kernel
theorem dX6_end_67 : decode cX6_end 67 = .ok (.aload_n 0, 1) := by decide +kernel
theorem dX6_end_68 : decode cX6_end 68 = .ok (.getfield 41, 3) := by decide +kernel
theorem dX6_end_71 : decode cX6_end 71 = .ok (.aload_n 0, 1) := by decide +kernel
theorem dX6_end_72 : decode cX6_end 72 = .ok (.getfield 114, 3) := by decide +kernel
theorem dX6_end_75 : decode cX6_end 75 = .ok (.iaload, 1) := by decide +kernel
theorem dX6_end_76 : decode cX6_end 76 = .ok (.aload_n 0, 1) := by decide +kernel
theorem dX6_end_77 : decode cX6_end 77 = .ok (.getfield 44, 3) := by decide +kernel
theorem dX6_end_80 : decode cX6_end 80 = .ok (.aload_n 0, 1) := by decide +kernel
theorem dX6_end_81 : decode cX6_end 81 = .ok (.getfield 114, 3) := by decide +kernel
theorem dX6_end_84 : decode cX6_end 84 = .ok (.iaload, 1) := by decide +kernel
theorem dX6_end_85 : decode cX6_end 85 = .ok (.invokevirtual 117, 3) := by decide +kernel
theorem dX6_end_88 : decode cX6_end 88 = .ok (.istore_n 2, 1) := by decide +kernel
theorem dX6_end_89 : decode cX6_end 89 = .ok (.goto (-87), 3) := by decide +kernel
theorem dX6_end_92 : decode cX6_end 92 = .ok (.aload_n 0, 1) := by decide +kernel
theorem dX6_end_93 : decode cX6_end 93 = .ok (.getfield 114, 3) := by decide +kernel
theorem dX6_end_96 : decode cX6_end 96 = .ok (.ifCond .ne 12, 3) := by decide +kernel
theorem dX6_end_99 : decode cX6_end 99 = .ok (.aload_n 0, 1) := by decide +kernel
theorem dX6_end_100 : decode cX6_end 100 = .ok (.bipush 8, 2) := by decide +kernel
theorem dX6_end_102 : decode cX6_end 102 = .ok (.putfield 121, 3) := by decide +kernel
theorem dX6_end_105 : decode cX6_end 105 = .ok (.goto 58, 3) := by decide +kernel
theorem dX6_end_108 : decode cX6_end 108 = .ok (.aload_n 0, 1) := by decide +kernel
theorem dX6_end_109 : decode cX6_end 109 = .ok (.getfield 38, 3) := by decide +kernel
theorem dX6_end_112 : decode cX6_end 112 = .ok (.aload_n 0, 1) := by decide +kernel
theorem dX6_end_113 : decode cX6_end 113 = .ok (.getfield 114, 3) := by decide +kernel
theorem dX6_end_116 : decode cX6_end 116 = .ok (.iconst 1, 1) := by decide +kernel
theorem dX6_end_117 : decode cX6_end 117 = .ok (.isub, 1) := by decide +kernel
theorem dX6_end_118 : decode cX6_end 118 = .ok (.iaload, 1) := by decide +kernel
theorem dX6_end_119 : decode cX6_end 119 = .ok (.bipush 10, 2) := by decide +kernel
theorem dX6_end_121 : decode cX6_end 121 = .ok (.if_icmp .ne 24, 3) := by decide +kernel
theorem dX6_end_124 : decode cX6_end 124 = .ok (.aload_n 0, 1) := by decide +kernel
theorem dX6_end_125 : decode cX6_end 125 = .ok (.getfield 41, 3) := by decide +kernel
theorem dX6_end_128 : decode cX6_end 128 = .ok (.aload_n 0, 1) := by decide +kernel
theorem dX6_end_129 : decode cX6_end 129 = .ok (.getfield 114, 3) := by decide +kernel
theorem dX6_end_132 : decode cX6_end 132 = .ok (.iconst 1, 1) := by decide +kernel
theorem dX6_end_133 : decode cX6_end 133 = .ok (.isub, 1) := by decide +kernel
theorem dX6_end_134 : decode cX6_end 134 = .ok (.iload_n 2, 1) := by decide +kernel
theorem dX6_end_135 : decode cX6_end 135 = .ok (.iastore, 1) := by decide +kernel
theorem dX6_end_136 : decode cX6_end 136 = .ok (.aload_n 0, 1) := by decide +kernel
theorem dX6_end_137 : decode cX6_end 137 = .ok (.bipush 6, 2) := by decide +kernel
theorem dX6_end_139 : decode cX6_end 139 = .ok (.putfield 121, 3) := by decide +kernel
theorem dX6_end_142 : decode cX6_end 142 = .ok (.goto 21, 3) := by decide +kernel
theorem dX6_end_145 : decode cX6_end 145 = .ok (.aload_n 0, 1) := by decide +kernel
theorem dX6_end_146 : decode cX6_end 146 = .ok (.getfield 44, 3) := by decide +kernel
theorem dX6_end_149 : decode cX6_end 149 = .ok (.aload_n 0, 1) := by decide +kernel
theorem dX6_end_150 : decode cX6_end 150 = .ok (.getfield 114, 3) := by decide +kernel
theorem dX6_end_153 : decode cX6_end 153 = .ok (.iconst 1, 1) := by decide +kernel
theorem dX6_end_154 : decode cX6_end 154 = .ok (.isub, 1) := by decide +kernel
theorem dX6_end_155 : decode cX6_end 155 = .ok (.iload_n 2, 1) := by decide +kernel
theorem dX6_end_156 : decode cX6_end 156 = .ok (.iastore, 1) := by decide +kernel
theorem dX6_end_157 : decode cX6_end 157 = .ok (.aload_n 0, 1) := by decide +kernel
theorem dX6_end_158 : decode cX6_end 158 = .ok (.bipush 7, 2) := by decide +kernel
theorem dX6_end_160 : decode cX6_end 160 = .ok (.putfield 121, 3) := by decide +kernel
theorem dX6_end_163 : decode cX6_end 163 = .ok (.return_, 1) := by decide +kernel
set_option maxRecDepth 20000 in
theorem ggX6_startsWith_X6_kindOf : GoodIn wsX6_startsWith wsX6_kindOf := goodIn_r _ [5] rfl (by decide +kernel)
set_option maxRecDepth 20000 in
theorem gX6_startsWith_X6_kindOf : GoodIn wsX6_startsWith (va_wsS RX6 93 yX6_kindOf wsX6_kindOf) := goodIn_app (goodIn_of _ (by decide +kernel)) ggX6_startsWith_X6_kindOf
set_option maxRecDepth 20000 in
theorem ggX6_startsWith_X6_variableOf : GoodIn wsX6_startsWith wsX6_variableOf := goodIn_r _ [8, 9, 10, 4, 11] rfl (by decide +kernel)
set_option maxRecDepth 20000 in
theorem gX6_startsWith_X6_variableOf : GoodIn wsX6_startsWith (va_wsS RX6 89 yX6_variableOf wsX6_variableOf) := goodIn_app (goodIn_of _ (by decide +kernel)) ggX6_startsWith_X6_variableOf
set_option maxRecDepth 20000 in
theorem ggX6_startsWith_X6_begin : GoodIn wsX6_startsWith wsX6_begin := goodIn_r _ [15, 16, 17, 18, 19, 20, 21, 22, 23, 24, 25, 26, 27, 28, 29, 30, 31, 32, 33, 34, 35, 36, 37, 38, 39, 40, 41, 42, 43, 44, 45, 46, 47, 48, 49, 50, 51] rfl (by decide +kernel)
set_option maxRecDepth 20000 in
theorem gX6_startsWith_X6_begin : GoodIn wsX6_startsWith (wsV RX6 124 RX6 yX6_begin wsX6_begin) := goodIn_app (goodIn_of _ (by decide +kernel)) ggX6_startsWith_X6_begin
set_option maxRecDepth 20000 in
theorem ggX6_startsWith_X6_in : GoodIn wsX6_startsWith wsX6_in := goodIn_r _ [11] rfl (by decide +kernel)
set_option maxRecDepth 20000 in
theorem gX6_startsWith_X6_in : GoodIn wsX6_startsWith (va_wsS RX6 85 yX6_in wsX6_in) := goodIn_app (goodIn_of _ (by decide +kernel)) ggX6_startsWith_X6_in
theorem dX6_startsWith_0 : decode cX6_startsWith 0 = .ok (.iload_n 1, 1) := by decide +kernel
theorem dX6_startsWith_1 : decode cX6_startsWith 1 = .ok (.invokestatic 93, 3) := by decide +kernel
theorem dX6_startsWith_4 : decode cX6_startsWith 4 = .ok (.istore_n 2, 1) := by decide +kernel
theorem dX6_startsWith_5 : decode cX6_startsWith 5 = .ok (.iload_n 1, 1) := by decide +kernel
theorem dX6_startsWith_6 : decode cX6_startsWith 6 = .ok (.invokestatic 89, 3) := by decide +kernel
theorem dX6_startsWith_9 : decode cX6_startsWith 9 = .ok (.iconst (-1), 1) := by decide +kernel
theorem dX6_startsWith_10 : decode cX6_startsWith 10 = .ok (.if_icmp .eq 21, 3) := by decide +kernel
theorem dX6_startsWith_13 : decode cX6_startsWith 13 = .ok (.aload_n 0, 1) := by decide +kernel
theorem dX6_startsWith_14 : decode cX6_startsWith 14 = .ok (.iconst 0, 1) := by decide +kernel
theorem dX6_startsWith_15 : decode cX6_startsWith 15 = .ok (.iload_n 1, 1) := by decide +kernel
theorem dX6_startsWith_16 : decode cX6_startsWith 16 = .ok (.invokestatic 89, 3) := by decide +kernel
theorem dX6_startsWith_19 : decode cX6_startsWith 19 = .ok (.iconst (-1), 1) := by decide +kernel
theorem dX6_startsWith_20 : decode cX6_startsWith 20 = .ok (.invokevirtual 124, 3) := by decide +kernel
theorem dX6_startsWith_23 : decode cX6_startsWith 23 = .ok (.aload_n 0, 1) := by decide +kernel
theorem dX6_startsWith_24 : decode cX6_startsWith 24 = .ok (.iconst 1, 1) := by decide +kernel
theorem dX6_startsWith_25 : decode cX6_startsWith 25 = .ok (.putfield 121, 3) := by decide +kernel
theorem dX6_startsWith_28 : decode cX6_startsWith 28 = .ok (.goto 62, 3) := by decide +kernel
theorem dX6_startsWith_31 : decode cX6_startsWith 31 = .ok (.iload_n 2, 1) := by decide +kernel
theorem dX6_startsWith_32 : decode cX6_startsWith 32 = .ok (.iconst 2, 1) := by decide +kernel
theorem dX6_startsWith_33 : decode cX6_startsWith 33 = .ok (.if_icmp .eq 9, 3) := by decide +kernel
theorem dX6_startsWith_36 : decode cX6_startsWith 36 = .ok (.iload_n 2, 1) := by decide +kernel
theorem dX6_startsWith_37 : decode cX6_startsWith 37 = .ok (.bipush 10, 2) := by decide +kernel
theorem dX6_startsWith_39 : decode cX6_startsWith 39 = .ok (.if_icmp .ne 13, 3) := by decide +kernel
theorem dX6_startsWith_42 : decode cX6_startsWith 42 = .ok (.aload_n 0, 1) := by decide +kernel
theorem dX6_startsWith_43 : decode cX6_startsWith 43 = .ok (.iload_n 2, 1) := by decide +kernel
theorem dX6_startsWith_44 : decode cX6_startsWith 44 = .ok (.iconst (-1), 1) := by decide +kernel
theorem dX6_startsWith_45 : decode cX6_startsWith 45 = .ok (.iconst (-1), 1) := by decide +kernel
theorem dX6_startsWith_46 : decode cX6_startsWith 46 = .ok (.invokevirtual 124, 3) := by decide +kernel
theorem dX6_startsWith_49 : decode cX6_startsWith 49 = .ok (.goto 41, 3) := by decide +kernel
theorem dX6_startsWith_52 : decode cX6_startsWith 52 = .ok (.iload_n 2, 1) := by decide +kernel
theorem dX6_startsWith_53 : decode cX6_startsWith 53 = .ok (.bipush 6, 2) := by decide +kernel
theorem dX6_startsWith_55 : decode cX6_startsWith 55 = .ok (.bipush 9, 2) := by decide +kernel
theorem dX6_startsWith_57 : decode cX6_startsWith 57 = .ok (.invokestatic 85, 3) := by decide +kernel
theorem dX6_startsWith_60 : decode cX6_startsWith 60 = .ok (.ifCond .eq 28, 3) := by decide +kernel
theorem dX6_startsWith_63 : decode cX6_startsWith 63 = .ok (.aload_n 0, 1) := by decide +kernel
theorem dX6_startsWith_64 : decode cX6_startsWith 64 = .ok (.iload_n 2, 1) := by decide +kernel
theorem dX6_startsWith_65 : decode cX6_startsWith 65 = .ok (.iconst (-1), 1) := by decide +kernel
theorem dX6_startsWith_66 : decode cX6_startsWith 66 = .ok (.iconst (-1), 1) := by decide +kernel
theorem dX6_startsWith_67 : decode cX6_startsWith 67 = .ok (.invokevirtual 124, 3) := by decide +kernel
theorem dX6_startsWith_70 : decode cX6_startsWith 70 = .ok (.aload_n 0, 1) := by decide +kernel
