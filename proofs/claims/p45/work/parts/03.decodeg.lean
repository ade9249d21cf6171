theorem dX15_isSame_197 : decode cX15_isSame 197 = .ok (.iconst 0, 1) := by decide +kernel
theorem dX15_isSame_198 : decode cX15_isSame 198 = .ok (.ireturn, 1) := by decide +kernel
theorem dX15_isSame_199 : decode cX15_isSame 199 = .ok (.iinc 3 1, 3) := by decide +kernel
theorem dX15_isSame_202 : decode cX15_isSame 202 = .ok (.goto (-28), 3) := by decide +kernel
theorem dX15_isSame_205 : decode cX15_isSame 205 = .ok (.iconst 0, 1) := by decide +kernel
theorem dX15_isSame_206 : decode cX15_isSame 206 = .ok (.istore_n 3, 1) := by decide +kernel
theorem dX15_isSame_207 : decode cX15_isSame 207 = .ok (.aload_n 0, 1) := by decide +kernel
theorem dX15_isSame_208 : decode cX15_isSame 208 = .ok (.getfield 24, 3) := by decide +kernel
theorem dX15_isSame_211 : decode cX15_isSame 211 = .ok (.astore 4, 2) := by decide +kernel
theorem dX15_isSame_213 : decode cX15_isSame 213 = .ok (.aload 4, 2) := by decide +kernel
theorem dX15_isSame_215 : decode cX15_isSame 215 = .ok (.arraylength, 1) := by decide +kernel
theorem dX15_isSame_216 : decode cX15_isSame 216 = .ok (.istore 5, 2) := by decide +kernel
theorem dX15_isSame_218 : decode cX15_isSame 218 = .ok (.iconst 0, 1) := by decide +kernel
theorem dX15_isSame_219 : decode cX15_isSame 219 = .ok (.istore 6, 2) := by decide +kernel
theorem dX15_isSame_221 : decode cX15_isSame 221 = .ok (.iload 6, 2) := by decide +kernel
theorem dX15_isSame_223 : decode cX15_isSame 223 = .ok (.iload 5, 2) := by decide +kernel
theorem dX15_isSame_225 : decode cX15_isSame 225 = .ok (.if_icmp .ge 24, 3) := by decide +kernel
theorem dX15_isSame_228 : decode cX15_isSame 228 = .ok (.aload 4, 2) := by decide +kernel
theorem dX15_isSame_230 : decode cX15_isSame 230 = .ok (.iload 6, 2) := by decide +kernel
theorem dX15_isSame_232 : decode cX15_isSame 232 = .ok (.aaload, 1) := by decide +kernel
theorem dX15_isSame_233 : decode cX15_isSame 233 = .ok (.astore 7, 2) := by decide +kernel
theorem dX15_isSame_235 : decode cX15_isSame 235 = .ok (.iload_n 3, 1) := by decide +kernel
theorem dX15_isSame_236 : decode cX15_isSame 236 = .ok (.aload 7, 2) := by decide +kernel
theorem dX15_isSame_238 : decode cX15_isSame 238 = .ok (.invokestatic 158, 3) := by decide +kernel
theorem dX15_isSame_241 : decode cX15_isSame 241 = .ok (.iadd, 1) := by decide +kernel
theorem dX15_isSame_242 : decode cX15_isSame 242 = .ok (.istore_n 3, 1) := by decide +kernel
theorem dX15_isSame_243 : decode cX15_isSame 243 = .ok (.iinc 6 1, 3) := by decide +kernel
theorem dX15_isSame_246 : decode cX15_isSame 246 = .ok (.goto (-25), 3) := by decide +kernel
theorem dX15_isSame_249 : decode cX15_isSame 249 = .ok (.aload_n 1, 1) := by decide +kernel
theorem dX15_isSame_250 : decode cX15_isSame 250 = .ok (.invokevirtual 162, 3) := by decide +kernel
theorem dX15_isSame_253 : decode cX15_isSame 253 = .ok (.aload_n 0, 1) := by decide +kernel
theorem dX15_isSame_254 : decode cX15_isSame 254 = .ok (.getfield 18, 3) := by decide +kernel
theorem dX15_isSame_257 : decode cX15_isSame 257 = .ok (.arraylength, 1) := by decide +kernel
theorem dX15_isSame_258 : decode cX15_isSame 258 = .ok (.if_icmp .ne 133, 3) := by decide +kernel
theorem dX15_isSame_261 : decode cX15_isSame 261 = .ok (.aload_n 1, 1) := by decide +kernel
theorem dX15_isSame_262 : decode cX15_isSame 262 = .ok (.invokevirtual 164, 3) := by decide +kernel
theorem dX15_isSame_265 : decode cX15_isSame 265 = .ok (.aload_n 0, 1) := by decide +kernel
theorem dX15_isSame_266 : decode cX15_isSame 266 = .ok (.getfield 24, 3) := by decide +kernel
theorem dX15_isSame_269 : decode cX15_isSame 269 = .ok (.arraylength, 1) := by decide +kernel
theorem dX15_isSame_270 : decode cX15_isSame 270 = .ok (.if_icmp .ne 121, 3) := by decide +kernel
theorem dX15_isSame_273 : decode cX15_isSame 273 = .ok (.aload_n 1, 1) := by decide +kernel
theorem dX15_isSame_274 : decode cX15_isSame 274 = .ok (.invokevirtual 166, 3) := by decide +kernel
theorem dX15_isSame_277 : decode cX15_isSame 277 = .ok (.iload_n 3, 1) := by decide +kernel
theorem dX15_isSame_278 : decode cX15_isSame 278 = .ok (.if_icmp .ne 113, 3) := by decide +kernel
theorem dX15_isSame_281 : decode cX15_isSame 281 = .ok (.aload_n 1, 1) := by decide +kernel
theorem dX15_isSame_282 : decode cX15_isSame 282 = .ok (.invokevirtual 169, 3) := by decide +kernel
theorem dX15_isSame_285 : decode cX15_isSame 285 = .ok (.aload_n 0, 1) := by decide +kernel
theorem dX15_isSame_286 : decode cX15_isSame 286 = .ok (.getfield 38, 3) := by decide +kernel
theorem dX15_isSame_289 : decode cX15_isSame 289 = .ok (.if_icmp .ne 102, 3) := by decide +kernel
theorem dX15_isSame_292 : decode cX15_isSame 292 = .ok (.aload_n 1, 1) := by decide +kernel
theorem dX15_isSame_293 : decode cX15_isSame 293 = .ok (.invokevirtual 171, 3) := by decide +kernel
theorem dX15_isSame_296 : decode cX15_isSame 296 = .ok (.aload_n 0, 1) := by decide +kernel
theorem dX15_isSame_297 : decode cX15_isSame 297 = .ok (.invokevirtual 69, 3) := by decide +kernel
theorem dX15_isSame_300 : decode cX15_isSame 300 = .ok (.if_icmp .ne 91, 3) := by decide +kernel
theorem dX15_isSame_303 : decode cX15_isSame 303 = .ok (.aload_n 1, 1) := by decide +kernel
theorem dX15_isSame_304 : decode cX15_isSame 304 = .ok (.invokevirtual 174, 3) := by decide +kernel
theorem dX15_isSame_307 : decode cX15_isSame 307 = .ok (.aload_n 0, 1) := by decide +kernel
theorem dX15_isSame_308 : decode cX15_isSame 308 = .ok (.getfield 7, 3) := by decide +kernel
theorem dX15_isSame_311 : decode cX15_isSame 311 = .ok (.if_icmp .ne 80, 3) := by decide +kernel
theorem dX15_isSame_314 : decode cX15_isSame 314 = .ok (.aload_n 1, 1) := by decide +kernel
theorem dX15_isSame_315 : decode cX15_isSame 315 = .ok (.invokevirtual 176, 3) := by decide +kernel
theorem dX15_isSame_318 : decode cX15_isSame 318 = .ok (.aload_n 0, 1) := by decide +kernel
theorem dX15_isSame_319 : decode cX15_isSame 319 = .ok (.getfield 13, 3) := by decide +kernel
theorem dX15_isSame_322 : decode cX15_isSame 322 = .ok (.if_icmp .ne 69, 3) := by decide +kernel
theorem dX15_isSame_325 : decode cX15_isSame 325 = .ok (.aload_n 1, 1) := by decide +kernel
theorem dX15_isSame_326 : decode cX15_isSame 326 = .ok (.invokevirtual 178, 3) := by decide +kernel
theorem dX15_isSame_329 : decode cX15_isSame 329 = .ok (.aload_n 0, 1) := by decide +kernel
theorem dX15_isSame_330 : decode cX15_isSame 330 = .ok (.getfield 41, 3) := by decide +kernel
theorem dX15_isSame_333 : decode cX15_isSame 333 = .ok (.if_icmp .ne 58, 3) := by decide +kernel
theorem dX15_isSame_336 : decode cX15_isSame 336 = .ok (.aload_n 1, 1) := by decide +kernel
theorem dX15_isSame_337 : decode cX15_isSame 337 = .ok (.invokevirtual 180, 3) := by decide +kernel
theorem dX15_isSame_340 : decode cX15_isSame 340 = .ok (.aload_n 0, 1) := by decide +kernel
theorem dX15_isSame_341 : decode cX15_isSame 341 = .ok (.invokevirtual 183, 3) := by decide +kernel
theorem dX15_isSame_344 : decode cX15_isSame 344 = .ok (.if_icmp .ne 47, 3) := by decide +kernel
theorem dX15_isSame_347 : decode cX15_isSame 347 = .ok (.aload_n 1, 1) := by decide +kernel
theorem dX15_isSame_348 : decode cX15_isSame 348 = .ok (.invokevirtual 184, 3) := by decide +kernel
theorem dX15_isSame_351 : decode cX15_isSame 351 = .ok (.aload_n 0, 1) := by decide +kernel
theorem dX15_isSame_352 : decode cX15_isSame 352 = .ok (.getfield 48, 3) := by decide +kernel
theorem dX15_isSame_355 : decode cX15_isSame 355 = .ok (.if_icmp .ne 36, 3) := by decide +kernel
theorem dX15_isSame_358 : decode cX15_isSame 358 = .ok (.aload_n 1, 1) := by decide +kernel
theorem dX15_isSame_359 : decode cX15_isSame 359 = .ok (.invokevirtual 186, 3) := by decide +kernel
theorem dX15_isSame_362 : decode cX15_isSame 362 = .ok (.aload_n 0, 1) := by decide +kernel
theorem dX15_isSame_363 : decode cX15_isSame 363 = .ok (.getfield 18, 3) := by decide +kernel
theorem dX15_isSame_366 : decode cX15_isSame 366 = .ok (.arraylength, 1) := by decide +kernel
theorem dX15_isSame_367 : decode cX15_isSame 367 = .ok (.ifCond .ne 7, 3) := by decide +kernel
theorem dX15_isSame_370 : decode cX15_isSame 370 = .ok (.dconst 0, 1) := by decide +kernel
theorem dX15_isSame_371 : decode cX15_isSame 371 = .ok (.goto 12, 3) := by decide +kernel
theorem dX15_isSame_374 : decode cX15_isSame 374 = .ok (.iload_n 2, 1) := by decide +kernel
theorem dX15_isSame_375 : decode cX15_isSame 375 = .ok (.i2d, 1) := by decide +kernel
theorem dX15_isSame_376 : decode cX15_isSame 376 = .ok (.aload_n 0, 1) := by decide +kernel
theorem dX15_isSame_377 : decode cX15_isSame 377 = .ok (.getfield 18, 3) := by decide +kernel
theorem dX15_isSame_380 : decode cX15_isSame 380 = .ok (.arraylength, 1) := by decide +kernel
theorem dX15_isSame_381 : decode cX15_isSame 381 = .ok (.i2d, 1) := by decide +kernel
theorem dX15_isSame_382 : decode cX15_isSame 382 = .ok (.ddiv, 1) := by decide +kernel
theorem dX15_isSame_383 : decode cX15_isSame 383 = .ok (.dcmp .l, 1) := by decide +kernel
theorem dX15_isSame_384 : decode cX15_isSame 384 = .ok (.ifCond .ne 7, 3) := by decide +kernel
theorem dX15_isSame_387 : decode cX15_isSame 387 = .ok (.iconst 1, 1) := by decide +kernel
theorem dX15_isSame_388 : decode cX15_isSame 388 = .ok (.goto 4, 3) := by decide +kernel
theorem dX15_isSame_391 : decode cX15_isSame 391 = .ok (.iconst 0, 1) := by decide +kernel
theorem dX15_isSame_392 : decode cX15_isSame 392 = .ok (.ireturn, 1) := by decide +kernel
theorem dX16_init_0 : decode cX16_init 0 = .ok (.aload_n 0, 1) := by decide +kernel
theorem dX16_init_1 : decode cX16_init 1 = .ok (.invokespecial 1, 3) := by decide +kernel
theorem dX16_init_4 : decode cX16_init 4 = .ok (.aload_n 0, 1) := by decide +kernel
theorem dX16_init_5 : decode cX16_init 5 = .ok (.iload_n 1, 1) := by decide +kernel
theorem dX16_init_6 : decode cX16_init 6 = .ok (.putfield 7, 3) := by decide +kernel
theorem dX16_init_9 : decode cX16_init 9 = .ok (.aload_n 0, 1) := by decide +kernel
theorem dX16_init_10 : decode cX16_init 10 = .ok (.iload_n 2, 1) := by decide +kernel
theorem dX16_init_11 : decode cX16_init 11 = .ok (.putfield 13, 3) := by decide +kernel
theorem dX16_init_14 : decode cX16_init 14 = .ok (.aload_n 0, 1) := by decide +kernel
theorem dX16_init_15 : decode cX16_init 15 = .ok (.aload_n 3, 1) := by decide +kernel
theorem dX16_init_16 : decode cX16_init 16 = .ok (.putfield 16, 3) := by decide +kernel
theorem dX16_init_19 : decode cX16_init 19 = .ok (.aload_n 0, 1) := by decide +kernel
theorem dX16_init_20 : decode cX16_init 20 = .ok (.aload 4, 2) := by decide +kernel
theorem dX16_init_22 : decode cX16_init 22 = .ok (.putfield 20, 3) := by decide +kernel
theorem dX16_init_25 : decode cX16_init 25 = .ok (.return_, 1) := by decide +kernel
set_option maxRecDepth 20000 in
theorem ggX16_drawn_X14_next : GoodIn wsX16_drawn wsX14_next := goodIn_r _ [8, 9, 10, 11, 12, 13, 14, 31] (by decide +kernel) (by decide +kernel)
set_option maxRecDepth 20000 in
theorem gX16_drawn_X14_next : GoodIn wsX16_drawn (wsV RX16 23 RX14 yX14_next wsX14_next) := goodIn_app (goodIn_of _ (by decide +kernel)) ggX16_drawn_X14_next
set_option maxRecDepth 20000 in
theorem ggX16_drawn_X16_drawn : GoodIn wsX16_drawn wsX16_drawn := goodIn_r _ [0, 1, 2, 3, 4, 5, 6, 7, 8, 9, 10, 11, 12, 13, 14, 15, 16, 17, 18, 19, 20, 21, 22, 23, 24, 25, 26, 27, 28, 29, 30, 31] (by decide +kernel) (by decide +kernel)
set_option maxRecDepth 20000 in
theorem gX16_drawn_X16_drawn : GoodIn wsX16_drawn (va_wsS RX16 29 yX16_drawn wsX16_drawn) := goodIn_app (goodIn_of _ (by decide +kernel)) ggX16_drawn_X16_drawn
set_option maxRecDepth 20000 in
theorem ggX16_drawn_X16_init : GoodIn wsX16_drawn wsX16_init := goodIn_r _ [19, 20, 21, 22, 23, 24, 25, 26, 27, 28, 29, 30] (by decide +kernel) (by decide +kernel)
set_option maxRecDepth 20000 in
theorem gX16_drawn_X16_init : GoodIn wsX16_drawn (wsX16_init) := ggX16_drawn_X16_init
theorem dX16_drawn_0 : decode cX16_drawn 0 = .ok (.aload_n 0, 1) := by decide +kernel
theorem dX16_drawn_1 : decode cX16_drawn 1 = .ok (.iload_n 2, 1) := by decide +kernel
theorem dX16_drawn_2 : decode cX16_drawn 2 = .ok (.ifCond .ne 8, 3) := by decide +kernel
theorem dX16_drawn_5 : decode cX16_drawn 5 = .ok (.bipush 14, 2) := by decide +kernel
theorem dX16_drawn_7 : decode cX16_drawn 7 = .ok (.goto 5, 3) := by decide +kernel
theorem dX16_drawn_10 : decode cX16_drawn 10 = .ok (.bipush 18, 2) := by decide +kernel
theorem dX16_drawn_12 : decode cX16_drawn 12 = .ok (.invokevirtual 23, 3) := by decide +kernel
theorem dX16_drawn_15 : decode cX16_drawn 15 = .ok (.istore 4, 2) := by decide +kernel
theorem dX16_drawn_17 : decode cX16_drawn 17 = .ok (.iload 4, 2) := by decide +kernel
theorem dX16_drawn_19 : decode cX16_drawn 19 = .ok (.bipush 13, 2) := by decide +kernel
theorem dX16_drawn_21 : decode cX16_drawn 21 = .ok (.if_icmp .le 38, 3) := by decide +kernel
theorem dX16_drawn_24 : decode cX16_drawn 24 = .ok (.aload_n 0, 1) := by decide +kernel
theorem dX16_drawn_25 : decode cX16_drawn 25 = .ok (.iload_n 1, 1) := by decide +kernel
theorem dX16_drawn_26 : decode cX16_drawn 26 = .ok (.iload_n 2, 1) := by decide +kernel
theorem dX16_drawn_27 : decode cX16_drawn 27 = .ok (.iconst 1, 1) := by decide +kernel
theorem dX16_drawn_28 : decode cX16_drawn 28 = .ok (.isub, 1) := by decide +kernel
theorem dX16_drawn_29 : decode cX16_drawn 29 = .ok (.iload_n 3, 1) := by decide +kernel
theorem dX16_drawn_30 : decode cX16_drawn 30 = .ok (.invokestatic 29, 3) := by decide +kernel
theorem dX16_drawn_33 : decode cX16_drawn 33 = .ok (.astore 5, 2) := by decide +kernel
theorem dX16_drawn_35 : decode cX16_drawn 35 = .ok (.new 8, 3) := by decide +kernel
theorem dX16_drawn_38 : decode cX16_drawn 38 = .ok (.dup, 1) := by decide +kernel
theorem dX16_drawn_39 : decode cX16_drawn 39 = .ok (.iload 4, 2) := by decide +kernel
theorem dX16_drawn_41 : decode cX16_drawn 41 = .ok (.iconst 3, 1) := by decide +kernel
theorem dX16_drawn_42 : decode cX16_drawn 42 = .ok (.isub, 1) := by decide +kernel
theorem dX16_drawn_43 : decode cX16_drawn 43 = .ok (.iconst 0, 1) := by decide +kernel
theorem dX16_drawn_44 : decode cX16_drawn 44 = .ok (.aload 5, 2) := by decide +kernel
theorem dX16_drawn_46 : decode cX16_drawn 46 = .ok (.aload_n 0, 1) := by decide +kernel
theorem dX16_drawn_47 : decode cX16_drawn 47 = .ok (.iload_n 1, 1) := by decide +kernel
theorem dX16_drawn_48 : decode cX16_drawn 48 = .ok (.iload_n 2, 1) := by decide +kernel
theorem dX16_drawn_49 : decode cX16_drawn 49 = .ok (.iconst 1, 1) := by decide +kernel
theorem dX16_drawn_50 : decode cX16_drawn 50 = .ok (.isub, 1) := by decide +kernel
theorem dX16_drawn_51 : decode cX16_drawn 51 = .ok (.iload_n 3, 1) := by decide +kernel
theorem dX16_drawn_52 : decode cX16_drawn 52 = .ok (.invokestatic 29, 3) := by decide +kernel
theorem dX16_drawn_55 : decode cX16_drawn 55 = .ok (.invokespecial 33, 3) := by decide +kernel
theorem dX16_drawn_58 : decode cX16_drawn 58 = .ok (.areturn, 1) := by decide +kernel
theorem dX16_drawn_59 : decode cX16_drawn 59 = .ok (.iload 4, 2) := by decide +kernel
theorem dX16_drawn_61 : decode cX16_drawn 61 = .ok (.bipush 10, 2) := by decide +kernel
theorem dX16_drawn_63 : decode cX16_drawn 63 = .ok (.if_icmp .le 21, 3) := by decide +kernel
theorem dX16_drawn_66 : decode cX16_drawn 66 = .ok (.new 8, 3) := by decide +kernel
theorem dX16_drawn_69 : decode cX16_drawn 69 = .ok (.dup, 1) := by decide +kernel
theorem dX16_drawn_70 : decode cX16_drawn 70 = .ok (.iconst 0, 1) := by decide +kernel
theorem dX16_drawn_71 : decode cX16_drawn 71 = .ok (.aload_n 0, 1) := by decide +kernel
theorem dX16_drawn_72 : decode cX16_drawn 72 = .ok (.iload_n 3, 1) := by decide +kernel
theorem dX16_drawn_73 : decode cX16_drawn 73 = .ok (.invokevirtual 23, 3) := by decide +kernel
theorem dX16_drawn_76 : decode cX16_drawn 76 = .ok (.aconst_null, 1) := by decide +kernel
theorem dX16_drawn_77 : decode cX16_drawn 77 = .ok (.aconst_null, 1) := by decide +kernel
theorem dX16_drawn_78 : decode cX16_drawn 78 = .ok (.invokespecial 33, 3) := by decide +kernel
theorem dX16_drawn_81 : decode cX16_drawn 81 = .ok (.goto 34, 3) := by decide +kernel
theorem dX16_drawn_84 : decode cX16_drawn 84 = .ok (.new 8, 3) := by decide +kernel
theorem dX16_drawn_87 : decode cX16_drawn 87 = .ok (.dup, 1) := by decide +kernel
theorem dX16_drawn_88 : decode cX16_drawn 88 = .ok (.iload 4, 2) := by decide +kernel
theorem dX16_drawn_90 : decode cX16_drawn 90 = .ok (.iload 4, 2) := by decide +kernel
theorem dX16_drawn_92 : decode cX16_drawn 92 = .ok (.ifCond .ne 13, 3) := by decide +kernel
theorem dX16_drawn_95 : decode cX16_drawn 95 = .ok (.aload_n 0, 1) := by decide +kernel
theorem dX16_drawn_96 : decode cX16_drawn 96 = .ok (.sipush 1000, 3) := by decide +kernel
theorem dX16_drawn_99 : decode cX16_drawn 99 = .ok (.invokevirtual 23, 3) := by decide +kernel
theorem dX16_drawn_102 : decode cX16_drawn 102 = .ok (.goto 8, 3) := by decide +kernel
theorem dX16_drawn_105 : decode cX16_drawn 105 = .ok (.aload_n 0, 1) := by decide +kernel
theorem dX16_drawn_106 : decode cX16_drawn 106 = .ok (.iload_n 1, 1) := by decide +kernel
theorem dX16_drawn_107 : decode cX16_drawn 107 = .ok (.invokevirtual 23, 3) := by decide +kernel
theorem dX16_drawn_110 : decode cX16_drawn 110 = .ok (.aconst_null, 1) := by decide +kernel
theorem dX16_drawn_111 : decode cX16_drawn 111 = .ok (.aconst_null, 1) := by decide +kernel
theorem dX16_drawn_112 : decode cX16_drawn 112 = .ok (.invokespecial 33, 3) := by decide +kernel
theorem dX16_drawn_115 : decode cX16_drawn 115 = .ok (.areturn, 1) := by decide +kernel
set_option maxRecDepth 20000 in
theorem ggX16_text_J4_init_da8c8 : GoodIn wsX16_text wsJ4_init_da8c8 := goodIn_r _ [10, 11, 12, 13, 14, 15, 16, 17, 18, 19, 20, 21, 22, 23, 24, 25, 26, 27, 28, 29, 277, 278, 279, 280] (by decide +kernel) (by decide +kernel)
set_option maxRecDepth 20000 in
theorem gX16_text_J4_init_da8c8 : GoodIn wsX16_text (wsJ4_init_da8c8) := ggX16_text_J4_init_da8c8
set_option maxRecDepth 20000 in
theorem pgX16_text_J4_append_15ec4_0 : GoodIn wsX16_text (Cond.code yJ4_append_15ec4 cJ4_append_15ec4 2 (some (.object "java/lang/StringBuilder")) :: wsJ4_append_15ec4_r1) := goodIn_r _ [33, 34, 35, 36, 37, 13, 38, 39, 40, 41, 42, 43, 44, 20, 45, 46, 47, 48, 49, 21, 50, 51, 52, 53, 54] (by decide +kernel) (by decide +kernel)
set_option maxRecDepth 20000 in
theorem pgX16_text_J4_append_15ec4_1 : GoodIn wsX16_text wsJ4_append_15ec4_r2 := goodIn_r _ [55, 56, 57, 58, 59, 60, 61, 62, 63, 64, 65, 66, 67, 68, 69, 70, 71, 72, 73, 74, 75, 76, 77, 19] (by decide +kernel) (by decide +kernel)
set_option maxRecDepth 20000 in
theorem pgX16_text_J4_append_15ec4_2 : GoodIn wsX16_text wsJ4_append_15ec4_r3 := goodIn_r _ [78, 79, 80, 81, 82, 83, 84, 85, 86, 87, 88, 89, 18, 90, 91, 24, 92, 93, 94, 95, 96, 97, 98, 99] (by decide +kernel) (by decide +kernel)
set_option maxRecDepth 20000 in
theorem pgX16_text_J4_append_15ec4_3 : GoodIn wsX16_text wsJ4_append_15ec4_r4 := goodIn_r _ [100, 101, 102, 103, 104, 105, 106, 107, 108, 109, 110, 111, 112, 113, 114, 115, 116, 117, 118, 119, 120, 121, 122, 123] (by decide +kernel) (by decide +kernel)
set_option maxRecDepth 20000 in
theorem pgX16_text_J4_append_15ec4_4 : GoodIn wsX16_text wsJ4_append_15ec4_r5 := goodIn_r _ [124, 125, 126, 127, 128, 129, 130, 131, 132, 133, 134, 135, 136, 137, 138, 139, 140, 22, 23, 25, 26, 27, 28, 29] (by decide +kernel) (by decide +kernel)
set_option maxRecDepth 20000 in
theorem pgX16_text_J4_append_15ec4_5 : GoodIn wsX16_text wsJ4_append_15ec4_r6 := goodIn_r _ [141, 142, 143, 144, 145, 146, 147, 148, 149, 150, 151, 152, 153, 154, 155, 156, 157, 158, 159, 160, 161, 162] (by decide +kernel) (by decide +kernel)
set_option maxRecDepth 20000 in
theorem pgX16_text_J4_append_15ec4_6 : GoodIn wsX16_text wsJ40 := goodIn_r _ [277, 278, 279, 280] (by decide +kernel) (by decide +kernel)
set_option maxRecDepth 20000 in
theorem pgX16_text_J4_append_15ec4_7 : GoodIn wsX16_text wsJ00 := goodIn_r _ [281, 282, 283, 284] (by decide +kernel) (by decide +kernel)
set_option maxRecDepth 20000 in
theorem ggX16_text_J4_append_15ec4 : GoodIn wsX16_text wsJ4_append_15ec4 := goodIn_ca (goodIn_ca (goodIn_ca pgX16_text_J4_append_15ec4_0 (goodIn_app pgX16_text_J4_append_15ec4_1 (goodIn_app pgX16_text_J4_append_15ec4_2 (goodIn_app pgX16_text_J4_append_15ec4_3 (goodIn_app pgX16_text_J4_append_15ec4_4 (pgX16_text_J4_append_15ec4_5)))))) pgX16_text_J4_append_15ec4_6) pgX16_text_J4_append_15ec4_7
set_option maxRecDepth 20000 in
theorem gX16_text_J4_append_15ec4 : GoodIn wsX16_text (wsV RX16 41 RJ4 yJ4_append_15ec4 wsJ4_append_15ec4) := goodIn_app (goodIn_of _ (by decide +kernel)) ggX16_text_J4_append_15ec4
set_option maxRecDepth 20000 in
theorem pgX16_text_J4_append_bf812_0 : GoodIn wsX16_text (Cond.code yJ4_append_bf812 cJ4_append_bf812 2 (some (.object "java/lang/StringBuilder")) :: wsJ4_append_bf812_r1) := goodIn_r _ [166, 167, 168, 36, 169, 13, 170, 39, 20, 171, 172, 173, 174, 45, 46, 47, 48, 49, 21, 50, 51, 52, 53, 54, 55] (by decide +kernel) (by decide +kernel)
set_option maxRecDepth 20000 in
theorem pgX16_text_J4_append_bf812_1 : GoodIn wsX16_text wsJ4_append_bf812_r2 := goodIn_r _ [56, 57, 58, 59, 60, 61, 62, 63, 64, 65, 66, 67, 68, 69, 70, 71, 72, 73, 74, 75, 76, 77, 19, 78] (by decide +kernel) (by decide +kernel)
set_option maxRecDepth 20000 in
theorem pgX16_text_J4_append_bf812_2 : GoodIn wsX16_text wsJ4_append_bf812_r3 := goodIn_r _ [79, 80, 81, 82, 83, 84, 85, 86, 87, 88, 89, 18, 175, 176, 177, 178, 179, 180, 181, 24, 182, 93, 94, 95] (by decide +kernel) (by decide +kernel)
set_option maxRecDepth 20000 in
theorem pgX16_text_J4_append_bf812_3 : GoodIn wsX16_text wsJ4_append_bf812_r4 := goodIn_r _ [96, 97, 98, 99, 100, 101, 102, 103, 104, 105, 106, 107, 108, 183, 184, 185, 186, 187, 109, 110, 111, 112, 113] (by decide +kernel) (by decide +kernel)
set_option maxRecDepth 20000 in
theorem pgX16_text_J4_append_bf812_4 : GoodIn wsX16_text wsJ40 := goodIn_r _ [277, 278, 279, 280] (by decide +kernel) (by decide +kernel)
set_option maxRecDepth 20000 in
theorem ggX16_text_J4_append_bf812 : GoodIn wsX16_text wsJ4_append_bf812 := goodIn_ca (goodIn_ca pgX16_text_J4_append_bf812_0 (goodIn_app pgX16_text_J4_append_bf812_1 (goodIn_app pgX16_text_J4_append_bf812_2 (pgX16_text_J4_append_bf812_3)))) pgX16_text_J4_append_bf812_4
set_option maxRecDepth 20000 in
theorem gX16_text_J4_append_bf812 : GoodIn wsX16_text (wsV RX16 45 RJ4 yJ4_append_bf812 wsJ4_append_bf812) := goodIn_app (goodIn_of _ (by decide +kernel)) ggX16_text_J4_append_bf812
set_option maxRecDepth 20000 in
theorem pgX16_text_J4_toString_0e30d_0 : GoodIn wsX16_text (Cond.code yJ4_toString_0e30d cJ4_toString_0e30d 1 (some (.object "java/lang/String")) :: wsJ4_toString_0e30d_r1) := goodIn_r _ [191, 192, 193, 102, 194, 195, 196, 197, 198, 199, 200, 16, 17, 124, 118, 123, 201, 202, 203, 204, 205, 13, 206, 20, 207] (by decide +kernel) (by decide +kernel)
set_option maxRecDepth 20000 in
theorem pgX16_text_J4_toString_0e30d_1 : GoodIn wsX16_text wsJ4_toString_0e30d_r2 := goodIn_r _ [208, 209, 210, 211, 4, 212, 213, 36, 214, 215, 39, 216, 86, 87, 88, 89, 18, 21, 217, 218, 70, 219, 72, 73] (by decide +kernel) (by decide +kernel)
set_option maxRecDepth 20000 in
theorem pgX16_text_J4_toString_0e30d_2 : GoodIn wsX16_text wsJ4_toString_0e30d_r3 := goodIn_r _ [74, 75, 76, 77, 220, 221, 222, 19, 78, 79, 62, 80, 81, 82, 83, 84, 223, 224, 225, 226, 227, 24, 228, 229] (by decide +kernel) (by decide +kernel)
set_option maxRecDepth 20000 in
theorem pgX16_text_J4_toString_0e30d_3 : GoodIn wsX16_text wsJ4_toString_0e30d_r4 := goodIn_r _ [230, 231, 148, 149, 150, 97, 98, 99, 151, 152, 153, 104, 154, 155, 107, 156, 232, 233, 234, 93, 112, 113, 26, 27] (by decide +kernel) (by decide +kernel)
set_option maxRecDepth 20000 in
theorem pgX16_text_J4_toString_0e30d_4 : GoodIn wsX16_text wsJ4_toString_0e30d_r5 := goodIn_r _ [28, 29, 235, 236, 237, 238] (by decide +kernel) (by decide +kernel)
set_option maxRecDepth 20000 in
theorem pgX16_text_J4_toString_0e30d_5 : GoodIn wsX16_text wsJ00 := goodIn_r _ [281, 282, 283, 284] (by decide +kernel) (by decide +kernel)
set_option maxRecDepth 20000 in
theorem pgX16_text_J4_toString_0e30d_6 : GoodIn wsX16_text wsJ40 := goodIn_r _ [277, 278, 279, 280] (by decide +kernel) (by decide +kernel)
set_option maxRecDepth 20000 in
theorem ggX16_text_J4_toString_0e30d : GoodIn wsX16_text wsJ4_toString_0e30d := goodIn_ca (goodIn_ca (goodIn_ca pgX16_text_J4_toString_0e30d_0 (goodIn_app pgX16_text_J4_toString_0e30d_1 (goodIn_app pgX16_text_J4_toString_0e30d_2 (goodIn_app pgX16_text_J4_toString_0e30d_3 (pgX16_text_J4_toString_0e30d_4))))) pgX16_text_J4_toString_0e30d_5) pgX16_text_J4_toString_0e30d_6
set_option maxRecDepth 20000 in
theorem gX16_text_J4_toString_0e30d : GoodIn wsX16_text (wsV RX16 48 RJ4 yJ4_toString_0e30d wsJ4_toString_0e30d) := goodIn_app (goodIn_of _ (by decide +kernel)) ggX16_text_J4_toString_0e30d
set_option maxRecDepth 20000 in
theorem pgX16_text_L_pan_0 : GoodIn wsX16_text (Cond.code yL_pan cL_pan 1 (some (.object "java/lang/String")) :: wsL_pan_r1) := goodIn_r _ [241, 242, 3, 4, 243, 9, 10, 11, 12, 13, 14, 15, 16, 17, 18, 19, 20, 21, 22, 23, 24, 25, 26, 27, 28] (by decide +kernel) (by decide +kernel)
set_option maxRecDepth 20000 in
theorem pgX16_text_L_pan_1 : GoodIn wsX16_text wsL_pan_r2 := goodIn_r _ [29, 244, 31, 32, 33, 34, 35, 36, 37, 38, 39, 40, 41, 42, 43, 44, 45, 46, 47, 48, 49, 50, 51, 52] (by decide +kernel) (by decide +kernel)
set_option maxRecDepth 20000 in
theorem pgX16_text_L_pan_2 : GoodIn wsX16_text wsL_pan_r3 := goodIn_r _ [53, 54, 55, 56, 57, 58, 59, 60, 61, 62, 63, 64, 65, 66, 67, 68, 69, 70, 71, 72, 73, 74, 75, 76] (by decide +kernel) (by decide +kernel)
set_option maxRecDepth 20000 in
theorem pgX16_text_L_pan_3 : GoodIn wsX16_text wsL_pan_r4 := goodIn_r _ [77, 78, 79, 80, 81, 82, 83, 84, 85, 86, 87, 88, 89, 90, 91, 92, 93, 94, 95, 96, 97, 98, 99, 100] (by decide +kernel) (by decide +kernel)
set_option maxRecDepth 20000 in
theorem pgX16_text_L_pan_4 : GoodIn wsX16_text wsL_pan_r5 := goodIn_r _ [101, 102, 103, 104, 105, 106, 107, 108, 109, 110, 111, 112, 113, 114, 115, 116, 117, 118, 119, 120, 121, 122, 123, 124] (by decide +kernel) (by decide +kernel)
set_option maxRecDepth 20000 in
theorem pgX16_text_L_pan_5 : GoodIn wsX16_text wsL_pan_r6 := goodIn_r _ [125, 126, 127, 128, 129, 130, 131, 132, 133, 134, 135, 136, 137, 138, 139, 140, 141, 142, 143, 144, 145, 146, 147, 148] (by decide +kernel) (by decide +kernel)
set_option maxRecDepth 20000 in
theorem pgX16_text_L_pan_6 : GoodIn wsX16_text wsL_pan_r7 := goodIn_r _ [149, 150, 151, 152, 153, 154, 155, 156, 157, 158, 159, 160, 161, 162, 245, 246, 247, 248, 249, 250, 251, 252, 253, 254] (by decide +kernel) (by decide +kernel)
set_option maxRecDepth 20000 in
theorem pgX16_text_L_pan_7 : GoodIn wsX16_text wsL_pan_r8 := goodIn_r _ [255, 256, 257, 258, 259, 260, 261, 262, 263, 264, 265, 266, 267, 268, 189, 190, 191, 192, 193, 194, 195, 196, 197, 198] (by decide +kernel) (by decide +kernel)
set_option maxRecDepth 20000 in
theorem pgX16_text_L_pan_8 : GoodIn wsX16_text wsL_pan_r9 := goodIn_r _ [199, 200, 201, 202, 203, 204, 205, 206, 207, 208, 209, 210, 211, 212, 213, 214, 215, 216, 217, 218, 219, 220, 221, 222] (by decide +kernel) (by decide +kernel)
set_option maxRecDepth 20000 in
theorem pgX16_text_L_pan_9 : GoodIn wsX16_text wsL_pan_r10 := goodIn_r _ [223, 224, 225, 226, 227, 228, 229, 230, 231, 232, 233, 234, 235, 236, 237, 238] (by decide +kernel) (by decide +kernel)
set_option maxRecDepth 20000 in
theorem pgX16_text_L_pan_10 : GoodIn wsX16_text wsJ40 := goodIn_r _ [277, 278, 279, 280] (by decide +kernel) (by decide +kernel)
set_option maxRecDepth 20000 in
theorem pgX16_text_L_pan_11 : GoodIn wsX16_text wsJ00 := goodIn_r _ [281, 282, 283, 284] (by decide +kernel) (by decide +kernel)
set_option maxRecDepth 20000 in
theorem ggX16_text_L_pan : GoodIn wsX16_text wsL_pan := goodIn_ca (goodIn_ca (goodIn_ca pgX16_text_L_pan_0 (goodIn_app pgX16_text_L_pan_1 (goodIn_app pgX16_text_L_pan_2 (goodIn_app pgX16_text_L_pan_3 (goodIn_app pgX16_text_L_pan_4 (goodIn_app pgX16_text_L_pan_5 (goodIn_app pgX16_text_L_pan_6 (goodIn_app pgX16_text_L_pan_7 (goodIn_app pgX16_text_L_pan_8 (pgX16_text_L_pan_9)))))))))) pgX16_text_L_pan_10) pgX16_text_L_pan_11
set_option maxRecDepth 20000 in
theorem gX16_text_L_pan_n63 : GoodIn wsX16_text (wsL_pan) := ggX16_text_L_pan
set_option maxRecDepth 20000 in
theorem pgX16_text_X16_text_0 : GoodIn wsX16_text (Cond.code yX16_text cX16_text 1 (some (.object "java/lang/String")) :: wsX16_text_r1) := goodIn_r _ [0, 1, 2, 3, 4, 5, 6, 7, 8, 9, 10, 11, 12, 13, 14, 15, 16, 17, 18, 19, 20, 21, 22, 23, 24] (by decide +kernel) (by decide +kernel)
set_option maxRecDepth 20000 in
theorem pgX16_text_X16_text_1 : GoodIn wsX16_text wsX16_text_r2 := goodIn_r _ [25, 26, 27, 28, 29, 30, 31, 32, 33, 34, 35, 36, 37, 38, 39, 40, 41, 42, 43, 44, 45, 46, 47, 48] (by decide +kernel) (by decide +kernel)
set_option maxRecDepth 20000 in
theorem pgX16_text_X16_text_2 : GoodIn wsX16_text wsX16_text_r3 := goodIn_r _ [49, 50, 51, 52, 53, 54, 55, 56, 57, 58, 59, 60, 61, 62, 63, 64, 65, 66, 67, 68, 69, 70, 71, 72] (by decide +kernel) (by decide +kernel)
set_option maxRecDepth 20000 in
theorem pgX16_text_X16_text_3 : GoodIn wsX16_text wsX16_text_r4 := goodIn_r _ [73, 74, 75, 76, 77, 78, 79, 80, 81, 82, 83, 84, 85, 86, 87, 88, 89, 90, 91, 92, 93, 94, 95, 96] (by decide +kernel) (by decide +kernel)
set_option maxRecDepth 20000 in
theorem pgX16_text_X16_text_4 : GoodIn wsX16_text wsX16_text_r5 := goodIn_r _ [97, 98, 99, 100, 101, 102, 103, 104, 105, 106, 107, 108, 109, 110, 111, 112, 113, 114, 115, 116, 117, 118, 119, 120] (by decide +kernel) (by decide +kernel)
set_option maxRecDepth 20000 in
theorem pgX16_text_X16_text_5 : GoodIn wsX16_text wsX16_text_r6 := goodIn_r _ [121, 122, 123, 124, 125, 126, 127, 128, 129, 130, 131, 132, 133, 134, 135, 136, 137, 138, 139, 140, 141, 142, 143, 144] (by decide +kernel) (by decide +kernel)
set_option maxRecDepth 20000 in
theorem pgX16_text_X16_text_6 : GoodIn wsX16_text wsX16_text_r7 := goodIn_r _ [145, 146, 147, 148, 149, 150, 151, 152, 153, 154, 155, 156, 157, 158, 159, 160, 161, 162, 163, 164, 165, 166, 167, 168] (by decide +kernel) (by decide +kernel)
set_option maxRecDepth 20000 in
theorem pgX16_text_X16_text_7 : GoodIn wsX16_text wsX16_text_r8 := goodIn_r _ [169, 170, 171, 172, 173, 174, 175, 176, 177, 178, 179, 180, 181, 182, 183, 184, 185, 186, 187, 188, 189, 190, 191, 192] (by decide +kernel) (by decide +kernel)
set_option maxRecDepth 20000 in
theorem pgX16_text_X16_text_8 : GoodIn wsX16_text wsX16_text_r9 := goodIn_r _ [193, 194, 195, 196, 197, 198, 199, 200, 201, 202, 203, 204, 205, 206, 207, 208, 209, 210, 211, 212, 213, 214, 215, 216] (by decide +kernel) (by decide +kernel)
set_option maxRecDepth 20000 in
theorem pgX16_text_X16_text_9 : GoodIn wsX16_text wsX16_text_r10 := goodIn_r _ [217, 218, 219, 220, 221, 222, 223, 224, 225, 226, 227, 228, 229, 230, 231, 232, 233, 234, 235, 236, 237, 238, 239, 240] (by decide +kernel) (by decide +kernel)
set_option maxRecDepth 20000 in
theorem pgX16_text_X16_text_10 : GoodIn wsX16_text wsX16_text_r11 := goodIn_r _ [241, 242, 243, 244, 245, 246, 247, 248, 249, 250, 251, 252, 253, 254, 255, 256, 257, 258, 259, 260, 261, 262, 263, 264] (by decide +kernel) (by decide +kernel)
set_option maxRecDepth 20000 in
theorem pgX16_text_X16_text_11 : GoodIn wsX16_text wsX16_text_r12 := goodIn_r _ [265, 266, 267, 268, 269, 270, 271, 272] (by decide +kernel) (by decide +kernel)
set_option maxRecDepth 20000 in
theorem pgX16_text_X16_text_12 : GoodIn wsX16_text wsX160 := goodIn_r _ [273, 274, 275, 276] (by decide +kernel) (by decide +kernel)
set_option maxRecDepth 20000 in
theorem pgX16_text_X16_text_13 : GoodIn wsX16_text wsJ40 := goodIn_r _ [277, 278, 279, 280] (by decide +kernel) (by decide +kernel)
set_option maxRecDepth 20000 in
theorem pgX16_text_X16_text_14 : GoodIn wsX16_text wsJ00 := goodIn_r _ [281, 282, 283, 284] (by decide +kernel) (by decide +kernel)
set_option maxRecDepth 20000 in
theorem ggX16_text_X16_text : GoodIn wsX16_text wsX16_text := goodIn_ca (goodIn_ca (goodIn_ca (goodIn_ca pgX16_text_X16_text_0 (goodIn_app pgX16_text_X16_text_1 (goodIn_app pgX16_text_X16_text_2 (goodIn_app pgX16_text_X16_text_3 (goodIn_app pgX16_text_X16_text_4 (goodIn_app pgX16_text_X16_text_5 (goodIn_app pgX16_text_X16_text_6 (goodIn_app pgX16_text_X16_text_7 (goodIn_app pgX16_text_X16_text_8 (goodIn_app pgX16_text_X16_text_9 (goodIn_app pgX16_text_X16_text_10 (pgX16_text_X16_text_11)))))))))))) pgX16_text_X16_text_12) pgX16_text_X16_text_13) pgX16_text_X16_text_14
set_option maxRecDepth 20000 in
theorem gX16_text_X16_text : GoodIn wsX16_text (wsV RX16 69 RX16 yX16_text wsX16_text) := goodIn_app (goodIn_of _ (by decide +kernel)) ggX16_text_X16_text
theorem dX16_text_0 : decode cX16_text 0 = .ok (.aload_n 0, 1) := by decide +kernel
theorem dX16_text_1 : decode cX16_text 1 = .ok (.getfield 7, 3) := by decide +kernel
theorem dX16_text_4 : decode cX16_text 4 = .ok (.ifCond .ne 26, 3) := by decide +kernel
theorem dX16_text_7 : decode cX16_text 7 = .ok (.new 36, 3) := by decide +kernel
theorem dX16_text_10 : decode cX16_text 10 = .ok (.dup, 1) := by decide +kernel
theorem dX16_text_11 : decode cX16_text 11 = .ok (.invokespecial 38, 3) := by decide +kernel
theorem dX16_text_14 : decode cX16_text 14 = .ok (.ldc 39, 2) := by decide +kernel
theorem dX16_text_16 : decode cX16_text 16 = .ok (.invokevirtual 41, 3) := by decide +kernel
theorem dX16_text_19 : decode cX16_text 19 = .ok (.aload_n 0, 1) := by decide +kernel
theorem dX16_text_20 : decode cX16_text 20 = .ok (.getfield 13, 3) := by decide +kernel
theorem dX16_text_23 : decode cX16_text 23 = .ok (.invokevirtual 45, 3) := by decide +kernel
theorem dX16_text_26 : decode cX16_text 26 = .ok (.invokevirtual 48, 3) := by decide +kernel
theorem dX16_text_29 : decode cX16_text 29 = .ok (.areturn, 1) := by decide +kernel
theorem dX16_text_30 : decode cX16_text 30 = .ok (.aload_n 0, 1) := by decide +kernel
theorem dX16_text_31 : decode cX16_text 31 = .ok (.getfield 7, 3) := by decide +kernel
theorem dX16_text_34 : decode cX16_text 34 = .ok (.bipush 6, 2) := by decide +kernel
theorem dX16_text_36 : decode cX16_text 36 = .ok (.if_icmp .ge 14, 3) := by decide +kernel
theorem dX16_text_39 : decode cX16_text 39 = .ok (.getstatic 52, 3) := by decide +kernel
theorem dX16_text_42 : decode cX16_text 42 = .ok (.aload_n 0, 1) := by decide +kernel
theorem dX16_text_43 : decode cX16_text 43 = .ok (.getfield 7, 3) := by decide +kernel
theorem dX16_text_46 : decode cX16_text 46 = .ok (.iconst 1, 1) := by decide +kernel
theorem dX16_text_47 : decode cX16_text 47 = .ok (.isub, 1) := by decide +kernel
theorem dX16_text_48 : decode cX16_text 48 = .ok (.aaload, 1) := by decide +kernel
theorem dX16_text_49 : decode cX16_text 49 = .ok (.areturn, 1) := by decide +kernel
theorem dX16_text_50 : decode cX16_text 50 = .ok (.aload_n 0, 1) := by decide +kernel
theorem dX16_text_51 : decode cX16_text 51 = .ok (.getfield 7, 3) := by decide +kernel
theorem dX16_text_54 : decode cX16_text 54 = .ok (.bipush 11, 2) := by decide +kernel
theorem dX16_text_56 : decode cX16_text 56 = .ok (.if_icmp .ge 45, 3) := by decide +kernel
theorem dX16_text_59 : decode cX16_text 59 = .ok (.new 36, 3) := by decide +kernel
theorem dX16_text_62 : decode cX16_text 62 = .ok (.dup, 1) := by decide +kernel
theorem dX16_text_63 : decode cX16_text 63 = .ok (.invokespecial 38, 3) := by decide +kernel
theorem dX16_text_66 : decode cX16_text 66 = .ok (.getstatic 58, 3) := by decide +kernel
theorem dX16_text_69 : decode cX16_text 69 = .ok (.aload_n 0, 1) := by decide +kernel
theorem dX16_text_70 : decode cX16_text 70 = .ok (.getfield 7, 3) := by decide +kernel
theorem dX16_text_73 : decode cX16_text 73 = .ok (.bipush 6, 2) := by decide +kernel
theorem dX16_text_75 : decode cX16_text 75 = .ok (.isub, 1) := by decide +kernel
theorem dX16_text_76 : decode cX16_text 76 = .ok (.aaload, 1) := by decide +kernel
theorem dX16_text_77 : decode cX16_text 77 = .ok (.invokevirtual 41, 3) := by decide +kernel
theorem dX16_text_80 : decode cX16_text 80 = .ok (.ldc 61, 2) := by decide +kernel
theorem dX16_text_82 : decode cX16_text 82 = .ok (.invokevirtual 41, 3) := by decide +kernel
theorem dX16_text_85 : decode cX16_text 85 = .ok (.aload_n 0, 1) := by decide +kernel
theorem dX16_text_86 : decode cX16_text 86 = .ok (.getfield 13, 3) := by decide +kernel
theorem dX16_text_89 : decode cX16_text 89 = .ok (.invokestatic 63, 3) := by decide +kernel
theorem dX16_text_92 : decode cX16_text 92 = .ok (.invokevirtual 41, 3) := by decide +kernel
theorem dX16_text_95 : decode cX16_text 95 = .ok (.invokevirtual 48, 3) := by decide +kernel
theorem dX16_text_98 : decode cX16_text 98 = .ok (.goto 57, 3) := by decide +kernel
theorem dX16_text_101 : decode cX16_text 101 = .ok (.new 36, 3) := by decide +kernel
theorem dX16_text_104 : decode cX16_text 104 = .ok (.dup, 1) := by decide +kernel
theorem dX16_text_105 : decode cX16_text 105 = .ok (.invokespecial 38, 3) := by decide +kernel
theorem dX16_text_108 : decode cX16_text 108 = .ok (.ldc 67, 2) := by decide +kernel
theorem dX16_text_110 : decode cX16_text 110 = .ok (.invokevirtual 41, 3) := by decide +kernel
theorem dX16_text_113 : decode cX16_text 113 = .ok (.aload_n 0, 1) := by decide +kernel
theorem dX16_text_114 : decode cX16_text 114 = .ok (.getfield 16, 3) := by decide +kernel
theorem dX16_text_117 : decode cX16_text 117 = .ok (.invokevirtual 69, 3) := by decide +kernel
theorem dX16_text_120 : decode cX16_text 120 = .ok (.invokevirtual 41, 3) := by decide +kernel
theorem dX16_text_123 : decode cX16_text 123 = .ok (.getstatic 72, 3) := by decide +kernel
theorem dX16_text_126 : decode cX16_text 126 = .ok (.aload_n 0, 1) := by decide +kernel
theorem dX16_text_127 : decode cX16_text 127 = .ok (.getfield 7, 3) := by decide +kernel
theorem dX16_text_130 : decode cX16_text 130 = .ok (.bipush 11, 2) := by decide +kernel
theorem dX16_text_132 : decode cX16_text 132 = .ok (.isub, 1) := by decide +kernel
theorem dX16_text_133 : decode cX16_text 133 = .ok (.aaload, 1) := by decide +kernel
theorem dX16_text_134 : decode cX16_text 134 = .ok (.invokevirtual 41, 3) := by decide +kernel
theorem dX16_text_137 : decode cX16_text 137 = .ok (.aload_n 0, 1) := by decide +kernel
theorem dX16_text_138 : decode cX16_text 138 = .ok (.getfield 20, 3) := by decide +kernel
theorem dX16_text_141 : decode cX16_text 141 = .ok (.invokevirtual 69, 3) := by decide +kernel
theorem dX16_text_144 : decode cX16_text 144 = .ok (.invokevirtual 41, 3) := by decide +kernel
theorem dX16_text_147 : decode cX16_text 147 = .ok (.ldc 75, 2) := by decide +kernel
theorem dX16_text_149 : decode cX16_text 149 = .ok (.invokevirtual 41, 3) := by decide +kernel
theorem dX16_text_152 : decode cX16_text 152 = .ok (.invokevirtual 48, 3) := by decide +kernel
theorem dX16_text_155 : decode cX16_text 155 = .ok (.areturn, 1) := by decide +kernel
set_option maxRecDepth 20000 in
theorem ggX16_value_X16_value : GoodIn wsX16_value wsX16_value := goodIn_r _ [0, 1, 2, 3, 4, 5, 6, 7, 8, 9, 10, 11, 12, 13, 14, 15, 16, 17, 18, 19, 20, 21, 22, 23, 24, 25, 26, 27, 28, 29, 30, 31, 32, 33, 34, 35, 36, 37, 38, 39, 40] (by decide +kernel) (by decide +kernel)
set_option maxRecDepth 20000 in
theorem gX16_value_X16_value : GoodIn wsX16_value (wsV RX16 77 RX16 yX16_value wsX16_value) := goodIn_app (goodIn_of _ (by decide +kernel)) ggX16_value_X16_value
set_option maxRecDepth 20000 in
theorem ggX16_value_X15_boiling : GoodIn wsX16_value wsX15_boiling := goodIn_r _ [18, 19, 29, 30, 31, 32, 33, 34, 35, 36, 37, 38, 39, 40] (by decide +kernel) (by decide +kernel)
set_option maxRecDepth 20000 in
theorem gX16_value_X15_boiling : GoodIn wsX16_value (wsV RX16 86 RX15 yX15_boiling wsX15_boiling) := goodIn_app (goodIn_of _ (by decide +kernel)) ggX16_value_X15_boiling
set_option maxRecDepth 20000 in
theorem ggX16_value_X15_room : GoodIn wsX16_value wsX15_room := goodIn_r _ [23, 24, 29, 30, 31, 32, 33, 34, 35, 36, 37, 38, 39, 40] (by decide +kernel) (by decide +kernel)
set_option maxRecDepth 20000 in
theorem gX16_value_X15_room : GoodIn wsX16_value (wsV RX16 99 RX15 yX15_room wsX15_room) := goodIn_app (goodIn_of _ (by decide +kernel)) ggX16_value_X15_room
theorem dX16_value_0 : decode cX16_value 0 = .ok (.aload_n 0, 1) := by decide +kernel
theorem dX16_value_1 : decode cX16_value 1 = .ok (.getfield 7, 3) := by decide +kernel
theorem dX16_value_4 : decode cX16_value 4 = .ok (.bipush 10, 2) := by decide +kernel
theorem dX16_value_6 : decode cX16_value 6 = .ok (.if_icmp .le 78, 3) := by decide +kernel
theorem dX16_value_9 : decode cX16_value 9 = .ok (.aload_n 0, 1) := by decide +kernel
theorem dX16_value_10 : decode cX16_value 10 = .ok (.getfield 16, 3) := by decide +kernel
theorem dX16_value_13 : decode cX16_value 13 = .ok (.aload_n 1, 1) := by decide +kernel
theorem dX16_value_14 : decode cX16_value 14 = .ok (.invokevirtual 77, 3) := by decide +kernel
theorem dX16_value_17 : decode cX16_value 17 = .ok (.istore_n 2, 1) := by decide +kernel
theorem dX16_value_18 : decode cX16_value 18 = .ok (.aload_n 0, 1) := by decide +kernel
theorem dX16_value_19 : decode cX16_value 19 = .ok (.getfield 20, 3) := by decide +kernel
theorem dX16_value_22 : decode cX16_value 22 = .ok (.aload_n 1, 1) := by decide +kernel
theorem dX16_value_23 : decode cX16_value 23 = .ok (.invokevirtual 77, 3) := by decide +kernel
theorem dX16_value_26 : decode cX16_value 26 = .ok (.istore_n 3, 1) := by decide +kernel
theorem dX16_value_27 : decode cX16_value 27 = .ok (.aload_n 0, 1) := by decide +kernel
theorem dX16_value_28 : decode cX16_value 28 = .ok (.getfield 7, 3) := by decide +kernel
theorem dX16_value_31 : decode cX16_value 31 = .ok (.bipush 11, 2) := by decide +kernel
theorem dX16_value_33 : decode cX16_value 33 = .ok (.if_icmp .ne 9, 3) := by decide +kernel
theorem dX16_value_36 : decode cX16_value 36 = .ok (.iload_n 2, 1) := by decide +kernel
theorem dX16_value_37 : decode cX16_value 37 = .ok (.iload_n 3, 1) := by decide +kernel
theorem dX16_value_38 : decode cX16_value 38 = .ok (.iadd, 1) := by decide +kernel
theorem dX16_value_39 : decode cX16_value 39 = .ok (.goto 44, 3) := by decide +kernel
theorem dX16_value_42 : decode cX16_value 42 = .ok (.aload_n 0, 1) := by decide +kernel
theorem dX16_value_43 : decode cX16_value 43 = .ok (.getfield 7, 3) := by decide +kernel
theorem dX16_value_46 : decode cX16_value 46 = .ok (.bipush 12, 2) := by decide +kernel
theorem dX16_value_48 : decode cX16_value 48 = .ok (.if_icmp .ne 9, 3) := by decide +kernel
theorem dX16_value_51 : decode cX16_value 51 = .ok (.iload_n 2, 1) := by decide +kernel
theorem dX16_value_52 : decode cX16_value 52 = .ok (.iload_n 3, 1) := by decide +kernel
theorem dX16_value_53 : decode cX16_value 53 = .ok (.isub, 1) := by decide +kernel
theorem dX16_value_54 : decode cX16_value 54 = .ok (.goto 29, 3) := by decide +kernel
theorem dX16_value_57 : decode cX16_value 57 = .ok (.aload_n 0, 1) := by decide +kernel
theorem dX16_value_58 : decode cX16_value 58 = .ok (.getfield 7, 3) := by decide +kernel
theorem dX16_value_61 : decode cX16_value 61 = .ok (.bipush 13, 2) := by decide +kernel
theorem dX16_value_63 : decode cX16_value 63 = .ok (.if_icmp .ne 9, 3) := by decide +kernel
theorem dX16_value_66 : decode cX16_value 66 = .ok (.iload_n 2, 1) := by decide +kernel
theorem dX16_value_67 : decode cX16_value 67 = .ok (.iload_n 3, 1) := by decide +kernel
theorem dX16_value_68 : decode cX16_value 68 = .ok (.imul, 1) := by decide +kernel
theorem dX16_value_69 : decode cX16_value 69 = .ok (.goto 14, 3) := by decide +kernel
theorem dX16_value_72 : decode cX16_value 72 = .ok (.iload_n 3, 1) := by decide +kernel
theorem dX16_value_73 : decode cX16_value 73 = .ok (.ifCond .ne 7, 3) := by decide +kernel
theorem dX16_value_76 : decode cX16_value 76 = .ok (.iconst 0, 1) := by decide +kernel
theorem dX16_value_77 : decode cX16_value 77 = .ok (.goto 6, 3) := by decide +kernel
theorem dX16_value_80 : decode cX16_value 80 = .ok (.iload_n 2, 1) := by decide +kernel
theorem dX16_value_81 : decode cX16_value 81 = .ok (.iload_n 3, 1) := by decide +kernel
theorem dX16_value_82 : decode cX16_value 82 = .ok (.idiv, 1) := by decide +kernel
theorem dX16_value_83 : decode cX16_value 83 = .ok (.ireturn, 1) := by decide +kernel
theorem dX16_value_84 : decode cX16_value 84 = .ok (.aload_n 0, 1) := by decide +kernel
theorem dX16_value_85 : decode cX16_value 85 = .ok (.getfield 7, 3) := by decide +kernel
theorem dX16_value_88 : decode cX16_value 88 = .ok (.tableswitch 99 0 10 #[60, 65, 70, 75, 80, 85, 99, 99, 99, 99, 90], 60) := by decide +kernel
theorem dX16_value_148 : decode cX16_value 148 = .ok (.aload_n 0, 1) := by decide +kernel
theorem dX16_value_149 : decode cX16_value 149 = .ok (.getfield 13, 3) := by decide +kernel
theorem dX16_value_152 : decode cX16_value 152 = .ok (.ireturn, 1) := by decide +kernel
theorem dX16_value_153 : decode cX16_value 153 = .ok (.aload_n 1, 1) := by decide +kernel
theorem dX16_value_154 : decode cX16_value 154 = .ok (.getfield 81, 3) := by decide +kernel
theorem dX16_value_157 : decode cX16_value 157 = .ok (.ireturn, 1) := by decide +kernel
theorem dX16_value_158 : decode cX16_value 158 = .ok (.aload_n 1, 1) := by decide +kernel
theorem dX16_value_159 : decode cX16_value 159 = .ok (.invokevirtual 86, 3) := by decide +kernel
theorem dX16_value_162 : decode cX16_value 162 = .ok (.ireturn, 1) := by decide +kernel
theorem dX16_value_163 : decode cX16_value 163 = .ok (.aload_n 1, 1) := by decide +kernel
theorem dX16_value_164 : decode cX16_value 164 = .ok (.getfield 90, 3) := by decide +kernel
theorem dX16_value_167 : decode cX16_value 167 = .ok (.ireturn, 1) := by decide +kernel
theorem dX16_value_168 : decode cX16_value 168 = .ok (.aload_n 1, 1) := by decide +kernel
theorem dX16_value_169 : decode cX16_value 169 = .ok (.getfield 93, 3) := by decide +kernel
theorem dX16_value_172 : decode cX16_value 172 = .ok (.ireturn, 1) := by decide +kernel
theorem dX16_value_173 : decode cX16_value 173 = .ok (.aload_n 1, 1) := by decide +kernel
theorem dX16_value_174 : decode cX16_value 174 = .ok (.getfield 96, 3) := by decide +kernel
theorem dX16_value_177 : decode cX16_value 177 = .ok (.ireturn, 1) := by decide +kernel
theorem dX16_value_178 : decode cX16_value 178 = .ok (.aload_n 1, 1) := by decide +kernel
theorem dX16_value_179 : decode cX16_value 179 = .ok (.aload_n 0, 1) := by decide +kernel
theorem dX16_value_180 : decode cX16_value 180 = .ok (.getfield 13, 3) := by decide +kernel
theorem dX16_value_183 : decode cX16_value 183 = .ok (.invokevirtual 99, 3) := by decide +kernel
theorem dX16_value_186 : decode cX16_value 186 = .ok (.ireturn, 1) := by decide +kernel
theorem dX16_value_187 : decode cX16_value 187 = .ok (.aload_n 1, 1) := by decide +kernel
theorem dX16_value_188 : decode cX16_value 188 = .ok (.getfield 102, 3) := by decide +kernel
theorem dX16_value_191 : decode cX16_value 191 = .ok (.aload_n 0, 1) := by decide +kernel
theorem dX16_value_192 : decode cX16_value 192 = .ok (.getfield 13, 3) := by decide +kernel
theorem dX16_value_195 : decode cX16_value 195 = .ok (.aaload, 1) := by decide +kernel
theorem dX16_value_196 : decode cX16_value 196 = .ok (.aload_n 0, 1) := by decide +kernel
theorem dX16_value_197 : decode cX16_value 197 = .ok (.getfield 7, 3) := by decide +kernel
theorem dX16_value_200 : decode cX16_value 200 = .ok (.iconst 5, 1) := by decide +kernel
theorem dX16_value_201 : decode cX16_value 201 = .ok (.isub, 1) := by decide +kernel
theorem dX16_value_202 : decode cX16_value 202 = .ok (.iaload, 1) := by decide +kernel
theorem dX16_value_203 : decode cX16_value 203 = .ok (.ireturn, 1) := by decide +kernel
set_option maxRecDepth 20000 in
theorem ggJ5_init_d00df_J2_newBytesFor_77867 : GoodIn wsJ5_init_d00df wsJ2_newBytesFor_77867 := goodIn_r _ [11, 5, 12, 13, 10, 14, 15] (by decide +kernel) (by decide +kernel)
set_option maxRecDepth 20000 in
theorem gJ5_init_d00df_J2_newBytesFor_77867 : GoodIn wsJ5_init_d00df (va_wsS RJ5 26 yJ2_newBytesFor_77867 wsJ2_newBytesFor_77867) := goodIn_app (goodIn_of _ (by decide +kernel)) ggJ5_init_d00df_J2_newBytesFor_77867
theorem dJ5_init_d00df_0 : decode cJ5_init_d00df 0 = .ok (.aload_n 0, 1) := by decide +kernel
theorem dJ5_init_d00df_1 : decode cJ5_init_d00df 1 = .ok (.invokespecial 3, 3) := by decide +kernel
theorem dJ5_init_d00df_4 : decode cJ5_init_d00df 4 = .ok (.getstatic 18, 3) := by decide +kernel
theorem dJ5_init_d00df_7 : decode cJ5_init_d00df 7 = .ok (.ifCond .eq 18, 3) := by decide +kernel
theorem dJ5_init_d00df_10 : decode cJ5_init_d00df 10 = .ok (.aload_n 0, 1) := by decide +kernel
theorem dJ5_init_d00df_11 : decode cJ5_init_d00df 11 = .ok (.iload_n 1, 1) := by decide +kernel
theorem dJ5_init_d00df_12 : decode cJ5_init_d00df 12 = .ok (.newarray .byte, 2) := by decide +kernel
theorem dJ5_init_d00df_14 : decode cJ5_init_d00df 14 = .ok (.putfield 15, 3) := by decide +kernel
theorem dJ5_init_d00df_17 : decode cJ5_init_d00df 17 = .ok (.aload_n 0, 1) := by decide +kernel
theorem dJ5_init_d00df_18 : decode cJ5_init_d00df 18 = .ok (.iconst 0, 1) := by decide +kernel
theorem dJ5_init_d00df_19 : decode cJ5_init_d00df 19 = .ok (.putfield 22, 3) := by decide +kernel
theorem dJ5_init_d00df_22 : decode cJ5_init_d00df 22 = .ok (.goto 16, 3) := by decide +kernel
theorem dJ5_init_d00df_25 : decode cJ5_init_d00df 25 = .ok (.aload_n 0, 1) := by decide +kernel
theorem dJ5_init_d00df_26 : decode cJ5_init_d00df 26 = .ok (.iload_n 1, 1) := by decide +kernel
theorem dJ5_init_d00df_27 : decode cJ5_init_d00df 27 = .ok (.invokestatic 26, 3) := by decide +kernel
theorem dJ5_init_d00df_30 : decode cJ5_init_d00df 30 = .ok (.putfield 15, 3) := by decide +kernel
theorem dJ5_init_d00df_33 : decode cJ5_init_d00df 33 = .ok (.aload_n 0, 1) := by decide +kernel
theorem dJ5_init_d00df_34 : decode cJ5_init_d00df 34 = .ok (.iconst 1, 1) := by decide +kernel
theorem dJ5_init_d00df_35 : decode cJ5_init_d00df 35 = .ok (.putfield 22, 3) := by decide +kernel
theorem dJ5_init_d00df_38 : decode cJ5_init_d00df 38 = .ok (.return_, 1) := by decide +kernel
set_option maxRecDepth 20000 in
theorem ggJ5_init_a7421_J0_length_8abf5 : GoodIn wsJ5_init_a7421 wsJ0_length_8abf5 := goodIn_r _ [13, 14, 15, 16, 17, 12, 18, 19, 20, 161, 162, 163, 164] (by decide +kernel) (by decide +kernel)
set_option maxRecDepth 20000 in
theorem gJ5_init_a7421_J0_length_8abf5 : GoodIn wsJ5_init_a7421 (wsV RJ5 32 RJ0 yJ0_length_8abf5 wsJ0_length_8abf5) := goodIn_app (goodIn_of _ (by decide +kernel)) ggJ5_init_a7421_J0_length_8abf5
set_option maxRecDepth 20000 in
theorem ggJ5_init_a7421_J0_coder_7d493 : GoodIn wsJ5_init_a7421 wsJ0_coder_7d493 := goodIn_r _ [18, 19, 20, 161, 162, 163, 164] (by decide +kernel) (by decide +kernel)
set_option maxRecDepth 20000 in
theorem gJ5_init_a7421_J0_coder_7d493 : GoodIn wsJ5_init_a7421 (wsV RJ5 40 RJ0 yJ0_coder_7d493 wsJ0_coder_7d493) := goodIn_app (goodIn_of _ (by decide +kernel)) ggJ5_init_a7421_J0_coder_7d493
set_option maxRecDepth 20000 in
theorem ggJ5_init_a7421_J2_newBytesFor_77867 : GoodIn wsJ5_init_a7421 wsJ2_newBytesFor_77867 := goodIn_r _ [25, 7, 26, 27, 24, 28, 29] (by decide +kernel) (by decide +kernel)
set_option maxRecDepth 20000 in
theorem gJ5_init_a7421_J2_newBytesFor_77867 : GoodIn wsJ5_init_a7421 (va_wsS RJ5 26 yJ2_newBytesFor_77867 wsJ2_newBytesFor_77867) := goodIn_app (goodIn_of _ (by decide +kernel)) ggJ5_init_a7421_J2_newBytesFor_77867
set_option maxRecDepth 20000 in
theorem pgJ5_init_a7421_J4_append_cf1ce_0 : GoodIn wsJ5_init_a7421 (Cond.code yJ4_append_cf1ce cJ4_append_cf1ce 2 (some (.object "java/lang/AbstractStringBuilder")) :: wsJ4_append_cf1ce_r1) := goodIn_r _ [36, 37, 38, 39, 35, 40, 41, 31, 42, 43, 44, 45, 46, 47, 48, 49, 50, 51, 8, 52, 53, 54, 55, 56, 6] (by decide +kernel) (by decide +kernel)
set_option maxRecDepth 20000 in
theorem pgJ5_init_a7421_J4_append_cf1ce_1 : GoodIn wsJ5_init_a7421 wsJ4_append_cf1ce_r2 := goodIn_r _ [57, 58, 59, 60, 61, 5, 62, 63, 64, 65, 66, 67, 68, 69, 70, 71, 72, 73, 74, 75, 76, 77, 78, 79] (by decide +kernel) (by decide +kernel)
set_option maxRecDepth 20000 in
theorem pgJ5_init_a7421_J4_append_cf1ce_2 : GoodIn wsJ5_init_a7421 wsJ4_append_cf1ce_r3 := goodIn_r _ [80, 81, 82, 83, 7, 84, 85, 86, 87, 88, 89, 90, 91, 92, 93, 94, 95, 96, 97, 98, 24, 99, 100, 101] (by decide +kernel) (by decide +kernel)
set_option maxRecDepth 20000 in
theorem pgJ5_init_a7421_J4_append_cf1ce_3 : GoodIn wsJ5_init_a7421 wsJ4_append_cf1ce_r4 := goodIn_r _ [102, 103, 104, 105, 106, 107, 108, 12, 109, 110, 111, 112, 113, 114, 115, 116, 117, 118, 119, 9, 10, 11, 13, 14] (by decide +kernel) (by decide +kernel)
set_option maxRecDepth 20000 in
theorem pgJ5_init_a7421_J4_append_cf1ce_4 : GoodIn wsJ5_init_a7421 wsJ4_append_cf1ce_r5 := goodIn_r _ [15, 16, 17, 18, 19, 20, 120, 121, 122, 123, 124, 125, 126, 127, 128, 129, 21, 130, 131, 132, 133, 134, 22, 23] (by decide +kernel) (by decide +kernel)
set_option maxRecDepth 20000 in
theorem pgJ5_init_a7421_J4_append_cf1ce_5 : GoodIn wsJ5_init_a7421 wsJ4_append_cf1ce_r6 := goodIn_r _ [25, 26, 27, 28, 29, 135, 136, 137, 138, 139, 140, 141, 142, 143, 144, 145, 146, 147, 148, 149, 150, 151, 152, 153] (by decide +kernel) (by decide +kernel)
set_option maxRecDepth 20000 in
theorem pgJ5_init_a7421_J4_append_cf1ce_6 : GoodIn wsJ5_init_a7421 wsJ4_append_cf1ce_r7 := goodIn_r _ [154, 155, 156] (by decide +kernel) (by decide +kernel)
set_option maxRecDepth 20000 in
theorem pgJ5_init_a7421_J4_append_cf1ce_7 : GoodIn wsJ5_init_a7421 wsJ40 := goodIn_r _ [157, 158, 159, 160] (by decide +kernel) (by decide +kernel)
set_option maxRecDepth 20000 in
theorem pgJ5_init_a7421_J4_append_cf1ce_8 : GoodIn wsJ5_init_a7421 wsJ00 := goodIn_r _ [161, 162, 163, 164] (by decide +kernel) (by decide +kernel)
set_option maxRecDepth 20000 in
theorem ggJ5_init_a7421_J4_append_cf1ce : GoodIn wsJ5_init_a7421 wsJ4_append_cf1ce := goodIn_ca (goodIn_ca (goodIn_ca pgJ5_init_a7421_J4_append_cf1ce_0 (goodIn_app pgJ5_init_a7421_J4_append_cf1ce_1 (goodIn_app pgJ5_init_a7421_J4_append_cf1ce_2 (goodIn_app pgJ5_init_a7421_J4_append_cf1ce_3 (goodIn_app pgJ5_init_a7421_J4_append_cf1ce_4 (goodIn_app pgJ5_init_a7421_J4_append_cf1ce_5 (pgJ5_init_a7421_J4_append_cf1ce_6))))))) pgJ5_init_a7421_J4_append_cf1ce_7) pgJ5_init_a7421_J4_append_cf1ce_8
set_option maxRecDepth 20000 in
theorem gJ5_init_a7421_J4_append_cf1ce_u43J4 : GoodIn wsJ5_init_a7421 (va_wsO RJ5 43 RJ4 "java/lang/AbstractStringBuilder" ⟨"java/lang/AbstractStringBuilder", "append", "(Ljava/lang/String;)Ljava/lang/AbstractStringBuilder;"⟩ yJ4_append_cf1ce wsJ4_append_cf1ce) := goodIn_app (goodIn_of _ (by decide +kernel)) ggJ5_init_a7421_J4_append_cf1ce
theorem dJ5_init_a7421_0 : decode cJ5_init_a7421 0 = .ok (.aload_n 0, 1) := by decide +kernel
theorem dJ5_init_a7421_1 : decode cJ5_init_a7421 1 = .ok (.invokespecial 3, 3) := by decide +kernel
theorem dJ5_init_a7421_4 : decode cJ5_init_a7421 4 = .ok (.aload_n 1, 1) := by decide +kernel
theorem dJ5_init_a7421_5 : decode cJ5_init_a7421 5 = .ok (.invokevirtual 32, 3) := by decide +kernel
theorem dJ5_init_a7421_8 : decode cJ5_init_a7421 8 = .ok (.istore_n 2, 1) := by decide +kernel
theorem dJ5_init_a7421_9 : decode cJ5_init_a7421 9 = .ok (.iload_n 2, 1) := by decide +kernel
theorem dJ5_init_a7421_10 : decode cJ5_init_a7421 10 = .ok (.ldc 38, 2) := by decide +kernel
theorem dJ5_init_a7421_12 : decode cJ5_init_a7421 12 = .ok (.if_icmp .ge 10, 3) := by decide +kernel
theorem dJ5_init_a7421_15 : decode cJ5_init_a7421 15 = .ok (.iload_n 2, 1) := by decide +kernel
theorem dJ5_init_a7421_16 : decode cJ5_init_a7421 16 = .ok (.bipush 16, 2) := by decide +kernel
theorem dJ5_init_a7421_18 : decode cJ5_init_a7421 18 = .ok (.iadd, 1) := by decide +kernel
theorem dJ5_init_a7421_19 : decode cJ5_init_a7421 19 = .ok (.goto 5, 3) := by decide +kernel
theorem dJ5_init_a7421_22 : decode cJ5_init_a7421 22 = .ok (.ldc 39, 2) := by decide +kernel
theorem dJ5_init_a7421_24 : decode cJ5_init_a7421 24 = .ok (.istore_n 3, 1) := by decide +kernel
theorem dJ5_init_a7421_25 : decode cJ5_init_a7421 25 = .ok (.aload_n 1, 1) := by decide +kernel
theorem dJ5_init_a7421_26 : decode cJ5_init_a7421 26 = .ok (.invokevirtual 40, 3) := by decide +kernel
theorem dJ5_init_a7421_29 : decode cJ5_init_a7421 29 = .ok (.istore 4, 2) := by decide +kernel
theorem dJ5_init_a7421_31 : decode cJ5_init_a7421 31 = .ok (.aload_n 0, 1) := by decide +kernel
theorem dJ5_init_a7421_32 : decode cJ5_init_a7421 32 = .ok (.iload 4, 2) := by decide +kernel
theorem dJ5_init_a7421_34 : decode cJ5_init_a7421 34 = .ok (.putfield 22, 3) := by decide +kernel
theorem dJ5_init_a7421_37 : decode cJ5_init_a7421 37 = .ok (.aload_n 0, 1) := by decide +kernel
theorem dJ5_init_a7421_38 : decode cJ5_init_a7421 38 = .ok (.iload 4, 2) := by decide +kernel
theorem dJ5_init_a7421_40 : decode cJ5_init_a7421 40 = .ok (.ifCond .ne 9, 3) := by decide +kernel
theorem dJ5_init_a7421_43 : decode cJ5_init_a7421 43 = .ok (.iload_n 3, 1) := by decide +kernel
theorem dJ5_init_a7421_44 : decode cJ5_init_a7421 44 = .ok (.newarray .byte, 2) := by decide +kernel
theorem dJ5_init_a7421_46 : decode cJ5_init_a7421 46 = .ok (.goto 7, 3) := by decide +kernel
theorem dJ5_init_a7421_49 : decode cJ5_init_a7421 49 = .ok (.iload_n 3, 1) := by decide +kernel
theorem dJ5_init_a7421_50 : decode cJ5_init_a7421 50 = .ok (.invokestatic 26, 3) := by decide +kernel
theorem dJ5_init_a7421_53 : decode cJ5_init_a7421 53 = .ok (.putfield 15, 3) := by decide +kernel
theorem dJ5_init_a7421_56 : decode cJ5_init_a7421 56 = .ok (.aload_n 0, 1) := by decide +kernel
theorem dJ5_init_a7421_57 : decode cJ5_init_a7421 57 = .ok (.aload_n 1, 1) := by decide +kernel
theorem dJ5_init_a7421_58 : decode cJ5_init_a7421 58 = .ok (.invokevirtual 43, 3) := by decide +kernel
theorem dJ5_init_a7421_61 : decode cJ5_init_a7421 61 = .ok (.pop, 1) := by decide +kernel
theorem dJ5_init_a7421_62 : decode cJ5_init_a7421 62 = .ok (.return_, 1) := by decide +kernel
theorem dJ5_length_8abf5_0 : decode cJ5_length_8abf5 0 = .ok (.aload_n 0, 1) := by decide +kernel
theorem dJ5_length_8abf5_1 : decode cJ5_length_8abf5 1 = .ok (.getfield 79, 3) := by decide +kernel
theorem dJ5_length_8abf5_4 : decode cJ5_length_8abf5 4 = .ok (.ireturn, 1) := by decide +kernel
set_option maxRecDepth 20000 in
theorem ggJ5_ensureCapacityInternal_d00df_J5_newCapacity_0f7a4 : GoodIn wsJ5_ensureCapacityInternal_d00df wsJ5_newCapacity_0f7a4 := goodIn_r _ [8, 1, 2, 9, 10, 11, 12, 13, 14, 15, 16, 17, 18, 19, 20, 21, 40, 41, 42, 43] (by decide +kernel) (by decide +kernel)
set_option maxRecDepth 20000 in
theorem gJ5_ensureCapacityInternal_d00df_J5_newCapacity_0f7a4_u104J4 : GoodIn wsJ5_ensureCapacityInternal_d00df (va_wsU RJ5 104 RJ4 "java/lang/AbstractStringBuilder" ⟨"java/lang/AbstractStringBuilder", "newCapacity", "(I)I"⟩ yJ5_newCapacity_0f7a4 wsJ5_newCapacity_0f7a4) := goodIn_app (goodIn_of _ (by decide +kernel)) ggJ5_ensureCapacityInternal_d00df_J5_newCapacity_0f7a4
set_option maxRecDepth 20000 in
theorem ggJ5_ensureCapacityInternal_d00df_J7_copyOf_9075b : GoodIn wsJ5_ensureCapacityInternal_d00df wsJ7_copyOf_9075b := goodIn_r _ [25, 26, 27, 28, 29, 30, 31, 32, 33, 34, 16, 35, 36, 37, 38, 39] (by decide +kernel) (by decide +kernel)
set_option maxRecDepth 20000 in
theorem gJ5_ensureCapacityInternal_d00df_J7_copyOf_9075b : GoodIn wsJ5_ensureCapacityInternal_d00df (va_wsS RJ5 108 yJ7_copyOf_9075b wsJ7_copyOf_9075b) := goodIn_app (goodIn_of _ (by decide +kernel)) ggJ5_ensureCapacityInternal_d00df_J7_copyOf_9075b
theorem dJ5_ensureCapacityInternal_d00df_0 : decode cJ5_ensureCapacityInternal_d00df 0 = .ok (.aload_n 0, 1) := by decide +kernel
theorem dJ5_ensureCapacityInternal_d00df_1 : decode cJ5_ensureCapacityInternal_d00df 1 = .ok (.getfield 15, 3) := by decide +kernel
theorem dJ5_ensureCapacityInternal_d00df_4 : decode cJ5_ensureCapacityInternal_d00df 4 = .ok (.arraylength, 1) := by decide +kernel
theorem dJ5_ensureCapacityInternal_d00df_5 : decode cJ5_ensureCapacityInternal_d00df 5 = .ok (.aload_n 0, 1) := by decide +kernel
theorem dJ5_ensureCapacityInternal_d00df_6 : decode cJ5_ensureCapacityInternal_d00df 6 = .ok (.getfield 22, 3) := by decide +kernel
theorem dJ5_ensureCapacityInternal_d00df_9 : decode cJ5_ensureCapacityInternal_d00df 9 = .ok (.ishr, 1) := by decide +kernel
theorem dJ5_ensureCapacityInternal_d00df_10 : decode cJ5_ensureCapacityInternal_d00df 10 = .ok (.istore_n 2, 1) := by decide +kernel
theorem dJ5_ensureCapacityInternal_d00df_11 : decode cJ5_ensureCapacityInternal_d00df 11 = .ok (.iload_n 1, 1) := by decide +kernel
theorem dJ5_ensureCapacityInternal_d00df_12 : decode cJ5_ensureCapacityInternal_d00df 12 = .ok (.iload_n 2, 1) := by decide +kernel
theorem dJ5_ensureCapacityInternal_d00df_13 : decode cJ5_ensureCapacityInternal_d00df 13 = .ok (.isub, 1) := by decide +kernel
theorem dJ5_ensureCapacityInternal_d00df_14 : decode cJ5_ensureCapacityInternal_d00df 14 = .ok (.ifCond .le 24, 3) := by decide +kernel
theorem dJ5_ensureCapacityInternal_d00df_17 : decode cJ5_ensureCapacityInternal_d00df 17 = .ok (.aload_n 0, 1) := by decide +kernel
theorem dJ5_ensureCapacityInternal_d00df_18 : decode cJ5_ensureCapacityInternal_d00df 18 = .ok (.aload_n 0, 1) := by decide +kernel
theorem dJ5_ensureCapacityInternal_d00df_19 : decode cJ5_ensureCapacityInternal_d00df 19 = .ok (.getfield 15, 3) := by decide +kernel
theorem dJ5_ensureCapacityInternal_d00df_22 : decode cJ5_ensureCapacityInternal_d00df 22 = .ok (.aload_n 0, 1) := by decide +kernel
theorem dJ5_ensureCapacityInternal_d00df_23 : decode cJ5_ensureCapacityInternal_d00df 23 = .ok (.iload_n 1, 1) := by decide +kernel
theorem dJ5_ensureCapacityInternal_d00df_24 : decode cJ5_ensureCapacityInternal_d00df 24 = .ok (.invokevirtual 104, 3) := by decide +kernel
theorem dJ5_ensureCapacityInternal_d00df_27 : decode cJ5_ensureCapacityInternal_d00df 27 = .ok (.aload_n 0, 1) := by decide +kernel
theorem dJ5_ensureCapacityInternal_d00df_28 : decode cJ5_ensureCapacityInternal_d00df 28 = .ok (.getfield 22, 3) := by decide +kernel
theorem dJ5_ensureCapacityInternal_d00df_31 : decode cJ5_ensureCapacityInternal_d00df 31 = .ok (.ishl, 1) := by decide +kernel
theorem dJ5_ensureCapacityInternal_d00df_32 : decode cJ5_ensureCapacityInternal_d00df 32 = .ok (.invokestatic 108, 3) := by decide +kernel
theorem dJ5_ensureCapacityInternal_d00df_35 : decode cJ5_ensureCapacityInternal_d00df 35 = .ok (.putfield 15, 3) := by decide +kernel
theorem dJ5_ensureCapacityInternal_d00df_38 : decode cJ5_ensureCapacityInternal_d00df 38 = .ok (.return_, 1) := by decide +kernel
set_option maxRecDepth 20000 in
theorem ggJ5_newCapacity_0f7a4_J8_newLength_cabcc : GoodIn wsJ5_newCapacity_0f7a4 wsJ8_newLength_cabcc := goodIn_r _ [7, 8, 9, 10, 11, 12, 13, 14, 6, 15] (by decide +kernel) (by decide +kernel)
set_option maxRecDepth 20000 in
theorem gJ5_newCapacity_0f7a4_J8_newLength_cabcc : GoodIn wsJ5_newCapacity_0f7a4 (va_wsS RJ5 114 yJ8_newLength_cabcc wsJ8_newLength_cabcc) := goodIn_app (goodIn_of _ (by decide +kernel)) ggJ5_newCapacity_0f7a4_J8_newLength_cabcc
theorem dJ5_newCapacity_0f7a4_0 : decode cJ5_newCapacity_0f7a4 0 = .ok (.aload_n 0, 1) := by decide +kernel
theorem dJ5_newCapacity_0f7a4_1 : decode cJ5_newCapacity_0f7a4 1 = .ok (.getfield 15, 3) := by decide +kernel
theorem dJ5_newCapacity_0f7a4_4 : decode cJ5_newCapacity_0f7a4 4 = .ok (.arraylength, 1) := by decide +kernel
theorem dJ5_newCapacity_0f7a4_5 : decode cJ5_newCapacity_0f7a4 5 = .ok (.istore_n 2, 1) := by decide +kernel
theorem dJ5_newCapacity_0f7a4_6 : decode cJ5_newCapacity_0f7a4 6 = .ok (.iload_n 1, 1) := by decide +kernel
theorem dJ5_newCapacity_0f7a4_7 : decode cJ5_newCapacity_0f7a4 7 = .ok (.aload_n 0, 1) := by decide +kernel
theorem dJ5_newCapacity_0f7a4_8 : decode cJ5_newCapacity_0f7a4 8 = .ok (.getfield 22, 3) := by decide +kernel
theorem dJ5_newCapacity_0f7a4_11 : decode cJ5_newCapacity_0f7a4 11 = .ok (.ishl, 1) := by decide +kernel
theorem dJ5_newCapacity_0f7a4_12 : decode cJ5_newCapacity_0f7a4 12 = .ok (.istore_n 3, 1) := by decide +kernel
theorem dJ5_newCapacity_0f7a4_13 : decode cJ5_newCapacity_0f7a4 13 = .ok (.iload_n 3, 1) := by decide +kernel
theorem dJ5_newCapacity_0f7a4_14 : decode cJ5_newCapacity_0f7a4 14 = .ok (.iload_n 2, 1) := by decide +kernel
theorem dJ5_newCapacity_0f7a4_15 : decode cJ5_newCapacity_0f7a4 15 = .ok (.isub, 1) := by decide +kernel
theorem dJ5_newCapacity_0f7a4_16 : decode cJ5_newCapacity_0f7a4 16 = .ok (.istore 4, 2) := by decide +kernel
theorem dJ5_newCapacity_0f7a4_18 : decode cJ5_newCapacity_0f7a4 18 = .ok (.iload_n 2, 1) := by decide +kernel
theorem dJ5_newCapacity_0f7a4_19 : decode cJ5_newCapacity_0f7a4 19 = .ok (.iload 4, 2) := by decide +kernel
theorem dJ5_newCapacity_0f7a4_21 : decode cJ5_newCapacity_0f7a4 21 = .ok (.iload_n 2, 1) := by decide +kernel
theorem dJ5_newCapacity_0f7a4_22 : decode cJ5_newCapacity_0f7a4 22 = .ok (.iconst 2, 1) := by decide +kernel
theorem dJ5_newCapacity_0f7a4_23 : decode cJ5_newCapacity_0f7a4 23 = .ok (.aload_n 0, 1) := by decide +kernel
theorem dJ5_newCapacity_0f7a4_24 : decode cJ5_newCapacity_0f7a4 24 = .ok (.getfield 22, 3) := by decide +kernel
theorem dJ5_newCapacity_0f7a4_27 : decode cJ5_newCapacity_0f7a4 27 = .ok (.ishl, 1) := by decide +kernel
theorem dJ5_newCapacity_0f7a4_28 : decode cJ5_newCapacity_0f7a4 28 = .ok (.iadd, 1) := by decide +kernel
theorem dJ5_newCapacity_0f7a4_29 : decode cJ5_newCapacity_0f7a4 29 = .ok (.invokestatic 114, 3) := by decide +kernel
theorem dJ5_newCapacity_0f7a4_32 : decode cJ5_newCapacity_0f7a4 32 = .ok (.istore 5, 2) := by decide +kernel
theorem dJ5_newCapacity_0f7a4_34 : decode cJ5_newCapacity_0f7a4 34 = .ok (.iload 5, 2) := by decide +kernel
theorem dJ5_newCapacity_0f7a4_36 : decode cJ5_newCapacity_0f7a4 36 = .ok (.ldc 39, 2) := by decide +kernel
theorem dJ5_newCapacity_0f7a4_38 : decode cJ5_newCapacity_0f7a4 38 = .ok (.if_icmp .ne 13, 3) := by decide +kernel
theorem dJ5_newCapacity_0f7a4_41 : decode cJ5_newCapacity_0f7a4 41 = .ok (.new 120, 3) := by decide +kernel
theorem dJ5_newCapacity_0f7a4_44 : decode cJ5_newCapacity_0f7a4 44 = .ok (.dup, 1) := by decide +kernel
theorem dJ5_newCapacity_0f7a4_45 : decode cJ5_newCapacity_0f7a4 45 = .ok (.ldc 122, 2) := by decide +kernel
theorem dJ5_newCapacity_0f7a4_47 : decode cJ5_newCapacity_0f7a4 47 = .ok (.invokespecial 124, 3) := by decide +kernel
theorem dJ5_newCapacity_0f7a4_50 : decode cJ5_newCapacity_0f7a4 50 = .ok (.athrow, 1) := by decide +kernel
theorem dJ5_newCapacity_0f7a4_51 : decode cJ5_newCapacity_0f7a4 51 = .ok (.iload 5, 2) := by decide +kernel
theorem dJ5_newCapacity_0f7a4_53 : decode cJ5_newCapacity_0f7a4 53 = .ok (.aload_n 0, 1) := by decide +kernel
theorem dJ5_newCapacity_0f7a4_54 : decode cJ5_newCapacity_0f7a4 54 = .ok (.getfield 22, 3) := by decide +kernel
theorem dJ5_newCapacity_0f7a4_57 : decode cJ5_newCapacity_0f7a4 57 = .ok (.ishr, 1) := by decide +kernel
theorem dJ5_newCapacity_0f7a4_58 : decode cJ5_newCapacity_0f7a4 58 = .ok (.ireturn, 1) := by decide +kernel
set_option maxRecDepth 20000 in
theorem ggJ5_inflate_da8c8_J5_isLatin1_aae02 : GoodIn wsJ5_inflate_da8c8 wsJ5_isLatin1_aae02 := goodIn_r _ [9, 10, 3, 48, 49, 50, 51] (by decide +kernel) (by decide +kernel)
set_option maxRecDepth 20000 in
theorem gJ5_inflate_da8c8_J5_isLatin1_aae02_u83J4 : GoodIn wsJ5_inflate_da8c8 (va_wsU RJ5 83 RJ4 "java/lang/AbstractStringBuilder" ⟨"java/lang/AbstractStringBuilder", "isLatin1", "()Z"⟩ yJ5_isLatin1_aae02 wsJ5_isLatin1_aae02) := goodIn_app (goodIn_of _ (by decide +kernel)) ggJ5_inflate_da8c8_J5_isLatin1_aae02
set_option maxRecDepth 20000 in
theorem ggJ5_inflate_da8c8_J2_newBytesFor_77867 : GoodIn wsJ5_inflate_da8c8 wsJ2_newBytesFor_77867 := goodIn_r _ [14, 15, 16, 17, 13, 18, 19] (by decide +kernel) (by decide +kernel)
set_option maxRecDepth 20000 in
theorem gJ5_inflate_da8c8_J2_newBytesFor_77867 : GoodIn wsJ5_inflate_da8c8 (va_wsS RJ5 26 yJ2_newBytesFor_77867 wsJ2_newBytesFor_77867) := goodIn_app (goodIn_of _ (by decide +kernel)) ggJ5_inflate_da8c8_J2_newBytesFor_77867
set_option maxRecDepth 20000 in
theorem ggJ5_inflate_da8c8_J1_inflate_0e8fd : GoodIn wsJ5_inflate_da8c8 wsJ1_inflate_0e8fd := goodIn_r _ [23, 24, 25, 13, 26, 27, 28, 29, 30, 31, 32, 33, 34, 35, 36, 37, 38, 39, 40, 41, 42, 43, 44, 45, 46, 47] (by decide +kernel) (by decide +kernel)
set_option maxRecDepth 20000 in
theorem gJ5_inflate_da8c8_J1_inflate_0e8fd : GoodIn wsJ5_inflate_da8c8 (va_wsS RJ5 125 yJ1_inflate_0e8fd wsJ1_inflate_0e8fd) := goodIn_app (goodIn_of _ (by decide +kernel)) ggJ5_inflate_da8c8_J1_inflate_0e8fd
theorem dJ5_inflate_da8c8_0 : decode cJ5_inflate_da8c8 0 = .ok (.aload_n 0, 1) := by decide +kernel
theorem dJ5_inflate_da8c8_1 : decode cJ5_inflate_da8c8 1 = .ok (.invokevirtual 83, 3) := by decide +kernel
theorem dJ5_inflate_da8c8_4 : decode cJ5_inflate_da8c8 4 = .ok (.ifCond .ne 4, 3) := by decide +kernel
theorem dJ5_inflate_da8c8_7 : decode cJ5_inflate_da8c8 7 = .ok (.return_, 1) := by decide +kernel
theorem dJ5_inflate_da8c8_8 : decode cJ5_inflate_da8c8 8 = .ok (.aload_n 0, 1) := by decide +kernel
theorem dJ5_inflate_da8c8_9 : decode cJ5_inflate_da8c8 9 = .ok (.getfield 15, 3) := by decide +kernel
theorem dJ5_inflate_da8c8_12 : decode cJ5_inflate_da8c8 12 = .ok (.arraylength, 1) := by decide +kernel
theorem dJ5_inflate_da8c8_13 : decode cJ5_inflate_da8c8 13 = .ok (.invokestatic 26, 3) := by decide +kernel
theorem dJ5_inflate_da8c8_16 : decode cJ5_inflate_da8c8 16 = .ok (.astore_n 1, 1) := by decide +kernel
theorem dJ5_inflate_da8c8_17 : decode cJ5_inflate_da8c8 17 = .ok (.aload_n 0, 1) := by decide +kernel
theorem dJ5_inflate_da8c8_18 : decode cJ5_inflate_da8c8 18 = .ok (.getfield 15, 3) := by decide +kernel
theorem dJ5_inflate_da8c8_21 : decode cJ5_inflate_da8c8 21 = .ok (.iconst 0, 1) := by decide +kernel
theorem dJ5_inflate_da8c8_22 : decode cJ5_inflate_da8c8 22 = .ok (.aload_n 1, 1) := by decide +kernel
theorem dJ5_inflate_da8c8_23 : decode cJ5_inflate_da8c8 23 = .ok (.iconst 0, 1) := by decide +kernel
theorem dJ5_inflate_da8c8_24 : decode cJ5_inflate_da8c8 24 = .ok (.aload_n 0, 1) := by decide +kernel
theorem dJ5_inflate_da8c8_25 : decode cJ5_inflate_da8c8 25 = .ok (.getfield 79, 3) := by decide +kernel
theorem dJ5_inflate_da8c8_28 : decode cJ5_inflate_da8c8 28 = .ok (.invokestatic 125, 3) := by decide +kernel
theorem dJ5_inflate_da8c8_31 : decode cJ5_inflate_da8c8 31 = .ok (.aload_n 0, 1) := by decide +kernel
theorem dJ5_inflate_da8c8_32 : decode cJ5_inflate_da8c8 32 = .ok (.aload_n 1, 1) := by decide +kernel
theorem dJ5_inflate_da8c8_33 : decode cJ5_inflate_da8c8 33 = .ok (.putfield 15, 3) := by decide +kernel
theorem dJ5_inflate_da8c8_36 : decode cJ5_inflate_da8c8 36 = .ok (.aload_n 0, 1) := by decide +kernel
theorem dJ5_inflate_da8c8_37 : decode cJ5_inflate_da8c8 37 = .ok (.iconst 1, 1) := by decide +kernel
theorem dJ5_inflate_da8c8_38 : decode cJ5_inflate_da8c8 38 = .ok (.putfield 22, 3) := by decide +kernel
theorem dJ5_inflate_da8c8_41 : decode cJ5_inflate_da8c8 41 = .ok (.return_, 1) := by decide +kernel
set_option maxRecDepth 20000 in
theorem ggJ5_append_cf1ce_J5_appendNull_278bc : GoodIn wsJ5_append_cf1ce wsJ5_appendNull_278bc := goodIn_r _ [7, 1, 8, 9, 10, 11, 12, 6, 13, 14, 15, 16, 17, 18, 19, 20, 21, 22, 23, 24, 25, 26, 27, 28, 29, 30, 31, 32, 33, 34, 35, 36, 37, 38, 39, 40, 41, 42, 43, 44, 45, 46, 47, 48, 49, 50, 51, 52, 53, 54, 55, 56, 57, 58, 59, 60, 61, 62, 63, 64, 65, 66, 67, 68, 69, 70, 71, 72, 73, 74, 75, 76, 77, 78, 79, 80, 81, 138, 139, 140, 141] (by decide +kernel) (by decide +kernel)
set_option maxRecDepth 20000 in
theorem gJ5_append_cf1ce_J5_appendNull_278bc_u204J4 : GoodIn wsJ5_append_cf1ce (va_wsU RJ5 204 RJ4 "java/lang/AbstractStringBuilder" ⟨"java/lang/AbstractStringBuilder", "appendNull", "()Ljava/lang/AbstractStringBuilder;"⟩ yJ5_appendNull_278bc wsJ5_appendNull_278bc) := goodIn_app (goodIn_of _ (by decide +kernel)) ggJ5_append_cf1ce_J5_appendNull_278bc
set_option maxRecDepth 20000 in
theorem ggJ5_append_cf1ce_J0_length_8abf5 : GoodIn wsJ5_append_cf1ce wsJ0_length_8abf5 := goodIn_r _ [85, 86, 87, 88, 89, 70, 90, 91, 92, 142, 143, 144, 145] (by decide +kernel) (by decide +kernel)
set_option maxRecDepth 20000 in
theorem gJ5_append_cf1ce_J0_length_8abf5 : GoodIn wsJ5_append_cf1ce (wsV RJ5 32 RJ0 yJ0_length_8abf5 wsJ0_length_8abf5) := goodIn_app (goodIn_of _ (by decide +kernel)) ggJ5_append_cf1ce_J0_length_8abf5
set_option maxRecDepth 20000 in
theorem ggJ5_append_cf1ce_J5_ensureCapacityInternal_d00df : GoodIn wsJ5_append_cf1ce wsJ5_ensureCapacityInternal_d00df := goodIn_r _ [13, 8, 14, 15, 16, 17, 18, 6, 19, 20, 21, 22, 23, 24, 25, 26, 27, 28, 29, 30, 31, 32, 33, 34, 35, 36, 37, 38, 39, 40, 41, 42, 43, 44, 45, 46, 47, 48, 49, 50, 138, 139, 140, 141] (by decide +kernel) (by decide +kernel)
set_option maxRecDepth 20000 in
theorem gJ5_append_cf1ce_J5_ensureCapacityInternal_d00df_u100J4 : GoodIn wsJ5_append_cf1ce (va_wsU RJ5 100 RJ4 "java/lang/AbstractStringBuilder" ⟨"java/lang/AbstractStringBuilder", "ensureCapacityInternal", "(I)V"⟩ yJ5_ensureCapacityInternal_d00df wsJ5_ensureCapacityInternal_d00df) := goodIn_app (goodIn_of _ (by decide +kernel)) ggJ5_append_cf1ce_J5_ensureCapacityInternal_d00df
set_option maxRecDepth 20000 in
theorem ggJ5_append_cf1ce_J5_putStringAt_47b60 : GoodIn wsJ5_append_cf1ce wsJ5_putStringAt_47b60 := goodIn_r _ [97, 8, 14, 98, 99, 100, 101, 6, 102, 56, 103, 88, 89, 70, 90, 91, 92, 104, 105, 106, 107, 108, 1, 51, 52, 53, 54, 55, 109, 110, 59, 111, 43, 112, 113, 114, 115, 116, 117, 118, 119, 120, 121, 122, 123, 124, 125, 65, 66, 67, 126, 127, 128, 72, 129, 130, 75, 131, 77, 78, 79, 61, 80, 81, 132, 133, 134, 135, 86, 136, 48, 49, 50, 87, 137, 138, 139, 140, 141, 142, 143, 144, 145] (by decide +kernel) (by decide +kernel)
set_option maxRecDepth 20000 in
theorem gJ5_append_cf1ce_J5_putStringAt_47b60_u208J4 : GoodIn wsJ5_append_cf1ce (va_wsU RJ5 208 RJ4 "java/lang/AbstractStringBuilder" ⟨"java/lang/AbstractStringBuilder", "putStringAt", "(ILjava/lang/String;)V"⟩ yJ5_putStringAt_47b60 wsJ5_putStringAt_47b60) := goodIn_app (goodIn_of _ (by decide +kernel)) ggJ5_append_cf1ce_J5_putStringAt_47b60
theorem dJ5_append_cf1ce_0 : decode cJ5_append_cf1ce 0 = .ok (.aload_n 1, 1) := by decide +kernel
theorem dJ5_append_cf1ce_1 : decode cJ5_append_cf1ce 1 = .ok (.ifnonnull 8, 3) := by decide +kernel
theorem dJ5_append_cf1ce_4 : decode cJ5_append_cf1ce 4 = .ok (.aload_n 0, 1) := by decide +kernel
theorem dJ5_append_cf1ce_5 : decode cJ5_append_cf1ce 5 = .ok (.invokevirtual 204, 3) := by decide +kernel
theorem dJ5_append_cf1ce_8 : decode cJ5_append_cf1ce 8 = .ok (.areturn, 1) := by decide +kernel
theorem dJ5_append_cf1ce_9 : decode cJ5_append_cf1ce 9 = .ok (.aload_n 1, 1) := by decide +kernel
theorem dJ5_append_cf1ce_10 : decode cJ5_append_cf1ce 10 = .ok (.invokevirtual 32, 3) := by decide +kernel
theorem dJ5_append_cf1ce_13 : decode cJ5_append_cf1ce 13 = .ok (.istore_n 2, 1) := by decide +kernel
theorem dJ5_append_cf1ce_14 : decode cJ5_append_cf1ce 14 = .ok (.aload_n 0, 1) := by decide +kernel
theorem dJ5_append_cf1ce_15 : decode cJ5_append_cf1ce 15 = .ok (.aload_n 0, 1) := by decide +kernel
theorem dJ5_append_cf1ce_16 : decode cJ5_append_cf1ce 16 = .ok (.getfield 79, 3) := by decide +kernel
theorem dJ5_append_cf1ce_19 : decode cJ5_append_cf1ce 19 = .ok (.iload_n 2, 1) := by decide +kernel
theorem dJ5_append_cf1ce_20 : decode cJ5_append_cf1ce 20 = .ok (.iadd, 1) := by decide +kernel
theorem dJ5_append_cf1ce_21 : decode cJ5_append_cf1ce 21 = .ok (.invokevirtual 100, 3) := by decide +kernel
theorem dJ5_append_cf1ce_24 : decode cJ5_append_cf1ce 24 = .ok (.aload_n 0, 1) := by decide +kernel
theorem dJ5_append_cf1ce_25 : decode cJ5_append_cf1ce 25 = .ok (.aload_n 0, 1) := by decide +kernel
theorem dJ5_append_cf1ce_26 : decode cJ5_append_cf1ce 26 = .ok (.getfield 79, 3) := by decide +kernel
theorem dJ5_append_cf1ce_29 : decode cJ5_append_cf1ce 29 = .ok (.aload_n 1, 1) := by decide +kernel
theorem dJ5_append_cf1ce_30 : decode cJ5_append_cf1ce 30 = .ok (.invokevirtual 208, 3) := by decide +kernel
theorem dJ5_append_cf1ce_33 : decode cJ5_append_cf1ce 33 = .ok (.aload_n 0, 1) := by decide +kernel
theorem dJ5_append_cf1ce_34 : decode cJ5_append_cf1ce 34 = .ok (.dup, 1) := by decide +kernel
theorem dJ5_append_cf1ce_35 : decode cJ5_append_cf1ce 35 = .ok (.getfield 79, 3) := by decide +kernel
theorem dJ5_append_cf1ce_38 : decode cJ5_append_cf1ce 38 = .ok (.iload_n 2, 1) := by decide +kernel
theorem dJ5_append_cf1ce_39 : decode cJ5_append_cf1ce 39 = .ok (.iadd, 1) := by decide +kernel
theorem dJ5_append_cf1ce_40 : decode cJ5_append_cf1ce 40 = .ok (.putfield 79, 3) := by decide +kernel
theorem dJ5_append_cf1ce_43 : decode cJ5_append_cf1ce 43 = .ok (.aload_n 0, 1) := by decide +kernel
theorem dJ5_append_cf1ce_44 : decode cJ5_append_cf1ce 44 = .ok (.areturn, 1) := by decide +kernel
set_option maxRecDepth 20000 in
theorem ggJ5_appendNull_278bc_J5_ensureCapacityInternal_d00df : GoodIn wsJ5_appendNull_278bc wsJ5_ensureCapacityInternal_d00df := goodIn_r _ [8, 2, 9, 10, 11, 12, 13, 7, 14, 15, 16, 17, 18, 19, 20, 21, 22, 23, 24, 25, 26, 27, 28, 29, 30, 31, 32, 33, 34, 35, 36, 37, 38, 39, 40, 41, 42, 43, 44, 45, 77, 78, 79, 80] (by decide +kernel) (by decide +kernel)
set_option maxRecDepth 20000 in
theorem gJ5_appendNull_278bc_J5_ensureCapacityInternal_d00df_u100J4 : GoodIn wsJ5_appendNull_278bc (va_wsU RJ5 100 RJ4 "java/lang/AbstractStringBuilder" ⟨"java/lang/AbstractStringBuilder", "ensureCapacityInternal", "(I)V"⟩ yJ5_ensureCapacityInternal_d00df wsJ5_ensureCapacityInternal_d00df) := goodIn_app (goodIn_of _ (by decide +kernel)) ggJ5_appendNull_278bc_J5_ensureCapacityInternal_d00df
set_option maxRecDepth 20000 in
theorem ggJ5_appendNull_278bc_J5_isLatin1_aae02 : GoodIn wsJ5_appendNull_278bc wsJ5_isLatin1_aae02 := goodIn_r _ [50, 51, 9, 77, 78, 79, 80] (by decide +kernel) (by decide +kernel)
set_option maxRecDepth 20000 in
theorem gJ5_appendNull_278bc_J5_isLatin1_aae02_u83J4 : GoodIn wsJ5_appendNull_278bc (va_wsU RJ5 83 RJ4 "java/lang/AbstractStringBuilder" ⟨"java/lang/AbstractStringBuilder", "isLatin1", "()Z"⟩ yJ5_isLatin1_aae02 wsJ5_isLatin1_aae02) := goodIn_app (goodIn_of _ (by decide +kernel)) ggJ5_appendNull_278bc_J5_isLatin1_aae02
set_option maxRecDepth 20000 in
theorem ggJ5_appendNull_278bc_J2_putCharsAt_cd4e5 : GoodIn wsJ5_appendNull_278bc wsJ2_putCharsAt_cd4e5 := goodIn_r _ [55, 56, 57, 58, 54, 59, 60, 61, 62, 63, 64, 65, 66, 67, 68, 69, 70, 71, 72, 73, 74, 75, 76] (by decide +kernel) (by decide +kernel)
set_option maxRecDepth 20000 in
theorem gJ5_appendNull_278bc_J2_putCharsAt_cd4e5 : GoodIn wsJ5_appendNull_278bc (va_wsS RJ5 226 yJ2_putCharsAt_cd4e5 wsJ2_putCharsAt_cd4e5) := goodIn_app (goodIn_of _ (by decide +kernel)) ggJ5_appendNull_278bc_J2_putCharsAt_cd4e5
theorem dJ5_appendNull_278bc_0 : decode cJ5_appendNull_278bc 0 = .ok (.aload_n 0, 1) := by decide +kernel
theorem dJ5_appendNull_278bc_1 : decode cJ5_appendNull_278bc 1 = .ok (.aload_n 0, 1) := by decide +kernel
theorem dJ5_appendNull_278bc_2 : decode cJ5_appendNull_278bc 2 = .ok (.getfield 79, 3) := by decide +kernel
theorem dJ5_appendNull_278bc_5 : decode cJ5_appendNull_278bc 5 = .ok (.iconst 4, 1) := by decide +kernel
theorem dJ5_appendNull_278bc_6 : decode cJ5_appendNull_278bc 6 = .ok (.iadd, 1) := by decide +kernel
theorem dJ5_appendNull_278bc_7 : decode cJ5_appendNull_278bc 7 = .ok (.invokevirtual 100, 3) := by decide +kernel
theorem dJ5_appendNull_278bc_10 : decode cJ5_appendNull_278bc 10 = .ok (.aload_n 0, 1) := by decide +kernel
theorem dJ5_appendNull_278bc_11 : decode cJ5_appendNull_278bc 11 = .ok (.getfield 79, 3) := by decide +kernel
theorem dJ5_appendNull_278bc_14 : decode cJ5_appendNull_278bc 14 = .ok (.istore_n 1, 1) := by decide +kernel
theorem dJ5_appendNull_278bc_15 : decode cJ5_appendNull_278bc 15 = .ok (.aload_n 0, 1) := by decide +kernel
theorem dJ5_appendNull_278bc_16 : decode cJ5_appendNull_278bc 16 = .ok (.getfield 15, 3) := by decide +kernel
theorem dJ5_appendNull_278bc_19 : decode cJ5_appendNull_278bc 19 = .ok (.astore_n 2, 1) := by decide +kernel
theorem dJ5_appendNull_278bc_20 : decode cJ5_appendNull_278bc 20 = .ok (.aload_n 0, 1) := by decide +kernel
theorem dJ5_appendNull_278bc_21 : decode cJ5_appendNull_278bc 21 = .ok (.invokevirtual 83, 3) := by decide +kernel
theorem dJ5_appendNull_278bc_24 : decode cJ5_appendNull_278bc 24 = .ok (.ifCond .eq 38, 3) := by decide +kernel
theorem dJ5_appendNull_278bc_27 : decode cJ5_appendNull_278bc 27 = .ok (.aload_n 2, 1) := by decide +kernel
theorem dJ5_appendNull_278bc_28 : decode cJ5_appendNull_278bc 28 = .ok (.iload_n 1, 1) := by decide +kernel
theorem dJ5_appendNull_278bc_29 : decode cJ5_appendNull_278bc 29 = .ok (.iinc 1 1, 3) := by decide +kernel
theorem dJ5_appendNull_278bc_32 : decode cJ5_appendNull_278bc 32 = .ok (.bipush 110, 2) := by decide +kernel
theorem dJ5_appendNull_278bc_34 : decode cJ5_appendNull_278bc 34 = .ok (.bastore, 1) := by decide +kernel
theorem dJ5_appendNull_278bc_35 : decode cJ5_appendNull_278bc 35 = .ok (.aload_n 2, 1) := by decide +kernel
theorem dJ5_appendNull_278bc_36 : decode cJ5_appendNull_278bc 36 = .ok (.iload_n 1, 1) := by decide +kernel
theorem dJ5_appendNull_278bc_37 : decode cJ5_appendNull_278bc 37 = .ok (.iinc 1 1, 3) := by decide +kernel
theorem dJ5_appendNull_278bc_40 : decode cJ5_appendNull_278bc 40 = .ok (.bipush 117, 2) := by decide +kernel
theorem dJ5_appendNull_278bc_42 : decode cJ5_appendNull_278bc 42 = .ok (.bastore, 1) := by decide +kernel
theorem dJ5_appendNull_278bc_43 : decode cJ5_appendNull_278bc 43 = .ok (.aload_n 2, 1) := by decide +kernel
theorem dJ5_appendNull_278bc_44 : decode cJ5_appendNull_278bc 44 = .ok (.iload_n 1, 1) := by decide +kernel
theorem dJ5_appendNull_278bc_45 : decode cJ5_appendNull_278bc 45 = .ok (.iinc 1 1, 3) := by decide +kernel
theorem dJ5_appendNull_278bc_48 : decode cJ5_appendNull_278bc 48 = .ok (.bipush 108, 2) := by decide +kernel
theorem dJ5_appendNull_278bc_50 : decode cJ5_appendNull_278bc 50 = .ok (.bastore, 1) := by decide +kernel
theorem dJ5_appendNull_278bc_51 : decode cJ5_appendNull_278bc 51 = .ok (.aload_n 2, 1) := by decide +kernel
theorem dJ5_appendNull_278bc_52 : decode cJ5_appendNull_278bc 52 = .ok (.iload_n 1, 1) := by decide +kernel
theorem dJ5_appendNull_278bc_53 : decode cJ5_appendNull_278bc 53 = .ok (.iinc 1 1, 3) := by decide +kernel
theorem dJ5_appendNull_278bc_56 : decode cJ5_appendNull_278bc 56 = .ok (.bipush 108, 2) := by decide +kernel
theorem dJ5_appendNull_278bc_58 : decode cJ5_appendNull_278bc 58 = .ok (.bastore, 1) := by decide +kernel
theorem dJ5_appendNull_278bc_59 : decode cJ5_appendNull_278bc 59 = .ok (.goto 17, 3) := by decide +kernel
theorem dJ5_appendNull_278bc_62 : decode cJ5_appendNull_278bc 62 = .ok (.aload_n 2, 1) := by decide +kernel
theorem dJ5_appendNull_278bc_63 : decode cJ5_appendNull_278bc 63 = .ok (.iload_n 1, 1) := by decide +kernel
theorem dJ5_appendNull_278bc_64 : decode cJ5_appendNull_278bc 64 = .ok (.bipush 110, 2) := by decide +kernel
theorem dJ5_appendNull_278bc_66 : decode cJ5_appendNull_278bc 66 = .ok (.bipush 117, 2) := by decide +kernel
theorem dJ5_appendNull_278bc_68 : decode cJ5_appendNull_278bc 68 = .ok (.bipush 108, 2) := by decide +kernel
theorem dJ5_appendNull_278bc_70 : decode cJ5_appendNull_278bc 70 = .ok (.bipush 108, 2) := by decide +kernel
theorem dJ5_appendNull_278bc_72 : decode cJ5_appendNull_278bc 72 = .ok (.invokestatic 226, 3) := by decide +kernel
theorem dJ5_appendNull_278bc_75 : decode cJ5_appendNull_278bc 75 = .ok (.istore_n 1, 1) := by decide +kernel
theorem dJ5_appendNull_278bc_76 : decode cJ5_appendNull_278bc 76 = .ok (.aload_n 0, 1) := by decide +kernel
theorem dJ5_appendNull_278bc_77 : decode cJ5_appendNull_278bc 77 = .ok (.iload_n 1, 1) := by decide +kernel
theorem dJ5_appendNull_278bc_78 : decode cJ5_appendNull_278bc 78 = .ok (.putfield 79, 3) := by decide +kernel
theorem dJ5_appendNull_278bc_81 : decode cJ5_appendNull_278bc 81 = .ok (.aload_n 0, 1) := by decide +kernel
theorem dJ5_appendNull_278bc_82 : decode cJ5_appendNull_278bc 82 = .ok (.areturn, 1) := by decide +kernel
set_option maxRecDepth 20000 in
theorem ggJ5_append_3fe6f_J5_ensureCapacityInternal_d00df : GoodIn wsJ5_append_3fe6f wsJ5_ensureCapacityInternal_d00df := goodIn_r _ [8, 2, 9, 10, 11, 12, 13, 7, 14, 15, 16, 17, 18, 19, 20, 21, 22, 23, 24, 25, 26, 27, 28, 29, 30, 31, 32, 33, 34, 35, 36, 37, 38, 39, 40, 41, 42, 43, 44, 45, 108, 109, 110, 111] (by decide +kernel) (by decide +kernel)
set_option maxRecDepth 20000 in
theorem gJ5_append_3fe6f_J5_ensureCapacityInternal_d00df_u100J4 : GoodIn wsJ5_append_3fe6f (va_wsU RJ5 100 RJ4 "java/lang/AbstractStringBuilder" ⟨"java/lang/AbstractStringBuilder", "ensureCapacityInternal", "(I)V"⟩ yJ5_ensureCapacityInternal_d00df wsJ5_ensureCapacityInternal_d00df) := goodIn_app (goodIn_of _ (by decide +kernel)) ggJ5_append_3fe6f_J5_ensureCapacityInternal_d00df
set_option maxRecDepth 20000 in
theorem ggJ5_append_3fe6f_J5_isLatin1_aae02 : GoodIn wsJ5_append_3fe6f wsJ5_isLatin1_aae02 := goodIn_r _ [50, 51, 9, 108, 109, 110, 111] (by decide +kernel) (by decide +kernel)
set_option maxRecDepth 20000 in
theorem gJ5_append_3fe6f_J5_isLatin1_aae02_u83J4 : GoodIn wsJ5_append_3fe6f (va_wsU RJ5 83 RJ4 "java/lang/AbstractStringBuilder" ⟨"java/lang/AbstractStringBuilder", "isLatin1", "()Z"⟩ yJ5_isLatin1_aae02 wsJ5_isLatin1_aae02) := goodIn_app (goodIn_of _ (by decide +kernel)) ggJ5_append_3fe6f_J5_isLatin1_aae02
set_option maxRecDepth 20000 in
theorem ggJ5_append_3fe6f_J1_canEncode_fc78d : GoodIn wsJ5_append_3fe6f wsJ1_canEncode_fc78d := goodIn_r _ [55] (by decide +kernel) (by decide +kernel)
set_option maxRecDepth 20000 in
theorem gJ5_append_3fe6f_J1_canEncode_fc78d : GoodIn wsJ5_append_3fe6f (va_wsS RJ5 191 yJ1_canEncode_fc78d wsJ1_canEncode_fc78d) := goodIn_app (goodIn_of _ (by decide +kernel)) ggJ5_append_3fe6f_J1_canEncode_fc78d
set_option maxRecDepth 20000 in
theorem ggJ5_append_3fe6f_J5_inflate_da8c8 : GoodIn wsJ5_append_3fe6f wsJ5_inflate_da8c8 := goodIn_r _ [60, 2, 1, 9, 46, 47, 48, 49, 7, 50, 51, 61, 62, 63, 64, 38, 65, 66, 67, 68, 69, 70, 54, 71, 72, 73, 74, 75, 76, 77, 78, 79, 80, 81, 82, 83, 84, 85, 86, 87, 88, 89, 90, 91, 92, 93, 94, 95, 108, 109, 110, 111] (by decide +kernel) (by decide +kernel)
set_option maxRecDepth 20000 in
theorem gJ5_append_3fe6f_J5_inflate_da8c8_u195J4 : GoodIn wsJ5_append_3fe6f (va_wsU RJ5 195 RJ4 "java/lang/AbstractStringBuilder" ⟨"java/lang/AbstractStringBuilder", "inflate", "()V"⟩ yJ5_inflate_da8c8 wsJ5_inflate_da8c8) := goodIn_app (goodIn_of _ (by decide +kernel)) ggJ5_append_3fe6f_J5_inflate_da8c8
set_option maxRecDepth 20000 in
theorem ggJ5_append_3fe6f_J2_putCharSB_b72d1 : GoodIn wsJ5_append_3fe6f wsJ2_putCharSB_b72d1 := goodIn_r _ [98, 99, 100, 63, 101, 78, 79, 80, 102, 103, 83, 104, 85, 105, 106, 88, 107, 90, 91, 92, 93, 94, 95] (by decide +kernel) (by decide +kernel)
set_option maxRecDepth 20000 in
theorem gJ5_append_3fe6f_J2_putCharSB_b72d1 : GoodIn wsJ5_append_3fe6f (va_wsS RJ5 197 yJ2_putCharSB_b72d1 wsJ2_putCharSB_b72d1) := goodIn_app (goodIn_of _ (by decide +kernel)) ggJ5_append_3fe6f_J2_putCharSB_b72d1
theorem dJ5_append_3fe6f_0 : decode cJ5_append_3fe6f 0 = .ok (.aload_n 0, 1) := by decide +kernel
theorem dJ5_append_3fe6f_1 : decode cJ5_append_3fe6f 1 = .ok (.aload_n 0, 1) := by decide +kernel
theorem dJ5_append_3fe6f_2 : decode cJ5_append_3fe6f 2 = .ok (.getfield 79, 3) := by decide +kernel
theorem dJ5_append_3fe6f_5 : decode cJ5_append_3fe6f 5 = .ok (.iconst 1, 1) := by decide +kernel
theorem dJ5_append_3fe6f_6 : decode cJ5_append_3fe6f 6 = .ok (.iadd, 1) := by decide +kernel
theorem dJ5_append_3fe6f_7 : decode cJ5_append_3fe6f 7 = .ok (.invokevirtual 100, 3) := by decide +kernel
theorem dJ5_append_3fe6f_10 : decode cJ5_append_3fe6f 10 = .ok (.aload_n 0, 1) := by decide +kernel
theorem dJ5_append_3fe6f_11 : decode cJ5_append_3fe6f 11 = .ok (.invokevirtual 83, 3) := by decide +kernel
theorem dJ5_append_3fe6f_14 : decode cJ5_append_3fe6f 14 = .ok (.ifCond .eq 31, 3) := by decide +kernel
theorem dJ5_append_3fe6f_17 : decode cJ5_append_3fe6f 17 = .ok (.iload_n 1, 1) := by decide +kernel
theorem dJ5_append_3fe6f_18 : decode cJ5_append_3fe6f 18 = .ok (.invokestatic 191, 3) := by decide +kernel
theorem dJ5_append_3fe6f_21 : decode cJ5_append_3fe6f 21 = .ok (.ifCond .eq 24, 3) := by decide +kernel
theorem dJ5_append_3fe6f_24 : decode cJ5_append_3fe6f 24 = .ok (.aload_n 0, 1) := by decide +kernel
theorem dJ5_append_3fe6f_25 : decode cJ5_append_3fe6f 25 = .ok (.getfield 15, 3) := by decide +kernel
theorem dJ5_append_3fe6f_28 : decode cJ5_append_3fe6f 28 = .ok (.aload_n 0, 1) := by decide +kernel
theorem dJ5_append_3fe6f_29 : decode cJ5_append_3fe6f 29 = .ok (.dup, 1) := by decide +kernel
theorem dJ5_append_3fe6f_30 : decode cJ5_append_3fe6f 30 = .ok (.getfield 79, 3) := by decide +kernel
theorem dJ5_append_3fe6f_33 : decode cJ5_append_3fe6f 33 = .ok (.dup_x1, 1) := by decide +kernel
theorem dJ5_append_3fe6f_34 : decode cJ5_append_3fe6f 34 = .ok (.iconst 1, 1) := by decide +kernel
theorem dJ5_append_3fe6f_35 : decode cJ5_append_3fe6f 35 = .ok (.iadd, 1) := by decide +kernel
theorem dJ5_append_3fe6f_36 : decode cJ5_append_3fe6f 36 = .ok (.putfield 79, 3) := by decide +kernel
theorem dJ5_append_3fe6f_39 : decode cJ5_append_3fe6f 39 = .ok (.iload_n 1, 1) := by decide +kernel
theorem dJ5_append_3fe6f_40 : decode cJ5_append_3fe6f 40 = .ok (.i2b, 1) := by decide +kernel
theorem dJ5_append_3fe6f_41 : decode cJ5_append_3fe6f 41 = .ok (.bastore, 1) := by decide +kernel
theorem dJ5_append_3fe6f_42 : decode cJ5_append_3fe6f 42 = .ok (.goto 33, 3) := by decide +kernel
theorem dJ5_append_3fe6f_45 : decode cJ5_append_3fe6f 45 = .ok (.aload_n 0, 1) := by decide +kernel
