theorem dX4_corrects_213 : decode cX4_corrects 213 = .ok (.getfield 19, 3) := by decide +kernel
theorem dX4_corrects_216 : decode cX4_corrects 216 = .ok (.iconst 2, 1) := by decide +kernel
theorem dX4_corrects_217 : decode cX4_corrects 217 = .ok (.laload, 1) := by decide +kernel
theorem dX4_corrects_218 : decode cX4_corrects 218 = .ok (.lload 10, 2) := by decide +kernel
theorem dX4_corrects_220 : decode cX4_corrects 220 = .ok (.iload 5, 2) := by decide +kernel
theorem dX4_corrects_222 : decode cX4_corrects 222 = .ok (.ifCond .eq 12, 3) := by decide +kernel
theorem dX4_corrects_225 : decode cX4_corrects 225 = .ok (.aload_n 0, 1) := by decide +kernel
theorem dX4_corrects_226 : decode cX4_corrects 226 = .ok (.getfield 19, 3) := by decide +kernel
theorem dX4_corrects_229 : decode cX4_corrects 229 = .ok (.iconst 2, 1) := by decide +kernel
theorem dX4_corrects_230 : decode cX4_corrects 230 = .ok (.laload, 1) := by decide +kernel
theorem dX4_corrects_231 : decode cX4_corrects 231 = .ok (.goto 9, 3) := by decide +kernel
theorem dX4_corrects_234 : decode cX4_corrects 234 = .ok (.aload_n 0, 1) := by decide +kernel
theorem dX4_corrects_235 : decode cX4_corrects 235 = .ok (.getfield 19, 3) := by decide +kernel
theorem dX4_corrects_238 : decode cX4_corrects 238 = .ok (.iconst 3, 1) := by decide +kernel
theorem dX4_corrects_239 : decode cX4_corrects 239 = .ok (.laload, 1) := by decide +kernel
theorem dX4_corrects_240 : decode cX4_corrects 240 = .ok (.invokestatic 57, 3) := by decide +kernel
theorem dX4_corrects_243 : decode cX4_corrects 243 = .ok (.lsub, 1) := by decide +kernel
theorem dX4_corrects_244 : decode cX4_corrects 244 = .ok (.lstore 18, 2) := by decide +kernel
theorem dX4_corrects_246 : decode cX4_corrects 246 = .ok (.aload_n 0, 1) := by decide +kernel
theorem dX4_corrects_247 : decode cX4_corrects 247 = .ok (.getfield 19, 3) := by decide +kernel
theorem dX4_corrects_250 : decode cX4_corrects 250 = .ok (.iconst 3, 1) := by decide +kernel
theorem dX4_corrects_251 : decode cX4_corrects 251 = .ok (.laload, 1) := by decide +kernel
theorem dX4_corrects_252 : decode cX4_corrects 252 = .ok (.lload 10, 2) := by decide +kernel
theorem dX4_corrects_254 : decode cX4_corrects 254 = .ok (.iload 5, 2) := by decide +kernel
theorem dX4_corrects_256 : decode cX4_corrects 256 = .ok (.ifCond .eq 12, 3) := by decide +kernel
theorem dX4_corrects_259 : decode cX4_corrects 259 = .ok (.aload_n 0, 1) := by decide +kernel
theorem dX4_corrects_260 : decode cX4_corrects 260 = .ok (.getfield 19, 3) := by decide +kernel
theorem dX4_corrects_263 : decode cX4_corrects 263 = .ok (.iconst 3, 1) := by decide +kernel
theorem dX4_corrects_264 : decode cX4_corrects 264 = .ok (.laload, 1) := by decide +kernel
theorem dX4_corrects_265 : decode cX4_corrects 265 = .ok (.goto 9, 3) := by decide +kernel
theorem dX4_corrects_268 : decode cX4_corrects 268 = .ok (.aload_n 0, 1) := by decide +kernel
theorem dX4_corrects_269 : decode cX4_corrects 269 = .ok (.getfield 19, 3) := by decide +kernel
theorem dX4_corrects_272 : decode cX4_corrects 272 = .ok (.iconst 4, 1) := by decide +kernel
theorem dX4_corrects_273 : decode cX4_corrects 273 = .ok (.laload, 1) := by decide +kernel
theorem dX4_corrects_274 : decode cX4_corrects 274 = .ok (.invokestatic 57, 3) := by decide +kernel
theorem dX4_corrects_277 : decode cX4_corrects 277 = .ok (.lsub, 1) := by decide +kernel
theorem dX4_corrects_278 : decode cX4_corrects 278 = .ok (.lstore 20, 2) := by decide +kernel
theorem dX4_corrects_280 : decode cX4_corrects 280 = .ok (.aload_n 0, 1) := by decide +kernel
theorem dX4_corrects_281 : decode cX4_corrects 281 = .ok (.getfield 19, 3) := by decide +kernel
theorem dX4_corrects_284 : decode cX4_corrects 284 = .ok (.iconst 4, 1) := by decide +kernel
theorem dX4_corrects_285 : decode cX4_corrects 285 = .ok (.laload, 1) := by decide +kernel
theorem dX4_corrects_286 : decode cX4_corrects 286 = .ok (.lload 12, 2) := by decide +kernel
theorem dX4_corrects_288 : decode cX4_corrects 288 = .ok (.iload 5, 2) := by decide +kernel
theorem dX4_corrects_290 : decode cX4_corrects 290 = .ok (.ifCond .eq 12, 3) := by decide +kernel
theorem dX4_corrects_293 : decode cX4_corrects 293 = .ok (.aload_n 0, 1) := by decide +kernel
theorem dX4_corrects_294 : decode cX4_corrects 294 = .ok (.getfield 19, 3) := by decide +kernel
theorem dX4_corrects_297 : decode cX4_corrects 297 = .ok (.iconst 3, 1) := by decide +kernel
theorem dX4_corrects_298 : decode cX4_corrects 298 = .ok (.laload, 1) := by decide +kernel
theorem dX4_corrects_299 : decode cX4_corrects 299 = .ok (.goto 9, 3) := by decide +kernel
theorem dX4_corrects_302 : decode cX4_corrects 302 = .ok (.aload_n 0, 1) := by decide +kernel
theorem dX4_corrects_303 : decode cX4_corrects 303 = .ok (.getfield 19, 3) := by decide +kernel
theorem dX4_corrects_306 : decode cX4_corrects 306 = .ok (.iconst 4, 1) := by decide +kernel
theorem dX4_corrects_307 : decode cX4_corrects 307 = .ok (.laload, 1) := by decide +kernel
theorem dX4_corrects_308 : decode cX4_corrects 308 = .ok (.invokestatic 57, 3) := by decide +kernel
theorem dX4_corrects_311 : decode cX4_corrects 311 = .ok (.lsub, 1) := by decide +kernel
theorem dX4_corrects_312 : decode cX4_corrects 312 = .ok (.lstore 22, 2) := by decide +kernel
theorem dX4_corrects_314 : decode cX4_corrects 314 = .ok (.lload 18, 2) := by decide +kernel
theorem dX4_corrects_316 : decode cX4_corrects 316 = .ok (.lconst 0, 1) := by decide +kernel
theorem dX4_corrects_317 : decode cX4_corrects 317 = .ok (.lcmp, 1) := by decide +kernel
theorem dX4_corrects_318 : decode cX4_corrects 318 = .ok (.ifCond .ge 7, 3) := by decide +kernel
theorem dX4_corrects_321 : decode cX4_corrects 321 = .ok (.lconst 0, 1) := by decide +kernel
theorem dX4_corrects_322 : decode cX4_corrects 322 = .ok (.goto 5, 3) := by decide +kernel
theorem dX4_corrects_325 : decode cX4_corrects 325 = .ok (.lload 18, 2) := by decide +kernel
theorem dX4_corrects_327 : decode cX4_corrects 327 = .ok (.lstore 18, 2) := by decide +kernel
theorem dX4_corrects_329 : decode cX4_corrects 329 = .ok (.lload 22, 2) := by decide +kernel
theorem dX4_corrects_331 : decode cX4_corrects 331 = .ok (.lconst 0, 1) := by decide +kernel
theorem dX4_corrects_332 : decode cX4_corrects 332 = .ok (.lcmp, 1) := by decide +kernel
theorem dX4_corrects_333 : decode cX4_corrects 333 = .ok (.ifCond .ge 7, 3) := by decide +kernel
theorem dX4_corrects_336 : decode cX4_corrects 336 = .ok (.lconst 0, 1) := by decide +kernel
theorem dX4_corrects_337 : decode cX4_corrects 337 = .ok (.goto 5, 3) := by decide +kernel
theorem dX4_corrects_340 : decode cX4_corrects 340 = .ok (.lload 22, 2) := by decide +kernel
theorem dX4_corrects_342 : decode cX4_corrects 342 = .ok (.lstore 22, 2) := by decide +kernel
theorem dX4_corrects_344 : decode cX4_corrects 344 = .ok (.lload 14, 2) := by decide +kernel
theorem dX4_corrects_346 : decode cX4_corrects 346 = .ok (.invokestatic 46, 3) := by decide +kernel
theorem dX4_corrects_349 : decode cX4_corrects 349 = .ok (.ifCond .eq 35, 3) := by decide +kernel
theorem dX4_corrects_352 : decode cX4_corrects 352 = .ok (.lload 16, 2) := by decide +kernel
theorem dX4_corrects_354 : decode cX4_corrects 354 = .ok (.invokestatic 46, 3) := by decide +kernel
theorem dX4_corrects_357 : decode cX4_corrects 357 = .ok (.ifCond .eq 27, 3) := by decide +kernel
theorem dX4_corrects_360 : decode cX4_corrects 360 = .ok (.lload 18, 2) := by decide +kernel
theorem dX4_corrects_362 : decode cX4_corrects 362 = .ok (.invokestatic 46, 3) := by decide +kernel
theorem dX4_corrects_365 : decode cX4_corrects 365 = .ok (.ifCond .eq 19, 3) := by decide +kernel
theorem dX4_corrects_368 : decode cX4_corrects 368 = .ok (.lload 20, 2) := by decide +kernel
theorem dX4_corrects_370 : decode cX4_corrects 370 = .ok (.invokestatic 46, 3) := by decide +kernel
theorem dX4_corrects_373 : decode cX4_corrects 373 = .ok (.ifCond .eq 11, 3) := by decide +kernel
theorem dX4_corrects_376 : decode cX4_corrects 376 = .ok (.lload 22, 2) := by decide +kernel
theorem dX4_corrects_378 : decode cX4_corrects 378 = .ok (.invokestatic 46, 3) := by decide +kernel
theorem dX4_corrects_381 : decode cX4_corrects 381 = .ok (.ifCond .ne 5, 3) := by decide +kernel
theorem dX4_corrects_384 : decode cX4_corrects 384 = .ok (.iconst (-1), 1) := by decide +kernel
theorem dX4_corrects_385 : decode cX4_corrects 385 = .ok (.ireturn, 1) := by decide +kernel
theorem dX4_corrects_386 : decode cX4_corrects 386 = .ok (.aload_n 0, 1) := by decide +kernel
theorem dX4_corrects_387 : decode cX4_corrects 387 = .ok (.getfield 19, 3) := by decide +kernel
theorem dX4_corrects_390 : decode cX4_corrects 390 = .ok (.iconst 0, 1) := by decide +kernel
theorem dX4_corrects_391 : decode cX4_corrects 391 = .ok (.lload 14, 2) := by decide +kernel
theorem dX4_corrects_393 : decode cX4_corrects 393 = .ok (.lastore, 1) := by decide +kernel
theorem dX4_corrects_394 : decode cX4_corrects 394 = .ok (.aload_n 0, 1) := by decide +kernel
theorem dX4_corrects_395 : decode cX4_corrects 395 = .ok (.getfield 19, 3) := by decide +kernel
theorem dX4_corrects_398 : decode cX4_corrects 398 = .ok (.iconst 1, 1) := by decide +kernel
theorem dX4_corrects_399 : decode cX4_corrects 399 = .ok (.lload 16, 2) := by decide +kernel
theorem dX4_corrects_401 : decode cX4_corrects 401 = .ok (.lastore, 1) := by decide +kernel
theorem dX4_corrects_402 : decode cX4_corrects 402 = .ok (.aload_n 0, 1) := by decide +kernel
theorem dX4_corrects_403 : decode cX4_corrects 403 = .ok (.getfield 19, 3) := by decide +kernel
theorem dX4_corrects_406 : decode cX4_corrects 406 = .ok (.iconst 2, 1) := by decide +kernel
theorem dX4_corrects_407 : decode cX4_corrects 407 = .ok (.lload 18, 2) := by decide +kernel
theorem dX4_corrects_409 : decode cX4_corrects 409 = .ok (.lastore, 1) := by decide +kernel
theorem dX4_corrects_410 : decode cX4_corrects 410 = .ok (.aload_n 0, 1) := by decide +kernel
theorem dX4_corrects_411 : decode cX4_corrects 411 = .ok (.getfield 19, 3) := by decide +kernel
theorem dX4_corrects_414 : decode cX4_corrects 414 = .ok (.iconst 3, 1) := by decide +kernel
theorem dX4_corrects_415 : decode cX4_corrects 415 = .ok (.lload 20, 2) := by decide +kernel
theorem dX4_corrects_417 : decode cX4_corrects 417 = .ok (.lastore, 1) := by decide +kernel
theorem dX4_corrects_418 : decode cX4_corrects 418 = .ok (.aload_n 0, 1) := by decide +kernel
theorem dX4_corrects_419 : decode cX4_corrects 419 = .ok (.getfield 19, 3) := by decide +kernel
theorem dX4_corrects_422 : decode cX4_corrects 422 = .ok (.iconst 4, 1) := by decide +kernel
theorem dX4_corrects_423 : decode cX4_corrects 423 = .ok (.lload 22, 2) := by decide +kernel
theorem dX4_corrects_425 : decode cX4_corrects 425 = .ok (.lastore, 1) := by decide +kernel
theorem dX4_corrects_426 : decode cX4_corrects 426 = .ok (.aload_n 0, 1) := by decide +kernel
theorem dX4_corrects_427 : decode cX4_corrects 427 = .ok (.lload 10, 2) := by decide +kernel
theorem dX4_corrects_429 : decode cX4_corrects 429 = .ok (.putfield 60, 3) := by decide +kernel
theorem dX4_corrects_432 : decode cX4_corrects 432 = .ok (.aload_n 0, 1) := by decide +kernel
theorem dX4_corrects_433 : decode cX4_corrects 433 = .ok (.lload 12, 2) := by decide +kernel
theorem dX4_corrects_435 : decode cX4_corrects 435 = .ok (.putfield 63, 3) := by decide +kernel
theorem dX4_corrects_438 : decode cX4_corrects 438 = .ok (.iconst 1, 1) := by decide +kernel
theorem dX4_corrects_439 : decode cX4_corrects 439 = .ok (.ireturn, 1) := by decide +kernel
set_option maxRecDepth 20000 in
theorem ggX4_reset_X4_in : GoodIn wsX4_reset wsX4_in := goodIn_r _ [10] (by decide +kernel) (by decide +kernel)
set_option maxRecDepth 20000 in
theorem gX4_reset_X4_in : GoodIn wsX4_reset (va_wsS RX4 68 yX4_in wsX4_in) := goodIn_app (goodIn_of _ (by decide +kernel)) ggX4_reset_X4_in
set_option maxRecDepth 20000 in
theorem ggX4_reset_X4_fail : GoodIn wsX4_reset wsX4_fail := goodIn_r _ [14, 15, 5, 27, 28, 29, 30, 31, 32, 33, 34, 35] (by decide +kernel) (by decide +kernel)
set_option maxRecDepth 20000 in
theorem gX4_reset_X4_fail : GoodIn wsX4_reset (wsV RX4 74 RX4 yX4_fail wsX4_fail) := goodIn_app (goodIn_of _ (by decide +kernel)) ggX4_reset_X4_fail
set_option maxRecDepth 20000 in
theorem ggX4_reset_X4_note : GoodIn wsX4_reset wsX4_note := goodIn_r _ [19, 20, 21, 6, 27, 28, 29, 30, 31, 32, 33, 34, 35] (by decide +kernel) (by decide +kernel)
set_option maxRecDepth 20000 in
theorem gX4_reset_X4_note : GoodIn wsX4_reset (wsV RX4 78 RX4 yX4_note wsX4_note) := goodIn_app (goodIn_of _ (by decide +kernel)) ggX4_reset_X4_note
set_option maxRecDepth 20000 in
theorem ggX4_reset_X4_forget : GoodIn wsX4_reset wsX4_forget := goodIn_r _ [25, 6, 26, 27, 28, 29, 30, 31, 32, 33, 34, 35] (by decide +kernel) (by decide +kernel)
set_option maxRecDepth 20000 in
theorem gX4_reset_X4_forget : GoodIn wsX4_reset (wsV RX4 23 RX4 yX4_forget wsX4_forget) := goodIn_app (goodIn_of _ (by decide +kernel)) ggX4_reset_X4_forget
theorem dX4_reset_0 : decode cX4_reset 0 = .ok (.iload_n 1, 1) := by decide +kernel
theorem dX4_reset_1 : decode cX4_reset 1 = .ok (.ldc 66, 2) := by decide +kernel
theorem dX4_reset_3 : decode cX4_reset 3 = .ok (.ldc 67, 2) := by decide +kernel
theorem dX4_reset_5 : decode cX4_reset 5 = .ok (.invokestatic 68, 3) := by decide +kernel
theorem dX4_reset_8 : decode cX4_reset 8 = .ok (.ifCond .eq 35, 3) := by decide +kernel
theorem dX4_reset_11 : decode cX4_reset 11 = .ok (.iload_n 2, 1) := by decide +kernel
theorem dX4_reset_12 : decode cX4_reset 12 = .ok (.ldc 72, 2) := by decide +kernel
theorem dX4_reset_14 : decode cX4_reset 14 = .ok (.ldc 73, 2) := by decide +kernel
theorem dX4_reset_16 : decode cX4_reset 16 = .ok (.invokestatic 68, 3) := by decide +kernel
theorem dX4_reset_19 : decode cX4_reset 19 = .ok (.ifCond .eq 24, 3) := by decide +kernel
theorem dX4_reset_22 : decode cX4_reset 22 = .ok (.iload_n 3, 1) := by decide +kernel
theorem dX4_reset_23 : decode cX4_reset 23 = .ok (.iconst 0, 1) := by decide +kernel
theorem dX4_reset_24 : decode cX4_reset 24 = .ok (.ldc 67, 2) := by decide +kernel
theorem dX4_reset_26 : decode cX4_reset 26 = .ok (.invokestatic 68, 3) := by decide +kernel
theorem dX4_reset_29 : decode cX4_reset 29 = .ok (.ifCond .eq 14, 3) := by decide +kernel
theorem dX4_reset_32 : decode cX4_reset 32 = .ok (.iload 4, 2) := by decide +kernel
theorem dX4_reset_34 : decode cX4_reset 34 = .ok (.iconst 0, 1) := by decide +kernel
theorem dX4_reset_35 : decode cX4_reset 35 = .ok (.ldc 67, 2) := by decide +kernel
theorem dX4_reset_37 : decode cX4_reset 37 = .ok (.invokestatic 68, 3) := by decide +kernel
theorem dX4_reset_40 : decode cX4_reset 40 = .ok (.ifCond .ne 10, 3) := by decide +kernel
theorem dX4_reset_43 : decode cX4_reset 43 = .ok (.aload_n 0, 1) := by decide +kernel
theorem dX4_reset_44 : decode cX4_reset 44 = .ok (.ldc 26, 2) := by decide +kernel
theorem dX4_reset_46 : decode cX4_reset 46 = .ok (.invokevirtual 74, 3) := by decide +kernel
theorem dX4_reset_49 : decode cX4_reset 49 = .ok (.ireturn, 1) := by decide +kernel
theorem dX4_reset_50 : decode cX4_reset 50 = .ok (.aload_n 0, 1) := by decide +kernel
theorem dX4_reset_51 : decode cX4_reset 51 = .ok (.invokevirtual 78, 3) := by decide +kernel
theorem dX4_reset_54 : decode cX4_reset 54 = .ok (.aload_n 0, 1) := by decide +kernel
theorem dX4_reset_55 : decode cX4_reset 55 = .ok (.getfield 7, 3) := by decide +kernel
theorem dX4_reset_58 : decode cX4_reset 58 = .ok (.bipush 22, 2) := by decide +kernel
theorem dX4_reset_60 : decode cX4_reset 60 = .ok (.iaload, 1) := by decide +kernel
theorem dX4_reset_61 : decode cX4_reset 61 = .ok (.istore 5, 2) := by decide +kernel
theorem dX4_reset_63 : decode cX4_reset 63 = .ok (.aload_n 0, 1) := by decide +kernel
theorem dX4_reset_64 : decode cX4_reset 64 = .ok (.getfield 7, 3) := by decide +kernel
theorem dX4_reset_67 : decode cX4_reset 67 = .ok (.iconst 0, 1) := by decide +kernel
theorem dX4_reset_68 : decode cX4_reset 68 = .ok (.iload_n 1, 1) := by decide +kernel
theorem dX4_reset_69 : decode cX4_reset 69 = .ok (.iastore, 1) := by decide +kernel
theorem dX4_reset_70 : decode cX4_reset 70 = .ok (.aload_n 0, 1) := by decide +kernel
theorem dX4_reset_71 : decode cX4_reset 71 = .ok (.getfield 7, 3) := by decide +kernel
theorem dX4_reset_74 : decode cX4_reset 74 = .ok (.iconst 1, 1) := by decide +kernel
theorem dX4_reset_75 : decode cX4_reset 75 = .ok (.iload_n 2, 1) := by decide +kernel
theorem dX4_reset_76 : decode cX4_reset 76 = .ok (.iastore, 1) := by decide +kernel
theorem dX4_reset_77 : decode cX4_reset 77 = .ok (.aload_n 0, 1) := by decide +kernel
theorem dX4_reset_78 : decode cX4_reset 78 = .ok (.getfield 7, 3) := by decide +kernel
theorem dX4_reset_81 : decode cX4_reset 81 = .ok (.iconst 2, 1) := by decide +kernel
theorem dX4_reset_82 : decode cX4_reset 82 = .ok (.iload_n 3, 1) := by decide +kernel
theorem dX4_reset_83 : decode cX4_reset 83 = .ok (.iastore, 1) := by decide +kernel
theorem dX4_reset_84 : decode cX4_reset 84 = .ok (.aload_n 0, 1) := by decide +kernel
theorem dX4_reset_85 : decode cX4_reset 85 = .ok (.getfield 7, 3) := by decide +kernel
theorem dX4_reset_88 : decode cX4_reset 88 = .ok (.iconst 3, 1) := by decide +kernel
theorem dX4_reset_89 : decode cX4_reset 89 = .ok (.iconst 0, 1) := by decide +kernel
theorem dX4_reset_90 : decode cX4_reset 90 = .ok (.iastore, 1) := by decide +kernel
theorem dX4_reset_91 : decode cX4_reset 91 = .ok (.aload_n 0, 1) := by decide +kernel
theorem dX4_reset_92 : decode cX4_reset 92 = .ok (.getfield 7, 3) := by decide +kernel
theorem dX4_reset_95 : decode cX4_reset 95 = .ok (.iconst 4, 1) := by decide +kernel
theorem dX4_reset_96 : decode cX4_reset 96 = .ok (.iload 4, 2) := by decide +kernel
theorem dX4_reset_98 : decode cX4_reset 98 = .ok (.iastore, 1) := by decide +kernel
theorem dX4_reset_99 : decode cX4_reset 99 = .ok (.aload_n 0, 1) := by decide +kernel
theorem dX4_reset_100 : decode cX4_reset 100 = .ok (.invokevirtual 23, 3) := by decide +kernel
theorem dX4_reset_103 : decode cX4_reset 103 = .ok (.iload 5, 2) := by decide +kernel
theorem dX4_reset_105 : decode cX4_reset 105 = .ok (.ireturn, 1) := by decide +kernel
set_option maxRecDepth 20000 in
theorem ggX4_setProcessNoise_X4_in : GoodIn wsX4_setProcessNoise wsX4_in := goodIn_r _ [7] (by decide +kernel) (by decide +kernel)
set_option maxRecDepth 20000 in
theorem gX4_setProcessNoise_X4_in : GoodIn wsX4_setProcessNoise (va_wsS RX4 68 yX4_in wsX4_in) := goodIn_app (goodIn_of _ (by decide +kernel)) ggX4_setProcessNoise_X4_in
set_option maxRecDepth 20000 in
theorem ggX4_setProcessNoise_X4_fail : GoodIn wsX4_setProcessNoise wsX4_fail := goodIn_r _ [11, 12, 2, 19, 20, 21, 22, 23, 24, 25, 26, 27] (by decide +kernel) (by decide +kernel)
set_option maxRecDepth 20000 in
theorem gX4_setProcessNoise_X4_fail : GoodIn wsX4_setProcessNoise (wsV RX4 74 RX4 yX4_fail wsX4_fail) := goodIn_app (goodIn_of _ (by decide +kernel)) ggX4_setProcessNoise_X4_fail
set_option maxRecDepth 20000 in
theorem ggX4_setProcessNoise_X4_note : GoodIn wsX4_setProcessNoise wsX4_note := goodIn_r _ [16, 17, 18, 3, 19, 20, 21, 22, 23, 24, 25, 26, 27] (by decide +kernel) (by decide +kernel)
set_option maxRecDepth 20000 in
theorem gX4_setProcessNoise_X4_note : GoodIn wsX4_setProcessNoise (wsV RX4 78 RX4 yX4_note wsX4_note) := goodIn_app (goodIn_of _ (by decide +kernel)) ggX4_setProcessNoise_X4_note
theorem dX4_setProcessNoise_0 : decode cX4_setProcessNoise 0 = .ok (.iload_n 1, 1) := by decide +kernel
theorem dX4_setProcessNoise_1 : decode cX4_setProcessNoise 1 = .ok (.iconst 0, 1) := by decide +kernel
theorem dX4_setProcessNoise_2 : decode cX4_setProcessNoise 2 = .ok (.ldc 73, 2) := by decide +kernel
theorem dX4_setProcessNoise_4 : decode cX4_setProcessNoise 4 = .ok (.invokestatic 68, 3) := by decide +kernel
theorem dX4_setProcessNoise_7 : decode cX4_setProcessNoise 7 = .ok (.ifCond .eq 13, 3) := by decide +kernel
theorem dX4_setProcessNoise_10 : decode cX4_setProcessNoise 10 = .ok (.iload_n 2, 1) := by decide +kernel
theorem dX4_setProcessNoise_11 : decode cX4_setProcessNoise 11 = .ok (.iconst 0, 1) := by decide +kernel
theorem dX4_setProcessNoise_12 : decode cX4_setProcessNoise 12 = .ok (.ldc 73, 2) := by decide +kernel
theorem dX4_setProcessNoise_14 : decode cX4_setProcessNoise 14 = .ok (.invokestatic 68, 3) := by decide +kernel
theorem dX4_setProcessNoise_17 : decode cX4_setProcessNoise 17 = .ok (.ifCond .ne 10, 3) := by decide +kernel
theorem dX4_setProcessNoise_20 : decode cX4_setProcessNoise 20 = .ok (.aload_n 0, 1) := by decide +kernel
theorem dX4_setProcessNoise_21 : decode cX4_setProcessNoise 21 = .ok (.ldc 26, 2) := by decide +kernel
theorem dX4_setProcessNoise_23 : decode cX4_setProcessNoise 23 = .ok (.invokevirtual 74, 3) := by decide +kernel
theorem dX4_setProcessNoise_26 : decode cX4_setProcessNoise 26 = .ok (.ireturn, 1) := by decide +kernel
theorem dX4_setProcessNoise_27 : decode cX4_setProcessNoise 27 = .ok (.aload_n 0, 1) := by decide +kernel
theorem dX4_setProcessNoise_28 : decode cX4_setProcessNoise 28 = .ok (.invokevirtual 78, 3) := by decide +kernel
theorem dX4_setProcessNoise_31 : decode cX4_setProcessNoise 31 = .ok (.aload_n 0, 1) := by decide +kernel
theorem dX4_setProcessNoise_32 : decode cX4_setProcessNoise 32 = .ok (.getfield 7, 3) := by decide +kernel
theorem dX4_setProcessNoise_35 : decode cX4_setProcessNoise 35 = .ok (.bipush 6, 2) := by decide +kernel
theorem dX4_setProcessNoise_37 : decode cX4_setProcessNoise 37 = .ok (.iaload, 1) := by decide +kernel
theorem dX4_setProcessNoise_38 : decode cX4_setProcessNoise 38 = .ok (.istore_n 3, 1) := by decide +kernel
theorem dX4_setProcessNoise_39 : decode cX4_setProcessNoise 39 = .ok (.aload_n 0, 1) := by decide +kernel
theorem dX4_setProcessNoise_40 : decode cX4_setProcessNoise 40 = .ok (.getfield 7, 3) := by decide +kernel
theorem dX4_setProcessNoise_43 : decode cX4_setProcessNoise 43 = .ok (.iconst 5, 1) := by decide +kernel
theorem dX4_setProcessNoise_44 : decode cX4_setProcessNoise 44 = .ok (.iload_n 1, 1) := by decide +kernel
theorem dX4_setProcessNoise_45 : decode cX4_setProcessNoise 45 = .ok (.iastore, 1) := by decide +kernel
theorem dX4_setProcessNoise_46 : decode cX4_setProcessNoise 46 = .ok (.aload_n 0, 1) := by decide +kernel
theorem dX4_setProcessNoise_47 : decode cX4_setProcessNoise 47 = .ok (.getfield 7, 3) := by decide +kernel
theorem dX4_setProcessNoise_50 : decode cX4_setProcessNoise 50 = .ok (.bipush 6, 2) := by decide +kernel
theorem dX4_setProcessNoise_52 : decode cX4_setProcessNoise 52 = .ok (.iload_n 2, 1) := by decide +kernel
theorem dX4_setProcessNoise_53 : decode cX4_setProcessNoise 53 = .ok (.iastore, 1) := by decide +kernel
theorem dX4_setProcessNoise_54 : decode cX4_setProcessNoise 54 = .ok (.iload_n 3, 1) := by decide +kernel
theorem dX4_setProcessNoise_55 : decode cX4_setProcessNoise 55 = .ok (.ireturn, 1) := by decide +kernel
set_option maxRecDepth 20000 in
theorem ggX4_isSensor_X4_in : GoodIn wsX4_isSensor wsX4_in := goodIn_r _ [4] (by decide +kernel) (by decide +kernel)
set_option maxRecDepth 20000 in
theorem gX4_isSensor_X4_in : GoodIn wsX4_isSensor (va_wsS RX4 68 yX4_in wsX4_in) := goodIn_app (goodIn_of _ (by decide +kernel)) ggX4_isSensor_X4_in
theorem dX4_isSensor_0 : decode cX4_isSensor 0 = .ok (.iload_n 0, 1) := by decide +kernel
theorem dX4_isSensor_1 : decode cX4_isSensor 1 = .ok (.iconst 0, 1) := by decide +kernel
theorem dX4_isSensor_2 : decode cX4_isSensor 2 = .ok (.iconst 3, 1) := by decide +kernel
theorem dX4_isSensor_3 : decode cX4_isSensor 3 = .ok (.invokestatic 68, 3) := by decide +kernel
theorem dX4_isSensor_6 : decode cX4_isSensor 6 = .ok (.ireturn, 1) := by decide +kernel
set_option maxRecDepth 20000 in
theorem ggX4_setSensor_X4_isSensor : GoodIn wsX4_setSensor wsX4_isSensor := goodIn_r _ [7, 8, 9, 6, 10] (by decide +kernel) (by decide +kernel)
set_option maxRecDepth 20000 in
theorem gX4_setSensor_X4_isSensor : GoodIn wsX4_setSensor (va_wsS RX4 81 yX4_isSensor wsX4_isSensor) := goodIn_app (goodIn_of _ (by decide +kernel)) ggX4_setSensor_X4_isSensor
set_option maxRecDepth 20000 in
theorem ggX4_setSensor_X4_in : GoodIn wsX4_setSensor wsX4_in := goodIn_r _ [10] (by decide +kernel) (by decide +kernel)
set_option maxRecDepth 20000 in
theorem gX4_setSensor_X4_in : GoodIn wsX4_setSensor (va_wsS RX4 68 yX4_in wsX4_in) := goodIn_app (goodIn_of _ (by decide +kernel)) ggX4_setSensor_X4_in
set_option maxRecDepth 20000 in
theorem ggX4_setSensor_X4_fail : GoodIn wsX4_setSensor wsX4_fail := goodIn_r _ [14, 15, 2, 22, 23, 24, 25, 26, 27, 28, 29, 30] (by decide +kernel) (by decide +kernel)
set_option maxRecDepth 20000 in
theorem gX4_setSensor_X4_fail : GoodIn wsX4_setSensor (wsV RX4 74 RX4 yX4_fail wsX4_fail) := goodIn_app (goodIn_of _ (by decide +kernel)) ggX4_setSensor_X4_fail
set_option maxRecDepth 20000 in
theorem ggX4_setSensor_X4_note : GoodIn wsX4_setSensor wsX4_note := goodIn_r _ [19, 20, 21, 3, 22, 23, 24, 25, 26, 27, 28, 29, 30] (by decide +kernel) (by decide +kernel)
set_option maxRecDepth 20000 in
theorem gX4_setSensor_X4_note : GoodIn wsX4_setSensor (wsV RX4 78 RX4 yX4_note wsX4_note) := goodIn_app (goodIn_of _ (by decide +kernel)) ggX4_setSensor_X4_note
theorem dX4_setSensor_0 : decode cX4_setSensor 0 = .ok (.iload_n 1, 1) := by decide +kernel
theorem dX4_setSensor_1 : decode cX4_setSensor 1 = .ok (.invokestatic 81, 3) := by decide +kernel
theorem dX4_setSensor_4 : decode cX4_setSensor 4 = .ok (.ifCond .eq 22, 3) := by decide +kernel
theorem dX4_setSensor_7 : decode cX4_setSensor 7 = .ok (.iload_n 2, 1) := by decide +kernel
theorem dX4_setSensor_8 : decode cX4_setSensor 8 = .ok (.iconst 0, 1) := by decide +kernel
theorem dX4_setSensor_9 : decode cX4_setSensor 9 = .ok (.iconst 1, 1) := by decide +kernel
theorem dX4_setSensor_10 : decode cX4_setSensor 10 = .ok (.invokestatic 68, 3) := by decide +kernel
theorem dX4_setSensor_13 : decode cX4_setSensor 13 = .ok (.ifCond .eq 13, 3) := by decide +kernel
theorem dX4_setSensor_16 : decode cX4_setSensor 16 = .ok (.iload_n 3, 1) := by decide +kernel
theorem dX4_setSensor_17 : decode cX4_setSensor 17 = .ok (.iconst 1, 1) := by decide +kernel
theorem dX4_setSensor_18 : decode cX4_setSensor 18 = .ok (.ldc 67, 2) := by decide +kernel
theorem dX4_setSensor_20 : decode cX4_setSensor 20 = .ok (.invokestatic 68, 3) := by decide +kernel
theorem dX4_setSensor_23 : decode cX4_setSensor 23 = .ok (.ifCond .ne 10, 3) := by decide +kernel
theorem dX4_setSensor_26 : decode cX4_setSensor 26 = .ok (.aload_n 0, 1) := by decide +kernel
theorem dX4_setSensor_27 : decode cX4_setSensor 27 = .ok (.ldc 26, 2) := by decide +kernel
theorem dX4_setSensor_29 : decode cX4_setSensor 29 = .ok (.invokevirtual 74, 3) := by decide +kernel
theorem dX4_setSensor_32 : decode cX4_setSensor 32 = .ok (.ireturn, 1) := by decide +kernel
theorem dX4_setSensor_33 : decode cX4_setSensor 33 = .ok (.aload_n 0, 1) := by decide +kernel
theorem dX4_setSensor_34 : decode cX4_setSensor 34 = .ok (.invokevirtual 78, 3) := by decide +kernel
theorem dX4_setSensor_37 : decode cX4_setSensor 37 = .ok (.aload_n 0, 1) := by decide +kernel
theorem dX4_setSensor_38 : decode cX4_setSensor 38 = .ok (.getfield 7, 3) := by decide +kernel
theorem dX4_setSensor_41 : decode cX4_setSensor 41 = .ok (.bipush 12, 2) := by decide +kernel
theorem dX4_setSensor_43 : decode cX4_setSensor 43 = .ok (.iload_n 1, 1) := by decide +kernel
theorem dX4_setSensor_44 : decode cX4_setSensor 44 = .ok (.iadd, 1) := by decide +kernel
theorem dX4_setSensor_45 : decode cX4_setSensor 45 = .ok (.iaload, 1) := by decide +kernel
theorem dX4_setSensor_46 : decode cX4_setSensor 46 = .ok (.istore 4, 2) := by decide +kernel
theorem dX4_setSensor_48 : decode cX4_setSensor 48 = .ok (.aload_n 0, 1) := by decide +kernel
theorem dX4_setSensor_49 : decode cX4_setSensor 49 = .ok (.getfield 7, 3) := by decide +kernel
theorem dX4_setSensor_52 : decode cX4_setSensor 52 = .ok (.bipush 8, 2) := by decide +kernel
theorem dX4_setSensor_54 : decode cX4_setSensor 54 = .ok (.iload_n 1, 1) := by decide +kernel
theorem dX4_setSensor_55 : decode cX4_setSensor 55 = .ok (.iadd, 1) := by decide +kernel
theorem dX4_setSensor_56 : decode cX4_setSensor 56 = .ok (.iload_n 2, 1) := by decide +kernel
theorem dX4_setSensor_57 : decode cX4_setSensor 57 = .ok (.iastore, 1) := by decide +kernel
theorem dX4_setSensor_58 : decode cX4_setSensor 58 = .ok (.aload_n 0, 1) := by decide +kernel
theorem dX4_setSensor_59 : decode cX4_setSensor 59 = .ok (.getfield 7, 3) := by decide +kernel
theorem dX4_setSensor_62 : decode cX4_setSensor 62 = .ok (.bipush 12, 2) := by decide +kernel
theorem dX4_setSensor_64 : decode cX4_setSensor 64 = .ok (.iload_n 1, 1) := by decide +kernel
theorem dX4_setSensor_65 : decode cX4_setSensor 65 = .ok (.iadd, 1) := by decide +kernel
theorem dX4_setSensor_66 : decode cX4_setSensor 66 = .ok (.iload_n 3, 1) := by decide +kernel
theorem dX4_setSensor_67 : decode cX4_setSensor 67 = .ok (.iastore, 1) := by decide +kernel
theorem dX4_setSensor_68 : decode cX4_setSensor 68 = .ok (.iload 4, 2) := by decide +kernel
theorem dX4_setSensor_70 : decode cX4_setSensor 70 = .ok (.ireturn, 1) := by decide +kernel
set_option maxRecDepth 20000 in
theorem ggX4_setGate_X4_in : GoodIn wsX4_setGate wsX4_in := goodIn_r _ [6] (by decide +kernel) (by decide +kernel)
set_option maxRecDepth 20000 in
theorem gX4_setGate_X4_in : GoodIn wsX4_setGate (va_wsS RX4 68 yX4_in wsX4_in) := goodIn_app (goodIn_of _ (by decide +kernel)) ggX4_setGate_X4_in
set_option maxRecDepth 20000 in
theorem ggX4_setGate_X4_fail : GoodIn wsX4_setGate wsX4_fail := goodIn_r _ [10, 11, 1, 18, 19, 20, 21, 22, 23, 24, 25, 26] (by decide +kernel) (by decide +kernel)
set_option maxRecDepth 20000 in
theorem gX4_setGate_X4_fail : GoodIn wsX4_setGate (wsV RX4 74 RX4 yX4_fail wsX4_fail) := goodIn_app (goodIn_of _ (by decide +kernel)) ggX4_setGate_X4_fail
set_option maxRecDepth 20000 in
theorem ggX4_setGate_X4_note : GoodIn wsX4_setGate wsX4_note := goodIn_r _ [15, 16, 17, 2, 18, 19, 20, 21, 22, 23, 24, 25, 26] (by decide +kernel) (by decide +kernel)
set_option maxRecDepth 20000 in
theorem gX4_setGate_X4_note : GoodIn wsX4_setGate (wsV RX4 78 RX4 yX4_note wsX4_note) := goodIn_app (goodIn_of _ (by decide +kernel)) ggX4_setGate_X4_note
theorem dX4_setGate_0 : decode cX4_setGate 0 = .ok (.iload_n 1, 1) := by decide +kernel
theorem dX4_setGate_1 : decode cX4_setGate 1 = .ok (.iconst 0, 1) := by decide +kernel
theorem dX4_setGate_2 : decode cX4_setGate 2 = .ok (.bipush 25, 2) := by decide +kernel
theorem dX4_setGate_4 : decode cX4_setGate 4 = .ok (.invokestatic 68, 3) := by decide +kernel
theorem dX4_setGate_7 : decode cX4_setGate 7 = .ok (.ifCond .ne 10, 3) := by decide +kernel
theorem dX4_setGate_10 : decode cX4_setGate 10 = .ok (.aload_n 0, 1) := by decide +kernel
theorem dX4_setGate_11 : decode cX4_setGate 11 = .ok (.ldc 26, 2) := by decide +kernel
theorem dX4_setGate_13 : decode cX4_setGate 13 = .ok (.invokevirtual 74, 3) := by decide +kernel
theorem dX4_setGate_16 : decode cX4_setGate 16 = .ok (.ireturn, 1) := by decide +kernel
theorem dX4_setGate_17 : decode cX4_setGate 17 = .ok (.aload_n 0, 1) := by decide +kernel
theorem dX4_setGate_18 : decode cX4_setGate 18 = .ok (.invokevirtual 78, 3) := by decide +kernel
theorem dX4_setGate_21 : decode cX4_setGate 21 = .ok (.aload_n 0, 1) := by decide +kernel
theorem dX4_setGate_22 : decode cX4_setGate 22 = .ok (.getfield 7, 3) := by decide +kernel
theorem dX4_setGate_25 : decode cX4_setGate 25 = .ok (.bipush 7, 2) := by decide +kernel
theorem dX4_setGate_27 : decode cX4_setGate 27 = .ok (.iaload, 1) := by decide +kernel
theorem dX4_setGate_28 : decode cX4_setGate 28 = .ok (.istore_n 2, 1) := by decide +kernel
theorem dX4_setGate_29 : decode cX4_setGate 29 = .ok (.aload_n 0, 1) := by decide +kernel
theorem dX4_setGate_30 : decode cX4_setGate 30 = .ok (.getfield 7, 3) := by decide +kernel
theorem dX4_setGate_33 : decode cX4_setGate 33 = .ok (.bipush 7, 2) := by decide +kernel
theorem dX4_setGate_35 : decode cX4_setGate 35 = .ok (.iload_n 1, 1) := by decide +kernel
theorem dX4_setGate_36 : decode cX4_setGate 36 = .ok (.iastore, 1) := by decide +kernel
theorem dX4_setGate_37 : decode cX4_setGate 37 = .ok (.iload_n 2, 1) := by decide +kernel
theorem dX4_setGate_38 : decode cX4_setGate 38 = .ok (.ireturn, 1) := by decide +kernel
theorem dX4_record_0 : decode cX4_record 0 = .ok (.aload_n 0, 1) := by decide +kernel
theorem dX4_record_1 : decode cX4_record 1 = .ok (.getfield 7, 3) := by decide +kernel
theorem dX4_record_4 : decode cX4_record 4 = .ok (.bipush 22, 2) := by decide +kernel
theorem dX4_record_6 : decode cX4_record 6 = .ok (.iaload, 1) := by decide +kernel
theorem dX4_record_7 : decode cX4_record 7 = .ok (.bipush 24, 2) := by decide +kernel
theorem dX4_record_9 : decode cX4_record 9 = .ok (.if_icmp .ne 45, 3) := by decide +kernel
theorem dX4_record_12 : decode cX4_record 12 = .ok (.bipush 23, 2) := by decide +kernel
theorem dX4_record_14 : decode cX4_record 14 = .ok (.istore_n 3, 1) := by decide +kernel
theorem dX4_record_15 : decode cX4_record 15 = .ok (.iload_n 3, 1) := by decide +kernel
theorem dX4_record_16 : decode cX4_record 16 = .ok (.iconst 2, 1) := by decide +kernel
theorem dX4_record_17 : decode cX4_record 17 = .ok (.iadd, 1) := by decide +kernel
theorem dX4_record_18 : decode cX4_record 18 = .ok (.bipush 71, 2) := by decide +kernel
theorem dX4_record_20 : decode cX4_record 20 = .ok (.if_icmp .ge 23, 3) := by decide +kernel
theorem dX4_record_23 : decode cX4_record 23 = .ok (.aload_n 0, 1) := by decide +kernel
theorem dX4_record_24 : decode cX4_record 24 = .ok (.getfield 7, 3) := by decide +kernel
theorem dX4_record_27 : decode cX4_record 27 = .ok (.iload_n 3, 1) := by decide +kernel
theorem dX4_record_28 : decode cX4_record 28 = .ok (.aload_n 0, 1) := by decide +kernel
theorem dX4_record_29 : decode cX4_record 29 = .ok (.getfield 7, 3) := by decide +kernel
theorem dX4_record_32 : decode cX4_record 32 = .ok (.iload_n 3, 1) := by decide +kernel
theorem dX4_record_33 : decode cX4_record 33 = .ok (.iconst 2, 1) := by decide +kernel
theorem dX4_record_34 : decode cX4_record 34 = .ok (.iadd, 1) := by decide +kernel
theorem dX4_record_35 : decode cX4_record 35 = .ok (.iaload, 1) := by decide +kernel
theorem dX4_record_36 : decode cX4_record 36 = .ok (.iastore, 1) := by decide +kernel
theorem dX4_record_37 : decode cX4_record 37 = .ok (.iinc 3 1, 3) := by decide +kernel
theorem dX4_record_40 : decode cX4_record 40 = .ok (.goto (-25), 3) := by decide +kernel
theorem dX4_record_43 : decode cX4_record 43 = .ok (.aload_n 0, 1) := by decide +kernel
theorem dX4_record_44 : decode cX4_record 44 = .ok (.getfield 7, 3) := by decide +kernel
theorem dX4_record_47 : decode cX4_record 47 = .ok (.bipush 22, 2) := by decide +kernel
theorem dX4_record_49 : decode cX4_record 49 = .ok (.dup2, 1) := by decide +kernel
theorem dX4_record_50 : decode cX4_record 50 = .ok (.iaload, 1) := by decide +kernel
theorem dX4_record_51 : decode cX4_record 51 = .ok (.iconst 1, 1) := by decide +kernel
theorem dX4_record_52 : decode cX4_record 52 = .ok (.isub, 1) := by decide +kernel
theorem dX4_record_53 : decode cX4_record 53 = .ok (.iastore, 1) := by decide +kernel
theorem dX4_record_54 : decode cX4_record 54 = .ok (.aload_n 0, 1) := by decide +kernel
theorem dX4_record_55 : decode cX4_record 55 = .ok (.getfield 7, 3) := by decide +kernel
