theorem dL_below_0 : decode cL_below 0 = .ok (.iload_n 0, 1) := by decide +kernel
theorem dL_below_1 : decode cL_below 1 = .ok (.ldc 7, 2) := by decide +kernel
theorem dL_below_3 : decode cL_below 3 = .ok (.iand, 1) := by decide +kernel
theorem dL_below_4 : decode cL_below 4 = .ok (.iload_n 1, 1) := by decide +kernel
theorem dL_below_5 : decode cL_below 5 = .ok (.irem, 1) := by decide +kernel
theorem dL_below_6 : decode cL_below 6 = .ok (.ireturn, 1) := by decide +kernel
theorem dL_cell_0 : decode cL_cell 0 = .ok (.iload_n 1, 1) := by decide +kernel
theorem dL_cell_1 : decode cL_cell 1 = .ok (.aload_n 0, 1) := by decide +kernel
theorem dL_cell_2 : decode cL_cell 2 = .ok (.arraylength, 1) := by decide +kernel
theorem dL_cell_3 : decode cL_cell 3 = .ok (.if_icmp .ge 9, 3) := by decide +kernel
theorem dL_cell_6 : decode cL_cell 6 = .ok (.aload_n 0, 1) := by decide +kernel
theorem dL_cell_7 : decode cL_cell 7 = .ok (.iload_n 1, 1) := by decide +kernel
theorem dL_cell_8 : decode cL_cell 8 = .ok (.iaload, 1) := by decide +kernel
theorem dL_cell_9 : decode cL_cell 9 = .ok (.goto 9, 3) := by decide +kernel
theorem dL_cell_12 : decode cL_cell 12 = .ok (.ldc 8, 2) := by decide +kernel
theorem dL_cell_14 : decode cL_cell 14 = .ok (.iload_n 1, 1) := by decide +kernel
theorem dL_cell_15 : decode cL_cell 15 = .ok (.iconst 3, 1) := by decide +kernel
theorem dL_cell_16 : decode cL_cell 16 = .ok (.iadd, 1) := by decide +kernel
theorem dL_cell_17 : decode cL_cell 17 = .ok (.imul, 1) := by decide +kernel
theorem dL_cell_18 : decode cL_cell 18 = .ok (.ireturn, 1) := by decide +kernel
theorem dL_act_0 : decode cL_act 0 = .ok (.aload_n 1, 1) := by decide +kernel
theorem dL_act_1 : decode cL_act 1 = .ok (.getfield 9, 3) := by decide +kernel
theorem dL_act_4 : decode cL_act 4 = .ok (.arraylength, 1) := by decide +kernel
theorem dL_act_5 : decode cL_act 5 = .ok (.istore_n 3, 1) := by decide +kernel
theorem dL_act_6 : decode cL_act 6 = .ok (.iload_n 3, 1) := by decide +kernel
theorem dL_act_7 : decode cL_act 7 = .ok (.ifCond .eq 12, 3) := by decide +kernel
theorem dL_act_10 : decode cL_act 10 = .ok (.iload_n 2, 1) := by decide +kernel
theorem dL_act_11 : decode cL_act 11 = .ok (.bipush 17, 2) := by decide +kernel
theorem dL_act_13 : decode cL_act 13 = .ok (.invokestatic 15, 3) := by decide +kernel
theorem dL_act_16 : decode cL_act 16 = .ok (.ifCond .ne 29, 3) := by decide +kernel
theorem dL_act_19 : decode cL_act 19 = .ok (.iload_n 3, 1) := by decide +kernel
theorem dL_act_20 : decode cL_act 20 = .ok (.bipush 24, 2) := by decide +kernel
theorem dL_act_22 : decode cL_act 22 = .ok (.if_icmp .ne 5, 3) := by decide +kernel
theorem dL_act_25 : decode cL_act 25 = .ok (.iconst 1, 1) := by decide +kernel
theorem dL_act_26 : decode cL_act 26 = .ok (.ireturn, 1) := by decide +kernel
theorem dL_act_27 : decode cL_act 27 = .ok (.aload_n 1, 1) := by decide +kernel
theorem dL_act_28 : decode cL_act 28 = .ok (.invokevirtual 21, 3) := by decide +kernel
theorem dL_act_31 : decode cL_act 31 = .ok (.aload_n 0, 1) := by decide +kernel
theorem dL_act_32 : decode cL_act 32 = .ok (.invokevirtual 24, 3) := by decide +kernel
theorem dL_act_35 : decode cL_act 35 = .ok (.iload_n 3, 1) := by decide +kernel
theorem dL_act_36 : decode cL_act 36 = .ok (.if_icmp .ne 7, 3) := by decide +kernel
theorem dL_act_39 : decode cL_act 39 = .ok (.iconst 1, 1) := by decide +kernel
theorem dL_act_40 : decode cL_act 40 = .ok (.goto 4, 3) := by decide +kernel
theorem dL_act_43 : decode cL_act 43 = .ok (.iconst 0, 1) := by decide +kernel
theorem dL_act_44 : decode cL_act 44 = .ok (.ireturn, 1) := by decide +kernel
theorem dL_act_45 : decode cL_act 45 = .ok (.iload_n 2, 1) := by decide +kernel
theorem dL_act_46 : decode cL_act 46 = .ok (.iconst 3, 1) := by decide +kernel
theorem dL_act_47 : decode cL_act 47 = .ok (.ishr, 1) := by decide +kernel
theorem dL_act_48 : decode cL_act 48 = .ok (.iload_n 3, 1) := by decide +kernel
theorem dL_act_49 : decode cL_act 49 = .ok (.invokestatic 15, 3) := by decide +kernel
theorem dL_act_52 : decode cL_act 52 = .ok (.istore 4, 2) := by decide +kernel
theorem dL_act_54 : decode cL_act 54 = .ok (.iload_n 2, 1) := by decide +kernel
theorem dL_act_55 : decode cL_act 55 = .ok (.bipush 6, 2) := by decide +kernel
theorem dL_act_57 : decode cL_act 57 = .ok (.ishr, 1) := by decide +kernel
theorem dL_act_58 : decode cL_act 58 = .ok (.iload_n 3, 1) := by decide +kernel
theorem dL_act_59 : decode cL_act 59 = .ok (.invokestatic 15, 3) := by decide +kernel
theorem dL_act_62 : decode cL_act 62 = .ok (.istore 5, 2) := by decide +kernel
theorem dL_act_64 : decode cL_act 64 = .ok (.iconst 1, 1) := by decide +kernel
theorem dL_act_65 : decode cL_act 65 = .ok (.iload_n 2, 1) := by decide +kernel
theorem dL_act_66 : decode cL_act 66 = .ok (.iconst 4, 1) := by decide +kernel
theorem dL_act_67 : decode cL_act 67 = .ok (.ishr, 1) := by decide +kernel
theorem dL_act_68 : decode cL_act 68 = .ok (.aload_n 1, 1) := by decide +kernel
theorem dL_act_69 : decode cL_act 69 = .ok (.getfield 29, 3) := by decide +kernel
theorem dL_act_72 : decode cL_act 72 = .ok (.invokestatic 15, 3) := by decide +kernel
theorem dL_act_75 : decode cL_act 75 = .ok (.iadd, 1) := by decide +kernel
theorem dL_act_76 : decode cL_act 76 = .ok (.istore 6, 2) := by decide +kernel
theorem dL_act_78 : decode cL_act 78 = .ok (.iload 6, 2) := by decide +kernel
theorem dL_act_80 : decode cL_act 80 = .ok (.iload_n 2, 1) := by decide +kernel
theorem dL_act_81 : decode cL_act 81 = .ok (.bipush 7, 2) := by decide +kernel
theorem dL_act_83 : decode cL_act 83 = .ok (.ishr, 1) := by decide +kernel
theorem dL_act_84 : decode cL_act 84 = .ok (.iload_n 2, 1) := by decide +kernel
theorem dL_act_85 : decode cL_act 85 = .ok (.bipush 9, 2) := by decide +kernel
theorem dL_act_87 : decode cL_act 87 = .ok (.ishr, 1) := by decide +kernel
theorem dL_act_88 : decode cL_act 88 = .ok (.iconst 3, 1) := by decide +kernel
theorem dL_act_89 : decode cL_act 89 = .ok (.invokestatic 15, 3) := by decide +kernel
theorem dL_act_92 : decode cL_act 92 = .ok (.ifCond .ne 15, 3) := by decide +kernel
theorem dL_act_95 : decode cL_act 95 = .ok (.aload_n 1, 1) := by decide +kernel
theorem dL_act_96 : decode cL_act 96 = .ok (.getfield 29, 3) := by decide +kernel
theorem dL_act_99 : decode cL_act 99 = .ok (.iconst 1, 1) := by decide +kernel
theorem dL_act_100 : decode cL_act 100 = .ok (.iadd, 1) := by decide +kernel
theorem dL_act_101 : decode cL_act 101 = .ok (.iload 6, 2) := by decide +kernel
theorem dL_act_103 : decode cL_act 103 = .ok (.isub, 1) := by decide +kernel
theorem dL_act_104 : decode cL_act 104 = .ok (.goto 17, 3) := by decide +kernel
theorem dL_act_107 : decode cL_act 107 = .ok (.bipush 6, 2) := by decide +kernel
theorem dL_act_109 : decode cL_act 109 = .ok (.aload_n 1, 1) := by decide +kernel
theorem dL_act_110 : decode cL_act 110 = .ok (.getfield 29, 3) := by decide +kernel
theorem dL_act_113 : decode cL_act 113 = .ok (.iconst 1, 1) := by decide +kernel
theorem dL_act_114 : decode cL_act 114 = .ok (.iadd, 1) := by decide +kernel
theorem dL_act_115 : decode cL_act 115 = .ok (.iload 6, 2) := by decide +kernel
theorem dL_act_117 : decode cL_act 117 = .ok (.isub, 1) := by decide +kernel
theorem dL_act_118 : decode cL_act 118 = .ok (.invokestatic 33, 3) := by decide +kernel
theorem dL_act_121 : decode cL_act 121 = .ok (.invokestatic 15, 3) := by decide +kernel
theorem dL_act_124 : decode cL_act 124 = .ok (.iadd, 1) := by decide +kernel
theorem dL_act_125 : decode cL_act 125 = .ok (.istore 7, 2) := by decide +kernel
theorem dL_act_127 : decode cL_act 127 = .ok (.iconst 1, 1) := by decide +kernel
theorem dL_act_128 : decode cL_act 128 = .ok (.istore 8, 2) := by decide +kernel
theorem dL_act_130 : decode cL_act 130 = .ok (.iload_n 2, 1) := by decide +kernel
theorem dL_act_131 : decode cL_act 131 = .ok (.bipush 17, 2) := by decide +kernel
theorem dL_act_133 : decode cL_act 133 = .ok (.invokestatic 15, 3) := by decide +kernel
theorem dL_act_136 : decode cL_act 136 = .ok (.tableswitch 597 1 13 #[68, 68, 68, 68, 68, 162, 162, 251, 251, 343, 343, 343, 486], 68) := by decide +kernel
theorem dL_act_204 : decode cL_act 204 = .ok (.aload_n 1, 1) := by decide +kernel
theorem dL_act_205 : decode cL_act 205 = .ok (.getfield 38, 3) := by decide +kernel
theorem dL_act_208 : decode cL_act 208 = .ok (.iload 4, 2) := by decide +kernel
theorem dL_act_210 : decode cL_act 210 = .ok (.aaload, 1) := by decide +kernel
theorem dL_act_211 : decode cL_act 211 = .ok (.iconst 2, 1) := by decide +kernel
theorem dL_act_212 : decode cL_act 212 = .ok (.newarray .int, 2) := by decide +kernel
theorem dL_act_214 : decode cL_act 214 = .ok (.dup, 1) := by decide +kernel
theorem dL_act_215 : decode cL_act 215 = .ok (.iconst 0, 1) := by decide +kernel
theorem dL_act_216 : decode cL_act 216 = .ok (.iload 6, 2) := by decide +kernel
theorem dL_act_218 : decode cL_act 218 = .ok (.iastore, 1) := by decide +kernel
theorem dL_act_219 : decode cL_act 219 = .ok (.dup, 1) := by decide +kernel
theorem dL_act_220 : decode cL_act 220 = .ok (.iconst 1, 1) := by decide +kernel
theorem dL_act_221 : decode cL_act 221 = .ok (.iload 7, 2) := by decide +kernel
theorem dL_act_223 : decode cL_act 223 = .ok (.iastore, 1) := by decide +kernel
theorem dL_act_224 : decode cL_act 224 = .ok (.invokestatic 42, 3) := by decide +kernel
theorem dL_act_227 : decode cL_act 227 = .ok (.invokestatic 46, 3) := by decide +kernel
theorem dL_act_230 : decode cL_act 230 = .ok (.astore 9, 2) := by decide +kernel
theorem dL_act_232 : decode cL_act 232 = .ok (.aload_n 1, 1) := by decide +kernel
theorem dL_act_233 : decode cL_act 233 = .ok (.getfield 9, 3) := by decide +kernel
theorem dL_act_236 : decode cL_act 236 = .ok (.iload 4, 2) := by decide +kernel
theorem dL_act_238 : decode cL_act 238 = .ok (.iaload, 1) := by decide +kernel
theorem dL_act_239 : decode cL_act 239 = .ok (.ifCond .ge 15, 3) := by decide +kernel
theorem dL_act_242 : decode cL_act 242 = .ok (.aload 9, 2) := by decide +kernel
theorem dL_act_244 : decode cL_act 244 = .ok (.arraylength, 1) := by decide +kernel
theorem dL_act_245 : decode cL_act 245 = .ok (.bipush 9, 2) := by decide +kernel
theorem dL_act_247 : decode cL_act 247 = .ok (.if_icmp .ge 7, 3) := by decide +kernel
theorem dL_act_250 : decode cL_act 250 = .ok (.iconst 1, 1) := by decide +kernel
theorem dL_act_251 : decode cL_act 251 = .ok (.goto 4, 3) := by decide +kernel
theorem dL_act_254 : decode cL_act 254 = .ok (.iconst 0, 1) := by decide +kernel
theorem dL_act_255 : decode cL_act 255 = .ok (.istore 8, 2) := by decide +kernel
theorem dL_act_257 : decode cL_act 257 = .ok (.iload 8, 2) := by decide +kernel
theorem dL_act_259 : decode cL_act 259 = .ok (.ifCond .eq 12, 3) := by decide +kernel
theorem dL_act_262 : decode cL_act 262 = .ok (.aload_n 1, 1) := by decide +kernel
theorem dL_act_263 : decode cL_act 263 = .ok (.getfield 38, 3) := by decide +kernel
theorem dL_act_266 : decode cL_act 266 = .ok (.iload 4, 2) := by decide +kernel
theorem dL_act_268 : decode cL_act 268 = .ok (.aload 9, 2) := by decide +kernel
theorem dL_act_270 : decode cL_act 270 = .ok (.aastore, 1) := by decide +kernel
theorem dL_act_271 : decode cL_act 271 = .ok (.aload_n 0, 1) := by decide +kernel
theorem dL_act_272 : decode cL_act 272 = .ok (.iload 4, 2) := by decide +kernel
theorem dL_act_274 : decode cL_act 274 = .ok (.iload 6, 2) := by decide +kernel
theorem dL_act_276 : decode cL_act 276 = .ok (.iload 7, 2) := by decide +kernel
theorem dL_act_278 : decode cL_act 278 = .ok (.invokevirtual 50, 3) := by decide +kernel
theorem dL_act_281 : decode cL_act 281 = .ok (.aload 9, 2) := by decide +kernel
theorem dL_act_283 : decode cL_act 283 = .ok (.arraylength, 1) := by decide +kernel
theorem dL_act_284 : decode cL_act 284 = .ok (.if_icmp .ne 12, 3) := by decide +kernel
theorem dL_act_287 : decode cL_act 287 = .ok (.iload 8, 2) := by decide +kernel
theorem dL_act_289 : decode cL_act 289 = .ok (.ifCond .eq 7, 3) := by decide +kernel
theorem dL_act_292 : decode cL_act 292 = .ok (.iconst 1, 1) := by decide +kernel
theorem dL_act_293 : decode cL_act 293 = .ok (.goto 4, 3) := by decide +kernel
theorem dL_act_296 : decode cL_act 296 = .ok (.iconst 0, 1) := by decide +kernel
theorem dL_act_297 : decode cL_act 297 = .ok (.ireturn, 1) := by decide +kernel
theorem dL_act_298 : decode cL_act 298 = .ok (.aload_n 1, 1) := by decide +kernel
theorem dL_act_299 : decode cL_act 299 = .ok (.getfield 38, 3) := by decide +kernel
theorem dL_act_302 : decode cL_act 302 = .ok (.iload 4, 2) := by decide +kernel
theorem dL_act_304 : decode cL_act 304 = .ok (.aaload, 1) := by decide +kernel
theorem dL_act_305 : decode cL_act 305 = .ok (.iload 6, 2) := by decide +kernel
theorem dL_act_307 : decode cL_act 307 = .ok (.iload 7, 2) := by decide +kernel
theorem dL_act_309 : decode cL_act 309 = .ok (.invokestatic 54, 3) := by decide +kernel
theorem dL_act_312 : decode cL_act 312 = .ok (.astore 9, 2) := by decide +kernel
theorem dL_act_314 : decode cL_act 314 = .ok (.aload_n 1, 1) := by decide +kernel
theorem dL_act_315 : decode cL_act 315 = .ok (.getfield 38, 3) := by decide +kernel
theorem dL_act_318 : decode cL_act 318 = .ok (.iload 4, 2) := by decide +kernel
theorem dL_act_320 : decode cL_act 320 = .ok (.aaload, 1) := by decide +kernel
theorem dL_act_321 : decode cL_act 321 = .ok (.invokestatic 58, 3) := by decide +kernel
theorem dL_act_324 : decode cL_act 324 = .ok (.aload 9, 2) := by decide +kernel
theorem dL_act_326 : decode cL_act 326 = .ok (.invokestatic 58, 3) := by decide +kernel
theorem dL_act_329 : decode cL_act 329 = .ok (.isub, 1) := by decide +kernel
theorem dL_act_330 : decode cL_act 330 = .ok (.istore 10, 2) := by decide +kernel
theorem dL_act_332 : decode cL_act 332 = .ok (.aload 9, 2) := by decide +kernel
theorem dL_act_334 : decode cL_act 334 = .ok (.arraylength, 1) := by decide +kernel
theorem dL_act_335 : decode cL_act 335 = .ok (.bipush 9, 2) := by decide +kernel
theorem dL_act_337 : decode cL_act 337 = .ok (.if_icmp .ge 7, 3) := by decide +kernel
theorem dL_act_340 : decode cL_act 340 = .ok (.iconst 1, 1) := by decide +kernel
theorem dL_act_341 : decode cL_act 341 = .ok (.goto 4, 3) := by decide +kernel
theorem dL_act_344 : decode cL_act 344 = .ok (.iconst 0, 1) := by decide +kernel
theorem dL_act_345 : decode cL_act 345 = .ok (.istore 8, 2) := by decide +kernel
theorem dL_act_347 : decode cL_act 347 = .ok (.iload 8, 2) := by decide +kernel
theorem dL_act_349 : decode cL_act 349 = .ok (.ifCond .eq 12, 3) := by decide +kernel
theorem dL_act_352 : decode cL_act 352 = .ok (.aload_n 1, 1) := by decide +kernel
theorem dL_act_353 : decode cL_act 353 = .ok (.getfield 38, 3) := by decide +kernel
theorem dL_act_356 : decode cL_act 356 = .ok (.iload 4, 2) := by decide +kernel
theorem dL_act_358 : decode cL_act 358 = .ok (.aload 9, 2) := by decide +kernel
theorem dL_act_360 : decode cL_act 360 = .ok (.aastore, 1) := by decide +kernel
theorem dL_act_361 : decode cL_act 361 = .ok (.aload_n 0, 1) := by decide +kernel
theorem dL_act_362 : decode cL_act 362 = .ok (.iload 4, 2) := by decide +kernel
theorem dL_act_364 : decode cL_act 364 = .ok (.iload 6, 2) := by decide +kernel
theorem dL_act_366 : decode cL_act 366 = .ok (.iload 7, 2) := by decide +kernel
theorem dL_act_368 : decode cL_act 368 = .ok (.invokevirtual 62, 3) := by decide +kernel
theorem dL_act_371 : decode cL_act 371 = .ok (.iload 10, 2) := by decide +kernel
theorem dL_act_373 : decode cL_act 373 = .ok (.if_icmp .ne 12, 3) := by decide +kernel
theorem dL_act_376 : decode cL_act 376 = .ok (.iload 8, 2) := by decide +kernel
theorem dL_act_378 : decode cL_act 378 = .ok (.ifCond .eq 7, 3) := by decide +kernel
theorem dL_act_381 : decode cL_act 381 = .ok (.iconst 1, 1) := by decide +kernel
theorem dL_act_382 : decode cL_act 382 = .ok (.goto 4, 3) := by decide +kernel
theorem dL_act_385 : decode cL_act 385 = .ok (.iconst 0, 1) := by decide +kernel
theorem dL_act_386 : decode cL_act 386 = .ok (.ireturn, 1) := by decide +kernel
theorem dL_act_387 : decode cL_act 387 = .ok (.iload_n 2, 1) := by decide +kernel
theorem dL_act_388 : decode cL_act 388 = .ok (.iconst 5, 1) := by decide +kernel
theorem dL_act_389 : decode cL_act 389 = .ok (.ishr, 1) := by decide +kernel
theorem dL_act_390 : decode cL_act 390 = .ok (.iconst 4, 1) := by decide +kernel
theorem dL_act_391 : decode cL_act 391 = .ok (.invokestatic 15, 3) := by decide +kernel
theorem dL_act_394 : decode cL_act 394 = .ok (.ifCond .ne 6, 3) := by decide +kernel
theorem dL_act_397 : decode cL_act 397 = .ok (.iconst (-1), 1) := by decide +kernel
theorem dL_act_398 : decode cL_act 398 = .ok (.istore 5, 2) := by decide +kernel
theorem dL_act_400 : decode cL_act 400 = .ok (.iload 5, 2) := by decide +kernel
theorem dL_act_402 : decode cL_act 402 = .ok (.iload 4, 2) := by decide +kernel
theorem dL_act_404 : decode cL_act 404 = .ok (.if_icmp .ne 5, 3) := by decide +kernel
theorem dL_act_407 : decode cL_act 407 = .ok (.iconst 1, 1) := by decide +kernel
theorem dL_act_408 : decode cL_act 408 = .ok (.ireturn, 1) := by decide +kernel
theorem dL_act_409 : decode cL_act 409 = .ok (.iload 5, 2) := by decide +kernel
theorem dL_act_411 : decode cL_act 411 = .ok (.ifCond .lt 14, 3) := by decide +kernel
theorem dL_act_414 : decode cL_act 414 = .ok (.aload_n 1, 1) := by decide +kernel
theorem dL_act_415 : decode cL_act 415 = .ok (.getfield 38, 3) := by decide +kernel
theorem dL_act_418 : decode cL_act 418 = .ok (.iload 4, 2) := by decide +kernel
theorem dL_act_420 : decode cL_act 420 = .ok (.aaload, 1) := by decide +kernel
theorem dL_act_421 : decode cL_act 421 = .ok (.arraylength, 1) := by decide +kernel
theorem dL_act_422 : decode cL_act 422 = .ok (.ifCond .ne 7, 3) := by decide +kernel
theorem dL_act_425 : decode cL_act 425 = .ok (.iconst 1, 1) := by decide +kernel
theorem dL_act_426 : decode cL_act 426 = .ok (.goto 4, 3) := by decide +kernel
theorem dL_act_429 : decode cL_act 429 = .ok (.iconst 0, 1) := by decide +kernel
theorem dL_act_430 : decode cL_act 430 = .ok (.istore 8, 2) := by decide +kernel
theorem dL_act_432 : decode cL_act 432 = .ok (.aload_n 1, 1) := by decide +kernel
theorem dL_act_433 : decode cL_act 433 = .ok (.getfield 9, 3) := by decide +kernel
theorem dL_act_436 : decode cL_act 436 = .ok (.iload 4, 2) := by decide +kernel
theorem dL_act_438 : decode cL_act 438 = .ok (.iaload, 1) := by decide +kernel
theorem dL_act_439 : decode cL_act 439 = .ok (.istore 9, 2) := by decide +kernel
theorem dL_act_441 : decode cL_act 441 = .ok (.iload 8, 2) := by decide +kernel
theorem dL_act_443 : decode cL_act 443 = .ok (.ifCond .eq 12, 3) := by decide +kernel
theorem dL_act_446 : decode cL_act 446 = .ok (.aload_n 1, 1) := by decide +kernel
theorem dL_act_447 : decode cL_act 447 = .ok (.getfield 9, 3) := by decide +kernel
theorem dL_act_450 : decode cL_act 450 = .ok (.iload 4, 2) := by decide +kernel
theorem dL_act_452 : decode cL_act 452 = .ok (.iload 5, 2) := by decide +kernel
theorem dL_act_454 : decode cL_act 454 = .ok (.iastore, 1) := by decide +kernel
theorem dL_act_455 : decode cL_act 455 = .ok (.aload_n 0, 1) := by decide +kernel
theorem dL_act_456 : decode cL_act 456 = .ok (.iload 4, 2) := by decide +kernel
theorem dL_act_458 : decode cL_act 458 = .ok (.iload 5, 2) := by decide +kernel
theorem dL_act_460 : decode cL_act 460 = .ok (.invokevirtual 65, 3) := by decide +kernel
theorem dL_act_463 : decode cL_act 463 = .ok (.iload 9, 2) := by decide +kernel
theorem dL_act_465 : decode cL_act 465 = .ok (.if_icmp .ne 12, 3) := by decide +kernel
theorem dL_act_468 : decode cL_act 468 = .ok (.iload 8, 2) := by decide +kernel
theorem dL_act_470 : decode cL_act 470 = .ok (.ifCond .eq 7, 3) := by decide +kernel
theorem dL_act_473 : decode cL_act 473 = .ok (.iconst 1, 1) := by decide +kernel
theorem dL_act_474 : decode cL_act 474 = .ok (.goto 4, 3) := by decide +kernel
theorem dL_act_477 : decode cL_act 477 = .ok (.iconst 0, 1) := by decide +kernel
theorem dL_act_478 : decode cL_act 478 = .ok (.ireturn, 1) := by decide +kernel
theorem dL_act_479 : decode cL_act 479 = .ok (.iload 5, 2) := by decide +kernel
theorem dL_act_481 : decode cL_act 481 = .ok (.iload 4, 2) := by decide +kernel
theorem dL_act_483 : decode cL_act 483 = .ok (.if_icmp .ne 5, 3) := by decide +kernel
theorem dL_act_486 : decode cL_act 486 = .ok (.iconst 1, 1) := by decide +kernel
theorem dL_act_487 : decode cL_act 487 = .ok (.ireturn, 1) := by decide +kernel
theorem dL_act_488 : decode cL_act 488 = .ok (.iconst 0, 1) := by decide +kernel
theorem dL_act_489 : decode cL_act 489 = .ok (.newarray .int, 2) := by decide +kernel
theorem dL_act_491 : decode cL_act 491 = .ok (.astore 9, 2) := by decide +kernel
theorem dL_act_493 : decode cL_act 493 = .ok (.aload_n 1, 1) := by decide +kernel
theorem dL_act_494 : decode cL_act 494 = .ok (.getfield 68, 3) := by decide +kernel
theorem dL_act_497 : decode cL_act 497 = .ok (.iload 4, 2) := by decide +kernel
theorem dL_act_499 : decode cL_act 499 = .ok (.aaload, 1) := by decide +kernel
theorem dL_act_500 : decode cL_act 500 = .ok (.astore 10, 2) := by decide +kernel
theorem dL_act_502 : decode cL_act 502 = .ok (.aload 10, 2) := by decide +kernel
theorem dL_act_504 : decode cL_act 504 = .ok (.arraylength, 1) := by decide +kernel
theorem dL_act_505 : decode cL_act 505 = .ok (.istore 11, 2) := by decide +kernel
theorem dL_act_507 : decode cL_act 507 = .ok (.iconst 0, 1) := by decide +kernel
theorem dL_act_508 : decode cL_act 508 = .ok (.istore 12, 2) := by decide +kernel
theorem dL_act_510 : decode cL_act 510 = .ok (.iload 12, 2) := by decide +kernel
theorem dL_act_512 : decode cL_act 512 = .ok (.iload 11, 2) := by decide +kernel
theorem dL_act_514 : decode cL_act 514 = .ok (.if_icmp .ge 32, 3) := by decide +kernel
theorem dL_act_517 : decode cL_act 517 = .ok (.aload 10, 2) := by decide +kernel
theorem dL_act_519 : decode cL_act 519 = .ok (.iload 12, 2) := by decide +kernel
theorem dL_act_521 : decode cL_act 521 = .ok (.iaload, 1) := by decide +kernel
theorem dL_act_522 : decode cL_act 522 = .ok (.istore 13, 2) := by decide +kernel
theorem dL_act_524 : decode cL_act 524 = .ok (.iload 13, 2) := by decide +kernel
theorem dL_act_526 : decode cL_act 526 = .ok (.iload 5, 2) := by decide +kernel
theorem dL_act_528 : decode cL_act 528 = .ok (.if_icmp .eq 12, 3) := by decide +kernel
theorem dL_act_531 : decode cL_act 531 = .ok (.aload 9, 2) := by decide +kernel
theorem dL_act_533 : decode cL_act 533 = .ok (.iload 13, 2) := by decide +kernel
theorem dL_act_535 : decode cL_act 535 = .ok (.invokestatic 72, 3) := by decide +kernel
theorem dL_act_538 : decode cL_act 538 = .ok (.astore 9, 2) := by decide +kernel
theorem dL_act_540 : decode cL_act 540 = .ok (.iinc 12 1, 3) := by decide +kernel
theorem dL_act_543 : decode cL_act 543 = .ok (.goto (-33), 3) := by decide +kernel
theorem dL_act_546 : decode cL_act 546 = .ok (.aload 9, 2) := by decide +kernel
theorem dL_act_548 : decode cL_act 548 = .ok (.arraylength, 1) := by decide +kernel
theorem dL_act_549 : decode cL_act 549 = .ok (.aload_n 1, 1) := by decide +kernel
theorem dL_act_550 : decode cL_act 550 = .ok (.getfield 68, 3) := by decide +kernel
theorem dL_act_553 : decode cL_act 553 = .ok (.iload 4, 2) := by decide +kernel
theorem dL_act_555 : decode cL_act 555 = .ok (.aaload, 1) := by decide +kernel
theorem dL_act_556 : decode cL_act 556 = .ok (.arraylength, 1) := by decide +kernel
theorem dL_act_557 : decode cL_act 557 = .ok (.if_icmp .ne 12, 3) := by decide +kernel
theorem dL_act_560 : decode cL_act 560 = .ok (.aload 9, 2) := by decide +kernel
theorem dL_act_562 : decode cL_act 562 = .ok (.iload 5, 2) := by decide +kernel
theorem dL_act_564 : decode cL_act 564 = .ok (.invokestatic 72, 3) := by decide +kernel
theorem dL_act_567 : decode cL_act 567 = .ok (.astore 9, 2) := by decide +kernel
theorem dL_act_569 : decode cL_act 569 = .ok (.aload 9, 2) := by decide +kernel
theorem dL_act_571 : decode cL_act 571 = .ok (.arraylength, 1) := by decide +kernel
theorem dL_act_572 : decode cL_act 572 = .ok (.iconst 5, 1) := by decide +kernel
theorem dL_act_573 : decode cL_act 573 = .ok (.if_icmp .ge 7, 3) := by decide +kernel
theorem dL_act_576 : decode cL_act 576 = .ok (.iconst 1, 1) := by decide +kernel
theorem dL_act_577 : decode cL_act 577 = .ok (.goto 4, 3) := by decide +kernel
theorem dL_act_580 : decode cL_act 580 = .ok (.iconst 0, 1) := by decide +kernel
theorem dL_act_581 : decode cL_act 581 = .ok (.istore 8, 2) := by decide +kernel
theorem dL_act_583 : decode cL_act 583 = .ok (.iload 8, 2) := by decide +kernel
theorem dL_act_585 : decode cL_act 585 = .ok (.ifCond .eq 12, 3) := by decide +kernel
theorem dL_act_588 : decode cL_act 588 = .ok (.aload_n 1, 1) := by decide +kernel
theorem dL_act_589 : decode cL_act 589 = .ok (.getfield 68, 3) := by decide +kernel
theorem dL_act_592 : decode cL_act 592 = .ok (.iload 4, 2) := by decide +kernel
theorem dL_act_594 : decode cL_act 594 = .ok (.aload 9, 2) := by decide +kernel
theorem dL_act_596 : decode cL_act 596 = .ok (.aastore, 1) := by decide +kernel
theorem dL_act_597 : decode cL_act 597 = .ok (.aload_n 0, 1) := by decide +kernel
theorem dL_act_598 : decode cL_act 598 = .ok (.iload 4, 2) := by decide +kernel
theorem dL_act_600 : decode cL_act 600 = .ok (.iload 5, 2) := by decide +kernel
theorem dL_act_602 : decode cL_act 602 = .ok (.invokevirtual 75, 3) := by decide +kernel
theorem dL_act_605 : decode cL_act 605 = .ok (.aload 9, 2) := by decide +kernel
theorem dL_act_607 : decode cL_act 607 = .ok (.arraylength, 1) := by decide +kernel
theorem dL_act_608 : decode cL_act 608 = .ok (.if_icmp .ne 12, 3) := by decide +kernel
theorem dL_act_611 : decode cL_act 611 = .ok (.iload 8, 2) := by decide +kernel
theorem dL_act_613 : decode cL_act 613 = .ok (.ifCond .eq 7, 3) := by decide +kernel
theorem dL_act_616 : decode cL_act 616 = .ok (.iconst 1, 1) := by decide +kernel
theorem dL_act_617 : decode cL_act 617 = .ok (.goto 4, 3) := by decide +kernel
theorem dL_act_620 : decode cL_act 620 = .ok (.iconst 0, 1) := by decide +kernel
theorem dL_act_621 : decode cL_act 621 = .ok (.ireturn, 1) := by decide +kernel
theorem dL_act_622 : decode cL_act 622 = .ok (.iload_n 2, 1) := by decide +kernel
theorem dL_act_623 : decode cL_act 623 = .ok (.iconst 5, 1) := by decide +kernel
theorem dL_act_624 : decode cL_act 624 = .ok (.ishr, 1) := by decide +kernel
theorem dL_act_625 : decode cL_act 625 = .ok (.bipush 6, 2) := by decide +kernel
theorem dL_act_627 : decode cL_act 627 = .ok (.invokestatic 15, 3) := by decide +kernel
theorem dL_act_630 : decode cL_act 630 = .ok (.ifCond .ne 12, 3) := by decide +kernel
theorem dL_act_633 : decode cL_act 633 = .ok (.aload_n 1, 1) := by decide +kernel
theorem dL_act_634 : decode cL_act 634 = .ok (.getfield 29, 3) := by decide +kernel
theorem dL_act_637 : decode cL_act 637 = .ok (.iconst 1, 1) := by decide +kernel
theorem dL_act_638 : decode cL_act 638 = .ok (.iadd, 1) := by decide +kernel
theorem dL_act_639 : decode cL_act 639 = .ok (.goto 5, 3) := by decide +kernel
theorem dL_act_642 : decode cL_act 642 = .ok (.iload 6, 2) := by decide +kernel
theorem dL_act_644 : decode cL_act 644 = .ok (.istore 9, 2) := by decide +kernel
theorem dL_act_646 : decode cL_act 646 = .ok (.iconst 1, 1) := by decide +kernel
theorem dL_act_647 : decode cL_act 647 = .ok (.iload_n 2, 1) := by decide +kernel
theorem dL_act_648 : decode cL_act 648 = .ok (.bipush 7, 2) := by decide +kernel
theorem dL_act_650 : decode cL_act 650 = .ok (.ishr, 1) := by decide +kernel
theorem dL_act_651 : decode cL_act 651 = .ok (.iload_n 2, 1) := by decide +kernel
theorem dL_act_652 : decode cL_act 652 = .ok (.bipush 9, 2) := by decide +kernel
theorem dL_act_654 : decode cL_act 654 = .ok (.ishr, 1) := by decide +kernel
theorem dL_act_655 : decode cL_act 655 = .ok (.iconst 3, 1) := by decide +kernel
theorem dL_act_656 : decode cL_act 656 = .ok (.invokestatic 15, 3) := by decide +kernel
theorem dL_act_659 : decode cL_act 659 = .ok (.ifCond .ne 8, 3) := by decide +kernel
theorem dL_act_662 : decode cL_act 662 = .ok (.bipush 100, 2) := by decide +kernel
theorem dL_act_664 : decode cL_act 664 = .ok (.goto 4, 3) := by decide +kernel
theorem dL_act_667 : decode cL_act 667 = .ok (.iconst 5, 1) := by decide +kernel
theorem dL_act_668 : decode cL_act 668 = .ok (.invokestatic 15, 3) := by decide +kernel
theorem dL_act_671 : decode cL_act 671 = .ok (.iadd, 1) := by decide +kernel
theorem dL_act_672 : decode cL_act 672 = .ok (.istore 10, 2) := by decide +kernel
theorem dL_act_674 : decode cL_act 674 = .ok (.aload_n 1, 1) := by decide +kernel
theorem dL_act_675 : decode cL_act 675 = .ok (.getfield 29, 3) := by decide +kernel
theorem dL_act_678 : decode cL_act 678 = .ok (.iload 10, 2) := by decide +kernel
theorem dL_act_680 : decode cL_act 680 = .ok (.iadd, 1) := by decide +kernel
theorem dL_act_681 : decode cL_act 681 = .ok (.sipush 300, 3) := by decide +kernel
theorem dL_act_684 : decode cL_act 684 = .ok (.if_icmp .gt 7, 3) := by decide +kernel
theorem dL_act_687 : decode cL_act 687 = .ok (.iconst 1, 1) := by decide +kernel
theorem dL_act_688 : decode cL_act 688 = .ok (.goto 4, 3) := by decide +kernel
theorem dL_act_691 : decode cL_act 691 = .ok (.iconst 0, 1) := by decide +kernel
theorem dL_act_692 : decode cL_act 692 = .ok (.istore 8, 2) := by decide +kernel
theorem dL_act_694 : decode cL_act 694 = .ok (.iload 8, 2) := by decide +kernel
theorem dL_act_696 : decode cL_act 696 = .ok (.ifCond .eq 11, 3) := by decide +kernel
theorem dL_act_699 : decode cL_act 699 = .ok (.aload_n 1, 1) := by decide +kernel
theorem dL_act_700 : decode cL_act 700 = .ok (.iload 9, 2) := by decide +kernel
theorem dL_act_702 : decode cL_act 702 = .ok (.iload 10, 2) := by decide +kernel
theorem dL_act_704 : decode cL_act 704 = .ok (.invokevirtual 78, 3) := by decide +kernel
theorem dL_act_707 : decode cL_act 707 = .ok (.aload_n 0, 1) := by decide +kernel
theorem dL_act_708 : decode cL_act 708 = .ok (.iload 9, 2) := by decide +kernel
theorem dL_act_710 : decode cL_act 710 = .ok (.iload 10, 2) := by decide +kernel
theorem dL_act_712 : decode cL_act 712 = .ok (.invokevirtual 82, 3) := by decide +kernel
theorem dL_act_715 : decode cL_act 715 = .ok (.aload_n 1, 1) := by decide +kernel
theorem dL_act_716 : decode cL_act 716 = .ok (.getfield 29, 3) := by decide +kernel
theorem dL_act_719 : decode cL_act 719 = .ok (.if_icmp .ne 12, 3) := by decide +kernel
theorem dL_act_722 : decode cL_act 722 = .ok (.iload 8, 2) := by decide +kernel
theorem dL_act_724 : decode cL_act 724 = .ok (.ifCond .eq 7, 3) := by decide +kernel
theorem dL_act_727 : decode cL_act 727 = .ok (.iconst 1, 1) := by decide +kernel
theorem dL_act_728 : decode cL_act 728 = .ok (.goto 4, 3) := by decide +kernel
theorem dL_act_731 : decode cL_act 731 = .ok (.iconst 0, 1) := by decide +kernel
theorem dL_act_732 : decode cL_act 732 = .ok (.ireturn, 1) := by decide +kernel
theorem dL_act_733 : decode cL_act 733 = .ok (.aload_n 1, 1) := by decide +kernel
theorem dL_act_734 : decode cL_act 734 = .ok (.getfield 29, 3) := by decide +kernel
theorem dL_act_737 : decode cL_act 737 = .ok (.iconst 1, 1) := by decide +kernel
theorem dL_act_738 : decode cL_act 738 = .ok (.if_icmp .le 7, 3) := by decide +kernel
theorem dL_act_741 : decode cL_act 741 = .ok (.iconst 1, 1) := by decide +kernel
theorem dL_act_742 : decode cL_act 742 = .ok (.goto 4, 3) := by decide +kernel
theorem dL_act_745 : decode cL_act 745 = .ok (.iconst 0, 1) := by decide +kernel
theorem dL_act_746 : decode cL_act 746 = .ok (.istore 8, 2) := by decide +kernel
theorem dL_act_748 : decode cL_act 748 = .ok (.aload_n 1, 1) := by decide +kernel
theorem dL_act_749 : decode cL_act 749 = .ok (.iload 6, 2) := by decide +kernel
theorem dL_act_751 : decode cL_act 751 = .ok (.invokevirtual 84, 3) := by decide +kernel
theorem dL_act_754 : decode cL_act 754 = .ok (.istore 9, 2) := by decide +kernel
theorem dL_act_756 : decode cL_act 756 = .ok (.iload 8, 2) := by decide +kernel
theorem dL_act_758 : decode cL_act 758 = .ok (.ifCond .eq 9, 3) := by decide +kernel
theorem dL_act_761 : decode cL_act 761 = .ok (.aload_n 1, 1) := by decide +kernel
theorem dL_act_762 : decode cL_act 762 = .ok (.iload 6, 2) := by decide +kernel
theorem dL_act_764 : decode cL_act 764 = .ok (.invokevirtual 88, 3) := by decide +kernel
theorem dL_act_767 : decode cL_act 767 = .ok (.aload_n 0, 1) := by decide +kernel
theorem dL_act_768 : decode cL_act 768 = .ok (.iload 6, 2) := by decide +kernel
theorem dL_act_770 : decode cL_act 770 = .ok (.invokevirtual 92, 3) := by decide +kernel
theorem dL_act_773 : decode cL_act 773 = .ok (.iload 9, 2) := by decide +kernel
theorem dL_act_775 : decode cL_act 775 = .ok (.if_icmp .ne 12, 3) := by decide +kernel
theorem dL_act_778 : decode cL_act 778 = .ok (.iload 8, 2) := by decide +kernel
theorem dL_act_780 : decode cL_act 780 = .ok (.ifCond .eq 7, 3) := by decide +kernel
theorem dL_act_783 : decode cL_act 783 = .ok (.iconst 1, 1) := by decide +kernel
theorem dL_act_784 : decode cL_act 784 = .ok (.goto 4, 3) := by decide +kernel
theorem dL_act_787 : decode cL_act 787 = .ok (.iconst 0, 1) := by decide +kernel
theorem dL_act_788 : decode cL_act 788 = .ok (.ireturn, 1) := by decide +kernel
theorem dL_act_789 : decode cL_act 789 = .ok (.astore 9, 2) := by decide +kernel
theorem dL_act_791 : decode cL_act 791 = .ok (.iload 8, 2) := by decide +kernel
theorem dL_act_793 : decode cL_act 793 = .ok (.ifCond .ne 7, 3) := by decide +kernel
theorem dL_act_796 : decode cL_act 796 = .ok (.iconst 1, 1) := by decide +kernel
theorem dL_act_797 : decode cL_act 797 = .ok (.goto 4, 3) := by decide +kernel
theorem dL_act_800 : decode cL_act 800 = .ok (.iconst 0, 1) := by decide +kernel
theorem dL_act_801 : decode cL_act 801 = .ok (.ireturn, 1) := by decide +kernel
theorem dL_build_0 : decode cL_build 0 = .ok (.new 10, 3) := by decide +kernel
theorem dL_build_3 : decode cL_build 3 = .ok (.dup, 1) := by decide +kernel
theorem dL_build_4 : decode cL_build 4 = .ok (.invokespecial 96, 3) := by decide +kernel
theorem dL_build_7 : decode cL_build 7 = .ok (.astore_n 2, 1) := by decide +kernel
theorem dL_build_8 : decode cL_build 8 = .ok (.iconst 2, 1) := by decide +kernel
theorem dL_build_9 : decode cL_build 9 = .ok (.aload_n 1, 1) := by decide +kernel
theorem dL_build_10 : decode cL_build 10 = .ok (.iconst 0, 1) := by decide +kernel
theorem dL_build_11 : decode cL_build 11 = .ok (.invokestatic 97, 3) := by decide +kernel
theorem dL_build_14 : decode cL_build 14 = .ok (.bipush 9, 2) := by decide +kernel
theorem dL_build_16 : decode cL_build 16 = .ok (.invokestatic 15, 3) := by decide +kernel
theorem dL_build_19 : decode cL_build 19 = .ok (.iadd, 1) := by decide +kernel
theorem dL_build_20 : decode cL_build 20 = .ok (.istore_n 3, 1) := by decide +kernel
theorem dL_build_21 : decode cL_build 21 = .ok (.iconst 0, 1) := by decide +kernel
theorem dL_build_22 : decode cL_build 22 = .ok (.istore 4, 2) := by decide +kernel
theorem dL_build_24 : decode cL_build 24 = .ok (.iload 4, 2) := by decide +kernel
theorem dL_build_26 : decode cL_build 26 = .ok (.iload_n 3, 1) := by decide +kernel
theorem dL_build_27 : decode cL_build 27 = .ok (.if_icmp .ge 24, 3) := by decide +kernel
theorem dL_build_30 : decode cL_build 30 = .ok (.aload_n 2, 1) := by decide +kernel
theorem dL_build_31 : decode cL_build 31 = .ok (.invokevirtual 21, 3) := by decide +kernel
theorem dL_build_34 : decode cL_build 34 = .ok (.aload_n 0, 1) := by decide +kernel
theorem dL_build_35 : decode cL_build 35 = .ok (.invokevirtual 24, 3) := by decide +kernel
theorem dL_build_38 : decode cL_build 38 = .ok (.iload 4, 2) := by decide +kernel
theorem dL_build_40 : decode cL_build 40 = .ok (.if_icmp .eq 5, 3) := by decide +kernel
theorem dL_build_43 : decode cL_build 43 = .ok (.aconst_null, 1) := by decide +kernel
theorem dL_build_44 : decode cL_build 44 = .ok (.areturn, 1) := by decide +kernel
theorem dL_build_45 : decode cL_build 45 = .ok (.iinc 4 1, 3) := by decide +kernel
theorem dL_build_48 : decode cL_build 48 = .ok (.goto (-24), 3) := by decide +kernel
theorem dL_build_51 : decode cL_build 51 = .ok (.iconst 0, 1) := by decide +kernel
theorem dL_build_52 : decode cL_build 52 = .ok (.istore 4, 2) := by decide +kernel
theorem dL_build_54 : decode cL_build 54 = .ok (.iload 4, 2) := by decide +kernel
theorem dL_build_56 : decode cL_build 56 = .ok (.bipush 8, 2) := by decide +kernel
theorem dL_build_58 : decode cL_build 58 = .ok (.aload_n 1, 1) := by decide +kernel
theorem dL_build_59 : decode cL_build 59 = .ok (.iconst 0, 1) := by decide +kernel
theorem dL_build_60 : decode cL_build 60 = .ok (.invokestatic 97, 3) := by decide +kernel
theorem dL_build_63 : decode cL_build 63 = .ok (.iconst 4, 1) := by decide +kernel
theorem dL_build_64 : decode cL_build 64 = .ok (.ishr, 1) := by decide +kernel
theorem dL_build_65 : decode cL_build 65 = .ok (.bipush 16, 2) := by decide +kernel
theorem dL_build_67 : decode cL_build 67 = .ok (.invokestatic 15, 3) := by decide +kernel
theorem dL_build_70 : decode cL_build 70 = .ok (.iadd, 1) := by decide +kernel
theorem dL_build_71 : decode cL_build 71 = .ok (.if_icmp .ge 44, 3) := by decide +kernel
theorem dL_build_74 : decode cL_build 74 = .ok (.aload_n 0, 1) := by decide +kernel
theorem dL_build_75 : decode cL_build 75 = .ok (.aload_n 2, 1) := by decide +kernel
theorem dL_build_76 : decode cL_build 76 = .ok (.aload_n 1, 1) := by decide +kernel
theorem dL_build_77 : decode cL_build 77 = .ok (.iconst 1, 1) := by decide +kernel
theorem dL_build_78 : decode cL_build 78 = .ok (.iload 4, 2) := by decide +kernel
theorem dL_build_80 : decode cL_build 80 = .ok (.bipush 15, 2) := by decide +kernel
theorem dL_build_82 : decode cL_build 82 = .ok (.irem, 1) := by decide +kernel
theorem dL_build_83 : decode cL_build 83 = .ok (.iadd, 1) := by decide +kernel
theorem dL_build_84 : decode cL_build 84 = .ok (.invokestatic 97, 3) := by decide +kernel
theorem dL_build_87 : decode cL_build 87 = .ok (.iload 4, 2) := by decide +kernel
theorem dL_build_89 : decode cL_build 89 = .ok (.bipush 15, 2) := by decide +kernel
theorem dL_build_91 : decode cL_build 91 = .ok (.idiv, 1) := by decide +kernel
theorem dL_build_92 : decode cL_build 92 = .ok (.iconst 3, 1) := by decide +kernel
theorem dL_build_93 : decode cL_build 93 = .ok (.imul, 1) := by decide +kernel
theorem dL_build_94 : decode cL_build 94 = .ok (.ishr, 1) := by decide +kernel
theorem dL_build_95 : decode cL_build 95 = .ok (.bipush 41, 2) := by decide +kernel
theorem dL_build_97 : decode cL_build 97 = .ok (.iload 4, 2) := by decide +kernel
theorem dL_build_99 : decode cL_build 99 = .ok (.imul, 1) := by decide +kernel
theorem dL_build_100 : decode cL_build 100 = .ok (.iadd, 1) := by decide +kernel
theorem dL_build_101 : decode cL_build 101 = .ok (.invokestatic 101, 3) := by decide +kernel
theorem dL_build_104 : decode cL_build 104 = .ok (.ifCond .ne 5, 3) := by decide +kernel
theorem dL_build_107 : decode cL_build 107 = .ok (.aconst_null, 1) := by decide +kernel
theorem dL_build_108 : decode cL_build 108 = .ok (.areturn, 1) := by decide +kernel
theorem dL_build_109 : decode cL_build 109 = .ok (.iinc 4 1, 3) := by decide +kernel
theorem dL_build_112 : decode cL_build 112 = .ok (.goto (-58), 3) := by decide +kernel
theorem dL_build_115 : decode cL_build 115 = .ok (.aload_n 2, 1) := by decide +kernel
theorem dL_build_116 : decode cL_build 116 = .ok (.areturn, 1) := by decide +kernel
theorem dL_law_0 : decode cL_law 0 = .ok (.new 25, 3) := by decide +kernel
theorem dL_law_3 : decode cL_law 3 = .ok (.dup, 1) := by decide +kernel
theorem dL_law_4 : decode cL_law 4 = .ok (.invokespecial 105, 3) := by decide +kernel
theorem dL_law_7 : decode cL_law 7 = .ok (.astore_n 1, 1) := by decide +kernel
theorem dL_law_8 : decode cL_law 8 = .ok (.aload_n 1, 1) := by decide +kernel
theorem dL_law_9 : decode cL_law 9 = .ok (.aload_n 0, 1) := by decide +kernel
theorem dL_law_10 : decode cL_law 10 = .ok (.invokestatic 106, 3) := by decide +kernel
theorem dL_law_13 : decode cL_law 13 = .ok (.astore_n 2, 1) := by decide +kernel
theorem dL_law_14 : decode cL_law 14 = .ok (.aload_n 2, 1) := by decide +kernel
theorem dL_law_15 : decode cL_law 15 = .ok (.ifnonnull 5, 3) := by decide +kernel
theorem dL_law_18 : decode cL_law 18 = .ok (.iconst 0, 1) := by decide +kernel
theorem dL_law_19 : decode cL_law 19 = .ok (.ireturn, 1) := by decide +kernel
theorem dL_law_20 : decode cL_law 20 = .ok (.iconst 0, 1) := by decide +kernel
theorem dL_law_21 : decode cL_law 21 = .ok (.istore_n 3, 1) := by decide +kernel
theorem dL_law_22 : decode cL_law 22 = .ok (.iload_n 3, 1) := by decide +kernel
theorem dL_law_23 : decode cL_law 23 = .ok (.bipush 6, 2) := by decide +kernel
theorem dL_law_25 : decode cL_law 25 = .ok (.if_icmp .ge 1316, 3) := by decide +kernel
theorem dL_law_28 : decode cL_law 28 = .ok (.aload_n 0, 1) := by decide +kernel
theorem dL_law_29 : decode cL_law 29 = .ok (.iload_n 3, 1) := by decide +kernel
theorem dL_law_30 : decode cL_law 30 = .ok (.iconst 1, 1) := by decide +kernel
theorem dL_law_31 : decode cL_law 31 = .ok (.iadd, 1) := by decide +kernel
theorem dL_law_32 : decode cL_law 32 = .ok (.invokestatic 97, 3) := by decide +kernel
theorem dL_law_35 : decode cL_law 35 = .ok (.iconst 2, 1) := by decide +kernel
theorem dL_law_36 : decode cL_law 36 = .ok (.ishr, 1) := by decide +kernel
theorem dL_law_37 : decode cL_law 37 = .ok (.bipush 53, 2) := by decide +kernel
theorem dL_law_39 : decode cL_law 39 = .ok (.iload_n 3, 1) := by decide +kernel
theorem dL_law_40 : decode cL_law 40 = .ok (.imul, 1) := by decide +kernel
theorem dL_law_41 : decode cL_law 41 = .ok (.iadd, 1) := by decide +kernel
theorem dL_law_42 : decode cL_law 42 = .ok (.istore 4, 2) := by decide +kernel
theorem dL_law_44 : decode cL_law 44 = .ok (.iconst 0, 1) := by decide +kernel
theorem dL_law_45 : decode cL_law 45 = .ok (.istore 5, 2) := by decide +kernel
theorem dL_law_47 : decode cL_law 47 = .ok (.iload 5, 2) := by decide +kernel
theorem dL_law_49 : decode cL_law 49 = .ok (.iconst 3, 1) := by decide +kernel
theorem dL_law_50 : decode cL_law 50 = .ok (.if_icmp .ge 32, 3) := by decide +kernel
theorem dL_law_53 : decode cL_law 53 = .ok (.aload_n 1, 1) := by decide +kernel
theorem dL_law_54 : decode cL_law 54 = .ok (.aload_n 2, 1) := by decide +kernel
theorem dL_law_55 : decode cL_law 55 = .ok (.iload 4, 2) := by decide +kernel
theorem dL_law_57 : decode cL_law 57 = .ok (.iconst 3, 1) := by decide +kernel
theorem dL_law_58 : decode cL_law 58 = .ok (.iload 5, 2) := by decide +kernel
theorem dL_law_60 : decode cL_law 60 = .ok (.imul, 1) := by decide +kernel
theorem dL_law_61 : decode cL_law 61 = .ok (.ishr, 1) := by decide +kernel
theorem dL_law_62 : decode cL_law 62 = .ok (.bipush 29, 2) := by decide +kernel
theorem dL_law_64 : decode cL_law 64 = .ok (.iload 5, 2) := by decide +kernel
theorem dL_law_66 : decode cL_law 66 = .ok (.imul, 1) := by decide +kernel
theorem dL_law_67 : decode cL_law 67 = .ok (.iadd, 1) := by decide +kernel
theorem dL_law_68 : decode cL_law 68 = .ok (.invokestatic 101, 3) := by decide +kernel
theorem dL_law_71 : decode cL_law 71 = .ok (.ifCond .ne 5, 3) := by decide +kernel
theorem dL_law_74 : decode cL_law 74 = .ok (.iconst 0, 1) := by decide +kernel
theorem dL_law_75 : decode cL_law 75 = .ok (.ireturn, 1) := by decide +kernel
theorem dL_law_76 : decode cL_law 76 = .ok (.iinc 5 1, 3) := by decide +kernel
theorem dL_law_79 : decode cL_law 79 = .ok (.goto (-32), 3) := by decide +kernel
theorem dL_law_82 : decode cL_law 82 = .ok (.aload_n 1, 1) := by decide +kernel
theorem dL_law_83 : decode cL_law 83 = .ok (.invokevirtual 110, 3) := by decide +kernel
theorem dL_law_86 : decode cL_law 86 = .ok (.lstore 5, 2) := by decide +kernel
theorem dL_law_88 : decode cL_law 88 = .ok (.aload_n 1, 1) := by decide +kernel
theorem dL_law_89 : decode cL_law 89 = .ok (.invokevirtual 114, 3) := by decide +kernel
theorem dL_law_92 : decode cL_law 92 = .ok (.istore 7, 2) := by decide +kernel
theorem dL_law_94 : decode cL_law 94 = .ok (.aload_n 1, 1) := by decide +kernel
theorem dL_law_95 : decode cL_law 95 = .ok (.invokevirtual 117, 3) := by decide +kernel
theorem dL_law_98 : decode cL_law 98 = .ok (.istore 8, 2) := by decide +kernel
theorem dL_law_100 : decode cL_law 100 = .ok (.iconst 0, 1) := by decide +kernel
theorem dL_law_101 : decode cL_law 101 = .ok (.istore 9, 2) := by decide +kernel
theorem dL_law_103 : decode cL_law 103 = .ok (.iconst 0, 1) := by decide +kernel
theorem dL_law_104 : decode cL_law 104 = .ok (.istore 10, 2) := by decide +kernel
theorem dL_law_106 : decode cL_law 106 = .ok (.iconst 0, 1) := by decide +kernel
theorem dL_law_107 : decode cL_law 107 = .ok (.istore 11, 2) := by decide +kernel
theorem dL_law_109 : decode cL_law 109 = .ok (.iconst 0, 1) := by decide +kernel
theorem dL_law_110 : decode cL_law 110 = .ok (.istore 12, 2) := by decide +kernel
theorem dL_law_112 : decode cL_law 112 = .ok (.iload 12, 2) := by decide +kernel
theorem dL_law_114 : decode cL_law 114 = .ok (.iload 7, 2) := by decide +kernel
theorem dL_law_116 : decode cL_law 116 = .ok (.if_icmp .ge 286, 3) := by decide +kernel
theorem dL_law_119 : decode cL_law 119 = .ok (.iconst 0, 1) := by decide +kernel
theorem dL_law_120 : decode cL_law 120 = .ok (.istore 13, 2) := by decide +kernel
theorem dL_law_122 : decode cL_law 122 = .ok (.iconst (-1), 1) := by decide +kernel
theorem dL_law_123 : decode cL_law 123 = .ok (.istore 14, 2) := by decide +kernel
theorem dL_law_125 : decode cL_law 125 = .ok (.iconst 0, 1) := by decide +kernel
theorem dL_law_126 : decode cL_law 126 = .ok (.istore 15, 2) := by decide +kernel
theorem dL_law_128 : decode cL_law 128 = .ok (.iload 15, 2) := by decide +kernel
theorem dL_law_130 : decode cL_law 130 = .ok (.aload_n 1, 1) := by decide +kernel
theorem dL_law_131 : decode cL_law 131 = .ok (.iload 12, 2) := by decide +kernel
theorem dL_law_133 : decode cL_law 133 = .ok (.invokevirtual 120, 3) := by decide +kernel
theorem dL_law_136 : decode cL_law 136 = .ok (.if_icmp .ge 142, 3) := by decide +kernel
theorem dL_law_139 : decode cL_law 139 = .ok (.aload_n 1, 1) := by decide +kernel
theorem dL_law_140 : decode cL_law 140 = .ok (.iload 12, 2) := by decide +kernel
theorem dL_law_142 : decode cL_law 142 = .ok (.iload 15, 2) := by decide +kernel
theorem dL_law_144 : decode cL_law 144 = .ok (.invokevirtual 123, 3) := by decide +kernel
theorem dL_law_147 : decode cL_law 147 = .ok (.istore 16, 2) := by decide +kernel
theorem dL_law_149 : decode cL_law 149 = .ok (.aload_n 1, 1) := by decide +kernel
theorem dL_law_150 : decode cL_law 150 = .ok (.iload 12, 2) := by decide +kernel
theorem dL_law_152 : decode cL_law 152 = .ok (.iload 15, 2) := by decide +kernel
theorem dL_law_154 : decode cL_law 154 = .ok (.invokevirtual 126, 3) := by decide +kernel
theorem dL_law_157 : decode cL_law 157 = .ok (.istore 17, 2) := by decide +kernel
theorem dL_law_159 : decode cL_law 159 = .ok (.iload 13, 2) := by decide +kernel
theorem dL_law_161 : decode cL_law 161 = .ok (.iload 17, 2) := by decide +kernel
theorem dL_law_163 : decode cL_law 163 = .ok (.iload 16, 2) := by decide +kernel
theorem dL_law_165 : decode cL_law 165 = .ok (.isub, 1) := by decide +kernel
theorem dL_law_166 : decode cL_law 166 = .ok (.iconst 1, 1) := by decide +kernel
theorem dL_law_167 : decode cL_law 167 = .ok (.iadd, 1) := by decide +kernel
theorem dL_law_168 : decode cL_law 168 = .ok (.iadd, 1) := by decide +kernel
theorem dL_law_169 : decode cL_law 169 = .ok (.istore 13, 2) := by decide +kernel
theorem dL_law_171 : decode cL_law 171 = .ok (.iload 16, 2) := by decide +kernel
theorem dL_law_173 : decode cL_law 173 = .ok (.iload 17, 2) := by decide +kernel
theorem dL_law_175 : decode cL_law 175 = .ok (.if_icmp .gt 91, 3) := by decide +kernel
theorem dL_law_178 : decode cL_law 178 = .ok (.iload 16, 2) := by decide +kernel
theorem dL_law_180 : decode cL_law 180 = .ok (.iconst 1, 1) := by decide +kernel
theorem dL_law_181 : decode cL_law 181 = .ok (.if_icmp .lt 85, 3) := by decide +kernel
theorem dL_law_184 : decode cL_law 184 = .ok (.iload 17, 2) := by decide +kernel
theorem dL_law_186 : decode cL_law 186 = .ok (.iload 8, 2) := by decide +kernel
theorem dL_law_188 : decode cL_law 188 = .ok (.if_icmp .gt 78, 3) := by decide +kernel
theorem dL_law_191 : decode cL_law 191 = .ok (.iload 14, 2) := by decide +kernel
theorem dL_law_193 : decode cL_law 193 = .ok (.ifCond .le 12, 3) := by decide +kernel
theorem dL_law_196 : decode cL_law 196 = .ok (.iload 16, 2) := by decide +kernel
theorem dL_law_198 : decode cL_law 198 = .ok (.iload 14, 2) := by decide +kernel
theorem dL_law_200 : decode cL_law 200 = .ok (.iconst 2, 1) := by decide +kernel
theorem dL_law_201 : decode cL_law 201 = .ok (.iadd, 1) := by decide +kernel
theorem dL_law_202 : decode cL_law 202 = .ok (.if_icmp .lt 64, 3) := by decide +kernel
theorem dL_law_205 : decode cL_law 205 = .ok (.aload_n 1, 1) := by decide +kernel
theorem dL_law_206 : decode cL_law 206 = .ok (.iload 12, 2) := by decide +kernel
theorem dL_law_208 : decode cL_law 208 = .ok (.iload 16, 2) := by decide +kernel
