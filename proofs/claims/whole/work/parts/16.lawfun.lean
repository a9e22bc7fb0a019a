/-! the law after its two constructors -/
theorem rf_xald2 {α : Type} {X : Xt} {S : Sh} {em : α → Option Value × Mm} {x : Option α} {d mi pc a : Nat} {loc st : List Value} {σ : Mm} {i : Int32} (ha : a = 1000009) (hcd : cd mi pc = some (.iaload, 1)) (hb : inbB i X.1 = true) (kk : Rf X S em x d mi (pc + 1) loc (.int (X.2 (ix i)) :: st) σ) : Rf X S em x d mi pc loc (.int i :: .ref a :: st) σ := by
  subst ha
  exact rf_xald hcd hb kk
theorem rf_alen2 {α : Type} {X : Xt} {S : Sh} {em : α → Option Value × Mm} {x : Option α} {d mi pc a : Nat} {loc st : List Value} {σ : Mm} (ha : a = 1000009) (hcd : cd mi pc = some (.arraylength, 1)) (kk : Rf X S em x d mi (pc + 1) loc (.int (Int32.ofNat X.1) :: st) σ) : Rf X S em x d mi pc loc (.ref a :: st) σ := by
  subst ha
  exact rf_alen hcd kk
theorem ki_6 : Int32.ofInt (6) = (6 : Int32) := by decide
theorem ml_13_13 : ml 13 13 = some (118, 1, 0) := by decide +kernel
theorem ml_13_17 : ml 13 17 = some (202, 1, 0) := by decide +kernel
theorem ml_13_18 : ml 13 18 = some (119, 3, 0) := by decide +kernel
theorem ml_13_22 : ml 13 22 = some (204, 3, 0) := by decide +kernel
theorem ml_13_23 : ml 13 23 = some (120, 3, 0) := by decide +kernel
theorem ml_13_26 : ml 13 26 = some (205, 3, 0) := by decide +kernel
theorem ml_13_27 : ml 13 27 = some (121, 1, 0) := by decide +kernel
theorem ml_13_30 : ml 13 30 = some (206, 1, 0) := by decide +kernel
theorem ml_13_31 : ml 13 31 = some (122, 4, 0) := by decide +kernel
theorem ml_13_35 : ml 13 35 = some (207, 4, 0) := by decide +kernel
theorem ml_13_36 : ml 13 36 = some (123, 3, 0) := by decide +kernel
theorem ml_13_39 : ml 13 39 = some (208, 3, 0) := by decide +kernel
theorem ml_13_40 : ml 13 40 = some (124, 3, 0) := by decide +kernel
theorem ml_13_43 : ml 13 43 = some (210, 3, 0) := by decide +kernel
theorem ml_13_44 : ml 13 44 = some (125, 4, 0) := by decide +kernel
theorem ml_13_47 : ml 13 47 = some (211, 4, 0) := by decide +kernel
theorem ml_13_48 : ml 13 48 = some (126, 5, 0) := by decide +kernel
theorem ml_13_52 : ml 13 52 = some (215, 5, 0) := by decide +kernel
theorem ml_13_53 : ml 13 53 = some (127, 6, 0) := by decide +kernel
theorem ml_13_57 : ml 13 57 = some (222, 6, 0) := by decide +kernel
theorem ml_13_58 : ml 13 58 = some (128, 3, 0) := by decide +kernel
theorem ml_13_61 : ml 13 61 = some (223, 3, 0) := by decide +kernel
theorem ml_13_62 : ml 13 62 = some (129, 3, 0) := by decide +kernel
theorem ml_13_65 : ml 13 65 = some (224, 3, 0) := by decide +kernel
theorem ml_13_66 : ml 13 66 = some (130, 2, 0) := by decide +kernel
theorem ml_13_70 : ml 13 70 = some (225, 2, 0) := by decide +kernel
theorem ml_13_71 : ml 13 71 = some (131, 2, 0) := by decide +kernel
theorem ml_13_74 : ml 13 74 = some (227, 2, 0) := by decide +kernel
theorem ml_13_75 : ml 13 75 = some (132, 4, 0) := by decide +kernel
theorem ml_13_78 : ml 13 78 = some (228, 4, 0) := by decide +kernel
theorem ml_13_79 : ml 13 79 = some (133, 4, 0) := by decide +kernel
theorem ml_13_82 : ml 13 82 = some (229, 4, 0) := by decide +kernel
theorem ml_13_83 : ml 13 83 = some (134, 2, 0) := by decide +kernel
theorem ml_13_86 : ml 13 86 = some (230, 2, 0) := by decide +kernel
theorem ml_13_87 : ml 13 87 = some (135, 2, 0) := by decide +kernel
theorem ml_13_90 : ml 13 90 = some (249, 2, 0) := by decide +kernel
theorem ml_13_91 : ml 13 91 = some (136, 3, 0) := by decide +kernel
theorem ml_13_94 : ml 13 94 = some (251, 3, 0) := by decide +kernel
theorem ml_13_95 : ml 13 95 = some (137, 3, 0) := by decide +kernel
theorem ml_13_98 : ml 13 98 = some (256, 3, 0) := by decide +kernel
theorem ml_13_99 : ml 13 99 = some (138, 3, 0) := by decide +kernel
theorem ml_13_102 : ml 13 102 = some (260, 3, 0) := by decide +kernel
theorem ml_13_103 : ml 13 103 = some (139, 3, 0) := by decide +kernel
theorem ml_13_106 : ml 13 106 = some (261, 3, 0) := by decide +kernel
theorem ml_13_107 : ml 13 107 = some (140, 3, 0) := by decide +kernel
theorem ml_13_110 : ml 13 110 = some (262, 3, 0) := by decide +kernel
theorem ml_13_111 : ml 13 111 = some (141, 3, 0) := by decide +kernel
theorem ml_13_114 : ml 13 114 = some (264, 3, 0) := by decide +kernel
theorem ml_13_115 : ml 13 115 = some (142, 4, 0) := by decide +kernel
theorem ml_13_118 : ml 13 118 = some (267, 4, 0) := by decide +kernel
theorem ml_13_119 : ml 13 119 = some (143, 4, 0) := by decide +kernel
theorem ml_13_122 : ml 13 122 = some (272, 4, 0) := by decide +kernel
theorem ml_13_123 : ml 13 123 = some (144, 3, 0) := by decide +kernel
theorem ml_13_126 : ml 13 126 = some (275, 3, 0) := by decide +kernel
theorem ml_13_127 : ml 13 127 = some (145, 2, 0) := by decide +kernel
theorem ml_13_130 : ml 13 130 = some (278, 2, 0) := by decide +kernel
theorem ml_13_131 : ml 13 131 = some (146, 2, 0) := by decide +kernel
theorem ml_13_134 : ml 13 134 = some (277, 2, 0) := by decide +kernel
theorem ml_13_135 : ml 13 135 = some (147, 3, 0) := by decide +kernel
theorem ml_13_138 : ml 13 138 = some (280, 3, 0) := by decide +kernel
theorem ml_13_139 : ml 13 139 = some (148, 3, 0) := by decide +kernel
theorem ml_13_142 : ml 13 142 = some (281, 3, 0) := by decide +kernel
theorem ml_13_143 : ml 13 143 = some (149, 2, 0) := by decide +kernel
theorem ml_13_146 : ml 13 146 = some (282, 2, 0) := by decide +kernel
theorem ml_13_147 : ml 13 147 = some (150, 3, 0) := by decide +kernel
theorem ml_13_150 : ml 13 150 = some (283, 3, 0) := by decide +kernel
theorem ml_13_151 : ml 13 151 = some (151, 2, 0) := by decide +kernel
theorem ml_13_154 : ml 13 154 = some (284, 2, 0) := by decide +kernel
theorem ml_13_155 : ml 13 155 = some (152, 2, 0) := by decide +kernel
theorem ml_13_158 : ml 13 158 = some (287, 2, 0) := by decide +kernel
theorem ml_13_159 : ml 13 159 = some (153, 2, 0) := by decide +kernel
theorem ml_13_162 : ml 13 162 = some (288, 2, 0) := by decide +kernel
theorem ml_13_163 : ml 13 163 = some (154, 4, 0) := by decide +kernel
theorem ml_13_166 : ml 13 166 = some (290, 4, 0) := by decide +kernel
theorem ml_13_167 : ml 13 167 = some (155, 2, 0) := by decide +kernel
theorem ml_13_170 : ml 13 170 = some (291, 2, 0) := by decide +kernel
theorem ml_13_171 : ml 13 171 = some (156, 2, 0) := by decide +kernel
theorem ml_13_174 : ml 13 174 = some (292, 2, 0) := by decide +kernel
theorem ml_13_175 : ml 13 175 = some (157, 4, 0) := by decide +kernel
theorem ml_13_178 : ml 13 178 = some (296, 4, 0) := by decide +kernel
theorem ml_13_179 : ml 13 179 = some (158, 4, 0) := by decide +kernel
theorem ml_13_182 : ml 13 182 = some (298, 4, 0) := by decide +kernel
theorem ml_13_183 : ml 13 183 = some (159, 3, 0) := by decide +kernel
theorem ml_13_186 : ml 13 186 = some (300, 3, 0) := by decide +kernel
theorem ml_13_187 : ml 13 187 = some (160, 1, 0) := by decide +kernel
theorem ml_13_190 : ml 13 190 = some (302, 1, 0) := by decide +kernel
theorem ml_13_191 : ml 13 191 = some (161, 2, 0) := by decide +kernel
theorem ml_13_194 : ml 13 194 = some (303, 2, 0) := by decide +kernel
theorem ml_13_195 : ml 13 195 = some (162, 1, 0) := by decide +kernel
theorem ml_13_198 : ml 13 198 = some (304, 1, 0) := by decide +kernel
theorem ml_13_199 : ml 13 199 = some (163, 4, 0) := by decide +kernel
theorem ml_13_202 : ml 13 202 = some (306, 4, 0) := by decide +kernel
theorem ml_13_203 : ml 13 203 = some (164, 4, 0) := by decide +kernel
theorem ml_13_206 : ml 13 206 = some (307, 4, 0) := by decide +kernel
theorem ml_13_207 : ml 13 207 = some (165, 6, 0) := by decide +kernel
theorem ml_13_210 : ml 13 210 = some (308, 6, 0) := by decide +kernel
theorem ml_13_211 : ml 13 211 = some (166, 4, 0) := by decide +kernel
theorem ml_13_214 : ml 13 214 = some (310, 4, 0) := by decide +kernel
theorem ml_13_215 : ml 13 215 = some (167, 3, 0) := by decide +kernel
theorem ml_13_218 : ml 13 218 = some (312, 3, 0) := by decide +kernel
theorem ml_13_219 : ml 13 219 = some (168, 3, 0) := by decide +kernel
theorem ml_13_222 : ml 13 222 = some (313, 3, 0) := by decide +kernel
theorem ml_13_223 : ml 13 223 = some (169, 3, 0) := by decide +kernel
theorem ml_13_226 : ml 13 226 = some (314, 3, 0) := by decide +kernel
theorem ml_13_227 : ml 13 227 = some (170, 2, 0) := by decide +kernel
theorem ml_13_230 : ml 13 230 = some (315, 2, 0) := by decide +kernel
theorem ml_13_231 : ml 13 231 = some (171, 2, 0) := by decide +kernel
theorem ml_13_234 : ml 13 234 = some (316, 2, 0) := by decide +kernel
theorem ml_13_235 : ml 13 235 = some (172, 1, 0) := by decide +kernel
theorem ml_13_238 : ml 13 238 = some (317, 1, 0) := by decide +kernel
theorem ml_13_239 : ml 13 239 = some (173, 1, 0) := by decide +kernel
theorem ml_13_242 : ml 13 242 = some (318, 1, 0) := by decide +kernel
theorem ml_13_243 : ml 13 243 = some (174, 2, 0) := by decide +kernel
theorem ml_13_246 : ml 13 246 = some (321, 2, 0) := by decide +kernel
theorem c_325_18 : cd 325 18 = some (.iload_n 3, 1) := by decide +kernel
theorem c_325_19 : cd 325 19 = some (.aload_n 0, 1) := by decide +kernel
theorem c_325_20 : cd 325 20 = some (.arraylength, 1) := by decide +kernel
theorem c_325_21 : cd 325 21 = some (.bipush (6), 2) := by decide +kernel
theorem c_325_23 : cd 325 23 = some (.isub, 1) := by decide +kernel
theorem c_325_24 : cd 325 24 = some (.if_icmp .gt (2059), 3) := by decide +kernel
theorem c_325_27 : cd 325 27 = some (.aload_n 0, 1) := by decide +kernel
theorem c_325_28 : cd 325 28 = some (.iload_n 3, 1) := by decide +kernel
theorem c_325_29 : cd 325 29 = some (.iaload, 1) := by decide +kernel
theorem c_325_30 : cd 325 30 = some (.bipush (63), 2) := by decide +kernel
theorem c_325_32 : cd 325 32 = some (.iand, 1) := by decide +kernel
theorem c_325_33 : cd 325 33 = some (.tableswitch (2044) (0) (56) #[243, 256, 289, 322, 335, 378, 411, 444, 487, 540, 603, 636, 669, 692, 715, 758, 801, 824, 847, 880, 913, 946, 979, 1012, 1045, 1088, 1131, 1164, 1187, 1210, 1243, 1276, 1299, 1332, 1355, 1378, 1401, 1444, 1467, 1490, 1533, 1576, 1609, 1622, 1645, 1658, 1701, 1744, 1807, 1850, 1883, 1916, 1949, 1972, 1995, 2008, 2021], 243) := by decide +kernel
theorem c_325_276 : cd 325 276 = some (.aload_n 1, 1) := by decide +kernel
theorem c_325_277 : cd 325 277 = some (.invokevirtual 13, 3) := by decide +kernel
theorem c_325_280 : cd 325 280 = some (.aload_n 2, 1) := by decide +kernel
theorem c_325_281 : cd 325 281 = some (.invokevirtual 17, 3) := by decide +kernel
theorem c_325_284 : cd 325 284 = some (.if_icmp .eq (1793), 3) := by decide +kernel
theorem c_325_287 : cd 325 287 = some (.iconst (0), 1) := by decide +kernel
theorem c_325_288 : cd 325 288 = some (.ireturn, 1) := by decide +kernel
theorem c_325_289 : cd 325 289 = some (.aload_n 1, 1) := by decide +kernel
theorem c_325_290 : cd 325 290 = some (.aload_n 0, 1) := by decide +kernel
theorem c_325_291 : cd 325 291 = some (.iload_n 3, 1) := by decide +kernel
theorem c_325_292 : cd 325 292 = some (.iconst (1), 1) := by decide +kernel
theorem c_325_293 : cd 325 293 = some (.iadd, 1) := by decide +kernel
theorem c_325_294 : cd 325 294 = some (.iaload, 1) := by decide +kernel
theorem c_325_295 : cd 325 295 = some (.aload_n 0, 1) := by decide +kernel
theorem c_325_296 : cd 325 296 = some (.iload_n 3, 1) := by decide +kernel
theorem c_325_297 : cd 325 297 = some (.iconst (2), 1) := by decide +kernel
theorem c_325_298 : cd 325 298 = some (.iadd, 1) := by decide +kernel
theorem c_325_299 : cd 325 299 = some (.iaload, 1) := by decide +kernel
theorem c_325_300 : cd 325 300 = some (.invokevirtual 18, 3) := by decide +kernel
theorem c_325_303 : cd 325 303 = some (.aload_n 2, 1) := by decide +kernel
theorem c_325_304 : cd 325 304 = some (.aload_n 0, 1) := by decide +kernel
theorem c_325_305 : cd 325 305 = some (.iload_n 3, 1) := by decide +kernel
theorem c_325_306 : cd 325 306 = some (.iconst (1), 1) := by decide +kernel
theorem c_325_307 : cd 325 307 = some (.iadd, 1) := by decide +kernel
theorem c_325_308 : cd 325 308 = some (.iaload, 1) := by decide +kernel
theorem c_325_309 : cd 325 309 = some (.aload_n 0, 1) := by decide +kernel
theorem c_325_310 : cd 325 310 = some (.iload_n 3, 1) := by decide +kernel
theorem c_325_311 : cd 325 311 = some (.iconst (2), 1) := by decide +kernel
theorem c_325_312 : cd 325 312 = some (.iadd, 1) := by decide +kernel
theorem c_325_313 : cd 325 313 = some (.iaload, 1) := by decide +kernel
theorem c_325_314 : cd 325 314 = some (.invokevirtual 22, 3) := by decide +kernel
theorem c_325_317 : cd 325 317 = some (.if_icmp .eq (1760), 3) := by decide +kernel
theorem c_325_320 : cd 325 320 = some (.iconst (0), 1) := by decide +kernel
theorem c_325_321 : cd 325 321 = some (.ireturn, 1) := by decide +kernel
theorem c_325_322 : cd 325 322 = some (.aload_n 1, 1) := by decide +kernel
theorem c_325_323 : cd 325 323 = some (.aload_n 0, 1) := by decide +kernel
theorem c_325_324 : cd 325 324 = some (.iload_n 3, 1) := by decide +kernel
theorem c_325_325 : cd 325 325 = some (.iconst (1), 1) := by decide +kernel
theorem c_325_326 : cd 325 326 = some (.iadd, 1) := by decide +kernel
theorem c_325_327 : cd 325 327 = some (.iaload, 1) := by decide +kernel
theorem c_325_328 : cd 325 328 = some (.aload_n 0, 1) := by decide +kernel
theorem c_325_329 : cd 325 329 = some (.iload_n 3, 1) := by decide +kernel
theorem c_325_330 : cd 325 330 = some (.iconst (2), 1) := by decide +kernel
theorem c_325_331 : cd 325 331 = some (.iadd, 1) := by decide +kernel
theorem c_325_332 : cd 325 332 = some (.iaload, 1) := by decide +kernel
theorem c_325_333 : cd 325 333 = some (.invokevirtual 23, 3) := by decide +kernel
theorem c_325_336 : cd 325 336 = some (.aload_n 2, 1) := by decide +kernel
theorem c_325_337 : cd 325 337 = some (.aload_n 0, 1) := by decide +kernel
theorem c_325_338 : cd 325 338 = some (.iload_n 3, 1) := by decide +kernel
theorem c_325_339 : cd 325 339 = some (.iconst (1), 1) := by decide +kernel
theorem c_325_340 : cd 325 340 = some (.iadd, 1) := by decide +kernel
theorem c_325_341 : cd 325 341 = some (.iaload, 1) := by decide +kernel
theorem c_325_342 : cd 325 342 = some (.aload_n 0, 1) := by decide +kernel
theorem c_325_343 : cd 325 343 = some (.iload_n 3, 1) := by decide +kernel
theorem c_325_344 : cd 325 344 = some (.iconst (2), 1) := by decide +kernel
theorem c_325_345 : cd 325 345 = some (.iadd, 1) := by decide +kernel
theorem c_325_346 : cd 325 346 = some (.iaload, 1) := by decide +kernel
theorem c_325_347 : cd 325 347 = some (.invokevirtual 26, 3) := by decide +kernel
theorem c_325_350 : cd 325 350 = some (.if_icmp .eq (1727), 3) := by decide +kernel
theorem c_325_353 : cd 325 353 = some (.iconst (0), 1) := by decide +kernel
theorem c_325_354 : cd 325 354 = some (.ireturn, 1) := by decide +kernel
theorem c_325_355 : cd 325 355 = some (.aload_n 1, 1) := by decide +kernel
theorem c_325_356 : cd 325 356 = some (.invokevirtual 27, 3) := by decide +kernel
theorem c_325_359 : cd 325 359 = some (.aload_n 2, 1) := by decide +kernel
theorem c_325_360 : cd 325 360 = some (.invokevirtual 30, 3) := by decide +kernel
theorem c_325_363 : cd 325 363 = some (.if_icmp .eq (1714), 3) := by decide +kernel
theorem c_325_366 : cd 325 366 = some (.iconst (0), 1) := by decide +kernel
theorem c_325_367 : cd 325 367 = some (.ireturn, 1) := by decide +kernel
theorem c_325_368 : cd 325 368 = some (.aload_n 1, 1) := by decide +kernel
theorem c_325_369 : cd 325 369 = some (.aload_n 0, 1) := by decide +kernel
theorem c_325_370 : cd 325 370 = some (.iload_n 3, 1) := by decide +kernel
theorem c_325_371 : cd 325 371 = some (.iconst (1), 1) := by decide +kernel
theorem c_325_372 : cd 325 372 = some (.iadd, 1) := by decide +kernel
theorem c_325_373 : cd 325 373 = some (.iaload, 1) := by decide +kernel
theorem c_325_374 : cd 325 374 = some (.aload_n 0, 1) := by decide +kernel
theorem c_325_375 : cd 325 375 = some (.iload_n 3, 1) := by decide +kernel
theorem c_325_376 : cd 325 376 = some (.iconst (2), 1) := by decide +kernel
theorem c_325_377 : cd 325 377 = some (.iadd, 1) := by decide +kernel
theorem c_325_378 : cd 325 378 = some (.iaload, 1) := by decide +kernel
theorem c_325_379 : cd 325 379 = some (.aload_n 0, 1) := by decide +kernel
theorem c_325_380 : cd 325 380 = some (.iload_n 3, 1) := by decide +kernel
theorem c_325_381 : cd 325 381 = some (.iconst (3), 1) := by decide +kernel
theorem c_325_382 : cd 325 382 = some (.iadd, 1) := by decide +kernel
theorem c_325_383 : cd 325 383 = some (.iaload, 1) := by decide +kernel
theorem c_325_384 : cd 325 384 = some (.invokevirtual 31, 3) := by decide +kernel
theorem c_325_387 : cd 325 387 = some (.aload_n 2, 1) := by decide +kernel
theorem c_325_388 : cd 325 388 = some (.aload_n 0, 1) := by decide +kernel
theorem c_325_389 : cd 325 389 = some (.iload_n 3, 1) := by decide +kernel
theorem c_325_390 : cd 325 390 = some (.iconst (1), 1) := by decide +kernel
theorem c_325_391 : cd 325 391 = some (.iadd, 1) := by decide +kernel
theorem c_325_392 : cd 325 392 = some (.iaload, 1) := by decide +kernel
theorem c_325_393 : cd 325 393 = some (.aload_n 0, 1) := by decide +kernel
theorem c_325_394 : cd 325 394 = some (.iload_n 3, 1) := by decide +kernel
theorem c_325_395 : cd 325 395 = some (.iconst (2), 1) := by decide +kernel
theorem c_325_396 : cd 325 396 = some (.iadd, 1) := by decide +kernel
theorem c_325_397 : cd 325 397 = some (.iaload, 1) := by decide +kernel
theorem c_325_398 : cd 325 398 = some (.aload_n 0, 1) := by decide +kernel
theorem c_325_399 : cd 325 399 = some (.iload_n 3, 1) := by decide +kernel
theorem c_325_400 : cd 325 400 = some (.iconst (3), 1) := by decide +kernel
theorem c_325_401 : cd 325 401 = some (.iadd, 1) := by decide +kernel
theorem c_325_402 : cd 325 402 = some (.iaload, 1) := by decide +kernel
theorem c_325_403 : cd 325 403 = some (.invokevirtual 35, 3) := by decide +kernel
theorem c_325_406 : cd 325 406 = some (.if_icmp .eq (1671), 3) := by decide +kernel
theorem c_325_409 : cd 325 409 = some (.iconst (0), 1) := by decide +kernel
theorem c_325_410 : cd 325 410 = some (.ireturn, 1) := by decide +kernel
theorem c_325_411 : cd 325 411 = some (.aload_n 1, 1) := by decide +kernel
theorem c_325_412 : cd 325 412 = some (.aload_n 0, 1) := by decide +kernel
theorem c_325_413 : cd 325 413 = some (.iload_n 3, 1) := by decide +kernel
theorem c_325_414 : cd 325 414 = some (.iconst (1), 1) := by decide +kernel
theorem c_325_415 : cd 325 415 = some (.iadd, 1) := by decide +kernel
theorem c_325_416 : cd 325 416 = some (.iaload, 1) := by decide +kernel
theorem c_325_417 : cd 325 417 = some (.aload_n 0, 1) := by decide +kernel
theorem c_325_418 : cd 325 418 = some (.iload_n 3, 1) := by decide +kernel
theorem c_325_419 : cd 325 419 = some (.iconst (2), 1) := by decide +kernel
theorem c_325_420 : cd 325 420 = some (.iadd, 1) := by decide +kernel
theorem c_325_421 : cd 325 421 = some (.iaload, 1) := by decide +kernel
theorem c_325_422 : cd 325 422 = some (.invokevirtual 36, 3) := by decide +kernel
theorem c_325_425 : cd 325 425 = some (.aload_n 2, 1) := by decide +kernel
theorem c_325_426 : cd 325 426 = some (.aload_n 0, 1) := by decide +kernel
theorem c_325_427 : cd 325 427 = some (.iload_n 3, 1) := by decide +kernel
theorem c_325_428 : cd 325 428 = some (.iconst (1), 1) := by decide +kernel
theorem c_325_429 : cd 325 429 = some (.iadd, 1) := by decide +kernel
theorem c_325_430 : cd 325 430 = some (.iaload, 1) := by decide +kernel
theorem c_325_431 : cd 325 431 = some (.aload_n 0, 1) := by decide +kernel
theorem c_325_432 : cd 325 432 = some (.iload_n 3, 1) := by decide +kernel
theorem c_325_433 : cd 325 433 = some (.iconst (2), 1) := by decide +kernel
theorem c_325_434 : cd 325 434 = some (.iadd, 1) := by decide +kernel
theorem c_325_435 : cd 325 435 = some (.iaload, 1) := by decide +kernel
theorem c_325_436 : cd 325 436 = some (.invokevirtual 39, 3) := by decide +kernel
theorem c_325_439 : cd 325 439 = some (.if_icmp .eq (1638), 3) := by decide +kernel
theorem c_325_442 : cd 325 442 = some (.iconst (0), 1) := by decide +kernel
theorem c_325_443 : cd 325 443 = some (.ireturn, 1) := by decide +kernel
theorem c_325_444 : cd 325 444 = some (.aload_n 1, 1) := by decide +kernel
theorem c_325_445 : cd 325 445 = some (.aload_n 0, 1) := by decide +kernel
theorem c_325_446 : cd 325 446 = some (.iload_n 3, 1) := by decide +kernel
theorem c_325_447 : cd 325 447 = some (.iconst (1), 1) := by decide +kernel
theorem c_325_448 : cd 325 448 = some (.iadd, 1) := by decide +kernel
theorem c_325_449 : cd 325 449 = some (.iaload, 1) := by decide +kernel
theorem c_325_450 : cd 325 450 = some (.aload_n 0, 1) := by decide +kernel
theorem c_325_451 : cd 325 451 = some (.iload_n 3, 1) := by decide +kernel
theorem c_325_452 : cd 325 452 = some (.iconst (2), 1) := by decide +kernel
theorem c_325_453 : cd 325 453 = some (.iadd, 1) := by decide +kernel
theorem c_325_454 : cd 325 454 = some (.iaload, 1) := by decide +kernel
theorem c_325_455 : cd 325 455 = some (.invokevirtual 40, 3) := by decide +kernel
theorem c_325_458 : cd 325 458 = some (.aload_n 2, 1) := by decide +kernel
theorem c_325_459 : cd 325 459 = some (.aload_n 0, 1) := by decide +kernel
theorem c_325_460 : cd 325 460 = some (.iload_n 3, 1) := by decide +kernel
theorem c_325_461 : cd 325 461 = some (.iconst (1), 1) := by decide +kernel
theorem c_325_462 : cd 325 462 = some (.iadd, 1) := by decide +kernel
theorem c_325_463 : cd 325 463 = some (.iaload, 1) := by decide +kernel
theorem c_325_464 : cd 325 464 = some (.aload_n 0, 1) := by decide +kernel
theorem c_325_465 : cd 325 465 = some (.iload_n 3, 1) := by decide +kernel
theorem c_325_466 : cd 325 466 = some (.iconst (2), 1) := by decide +kernel
theorem c_325_467 : cd 325 467 = some (.iadd, 1) := by decide +kernel
theorem c_325_468 : cd 325 468 = some (.iaload, 1) := by decide +kernel
theorem c_325_469 : cd 325 469 = some (.invokevirtual 43, 3) := by decide +kernel
theorem c_325_472 : cd 325 472 = some (.if_icmp .eq (1605), 3) := by decide +kernel
theorem c_325_475 : cd 325 475 = some (.iconst (0), 1) := by decide +kernel
theorem c_325_476 : cd 325 476 = some (.ireturn, 1) := by decide +kernel
theorem c_325_477 : cd 325 477 = some (.aload_n 1, 1) := by decide +kernel
theorem c_325_478 : cd 325 478 = some (.aload_n 0, 1) := by decide +kernel
theorem c_325_479 : cd 325 479 = some (.iload_n 3, 1) := by decide +kernel
theorem c_325_480 : cd 325 480 = some (.iconst (1), 1) := by decide +kernel
theorem c_325_481 : cd 325 481 = some (.iadd, 1) := by decide +kernel
theorem c_325_482 : cd 325 482 = some (.iaload, 1) := by decide +kernel
theorem c_325_483 : cd 325 483 = some (.aload_n 0, 1) := by decide +kernel
theorem c_325_484 : cd 325 484 = some (.iload_n 3, 1) := by decide +kernel
theorem c_325_485 : cd 325 485 = some (.iconst (2), 1) := by decide +kernel
theorem c_325_486 : cd 325 486 = some (.iadd, 1) := by decide +kernel
theorem c_325_487 : cd 325 487 = some (.iaload, 1) := by decide +kernel
theorem c_325_488 : cd 325 488 = some (.aload_n 0, 1) := by decide +kernel
theorem c_325_489 : cd 325 489 = some (.iload_n 3, 1) := by decide +kernel
theorem c_325_490 : cd 325 490 = some (.iconst (3), 1) := by decide +kernel
theorem c_325_491 : cd 325 491 = some (.iadd, 1) := by decide +kernel
theorem c_325_492 : cd 325 492 = some (.iaload, 1) := by decide +kernel
theorem c_325_493 : cd 325 493 = some (.invokevirtual 44, 3) := by decide +kernel
theorem c_325_496 : cd 325 496 = some (.aload_n 2, 1) := by decide +kernel
theorem c_325_497 : cd 325 497 = some (.aload_n 0, 1) := by decide +kernel
theorem c_325_498 : cd 325 498 = some (.iload_n 3, 1) := by decide +kernel
theorem c_325_499 : cd 325 499 = some (.iconst (1), 1) := by decide +kernel
theorem c_325_500 : cd 325 500 = some (.iadd, 1) := by decide +kernel
theorem c_325_501 : cd 325 501 = some (.iaload, 1) := by decide +kernel
theorem c_325_502 : cd 325 502 = some (.aload_n 0, 1) := by decide +kernel
theorem c_325_503 : cd 325 503 = some (.iload_n 3, 1) := by decide +kernel
theorem c_325_504 : cd 325 504 = some (.iconst (2), 1) := by decide +kernel
theorem c_325_505 : cd 325 505 = some (.iadd, 1) := by decide +kernel
theorem c_325_506 : cd 325 506 = some (.iaload, 1) := by decide +kernel
theorem c_325_507 : cd 325 507 = some (.aload_n 0, 1) := by decide +kernel
theorem c_325_508 : cd 325 508 = some (.iload_n 3, 1) := by decide +kernel
theorem c_325_509 : cd 325 509 = some (.iconst (3), 1) := by decide +kernel
theorem c_325_510 : cd 325 510 = some (.iadd, 1) := by decide +kernel
theorem c_325_511 : cd 325 511 = some (.iaload, 1) := by decide +kernel
theorem c_325_512 : cd 325 512 = some (.invokevirtual 47, 3) := by decide +kernel
theorem c_325_515 : cd 325 515 = some (.if_icmp .eq (1562), 3) := by decide +kernel
theorem c_325_518 : cd 325 518 = some (.iconst (0), 1) := by decide +kernel
theorem c_325_519 : cd 325 519 = some (.ireturn, 1) := by decide +kernel
theorem c_325_520 : cd 325 520 = some (.aload_n 1, 1) := by decide +kernel
theorem c_325_521 : cd 325 521 = some (.aload_n 0, 1) := by decide +kernel
theorem c_325_522 : cd 325 522 = some (.iload_n 3, 1) := by decide +kernel
theorem c_325_523 : cd 325 523 = some (.iconst (1), 1) := by decide +kernel
theorem c_325_524 : cd 325 524 = some (.iadd, 1) := by decide +kernel
theorem c_325_525 : cd 325 525 = some (.iaload, 1) := by decide +kernel
theorem c_325_526 : cd 325 526 = some (.aload_n 0, 1) := by decide +kernel
theorem c_325_527 : cd 325 527 = some (.iload_n 3, 1) := by decide +kernel
theorem c_325_528 : cd 325 528 = some (.iconst (2), 1) := by decide +kernel
theorem c_325_529 : cd 325 529 = some (.iadd, 1) := by decide +kernel
theorem c_325_530 : cd 325 530 = some (.iaload, 1) := by decide +kernel
theorem c_325_531 : cd 325 531 = some (.aload_n 0, 1) := by decide +kernel
theorem c_325_532 : cd 325 532 = some (.iload_n 3, 1) := by decide +kernel
theorem c_325_533 : cd 325 533 = some (.iconst (3), 1) := by decide +kernel
theorem c_325_534 : cd 325 534 = some (.iadd, 1) := by decide +kernel
theorem c_325_535 : cd 325 535 = some (.iaload, 1) := by decide +kernel
theorem c_325_536 : cd 325 536 = some (.aload_n 0, 1) := by decide +kernel
theorem c_325_537 : cd 325 537 = some (.iload_n 3, 1) := by decide +kernel
theorem c_325_538 : cd 325 538 = some (.iconst (4), 1) := by decide +kernel
theorem c_325_539 : cd 325 539 = some (.iadd, 1) := by decide +kernel
theorem c_325_540 : cd 325 540 = some (.iaload, 1) := by decide +kernel
theorem c_325_541 : cd 325 541 = some (.invokevirtual 48, 3) := by decide +kernel
theorem c_325_544 : cd 325 544 = some (.aload_n 2, 1) := by decide +kernel
theorem c_325_545 : cd 325 545 = some (.aload_n 0, 1) := by decide +kernel
theorem c_325_546 : cd 325 546 = some (.iload_n 3, 1) := by decide +kernel
theorem c_325_547 : cd 325 547 = some (.iconst (1), 1) := by decide +kernel
theorem c_325_548 : cd 325 548 = some (.iadd, 1) := by decide +kernel
theorem c_325_549 : cd 325 549 = some (.iaload, 1) := by decide +kernel
theorem c_325_550 : cd 325 550 = some (.aload_n 0, 1) := by decide +kernel
theorem c_325_551 : cd 325 551 = some (.iload_n 3, 1) := by decide +kernel
theorem c_325_552 : cd 325 552 = some (.iconst (2), 1) := by decide +kernel
theorem c_325_553 : cd 325 553 = some (.iadd, 1) := by decide +kernel
theorem c_325_554 : cd 325 554 = some (.iaload, 1) := by decide +kernel
theorem c_325_555 : cd 325 555 = some (.aload_n 0, 1) := by decide +kernel
theorem c_325_556 : cd 325 556 = some (.iload_n 3, 1) := by decide +kernel
theorem c_325_557 : cd 325 557 = some (.iconst (3), 1) := by decide +kernel
theorem c_325_558 : cd 325 558 = some (.iadd, 1) := by decide +kernel
theorem c_325_559 : cd 325 559 = some (.iaload, 1) := by decide +kernel
theorem c_325_560 : cd 325 560 = some (.aload_n 0, 1) := by decide +kernel
theorem c_325_561 : cd 325 561 = some (.iload_n 3, 1) := by decide +kernel
theorem c_325_562 : cd 325 562 = some (.iconst (4), 1) := by decide +kernel
theorem c_325_563 : cd 325 563 = some (.iadd, 1) := by decide +kernel
theorem c_325_564 : cd 325 564 = some (.iaload, 1) := by decide +kernel
theorem c_325_565 : cd 325 565 = some (.invokevirtual 52, 3) := by decide +kernel
theorem c_325_568 : cd 325 568 = some (.if_icmp .eq (1509), 3) := by decide +kernel
theorem c_325_571 : cd 325 571 = some (.iconst (0), 1) := by decide +kernel
theorem c_325_572 : cd 325 572 = some (.ireturn, 1) := by decide +kernel
theorem c_325_573 : cd 325 573 = some (.aload_n 1, 1) := by decide +kernel
theorem c_325_574 : cd 325 574 = some (.aload_n 0, 1) := by decide +kernel
theorem c_325_575 : cd 325 575 = some (.iload_n 3, 1) := by decide +kernel
theorem c_325_576 : cd 325 576 = some (.iconst (1), 1) := by decide +kernel
theorem c_325_577 : cd 325 577 = some (.iadd, 1) := by decide +kernel
theorem c_325_578 : cd 325 578 = some (.iaload, 1) := by decide +kernel
theorem c_325_579 : cd 325 579 = some (.aload_n 0, 1) := by decide +kernel
theorem c_325_580 : cd 325 580 = some (.iload_n 3, 1) := by decide +kernel
theorem c_325_581 : cd 325 581 = some (.iconst (2), 1) := by decide +kernel
theorem c_325_582 : cd 325 582 = some (.iadd, 1) := by decide +kernel
theorem c_325_583 : cd 325 583 = some (.iaload, 1) := by decide +kernel
theorem c_325_584 : cd 325 584 = some (.aload_n 0, 1) := by decide +kernel
theorem c_325_585 : cd 325 585 = some (.iload_n 3, 1) := by decide +kernel
theorem c_325_586 : cd 325 586 = some (.iconst (3), 1) := by decide +kernel
theorem c_325_587 : cd 325 587 = some (.iadd, 1) := by decide +kernel
theorem c_325_588 : cd 325 588 = some (.iaload, 1) := by decide +kernel
theorem c_325_589 : cd 325 589 = some (.aload_n 0, 1) := by decide +kernel
theorem c_325_590 : cd 325 590 = some (.iload_n 3, 1) := by decide +kernel
theorem c_325_591 : cd 325 591 = some (.iconst (4), 1) := by decide +kernel
theorem c_325_592 : cd 325 592 = some (.iadd, 1) := by decide +kernel
theorem c_325_593 : cd 325 593 = some (.iaload, 1) := by decide +kernel
theorem c_325_594 : cd 325 594 = some (.aload_n 0, 1) := by decide +kernel
theorem c_325_595 : cd 325 595 = some (.iload_n 3, 1) := by decide +kernel
theorem c_325_596 : cd 325 596 = some (.iconst (5), 1) := by decide +kernel
theorem c_325_597 : cd 325 597 = some (.iadd, 1) := by decide +kernel
theorem c_325_598 : cd 325 598 = some (.iaload, 1) := by decide +kernel
theorem c_325_599 : cd 325 599 = some (.invokevirtual 53, 3) := by decide +kernel
theorem c_325_602 : cd 325 602 = some (.aload_n 2, 1) := by decide +kernel
theorem c_325_603 : cd 325 603 = some (.aload_n 0, 1) := by decide +kernel
theorem c_325_604 : cd 325 604 = some (.iload_n 3, 1) := by decide +kernel
theorem c_325_605 : cd 325 605 = some (.iconst (1), 1) := by decide +kernel
theorem c_325_606 : cd 325 606 = some (.iadd, 1) := by decide +kernel
theorem c_325_607 : cd 325 607 = some (.iaload, 1) := by decide +kernel
theorem c_325_608 : cd 325 608 = some (.aload_n 0, 1) := by decide +kernel
theorem c_325_609 : cd 325 609 = some (.iload_n 3, 1) := by decide +kernel
theorem c_325_610 : cd 325 610 = some (.iconst (2), 1) := by decide +kernel
theorem c_325_611 : cd 325 611 = some (.iadd, 1) := by decide +kernel
theorem c_325_612 : cd 325 612 = some (.iaload, 1) := by decide +kernel
theorem c_325_613 : cd 325 613 = some (.aload_n 0, 1) := by decide +kernel
theorem c_325_614 : cd 325 614 = some (.iload_n 3, 1) := by decide +kernel
theorem c_325_615 : cd 325 615 = some (.iconst (3), 1) := by decide +kernel
theorem c_325_616 : cd 325 616 = some (.iadd, 1) := by decide +kernel
theorem c_325_617 : cd 325 617 = some (.iaload, 1) := by decide +kernel
theorem c_325_618 : cd 325 618 = some (.aload_n 0, 1) := by decide +kernel
theorem c_325_619 : cd 325 619 = some (.iload_n 3, 1) := by decide +kernel
theorem c_325_620 : cd 325 620 = some (.iconst (4), 1) := by decide +kernel
theorem c_325_621 : cd 325 621 = some (.iadd, 1) := by decide +kernel
theorem c_325_622 : cd 325 622 = some (.iaload, 1) := by decide +kernel
theorem c_325_623 : cd 325 623 = some (.aload_n 0, 1) := by decide +kernel
theorem c_325_624 : cd 325 624 = some (.iload_n 3, 1) := by decide +kernel
theorem c_325_625 : cd 325 625 = some (.iconst (5), 1) := by decide +kernel
theorem c_325_626 : cd 325 626 = some (.iadd, 1) := by decide +kernel
theorem c_325_627 : cd 325 627 = some (.iaload, 1) := by decide +kernel
theorem c_325_628 : cd 325 628 = some (.invokevirtual 57, 3) := by decide +kernel
theorem c_325_631 : cd 325 631 = some (.if_icmp .eq (1446), 3) := by decide +kernel
theorem c_325_634 : cd 325 634 = some (.iconst (0), 1) := by decide +kernel
theorem c_325_635 : cd 325 635 = some (.ireturn, 1) := by decide +kernel
theorem c_325_636 : cd 325 636 = some (.aload_n 1, 1) := by decide +kernel
theorem c_325_637 : cd 325 637 = some (.aload_n 0, 1) := by decide +kernel
theorem c_325_638 : cd 325 638 = some (.iload_n 3, 1) := by decide +kernel
theorem c_325_639 : cd 325 639 = some (.iconst (1), 1) := by decide +kernel
theorem c_325_640 : cd 325 640 = some (.iadd, 1) := by decide +kernel
theorem c_325_641 : cd 325 641 = some (.iaload, 1) := by decide +kernel
theorem c_325_642 : cd 325 642 = some (.aload_n 0, 1) := by decide +kernel
theorem c_325_643 : cd 325 643 = some (.iload_n 3, 1) := by decide +kernel
theorem c_325_644 : cd 325 644 = some (.iconst (2), 1) := by decide +kernel
theorem c_325_645 : cd 325 645 = some (.iadd, 1) := by decide +kernel
theorem c_325_646 : cd 325 646 = some (.iaload, 1) := by decide +kernel
theorem c_325_647 : cd 325 647 = some (.invokevirtual 58, 3) := by decide +kernel
theorem c_325_650 : cd 325 650 = some (.aload_n 2, 1) := by decide +kernel
theorem c_325_651 : cd 325 651 = some (.aload_n 0, 1) := by decide +kernel
theorem c_325_652 : cd 325 652 = some (.iload_n 3, 1) := by decide +kernel
theorem c_325_653 : cd 325 653 = some (.iconst (1), 1) := by decide +kernel
theorem c_325_654 : cd 325 654 = some (.iadd, 1) := by decide +kernel
theorem c_325_655 : cd 325 655 = some (.iaload, 1) := by decide +kernel
theorem c_325_656 : cd 325 656 = some (.aload_n 0, 1) := by decide +kernel
theorem c_325_657 : cd 325 657 = some (.iload_n 3, 1) := by decide +kernel
theorem c_325_658 : cd 325 658 = some (.iconst (2), 1) := by decide +kernel
theorem c_325_659 : cd 325 659 = some (.iadd, 1) := by decide +kernel
theorem c_325_660 : cd 325 660 = some (.iaload, 1) := by decide +kernel
theorem c_325_661 : cd 325 661 = some (.invokevirtual 61, 3) := by decide +kernel
theorem c_325_664 : cd 325 664 = some (.if_icmp .eq (1413), 3) := by decide +kernel
theorem c_325_667 : cd 325 667 = some (.iconst (0), 1) := by decide +kernel
theorem c_325_668 : cd 325 668 = some (.ireturn, 1) := by decide +kernel
theorem c_325_669 : cd 325 669 = some (.aload_n 1, 1) := by decide +kernel
theorem c_325_670 : cd 325 670 = some (.aload_n 0, 1) := by decide +kernel
theorem c_325_671 : cd 325 671 = some (.iload_n 3, 1) := by decide +kernel
theorem c_325_672 : cd 325 672 = some (.iconst (1), 1) := by decide +kernel
theorem c_325_673 : cd 325 673 = some (.iadd, 1) := by decide +kernel
theorem c_325_674 : cd 325 674 = some (.iaload, 1) := by decide +kernel
theorem c_325_675 : cd 325 675 = some (.aload_n 0, 1) := by decide +kernel
theorem c_325_676 : cd 325 676 = some (.iload_n 3, 1) := by decide +kernel
theorem c_325_677 : cd 325 677 = some (.iconst (2), 1) := by decide +kernel
theorem c_325_678 : cd 325 678 = some (.iadd, 1) := by decide +kernel
theorem c_325_679 : cd 325 679 = some (.iaload, 1) := by decide +kernel
theorem c_325_680 : cd 325 680 = some (.invokevirtual 62, 3) := by decide +kernel
theorem c_325_683 : cd 325 683 = some (.aload_n 2, 1) := by decide +kernel
theorem c_325_684 : cd 325 684 = some (.aload_n 0, 1) := by decide +kernel
theorem c_325_685 : cd 325 685 = some (.iload_n 3, 1) := by decide +kernel
theorem c_325_686 : cd 325 686 = some (.iconst (1), 1) := by decide +kernel
theorem c_325_687 : cd 325 687 = some (.iadd, 1) := by decide +kernel
theorem c_325_688 : cd 325 688 = some (.iaload, 1) := by decide +kernel
theorem c_325_689 : cd 325 689 = some (.aload_n 0, 1) := by decide +kernel
theorem c_325_690 : cd 325 690 = some (.iload_n 3, 1) := by decide +kernel
theorem c_325_691 : cd 325 691 = some (.iconst (2), 1) := by decide +kernel
theorem c_325_692 : cd 325 692 = some (.iadd, 1) := by decide +kernel
theorem c_325_693 : cd 325 693 = some (.iaload, 1) := by decide +kernel
theorem c_325_694 : cd 325 694 = some (.invokevirtual 65, 3) := by decide +kernel
theorem c_325_697 : cd 325 697 = some (.if_icmp .eq (1380), 3) := by decide +kernel
theorem c_325_700 : cd 325 700 = some (.iconst (0), 1) := by decide +kernel
theorem c_325_701 : cd 325 701 = some (.ireturn, 1) := by decide +kernel
theorem c_325_702 : cd 325 702 = some (.aload_n 1, 1) := by decide +kernel
theorem c_325_703 : cd 325 703 = some (.aload_n 0, 1) := by decide +kernel
theorem c_325_704 : cd 325 704 = some (.iload_n 3, 1) := by decide +kernel
theorem c_325_705 : cd 325 705 = some (.iconst (1), 1) := by decide +kernel
theorem c_325_706 : cd 325 706 = some (.iadd, 1) := by decide +kernel
theorem c_325_707 : cd 325 707 = some (.iaload, 1) := by decide +kernel
theorem c_325_708 : cd 325 708 = some (.invokevirtual 66, 3) := by decide +kernel
theorem c_325_711 : cd 325 711 = some (.aload_n 2, 1) := by decide +kernel
theorem c_325_712 : cd 325 712 = some (.aload_n 0, 1) := by decide +kernel
theorem c_325_713 : cd 325 713 = some (.iload_n 3, 1) := by decide +kernel
theorem c_325_714 : cd 325 714 = some (.iconst (1), 1) := by decide +kernel
theorem c_325_715 : cd 325 715 = some (.iadd, 1) := by decide +kernel
theorem c_325_716 : cd 325 716 = some (.iaload, 1) := by decide +kernel
theorem c_325_717 : cd 325 717 = some (.invokevirtual 70, 3) := by decide +kernel
theorem c_325_720 : cd 325 720 = some (.if_icmp .eq (1357), 3) := by decide +kernel
theorem c_325_723 : cd 325 723 = some (.iconst (0), 1) := by decide +kernel
theorem c_325_724 : cd 325 724 = some (.ireturn, 1) := by decide +kernel
theorem c_325_725 : cd 325 725 = some (.aload_n 1, 1) := by decide +kernel
theorem c_325_726 : cd 325 726 = some (.aload_n 0, 1) := by decide +kernel
theorem c_325_727 : cd 325 727 = some (.iload_n 3, 1) := by decide +kernel
theorem c_325_728 : cd 325 728 = some (.iconst (1), 1) := by decide +kernel
theorem c_325_729 : cd 325 729 = some (.iadd, 1) := by decide +kernel
theorem c_325_730 : cd 325 730 = some (.iaload, 1) := by decide +kernel
theorem c_325_731 : cd 325 731 = some (.invokevirtual 71, 3) := by decide +kernel
theorem c_325_734 : cd 325 734 = some (.aload_n 2, 1) := by decide +kernel
theorem c_325_735 : cd 325 735 = some (.aload_n 0, 1) := by decide +kernel
theorem c_325_736 : cd 325 736 = some (.iload_n 3, 1) := by decide +kernel
theorem c_325_737 : cd 325 737 = some (.iconst (1), 1) := by decide +kernel
theorem c_325_738 : cd 325 738 = some (.iadd, 1) := by decide +kernel
theorem c_325_739 : cd 325 739 = some (.iaload, 1) := by decide +kernel
theorem c_325_740 : cd 325 740 = some (.invokevirtual 74, 3) := by decide +kernel
theorem c_325_743 : cd 325 743 = some (.if_icmp .eq (1334), 3) := by decide +kernel
theorem c_325_746 : cd 325 746 = some (.iconst (0), 1) := by decide +kernel
theorem c_325_747 : cd 325 747 = some (.ireturn, 1) := by decide +kernel
theorem c_325_748 : cd 325 748 = some (.aload_n 1, 1) := by decide +kernel
theorem c_325_749 : cd 325 749 = some (.aload_n 0, 1) := by decide +kernel
theorem c_325_750 : cd 325 750 = some (.iload_n 3, 1) := by decide +kernel
theorem c_325_751 : cd 325 751 = some (.iconst (1), 1) := by decide +kernel
theorem c_325_752 : cd 325 752 = some (.iadd, 1) := by decide +kernel
theorem c_325_753 : cd 325 753 = some (.iaload, 1) := by decide +kernel
theorem c_325_754 : cd 325 754 = some (.aload_n 0, 1) := by decide +kernel
theorem c_325_755 : cd 325 755 = some (.iload_n 3, 1) := by decide +kernel
theorem c_325_756 : cd 325 756 = some (.iconst (2), 1) := by decide +kernel
theorem c_325_757 : cd 325 757 = some (.iadd, 1) := by decide +kernel
theorem c_325_758 : cd 325 758 = some (.iaload, 1) := by decide +kernel
theorem c_325_759 : cd 325 759 = some (.aload_n 0, 1) := by decide +kernel
theorem c_325_760 : cd 325 760 = some (.iload_n 3, 1) := by decide +kernel
theorem c_325_761 : cd 325 761 = some (.iconst (3), 1) := by decide +kernel
theorem c_325_762 : cd 325 762 = some (.iadd, 1) := by decide +kernel
theorem c_325_763 : cd 325 763 = some (.iaload, 1) := by decide +kernel
theorem c_325_764 : cd 325 764 = some (.invokevirtual 75, 3) := by decide +kernel
theorem c_325_767 : cd 325 767 = some (.aload_n 2, 1) := by decide +kernel
theorem c_325_768 : cd 325 768 = some (.aload_n 0, 1) := by decide +kernel
theorem c_325_769 : cd 325 769 = some (.iload_n 3, 1) := by decide +kernel
theorem c_325_770 : cd 325 770 = some (.iconst (1), 1) := by decide +kernel
theorem c_325_771 : cd 325 771 = some (.iadd, 1) := by decide +kernel
theorem c_325_772 : cd 325 772 = some (.iaload, 1) := by decide +kernel
theorem c_325_773 : cd 325 773 = some (.aload_n 0, 1) := by decide +kernel
theorem c_325_774 : cd 325 774 = some (.iload_n 3, 1) := by decide +kernel
theorem c_325_775 : cd 325 775 = some (.iconst (2), 1) := by decide +kernel
theorem c_325_776 : cd 325 776 = some (.iadd, 1) := by decide +kernel
theorem c_325_777 : cd 325 777 = some (.iaload, 1) := by decide +kernel
theorem c_325_778 : cd 325 778 = some (.aload_n 0, 1) := by decide +kernel
theorem c_325_779 : cd 325 779 = some (.iload_n 3, 1) := by decide +kernel
theorem c_325_780 : cd 325 780 = some (.iconst (3), 1) := by decide +kernel
theorem c_325_781 : cd 325 781 = some (.iadd, 1) := by decide +kernel
theorem c_325_782 : cd 325 782 = some (.iaload, 1) := by decide +kernel
theorem c_325_783 : cd 325 783 = some (.invokevirtual 78, 3) := by decide +kernel
theorem c_325_786 : cd 325 786 = some (.if_icmp .eq (1291), 3) := by decide +kernel
theorem c_325_789 : cd 325 789 = some (.iconst (0), 1) := by decide +kernel
theorem c_325_790 : cd 325 790 = some (.ireturn, 1) := by decide +kernel
theorem c_325_791 : cd 325 791 = some (.aload_n 1, 1) := by decide +kernel
theorem c_325_792 : cd 325 792 = some (.aload_n 0, 1) := by decide +kernel
theorem c_325_793 : cd 325 793 = some (.iload_n 3, 1) := by decide +kernel
theorem c_325_794 : cd 325 794 = some (.iconst (1), 1) := by decide +kernel
theorem c_325_795 : cd 325 795 = some (.iadd, 1) := by decide +kernel
theorem c_325_796 : cd 325 796 = some (.iaload, 1) := by decide +kernel
theorem c_325_797 : cd 325 797 = some (.aload_n 0, 1) := by decide +kernel
theorem c_325_798 : cd 325 798 = some (.iload_n 3, 1) := by decide +kernel
theorem c_325_799 : cd 325 799 = some (.iconst (2), 1) := by decide +kernel
theorem c_325_800 : cd 325 800 = some (.iadd, 1) := by decide +kernel
theorem c_325_801 : cd 325 801 = some (.iaload, 1) := by decide +kernel
theorem c_325_802 : cd 325 802 = some (.aload_n 0, 1) := by decide +kernel
theorem c_325_803 : cd 325 803 = some (.iload_n 3, 1) := by decide +kernel
theorem c_325_804 : cd 325 804 = some (.iconst (3), 1) := by decide +kernel
theorem c_325_805 : cd 325 805 = some (.iadd, 1) := by decide +kernel
theorem c_325_806 : cd 325 806 = some (.iaload, 1) := by decide +kernel
theorem c_325_807 : cd 325 807 = some (.invokevirtual 79, 3) := by decide +kernel
theorem c_325_810 : cd 325 810 = some (.aload_n 2, 1) := by decide +kernel
theorem c_325_811 : cd 325 811 = some (.aload_n 0, 1) := by decide +kernel
theorem c_325_812 : cd 325 812 = some (.iload_n 3, 1) := by decide +kernel
theorem c_325_813 : cd 325 813 = some (.iconst (1), 1) := by decide +kernel
theorem c_325_814 : cd 325 814 = some (.iadd, 1) := by decide +kernel
theorem c_325_815 : cd 325 815 = some (.iaload, 1) := by decide +kernel
theorem c_325_816 : cd 325 816 = some (.aload_n 0, 1) := by decide +kernel
theorem c_325_817 : cd 325 817 = some (.iload_n 3, 1) := by decide +kernel
theorem c_325_818 : cd 325 818 = some (.iconst (2), 1) := by decide +kernel
theorem c_325_819 : cd 325 819 = some (.iadd, 1) := by decide +kernel
theorem c_325_820 : cd 325 820 = some (.iaload, 1) := by decide +kernel
theorem c_325_821 : cd 325 821 = some (.aload_n 0, 1) := by decide +kernel
theorem c_325_822 : cd 325 822 = some (.iload_n 3, 1) := by decide +kernel
theorem c_325_823 : cd 325 823 = some (.iconst (3), 1) := by decide +kernel
theorem c_325_824 : cd 325 824 = some (.iadd, 1) := by decide +kernel
theorem c_325_825 : cd 325 825 = some (.iaload, 1) := by decide +kernel
theorem c_325_826 : cd 325 826 = some (.invokevirtual 82, 3) := by decide +kernel
theorem c_325_829 : cd 325 829 = some (.if_icmp .eq (1248), 3) := by decide +kernel
theorem c_325_832 : cd 325 832 = some (.iconst (0), 1) := by decide +kernel
theorem c_325_833 : cd 325 833 = some (.ireturn, 1) := by decide +kernel
theorem c_325_834 : cd 325 834 = some (.aload_n 1, 1) := by decide +kernel
theorem c_325_835 : cd 325 835 = some (.aload_n 0, 1) := by decide +kernel
theorem c_325_836 : cd 325 836 = some (.iload_n 3, 1) := by decide +kernel
theorem c_325_837 : cd 325 837 = some (.iconst (1), 1) := by decide +kernel
theorem c_325_838 : cd 325 838 = some (.iadd, 1) := by decide +kernel
theorem c_325_839 : cd 325 839 = some (.iaload, 1) := by decide +kernel
theorem c_325_840 : cd 325 840 = some (.invokevirtual 83, 3) := by decide +kernel
theorem c_325_843 : cd 325 843 = some (.aload_n 2, 1) := by decide +kernel
theorem c_325_844 : cd 325 844 = some (.aload_n 0, 1) := by decide +kernel
theorem c_325_845 : cd 325 845 = some (.iload_n 3, 1) := by decide +kernel
theorem c_325_846 : cd 325 846 = some (.iconst (1), 1) := by decide +kernel
theorem c_325_847 : cd 325 847 = some (.iadd, 1) := by decide +kernel
theorem c_325_848 : cd 325 848 = some (.iaload, 1) := by decide +kernel
theorem c_325_849 : cd 325 849 = some (.invokevirtual 86, 3) := by decide +kernel
theorem c_325_852 : cd 325 852 = some (.if_icmp .eq (1225), 3) := by decide +kernel
theorem c_325_855 : cd 325 855 = some (.iconst (0), 1) := by decide +kernel
theorem c_325_856 : cd 325 856 = some (.ireturn, 1) := by decide +kernel
theorem c_325_857 : cd 325 857 = some (.aload_n 1, 1) := by decide +kernel
theorem c_325_858 : cd 325 858 = some (.aload_n 0, 1) := by decide +kernel
theorem c_325_859 : cd 325 859 = some (.iload_n 3, 1) := by decide +kernel
theorem c_325_860 : cd 325 860 = some (.iconst (1), 1) := by decide +kernel
theorem c_325_861 : cd 325 861 = some (.iadd, 1) := by decide +kernel
theorem c_325_862 : cd 325 862 = some (.iaload, 1) := by decide +kernel
theorem c_325_863 : cd 325 863 = some (.invokevirtual 87, 3) := by decide +kernel
theorem c_325_866 : cd 325 866 = some (.aload_n 2, 1) := by decide +kernel
theorem c_325_867 : cd 325 867 = some (.aload_n 0, 1) := by decide +kernel
theorem c_325_868 : cd 325 868 = some (.iload_n 3, 1) := by decide +kernel
theorem c_325_869 : cd 325 869 = some (.iconst (1), 1) := by decide +kernel
theorem c_325_870 : cd 325 870 = some (.iadd, 1) := by decide +kernel
theorem c_325_871 : cd 325 871 = some (.iaload, 1) := by decide +kernel
theorem c_325_872 : cd 325 872 = some (.invokevirtual 90, 3) := by decide +kernel
theorem c_325_875 : cd 325 875 = some (.if_icmp .eq (1202), 3) := by decide +kernel
theorem c_325_878 : cd 325 878 = some (.iconst (0), 1) := by decide +kernel
theorem c_325_879 : cd 325 879 = some (.ireturn, 1) := by decide +kernel
theorem c_325_880 : cd 325 880 = some (.aload_n 1, 1) := by decide +kernel
theorem c_325_881 : cd 325 881 = some (.aload_n 0, 1) := by decide +kernel
theorem c_325_882 : cd 325 882 = some (.iload_n 3, 1) := by decide +kernel
theorem c_325_883 : cd 325 883 = some (.iconst (1), 1) := by decide +kernel
theorem c_325_884 : cd 325 884 = some (.iadd, 1) := by decide +kernel
theorem c_325_885 : cd 325 885 = some (.iaload, 1) := by decide +kernel
theorem c_325_886 : cd 325 886 = some (.aload_n 0, 1) := by decide +kernel
theorem c_325_887 : cd 325 887 = some (.iload_n 3, 1) := by decide +kernel
theorem c_325_888 : cd 325 888 = some (.iconst (2), 1) := by decide +kernel
theorem c_325_889 : cd 325 889 = some (.iadd, 1) := by decide +kernel
theorem c_325_890 : cd 325 890 = some (.iaload, 1) := by decide +kernel
theorem c_325_891 : cd 325 891 = some (.invokevirtual 91, 3) := by decide +kernel
theorem c_325_894 : cd 325 894 = some (.aload_n 2, 1) := by decide +kernel
theorem c_325_895 : cd 325 895 = some (.aload_n 0, 1) := by decide +kernel
theorem c_325_896 : cd 325 896 = some (.iload_n 3, 1) := by decide +kernel
theorem c_325_897 : cd 325 897 = some (.iconst (1), 1) := by decide +kernel
theorem c_325_898 : cd 325 898 = some (.iadd, 1) := by decide +kernel
theorem c_325_899 : cd 325 899 = some (.iaload, 1) := by decide +kernel
theorem c_325_900 : cd 325 900 = some (.aload_n 0, 1) := by decide +kernel
theorem c_325_901 : cd 325 901 = some (.iload_n 3, 1) := by decide +kernel
theorem c_325_902 : cd 325 902 = some (.iconst (2), 1) := by decide +kernel
theorem c_325_903 : cd 325 903 = some (.iadd, 1) := by decide +kernel
theorem c_325_904 : cd 325 904 = some (.iaload, 1) := by decide +kernel
theorem c_325_905 : cd 325 905 = some (.invokevirtual 94, 3) := by decide +kernel
theorem c_325_908 : cd 325 908 = some (.if_icmp .eq (1169), 3) := by decide +kernel
theorem c_325_911 : cd 325 911 = some (.iconst (0), 1) := by decide +kernel
theorem c_325_912 : cd 325 912 = some (.ireturn, 1) := by decide +kernel
theorem c_325_913 : cd 325 913 = some (.aload_n 1, 1) := by decide +kernel
theorem c_325_914 : cd 325 914 = some (.aload_n 0, 1) := by decide +kernel
theorem c_325_915 : cd 325 915 = some (.iload_n 3, 1) := by decide +kernel
theorem c_325_916 : cd 325 916 = some (.iconst (1), 1) := by decide +kernel
theorem c_325_917 : cd 325 917 = some (.iadd, 1) := by decide +kernel
theorem c_325_918 : cd 325 918 = some (.iaload, 1) := by decide +kernel
theorem c_325_919 : cd 325 919 = some (.aload_n 0, 1) := by decide +kernel
theorem c_325_920 : cd 325 920 = some (.iload_n 3, 1) := by decide +kernel
theorem c_325_921 : cd 325 921 = some (.iconst (2), 1) := by decide +kernel
theorem c_325_922 : cd 325 922 = some (.iadd, 1) := by decide +kernel
theorem c_325_923 : cd 325 923 = some (.iaload, 1) := by decide +kernel
theorem c_325_924 : cd 325 924 = some (.invokevirtual 95, 3) := by decide +kernel
theorem c_325_927 : cd 325 927 = some (.aload_n 2, 1) := by decide +kernel
theorem c_325_928 : cd 325 928 = some (.aload_n 0, 1) := by decide +kernel
theorem c_325_929 : cd 325 929 = some (.iload_n 3, 1) := by decide +kernel
theorem c_325_930 : cd 325 930 = some (.iconst (1), 1) := by decide +kernel
theorem c_325_931 : cd 325 931 = some (.iadd, 1) := by decide +kernel
theorem c_325_932 : cd 325 932 = some (.iaload, 1) := by decide +kernel
theorem c_325_933 : cd 325 933 = some (.aload_n 0, 1) := by decide +kernel
theorem c_325_934 : cd 325 934 = some (.iload_n 3, 1) := by decide +kernel
theorem c_325_935 : cd 325 935 = some (.iconst (2), 1) := by decide +kernel
theorem c_325_936 : cd 325 936 = some (.iadd, 1) := by decide +kernel
theorem c_325_937 : cd 325 937 = some (.iaload, 1) := by decide +kernel
theorem c_325_938 : cd 325 938 = some (.invokevirtual 98, 3) := by decide +kernel
theorem c_325_941 : cd 325 941 = some (.if_icmp .eq (1136), 3) := by decide +kernel
theorem c_325_944 : cd 325 944 = some (.iconst (0), 1) := by decide +kernel
theorem c_325_945 : cd 325 945 = some (.ireturn, 1) := by decide +kernel
theorem c_325_946 : cd 325 946 = some (.aload_n 1, 1) := by decide +kernel
theorem c_325_947 : cd 325 947 = some (.aload_n 0, 1) := by decide +kernel
theorem c_325_948 : cd 325 948 = some (.iload_n 3, 1) := by decide +kernel
theorem c_325_949 : cd 325 949 = some (.iconst (1), 1) := by decide +kernel
theorem c_325_950 : cd 325 950 = some (.iadd, 1) := by decide +kernel
theorem c_325_951 : cd 325 951 = some (.iaload, 1) := by decide +kernel
theorem c_325_952 : cd 325 952 = some (.aload_n 0, 1) := by decide +kernel
theorem c_325_953 : cd 325 953 = some (.iload_n 3, 1) := by decide +kernel
theorem c_325_954 : cd 325 954 = some (.iconst (2), 1) := by decide +kernel
theorem c_325_955 : cd 325 955 = some (.iadd, 1) := by decide +kernel
theorem c_325_956 : cd 325 956 = some (.iaload, 1) := by decide +kernel
theorem c_325_957 : cd 325 957 = some (.invokevirtual 99, 3) := by decide +kernel
theorem c_325_960 : cd 325 960 = some (.aload_n 2, 1) := by decide +kernel
theorem c_325_961 : cd 325 961 = some (.aload_n 0, 1) := by decide +kernel
theorem c_325_962 : cd 325 962 = some (.iload_n 3, 1) := by decide +kernel
theorem c_325_963 : cd 325 963 = some (.iconst (1), 1) := by decide +kernel
theorem c_325_964 : cd 325 964 = some (.iadd, 1) := by decide +kernel
theorem c_325_965 : cd 325 965 = some (.iaload, 1) := by decide +kernel
theorem c_325_966 : cd 325 966 = some (.aload_n 0, 1) := by decide +kernel
theorem c_325_967 : cd 325 967 = some (.iload_n 3, 1) := by decide +kernel
theorem c_325_968 : cd 325 968 = some (.iconst (2), 1) := by decide +kernel
theorem c_325_969 : cd 325 969 = some (.iadd, 1) := by decide +kernel
theorem c_325_970 : cd 325 970 = some (.iaload, 1) := by decide +kernel
theorem c_325_971 : cd 325 971 = some (.invokevirtual 102, 3) := by decide +kernel
theorem c_325_974 : cd 325 974 = some (.if_icmp .eq (1103), 3) := by decide +kernel
theorem c_325_977 : cd 325 977 = some (.iconst (0), 1) := by decide +kernel
theorem c_325_978 : cd 325 978 = some (.ireturn, 1) := by decide +kernel
theorem c_325_979 : cd 325 979 = some (.aload_n 1, 1) := by decide +kernel
theorem c_325_980 : cd 325 980 = some (.aload_n 0, 1) := by decide +kernel
theorem c_325_981 : cd 325 981 = some (.iload_n 3, 1) := by decide +kernel
theorem c_325_982 : cd 325 982 = some (.iconst (1), 1) := by decide +kernel
theorem c_325_983 : cd 325 983 = some (.iadd, 1) := by decide +kernel
theorem c_325_984 : cd 325 984 = some (.iaload, 1) := by decide +kernel
theorem c_325_985 : cd 325 985 = some (.aload_n 0, 1) := by decide +kernel
theorem c_325_986 : cd 325 986 = some (.iload_n 3, 1) := by decide +kernel
theorem c_325_987 : cd 325 987 = some (.iconst (2), 1) := by decide +kernel
theorem c_325_988 : cd 325 988 = some (.iadd, 1) := by decide +kernel
theorem c_325_989 : cd 325 989 = some (.iaload, 1) := by decide +kernel
theorem c_325_990 : cd 325 990 = some (.invokevirtual 103, 3) := by decide +kernel
theorem c_325_993 : cd 325 993 = some (.aload_n 2, 1) := by decide +kernel
theorem c_325_994 : cd 325 994 = some (.aload_n 0, 1) := by decide +kernel
theorem c_325_995 : cd 325 995 = some (.iload_n 3, 1) := by decide +kernel
theorem c_325_996 : cd 325 996 = some (.iconst (1), 1) := by decide +kernel
theorem c_325_997 : cd 325 997 = some (.iadd, 1) := by decide +kernel
theorem c_325_998 : cd 325 998 = some (.iaload, 1) := by decide +kernel
theorem c_325_999 : cd 325 999 = some (.aload_n 0, 1) := by decide +kernel
theorem c_325_1000 : cd 325 1000 = some (.iload_n 3, 1) := by decide +kernel
theorem c_325_1001 : cd 325 1001 = some (.iconst (2), 1) := by decide +kernel
theorem c_325_1002 : cd 325 1002 = some (.iadd, 1) := by decide +kernel
theorem c_325_1003 : cd 325 1003 = some (.iaload, 1) := by decide +kernel
theorem c_325_1004 : cd 325 1004 = some (.invokevirtual 106, 3) := by decide +kernel
theorem c_325_1007 : cd 325 1007 = some (.if_icmp .eq (1070), 3) := by decide +kernel
theorem c_325_1010 : cd 325 1010 = some (.iconst (0), 1) := by decide +kernel
theorem c_325_1011 : cd 325 1011 = some (.ireturn, 1) := by decide +kernel
theorem c_325_1012 : cd 325 1012 = some (.aload_n 1, 1) := by decide +kernel
theorem c_325_1013 : cd 325 1013 = some (.aload_n 0, 1) := by decide +kernel
theorem c_325_1014 : cd 325 1014 = some (.iload_n 3, 1) := by decide +kernel
theorem c_325_1015 : cd 325 1015 = some (.iconst (1), 1) := by decide +kernel
theorem c_325_1016 : cd 325 1016 = some (.iadd, 1) := by decide +kernel
theorem c_325_1017 : cd 325 1017 = some (.iaload, 1) := by decide +kernel
theorem c_325_1018 : cd 325 1018 = some (.aload_n 0, 1) := by decide +kernel
theorem c_325_1019 : cd 325 1019 = some (.iload_n 3, 1) := by decide +kernel
theorem c_325_1020 : cd 325 1020 = some (.iconst (2), 1) := by decide +kernel
theorem c_325_1021 : cd 325 1021 = some (.iadd, 1) := by decide +kernel
theorem c_325_1022 : cd 325 1022 = some (.iaload, 1) := by decide +kernel
theorem c_325_1023 : cd 325 1023 = some (.invokevirtual 107, 3) := by decide +kernel
theorem c_325_1026 : cd 325 1026 = some (.aload_n 2, 1) := by decide +kernel
theorem c_325_1027 : cd 325 1027 = some (.aload_n 0, 1) := by decide +kernel
theorem c_325_1028 : cd 325 1028 = some (.iload_n 3, 1) := by decide +kernel
theorem c_325_1029 : cd 325 1029 = some (.iconst (1), 1) := by decide +kernel
theorem c_325_1030 : cd 325 1030 = some (.iadd, 1) := by decide +kernel
theorem c_325_1031 : cd 325 1031 = some (.iaload, 1) := by decide +kernel
theorem c_325_1032 : cd 325 1032 = some (.aload_n 0, 1) := by decide +kernel
theorem c_325_1033 : cd 325 1033 = some (.iload_n 3, 1) := by decide +kernel
theorem c_325_1034 : cd 325 1034 = some (.iconst (2), 1) := by decide +kernel
theorem c_325_1035 : cd 325 1035 = some (.iadd, 1) := by decide +kernel
theorem c_325_1036 : cd 325 1036 = some (.iaload, 1) := by decide +kernel
theorem c_325_1037 : cd 325 1037 = some (.invokevirtual 110, 3) := by decide +kernel
theorem c_325_1040 : cd 325 1040 = some (.if_icmp .eq (1037), 3) := by decide +kernel
theorem c_325_1043 : cd 325 1043 = some (.iconst (0), 1) := by decide +kernel
theorem c_325_1044 : cd 325 1044 = some (.ireturn, 1) := by decide +kernel
theorem c_325_1045 : cd 325 1045 = some (.aload_n 1, 1) := by decide +kernel
theorem c_325_1046 : cd 325 1046 = some (.aload_n 0, 1) := by decide +kernel
theorem c_325_1047 : cd 325 1047 = some (.iload_n 3, 1) := by decide +kernel
theorem c_325_1048 : cd 325 1048 = some (.iconst (1), 1) := by decide +kernel
theorem c_325_1049 : cd 325 1049 = some (.iadd, 1) := by decide +kernel
theorem c_325_1050 : cd 325 1050 = some (.iaload, 1) := by decide +kernel
theorem c_325_1051 : cd 325 1051 = some (.aload_n 0, 1) := by decide +kernel
theorem c_325_1052 : cd 325 1052 = some (.iload_n 3, 1) := by decide +kernel
theorem c_325_1053 : cd 325 1053 = some (.iconst (2), 1) := by decide +kernel
theorem c_325_1054 : cd 325 1054 = some (.iadd, 1) := by decide +kernel
theorem c_325_1055 : cd 325 1055 = some (.iaload, 1) := by decide +kernel
theorem c_325_1056 : cd 325 1056 = some (.invokevirtual 111, 3) := by decide +kernel
theorem c_325_1059 : cd 325 1059 = some (.aload_n 2, 1) := by decide +kernel
theorem c_325_1060 : cd 325 1060 = some (.aload_n 0, 1) := by decide +kernel
theorem c_325_1061 : cd 325 1061 = some (.iload_n 3, 1) := by decide +kernel
theorem c_325_1062 : cd 325 1062 = some (.iconst (1), 1) := by decide +kernel
theorem c_325_1063 : cd 325 1063 = some (.iadd, 1) := by decide +kernel
theorem c_325_1064 : cd 325 1064 = some (.iaload, 1) := by decide +kernel
theorem c_325_1065 : cd 325 1065 = some (.aload_n 0, 1) := by decide +kernel
theorem c_325_1066 : cd 325 1066 = some (.iload_n 3, 1) := by decide +kernel
theorem c_325_1067 : cd 325 1067 = some (.iconst (2), 1) := by decide +kernel
theorem c_325_1068 : cd 325 1068 = some (.iadd, 1) := by decide +kernel
theorem c_325_1069 : cd 325 1069 = some (.iaload, 1) := by decide +kernel
theorem c_325_1070 : cd 325 1070 = some (.invokevirtual 114, 3) := by decide +kernel
theorem c_325_1073 : cd 325 1073 = some (.if_icmp .eq (1004), 3) := by decide +kernel
theorem c_325_1076 : cd 325 1076 = some (.iconst (0), 1) := by decide +kernel
theorem c_325_1077 : cd 325 1077 = some (.ireturn, 1) := by decide +kernel
theorem c_325_1078 : cd 325 1078 = some (.aload_n 1, 1) := by decide +kernel
theorem c_325_1079 : cd 325 1079 = some (.aload_n 0, 1) := by decide +kernel
theorem c_325_1080 : cd 325 1080 = some (.iload_n 3, 1) := by decide +kernel
theorem c_325_1081 : cd 325 1081 = some (.iconst (1), 1) := by decide +kernel
theorem c_325_1082 : cd 325 1082 = some (.iadd, 1) := by decide +kernel
theorem c_325_1083 : cd 325 1083 = some (.iaload, 1) := by decide +kernel
theorem c_325_1084 : cd 325 1084 = some (.aload_n 0, 1) := by decide +kernel
theorem c_325_1085 : cd 325 1085 = some (.iload_n 3, 1) := by decide +kernel
theorem c_325_1086 : cd 325 1086 = some (.iconst (2), 1) := by decide +kernel
theorem c_325_1087 : cd 325 1087 = some (.iadd, 1) := by decide +kernel
theorem c_325_1088 : cd 325 1088 = some (.iaload, 1) := by decide +kernel
theorem c_325_1089 : cd 325 1089 = some (.aload_n 0, 1) := by decide +kernel
theorem c_325_1090 : cd 325 1090 = some (.iload_n 3, 1) := by decide +kernel
theorem c_325_1091 : cd 325 1091 = some (.iconst (3), 1) := by decide +kernel
theorem c_325_1092 : cd 325 1092 = some (.iadd, 1) := by decide +kernel
theorem c_325_1093 : cd 325 1093 = some (.iaload, 1) := by decide +kernel
theorem c_325_1094 : cd 325 1094 = some (.invokevirtual 115, 3) := by decide +kernel
theorem c_325_1097 : cd 325 1097 = some (.aload_n 2, 1) := by decide +kernel
theorem c_325_1098 : cd 325 1098 = some (.aload_n 0, 1) := by decide +kernel
theorem c_325_1099 : cd 325 1099 = some (.iload_n 3, 1) := by decide +kernel
theorem c_325_1100 : cd 325 1100 = some (.iconst (1), 1) := by decide +kernel
theorem c_325_1101 : cd 325 1101 = some (.iadd, 1) := by decide +kernel
theorem c_325_1102 : cd 325 1102 = some (.iaload, 1) := by decide +kernel
theorem c_325_1103 : cd 325 1103 = some (.aload_n 0, 1) := by decide +kernel
theorem c_325_1104 : cd 325 1104 = some (.iload_n 3, 1) := by decide +kernel
theorem c_325_1105 : cd 325 1105 = some (.iconst (2), 1) := by decide +kernel
theorem c_325_1106 : cd 325 1106 = some (.iadd, 1) := by decide +kernel
theorem c_325_1107 : cd 325 1107 = some (.iaload, 1) := by decide +kernel
theorem c_325_1108 : cd 325 1108 = some (.aload_n 0, 1) := by decide +kernel
theorem c_325_1109 : cd 325 1109 = some (.iload_n 3, 1) := by decide +kernel
theorem c_325_1110 : cd 325 1110 = some (.iconst (3), 1) := by decide +kernel
theorem c_325_1111 : cd 325 1111 = some (.iadd, 1) := by decide +kernel
theorem c_325_1112 : cd 325 1112 = some (.iaload, 1) := by decide +kernel
theorem c_325_1113 : cd 325 1113 = some (.invokevirtual 118, 3) := by decide +kernel
theorem c_325_1116 : cd 325 1116 = some (.if_icmp .eq (961), 3) := by decide +kernel
theorem c_325_1119 : cd 325 1119 = some (.iconst (0), 1) := by decide +kernel
theorem c_325_1120 : cd 325 1120 = some (.ireturn, 1) := by decide +kernel
theorem c_325_1121 : cd 325 1121 = some (.aload_n 1, 1) := by decide +kernel
theorem c_325_1122 : cd 325 1122 = some (.aload_n 0, 1) := by decide +kernel
theorem c_325_1123 : cd 325 1123 = some (.iload_n 3, 1) := by decide +kernel
theorem c_325_1124 : cd 325 1124 = some (.iconst (1), 1) := by decide +kernel
theorem c_325_1125 : cd 325 1125 = some (.iadd, 1) := by decide +kernel
theorem c_325_1126 : cd 325 1126 = some (.iaload, 1) := by decide +kernel
theorem c_325_1127 : cd 325 1127 = some (.aload_n 0, 1) := by decide +kernel
theorem c_325_1128 : cd 325 1128 = some (.iload_n 3, 1) := by decide +kernel
theorem c_325_1129 : cd 325 1129 = some (.iconst (2), 1) := by decide +kernel
theorem c_325_1130 : cd 325 1130 = some (.iadd, 1) := by decide +kernel
theorem c_325_1131 : cd 325 1131 = some (.iaload, 1) := by decide +kernel
theorem c_325_1132 : cd 325 1132 = some (.aload_n 0, 1) := by decide +kernel
theorem c_325_1133 : cd 325 1133 = some (.iload_n 3, 1) := by decide +kernel
theorem c_325_1134 : cd 325 1134 = some (.iconst (3), 1) := by decide +kernel
theorem c_325_1135 : cd 325 1135 = some (.iadd, 1) := by decide +kernel
theorem c_325_1136 : cd 325 1136 = some (.iaload, 1) := by decide +kernel
theorem c_325_1137 : cd 325 1137 = some (.invokevirtual 119, 3) := by decide +kernel
theorem c_325_1140 : cd 325 1140 = some (.aload_n 2, 1) := by decide +kernel
theorem c_325_1141 : cd 325 1141 = some (.aload_n 0, 1) := by decide +kernel
theorem c_325_1142 : cd 325 1142 = some (.iload_n 3, 1) := by decide +kernel
theorem c_325_1143 : cd 325 1143 = some (.iconst (1), 1) := by decide +kernel
theorem c_325_1144 : cd 325 1144 = some (.iadd, 1) := by decide +kernel
theorem c_325_1145 : cd 325 1145 = some (.iaload, 1) := by decide +kernel
theorem c_325_1146 : cd 325 1146 = some (.aload_n 0, 1) := by decide +kernel
theorem c_325_1147 : cd 325 1147 = some (.iload_n 3, 1) := by decide +kernel
theorem c_325_1148 : cd 325 1148 = some (.iconst (2), 1) := by decide +kernel
theorem c_325_1149 : cd 325 1149 = some (.iadd, 1) := by decide +kernel
theorem c_325_1150 : cd 325 1150 = some (.iaload, 1) := by decide +kernel
theorem c_325_1151 : cd 325 1151 = some (.aload_n 0, 1) := by decide +kernel
theorem c_325_1152 : cd 325 1152 = some (.iload_n 3, 1) := by decide +kernel
theorem c_325_1153 : cd 325 1153 = some (.iconst (3), 1) := by decide +kernel
theorem c_325_1154 : cd 325 1154 = some (.iadd, 1) := by decide +kernel
theorem c_325_1155 : cd 325 1155 = some (.iaload, 1) := by decide +kernel
theorem c_325_1156 : cd 325 1156 = some (.invokevirtual 122, 3) := by decide +kernel
theorem c_325_1159 : cd 325 1159 = some (.if_icmp .eq (918), 3) := by decide +kernel
theorem c_325_1162 : cd 325 1162 = some (.iconst (0), 1) := by decide +kernel
theorem c_325_1163 : cd 325 1163 = some (.ireturn, 1) := by decide +kernel
theorem c_325_1164 : cd 325 1164 = some (.aload_n 1, 1) := by decide +kernel
theorem c_325_1165 : cd 325 1165 = some (.aload_n 0, 1) := by decide +kernel
theorem c_325_1166 : cd 325 1166 = some (.iload_n 3, 1) := by decide +kernel
theorem c_325_1167 : cd 325 1167 = some (.iconst (1), 1) := by decide +kernel
theorem c_325_1168 : cd 325 1168 = some (.iadd, 1) := by decide +kernel
theorem c_325_1169 : cd 325 1169 = some (.iaload, 1) := by decide +kernel
theorem c_325_1170 : cd 325 1170 = some (.aload_n 0, 1) := by decide +kernel
theorem c_325_1171 : cd 325 1171 = some (.iload_n 3, 1) := by decide +kernel
theorem c_325_1172 : cd 325 1172 = some (.iconst (2), 1) := by decide +kernel
theorem c_325_1173 : cd 325 1173 = some (.iadd, 1) := by decide +kernel
theorem c_325_1174 : cd 325 1174 = some (.iaload, 1) := by decide +kernel
theorem c_325_1175 : cd 325 1175 = some (.invokevirtual 123, 3) := by decide +kernel
theorem c_325_1178 : cd 325 1178 = some (.aload_n 2, 1) := by decide +kernel
theorem c_325_1179 : cd 325 1179 = some (.aload_n 0, 1) := by decide +kernel
theorem c_325_1180 : cd 325 1180 = some (.iload_n 3, 1) := by decide +kernel
theorem c_325_1181 : cd 325 1181 = some (.iconst (1), 1) := by decide +kernel
theorem c_325_1182 : cd 325 1182 = some (.iadd, 1) := by decide +kernel
theorem c_325_1183 : cd 325 1183 = some (.iaload, 1) := by decide +kernel
theorem c_325_1184 : cd 325 1184 = some (.aload_n 0, 1) := by decide +kernel
theorem c_325_1185 : cd 325 1185 = some (.iload_n 3, 1) := by decide +kernel
theorem c_325_1186 : cd 325 1186 = some (.iconst (2), 1) := by decide +kernel
theorem c_325_1187 : cd 325 1187 = some (.iadd, 1) := by decide +kernel
theorem c_325_1188 : cd 325 1188 = some (.iaload, 1) := by decide +kernel
theorem c_325_1189 : cd 325 1189 = some (.invokevirtual 126, 3) := by decide +kernel
theorem c_325_1192 : cd 325 1192 = some (.if_icmp .eq (885), 3) := by decide +kernel
theorem c_325_1195 : cd 325 1195 = some (.iconst (0), 1) := by decide +kernel
theorem c_325_1196 : cd 325 1196 = some (.ireturn, 1) := by decide +kernel
theorem c_325_1197 : cd 325 1197 = some (.aload_n 1, 1) := by decide +kernel
theorem c_325_1198 : cd 325 1198 = some (.aload_n 0, 1) := by decide +kernel
theorem c_325_1199 : cd 325 1199 = some (.iload_n 3, 1) := by decide +kernel
theorem c_325_1200 : cd 325 1200 = some (.iconst (1), 1) := by decide +kernel
theorem c_325_1201 : cd 325 1201 = some (.iadd, 1) := by decide +kernel
theorem c_325_1202 : cd 325 1202 = some (.iaload, 1) := by decide +kernel
theorem c_325_1203 : cd 325 1203 = some (.invokevirtual 127, 3) := by decide +kernel
theorem c_325_1206 : cd 325 1206 = some (.aload_n 2, 1) := by decide +kernel
theorem c_325_1207 : cd 325 1207 = some (.aload_n 0, 1) := by decide +kernel
theorem c_325_1208 : cd 325 1208 = some (.iload_n 3, 1) := by decide +kernel
theorem c_325_1209 : cd 325 1209 = some (.iconst (1), 1) := by decide +kernel
theorem c_325_1210 : cd 325 1210 = some (.iadd, 1) := by decide +kernel
theorem c_325_1211 : cd 325 1211 = some (.iaload, 1) := by decide +kernel
theorem c_325_1212 : cd 325 1212 = some (.invokevirtual 130, 3) := by decide +kernel
theorem c_325_1215 : cd 325 1215 = some (.if_icmp .eq (862), 3) := by decide +kernel
theorem c_325_1218 : cd 325 1218 = some (.iconst (0), 1) := by decide +kernel
theorem c_325_1219 : cd 325 1219 = some (.ireturn, 1) := by decide +kernel
theorem c_325_1220 : cd 325 1220 = some (.aload_n 1, 1) := by decide +kernel
theorem c_325_1221 : cd 325 1221 = some (.aload_n 0, 1) := by decide +kernel
theorem c_325_1222 : cd 325 1222 = some (.iload_n 3, 1) := by decide +kernel
theorem c_325_1223 : cd 325 1223 = some (.iconst (1), 1) := by decide +kernel
theorem c_325_1224 : cd 325 1224 = some (.iadd, 1) := by decide +kernel
theorem c_325_1225 : cd 325 1225 = some (.iaload, 1) := by decide +kernel
theorem c_325_1226 : cd 325 1226 = some (.invokevirtual 131, 3) := by decide +kernel
theorem c_325_1229 : cd 325 1229 = some (.aload_n 2, 1) := by decide +kernel
theorem c_325_1230 : cd 325 1230 = some (.aload_n 0, 1) := by decide +kernel
theorem c_325_1231 : cd 325 1231 = some (.iload_n 3, 1) := by decide +kernel
theorem c_325_1232 : cd 325 1232 = some (.iconst (1), 1) := by decide +kernel
theorem c_325_1233 : cd 325 1233 = some (.iadd, 1) := by decide +kernel
theorem c_325_1234 : cd 325 1234 = some (.iaload, 1) := by decide +kernel
theorem c_325_1235 : cd 325 1235 = some (.invokevirtual 134, 3) := by decide +kernel
theorem c_325_1238 : cd 325 1238 = some (.if_icmp .eq (839), 3) := by decide +kernel
theorem c_325_1241 : cd 325 1241 = some (.iconst (0), 1) := by decide +kernel
theorem c_325_1242 : cd 325 1242 = some (.ireturn, 1) := by decide +kernel
theorem c_325_1243 : cd 325 1243 = some (.aload_n 1, 1) := by decide +kernel
theorem c_325_1244 : cd 325 1244 = some (.aload_n 0, 1) := by decide +kernel
theorem c_325_1245 : cd 325 1245 = some (.iload_n 3, 1) := by decide +kernel
theorem c_325_1246 : cd 325 1246 = some (.iconst (1), 1) := by decide +kernel
theorem c_325_1247 : cd 325 1247 = some (.iadd, 1) := by decide +kernel
theorem c_325_1248 : cd 325 1248 = some (.iaload, 1) := by decide +kernel
theorem c_325_1249 : cd 325 1249 = some (.aload_n 0, 1) := by decide +kernel
theorem c_325_1250 : cd 325 1250 = some (.iload_n 3, 1) := by decide +kernel
theorem c_325_1251 : cd 325 1251 = some (.iconst (2), 1) := by decide +kernel
theorem c_325_1252 : cd 325 1252 = some (.iadd, 1) := by decide +kernel
theorem c_325_1253 : cd 325 1253 = some (.iaload, 1) := by decide +kernel
theorem c_325_1254 : cd 325 1254 = some (.invokevirtual 135, 3) := by decide +kernel
theorem c_325_1257 : cd 325 1257 = some (.aload_n 2, 1) := by decide +kernel
theorem c_325_1258 : cd 325 1258 = some (.aload_n 0, 1) := by decide +kernel
theorem c_325_1259 : cd 325 1259 = some (.iload_n 3, 1) := by decide +kernel
theorem c_325_1260 : cd 325 1260 = some (.iconst (1), 1) := by decide +kernel
theorem c_325_1261 : cd 325 1261 = some (.iadd, 1) := by decide +kernel
theorem c_325_1262 : cd 325 1262 = some (.iaload, 1) := by decide +kernel
theorem c_325_1263 : cd 325 1263 = some (.aload_n 0, 1) := by decide +kernel
theorem c_325_1264 : cd 325 1264 = some (.iload_n 3, 1) := by decide +kernel
theorem c_325_1265 : cd 325 1265 = some (.iconst (2), 1) := by decide +kernel
theorem c_325_1266 : cd 325 1266 = some (.iadd, 1) := by decide +kernel
theorem c_325_1267 : cd 325 1267 = some (.iaload, 1) := by decide +kernel
theorem c_325_1268 : cd 325 1268 = some (.invokevirtual 138, 3) := by decide +kernel
theorem c_325_1271 : cd 325 1271 = some (.if_icmp .eq (806), 3) := by decide +kernel
theorem c_325_1274 : cd 325 1274 = some (.iconst (0), 1) := by decide +kernel
theorem c_325_1275 : cd 325 1275 = some (.ireturn, 1) := by decide +kernel
theorem c_325_1276 : cd 325 1276 = some (.aload_n 1, 1) := by decide +kernel
theorem c_325_1277 : cd 325 1277 = some (.aload_n 0, 1) := by decide +kernel
theorem c_325_1278 : cd 325 1278 = some (.iload_n 3, 1) := by decide +kernel
theorem c_325_1279 : cd 325 1279 = some (.iconst (1), 1) := by decide +kernel
theorem c_325_1280 : cd 325 1280 = some (.iadd, 1) := by decide +kernel
theorem c_325_1281 : cd 325 1281 = some (.iaload, 1) := by decide +kernel
theorem c_325_1282 : cd 325 1282 = some (.aload_n 0, 1) := by decide +kernel
theorem c_325_1283 : cd 325 1283 = some (.iload_n 3, 1) := by decide +kernel
theorem c_325_1284 : cd 325 1284 = some (.iconst (2), 1) := by decide +kernel
theorem c_325_1285 : cd 325 1285 = some (.iadd, 1) := by decide +kernel
theorem c_325_1286 : cd 325 1286 = some (.iaload, 1) := by decide +kernel
theorem c_325_1287 : cd 325 1287 = some (.invokevirtual 139, 3) := by decide +kernel
theorem c_325_1290 : cd 325 1290 = some (.aload_n 2, 1) := by decide +kernel
theorem c_325_1291 : cd 325 1291 = some (.aload_n 0, 1) := by decide +kernel
theorem c_325_1292 : cd 325 1292 = some (.iload_n 3, 1) := by decide +kernel
theorem c_325_1293 : cd 325 1293 = some (.iconst (1), 1) := by decide +kernel
theorem c_325_1294 : cd 325 1294 = some (.iadd, 1) := by decide +kernel
theorem c_325_1295 : cd 325 1295 = some (.iaload, 1) := by decide +kernel
theorem c_325_1296 : cd 325 1296 = some (.aload_n 0, 1) := by decide +kernel
theorem c_325_1297 : cd 325 1297 = some (.iload_n 3, 1) := by decide +kernel
theorem c_325_1298 : cd 325 1298 = some (.iconst (2), 1) := by decide +kernel
theorem c_325_1299 : cd 325 1299 = some (.iadd, 1) := by decide +kernel
theorem c_325_1300 : cd 325 1300 = some (.iaload, 1) := by decide +kernel
theorem c_325_1301 : cd 325 1301 = some (.invokevirtual 142, 3) := by decide +kernel
theorem c_325_1304 : cd 325 1304 = some (.if_icmp .eq (773), 3) := by decide +kernel
theorem c_325_1307 : cd 325 1307 = some (.iconst (0), 1) := by decide +kernel
theorem c_325_1308 : cd 325 1308 = some (.ireturn, 1) := by decide +kernel
theorem c_325_1309 : cd 325 1309 = some (.aload_n 1, 1) := by decide +kernel
theorem c_325_1310 : cd 325 1310 = some (.aload_n 0, 1) := by decide +kernel
theorem c_325_1311 : cd 325 1311 = some (.iload_n 3, 1) := by decide +kernel
theorem c_325_1312 : cd 325 1312 = some (.iconst (1), 1) := by decide +kernel
theorem c_325_1313 : cd 325 1313 = some (.iadd, 1) := by decide +kernel
theorem c_325_1314 : cd 325 1314 = some (.iaload, 1) := by decide +kernel
theorem c_325_1315 : cd 325 1315 = some (.invokevirtual 143, 3) := by decide +kernel
theorem c_325_1318 : cd 325 1318 = some (.aload_n 2, 1) := by decide +kernel
theorem c_325_1319 : cd 325 1319 = some (.aload_n 0, 1) := by decide +kernel
theorem c_325_1320 : cd 325 1320 = some (.iload_n 3, 1) := by decide +kernel
theorem c_325_1321 : cd 325 1321 = some (.iconst (1), 1) := by decide +kernel
theorem c_325_1322 : cd 325 1322 = some (.iadd, 1) := by decide +kernel
theorem c_325_1323 : cd 325 1323 = some (.iaload, 1) := by decide +kernel
theorem c_325_1324 : cd 325 1324 = some (.invokevirtual 146, 3) := by decide +kernel
theorem c_325_1327 : cd 325 1327 = some (.if_icmp .eq (750), 3) := by decide +kernel
theorem c_325_1330 : cd 325 1330 = some (.iconst (0), 1) := by decide +kernel
theorem c_325_1331 : cd 325 1331 = some (.ireturn, 1) := by decide +kernel
theorem c_325_1332 : cd 325 1332 = some (.aload_n 1, 1) := by decide +kernel
theorem c_325_1333 : cd 325 1333 = some (.aload_n 0, 1) := by decide +kernel
theorem c_325_1334 : cd 325 1334 = some (.iload_n 3, 1) := by decide +kernel
theorem c_325_1335 : cd 325 1335 = some (.iconst (1), 1) := by decide +kernel
theorem c_325_1336 : cd 325 1336 = some (.iadd, 1) := by decide +kernel
theorem c_325_1337 : cd 325 1337 = some (.iaload, 1) := by decide +kernel
theorem c_325_1338 : cd 325 1338 = some (.aload_n 0, 1) := by decide +kernel
theorem c_325_1339 : cd 325 1339 = some (.iload_n 3, 1) := by decide +kernel
theorem c_325_1340 : cd 325 1340 = some (.iconst (2), 1) := by decide +kernel
theorem c_325_1341 : cd 325 1341 = some (.iadd, 1) := by decide +kernel
theorem c_325_1342 : cd 325 1342 = some (.iaload, 1) := by decide +kernel
theorem c_325_1343 : cd 325 1343 = some (.invokevirtual 147, 3) := by decide +kernel
theorem c_325_1346 : cd 325 1346 = some (.aload_n 2, 1) := by decide +kernel
theorem c_325_1347 : cd 325 1347 = some (.aload_n 0, 1) := by decide +kernel
theorem c_325_1348 : cd 325 1348 = some (.iload_n 3, 1) := by decide +kernel
theorem c_325_1349 : cd 325 1349 = some (.iconst (1), 1) := by decide +kernel
theorem c_325_1350 : cd 325 1350 = some (.iadd, 1) := by decide +kernel
theorem c_325_1351 : cd 325 1351 = some (.iaload, 1) := by decide +kernel
theorem c_325_1352 : cd 325 1352 = some (.aload_n 0, 1) := by decide +kernel
theorem c_325_1353 : cd 325 1353 = some (.iload_n 3, 1) := by decide +kernel
theorem c_325_1354 : cd 325 1354 = some (.iconst (2), 1) := by decide +kernel
theorem c_325_1355 : cd 325 1355 = some (.iadd, 1) := by decide +kernel
theorem c_325_1356 : cd 325 1356 = some (.iaload, 1) := by decide +kernel
theorem c_325_1357 : cd 325 1357 = some (.invokevirtual 150, 3) := by decide +kernel
theorem c_325_1360 : cd 325 1360 = some (.if_icmp .eq (717), 3) := by decide +kernel
theorem c_325_1363 : cd 325 1363 = some (.iconst (0), 1) := by decide +kernel
theorem c_325_1364 : cd 325 1364 = some (.ireturn, 1) := by decide +kernel
theorem c_325_1365 : cd 325 1365 = some (.aload_n 1, 1) := by decide +kernel
theorem c_325_1366 : cd 325 1366 = some (.aload_n 0, 1) := by decide +kernel
theorem c_325_1367 : cd 325 1367 = some (.iload_n 3, 1) := by decide +kernel
theorem c_325_1368 : cd 325 1368 = some (.iconst (1), 1) := by decide +kernel
theorem c_325_1369 : cd 325 1369 = some (.iadd, 1) := by decide +kernel
theorem c_325_1370 : cd 325 1370 = some (.iaload, 1) := by decide +kernel
theorem c_325_1371 : cd 325 1371 = some (.invokevirtual 151, 3) := by decide +kernel
theorem c_325_1374 : cd 325 1374 = some (.aload_n 2, 1) := by decide +kernel
theorem c_325_1375 : cd 325 1375 = some (.aload_n 0, 1) := by decide +kernel
theorem c_325_1376 : cd 325 1376 = some (.iload_n 3, 1) := by decide +kernel
theorem c_325_1377 : cd 325 1377 = some (.iconst (1), 1) := by decide +kernel
theorem c_325_1378 : cd 325 1378 = some (.iadd, 1) := by decide +kernel
theorem c_325_1379 : cd 325 1379 = some (.iaload, 1) := by decide +kernel
theorem c_325_1380 : cd 325 1380 = some (.invokevirtual 154, 3) := by decide +kernel
theorem c_325_1383 : cd 325 1383 = some (.if_icmp .eq (694), 3) := by decide +kernel
theorem c_325_1386 : cd 325 1386 = some (.iconst (0), 1) := by decide +kernel
theorem c_325_1387 : cd 325 1387 = some (.ireturn, 1) := by decide +kernel
theorem c_325_1388 : cd 325 1388 = some (.aload_n 1, 1) := by decide +kernel
theorem c_325_1389 : cd 325 1389 = some (.aload_n 0, 1) := by decide +kernel
theorem c_325_1390 : cd 325 1390 = some (.iload_n 3, 1) := by decide +kernel
theorem c_325_1391 : cd 325 1391 = some (.iconst (1), 1) := by decide +kernel
theorem c_325_1392 : cd 325 1392 = some (.iadd, 1) := by decide +kernel
theorem c_325_1393 : cd 325 1393 = some (.iaload, 1) := by decide +kernel
theorem c_325_1394 : cd 325 1394 = some (.invokevirtual 155, 3) := by decide +kernel
theorem c_325_1397 : cd 325 1397 = some (.aload_n 2, 1) := by decide +kernel
theorem c_325_1398 : cd 325 1398 = some (.aload_n 0, 1) := by decide +kernel
theorem c_325_1399 : cd 325 1399 = some (.iload_n 3, 1) := by decide +kernel
theorem c_325_1400 : cd 325 1400 = some (.iconst (1), 1) := by decide +kernel
theorem c_325_1401 : cd 325 1401 = some (.iadd, 1) := by decide +kernel
theorem c_325_1402 : cd 325 1402 = some (.iaload, 1) := by decide +kernel
theorem c_325_1403 : cd 325 1403 = some (.invokevirtual 158, 3) := by decide +kernel
theorem c_325_1406 : cd 325 1406 = some (.if_icmp .eq (671), 3) := by decide +kernel
theorem c_325_1409 : cd 325 1409 = some (.iconst (0), 1) := by decide +kernel
theorem c_325_1410 : cd 325 1410 = some (.ireturn, 1) := by decide +kernel
theorem c_325_1411 : cd 325 1411 = some (.aload_n 1, 1) := by decide +kernel
theorem c_325_1412 : cd 325 1412 = some (.aload_n 0, 1) := by decide +kernel
theorem c_325_1413 : cd 325 1413 = some (.iload_n 3, 1) := by decide +kernel
theorem c_325_1414 : cd 325 1414 = some (.iconst (1), 1) := by decide +kernel
theorem c_325_1415 : cd 325 1415 = some (.iadd, 1) := by decide +kernel
theorem c_325_1416 : cd 325 1416 = some (.iaload, 1) := by decide +kernel
theorem c_325_1417 : cd 325 1417 = some (.invokevirtual 159, 3) := by decide +kernel
theorem c_325_1420 : cd 325 1420 = some (.aload_n 2, 1) := by decide +kernel
theorem c_325_1421 : cd 325 1421 = some (.aload_n 0, 1) := by decide +kernel
theorem c_325_1422 : cd 325 1422 = some (.iload_n 3, 1) := by decide +kernel
theorem c_325_1423 : cd 325 1423 = some (.iconst (1), 1) := by decide +kernel
theorem c_325_1424 : cd 325 1424 = some (.iadd, 1) := by decide +kernel
theorem c_325_1425 : cd 325 1425 = some (.iaload, 1) := by decide +kernel
theorem c_325_1426 : cd 325 1426 = some (.invokevirtual 162, 3) := by decide +kernel
theorem c_325_1429 : cd 325 1429 = some (.if_icmp .eq (648), 3) := by decide +kernel
theorem c_325_1432 : cd 325 1432 = some (.iconst (0), 1) := by decide +kernel
theorem c_325_1433 : cd 325 1433 = some (.ireturn, 1) := by decide +kernel
theorem c_325_1434 : cd 325 1434 = some (.aload_n 1, 1) := by decide +kernel
theorem c_325_1435 : cd 325 1435 = some (.aload_n 0, 1) := by decide +kernel
theorem c_325_1436 : cd 325 1436 = some (.iload_n 3, 1) := by decide +kernel
theorem c_325_1437 : cd 325 1437 = some (.iconst (1), 1) := by decide +kernel
theorem c_325_1438 : cd 325 1438 = some (.iadd, 1) := by decide +kernel
theorem c_325_1439 : cd 325 1439 = some (.iaload, 1) := by decide +kernel
theorem c_325_1440 : cd 325 1440 = some (.aload_n 0, 1) := by decide +kernel
theorem c_325_1441 : cd 325 1441 = some (.iload_n 3, 1) := by decide +kernel
theorem c_325_1442 : cd 325 1442 = some (.iconst (2), 1) := by decide +kernel
theorem c_325_1443 : cd 325 1443 = some (.iadd, 1) := by decide +kernel
theorem c_325_1444 : cd 325 1444 = some (.iaload, 1) := by decide +kernel
theorem c_325_1445 : cd 325 1445 = some (.aload_n 0, 1) := by decide +kernel
theorem c_325_1446 : cd 325 1446 = some (.iload_n 3, 1) := by decide +kernel
theorem c_325_1447 : cd 325 1447 = some (.iconst (3), 1) := by decide +kernel
theorem c_325_1448 : cd 325 1448 = some (.iadd, 1) := by decide +kernel
theorem c_325_1449 : cd 325 1449 = some (.iaload, 1) := by decide +kernel
theorem c_325_1450 : cd 325 1450 = some (.invokevirtual 163, 3) := by decide +kernel
theorem c_325_1453 : cd 325 1453 = some (.aload_n 2, 1) := by decide +kernel
theorem c_325_1454 : cd 325 1454 = some (.aload_n 0, 1) := by decide +kernel
theorem c_325_1455 : cd 325 1455 = some (.iload_n 3, 1) := by decide +kernel
theorem c_325_1456 : cd 325 1456 = some (.iconst (1), 1) := by decide +kernel
theorem c_325_1457 : cd 325 1457 = some (.iadd, 1) := by decide +kernel
theorem c_325_1458 : cd 325 1458 = some (.iaload, 1) := by decide +kernel
theorem c_325_1459 : cd 325 1459 = some (.aload_n 0, 1) := by decide +kernel
theorem c_325_1460 : cd 325 1460 = some (.iload_n 3, 1) := by decide +kernel
theorem c_325_1461 : cd 325 1461 = some (.iconst (2), 1) := by decide +kernel
theorem c_325_1462 : cd 325 1462 = some (.iadd, 1) := by decide +kernel
theorem c_325_1463 : cd 325 1463 = some (.iaload, 1) := by decide +kernel
theorem c_325_1464 : cd 325 1464 = some (.aload_n 0, 1) := by decide +kernel
theorem c_325_1465 : cd 325 1465 = some (.iload_n 3, 1) := by decide +kernel
theorem c_325_1466 : cd 325 1466 = some (.iconst (3), 1) := by decide +kernel
theorem c_325_1467 : cd 325 1467 = some (.iadd, 1) := by decide +kernel
theorem c_325_1468 : cd 325 1468 = some (.iaload, 1) := by decide +kernel
theorem c_325_1469 : cd 325 1469 = some (.invokevirtual 166, 3) := by decide +kernel
theorem c_325_1472 : cd 325 1472 = some (.if_icmp .eq (605), 3) := by decide +kernel
theorem c_325_1475 : cd 325 1475 = some (.iconst (0), 1) := by decide +kernel
theorem c_325_1476 : cd 325 1476 = some (.ireturn, 1) := by decide +kernel
theorem c_325_1477 : cd 325 1477 = some (.aload_n 1, 1) := by decide +kernel
theorem c_325_1478 : cd 325 1478 = some (.aload_n 0, 1) := by decide +kernel
theorem c_325_1479 : cd 325 1479 = some (.iload_n 3, 1) := by decide +kernel
theorem c_325_1480 : cd 325 1480 = some (.iconst (1), 1) := by decide +kernel
theorem c_325_1481 : cd 325 1481 = some (.iadd, 1) := by decide +kernel
theorem c_325_1482 : cd 325 1482 = some (.iaload, 1) := by decide +kernel
theorem c_325_1483 : cd 325 1483 = some (.invokevirtual 167, 3) := by decide +kernel
theorem c_325_1486 : cd 325 1486 = some (.aload_n 2, 1) := by decide +kernel
theorem c_325_1487 : cd 325 1487 = some (.aload_n 0, 1) := by decide +kernel
theorem c_325_1488 : cd 325 1488 = some (.iload_n 3, 1) := by decide +kernel
theorem c_325_1489 : cd 325 1489 = some (.iconst (1), 1) := by decide +kernel
theorem c_325_1490 : cd 325 1490 = some (.iadd, 1) := by decide +kernel
theorem c_325_1491 : cd 325 1491 = some (.iaload, 1) := by decide +kernel
theorem c_325_1492 : cd 325 1492 = some (.invokevirtual 170, 3) := by decide +kernel
theorem c_325_1495 : cd 325 1495 = some (.if_icmp .eq (582), 3) := by decide +kernel
theorem c_325_1498 : cd 325 1498 = some (.iconst (0), 1) := by decide +kernel
theorem c_325_1499 : cd 325 1499 = some (.ireturn, 1) := by decide +kernel
theorem c_325_1500 : cd 325 1500 = some (.aload_n 1, 1) := by decide +kernel
theorem c_325_1501 : cd 325 1501 = some (.aload_n 0, 1) := by decide +kernel
theorem c_325_1502 : cd 325 1502 = some (.iload_n 3, 1) := by decide +kernel
theorem c_325_1503 : cd 325 1503 = some (.iconst (1), 1) := by decide +kernel
theorem c_325_1504 : cd 325 1504 = some (.iadd, 1) := by decide +kernel
theorem c_325_1505 : cd 325 1505 = some (.iaload, 1) := by decide +kernel
theorem c_325_1506 : cd 325 1506 = some (.invokevirtual 171, 3) := by decide +kernel
theorem c_325_1509 : cd 325 1509 = some (.aload_n 2, 1) := by decide +kernel
theorem c_325_1510 : cd 325 1510 = some (.aload_n 0, 1) := by decide +kernel
theorem c_325_1511 : cd 325 1511 = some (.iload_n 3, 1) := by decide +kernel
theorem c_325_1512 : cd 325 1512 = some (.iconst (1), 1) := by decide +kernel
theorem c_325_1513 : cd 325 1513 = some (.iadd, 1) := by decide +kernel
theorem c_325_1514 : cd 325 1514 = some (.iaload, 1) := by decide +kernel
theorem c_325_1515 : cd 325 1515 = some (.invokevirtual 174, 3) := by decide +kernel
theorem c_325_1518 : cd 325 1518 = some (.if_icmp .eq (559), 3) := by decide +kernel
theorem c_325_1521 : cd 325 1521 = some (.iconst (0), 1) := by decide +kernel
theorem c_325_1522 : cd 325 1522 = some (.ireturn, 1) := by decide +kernel
theorem c_325_1523 : cd 325 1523 = some (.aload_n 1, 1) := by decide +kernel
theorem c_325_1524 : cd 325 1524 = some (.aload_n 0, 1) := by decide +kernel
theorem c_325_1525 : cd 325 1525 = some (.iload_n 3, 1) := by decide +kernel
theorem c_325_1526 : cd 325 1526 = some (.iconst (1), 1) := by decide +kernel
theorem c_325_1527 : cd 325 1527 = some (.iadd, 1) := by decide +kernel
theorem c_325_1528 : cd 325 1528 = some (.iaload, 1) := by decide +kernel
theorem c_325_1529 : cd 325 1529 = some (.aload_n 0, 1) := by decide +kernel
theorem c_325_1530 : cd 325 1530 = some (.iload_n 3, 1) := by decide +kernel
theorem c_325_1531 : cd 325 1531 = some (.iconst (2), 1) := by decide +kernel
theorem c_325_1532 : cd 325 1532 = some (.iadd, 1) := by decide +kernel
theorem c_325_1533 : cd 325 1533 = some (.iaload, 1) := by decide +kernel
theorem c_325_1534 : cd 325 1534 = some (.aload_n 0, 1) := by decide +kernel
theorem c_325_1535 : cd 325 1535 = some (.iload_n 3, 1) := by decide +kernel
theorem c_325_1536 : cd 325 1536 = some (.iconst (3), 1) := by decide +kernel
theorem c_325_1537 : cd 325 1537 = some (.iadd, 1) := by decide +kernel
theorem c_325_1538 : cd 325 1538 = some (.iaload, 1) := by decide +kernel
theorem c_325_1539 : cd 325 1539 = some (.invokevirtual 175, 3) := by decide +kernel
theorem c_325_1542 : cd 325 1542 = some (.aload_n 2, 1) := by decide +kernel
theorem c_325_1543 : cd 325 1543 = some (.aload_n 0, 1) := by decide +kernel
theorem c_325_1544 : cd 325 1544 = some (.iload_n 3, 1) := by decide +kernel
theorem c_325_1545 : cd 325 1545 = some (.iconst (1), 1) := by decide +kernel
theorem c_325_1546 : cd 325 1546 = some (.iadd, 1) := by decide +kernel
theorem c_325_1547 : cd 325 1547 = some (.iaload, 1) := by decide +kernel
theorem c_325_1548 : cd 325 1548 = some (.aload_n 0, 1) := by decide +kernel
theorem c_325_1549 : cd 325 1549 = some (.iload_n 3, 1) := by decide +kernel
theorem c_325_1550 : cd 325 1550 = some (.iconst (2), 1) := by decide +kernel
theorem c_325_1551 : cd 325 1551 = some (.iadd, 1) := by decide +kernel
theorem c_325_1552 : cd 325 1552 = some (.iaload, 1) := by decide +kernel
theorem c_325_1553 : cd 325 1553 = some (.aload_n 0, 1) := by decide +kernel
theorem c_325_1554 : cd 325 1554 = some (.iload_n 3, 1) := by decide +kernel
theorem c_325_1555 : cd 325 1555 = some (.iconst (3), 1) := by decide +kernel
theorem c_325_1556 : cd 325 1556 = some (.iadd, 1) := by decide +kernel
theorem c_325_1557 : cd 325 1557 = some (.iaload, 1) := by decide +kernel
theorem c_325_1558 : cd 325 1558 = some (.invokevirtual 178, 3) := by decide +kernel
theorem c_325_1561 : cd 325 1561 = some (.if_icmp .eq (516), 3) := by decide +kernel
theorem c_325_1564 : cd 325 1564 = some (.iconst (0), 1) := by decide +kernel
theorem c_325_1565 : cd 325 1565 = some (.ireturn, 1) := by decide +kernel
theorem c_325_1566 : cd 325 1566 = some (.aload_n 1, 1) := by decide +kernel
theorem c_325_1567 : cd 325 1567 = some (.aload_n 0, 1) := by decide +kernel
theorem c_325_1568 : cd 325 1568 = some (.iload_n 3, 1) := by decide +kernel
theorem c_325_1569 : cd 325 1569 = some (.iconst (1), 1) := by decide +kernel
theorem c_325_1570 : cd 325 1570 = some (.iadd, 1) := by decide +kernel
theorem c_325_1571 : cd 325 1571 = some (.iaload, 1) := by decide +kernel
theorem c_325_1572 : cd 325 1572 = some (.aload_n 0, 1) := by decide +kernel
theorem c_325_1573 : cd 325 1573 = some (.iload_n 3, 1) := by decide +kernel
theorem c_325_1574 : cd 325 1574 = some (.iconst (2), 1) := by decide +kernel
theorem c_325_1575 : cd 325 1575 = some (.iadd, 1) := by decide +kernel
theorem c_325_1576 : cd 325 1576 = some (.iaload, 1) := by decide +kernel
theorem c_325_1577 : cd 325 1577 = some (.aload_n 0, 1) := by decide +kernel
theorem c_325_1578 : cd 325 1578 = some (.iload_n 3, 1) := by decide +kernel
theorem c_325_1579 : cd 325 1579 = some (.iconst (3), 1) := by decide +kernel
theorem c_325_1580 : cd 325 1580 = some (.iadd, 1) := by decide +kernel
theorem c_325_1581 : cd 325 1581 = some (.iaload, 1) := by decide +kernel
theorem c_325_1582 : cd 325 1582 = some (.invokevirtual 179, 3) := by decide +kernel
theorem c_325_1585 : cd 325 1585 = some (.aload_n 2, 1) := by decide +kernel
theorem c_325_1586 : cd 325 1586 = some (.aload_n 0, 1) := by decide +kernel
theorem c_325_1587 : cd 325 1587 = some (.iload_n 3, 1) := by decide +kernel
theorem c_325_1588 : cd 325 1588 = some (.iconst (1), 1) := by decide +kernel
theorem c_325_1589 : cd 325 1589 = some (.iadd, 1) := by decide +kernel
theorem c_325_1590 : cd 325 1590 = some (.iaload, 1) := by decide +kernel
theorem c_325_1591 : cd 325 1591 = some (.aload_n 0, 1) := by decide +kernel
theorem c_325_1592 : cd 325 1592 = some (.iload_n 3, 1) := by decide +kernel
theorem c_325_1593 : cd 325 1593 = some (.iconst (2), 1) := by decide +kernel
theorem c_325_1594 : cd 325 1594 = some (.iadd, 1) := by decide +kernel
theorem c_325_1595 : cd 325 1595 = some (.iaload, 1) := by decide +kernel
theorem c_325_1596 : cd 325 1596 = some (.aload_n 0, 1) := by decide +kernel
theorem c_325_1597 : cd 325 1597 = some (.iload_n 3, 1) := by decide +kernel
theorem c_325_1598 : cd 325 1598 = some (.iconst (3), 1) := by decide +kernel
theorem c_325_1599 : cd 325 1599 = some (.iadd, 1) := by decide +kernel
theorem c_325_1600 : cd 325 1600 = some (.iaload, 1) := by decide +kernel
theorem c_325_1601 : cd 325 1601 = some (.invokevirtual 182, 3) := by decide +kernel
theorem c_325_1604 : cd 325 1604 = some (.if_icmp .eq (473), 3) := by decide +kernel
theorem c_325_1607 : cd 325 1607 = some (.iconst (0), 1) := by decide +kernel
theorem c_325_1608 : cd 325 1608 = some (.ireturn, 1) := by decide +kernel
theorem c_325_1609 : cd 325 1609 = some (.aload_n 1, 1) := by decide +kernel
theorem c_325_1610 : cd 325 1610 = some (.aload_n 0, 1) := by decide +kernel
theorem c_325_1611 : cd 325 1611 = some (.iload_n 3, 1) := by decide +kernel
theorem c_325_1612 : cd 325 1612 = some (.iconst (1), 1) := by decide +kernel
theorem c_325_1613 : cd 325 1613 = some (.iadd, 1) := by decide +kernel
theorem c_325_1614 : cd 325 1614 = some (.iaload, 1) := by decide +kernel
theorem c_325_1615 : cd 325 1615 = some (.aload_n 0, 1) := by decide +kernel
theorem c_325_1616 : cd 325 1616 = some (.iload_n 3, 1) := by decide +kernel
theorem c_325_1617 : cd 325 1617 = some (.iconst (2), 1) := by decide +kernel
theorem c_325_1618 : cd 325 1618 = some (.iadd, 1) := by decide +kernel
theorem c_325_1619 : cd 325 1619 = some (.iaload, 1) := by decide +kernel
theorem c_325_1620 : cd 325 1620 = some (.invokevirtual 183, 3) := by decide +kernel
theorem c_325_1623 : cd 325 1623 = some (.aload_n 2, 1) := by decide +kernel
theorem c_325_1624 : cd 325 1624 = some (.aload_n 0, 1) := by decide +kernel
theorem c_325_1625 : cd 325 1625 = some (.iload_n 3, 1) := by decide +kernel
theorem c_325_1626 : cd 325 1626 = some (.iconst (1), 1) := by decide +kernel
theorem c_325_1627 : cd 325 1627 = some (.iadd, 1) := by decide +kernel
theorem c_325_1628 : cd 325 1628 = some (.iaload, 1) := by decide +kernel
theorem c_325_1629 : cd 325 1629 = some (.aload_n 0, 1) := by decide +kernel
theorem c_325_1630 : cd 325 1630 = some (.iload_n 3, 1) := by decide +kernel
theorem c_325_1631 : cd 325 1631 = some (.iconst (2), 1) := by decide +kernel
theorem c_325_1632 : cd 325 1632 = some (.iadd, 1) := by decide +kernel
theorem c_325_1633 : cd 325 1633 = some (.iaload, 1) := by decide +kernel
theorem c_325_1634 : cd 325 1634 = some (.invokevirtual 186, 3) := by decide +kernel
theorem c_325_1637 : cd 325 1637 = some (.if_icmp .eq (440), 3) := by decide +kernel
theorem c_325_1640 : cd 325 1640 = some (.iconst (0), 1) := by decide +kernel
theorem c_325_1641 : cd 325 1641 = some (.ireturn, 1) := by decide +kernel
theorem c_325_1642 : cd 325 1642 = some (.aload_n 1, 1) := by decide +kernel
theorem c_325_1643 : cd 325 1643 = some (.invokevirtual 187, 3) := by decide +kernel
theorem c_325_1646 : cd 325 1646 = some (.aload_n 2, 1) := by decide +kernel
theorem c_325_1647 : cd 325 1647 = some (.invokevirtual 190, 3) := by decide +kernel
theorem c_325_1650 : cd 325 1650 = some (.if_icmp .eq (427), 3) := by decide +kernel
theorem c_325_1653 : cd 325 1653 = some (.iconst (0), 1) := by decide +kernel
theorem c_325_1654 : cd 325 1654 = some (.ireturn, 1) := by decide +kernel
theorem c_325_1655 : cd 325 1655 = some (.aload_n 1, 1) := by decide +kernel
theorem c_325_1656 : cd 325 1656 = some (.aload_n 0, 1) := by decide +kernel
theorem c_325_1657 : cd 325 1657 = some (.iload_n 3, 1) := by decide +kernel
theorem c_325_1658 : cd 325 1658 = some (.iconst (1), 1) := by decide +kernel
theorem c_325_1659 : cd 325 1659 = some (.iadd, 1) := by decide +kernel
theorem c_325_1660 : cd 325 1660 = some (.iaload, 1) := by decide +kernel
theorem c_325_1661 : cd 325 1661 = some (.invokevirtual 191, 3) := by decide +kernel
theorem c_325_1664 : cd 325 1664 = some (.aload_n 2, 1) := by decide +kernel
theorem c_325_1665 : cd 325 1665 = some (.aload_n 0, 1) := by decide +kernel
theorem c_325_1666 : cd 325 1666 = some (.iload_n 3, 1) := by decide +kernel
theorem c_325_1667 : cd 325 1667 = some (.iconst (1), 1) := by decide +kernel
theorem c_325_1668 : cd 325 1668 = some (.iadd, 1) := by decide +kernel
theorem c_325_1669 : cd 325 1669 = some (.iaload, 1) := by decide +kernel
theorem c_325_1670 : cd 325 1670 = some (.invokevirtual 194, 3) := by decide +kernel
theorem c_325_1673 : cd 325 1673 = some (.if_icmp .eq (404), 3) := by decide +kernel
theorem c_325_1676 : cd 325 1676 = some (.iconst (0), 1) := by decide +kernel
theorem c_325_1677 : cd 325 1677 = some (.ireturn, 1) := by decide +kernel
theorem c_325_1678 : cd 325 1678 = some (.aload_n 1, 1) := by decide +kernel
theorem c_325_1679 : cd 325 1679 = some (.invokevirtual 195, 3) := by decide +kernel
theorem c_325_1682 : cd 325 1682 = some (.aload_n 2, 1) := by decide +kernel
theorem c_325_1683 : cd 325 1683 = some (.invokevirtual 198, 3) := by decide +kernel
theorem c_325_1686 : cd 325 1686 = some (.if_icmp .eq (391), 3) := by decide +kernel
theorem c_325_1689 : cd 325 1689 = some (.iconst (0), 1) := by decide +kernel
theorem c_325_1690 : cd 325 1690 = some (.ireturn, 1) := by decide +kernel
theorem c_325_1691 : cd 325 1691 = some (.aload_n 1, 1) := by decide +kernel
theorem c_325_1692 : cd 325 1692 = some (.aload_n 0, 1) := by decide +kernel
theorem c_325_1693 : cd 325 1693 = some (.iload_n 3, 1) := by decide +kernel
theorem c_325_1694 : cd 325 1694 = some (.iconst (1), 1) := by decide +kernel
theorem c_325_1695 : cd 325 1695 = some (.iadd, 1) := by decide +kernel
theorem c_325_1696 : cd 325 1696 = some (.iaload, 1) := by decide +kernel
theorem c_325_1697 : cd 325 1697 = some (.aload_n 0, 1) := by decide +kernel
theorem c_325_1698 : cd 325 1698 = some (.iload_n 3, 1) := by decide +kernel
theorem c_325_1699 : cd 325 1699 = some (.iconst (2), 1) := by decide +kernel
theorem c_325_1700 : cd 325 1700 = some (.iadd, 1) := by decide +kernel
theorem c_325_1701 : cd 325 1701 = some (.iaload, 1) := by decide +kernel
theorem c_325_1702 : cd 325 1702 = some (.aload_n 0, 1) := by decide +kernel
theorem c_325_1703 : cd 325 1703 = some (.iload_n 3, 1) := by decide +kernel
theorem c_325_1704 : cd 325 1704 = some (.iconst (3), 1) := by decide +kernel
theorem c_325_1705 : cd 325 1705 = some (.iadd, 1) := by decide +kernel
theorem c_325_1706 : cd 325 1706 = some (.iaload, 1) := by decide +kernel
theorem c_325_1707 : cd 325 1707 = some (.invokevirtual 199, 3) := by decide +kernel
theorem c_325_1710 : cd 325 1710 = some (.aload_n 2, 1) := by decide +kernel
theorem c_325_1711 : cd 325 1711 = some (.aload_n 0, 1) := by decide +kernel
theorem c_325_1712 : cd 325 1712 = some (.iload_n 3, 1) := by decide +kernel
theorem c_325_1713 : cd 325 1713 = some (.iconst (1), 1) := by decide +kernel
theorem c_325_1714 : cd 325 1714 = some (.iadd, 1) := by decide +kernel
theorem c_325_1715 : cd 325 1715 = some (.iaload, 1) := by decide +kernel
theorem c_325_1716 : cd 325 1716 = some (.aload_n 0, 1) := by decide +kernel
theorem c_325_1717 : cd 325 1717 = some (.iload_n 3, 1) := by decide +kernel
theorem c_325_1718 : cd 325 1718 = some (.iconst (2), 1) := by decide +kernel
theorem c_325_1719 : cd 325 1719 = some (.iadd, 1) := by decide +kernel
theorem c_325_1720 : cd 325 1720 = some (.iaload, 1) := by decide +kernel
theorem c_325_1721 : cd 325 1721 = some (.aload_n 0, 1) := by decide +kernel
theorem c_325_1722 : cd 325 1722 = some (.iload_n 3, 1) := by decide +kernel
theorem c_325_1723 : cd 325 1723 = some (.iconst (3), 1) := by decide +kernel
theorem c_325_1724 : cd 325 1724 = some (.iadd, 1) := by decide +kernel
theorem c_325_1725 : cd 325 1725 = some (.iaload, 1) := by decide +kernel
theorem c_325_1726 : cd 325 1726 = some (.invokevirtual 202, 3) := by decide +kernel
theorem c_325_1729 : cd 325 1729 = some (.if_icmp .eq (348), 3) := by decide +kernel
theorem c_325_1732 : cd 325 1732 = some (.iconst (0), 1) := by decide +kernel
theorem c_325_1733 : cd 325 1733 = some (.ireturn, 1) := by decide +kernel
theorem c_325_1734 : cd 325 1734 = some (.aload_n 1, 1) := by decide +kernel
theorem c_325_1735 : cd 325 1735 = some (.aload_n 0, 1) := by decide +kernel
theorem c_325_1736 : cd 325 1736 = some (.iload_n 3, 1) := by decide +kernel
theorem c_325_1737 : cd 325 1737 = some (.iconst (1), 1) := by decide +kernel
theorem c_325_1738 : cd 325 1738 = some (.iadd, 1) := by decide +kernel
theorem c_325_1739 : cd 325 1739 = some (.iaload, 1) := by decide +kernel
theorem c_325_1740 : cd 325 1740 = some (.aload_n 0, 1) := by decide +kernel
theorem c_325_1741 : cd 325 1741 = some (.iload_n 3, 1) := by decide +kernel
theorem c_325_1742 : cd 325 1742 = some (.iconst (2), 1) := by decide +kernel
theorem c_325_1743 : cd 325 1743 = some (.iadd, 1) := by decide +kernel
theorem c_325_1744 : cd 325 1744 = some (.iaload, 1) := by decide +kernel
theorem c_325_1745 : cd 325 1745 = some (.aload_n 0, 1) := by decide +kernel
theorem c_325_1746 : cd 325 1746 = some (.iload_n 3, 1) := by decide +kernel
theorem c_325_1747 : cd 325 1747 = some (.iconst (3), 1) := by decide +kernel
theorem c_325_1748 : cd 325 1748 = some (.iadd, 1) := by decide +kernel
theorem c_325_1749 : cd 325 1749 = some (.iaload, 1) := by decide +kernel
theorem c_325_1750 : cd 325 1750 = some (.invokevirtual 203, 3) := by decide +kernel
theorem c_325_1753 : cd 325 1753 = some (.aload_n 2, 1) := by decide +kernel
theorem c_325_1754 : cd 325 1754 = some (.aload_n 0, 1) := by decide +kernel
theorem c_325_1755 : cd 325 1755 = some (.iload_n 3, 1) := by decide +kernel
theorem c_325_1756 : cd 325 1756 = some (.iconst (1), 1) := by decide +kernel
theorem c_325_1757 : cd 325 1757 = some (.iadd, 1) := by decide +kernel
theorem c_325_1758 : cd 325 1758 = some (.iaload, 1) := by decide +kernel
theorem c_325_1759 : cd 325 1759 = some (.aload_n 0, 1) := by decide +kernel
theorem c_325_1760 : cd 325 1760 = some (.iload_n 3, 1) := by decide +kernel
theorem c_325_1761 : cd 325 1761 = some (.iconst (2), 1) := by decide +kernel
theorem c_325_1762 : cd 325 1762 = some (.iadd, 1) := by decide +kernel
theorem c_325_1763 : cd 325 1763 = some (.iaload, 1) := by decide +kernel
theorem c_325_1764 : cd 325 1764 = some (.aload_n 0, 1) := by decide +kernel
theorem c_325_1765 : cd 325 1765 = some (.iload_n 3, 1) := by decide +kernel
theorem c_325_1766 : cd 325 1766 = some (.iconst (3), 1) := by decide +kernel
theorem c_325_1767 : cd 325 1767 = some (.iadd, 1) := by decide +kernel
theorem c_325_1768 : cd 325 1768 = some (.iaload, 1) := by decide +kernel
theorem c_325_1769 : cd 325 1769 = some (.invokevirtual 206, 3) := by decide +kernel
theorem c_325_1772 : cd 325 1772 = some (.if_icmp .eq (305), 3) := by decide +kernel
theorem c_325_1775 : cd 325 1775 = some (.iconst (0), 1) := by decide +kernel
theorem c_325_1776 : cd 325 1776 = some (.ireturn, 1) := by decide +kernel
theorem c_325_1777 : cd 325 1777 = some (.aload_n 1, 1) := by decide +kernel
theorem c_325_1778 : cd 325 1778 = some (.aload_n 0, 1) := by decide +kernel
theorem c_325_1779 : cd 325 1779 = some (.iload_n 3, 1) := by decide +kernel
theorem c_325_1780 : cd 325 1780 = some (.iconst (1), 1) := by decide +kernel
theorem c_325_1781 : cd 325 1781 = some (.iadd, 1) := by decide +kernel
theorem c_325_1782 : cd 325 1782 = some (.iaload, 1) := by decide +kernel
theorem c_325_1783 : cd 325 1783 = some (.aload_n 0, 1) := by decide +kernel
theorem c_325_1784 : cd 325 1784 = some (.iload_n 3, 1) := by decide +kernel
theorem c_325_1785 : cd 325 1785 = some (.iconst (2), 1) := by decide +kernel
theorem c_325_1786 : cd 325 1786 = some (.iadd, 1) := by decide +kernel
theorem c_325_1787 : cd 325 1787 = some (.iaload, 1) := by decide +kernel
theorem c_325_1788 : cd 325 1788 = some (.aload_n 0, 1) := by decide +kernel
theorem c_325_1789 : cd 325 1789 = some (.iload_n 3, 1) := by decide +kernel
theorem c_325_1790 : cd 325 1790 = some (.iconst (3), 1) := by decide +kernel
theorem c_325_1791 : cd 325 1791 = some (.iadd, 1) := by decide +kernel
theorem c_325_1792 : cd 325 1792 = some (.iaload, 1) := by decide +kernel
theorem c_325_1793 : cd 325 1793 = some (.aload_n 0, 1) := by decide +kernel
theorem c_325_1794 : cd 325 1794 = some (.iload_n 3, 1) := by decide +kernel
theorem c_325_1795 : cd 325 1795 = some (.iconst (4), 1) := by decide +kernel
theorem c_325_1796 : cd 325 1796 = some (.iadd, 1) := by decide +kernel
theorem c_325_1797 : cd 325 1797 = some (.iaload, 1) := by decide +kernel
theorem c_325_1798 : cd 325 1798 = some (.aload_n 0, 1) := by decide +kernel
theorem c_325_1799 : cd 325 1799 = some (.iload_n 3, 1) := by decide +kernel
theorem c_325_1800 : cd 325 1800 = some (.iconst (5), 1) := by decide +kernel
theorem c_325_1801 : cd 325 1801 = some (.iadd, 1) := by decide +kernel
theorem c_325_1802 : cd 325 1802 = some (.iaload, 1) := by decide +kernel
theorem c_325_1803 : cd 325 1803 = some (.invokevirtual 207, 3) := by decide +kernel
theorem c_325_1806 : cd 325 1806 = some (.aload_n 2, 1) := by decide +kernel
theorem c_325_1807 : cd 325 1807 = some (.aload_n 0, 1) := by decide +kernel
theorem c_325_1808 : cd 325 1808 = some (.iload_n 3, 1) := by decide +kernel
theorem c_325_1809 : cd 325 1809 = some (.iconst (1), 1) := by decide +kernel
theorem c_325_1810 : cd 325 1810 = some (.iadd, 1) := by decide +kernel
theorem c_325_1811 : cd 325 1811 = some (.iaload, 1) := by decide +kernel
theorem c_325_1812 : cd 325 1812 = some (.aload_n 0, 1) := by decide +kernel
theorem c_325_1813 : cd 325 1813 = some (.iload_n 3, 1) := by decide +kernel
theorem c_325_1814 : cd 325 1814 = some (.iconst (2), 1) := by decide +kernel
theorem c_325_1815 : cd 325 1815 = some (.iadd, 1) := by decide +kernel
theorem c_325_1816 : cd 325 1816 = some (.iaload, 1) := by decide +kernel
theorem c_325_1817 : cd 325 1817 = some (.aload_n 0, 1) := by decide +kernel
theorem c_325_1818 : cd 325 1818 = some (.iload_n 3, 1) := by decide +kernel
theorem c_325_1819 : cd 325 1819 = some (.iconst (3), 1) := by decide +kernel
theorem c_325_1820 : cd 325 1820 = some (.iadd, 1) := by decide +kernel
theorem c_325_1821 : cd 325 1821 = some (.iaload, 1) := by decide +kernel
theorem c_325_1822 : cd 325 1822 = some (.aload_n 0, 1) := by decide +kernel
theorem c_325_1823 : cd 325 1823 = some (.iload_n 3, 1) := by decide +kernel
theorem c_325_1824 : cd 325 1824 = some (.iconst (4), 1) := by decide +kernel
theorem c_325_1825 : cd 325 1825 = some (.iadd, 1) := by decide +kernel
theorem c_325_1826 : cd 325 1826 = some (.iaload, 1) := by decide +kernel
theorem c_325_1827 : cd 325 1827 = some (.aload_n 0, 1) := by decide +kernel
theorem c_325_1828 : cd 325 1828 = some (.iload_n 3, 1) := by decide +kernel
theorem c_325_1829 : cd 325 1829 = some (.iconst (5), 1) := by decide +kernel
theorem c_325_1830 : cd 325 1830 = some (.iadd, 1) := by decide +kernel
theorem c_325_1831 : cd 325 1831 = some (.iaload, 1) := by decide +kernel
theorem c_325_1832 : cd 325 1832 = some (.invokevirtual 210, 3) := by decide +kernel
theorem c_325_1835 : cd 325 1835 = some (.if_icmp .eq (242), 3) := by decide +kernel
theorem c_325_1838 : cd 325 1838 = some (.iconst (0), 1) := by decide +kernel
theorem c_325_1839 : cd 325 1839 = some (.ireturn, 1) := by decide +kernel
theorem c_325_1840 : cd 325 1840 = some (.aload_n 1, 1) := by decide +kernel
theorem c_325_1841 : cd 325 1841 = some (.aload_n 0, 1) := by decide +kernel
theorem c_325_1842 : cd 325 1842 = some (.iload_n 3, 1) := by decide +kernel
theorem c_325_1843 : cd 325 1843 = some (.iconst (1), 1) := by decide +kernel
theorem c_325_1844 : cd 325 1844 = some (.iadd, 1) := by decide +kernel
theorem c_325_1845 : cd 325 1845 = some (.iaload, 1) := by decide +kernel
theorem c_325_1846 : cd 325 1846 = some (.aload_n 0, 1) := by decide +kernel
theorem c_325_1847 : cd 325 1847 = some (.iload_n 3, 1) := by decide +kernel
theorem c_325_1848 : cd 325 1848 = some (.iconst (2), 1) := by decide +kernel
theorem c_325_1849 : cd 325 1849 = some (.iadd, 1) := by decide +kernel
theorem c_325_1850 : cd 325 1850 = some (.iaload, 1) := by decide +kernel
theorem c_325_1851 : cd 325 1851 = some (.aload_n 0, 1) := by decide +kernel
theorem c_325_1852 : cd 325 1852 = some (.iload_n 3, 1) := by decide +kernel
theorem c_325_1853 : cd 325 1853 = some (.iconst (3), 1) := by decide +kernel
theorem c_325_1854 : cd 325 1854 = some (.iadd, 1) := by decide +kernel
theorem c_325_1855 : cd 325 1855 = some (.iaload, 1) := by decide +kernel
theorem c_325_1856 : cd 325 1856 = some (.invokevirtual 211, 3) := by decide +kernel
theorem c_325_1859 : cd 325 1859 = some (.aload_n 2, 1) := by decide +kernel
theorem c_325_1860 : cd 325 1860 = some (.aload_n 0, 1) := by decide +kernel
theorem c_325_1861 : cd 325 1861 = some (.iload_n 3, 1) := by decide +kernel
theorem c_325_1862 : cd 325 1862 = some (.iconst (1), 1) := by decide +kernel
theorem c_325_1863 : cd 325 1863 = some (.iadd, 1) := by decide +kernel
theorem c_325_1864 : cd 325 1864 = some (.iaload, 1) := by decide +kernel
theorem c_325_1865 : cd 325 1865 = some (.aload_n 0, 1) := by decide +kernel
theorem c_325_1866 : cd 325 1866 = some (.iload_n 3, 1) := by decide +kernel
theorem c_325_1867 : cd 325 1867 = some (.iconst (2), 1) := by decide +kernel
theorem c_325_1868 : cd 325 1868 = some (.iadd, 1) := by decide +kernel
theorem c_325_1869 : cd 325 1869 = some (.iaload, 1) := by decide +kernel
theorem c_325_1870 : cd 325 1870 = some (.aload_n 0, 1) := by decide +kernel
theorem c_325_1871 : cd 325 1871 = some (.iload_n 3, 1) := by decide +kernel
theorem c_325_1872 : cd 325 1872 = some (.iconst (3), 1) := by decide +kernel
theorem c_325_1873 : cd 325 1873 = some (.iadd, 1) := by decide +kernel
theorem c_325_1874 : cd 325 1874 = some (.iaload, 1) := by decide +kernel
theorem c_325_1875 : cd 325 1875 = some (.invokevirtual 214, 3) := by decide +kernel
theorem c_325_1878 : cd 325 1878 = some (.if_icmp .eq (199), 3) := by decide +kernel
theorem c_325_1881 : cd 325 1881 = some (.iconst (0), 1) := by decide +kernel
theorem c_325_1882 : cd 325 1882 = some (.ireturn, 1) := by decide +kernel
theorem c_325_1883 : cd 325 1883 = some (.aload_n 1, 1) := by decide +kernel
theorem c_325_1884 : cd 325 1884 = some (.aload_n 0, 1) := by decide +kernel
theorem c_325_1885 : cd 325 1885 = some (.iload_n 3, 1) := by decide +kernel
theorem c_325_1886 : cd 325 1886 = some (.iconst (1), 1) := by decide +kernel
theorem c_325_1887 : cd 325 1887 = some (.iadd, 1) := by decide +kernel
theorem c_325_1888 : cd 325 1888 = some (.iaload, 1) := by decide +kernel
theorem c_325_1889 : cd 325 1889 = some (.aload_n 0, 1) := by decide +kernel
theorem c_325_1890 : cd 325 1890 = some (.iload_n 3, 1) := by decide +kernel
theorem c_325_1891 : cd 325 1891 = some (.iconst (2), 1) := by decide +kernel
theorem c_325_1892 : cd 325 1892 = some (.iadd, 1) := by decide +kernel
theorem c_325_1893 : cd 325 1893 = some (.iaload, 1) := by decide +kernel
theorem c_325_1894 : cd 325 1894 = some (.invokevirtual 215, 3) := by decide +kernel
theorem c_325_1897 : cd 325 1897 = some (.aload_n 2, 1) := by decide +kernel
theorem c_325_1898 : cd 325 1898 = some (.aload_n 0, 1) := by decide +kernel
theorem c_325_1899 : cd 325 1899 = some (.iload_n 3, 1) := by decide +kernel
theorem c_325_1900 : cd 325 1900 = some (.iconst (1), 1) := by decide +kernel
theorem c_325_1901 : cd 325 1901 = some (.iadd, 1) := by decide +kernel
theorem c_325_1902 : cd 325 1902 = some (.iaload, 1) := by decide +kernel
theorem c_325_1903 : cd 325 1903 = some (.aload_n 0, 1) := by decide +kernel
theorem c_325_1904 : cd 325 1904 = some (.iload_n 3, 1) := by decide +kernel
theorem c_325_1905 : cd 325 1905 = some (.iconst (2), 1) := by decide +kernel
theorem c_325_1906 : cd 325 1906 = some (.iadd, 1) := by decide +kernel
theorem c_325_1907 : cd 325 1907 = some (.iaload, 1) := by decide +kernel
theorem c_325_1908 : cd 325 1908 = some (.invokevirtual 218, 3) := by decide +kernel
theorem c_325_1911 : cd 325 1911 = some (.if_icmp .eq (166), 3) := by decide +kernel
theorem c_325_1914 : cd 325 1914 = some (.iconst (0), 1) := by decide +kernel
theorem c_325_1915 : cd 325 1915 = some (.ireturn, 1) := by decide +kernel
theorem c_325_1916 : cd 325 1916 = some (.aload_n 1, 1) := by decide +kernel
theorem c_325_1917 : cd 325 1917 = some (.aload_n 0, 1) := by decide +kernel
theorem c_325_1918 : cd 325 1918 = some (.iload_n 3, 1) := by decide +kernel
theorem c_325_1919 : cd 325 1919 = some (.iconst (1), 1) := by decide +kernel
theorem c_325_1920 : cd 325 1920 = some (.iadd, 1) := by decide +kernel
theorem c_325_1921 : cd 325 1921 = some (.iaload, 1) := by decide +kernel
theorem c_325_1922 : cd 325 1922 = some (.aload_n 0, 1) := by decide +kernel
theorem c_325_1923 : cd 325 1923 = some (.iload_n 3, 1) := by decide +kernel
theorem c_325_1924 : cd 325 1924 = some (.iconst (2), 1) := by decide +kernel
theorem c_325_1925 : cd 325 1925 = some (.iadd, 1) := by decide +kernel
theorem c_325_1926 : cd 325 1926 = some (.iaload, 1) := by decide +kernel
theorem c_325_1927 : cd 325 1927 = some (.invokevirtual 219, 3) := by decide +kernel
theorem c_325_1930 : cd 325 1930 = some (.aload_n 2, 1) := by decide +kernel
theorem c_325_1931 : cd 325 1931 = some (.aload_n 0, 1) := by decide +kernel
theorem c_325_1932 : cd 325 1932 = some (.iload_n 3, 1) := by decide +kernel
theorem c_325_1933 : cd 325 1933 = some (.iconst (1), 1) := by decide +kernel
theorem c_325_1934 : cd 325 1934 = some (.iadd, 1) := by decide +kernel
theorem c_325_1935 : cd 325 1935 = some (.iaload, 1) := by decide +kernel
theorem c_325_1936 : cd 325 1936 = some (.aload_n 0, 1) := by decide +kernel
theorem c_325_1937 : cd 325 1937 = some (.iload_n 3, 1) := by decide +kernel
theorem c_325_1938 : cd 325 1938 = some (.iconst (2), 1) := by decide +kernel
theorem c_325_1939 : cd 325 1939 = some (.iadd, 1) := by decide +kernel
theorem c_325_1940 : cd 325 1940 = some (.iaload, 1) := by decide +kernel
theorem c_325_1941 : cd 325 1941 = some (.invokevirtual 222, 3) := by decide +kernel
theorem c_325_1944 : cd 325 1944 = some (.if_icmp .eq (133), 3) := by decide +kernel
theorem c_325_1947 : cd 325 1947 = some (.iconst (0), 1) := by decide +kernel
theorem c_325_1948 : cd 325 1948 = some (.ireturn, 1) := by decide +kernel
theorem c_325_1949 : cd 325 1949 = some (.aload_n 1, 1) := by decide +kernel
theorem c_325_1950 : cd 325 1950 = some (.aload_n 0, 1) := by decide +kernel
theorem c_325_1951 : cd 325 1951 = some (.iload_n 3, 1) := by decide +kernel
theorem c_325_1952 : cd 325 1952 = some (.iconst (1), 1) := by decide +kernel
theorem c_325_1953 : cd 325 1953 = some (.iadd, 1) := by decide +kernel
theorem c_325_1954 : cd 325 1954 = some (.iaload, 1) := by decide +kernel
theorem c_325_1955 : cd 325 1955 = some (.aload_n 0, 1) := by decide +kernel
theorem c_325_1956 : cd 325 1956 = some (.iload_n 3, 1) := by decide +kernel
theorem c_325_1957 : cd 325 1957 = some (.iconst (2), 1) := by decide +kernel
theorem c_325_1958 : cd 325 1958 = some (.iadd, 1) := by decide +kernel
theorem c_325_1959 : cd 325 1959 = some (.iaload, 1) := by decide +kernel
theorem c_325_1960 : cd 325 1960 = some (.invokevirtual 223, 3) := by decide +kernel
theorem c_325_1963 : cd 325 1963 = some (.aload_n 2, 1) := by decide +kernel
theorem c_325_1964 : cd 325 1964 = some (.aload_n 0, 1) := by decide +kernel
theorem c_325_1965 : cd 325 1965 = some (.iload_n 3, 1) := by decide +kernel
theorem c_325_1966 : cd 325 1966 = some (.iconst (1), 1) := by decide +kernel
theorem c_325_1967 : cd 325 1967 = some (.iadd, 1) := by decide +kernel
theorem c_325_1968 : cd 325 1968 = some (.iaload, 1) := by decide +kernel
theorem c_325_1969 : cd 325 1969 = some (.aload_n 0, 1) := by decide +kernel
theorem c_325_1970 : cd 325 1970 = some (.iload_n 3, 1) := by decide +kernel
theorem c_325_1971 : cd 325 1971 = some (.iconst (2), 1) := by decide +kernel
theorem c_325_1972 : cd 325 1972 = some (.iadd, 1) := by decide +kernel
theorem c_325_1973 : cd 325 1973 = some (.iaload, 1) := by decide +kernel
theorem c_325_1974 : cd 325 1974 = some (.invokevirtual 226, 3) := by decide +kernel
theorem c_325_1977 : cd 325 1977 = some (.if_icmp .eq (100), 3) := by decide +kernel
theorem c_325_1980 : cd 325 1980 = some (.iconst (0), 1) := by decide +kernel
theorem c_325_1981 : cd 325 1981 = some (.ireturn, 1) := by decide +kernel
theorem c_325_1982 : cd 325 1982 = some (.aload_n 1, 1) := by decide +kernel
theorem c_325_1983 : cd 325 1983 = some (.aload_n 0, 1) := by decide +kernel
theorem c_325_1984 : cd 325 1984 = some (.iload_n 3, 1) := by decide +kernel
theorem c_325_1985 : cd 325 1985 = some (.iconst (1), 1) := by decide +kernel
theorem c_325_1986 : cd 325 1986 = some (.iadd, 1) := by decide +kernel
theorem c_325_1987 : cd 325 1987 = some (.iaload, 1) := by decide +kernel
theorem c_325_1988 : cd 325 1988 = some (.invokevirtual 227, 3) := by decide +kernel
theorem c_325_1991 : cd 325 1991 = some (.aload_n 2, 1) := by decide +kernel
theorem c_325_1992 : cd 325 1992 = some (.aload_n 0, 1) := by decide +kernel
theorem c_325_1993 : cd 325 1993 = some (.iload_n 3, 1) := by decide +kernel
theorem c_325_1994 : cd 325 1994 = some (.iconst (1), 1) := by decide +kernel
theorem c_325_1995 : cd 325 1995 = some (.iadd, 1) := by decide +kernel
theorem c_325_1996 : cd 325 1996 = some (.iaload, 1) := by decide +kernel
theorem c_325_1997 : cd 325 1997 = some (.invokevirtual 230, 3) := by decide +kernel
theorem c_325_2000 : cd 325 2000 = some (.if_icmp .eq (77), 3) := by decide +kernel
theorem c_325_2003 : cd 325 2003 = some (.iconst (0), 1) := by decide +kernel
theorem c_325_2004 : cd 325 2004 = some (.ireturn, 1) := by decide +kernel
theorem c_325_2005 : cd 325 2005 = some (.aload_n 1, 1) := by decide +kernel
theorem c_325_2006 : cd 325 2006 = some (.aload_n 0, 1) := by decide +kernel
theorem c_325_2007 : cd 325 2007 = some (.iload_n 3, 1) := by decide +kernel
theorem c_325_2008 : cd 325 2008 = some (.iconst (1), 1) := by decide +kernel
theorem c_325_2009 : cd 325 2009 = some (.iadd, 1) := by decide +kernel
theorem c_325_2010 : cd 325 2010 = some (.iaload, 1) := by decide +kernel
theorem c_325_2011 : cd 325 2011 = some (.invokevirtual 231, 3) := by decide +kernel
theorem c_325_2014 : cd 325 2014 = some (.aload_n 2, 1) := by decide +kernel
theorem c_325_2015 : cd 325 2015 = some (.aload_n 0, 1) := by decide +kernel
theorem c_325_2016 : cd 325 2016 = some (.iload_n 3, 1) := by decide +kernel
theorem c_325_2017 : cd 325 2017 = some (.iconst (1), 1) := by decide +kernel
theorem c_325_2018 : cd 325 2018 = some (.iadd, 1) := by decide +kernel
theorem c_325_2019 : cd 325 2019 = some (.iaload, 1) := by decide +kernel
theorem c_325_2020 : cd 325 2020 = some (.invokevirtual 234, 3) := by decide +kernel
theorem c_325_2023 : cd 325 2023 = some (.if_icmp .eq (54), 3) := by decide +kernel
theorem c_325_2026 : cd 325 2026 = some (.iconst (0), 1) := by decide +kernel
theorem c_325_2027 : cd 325 2027 = some (.ireturn, 1) := by decide +kernel
theorem c_325_2028 : cd 325 2028 = some (.aload_n 1, 1) := by decide +kernel
theorem c_325_2029 : cd 325 2029 = some (.invokevirtual 235, 3) := by decide +kernel
theorem c_325_2032 : cd 325 2032 = some (.aload_n 2, 1) := by decide +kernel
theorem c_325_2033 : cd 325 2033 = some (.invokevirtual 238, 3) := by decide +kernel
theorem c_325_2036 : cd 325 2036 = some (.if_icmp .eq (41), 3) := by decide +kernel
theorem c_325_2039 : cd 325 2039 = some (.iconst (0), 1) := by decide +kernel
theorem c_325_2040 : cd 325 2040 = some (.ireturn, 1) := by decide +kernel
theorem c_325_2041 : cd 325 2041 = some (.aload_n 1, 1) := by decide +kernel
theorem c_325_2042 : cd 325 2042 = some (.invokevirtual 239, 3) := by decide +kernel
theorem c_325_2045 : cd 325 2045 = some (.aload_n 2, 1) := by decide +kernel
theorem c_325_2046 : cd 325 2046 = some (.invokevirtual 242, 3) := by decide +kernel
theorem c_325_2049 : cd 325 2049 = some (.if_icmp .eq (28), 3) := by decide +kernel
theorem c_325_2052 : cd 325 2052 = some (.iconst (0), 1) := by decide +kernel
theorem c_325_2053 : cd 325 2053 = some (.ireturn, 1) := by decide +kernel
theorem c_325_2054 : cd 325 2054 = some (.aload_n 1, 1) := by decide +kernel
theorem c_325_2055 : cd 325 2055 = some (.aload_n 0, 1) := by decide +kernel
theorem c_325_2056 : cd 325 2056 = some (.iload_n 3, 1) := by decide +kernel
theorem c_325_2057 : cd 325 2057 = some (.iconst (1), 1) := by decide +kernel
theorem c_325_2058 : cd 325 2058 = some (.iadd, 1) := by decide +kernel
theorem c_325_2059 : cd 325 2059 = some (.iaload, 1) := by decide +kernel
theorem c_325_2060 : cd 325 2060 = some (.invokevirtual 243, 3) := by decide +kernel
theorem c_325_2063 : cd 325 2063 = some (.aload_n 2, 1) := by decide +kernel
theorem c_325_2064 : cd 325 2064 = some (.aload_n 0, 1) := by decide +kernel
theorem c_325_2065 : cd 325 2065 = some (.iload_n 3, 1) := by decide +kernel
theorem c_325_2066 : cd 325 2066 = some (.iconst (1), 1) := by decide +kernel
theorem c_325_2067 : cd 325 2067 = some (.iadd, 1) := by decide +kernel
theorem c_325_2068 : cd 325 2068 = some (.iaload, 1) := by decide +kernel
theorem c_325_2069 : cd 325 2069 = some (.invokevirtual 246, 3) := by decide +kernel
theorem c_325_2072 : cd 325 2072 = some (.if_icmp .eq (5), 3) := by decide +kernel
theorem c_325_2075 : cd 325 2075 = some (.iconst (0), 1) := by decide +kernel
theorem c_325_2076 : cd 325 2076 = some (.ireturn, 1) := by decide +kernel
theorem c_325_2077 : cd 325 2077 = some (.iinc 3 (6), 3) := by decide +kernel
theorem c_325_2080 : cd 325 2080 = some (.goto (-2062), 3) := by decide +kernel
theorem c_325_2083 : cd 325 2083 = some (.iconst (1), 1) := by decide +kernel
theorem c_325_2084 : cd 325 2084 = some (.ireturn, 1) := by decide +kernel
def f_Lw_law_2077 (X : Xt) (k18 : Nat → Nat → Nat → Int32 → Mm → Option (Int32 × Mm)) (x0 : Nat) (x1 : Nat) (x2 : Nat) (x3 : Int32) (σ : Mm) : Option (Int32 × Mm) := k18 x0 x1 x2 (x3 + (6 : Int32)) σ
set_option maxRecDepth 100000 in
set_option maxHeartbeats 4000000 in
theorem t_Lw_law_2077 {X : Xt} {S : Sh} (hS : ShOK S) {d : Nat} (hd : 63 ≤ d + 1) {k18 : Nat → Nat → Nat → Int32 → Mm → Option (Int32 × Mm)} (hk18 : ∀ (x0 : Nat) (x1 : Nat) (x2 : Nat) (x3 : Int32) (σ : Mm) (h_x0 : x0 = 1000009) (h_x1 : tgT x1 = 11) (h_x2 : tgT x2 = 12), Rf X S emM (k18 x0 x1 x2 x3 σ) (d + 1) 325 18 [.ref x0, .ref x1, .ref x2, .int x3] [] σ) (x0 : Nat) (x1 : Nat) (x2 : Nat) (x3 : Int32) (σ : Mm) (h_x0 : x0 = 1000009) (h_x1 : tgT x1 = 11) (h_x2 : tgT x2 = 12) : Rf X S emM (f_Lw_law_2077 X k18 x0 x1 x2 x3 σ) (d + 1) 325 2077 [.ref x0, .ref x1, .ref x2, .int x3] [] σ := by
  unfold f_Lw_law_2077
  refine rf_iinc c_325_2077 rfl ki_6 rfl ?_
  refine rf_goto c_325_2080 rfl ?_
  exact hk18 x0 x1 x2 (x3 + (6 : Int32)) σ h_x0 h_x1 h_x2
def f_Lw_law_276 (X : Xt) (k18 : Nat → Nat → Nat → Int32 → Mm → Option (Int32 × Mm)) (x0 : Nat) (x1 : Nat) (x2 : Nat) (x3 : Int32) (σ : Mm) : Option (Int32 × Mm) := (f_Ct_office x1 σ).bind fun v277 => (f_Mo_office x2 v277.2).bind fun v281 => (if v277.1 = v281.1 then (f_Lw_law_2077 X k18 x0 x1 x2 x3 v281.2) else (some ((0 : Int32), v281.2)))
set_option maxRecDepth 100000 in
set_option maxHeartbeats 4000000 in
theorem t_Lw_law_276 {X : Xt} {S : Sh} (hS : ShOK S) {d : Nat} (hd : 63 ≤ d + 1) {k18 : Nat → Nat → Nat → Int32 → Mm → Option (Int32 × Mm)} (hk18 : ∀ (x0 : Nat) (x1 : Nat) (x2 : Nat) (x3 : Int32) (σ : Mm) (h_x0 : x0 = 1000009) (h_x1 : tgT x1 = 11) (h_x2 : tgT x2 = 12), Rf X S emM (k18 x0 x1 x2 x3 σ) (d + 1) 325 18 [.ref x0, .ref x1, .ref x2, .int x3] [] σ) (x0 : Nat) (x1 : Nat) (x2 : Nat) (x3 : Int32) (σ : Mm) (h_x0 : x0 = 1000009) (h_x1 : tgT x1 = 11) (h_x2 : tgT x2 = 12) : Rf X S emM (f_Lw_law_276 X k18 x0 x1 x2 x3 σ) (d + 1) 325 276 [.ref x0, .ref x1, .ref x2, .int x3] [] σ := by
  unfold f_Lw_law_276
  refine rf_ald (i := 1) (Or.inr ⟨1, rfl, rfl, rfl⟩) c_325_276 rfl ?_
  refine rf_callM (as := [.ref x1]) (kd := 1) c_325_277 rfl (by decide) rfl ml_13_13 (by decide) rfl (rcv_1 hS rfl rfl h_x1 (by decide)) (Nat.zero_le _) rfl rfl (t_Ct_office hS (by omega) x1 σ h_x1) (fun v277 => ?_)
  refine rf_ald (i := 2) (Or.inr ⟨2, rfl, rfl, rfl⟩) c_325_280 rfl ?_
  refine rf_callM (as := [.ref x2]) (kd := 1) c_325_281 rfl (by decide) rfl ml_13_17 (by decide) rfl (rcv_1 hS rfl rfl h_x2 (by decide)) (by simp [Value.category]) rfl rfl (t_Mo_office hS (by omega) x2 v277.2 h_x2) (fun v281 => ?_)
  refine rf_ite (fun hc284 => ?_) (fun hc284 => ?_)
  · refine rf_b2t c_325_284 rfl (decide_eq_true hc284) ?_
    exact t_Lw_law_2077 hS hd hk18 x0 x1 x2 x3 v281.2 h_x0 h_x1 h_x2
  · refine rf_b2f c_325_284 rfl (decide_eq_false hc284) ?_
    refine rf_iconst c_325_287 ki_0 ?_
    exact rf_ret c_325_288 rfl (by decide) rfl rfl
def f_Lw_law_289 (X : Xt) (k18 : Nat → Nat → Nat → Int32 → Mm → Option (Int32 × Mm)) (x0 : Nat) (x1 : Nat) (x2 : Nat) (x3 : Int32) (σ : Mm) : Option (Int32 × Mm) := if inbB (x3 + (1 : Int32)) X.1 = true then if inbB (x3 + (2 : Int32)) X.1 = true then (f_Ct_hold x1 (X.2 (ix (x3 + (1 : Int32)))) (X.2 (ix (x3 + (2 : Int32)))) σ).bind fun v300 => if inbB (x3 + (1 : Int32)) X.1 = true then if inbB (x3 + (2 : Int32)) X.1 = true then (f_Mo_hold x2 (X.2 (ix (x3 + (1 : Int32)))) (X.2 (ix (x3 + (2 : Int32)))) v300.2).bind fun v314 => (if v300.1 = v314.1 then (f_Lw_law_2077 X k18 x0 x1 x2 x3 v314.2) else (some ((0 : Int32), v314.2))) else none else none else none else none
set_option maxRecDepth 100000 in
set_option maxHeartbeats 4000000 in
theorem t_Lw_law_289 {X : Xt} {S : Sh} (hS : ShOK S) {d : Nat} (hd : 63 ≤ d + 1) {k18 : Nat → Nat → Nat → Int32 → Mm → Option (Int32 × Mm)} (hk18 : ∀ (x0 : Nat) (x1 : Nat) (x2 : Nat) (x3 : Int32) (σ : Mm) (h_x0 : x0 = 1000009) (h_x1 : tgT x1 = 11) (h_x2 : tgT x2 = 12), Rf X S emM (k18 x0 x1 x2 x3 σ) (d + 1) 325 18 [.ref x0, .ref x1, .ref x2, .int x3] [] σ) (x0 : Nat) (x1 : Nat) (x2 : Nat) (x3 : Int32) (σ : Mm) (h_x0 : x0 = 1000009) (h_x1 : tgT x1 = 11) (h_x2 : tgT x2 = 12) : Rf X S emM (f_Lw_law_289 X k18 x0 x1 x2 x3 σ) (d + 1) 325 289 [.ref x0, .ref x1, .ref x2, .int x3] [] σ := by
  unfold f_Lw_law_289
  refine rf_ald (i := 1) (Or.inr ⟨1, rfl, rfl, rfl⟩) c_325_289 rfl ?_
  refine rf_ald (i := 0) (Or.inr ⟨0, rfl, rfl, rfl⟩) c_325_290 rfl ?_
  refine rf_ild (i := 3) (Or.inr ⟨3, rfl, rfl, rfl⟩) c_325_291 rfl ?_
  refine rf_iconst c_325_292 ki_1 ?_
  refine rf_iadd c_325_293 ?_
  refine rf_ite (fun hb294 => ?_) (fun _ => rf_none)
  refine rf_xald2 h_x0 c_325_294 hb294 ?_
  refine rf_ald (i := 0) (Or.inr ⟨0, rfl, rfl, rfl⟩) c_325_295 rfl ?_
  refine rf_ild (i := 3) (Or.inr ⟨3, rfl, rfl, rfl⟩) c_325_296 rfl ?_
  refine rf_iconst c_325_297 ki_2 ?_
  refine rf_iadd c_325_298 ?_
  refine rf_ite (fun hb299 => ?_) (fun _ => rf_none)
  refine rf_xald2 h_x0 c_325_299 hb299 ?_
  refine rf_callM (as := [.ref x1, .int (X.2 (ix (x3 + (1 : Int32)))), .int (X.2 (ix (x3 + (2 : Int32))))]) (kd := 1) c_325_300 rfl (by decide) rfl ml_13_18 (by decide) rfl (rcv_1 hS rfl rfl h_x1 (by decide)) (Nat.zero_le _) rfl rfl (t_Ct_hold hS (by omega) x1 (X.2 (ix (x3 + (1 : Int32)))) (X.2 (ix (x3 + (2 : Int32)))) σ h_x1) (fun v300 => ?_)
  refine rf_ald (i := 2) (Or.inr ⟨2, rfl, rfl, rfl⟩) c_325_303 rfl ?_
  refine rf_ald (i := 0) (Or.inr ⟨0, rfl, rfl, rfl⟩) c_325_304 rfl ?_
  refine rf_ild (i := 3) (Or.inr ⟨3, rfl, rfl, rfl⟩) c_325_305 rfl ?_
  refine rf_iconst c_325_306 ki_1 ?_
  refine rf_iadd c_325_307 ?_
  refine rf_ite (fun hb308 => ?_) (fun _ => rf_none)
  refine rf_xald2 h_x0 c_325_308 hb308 ?_
  refine rf_ald (i := 0) (Or.inr ⟨0, rfl, rfl, rfl⟩) c_325_309 rfl ?_
  refine rf_ild (i := 3) (Or.inr ⟨3, rfl, rfl, rfl⟩) c_325_310 rfl ?_
  refine rf_iconst c_325_311 ki_2 ?_
  refine rf_iadd c_325_312 ?_
  refine rf_ite (fun hb313 => ?_) (fun _ => rf_none)
  refine rf_xald2 h_x0 c_325_313 hb313 ?_
  refine rf_callM (as := [.ref x2, .int (X.2 (ix (x3 + (1 : Int32)))), .int (X.2 (ix (x3 + (2 : Int32))))]) (kd := 1) c_325_314 rfl (by decide) rfl ml_13_22 (by decide) rfl (rcv_1 hS rfl rfl h_x2 (by decide)) (by simp [Value.category]) rfl rfl (t_Mo_hold hS (by omega) x2 (X.2 (ix (x3 + (1 : Int32)))) (X.2 (ix (x3 + (2 : Int32)))) v300.2 h_x2) (fun v314 => ?_)
  refine rf_ite (fun hc317 => ?_) (fun hc317 => ?_)
  · refine rf_b2t c_325_317 rfl (decide_eq_true hc317) ?_
    exact t_Lw_law_2077 hS hd hk18 x0 x1 x2 x3 v314.2 h_x0 h_x1 h_x2
  · refine rf_b2f c_325_317 rfl (decide_eq_false hc317) ?_
    refine rf_iconst c_325_320 ki_0 ?_
    exact rf_ret c_325_321 rfl (by decide) rfl rfl
def f_Lw_law_322 (X : Xt) (k18 : Nat → Nat → Nat → Int32 → Mm → Option (Int32 × Mm)) (x0 : Nat) (x1 : Nat) (x2 : Nat) (x3 : Int32) (σ : Mm) : Option (Int32 × Mm) := if inbB (x3 + (1 : Int32)) X.1 = true then if inbB (x3 + (2 : Int32)) X.1 = true then (f_Ct_held σ x1 (X.2 (ix (x3 + (1 : Int32)))) (X.2 (ix (x3 + (2 : Int32))))).bind fun v333 => if inbB (x3 + (1 : Int32)) X.1 = true then if inbB (x3 + (2 : Int32)) X.1 = true then (f_Mo_held σ x2 (X.2 (ix (x3 + (1 : Int32)))) (X.2 (ix (x3 + (2 : Int32))))).bind fun v347 => (if v333 = v347 then (f_Lw_law_2077 X k18 x0 x1 x2 x3 σ) else (some ((0 : Int32), σ))) else none else none else none else none
set_option maxRecDepth 100000 in
set_option maxHeartbeats 4000000 in
theorem t_Lw_law_322 {X : Xt} {S : Sh} (hS : ShOK S) {d : Nat} (hd : 63 ≤ d + 1) {k18 : Nat → Nat → Nat → Int32 → Mm → Option (Int32 × Mm)} (hk18 : ∀ (x0 : Nat) (x1 : Nat) (x2 : Nat) (x3 : Int32) (σ : Mm) (h_x0 : x0 = 1000009) (h_x1 : tgT x1 = 11) (h_x2 : tgT x2 = 12), Rf X S emM (k18 x0 x1 x2 x3 σ) (d + 1) 325 18 [.ref x0, .ref x1, .ref x2, .int x3] [] σ) (x0 : Nat) (x1 : Nat) (x2 : Nat) (x3 : Int32) (σ : Mm) (h_x0 : x0 = 1000009) (h_x1 : tgT x1 = 11) (h_x2 : tgT x2 = 12) : Rf X S emM (f_Lw_law_322 X k18 x0 x1 x2 x3 σ) (d + 1) 325 322 [.ref x0, .ref x1, .ref x2, .int x3] [] σ := by
  unfold f_Lw_law_322
  refine rf_ald (i := 1) (Or.inr ⟨1, rfl, rfl, rfl⟩) c_325_322 rfl ?_
  refine rf_ald (i := 0) (Or.inr ⟨0, rfl, rfl, rfl⟩) c_325_323 rfl ?_
  refine rf_ild (i := 3) (Or.inr ⟨3, rfl, rfl, rfl⟩) c_325_324 rfl ?_
  refine rf_iconst c_325_325 ki_1 ?_
  refine rf_iadd c_325_326 ?_
  refine rf_ite (fun hb327 => ?_) (fun _ => rf_none)
  refine rf_xald2 h_x0 c_325_327 hb327 ?_
  refine rf_ald (i := 0) (Or.inr ⟨0, rfl, rfl, rfl⟩) c_325_328 rfl ?_
  refine rf_ild (i := 3) (Or.inr ⟨3, rfl, rfl, rfl⟩) c_325_329 rfl ?_
  refine rf_iconst c_325_330 ki_2 ?_
  refine rf_iadd c_325_331 ?_
  refine rf_ite (fun hb332 => ?_) (fun _ => rf_none)
  refine rf_xald2 h_x0 c_325_332 hb332 ?_
  refine rf_callI (as := [.ref x1, .int (X.2 (ix (x3 + (1 : Int32)))), .int (X.2 (ix (x3 + (2 : Int32))))]) (kd := 1) c_325_333 rfl (by decide) rfl ml_13_23 (by decide) rfl (rcv_1 hS rfl rfl h_x1 (by decide)) (Nat.zero_le _) rfl rfl (t_Ct_held hS (by omega) σ x1 (X.2 (ix (x3 + (1 : Int32)))) (X.2 (ix (x3 + (2 : Int32)))) h_x1) (fun v333 => ?_)
  refine rf_ald (i := 2) (Or.inr ⟨2, rfl, rfl, rfl⟩) c_325_336 rfl ?_
  refine rf_ald (i := 0) (Or.inr ⟨0, rfl, rfl, rfl⟩) c_325_337 rfl ?_
  refine rf_ild (i := 3) (Or.inr ⟨3, rfl, rfl, rfl⟩) c_325_338 rfl ?_
  refine rf_iconst c_325_339 ki_1 ?_
  refine rf_iadd c_325_340 ?_
  refine rf_ite (fun hb341 => ?_) (fun _ => rf_none)
  refine rf_xald2 h_x0 c_325_341 hb341 ?_
  refine rf_ald (i := 0) (Or.inr ⟨0, rfl, rfl, rfl⟩) c_325_342 rfl ?_
  refine rf_ild (i := 3) (Or.inr ⟨3, rfl, rfl, rfl⟩) c_325_343 rfl ?_
  refine rf_iconst c_325_344 ki_2 ?_
  refine rf_iadd c_325_345 ?_
  refine rf_ite (fun hb346 => ?_) (fun _ => rf_none)
  refine rf_xald2 h_x0 c_325_346 hb346 ?_
  refine rf_callI (as := [.ref x2, .int (X.2 (ix (x3 + (1 : Int32)))), .int (X.2 (ix (x3 + (2 : Int32))))]) (kd := 1) c_325_347 rfl (by decide) rfl ml_13_26 (by decide) rfl (rcv_1 hS rfl rfl h_x2 (by decide)) (by simp [Value.category]) rfl rfl (t_Mo_held hS (by omega) σ x2 (X.2 (ix (x3 + (1 : Int32)))) (X.2 (ix (x3 + (2 : Int32)))) h_x2) (fun v347 => ?_)
  refine rf_ite (fun hc350 => ?_) (fun hc350 => ?_)
  · refine rf_b2t c_325_350 rfl (decide_eq_true hc350) ?_
    exact t_Lw_law_2077 hS hd hk18 x0 x1 x2 x3 σ h_x0 h_x1 h_x2
  · refine rf_b2f c_325_350 rfl (decide_eq_false hc350) ?_
    refine rf_iconst c_325_353 ki_0 ?_
    exact rf_ret c_325_354 rfl (by decide) rfl rfl
def f_Lw_law_355 (X : Xt) (k18 : Nat → Nat → Nat → Int32 → Mm → Option (Int32 × Mm)) (x0 : Nat) (x1 : Nat) (x2 : Nat) (x3 : Int32) (σ : Mm) : Option (Int32 × Mm) := (f_Ct_govern x1 σ).bind fun v356 => (f_Mo_govern x2 v356.2).bind fun v360 => (if v356.1 = v360.1 then (f_Lw_law_2077 X k18 x0 x1 x2 x3 v360.2) else (some ((0 : Int32), v360.2)))
set_option maxRecDepth 100000 in
set_option maxHeartbeats 4000000 in
theorem t_Lw_law_355 {X : Xt} {S : Sh} (hS : ShOK S) {d : Nat} (hd : 63 ≤ d + 1) {k18 : Nat → Nat → Nat → Int32 → Mm → Option (Int32 × Mm)} (hk18 : ∀ (x0 : Nat) (x1 : Nat) (x2 : Nat) (x3 : Int32) (σ : Mm) (h_x0 : x0 = 1000009) (h_x1 : tgT x1 = 11) (h_x2 : tgT x2 = 12), Rf X S emM (k18 x0 x1 x2 x3 σ) (d + 1) 325 18 [.ref x0, .ref x1, .ref x2, .int x3] [] σ) (x0 : Nat) (x1 : Nat) (x2 : Nat) (x3 : Int32) (σ : Mm) (h_x0 : x0 = 1000009) (h_x1 : tgT x1 = 11) (h_x2 : tgT x2 = 12) : Rf X S emM (f_Lw_law_355 X k18 x0 x1 x2 x3 σ) (d + 1) 325 355 [.ref x0, .ref x1, .ref x2, .int x3] [] σ := by
  unfold f_Lw_law_355
  refine rf_ald (i := 1) (Or.inr ⟨1, rfl, rfl, rfl⟩) c_325_355 rfl ?_
  refine rf_callM (as := [.ref x1]) (kd := 1) c_325_356 rfl (by decide) rfl ml_13_27 (by decide) rfl (rcv_1 hS rfl rfl h_x1 (by decide)) (Nat.zero_le _) rfl rfl (t_Ct_govern hS (by omega) x1 σ h_x1) (fun v356 => ?_)
  refine rf_ald (i := 2) (Or.inr ⟨2, rfl, rfl, rfl⟩) c_325_359 rfl ?_
  refine rf_callM (as := [.ref x2]) (kd := 1) c_325_360 rfl (by decide) rfl ml_13_30 (by decide) rfl (rcv_1 hS rfl rfl h_x2 (by decide)) (by simp [Value.category]) rfl rfl (t_Mo_govern hS (by omega) x2 v356.2 h_x2) (fun v360 => ?_)
  refine rf_ite (fun hc363 => ?_) (fun hc363 => ?_)
  · refine rf_b2t c_325_363 rfl (decide_eq_true hc363) ?_
    exact t_Lw_law_2077 hS hd hk18 x0 x1 x2 x3 v360.2 h_x0 h_x1 h_x2
  · refine rf_b2f c_325_363 rfl (decide_eq_false hc363) ?_
    refine rf_iconst c_325_366 ki_0 ?_
    exact rf_ret c_325_367 rfl (by decide) rfl rfl
def f_Lw_law_368 (X : Xt) (k18 : Nat → Nat → Nat → Int32 → Mm → Option (Int32 × Mm)) (x0 : Nat) (x1 : Nat) (x2 : Nat) (x3 : Int32) (σ : Mm) : Option (Int32 × Mm) := if inbB (x3 + (1 : Int32)) X.1 = true then if inbB (x3 + (2 : Int32)) X.1 = true then if inbB (x3 + (3 : Int32)) X.1 = true then (f_Ct_table x1 (X.2 (ix (x3 + (1 : Int32)))) (X.2 (ix (x3 + (2 : Int32)))) (X.2 (ix (x3 + (3 : Int32)))) σ).bind fun v384 => if inbB (x3 + (1 : Int32)) X.1 = true then if inbB (x3 + (2 : Int32)) X.1 = true then if inbB (x3 + (3 : Int32)) X.1 = true then (f_Mo_table x2 (X.2 (ix (x3 + (1 : Int32)))) (X.2 (ix (x3 + (2 : Int32)))) (X.2 (ix (x3 + (3 : Int32)))) v384.2).bind fun v403 => (if v384.1 = v403.1 then (f_Lw_law_2077 X k18 x0 x1 x2 x3 v403.2) else (some ((0 : Int32), v403.2))) else none else none else none else none else none else none
set_option maxRecDepth 100000 in
set_option maxHeartbeats 4000000 in
theorem t_Lw_law_368 {X : Xt} {S : Sh} (hS : ShOK S) {d : Nat} (hd : 63 ≤ d + 1) {k18 : Nat → Nat → Nat → Int32 → Mm → Option (Int32 × Mm)} (hk18 : ∀ (x0 : Nat) (x1 : Nat) (x2 : Nat) (x3 : Int32) (σ : Mm) (h_x0 : x0 = 1000009) (h_x1 : tgT x1 = 11) (h_x2 : tgT x2 = 12), Rf X S emM (k18 x0 x1 x2 x3 σ) (d + 1) 325 18 [.ref x0, .ref x1, .ref x2, .int x3] [] σ) (x0 : Nat) (x1 : Nat) (x2 : Nat) (x3 : Int32) (σ : Mm) (h_x0 : x0 = 1000009) (h_x1 : tgT x1 = 11) (h_x2 : tgT x2 = 12) : Rf X S emM (f_Lw_law_368 X k18 x0 x1 x2 x3 σ) (d + 1) 325 368 [.ref x0, .ref x1, .ref x2, .int x3] [] σ := by
  unfold f_Lw_law_368
  refine rf_ald (i := 1) (Or.inr ⟨1, rfl, rfl, rfl⟩) c_325_368 rfl ?_
  refine rf_ald (i := 0) (Or.inr ⟨0, rfl, rfl, rfl⟩) c_325_369 rfl ?_
  refine rf_ild (i := 3) (Or.inr ⟨3, rfl, rfl, rfl⟩) c_325_370 rfl ?_
  refine rf_iconst c_325_371 ki_1 ?_
  refine rf_iadd c_325_372 ?_
  refine rf_ite (fun hb373 => ?_) (fun _ => rf_none)
  refine rf_xald2 h_x0 c_325_373 hb373 ?_
  refine rf_ald (i := 0) (Or.inr ⟨0, rfl, rfl, rfl⟩) c_325_374 rfl ?_
  refine rf_ild (i := 3) (Or.inr ⟨3, rfl, rfl, rfl⟩) c_325_375 rfl ?_
  refine rf_iconst c_325_376 ki_2 ?_
  refine rf_iadd c_325_377 ?_
  refine rf_ite (fun hb378 => ?_) (fun _ => rf_none)
  refine rf_xald2 h_x0 c_325_378 hb378 ?_
  refine rf_ald (i := 0) (Or.inr ⟨0, rfl, rfl, rfl⟩) c_325_379 rfl ?_
  refine rf_ild (i := 3) (Or.inr ⟨3, rfl, rfl, rfl⟩) c_325_380 rfl ?_
  refine rf_iconst c_325_381 ki_3 ?_
  refine rf_iadd c_325_382 ?_
  refine rf_ite (fun hb383 => ?_) (fun _ => rf_none)
  refine rf_xald2 h_x0 c_325_383 hb383 ?_
  refine rf_callM (as := [.ref x1, .int (X.2 (ix (x3 + (1 : Int32)))), .int (X.2 (ix (x3 + (2 : Int32)))), .int (X.2 (ix (x3 + (3 : Int32))))]) (kd := 1) c_325_384 rfl (by decide) rfl ml_13_31 (by decide) rfl (rcv_1 hS rfl rfl h_x1 (by decide)) (Nat.zero_le _) rfl rfl (t_Ct_table hS (by omega) x1 (X.2 (ix (x3 + (1 : Int32)))) (X.2 (ix (x3 + (2 : Int32)))) (X.2 (ix (x3 + (3 : Int32)))) σ h_x1) (fun v384 => ?_)
  refine rf_ald (i := 2) (Or.inr ⟨2, rfl, rfl, rfl⟩) c_325_387 rfl ?_
  refine rf_ald (i := 0) (Or.inr ⟨0, rfl, rfl, rfl⟩) c_325_388 rfl ?_
  refine rf_ild (i := 3) (Or.inr ⟨3, rfl, rfl, rfl⟩) c_325_389 rfl ?_
  refine rf_iconst c_325_390 ki_1 ?_
  refine rf_iadd c_325_391 ?_
  refine rf_ite (fun hb392 => ?_) (fun _ => rf_none)
  refine rf_xald2 h_x0 c_325_392 hb392 ?_
  refine rf_ald (i := 0) (Or.inr ⟨0, rfl, rfl, rfl⟩) c_325_393 rfl ?_
  refine rf_ild (i := 3) (Or.inr ⟨3, rfl, rfl, rfl⟩) c_325_394 rfl ?_
  refine rf_iconst c_325_395 ki_2 ?_
  refine rf_iadd c_325_396 ?_
  refine rf_ite (fun hb397 => ?_) (fun _ => rf_none)
  refine rf_xald2 h_x0 c_325_397 hb397 ?_
  refine rf_ald (i := 0) (Or.inr ⟨0, rfl, rfl, rfl⟩) c_325_398 rfl ?_
  refine rf_ild (i := 3) (Or.inr ⟨3, rfl, rfl, rfl⟩) c_325_399 rfl ?_
  refine rf_iconst c_325_400 ki_3 ?_
  refine rf_iadd c_325_401 ?_
  refine rf_ite (fun hb402 => ?_) (fun _ => rf_none)
  refine rf_xald2 h_x0 c_325_402 hb402 ?_
  refine rf_callM (as := [.ref x2, .int (X.2 (ix (x3 + (1 : Int32)))), .int (X.2 (ix (x3 + (2 : Int32)))), .int (X.2 (ix (x3 + (3 : Int32))))]) (kd := 1) c_325_403 rfl (by decide) rfl ml_13_35 (by decide) rfl (rcv_1 hS rfl rfl h_x2 (by decide)) (by simp [Value.category]) rfl rfl (t_Mo_table hS (by omega) x2 (X.2 (ix (x3 + (1 : Int32)))) (X.2 (ix (x3 + (2 : Int32)))) (X.2 (ix (x3 + (3 : Int32)))) v384.2 h_x2) (fun v403 => ?_)
  refine rf_ite (fun hc406 => ?_) (fun hc406 => ?_)
  · refine rf_b2t c_325_406 rfl (decide_eq_true hc406) ?_
    exact t_Lw_law_2077 hS hd hk18 x0 x1 x2 x3 v403.2 h_x0 h_x1 h_x2
  · refine rf_b2f c_325_406 rfl (decide_eq_false hc406) ?_
    refine rf_iconst c_325_409 ki_0 ?_
    exact rf_ret c_325_410 rfl (by decide) rfl rfl
def f_Lw_law_411 (X : Xt) (k18 : Nat → Nat → Nat → Int32 → Mm → Option (Int32 × Mm)) (x0 : Nat) (x1 : Nat) (x2 : Nat) (x3 : Int32) (σ : Mm) : Option (Int32 × Mm) := if inbB (x3 + (1 : Int32)) X.1 = true then if inbB (x3 + (2 : Int32)) X.1 = true then (f_Ct_seats x1 (X.2 (ix (x3 + (1 : Int32)))) (X.2 (ix (x3 + (2 : Int32)))) σ).bind fun v422 => if inbB (x3 + (1 : Int32)) X.1 = true then if inbB (x3 + (2 : Int32)) X.1 = true then (f_Mo_seats x2 (X.2 (ix (x3 + (1 : Int32)))) (X.2 (ix (x3 + (2 : Int32)))) v422.2).bind fun v436 => (if v422.1 = v436.1 then (f_Lw_law_2077 X k18 x0 x1 x2 x3 v436.2) else (some ((0 : Int32), v436.2))) else none else none else none else none
set_option maxRecDepth 100000 in
set_option maxHeartbeats 4000000 in
theorem t_Lw_law_411 {X : Xt} {S : Sh} (hS : ShOK S) {d : Nat} (hd : 63 ≤ d + 1) {k18 : Nat → Nat → Nat → Int32 → Mm → Option (Int32 × Mm)} (hk18 : ∀ (x0 : Nat) (x1 : Nat) (x2 : Nat) (x3 : Int32) (σ : Mm) (h_x0 : x0 = 1000009) (h_x1 : tgT x1 = 11) (h_x2 : tgT x2 = 12), Rf X S emM (k18 x0 x1 x2 x3 σ) (d + 1) 325 18 [.ref x0, .ref x1, .ref x2, .int x3] [] σ) (x0 : Nat) (x1 : Nat) (x2 : Nat) (x3 : Int32) (σ : Mm) (h_x0 : x0 = 1000009) (h_x1 : tgT x1 = 11) (h_x2 : tgT x2 = 12) : Rf X S emM (f_Lw_law_411 X k18 x0 x1 x2 x3 σ) (d + 1) 325 411 [.ref x0, .ref x1, .ref x2, .int x3] [] σ := by
  unfold f_Lw_law_411
  refine rf_ald (i := 1) (Or.inr ⟨1, rfl, rfl, rfl⟩) c_325_411 rfl ?_
  refine rf_ald (i := 0) (Or.inr ⟨0, rfl, rfl, rfl⟩) c_325_412 rfl ?_
  refine rf_ild (i := 3) (Or.inr ⟨3, rfl, rfl, rfl⟩) c_325_413 rfl ?_
  refine rf_iconst c_325_414 ki_1 ?_
  refine rf_iadd c_325_415 ?_
  refine rf_ite (fun hb416 => ?_) (fun _ => rf_none)
  refine rf_xald2 h_x0 c_325_416 hb416 ?_
  refine rf_ald (i := 0) (Or.inr ⟨0, rfl, rfl, rfl⟩) c_325_417 rfl ?_
  refine rf_ild (i := 3) (Or.inr ⟨3, rfl, rfl, rfl⟩) c_325_418 rfl ?_
  refine rf_iconst c_325_419 ki_2 ?_
  refine rf_iadd c_325_420 ?_
  refine rf_ite (fun hb421 => ?_) (fun _ => rf_none)
  refine rf_xald2 h_x0 c_325_421 hb421 ?_
  refine rf_callM (as := [.ref x1, .int (X.2 (ix (x3 + (1 : Int32)))), .int (X.2 (ix (x3 + (2 : Int32))))]) (kd := 1) c_325_422 rfl (by decide) rfl ml_13_36 (by decide) rfl (rcv_1 hS rfl rfl h_x1 (by decide)) (Nat.zero_le _) rfl rfl (t_Ct_seats hS (by omega) x1 (X.2 (ix (x3 + (1 : Int32)))) (X.2 (ix (x3 + (2 : Int32)))) σ h_x1) (fun v422 => ?_)
  refine rf_ald (i := 2) (Or.inr ⟨2, rfl, rfl, rfl⟩) c_325_425 rfl ?_
  refine rf_ald (i := 0) (Or.inr ⟨0, rfl, rfl, rfl⟩) c_325_426 rfl ?_
  refine rf_ild (i := 3) (Or.inr ⟨3, rfl, rfl, rfl⟩) c_325_427 rfl ?_
  refine rf_iconst c_325_428 ki_1 ?_
  refine rf_iadd c_325_429 ?_
  refine rf_ite (fun hb430 => ?_) (fun _ => rf_none)
  refine rf_xald2 h_x0 c_325_430 hb430 ?_
  refine rf_ald (i := 0) (Or.inr ⟨0, rfl, rfl, rfl⟩) c_325_431 rfl ?_
  refine rf_ild (i := 3) (Or.inr ⟨3, rfl, rfl, rfl⟩) c_325_432 rfl ?_
  refine rf_iconst c_325_433 ki_2 ?_
  refine rf_iadd c_325_434 ?_
  refine rf_ite (fun hb435 => ?_) (fun _ => rf_none)
  refine rf_xald2 h_x0 c_325_435 hb435 ?_
  refine rf_callM (as := [.ref x2, .int (X.2 (ix (x3 + (1 : Int32)))), .int (X.2 (ix (x3 + (2 : Int32))))]) (kd := 1) c_325_436 rfl (by decide) rfl ml_13_39 (by decide) rfl (rcv_1 hS rfl rfl h_x2 (by decide)) (by simp [Value.category]) rfl rfl (t_Mo_seats hS (by omega) x2 (X.2 (ix (x3 + (1 : Int32)))) (X.2 (ix (x3 + (2 : Int32)))) v422.2 h_x2) (fun v436 => ?_)
  refine rf_ite (fun hc439 => ?_) (fun hc439 => ?_)
  · refine rf_b2t c_325_439 rfl (decide_eq_true hc439) ?_
    exact t_Lw_law_2077 hS hd hk18 x0 x1 x2 x3 v436.2 h_x0 h_x1 h_x2
  · refine rf_b2f c_325_439 rfl (decide_eq_false hc439) ?_
    refine rf_iconst c_325_442 ki_0 ?_
    exact rf_ret c_325_443 rfl (by decide) rfl rfl
def f_Lw_law_444 (X : Xt) (k18 : Nat → Nat → Nat → Int32 → Mm → Option (Int32 × Mm)) (x0 : Nat) (x1 : Nat) (x2 : Nat) (x3 : Int32) (σ : Mm) : Option (Int32 × Mm) := if inbB (x3 + (1 : Int32)) X.1 = true then if inbB (x3 + (2 : Int32)) X.1 = true then (f_Ct_sits σ x1 (X.2 (ix (x3 + (1 : Int32)))) (X.2 (ix (x3 + (2 : Int32))))).bind fun v455 => if inbB (x3 + (1 : Int32)) X.1 = true then if inbB (x3 + (2 : Int32)) X.1 = true then (f_Mo_sits σ x2 (X.2 (ix (x3 + (1 : Int32)))) (X.2 (ix (x3 + (2 : Int32))))).bind fun v469 => (if v455 = v469 then (f_Lw_law_2077 X k18 x0 x1 x2 x3 σ) else (some ((0 : Int32), σ))) else none else none else none else none
set_option maxRecDepth 100000 in
set_option maxHeartbeats 4000000 in
theorem t_Lw_law_444 {X : Xt} {S : Sh} (hS : ShOK S) {d : Nat} (hd : 63 ≤ d + 1) {k18 : Nat → Nat → Nat → Int32 → Mm → Option (Int32 × Mm)} (hk18 : ∀ (x0 : Nat) (x1 : Nat) (x2 : Nat) (x3 : Int32) (σ : Mm) (h_x0 : x0 = 1000009) (h_x1 : tgT x1 = 11) (h_x2 : tgT x2 = 12), Rf X S emM (k18 x0 x1 x2 x3 σ) (d + 1) 325 18 [.ref x0, .ref x1, .ref x2, .int x3] [] σ) (x0 : Nat) (x1 : Nat) (x2 : Nat) (x3 : Int32) (σ : Mm) (h_x0 : x0 = 1000009) (h_x1 : tgT x1 = 11) (h_x2 : tgT x2 = 12) : Rf X S emM (f_Lw_law_444 X k18 x0 x1 x2 x3 σ) (d + 1) 325 444 [.ref x0, .ref x1, .ref x2, .int x3] [] σ := by
  unfold f_Lw_law_444
  refine rf_ald (i := 1) (Or.inr ⟨1, rfl, rfl, rfl⟩) c_325_444 rfl ?_
  refine rf_ald (i := 0) (Or.inr ⟨0, rfl, rfl, rfl⟩) c_325_445 rfl ?_
  refine rf_ild (i := 3) (Or.inr ⟨3, rfl, rfl, rfl⟩) c_325_446 rfl ?_
  refine rf_iconst c_325_447 ki_1 ?_
  refine rf_iadd c_325_448 ?_
  refine rf_ite (fun hb449 => ?_) (fun _ => rf_none)
  refine rf_xald2 h_x0 c_325_449 hb449 ?_
  refine rf_ald (i := 0) (Or.inr ⟨0, rfl, rfl, rfl⟩) c_325_450 rfl ?_
  refine rf_ild (i := 3) (Or.inr ⟨3, rfl, rfl, rfl⟩) c_325_451 rfl ?_
  refine rf_iconst c_325_452 ki_2 ?_
  refine rf_iadd c_325_453 ?_
  refine rf_ite (fun hb454 => ?_) (fun _ => rf_none)
  refine rf_xald2 h_x0 c_325_454 hb454 ?_
  refine rf_callI (as := [.ref x1, .int (X.2 (ix (x3 + (1 : Int32)))), .int (X.2 (ix (x3 + (2 : Int32))))]) (kd := 1) c_325_455 rfl (by decide) rfl ml_13_40 (by decide) rfl (rcv_1 hS rfl rfl h_x1 (by decide)) (Nat.zero_le _) rfl rfl (t_Ct_sits hS (by omega) σ x1 (X.2 (ix (x3 + (1 : Int32)))) (X.2 (ix (x3 + (2 : Int32)))) h_x1) (fun v455 => ?_)
  refine rf_ald (i := 2) (Or.inr ⟨2, rfl, rfl, rfl⟩) c_325_458 rfl ?_
  refine rf_ald (i := 0) (Or.inr ⟨0, rfl, rfl, rfl⟩) c_325_459 rfl ?_
  refine rf_ild (i := 3) (Or.inr ⟨3, rfl, rfl, rfl⟩) c_325_460 rfl ?_
  refine rf_iconst c_325_461 ki_1 ?_
  refine rf_iadd c_325_462 ?_
  refine rf_ite (fun hb463 => ?_) (fun _ => rf_none)
  refine rf_xald2 h_x0 c_325_463 hb463 ?_
  refine rf_ald (i := 0) (Or.inr ⟨0, rfl, rfl, rfl⟩) c_325_464 rfl ?_
  refine rf_ild (i := 3) (Or.inr ⟨3, rfl, rfl, rfl⟩) c_325_465 rfl ?_
  refine rf_iconst c_325_466 ki_2 ?_
  refine rf_iadd c_325_467 ?_
  refine rf_ite (fun hb468 => ?_) (fun _ => rf_none)
  refine rf_xald2 h_x0 c_325_468 hb468 ?_
  refine rf_callI (as := [.ref x2, .int (X.2 (ix (x3 + (1 : Int32)))), .int (X.2 (ix (x3 + (2 : Int32))))]) (kd := 1) c_325_469 rfl (by decide) rfl ml_13_43 (by decide) rfl (rcv_1 hS rfl rfl h_x2 (by decide)) (by simp [Value.category]) rfl rfl (t_Mo_sits hS (by omega) σ x2 (X.2 (ix (x3 + (1 : Int32)))) (X.2 (ix (x3 + (2 : Int32)))) h_x2) (fun v469 => ?_)
  refine rf_ite (fun hc472 => ?_) (fun hc472 => ?_)
  · refine rf_b2t c_325_472 rfl (decide_eq_true hc472) ?_
    exact t_Lw_law_2077 hS hd hk18 x0 x1 x2 x3 σ h_x0 h_x1 h_x2
  · refine rf_b2f c_325_472 rfl (decide_eq_false hc472) ?_
    refine rf_iconst c_325_475 ki_0 ?_
    exact rf_ret c_325_476 rfl (by decide) rfl rfl
def f_Lw_law_477 (X : Xt) (k18 : Nat → Nat → Nat → Int32 → Mm → Option (Int32 × Mm)) (x0 : Nat) (x1 : Nat) (x2 : Nat) (x3 : Int32) (σ : Mm) : Option (Int32 × Mm) := if inbB (x3 + (1 : Int32)) X.1 = true then if inbB (x3 + (2 : Int32)) X.1 = true then if inbB (x3 + (3 : Int32)) X.1 = true then (f_Ct_pass x1 (X.2 (ix (x3 + (1 : Int32)))) (X.2 (ix (x3 + (2 : Int32)))) (X.2 (ix (x3 + (3 : Int32)))) σ).bind fun v493 => if inbB (x3 + (1 : Int32)) X.1 = true then if inbB (x3 + (2 : Int32)) X.1 = true then if inbB (x3 + (3 : Int32)) X.1 = true then (f_Mo_pass x2 (X.2 (ix (x3 + (1 : Int32)))) (X.2 (ix (x3 + (2 : Int32)))) (X.2 (ix (x3 + (3 : Int32)))) v493.2).bind fun v512 => (if v493.1 = v512.1 then (f_Lw_law_2077 X k18 x0 x1 x2 x3 v512.2) else (some ((0 : Int32), v512.2))) else none else none else none else none else none else none
set_option maxRecDepth 100000 in
set_option maxHeartbeats 4000000 in
theorem t_Lw_law_477 {X : Xt} {S : Sh} (hS : ShOK S) {d : Nat} (hd : 63 ≤ d + 1) {k18 : Nat → Nat → Nat → Int32 → Mm → Option (Int32 × Mm)} (hk18 : ∀ (x0 : Nat) (x1 : Nat) (x2 : Nat) (x3 : Int32) (σ : Mm) (h_x0 : x0 = 1000009) (h_x1 : tgT x1 = 11) (h_x2 : tgT x2 = 12), Rf X S emM (k18 x0 x1 x2 x3 σ) (d + 1) 325 18 [.ref x0, .ref x1, .ref x2, .int x3] [] σ) (x0 : Nat) (x1 : Nat) (x2 : Nat) (x3 : Int32) (σ : Mm) (h_x0 : x0 = 1000009) (h_x1 : tgT x1 = 11) (h_x2 : tgT x2 = 12) : Rf X S emM (f_Lw_law_477 X k18 x0 x1 x2 x3 σ) (d + 1) 325 477 [.ref x0, .ref x1, .ref x2, .int x3] [] σ := by
  unfold f_Lw_law_477
  refine rf_ald (i := 1) (Or.inr ⟨1, rfl, rfl, rfl⟩) c_325_477 rfl ?_
  refine rf_ald (i := 0) (Or.inr ⟨0, rfl, rfl, rfl⟩) c_325_478 rfl ?_
  refine rf_ild (i := 3) (Or.inr ⟨3, rfl, rfl, rfl⟩) c_325_479 rfl ?_
  refine rf_iconst c_325_480 ki_1 ?_
  refine rf_iadd c_325_481 ?_
  refine rf_ite (fun hb482 => ?_) (fun _ => rf_none)
  refine rf_xald2 h_x0 c_325_482 hb482 ?_
  refine rf_ald (i := 0) (Or.inr ⟨0, rfl, rfl, rfl⟩) c_325_483 rfl ?_
  refine rf_ild (i := 3) (Or.inr ⟨3, rfl, rfl, rfl⟩) c_325_484 rfl ?_
  refine rf_iconst c_325_485 ki_2 ?_
  refine rf_iadd c_325_486 ?_
  refine rf_ite (fun hb487 => ?_) (fun _ => rf_none)
  refine rf_xald2 h_x0 c_325_487 hb487 ?_
  refine rf_ald (i := 0) (Or.inr ⟨0, rfl, rfl, rfl⟩) c_325_488 rfl ?_
  refine rf_ild (i := 3) (Or.inr ⟨3, rfl, rfl, rfl⟩) c_325_489 rfl ?_
  refine rf_iconst c_325_490 ki_3 ?_
  refine rf_iadd c_325_491 ?_
  refine rf_ite (fun hb492 => ?_) (fun _ => rf_none)
  refine rf_xald2 h_x0 c_325_492 hb492 ?_
  refine rf_callM (as := [.ref x1, .int (X.2 (ix (x3 + (1 : Int32)))), .int (X.2 (ix (x3 + (2 : Int32)))), .int (X.2 (ix (x3 + (3 : Int32))))]) (kd := 1) c_325_493 rfl (by decide) rfl ml_13_44 (by decide) rfl (rcv_1 hS rfl rfl h_x1 (by decide)) (Nat.zero_le _) rfl rfl (t_Ct_pass hS (by omega) x1 (X.2 (ix (x3 + (1 : Int32)))) (X.2 (ix (x3 + (2 : Int32)))) (X.2 (ix (x3 + (3 : Int32)))) σ h_x1) (fun v493 => ?_)
  refine rf_ald (i := 2) (Or.inr ⟨2, rfl, rfl, rfl⟩) c_325_496 rfl ?_
  refine rf_ald (i := 0) (Or.inr ⟨0, rfl, rfl, rfl⟩) c_325_497 rfl ?_
  refine rf_ild (i := 3) (Or.inr ⟨3, rfl, rfl, rfl⟩) c_325_498 rfl ?_
  refine rf_iconst c_325_499 ki_1 ?_
  refine rf_iadd c_325_500 ?_
  refine rf_ite (fun hb501 => ?_) (fun _ => rf_none)
  refine rf_xald2 h_x0 c_325_501 hb501 ?_
  refine rf_ald (i := 0) (Or.inr ⟨0, rfl, rfl, rfl⟩) c_325_502 rfl ?_
  refine rf_ild (i := 3) (Or.inr ⟨3, rfl, rfl, rfl⟩) c_325_503 rfl ?_
  refine rf_iconst c_325_504 ki_2 ?_
  refine rf_iadd c_325_505 ?_
  refine rf_ite (fun hb506 => ?_) (fun _ => rf_none)
  refine rf_xald2 h_x0 c_325_506 hb506 ?_
  refine rf_ald (i := 0) (Or.inr ⟨0, rfl, rfl, rfl⟩) c_325_507 rfl ?_
  refine rf_ild (i := 3) (Or.inr ⟨3, rfl, rfl, rfl⟩) c_325_508 rfl ?_
  refine rf_iconst c_325_509 ki_3 ?_
  refine rf_iadd c_325_510 ?_
  refine rf_ite (fun hb511 => ?_) (fun _ => rf_none)
  refine rf_xald2 h_x0 c_325_511 hb511 ?_
  refine rf_callM (as := [.ref x2, .int (X.2 (ix (x3 + (1 : Int32)))), .int (X.2 (ix (x3 + (2 : Int32)))), .int (X.2 (ix (x3 + (3 : Int32))))]) (kd := 1) c_325_512 rfl (by decide) rfl ml_13_47 (by decide) rfl (rcv_1 hS rfl rfl h_x2 (by decide)) (by simp [Value.category]) rfl rfl (t_Mo_pass hS (by omega) x2 (X.2 (ix (x3 + (1 : Int32)))) (X.2 (ix (x3 + (2 : Int32)))) (X.2 (ix (x3 + (3 : Int32)))) v493.2 h_x2) (fun v512 => ?_)
  refine rf_ite (fun hc515 => ?_) (fun hc515 => ?_)
  · refine rf_b2t c_325_515 rfl (decide_eq_true hc515) ?_
    exact t_Lw_law_2077 hS hd hk18 x0 x1 x2 x3 v512.2 h_x0 h_x1 h_x2
  · refine rf_b2f c_325_515 rfl (decide_eq_false hc515) ?_
    refine rf_iconst c_325_518 ki_0 ?_
    exact rf_ret c_325_519 rfl (by decide) rfl rfl
def f_Lw_law_520 (X : Xt) (k18 : Nat → Nat → Nat → Int32 → Mm → Option (Int32 × Mm)) (x0 : Nat) (x1 : Nat) (x2 : Nat) (x3 : Int32) (σ : Mm) : Option (Int32 × Mm) := if inbB (x3 + (1 : Int32)) X.1 = true then if inbB (x3 + (2 : Int32)) X.1 = true then if inbB (x3 + (3 : Int32)) X.1 = true then if inbB (x3 + (4 : Int32)) X.1 = true then (f_Ct_way x1 (X.2 (ix (x3 + (1 : Int32)))) (X.2 (ix (x3 + (2 : Int32)))) (X.2 (ix (x3 + (3 : Int32)))) (X.2 (ix (x3 + (4 : Int32)))) σ).bind fun v541 => if inbB (x3 + (1 : Int32)) X.1 = true then if inbB (x3 + (2 : Int32)) X.1 = true then if inbB (x3 + (3 : Int32)) X.1 = true then if inbB (x3 + (4 : Int32)) X.1 = true then (f_Mo_way x2 (X.2 (ix (x3 + (1 : Int32)))) (X.2 (ix (x3 + (2 : Int32)))) (X.2 (ix (x3 + (3 : Int32)))) (X.2 (ix (x3 + (4 : Int32)))) v541.2).bind fun v565 => (if v541.1 = v565.1 then (f_Lw_law_2077 X k18 x0 x1 x2 x3 v565.2) else (some ((0 : Int32), v565.2))) else none else none else none else none else none else none else none else none
set_option maxRecDepth 100000 in
set_option maxHeartbeats 4000000 in
theorem t_Lw_law_520 {X : Xt} {S : Sh} (hS : ShOK S) {d : Nat} (hd : 63 ≤ d + 1) {k18 : Nat → Nat → Nat → Int32 → Mm → Option (Int32 × Mm)} (hk18 : ∀ (x0 : Nat) (x1 : Nat) (x2 : Nat) (x3 : Int32) (σ : Mm) (h_x0 : x0 = 1000009) (h_x1 : tgT x1 = 11) (h_x2 : tgT x2 = 12), Rf X S emM (k18 x0 x1 x2 x3 σ) (d + 1) 325 18 [.ref x0, .ref x1, .ref x2, .int x3] [] σ) (x0 : Nat) (x1 : Nat) (x2 : Nat) (x3 : Int32) (σ : Mm) (h_x0 : x0 = 1000009) (h_x1 : tgT x1 = 11) (h_x2 : tgT x2 = 12) : Rf X S emM (f_Lw_law_520 X k18 x0 x1 x2 x3 σ) (d + 1) 325 520 [.ref x0, .ref x1, .ref x2, .int x3] [] σ := by
  unfold f_Lw_law_520
  refine rf_ald (i := 1) (Or.inr ⟨1, rfl, rfl, rfl⟩) c_325_520 rfl ?_
  refine rf_ald (i := 0) (Or.inr ⟨0, rfl, rfl, rfl⟩) c_325_521 rfl ?_
  refine rf_ild (i := 3) (Or.inr ⟨3, rfl, rfl, rfl⟩) c_325_522 rfl ?_
  refine rf_iconst c_325_523 ki_1 ?_
  refine rf_iadd c_325_524 ?_
  refine rf_ite (fun hb525 => ?_) (fun _ => rf_none)
  refine rf_xald2 h_x0 c_325_525 hb525 ?_
  refine rf_ald (i := 0) (Or.inr ⟨0, rfl, rfl, rfl⟩) c_325_526 rfl ?_
  refine rf_ild (i := 3) (Or.inr ⟨3, rfl, rfl, rfl⟩) c_325_527 rfl ?_
  refine rf_iconst c_325_528 ki_2 ?_
  refine rf_iadd c_325_529 ?_
  refine rf_ite (fun hb530 => ?_) (fun _ => rf_none)
  refine rf_xald2 h_x0 c_325_530 hb530 ?_
  refine rf_ald (i := 0) (Or.inr ⟨0, rfl, rfl, rfl⟩) c_325_531 rfl ?_
  refine rf_ild (i := 3) (Or.inr ⟨3, rfl, rfl, rfl⟩) c_325_532 rfl ?_
  refine rf_iconst c_325_533 ki_3 ?_
  refine rf_iadd c_325_534 ?_
  refine rf_ite (fun hb535 => ?_) (fun _ => rf_none)
  refine rf_xald2 h_x0 c_325_535 hb535 ?_
  refine rf_ald (i := 0) (Or.inr ⟨0, rfl, rfl, rfl⟩) c_325_536 rfl ?_
  refine rf_ild (i := 3) (Or.inr ⟨3, rfl, rfl, rfl⟩) c_325_537 rfl ?_
  refine rf_iconst c_325_538 ki_4 ?_
  refine rf_iadd c_325_539 ?_
  refine rf_ite (fun hb540 => ?_) (fun _ => rf_none)
  refine rf_xald2 h_x0 c_325_540 hb540 ?_
  refine rf_callM (as := [.ref x1, .int (X.2 (ix (x3 + (1 : Int32)))), .int (X.2 (ix (x3 + (2 : Int32)))), .int (X.2 (ix (x3 + (3 : Int32)))), .int (X.2 (ix (x3 + (4 : Int32))))]) (kd := 1) c_325_541 rfl (by decide) rfl ml_13_48 (by decide) rfl (rcv_1 hS rfl rfl h_x1 (by decide)) (Nat.zero_le _) rfl rfl (t_Ct_way hS (by omega) x1 (X.2 (ix (x3 + (1 : Int32)))) (X.2 (ix (x3 + (2 : Int32)))) (X.2 (ix (x3 + (3 : Int32)))) (X.2 (ix (x3 + (4 : Int32)))) σ h_x1) (fun v541 => ?_)
  refine rf_ald (i := 2) (Or.inr ⟨2, rfl, rfl, rfl⟩) c_325_544 rfl ?_
  refine rf_ald (i := 0) (Or.inr ⟨0, rfl, rfl, rfl⟩) c_325_545 rfl ?_
  refine rf_ild (i := 3) (Or.inr ⟨3, rfl, rfl, rfl⟩) c_325_546 rfl ?_
  refine rf_iconst c_325_547 ki_1 ?_
  refine rf_iadd c_325_548 ?_
  refine rf_ite (fun hb549 => ?_) (fun _ => rf_none)
  refine rf_xald2 h_x0 c_325_549 hb549 ?_
  refine rf_ald (i := 0) (Or.inr ⟨0, rfl, rfl, rfl⟩) c_325_550 rfl ?_
  refine rf_ild (i := 3) (Or.inr ⟨3, rfl, rfl, rfl⟩) c_325_551 rfl ?_
  refine rf_iconst c_325_552 ki_2 ?_
  refine rf_iadd c_325_553 ?_
  refine rf_ite (fun hb554 => ?_) (fun _ => rf_none)
  refine rf_xald2 h_x0 c_325_554 hb554 ?_
  refine rf_ald (i := 0) (Or.inr ⟨0, rfl, rfl, rfl⟩) c_325_555 rfl ?_
  refine rf_ild (i := 3) (Or.inr ⟨3, rfl, rfl, rfl⟩) c_325_556 rfl ?_
  refine rf_iconst c_325_557 ki_3 ?_
  refine rf_iadd c_325_558 ?_
  refine rf_ite (fun hb559 => ?_) (fun _ => rf_none)
  refine rf_xald2 h_x0 c_325_559 hb559 ?_
  refine rf_ald (i := 0) (Or.inr ⟨0, rfl, rfl, rfl⟩) c_325_560 rfl ?_
  refine rf_ild (i := 3) (Or.inr ⟨3, rfl, rfl, rfl⟩) c_325_561 rfl ?_
  refine rf_iconst c_325_562 ki_4 ?_
  refine rf_iadd c_325_563 ?_
  refine rf_ite (fun hb564 => ?_) (fun _ => rf_none)
  refine rf_xald2 h_x0 c_325_564 hb564 ?_
  refine rf_callM (as := [.ref x2, .int (X.2 (ix (x3 + (1 : Int32)))), .int (X.2 (ix (x3 + (2 : Int32)))), .int (X.2 (ix (x3 + (3 : Int32)))), .int (X.2 (ix (x3 + (4 : Int32))))]) (kd := 1) c_325_565 rfl (by decide) rfl ml_13_52 (by decide) rfl (rcv_1 hS rfl rfl h_x2 (by decide)) (by simp [Value.category]) rfl rfl (t_Mo_way hS (by omega) x2 (X.2 (ix (x3 + (1 : Int32)))) (X.2 (ix (x3 + (2 : Int32)))) (X.2 (ix (x3 + (3 : Int32)))) (X.2 (ix (x3 + (4 : Int32)))) v541.2 h_x2) (fun v565 => ?_)
  refine rf_ite (fun hc568 => ?_) (fun hc568 => ?_)
  · refine rf_b2t c_325_568 rfl (decide_eq_true hc568) ?_
    exact t_Lw_law_2077 hS hd hk18 x0 x1 x2 x3 v565.2 h_x0 h_x1 h_x2
  · refine rf_b2f c_325_568 rfl (decide_eq_false hc568) ?_
    refine rf_iconst c_325_571 ki_0 ?_
    exact rf_ret c_325_572 rfl (by decide) rfl rfl
def f_Lw_law_573 (X : Xt) (k18 : Nat → Nat → Nat → Int32 → Mm → Option (Int32 × Mm)) (x0 : Nat) (x1 : Nat) (x2 : Nat) (x3 : Int32) (σ : Mm) : Option (Int32 × Mm) := if inbB (x3 + (1 : Int32)) X.1 = true then if inbB (x3 + (2 : Int32)) X.1 = true then if inbB (x3 + (3 : Int32)) X.1 = true then if inbB (x3 + (4 : Int32)) X.1 = true then if inbB (x3 + (5 : Int32)) X.1 = true then (f_Ct_paper x1 (X.2 (ix (x3 + (1 : Int32)))) (X.2 (ix (x3 + (2 : Int32)))) (X.2 (ix (x3 + (3 : Int32)))) (X.2 (ix (x3 + (4 : Int32)))) (X.2 (ix (x3 + (5 : Int32)))) σ).bind fun v599 => if inbB (x3 + (1 : Int32)) X.1 = true then if inbB (x3 + (2 : Int32)) X.1 = true then if inbB (x3 + (3 : Int32)) X.1 = true then if inbB (x3 + (4 : Int32)) X.1 = true then if inbB (x3 + (5 : Int32)) X.1 = true then (f_Mo_paper x2 (X.2 (ix (x3 + (1 : Int32)))) (X.2 (ix (x3 + (2 : Int32)))) (X.2 (ix (x3 + (3 : Int32)))) (X.2 (ix (x3 + (4 : Int32)))) (X.2 (ix (x3 + (5 : Int32)))) v599.2).bind fun v628 => (if v599.1 = v628.1 then (f_Lw_law_2077 X k18 x0 x1 x2 x3 v628.2) else (some ((0 : Int32), v628.2))) else none else none else none else none else none else none else none else none else none else none
set_option maxRecDepth 100000 in
set_option maxHeartbeats 4000000 in
theorem t_Lw_law_573 {X : Xt} {S : Sh} (hS : ShOK S) {d : Nat} (hd : 63 ≤ d + 1) {k18 : Nat → Nat → Nat → Int32 → Mm → Option (Int32 × Mm)} (hk18 : ∀ (x0 : Nat) (x1 : Nat) (x2 : Nat) (x3 : Int32) (σ : Mm) (h_x0 : x0 = 1000009) (h_x1 : tgT x1 = 11) (h_x2 : tgT x2 = 12), Rf X S emM (k18 x0 x1 x2 x3 σ) (d + 1) 325 18 [.ref x0, .ref x1, .ref x2, .int x3] [] σ) (x0 : Nat) (x1 : Nat) (x2 : Nat) (x3 : Int32) (σ : Mm) (h_x0 : x0 = 1000009) (h_x1 : tgT x1 = 11) (h_x2 : tgT x2 = 12) : Rf X S emM (f_Lw_law_573 X k18 x0 x1 x2 x3 σ) (d + 1) 325 573 [.ref x0, .ref x1, .ref x2, .int x3] [] σ := by
  unfold f_Lw_law_573
  refine rf_ald (i := 1) (Or.inr ⟨1, rfl, rfl, rfl⟩) c_325_573 rfl ?_
  refine rf_ald (i := 0) (Or.inr ⟨0, rfl, rfl, rfl⟩) c_325_574 rfl ?_
  refine rf_ild (i := 3) (Or.inr ⟨3, rfl, rfl, rfl⟩) c_325_575 rfl ?_
  refine rf_iconst c_325_576 ki_1 ?_
  refine rf_iadd c_325_577 ?_
  refine rf_ite (fun hb578 => ?_) (fun _ => rf_none)
  refine rf_xald2 h_x0 c_325_578 hb578 ?_
  refine rf_ald (i := 0) (Or.inr ⟨0, rfl, rfl, rfl⟩) c_325_579 rfl ?_
  refine rf_ild (i := 3) (Or.inr ⟨3, rfl, rfl, rfl⟩) c_325_580 rfl ?_
  refine rf_iconst c_325_581 ki_2 ?_
  refine rf_iadd c_325_582 ?_
  refine rf_ite (fun hb583 => ?_) (fun _ => rf_none)
  refine rf_xald2 h_x0 c_325_583 hb583 ?_
  refine rf_ald (i := 0) (Or.inr ⟨0, rfl, rfl, rfl⟩) c_325_584 rfl ?_
  refine rf_ild (i := 3) (Or.inr ⟨3, rfl, rfl, rfl⟩) c_325_585 rfl ?_
  refine rf_iconst c_325_586 ki_3 ?_
  refine rf_iadd c_325_587 ?_
  refine rf_ite (fun hb588 => ?_) (fun _ => rf_none)
  refine rf_xald2 h_x0 c_325_588 hb588 ?_
  refine rf_ald (i := 0) (Or.inr ⟨0, rfl, rfl, rfl⟩) c_325_589 rfl ?_
  refine rf_ild (i := 3) (Or.inr ⟨3, rfl, rfl, rfl⟩) c_325_590 rfl ?_
  refine rf_iconst c_325_591 ki_4 ?_
  refine rf_iadd c_325_592 ?_
  refine rf_ite (fun hb593 => ?_) (fun _ => rf_none)
  refine rf_xald2 h_x0 c_325_593 hb593 ?_
  refine rf_ald (i := 0) (Or.inr ⟨0, rfl, rfl, rfl⟩) c_325_594 rfl ?_
  refine rf_ild (i := 3) (Or.inr ⟨3, rfl, rfl, rfl⟩) c_325_595 rfl ?_
  refine rf_iconst c_325_596 ki_5 ?_
  refine rf_iadd c_325_597 ?_
  refine rf_ite (fun hb598 => ?_) (fun _ => rf_none)
  refine rf_xald2 h_x0 c_325_598 hb598 ?_
  refine rf_callM (as := [.ref x1, .int (X.2 (ix (x3 + (1 : Int32)))), .int (X.2 (ix (x3 + (2 : Int32)))), .int (X.2 (ix (x3 + (3 : Int32)))), .int (X.2 (ix (x3 + (4 : Int32)))), .int (X.2 (ix (x3 + (5 : Int32))))]) (kd := 1) c_325_599 rfl (by decide) rfl ml_13_53 (by decide) rfl (rcv_1 hS rfl rfl h_x1 (by decide)) (Nat.zero_le _) rfl rfl (t_Ct_paper hS (by omega) x1 (X.2 (ix (x3 + (1 : Int32)))) (X.2 (ix (x3 + (2 : Int32)))) (X.2 (ix (x3 + (3 : Int32)))) (X.2 (ix (x3 + (4 : Int32)))) (X.2 (ix (x3 + (5 : Int32)))) σ h_x1) (fun v599 => ?_)
  refine rf_ald (i := 2) (Or.inr ⟨2, rfl, rfl, rfl⟩) c_325_602 rfl ?_
  refine rf_ald (i := 0) (Or.inr ⟨0, rfl, rfl, rfl⟩) c_325_603 rfl ?_
  refine rf_ild (i := 3) (Or.inr ⟨3, rfl, rfl, rfl⟩) c_325_604 rfl ?_
  refine rf_iconst c_325_605 ki_1 ?_
  refine rf_iadd c_325_606 ?_
  refine rf_ite (fun hb607 => ?_) (fun _ => rf_none)
  refine rf_xald2 h_x0 c_325_607 hb607 ?_
  refine rf_ald (i := 0) (Or.inr ⟨0, rfl, rfl, rfl⟩) c_325_608 rfl ?_
  refine rf_ild (i := 3) (Or.inr ⟨3, rfl, rfl, rfl⟩) c_325_609 rfl ?_
  refine rf_iconst c_325_610 ki_2 ?_
  refine rf_iadd c_325_611 ?_
  refine rf_ite (fun hb612 => ?_) (fun _ => rf_none)
  refine rf_xald2 h_x0 c_325_612 hb612 ?_
  refine rf_ald (i := 0) (Or.inr ⟨0, rfl, rfl, rfl⟩) c_325_613 rfl ?_
  refine rf_ild (i := 3) (Or.inr ⟨3, rfl, rfl, rfl⟩) c_325_614 rfl ?_
  refine rf_iconst c_325_615 ki_3 ?_
  refine rf_iadd c_325_616 ?_
  refine rf_ite (fun hb617 => ?_) (fun _ => rf_none)
  refine rf_xald2 h_x0 c_325_617 hb617 ?_
  refine rf_ald (i := 0) (Or.inr ⟨0, rfl, rfl, rfl⟩) c_325_618 rfl ?_
  refine rf_ild (i := 3) (Or.inr ⟨3, rfl, rfl, rfl⟩) c_325_619 rfl ?_
  refine rf_iconst c_325_620 ki_4 ?_
  refine rf_iadd c_325_621 ?_
  refine rf_ite (fun hb622 => ?_) (fun _ => rf_none)
  refine rf_xald2 h_x0 c_325_622 hb622 ?_
  refine rf_ald (i := 0) (Or.inr ⟨0, rfl, rfl, rfl⟩) c_325_623 rfl ?_
  refine rf_ild (i := 3) (Or.inr ⟨3, rfl, rfl, rfl⟩) c_325_624 rfl ?_
  refine rf_iconst c_325_625 ki_5 ?_
  refine rf_iadd c_325_626 ?_
  refine rf_ite (fun hb627 => ?_) (fun _ => rf_none)
  refine rf_xald2 h_x0 c_325_627 hb627 ?_
  refine rf_callM (as := [.ref x2, .int (X.2 (ix (x3 + (1 : Int32)))), .int (X.2 (ix (x3 + (2 : Int32)))), .int (X.2 (ix (x3 + (3 : Int32)))), .int (X.2 (ix (x3 + (4 : Int32)))), .int (X.2 (ix (x3 + (5 : Int32))))]) (kd := 1) c_325_628 rfl (by decide) rfl ml_13_57 (by decide) rfl (rcv_1 hS rfl rfl h_x2 (by decide)) (by simp [Value.category]) rfl rfl (t_Mo_paper hS (by omega) x2 (X.2 (ix (x3 + (1 : Int32)))) (X.2 (ix (x3 + (2 : Int32)))) (X.2 (ix (x3 + (3 : Int32)))) (X.2 (ix (x3 + (4 : Int32)))) (X.2 (ix (x3 + (5 : Int32)))) v599.2 h_x2) (fun v628 => ?_)
  refine rf_ite (fun hc631 => ?_) (fun hc631 => ?_)
  · refine rf_b2t c_325_631 rfl (decide_eq_true hc631) ?_
    exact t_Lw_law_2077 hS hd hk18 x0 x1 x2 x3 v628.2 h_x0 h_x1 h_x2
  · refine rf_b2f c_325_631 rfl (decide_eq_false hc631) ?_
    refine rf_iconst c_325_634 ki_0 ?_
    exact rf_ret c_325_635 rfl (by decide) rfl rfl
def f_Lw_law_636 (X : Xt) (k18 : Nat → Nat → Nat → Int32 → Mm → Option (Int32 × Mm)) (x0 : Nat) (x1 : Nat) (x2 : Nat) (x3 : Int32) (σ : Mm) : Option (Int32 × Mm) := if inbB (x3 + (1 : Int32)) X.1 = true then if inbB (x3 + (2 : Int32)) X.1 = true then (f_Ct_told σ x1 (X.2 (ix (x3 + (1 : Int32)))) (X.2 (ix (x3 + (2 : Int32))))).bind fun v647 => if inbB (x3 + (1 : Int32)) X.1 = true then if inbB (x3 + (2 : Int32)) X.1 = true then (f_Mo_told σ x2 (X.2 (ix (x3 + (1 : Int32)))) (X.2 (ix (x3 + (2 : Int32))))).bind fun v661 => (if v647 = v661 then (f_Lw_law_2077 X k18 x0 x1 x2 x3 σ) else (some ((0 : Int32), σ))) else none else none else none else none
set_option maxRecDepth 100000 in
set_option maxHeartbeats 4000000 in
theorem t_Lw_law_636 {X : Xt} {S : Sh} (hS : ShOK S) {d : Nat} (hd : 63 ≤ d + 1) {k18 : Nat → Nat → Nat → Int32 → Mm → Option (Int32 × Mm)} (hk18 : ∀ (x0 : Nat) (x1 : Nat) (x2 : Nat) (x3 : Int32) (σ : Mm) (h_x0 : x0 = 1000009) (h_x1 : tgT x1 = 11) (h_x2 : tgT x2 = 12), Rf X S emM (k18 x0 x1 x2 x3 σ) (d + 1) 325 18 [.ref x0, .ref x1, .ref x2, .int x3] [] σ) (x0 : Nat) (x1 : Nat) (x2 : Nat) (x3 : Int32) (σ : Mm) (h_x0 : x0 = 1000009) (h_x1 : tgT x1 = 11) (h_x2 : tgT x2 = 12) : Rf X S emM (f_Lw_law_636 X k18 x0 x1 x2 x3 σ) (d + 1) 325 636 [.ref x0, .ref x1, .ref x2, .int x3] [] σ := by
  unfold f_Lw_law_636
  refine rf_ald (i := 1) (Or.inr ⟨1, rfl, rfl, rfl⟩) c_325_636 rfl ?_
  refine rf_ald (i := 0) (Or.inr ⟨0, rfl, rfl, rfl⟩) c_325_637 rfl ?_
  refine rf_ild (i := 3) (Or.inr ⟨3, rfl, rfl, rfl⟩) c_325_638 rfl ?_
  refine rf_iconst c_325_639 ki_1 ?_
  refine rf_iadd c_325_640 ?_
  refine rf_ite (fun hb641 => ?_) (fun _ => rf_none)
  refine rf_xald2 h_x0 c_325_641 hb641 ?_
  refine rf_ald (i := 0) (Or.inr ⟨0, rfl, rfl, rfl⟩) c_325_642 rfl ?_
  refine rf_ild (i := 3) (Or.inr ⟨3, rfl, rfl, rfl⟩) c_325_643 rfl ?_
  refine rf_iconst c_325_644 ki_2 ?_
  refine rf_iadd c_325_645 ?_
  refine rf_ite (fun hb646 => ?_) (fun _ => rf_none)
  refine rf_xald2 h_x0 c_325_646 hb646 ?_
  refine rf_callI (as := [.ref x1, .int (X.2 (ix (x3 + (1 : Int32)))), .int (X.2 (ix (x3 + (2 : Int32))))]) (kd := 1) c_325_647 rfl (by decide) rfl ml_13_58 (by decide) rfl (rcv_1 hS rfl rfl h_x1 (by decide)) (Nat.zero_le _) rfl rfl (t_Ct_told hS (by omega) σ x1 (X.2 (ix (x3 + (1 : Int32)))) (X.2 (ix (x3 + (2 : Int32)))) h_x1) (fun v647 => ?_)
  refine rf_ald (i := 2) (Or.inr ⟨2, rfl, rfl, rfl⟩) c_325_650 rfl ?_
  refine rf_ald (i := 0) (Or.inr ⟨0, rfl, rfl, rfl⟩) c_325_651 rfl ?_
  refine rf_ild (i := 3) (Or.inr ⟨3, rfl, rfl, rfl⟩) c_325_652 rfl ?_
  refine rf_iconst c_325_653 ki_1 ?_
  refine rf_iadd c_325_654 ?_
  refine rf_ite (fun hb655 => ?_) (fun _ => rf_none)
  refine rf_xald2 h_x0 c_325_655 hb655 ?_
  refine rf_ald (i := 0) (Or.inr ⟨0, rfl, rfl, rfl⟩) c_325_656 rfl ?_
  refine rf_ild (i := 3) (Or.inr ⟨3, rfl, rfl, rfl⟩) c_325_657 rfl ?_
  refine rf_iconst c_325_658 ki_2 ?_
  refine rf_iadd c_325_659 ?_
  refine rf_ite (fun hb660 => ?_) (fun _ => rf_none)
  refine rf_xald2 h_x0 c_325_660 hb660 ?_
  refine rf_callI (as := [.ref x2, .int (X.2 (ix (x3 + (1 : Int32)))), .int (X.2 (ix (x3 + (2 : Int32))))]) (kd := 1) c_325_661 rfl (by decide) rfl ml_13_61 (by decide) rfl (rcv_1 hS rfl rfl h_x2 (by decide)) (by simp [Value.category]) rfl rfl (t_Mo_told hS (by omega) σ x2 (X.2 (ix (x3 + (1 : Int32)))) (X.2 (ix (x3 + (2 : Int32)))) h_x2) (fun v661 => ?_)
  refine rf_ite (fun hc664 => ?_) (fun hc664 => ?_)
  · refine rf_b2t c_325_664 rfl (decide_eq_true hc664) ?_
    exact t_Lw_law_2077 hS hd hk18 x0 x1 x2 x3 σ h_x0 h_x1 h_x2
  · refine rf_b2f c_325_664 rfl (decide_eq_false hc664) ?_
    refine rf_iconst c_325_667 ki_0 ?_
    exact rf_ret c_325_668 rfl (by decide) rfl rfl
def f_Lw_law_669 (X : Xt) (k18 : Nat → Nat → Nat → Int32 → Mm → Option (Int32 × Mm)) (x0 : Nat) (x1 : Nat) (x2 : Nat) (x3 : Int32) (σ : Mm) : Option (Int32 × Mm) := if inbB (x3 + (1 : Int32)) X.1 = true then if inbB (x3 + (2 : Int32)) X.1 = true then (f_Ct_as σ x1 (X.2 (ix (x3 + (1 : Int32)))) (X.2 (ix (x3 + (2 : Int32))))).bind fun v680 => if inbB (x3 + (1 : Int32)) X.1 = true then if inbB (x3 + (2 : Int32)) X.1 = true then (f_Mo_as σ x2 (X.2 (ix (x3 + (1 : Int32)))) (X.2 (ix (x3 + (2 : Int32))))).bind fun v694 => (if v680 = v694 then (f_Lw_law_2077 X k18 x0 x1 x2 x3 σ) else (some ((0 : Int32), σ))) else none else none else none else none
set_option maxRecDepth 100000 in
set_option maxHeartbeats 4000000 in
theorem t_Lw_law_669 {X : Xt} {S : Sh} (hS : ShOK S) {d : Nat} (hd : 63 ≤ d + 1) {k18 : Nat → Nat → Nat → Int32 → Mm → Option (Int32 × Mm)} (hk18 : ∀ (x0 : Nat) (x1 : Nat) (x2 : Nat) (x3 : Int32) (σ : Mm) (h_x0 : x0 = 1000009) (h_x1 : tgT x1 = 11) (h_x2 : tgT x2 = 12), Rf X S emM (k18 x0 x1 x2 x3 σ) (d + 1) 325 18 [.ref x0, .ref x1, .ref x2, .int x3] [] σ) (x0 : Nat) (x1 : Nat) (x2 : Nat) (x3 : Int32) (σ : Mm) (h_x0 : x0 = 1000009) (h_x1 : tgT x1 = 11) (h_x2 : tgT x2 = 12) : Rf X S emM (f_Lw_law_669 X k18 x0 x1 x2 x3 σ) (d + 1) 325 669 [.ref x0, .ref x1, .ref x2, .int x3] [] σ := by
  unfold f_Lw_law_669
  refine rf_ald (i := 1) (Or.inr ⟨1, rfl, rfl, rfl⟩) c_325_669 rfl ?_
  refine rf_ald (i := 0) (Or.inr ⟨0, rfl, rfl, rfl⟩) c_325_670 rfl ?_
  refine rf_ild (i := 3) (Or.inr ⟨3, rfl, rfl, rfl⟩) c_325_671 rfl ?_
  refine rf_iconst c_325_672 ki_1 ?_
  refine rf_iadd c_325_673 ?_
  refine rf_ite (fun hb674 => ?_) (fun _ => rf_none)
  refine rf_xald2 h_x0 c_325_674 hb674 ?_
  refine rf_ald (i := 0) (Or.inr ⟨0, rfl, rfl, rfl⟩) c_325_675 rfl ?_
  refine rf_ild (i := 3) (Or.inr ⟨3, rfl, rfl, rfl⟩) c_325_676 rfl ?_
  refine rf_iconst c_325_677 ki_2 ?_
  refine rf_iadd c_325_678 ?_
  refine rf_ite (fun hb679 => ?_) (fun _ => rf_none)
  refine rf_xald2 h_x0 c_325_679 hb679 ?_
  refine rf_callI (as := [.ref x1, .int (X.2 (ix (x3 + (1 : Int32)))), .int (X.2 (ix (x3 + (2 : Int32))))]) (kd := 1) c_325_680 rfl (by decide) rfl ml_13_62 (by decide) rfl (rcv_1 hS rfl rfl h_x1 (by decide)) (Nat.zero_le _) rfl rfl (t_Ct_as hS (by omega) σ x1 (X.2 (ix (x3 + (1 : Int32)))) (X.2 (ix (x3 + (2 : Int32)))) h_x1) (fun v680 => ?_)
  refine rf_ald (i := 2) (Or.inr ⟨2, rfl, rfl, rfl⟩) c_325_683 rfl ?_
  refine rf_ald (i := 0) (Or.inr ⟨0, rfl, rfl, rfl⟩) c_325_684 rfl ?_
  refine rf_ild (i := 3) (Or.inr ⟨3, rfl, rfl, rfl⟩) c_325_685 rfl ?_
  refine rf_iconst c_325_686 ki_1 ?_
  refine rf_iadd c_325_687 ?_
  refine rf_ite (fun hb688 => ?_) (fun _ => rf_none)
  refine rf_xald2 h_x0 c_325_688 hb688 ?_
  refine rf_ald (i := 0) (Or.inr ⟨0, rfl, rfl, rfl⟩) c_325_689 rfl ?_
  refine rf_ild (i := 3) (Or.inr ⟨3, rfl, rfl, rfl⟩) c_325_690 rfl ?_
  refine rf_iconst c_325_691 ki_2 ?_
  refine rf_iadd c_325_692 ?_
  refine rf_ite (fun hb693 => ?_) (fun _ => rf_none)
  refine rf_xald2 h_x0 c_325_693 hb693 ?_
  refine rf_callI (as := [.ref x2, .int (X.2 (ix (x3 + (1 : Int32)))), .int (X.2 (ix (x3 + (2 : Int32))))]) (kd := 1) c_325_694 rfl (by decide) rfl ml_13_65 (by decide) rfl (rcv_1 hS rfl rfl h_x2 (by decide)) (by simp [Value.category]) rfl rfl (t_Mo_as hS (by omega) σ x2 (X.2 (ix (x3 + (1 : Int32)))) (X.2 (ix (x3 + (2 : Int32)))) h_x2) (fun v694 => ?_)
  refine rf_ite (fun hc697 => ?_) (fun hc697 => ?_)
  · refine rf_b2t c_325_697 rfl (decide_eq_true hc697) ?_
    exact t_Lw_law_2077 hS hd hk18 x0 x1 x2 x3 σ h_x0 h_x1 h_x2
  · refine rf_b2f c_325_697 rfl (decide_eq_false hc697) ?_
    refine rf_iconst c_325_700 ki_0 ?_
    exact rf_ret c_325_701 rfl (by decide) rfl rfl
def f_Lw_law_702 (X : Xt) (k18 : Nat → Nat → Nat → Int32 → Mm → Option (Int32 × Mm)) (x0 : Nat) (x1 : Nat) (x2 : Nat) (x3 : Int32) (σ : Mm) : Option (Int32 × Mm) := if inbB (x3 + (1 : Int32)) X.1 = true then (f_Ct_send x1 (X.2 (ix (x3 + (1 : Int32)))) σ).bind fun v708 => if inbB (x3 + (1 : Int32)) X.1 = true then (f_Mo_send x2 (X.2 (ix (x3 + (1 : Int32)))) v708.2).bind fun v717 => (if v708.1 = v717.1 then (f_Lw_law_2077 X k18 x0 x1 x2 x3 v717.2) else (some ((0 : Int32), v717.2))) else none else none
set_option maxRecDepth 100000 in
set_option maxHeartbeats 4000000 in
theorem t_Lw_law_702 {X : Xt} {S : Sh} (hS : ShOK S) {d : Nat} (hd : 63 ≤ d + 1) {k18 : Nat → Nat → Nat → Int32 → Mm → Option (Int32 × Mm)} (hk18 : ∀ (x0 : Nat) (x1 : Nat) (x2 : Nat) (x3 : Int32) (σ : Mm) (h_x0 : x0 = 1000009) (h_x1 : tgT x1 = 11) (h_x2 : tgT x2 = 12), Rf X S emM (k18 x0 x1 x2 x3 σ) (d + 1) 325 18 [.ref x0, .ref x1, .ref x2, .int x3] [] σ) (x0 : Nat) (x1 : Nat) (x2 : Nat) (x3 : Int32) (σ : Mm) (h_x0 : x0 = 1000009) (h_x1 : tgT x1 = 11) (h_x2 : tgT x2 = 12) : Rf X S emM (f_Lw_law_702 X k18 x0 x1 x2 x3 σ) (d + 1) 325 702 [.ref x0, .ref x1, .ref x2, .int x3] [] σ := by
  unfold f_Lw_law_702
  refine rf_ald (i := 1) (Or.inr ⟨1, rfl, rfl, rfl⟩) c_325_702 rfl ?_
  refine rf_ald (i := 0) (Or.inr ⟨0, rfl, rfl, rfl⟩) c_325_703 rfl ?_
  refine rf_ild (i := 3) (Or.inr ⟨3, rfl, rfl, rfl⟩) c_325_704 rfl ?_
  refine rf_iconst c_325_705 ki_1 ?_
  refine rf_iadd c_325_706 ?_
  refine rf_ite (fun hb707 => ?_) (fun _ => rf_none)
  refine rf_xald2 h_x0 c_325_707 hb707 ?_
  refine rf_callM (as := [.ref x1, .int (X.2 (ix (x3 + (1 : Int32))))]) (kd := 1) c_325_708 rfl (by decide) rfl ml_13_66 (by decide) rfl (rcv_1 hS rfl rfl h_x1 (by decide)) (Nat.zero_le _) rfl rfl (t_Ct_send hS (by omega) x1 (X.2 (ix (x3 + (1 : Int32)))) σ h_x1) (fun v708 => ?_)
  refine rf_ald (i := 2) (Or.inr ⟨2, rfl, rfl, rfl⟩) c_325_711 rfl ?_
  refine rf_ald (i := 0) (Or.inr ⟨0, rfl, rfl, rfl⟩) c_325_712 rfl ?_
  refine rf_ild (i := 3) (Or.inr ⟨3, rfl, rfl, rfl⟩) c_325_713 rfl ?_
  refine rf_iconst c_325_714 ki_1 ?_
  refine rf_iadd c_325_715 ?_
  refine rf_ite (fun hb716 => ?_) (fun _ => rf_none)
  refine rf_xald2 h_x0 c_325_716 hb716 ?_
  refine rf_callM (as := [.ref x2, .int (X.2 (ix (x3 + (1 : Int32))))]) (kd := 1) c_325_717 rfl (by decide) rfl ml_13_70 (by decide) rfl (rcv_1 hS rfl rfl h_x2 (by decide)) (by simp [Value.category]) rfl rfl (t_Mo_send hS (by omega) x2 (X.2 (ix (x3 + (1 : Int32)))) v708.2 h_x2) (fun v717 => ?_)
  refine rf_ite (fun hc720 => ?_) (fun hc720 => ?_)
  · refine rf_b2t c_325_720 rfl (decide_eq_true hc720) ?_
    exact t_Lw_law_2077 hS hd hk18 x0 x1 x2 x3 v717.2 h_x0 h_x1 h_x2
  · refine rf_b2f c_325_720 rfl (decide_eq_false hc720) ?_
    refine rf_iconst c_325_723 ki_0 ?_
    exact rf_ret c_325_724 rfl (by decide) rfl rfl
def f_Lw_law_725 (X : Xt) (k18 : Nat → Nat → Nat → Int32 → Mm → Option (Int32 × Mm)) (x0 : Nat) (x1 : Nat) (x2 : Nat) (x3 : Int32) (σ : Mm) : Option (Int32 × Mm) := if inbB (x3 + (1 : Int32)) X.1 = true then (f_Ct_take x1 (X.2 (ix (x3 + (1 : Int32)))) σ).bind fun v731 => if inbB (x3 + (1 : Int32)) X.1 = true then (f_Mo_take x2 (X.2 (ix (x3 + (1 : Int32)))) v731.2).bind fun v740 => (if v731.1 = v740.1 then (f_Lw_law_2077 X k18 x0 x1 x2 x3 v740.2) else (some ((0 : Int32), v740.2))) else none else none
set_option maxRecDepth 100000 in
set_option maxHeartbeats 4000000 in
theorem t_Lw_law_725 {X : Xt} {S : Sh} (hS : ShOK S) {d : Nat} (hd : 63 ≤ d + 1) {k18 : Nat → Nat → Nat → Int32 → Mm → Option (Int32 × Mm)} (hk18 : ∀ (x0 : Nat) (x1 : Nat) (x2 : Nat) (x3 : Int32) (σ : Mm) (h_x0 : x0 = 1000009) (h_x1 : tgT x1 = 11) (h_x2 : tgT x2 = 12), Rf X S emM (k18 x0 x1 x2 x3 σ) (d + 1) 325 18 [.ref x0, .ref x1, .ref x2, .int x3] [] σ) (x0 : Nat) (x1 : Nat) (x2 : Nat) (x3 : Int32) (σ : Mm) (h_x0 : x0 = 1000009) (h_x1 : tgT x1 = 11) (h_x2 : tgT x2 = 12) : Rf X S emM (f_Lw_law_725 X k18 x0 x1 x2 x3 σ) (d + 1) 325 725 [.ref x0, .ref x1, .ref x2, .int x3] [] σ := by
  unfold f_Lw_law_725
  refine rf_ald (i := 1) (Or.inr ⟨1, rfl, rfl, rfl⟩) c_325_725 rfl ?_
  refine rf_ald (i := 0) (Or.inr ⟨0, rfl, rfl, rfl⟩) c_325_726 rfl ?_
  refine rf_ild (i := 3) (Or.inr ⟨3, rfl, rfl, rfl⟩) c_325_727 rfl ?_
  refine rf_iconst c_325_728 ki_1 ?_
  refine rf_iadd c_325_729 ?_
  refine rf_ite (fun hb730 => ?_) (fun _ => rf_none)
  refine rf_xald2 h_x0 c_325_730 hb730 ?_
  refine rf_callM (as := [.ref x1, .int (X.2 (ix (x3 + (1 : Int32))))]) (kd := 1) c_325_731 rfl (by decide) rfl ml_13_71 (by decide) rfl (rcv_1 hS rfl rfl h_x1 (by decide)) (Nat.zero_le _) rfl rfl (t_Ct_take hS (by omega) x1 (X.2 (ix (x3 + (1 : Int32)))) σ h_x1) (fun v731 => ?_)
  refine rf_ald (i := 2) (Or.inr ⟨2, rfl, rfl, rfl⟩) c_325_734 rfl ?_
  refine rf_ald (i := 0) (Or.inr ⟨0, rfl, rfl, rfl⟩) c_325_735 rfl ?_
  refine rf_ild (i := 3) (Or.inr ⟨3, rfl, rfl, rfl⟩) c_325_736 rfl ?_
  refine rf_iconst c_325_737 ki_1 ?_
  refine rf_iadd c_325_738 ?_
  refine rf_ite (fun hb739 => ?_) (fun _ => rf_none)
  refine rf_xald2 h_x0 c_325_739 hb739 ?_
  refine rf_callM (as := [.ref x2, .int (X.2 (ix (x3 + (1 : Int32))))]) (kd := 1) c_325_740 rfl (by decide) rfl ml_13_74 (by decide) rfl (rcv_1 hS rfl rfl h_x2 (by decide)) (by simp [Value.category]) rfl rfl (t_Mo_take hS (by omega) x2 (X.2 (ix (x3 + (1 : Int32)))) v731.2 h_x2) (fun v740 => ?_)
  refine rf_ite (fun hc743 => ?_) (fun hc743 => ?_)
  · refine rf_b2t c_325_743 rfl (decide_eq_true hc743) ?_
    exact t_Lw_law_2077 hS hd hk18 x0 x1 x2 x3 v740.2 h_x0 h_x1 h_x2
  · refine rf_b2f c_325_743 rfl (decide_eq_false hc743) ?_
    refine rf_iconst c_325_746 ki_0 ?_
    exact rf_ret c_325_747 rfl (by decide) rfl rfl
def f_Lw_law_748 (X : Xt) (k18 : Nat → Nat → Nat → Int32 → Mm → Option (Int32 × Mm)) (x0 : Nat) (x1 : Nat) (x2 : Nat) (x3 : Int32) (σ : Mm) : Option (Int32 × Mm) := if inbB (x3 + (1 : Int32)) X.1 = true then if inbB (x3 + (2 : Int32)) X.1 = true then if inbB (x3 + (3 : Int32)) X.1 = true then (f_Ct_word x1 (X.2 (ix (x3 + (1 : Int32)))) (X.2 (ix (x3 + (2 : Int32)))) (X.2 (ix (x3 + (3 : Int32)))) σ).bind fun v764 => if inbB (x3 + (1 : Int32)) X.1 = true then if inbB (x3 + (2 : Int32)) X.1 = true then if inbB (x3 + (3 : Int32)) X.1 = true then (f_Mo_word x2 (X.2 (ix (x3 + (1 : Int32)))) (X.2 (ix (x3 + (2 : Int32)))) (X.2 (ix (x3 + (3 : Int32)))) v764.2).bind fun v783 => (if v764.1 = v783.1 then (f_Lw_law_2077 X k18 x0 x1 x2 x3 v783.2) else (some ((0 : Int32), v783.2))) else none else none else none else none else none else none
set_option maxRecDepth 100000 in
set_option maxHeartbeats 4000000 in
theorem t_Lw_law_748 {X : Xt} {S : Sh} (hS : ShOK S) {d : Nat} (hd : 63 ≤ d + 1) {k18 : Nat → Nat → Nat → Int32 → Mm → Option (Int32 × Mm)} (hk18 : ∀ (x0 : Nat) (x1 : Nat) (x2 : Nat) (x3 : Int32) (σ : Mm) (h_x0 : x0 = 1000009) (h_x1 : tgT x1 = 11) (h_x2 : tgT x2 = 12), Rf X S emM (k18 x0 x1 x2 x3 σ) (d + 1) 325 18 [.ref x0, .ref x1, .ref x2, .int x3] [] σ) (x0 : Nat) (x1 : Nat) (x2 : Nat) (x3 : Int32) (σ : Mm) (h_x0 : x0 = 1000009) (h_x1 : tgT x1 = 11) (h_x2 : tgT x2 = 12) : Rf X S emM (f_Lw_law_748 X k18 x0 x1 x2 x3 σ) (d + 1) 325 748 [.ref x0, .ref x1, .ref x2, .int x3] [] σ := by
  unfold f_Lw_law_748
  refine rf_ald (i := 1) (Or.inr ⟨1, rfl, rfl, rfl⟩) c_325_748 rfl ?_
  refine rf_ald (i := 0) (Or.inr ⟨0, rfl, rfl, rfl⟩) c_325_749 rfl ?_
  refine rf_ild (i := 3) (Or.inr ⟨3, rfl, rfl, rfl⟩) c_325_750 rfl ?_
  refine rf_iconst c_325_751 ki_1 ?_
  refine rf_iadd c_325_752 ?_
  refine rf_ite (fun hb753 => ?_) (fun _ => rf_none)
  refine rf_xald2 h_x0 c_325_753 hb753 ?_
  refine rf_ald (i := 0) (Or.inr ⟨0, rfl, rfl, rfl⟩) c_325_754 rfl ?_
  refine rf_ild (i := 3) (Or.inr ⟨3, rfl, rfl, rfl⟩) c_325_755 rfl ?_
  refine rf_iconst c_325_756 ki_2 ?_
  refine rf_iadd c_325_757 ?_
  refine rf_ite (fun hb758 => ?_) (fun _ => rf_none)
  refine rf_xald2 h_x0 c_325_758 hb758 ?_
  refine rf_ald (i := 0) (Or.inr ⟨0, rfl, rfl, rfl⟩) c_325_759 rfl ?_
  refine rf_ild (i := 3) (Or.inr ⟨3, rfl, rfl, rfl⟩) c_325_760 rfl ?_
  refine rf_iconst c_325_761 ki_3 ?_
  refine rf_iadd c_325_762 ?_
  refine rf_ite (fun hb763 => ?_) (fun _ => rf_none)
  refine rf_xald2 h_x0 c_325_763 hb763 ?_
  refine rf_callM (as := [.ref x1, .int (X.2 (ix (x3 + (1 : Int32)))), .int (X.2 (ix (x3 + (2 : Int32)))), .int (X.2 (ix (x3 + (3 : Int32))))]) (kd := 1) c_325_764 rfl (by decide) rfl ml_13_75 (by decide) rfl (rcv_1 hS rfl rfl h_x1 (by decide)) (Nat.zero_le _) rfl rfl (t_Ct_word hS (by omega) x1 (X.2 (ix (x3 + (1 : Int32)))) (X.2 (ix (x3 + (2 : Int32)))) (X.2 (ix (x3 + (3 : Int32)))) σ h_x1) (fun v764 => ?_)
  refine rf_ald (i := 2) (Or.inr ⟨2, rfl, rfl, rfl⟩) c_325_767 rfl ?_
  refine rf_ald (i := 0) (Or.inr ⟨0, rfl, rfl, rfl⟩) c_325_768 rfl ?_
  refine rf_ild (i := 3) (Or.inr ⟨3, rfl, rfl, rfl⟩) c_325_769 rfl ?_
  refine rf_iconst c_325_770 ki_1 ?_
  refine rf_iadd c_325_771 ?_
  refine rf_ite (fun hb772 => ?_) (fun _ => rf_none)
  refine rf_xald2 h_x0 c_325_772 hb772 ?_
  refine rf_ald (i := 0) (Or.inr ⟨0, rfl, rfl, rfl⟩) c_325_773 rfl ?_
  refine rf_ild (i := 3) (Or.inr ⟨3, rfl, rfl, rfl⟩) c_325_774 rfl ?_
  refine rf_iconst c_325_775 ki_2 ?_
  refine rf_iadd c_325_776 ?_
  refine rf_ite (fun hb777 => ?_) (fun _ => rf_none)
  refine rf_xald2 h_x0 c_325_777 hb777 ?_
  refine rf_ald (i := 0) (Or.inr ⟨0, rfl, rfl, rfl⟩) c_325_778 rfl ?_
  refine rf_ild (i := 3) (Or.inr ⟨3, rfl, rfl, rfl⟩) c_325_779 rfl ?_
  refine rf_iconst c_325_780 ki_3 ?_
  refine rf_iadd c_325_781 ?_
  refine rf_ite (fun hb782 => ?_) (fun _ => rf_none)
  refine rf_xald2 h_x0 c_325_782 hb782 ?_
  refine rf_callM (as := [.ref x2, .int (X.2 (ix (x3 + (1 : Int32)))), .int (X.2 (ix (x3 + (2 : Int32)))), .int (X.2 (ix (x3 + (3 : Int32))))]) (kd := 1) c_325_783 rfl (by decide) rfl ml_13_78 (by decide) rfl (rcv_1 hS rfl rfl h_x2 (by decide)) (by simp [Value.category]) rfl rfl (t_Mo_word hS (by omega) x2 (X.2 (ix (x3 + (1 : Int32)))) (X.2 (ix (x3 + (2 : Int32)))) (X.2 (ix (x3 + (3 : Int32)))) v764.2 h_x2) (fun v783 => ?_)
  refine rf_ite (fun hc786 => ?_) (fun hc786 => ?_)
  · refine rf_b2t c_325_786 rfl (decide_eq_true hc786) ?_
    exact t_Lw_law_2077 hS hd hk18 x0 x1 x2 x3 v783.2 h_x0 h_x1 h_x2
  · refine rf_b2f c_325_786 rfl (decide_eq_false hc786) ?_
    refine rf_iconst c_325_789 ki_0 ?_
    exact rf_ret c_325_790 rfl (by decide) rfl rfl
def f_Lw_law_791 (X : Xt) (k18 : Nat → Nat → Nat → Int32 → Mm → Option (Int32 × Mm)) (x0 : Nat) (x1 : Nat) (x2 : Nat) (x3 : Int32) (σ : Mm) : Option (Int32 × Mm) := if inbB (x3 + (1 : Int32)) X.1 = true then if inbB (x3 + (2 : Int32)) X.1 = true then if inbB (x3 + (3 : Int32)) X.1 = true then (f_Ct_feed x1 (X.2 (ix (x3 + (1 : Int32)))) (X.2 (ix (x3 + (2 : Int32)))) (X.2 (ix (x3 + (3 : Int32)))) σ).bind fun v807 => if inbB (x3 + (1 : Int32)) X.1 = true then if inbB (x3 + (2 : Int32)) X.1 = true then if inbB (x3 + (3 : Int32)) X.1 = true then (f_Mo_feed x2 (X.2 (ix (x3 + (1 : Int32)))) (X.2 (ix (x3 + (2 : Int32)))) (X.2 (ix (x3 + (3 : Int32)))) v807.2).bind fun v826 => (if v807.1 = v826.1 then (f_Lw_law_2077 X k18 x0 x1 x2 x3 v826.2) else (some ((0 : Int32), v826.2))) else none else none else none else none else none else none
set_option maxRecDepth 100000 in
set_option maxHeartbeats 4000000 in
theorem t_Lw_law_791 {X : Xt} {S : Sh} (hS : ShOK S) {d : Nat} (hd : 63 ≤ d + 1) {k18 : Nat → Nat → Nat → Int32 → Mm → Option (Int32 × Mm)} (hk18 : ∀ (x0 : Nat) (x1 : Nat) (x2 : Nat) (x3 : Int32) (σ : Mm) (h_x0 : x0 = 1000009) (h_x1 : tgT x1 = 11) (h_x2 : tgT x2 = 12), Rf X S emM (k18 x0 x1 x2 x3 σ) (d + 1) 325 18 [.ref x0, .ref x1, .ref x2, .int x3] [] σ) (x0 : Nat) (x1 : Nat) (x2 : Nat) (x3 : Int32) (σ : Mm) (h_x0 : x0 = 1000009) (h_x1 : tgT x1 = 11) (h_x2 : tgT x2 = 12) : Rf X S emM (f_Lw_law_791 X k18 x0 x1 x2 x3 σ) (d + 1) 325 791 [.ref x0, .ref x1, .ref x2, .int x3] [] σ := by
  unfold f_Lw_law_791
  refine rf_ald (i := 1) (Or.inr ⟨1, rfl, rfl, rfl⟩) c_325_791 rfl ?_
  refine rf_ald (i := 0) (Or.inr ⟨0, rfl, rfl, rfl⟩) c_325_792 rfl ?_
  refine rf_ild (i := 3) (Or.inr ⟨3, rfl, rfl, rfl⟩) c_325_793 rfl ?_
  refine rf_iconst c_325_794 ki_1 ?_
  refine rf_iadd c_325_795 ?_
  refine rf_ite (fun hb796 => ?_) (fun _ => rf_none)
  refine rf_xald2 h_x0 c_325_796 hb796 ?_
  refine rf_ald (i := 0) (Or.inr ⟨0, rfl, rfl, rfl⟩) c_325_797 rfl ?_
  refine rf_ild (i := 3) (Or.inr ⟨3, rfl, rfl, rfl⟩) c_325_798 rfl ?_
  refine rf_iconst c_325_799 ki_2 ?_
  refine rf_iadd c_325_800 ?_
  refine rf_ite (fun hb801 => ?_) (fun _ => rf_none)
  refine rf_xald2 h_x0 c_325_801 hb801 ?_
  refine rf_ald (i := 0) (Or.inr ⟨0, rfl, rfl, rfl⟩) c_325_802 rfl ?_
  refine rf_ild (i := 3) (Or.inr ⟨3, rfl, rfl, rfl⟩) c_325_803 rfl ?_
  refine rf_iconst c_325_804 ki_3 ?_
  refine rf_iadd c_325_805 ?_
  refine rf_ite (fun hb806 => ?_) (fun _ => rf_none)
  refine rf_xald2 h_x0 c_325_806 hb806 ?_
  refine rf_callM (as := [.ref x1, .int (X.2 (ix (x3 + (1 : Int32)))), .int (X.2 (ix (x3 + (2 : Int32)))), .int (X.2 (ix (x3 + (3 : Int32))))]) (kd := 1) c_325_807 rfl (by decide) rfl ml_13_79 (by decide) rfl (rcv_1 hS rfl rfl h_x1 (by decide)) (Nat.zero_le _) rfl rfl (t_Ct_feed hS (by omega) x1 (X.2 (ix (x3 + (1 : Int32)))) (X.2 (ix (x3 + (2 : Int32)))) (X.2 (ix (x3 + (3 : Int32)))) σ h_x1) (fun v807 => ?_)
  refine rf_ald (i := 2) (Or.inr ⟨2, rfl, rfl, rfl⟩) c_325_810 rfl ?_
  refine rf_ald (i := 0) (Or.inr ⟨0, rfl, rfl, rfl⟩) c_325_811 rfl ?_
  refine rf_ild (i := 3) (Or.inr ⟨3, rfl, rfl, rfl⟩) c_325_812 rfl ?_
  refine rf_iconst c_325_813 ki_1 ?_
  refine rf_iadd c_325_814 ?_
  refine rf_ite (fun hb815 => ?_) (fun _ => rf_none)
  refine rf_xald2 h_x0 c_325_815 hb815 ?_
  refine rf_ald (i := 0) (Or.inr ⟨0, rfl, rfl, rfl⟩) c_325_816 rfl ?_
  refine rf_ild (i := 3) (Or.inr ⟨3, rfl, rfl, rfl⟩) c_325_817 rfl ?_
  refine rf_iconst c_325_818 ki_2 ?_
  refine rf_iadd c_325_819 ?_
  refine rf_ite (fun hb820 => ?_) (fun _ => rf_none)
  refine rf_xald2 h_x0 c_325_820 hb820 ?_
  refine rf_ald (i := 0) (Or.inr ⟨0, rfl, rfl, rfl⟩) c_325_821 rfl ?_
  refine rf_ild (i := 3) (Or.inr ⟨3, rfl, rfl, rfl⟩) c_325_822 rfl ?_
  refine rf_iconst c_325_823 ki_3 ?_
  refine rf_iadd c_325_824 ?_
  refine rf_ite (fun hb825 => ?_) (fun _ => rf_none)
  refine rf_xald2 h_x0 c_325_825 hb825 ?_
  refine rf_callM (as := [.ref x2, .int (X.2 (ix (x3 + (1 : Int32)))), .int (X.2 (ix (x3 + (2 : Int32)))), .int (X.2 (ix (x3 + (3 : Int32))))]) (kd := 1) c_325_826 rfl (by decide) rfl ml_13_82 (by decide) rfl (rcv_1 hS rfl rfl h_x2 (by decide)) (by simp [Value.category]) rfl rfl (t_Mo_feed hS (by omega) x2 (X.2 (ix (x3 + (1 : Int32)))) (X.2 (ix (x3 + (2 : Int32)))) (X.2 (ix (x3 + (3 : Int32)))) v807.2 h_x2) (fun v826 => ?_)
  refine rf_ite (fun hc829 => ?_) (fun hc829 => ?_)
  · refine rf_b2t c_325_829 rfl (decide_eq_true hc829) ?_
    exact t_Lw_law_2077 hS hd hk18 x0 x1 x2 x3 v826.2 h_x0 h_x1 h_x2
  · refine rf_b2f c_325_829 rfl (decide_eq_false hc829) ?_
    refine rf_iconst c_325_832 ki_0 ?_
    exact rf_ret c_325_833 rfl (by decide) rfl rfl
def f_Lw_law_834 (X : Xt) (k18 : Nat → Nat → Nat → Int32 → Mm → Option (Int32 × Mm)) (x0 : Nat) (x1 : Nat) (x2 : Nat) (x3 : Int32) (σ : Mm) : Option (Int32 × Mm) := if inbB (x3 + (1 : Int32)) X.1 = true then (f_Ct_trim x1 (X.2 (ix (x3 + (1 : Int32)))) σ).bind fun v840 => if inbB (x3 + (1 : Int32)) X.1 = true then (f_Mo_trim x2 (X.2 (ix (x3 + (1 : Int32)))) v840.2).bind fun v849 => (if v840.1 = v849.1 then (f_Lw_law_2077 X k18 x0 x1 x2 x3 v849.2) else (some ((0 : Int32), v849.2))) else none else none
set_option maxRecDepth 100000 in
set_option maxHeartbeats 4000000 in
theorem t_Lw_law_834 {X : Xt} {S : Sh} (hS : ShOK S) {d : Nat} (hd : 63 ≤ d + 1) {k18 : Nat → Nat → Nat → Int32 → Mm → Option (Int32 × Mm)} (hk18 : ∀ (x0 : Nat) (x1 : Nat) (x2 : Nat) (x3 : Int32) (σ : Mm) (h_x0 : x0 = 1000009) (h_x1 : tgT x1 = 11) (h_x2 : tgT x2 = 12), Rf X S emM (k18 x0 x1 x2 x3 σ) (d + 1) 325 18 [.ref x0, .ref x1, .ref x2, .int x3] [] σ) (x0 : Nat) (x1 : Nat) (x2 : Nat) (x3 : Int32) (σ : Mm) (h_x0 : x0 = 1000009) (h_x1 : tgT x1 = 11) (h_x2 : tgT x2 = 12) : Rf X S emM (f_Lw_law_834 X k18 x0 x1 x2 x3 σ) (d + 1) 325 834 [.ref x0, .ref x1, .ref x2, .int x3] [] σ := by
  unfold f_Lw_law_834
  refine rf_ald (i := 1) (Or.inr ⟨1, rfl, rfl, rfl⟩) c_325_834 rfl ?_
  refine rf_ald (i := 0) (Or.inr ⟨0, rfl, rfl, rfl⟩) c_325_835 rfl ?_
  refine rf_ild (i := 3) (Or.inr ⟨3, rfl, rfl, rfl⟩) c_325_836 rfl ?_
  refine rf_iconst c_325_837 ki_1 ?_
  refine rf_iadd c_325_838 ?_
  refine rf_ite (fun hb839 => ?_) (fun _ => rf_none)
  refine rf_xald2 h_x0 c_325_839 hb839 ?_
  refine rf_callM (as := [.ref x1, .int (X.2 (ix (x3 + (1 : Int32))))]) (kd := 1) c_325_840 rfl (by decide) rfl ml_13_83 (by decide) rfl (rcv_1 hS rfl rfl h_x1 (by decide)) (Nat.zero_le _) rfl rfl (t_Ct_trim hS (by omega) x1 (X.2 (ix (x3 + (1 : Int32)))) σ h_x1) (fun v840 => ?_)
  refine rf_ald (i := 2) (Or.inr ⟨2, rfl, rfl, rfl⟩) c_325_843 rfl ?_
  refine rf_ald (i := 0) (Or.inr ⟨0, rfl, rfl, rfl⟩) c_325_844 rfl ?_
  refine rf_ild (i := 3) (Or.inr ⟨3, rfl, rfl, rfl⟩) c_325_845 rfl ?_
  refine rf_iconst c_325_846 ki_1 ?_
  refine rf_iadd c_325_847 ?_
  refine rf_ite (fun hb848 => ?_) (fun _ => rf_none)
  refine rf_xald2 h_x0 c_325_848 hb848 ?_
  refine rf_callM (as := [.ref x2, .int (X.2 (ix (x3 + (1 : Int32))))]) (kd := 1) c_325_849 rfl (by decide) rfl ml_13_86 (by decide) rfl (rcv_1 hS rfl rfl h_x2 (by decide)) (by simp [Value.category]) rfl rfl (t_Mo_trim hS (by omega) x2 (X.2 (ix (x3 + (1 : Int32)))) v840.2 h_x2) (fun v849 => ?_)
  refine rf_ite (fun hc852 => ?_) (fun hc852 => ?_)
  · refine rf_b2t c_325_852 rfl (decide_eq_true hc852) ?_
    exact t_Lw_law_2077 hS hd hk18 x0 x1 x2 x3 v849.2 h_x0 h_x1 h_x2
  · refine rf_b2f c_325_852 rfl (decide_eq_false hc852) ?_
    refine rf_iconst c_325_855 ki_0 ?_
    exact rf_ret c_325_856 rfl (by decide) rfl rfl
def f_Lw_law_857 (X : Xt) (k18 : Nat → Nat → Nat → Int32 → Mm → Option (Int32 × Mm)) (x0 : Nat) (x1 : Nat) (x2 : Nat) (x3 : Int32) (σ : Mm) : Option (Int32 × Mm) := if inbB (x3 + (1 : Int32)) X.1 = true then (f_Ct_rule x1 (X.2 (ix (x3 + (1 : Int32)))) σ).bind fun v863 => if inbB (x3 + (1 : Int32)) X.1 = true then (f_Mo_rule x2 (X.2 (ix (x3 + (1 : Int32)))) v863.2).bind fun v872 => (if v863.1 = v872.1 then (f_Lw_law_2077 X k18 x0 x1 x2 x3 v872.2) else (some ((0 : Int32), v872.2))) else none else none
set_option maxRecDepth 100000 in
set_option maxHeartbeats 4000000 in
theorem t_Lw_law_857 {X : Xt} {S : Sh} (hS : ShOK S) {d : Nat} (hd : 63 ≤ d + 1) {k18 : Nat → Nat → Nat → Int32 → Mm → Option (Int32 × Mm)} (hk18 : ∀ (x0 : Nat) (x1 : Nat) (x2 : Nat) (x3 : Int32) (σ : Mm) (h_x0 : x0 = 1000009) (h_x1 : tgT x1 = 11) (h_x2 : tgT x2 = 12), Rf X S emM (k18 x0 x1 x2 x3 σ) (d + 1) 325 18 [.ref x0, .ref x1, .ref x2, .int x3] [] σ) (x0 : Nat) (x1 : Nat) (x2 : Nat) (x3 : Int32) (σ : Mm) (h_x0 : x0 = 1000009) (h_x1 : tgT x1 = 11) (h_x2 : tgT x2 = 12) : Rf X S emM (f_Lw_law_857 X k18 x0 x1 x2 x3 σ) (d + 1) 325 857 [.ref x0, .ref x1, .ref x2, .int x3] [] σ := by
  unfold f_Lw_law_857
  refine rf_ald (i := 1) (Or.inr ⟨1, rfl, rfl, rfl⟩) c_325_857 rfl ?_
  refine rf_ald (i := 0) (Or.inr ⟨0, rfl, rfl, rfl⟩) c_325_858 rfl ?_
  refine rf_ild (i := 3) (Or.inr ⟨3, rfl, rfl, rfl⟩) c_325_859 rfl ?_
  refine rf_iconst c_325_860 ki_1 ?_
  refine rf_iadd c_325_861 ?_
  refine rf_ite (fun hb862 => ?_) (fun _ => rf_none)
  refine rf_xald2 h_x0 c_325_862 hb862 ?_
  refine rf_callM (as := [.ref x1, .int (X.2 (ix (x3 + (1 : Int32))))]) (kd := 1) c_325_863 rfl (by decide) rfl ml_13_87 (by decide) rfl (rcv_1 hS rfl rfl h_x1 (by decide)) (Nat.zero_le _) rfl rfl (t_Ct_rule hS (by omega) x1 (X.2 (ix (x3 + (1 : Int32)))) σ h_x1) (fun v863 => ?_)
  refine rf_ald (i := 2) (Or.inr ⟨2, rfl, rfl, rfl⟩) c_325_866 rfl ?_
  refine rf_ald (i := 0) (Or.inr ⟨0, rfl, rfl, rfl⟩) c_325_867 rfl ?_
  refine rf_ild (i := 3) (Or.inr ⟨3, rfl, rfl, rfl⟩) c_325_868 rfl ?_
  refine rf_iconst c_325_869 ki_1 ?_
  refine rf_iadd c_325_870 ?_
  refine rf_ite (fun hb871 => ?_) (fun _ => rf_none)
  refine rf_xald2 h_x0 c_325_871 hb871 ?_
  refine rf_callM (as := [.ref x2, .int (X.2 (ix (x3 + (1 : Int32))))]) (kd := 1) c_325_872 rfl (by decide) rfl ml_13_90 (by decide) rfl (rcv_1 hS rfl rfl h_x2 (by decide)) (by simp [Value.category]) rfl rfl (t_Mo_rule hS (by omega) x2 (X.2 (ix (x3 + (1 : Int32)))) v863.2 h_x2) (fun v872 => ?_)
  refine rf_ite (fun hc875 => ?_) (fun hc875 => ?_)
  · refine rf_b2t c_325_875 rfl (decide_eq_true hc875) ?_
    exact t_Lw_law_2077 hS hd hk18 x0 x1 x2 x3 v872.2 h_x0 h_x1 h_x2
  · refine rf_b2f c_325_875 rfl (decide_eq_false hc875) ?_
    refine rf_iconst c_325_878 ki_0 ?_
    exact rf_ret c_325_879 rfl (by decide) rfl rfl
def f_Lw_law_880 (X : Xt) (k18 : Nat → Nat → Nat → Int32 → Mm → Option (Int32 × Mm)) (x0 : Nat) (x1 : Nat) (x2 : Nat) (x3 : Int32) (σ : Mm) : Option (Int32 × Mm) := if inbB (x3 + (1 : Int32)) X.1 = true then if inbB (x3 + (2 : Int32)) X.1 = true then (f_Ct_of σ x1 (X.2 (ix (x3 + (1 : Int32)))) (X.2 (ix (x3 + (2 : Int32))))).bind fun v891 => if inbB (x3 + (1 : Int32)) X.1 = true then if inbB (x3 + (2 : Int32)) X.1 = true then (f_Mo_of σ x2 (X.2 (ix (x3 + (1 : Int32)))) (X.2 (ix (x3 + (2 : Int32))))).bind fun v905 => (if v891 = v905 then (f_Lw_law_2077 X k18 x0 x1 x2 x3 σ) else (some ((0 : Int32), σ))) else none else none else none else none
set_option maxRecDepth 100000 in
set_option maxHeartbeats 4000000 in
theorem t_Lw_law_880 {X : Xt} {S : Sh} (hS : ShOK S) {d : Nat} (hd : 63 ≤ d + 1) {k18 : Nat → Nat → Nat → Int32 → Mm → Option (Int32 × Mm)} (hk18 : ∀ (x0 : Nat) (x1 : Nat) (x2 : Nat) (x3 : Int32) (σ : Mm) (h_x0 : x0 = 1000009) (h_x1 : tgT x1 = 11) (h_x2 : tgT x2 = 12), Rf X S emM (k18 x0 x1 x2 x3 σ) (d + 1) 325 18 [.ref x0, .ref x1, .ref x2, .int x3] [] σ) (x0 : Nat) (x1 : Nat) (x2 : Nat) (x3 : Int32) (σ : Mm) (h_x0 : x0 = 1000009) (h_x1 : tgT x1 = 11) (h_x2 : tgT x2 = 12) : Rf X S emM (f_Lw_law_880 X k18 x0 x1 x2 x3 σ) (d + 1) 325 880 [.ref x0, .ref x1, .ref x2, .int x3] [] σ := by
  unfold f_Lw_law_880
  refine rf_ald (i := 1) (Or.inr ⟨1, rfl, rfl, rfl⟩) c_325_880 rfl ?_
  refine rf_ald (i := 0) (Or.inr ⟨0, rfl, rfl, rfl⟩) c_325_881 rfl ?_
  refine rf_ild (i := 3) (Or.inr ⟨3, rfl, rfl, rfl⟩) c_325_882 rfl ?_
  refine rf_iconst c_325_883 ki_1 ?_
  refine rf_iadd c_325_884 ?_
  refine rf_ite (fun hb885 => ?_) (fun _ => rf_none)
  refine rf_xald2 h_x0 c_325_885 hb885 ?_
  refine rf_ald (i := 0) (Or.inr ⟨0, rfl, rfl, rfl⟩) c_325_886 rfl ?_
  refine rf_ild (i := 3) (Or.inr ⟨3, rfl, rfl, rfl⟩) c_325_887 rfl ?_
  refine rf_iconst c_325_888 ki_2 ?_
  refine rf_iadd c_325_889 ?_
  refine rf_ite (fun hb890 => ?_) (fun _ => rf_none)
  refine rf_xald2 h_x0 c_325_890 hb890 ?_
  refine rf_callI (as := [.ref x1, .int (X.2 (ix (x3 + (1 : Int32)))), .int (X.2 (ix (x3 + (2 : Int32))))]) (kd := 1) c_325_891 rfl (by decide) rfl ml_13_91 (by decide) rfl (rcv_1 hS rfl rfl h_x1 (by decide)) (Nat.zero_le _) rfl rfl (t_Ct_of hS (by omega) σ x1 (X.2 (ix (x3 + (1 : Int32)))) (X.2 (ix (x3 + (2 : Int32)))) h_x1) (fun v891 => ?_)
  refine rf_ald (i := 2) (Or.inr ⟨2, rfl, rfl, rfl⟩) c_325_894 rfl ?_
  refine rf_ald (i := 0) (Or.inr ⟨0, rfl, rfl, rfl⟩) c_325_895 rfl ?_
  refine rf_ild (i := 3) (Or.inr ⟨3, rfl, rfl, rfl⟩) c_325_896 rfl ?_
  refine rf_iconst c_325_897 ki_1 ?_
  refine rf_iadd c_325_898 ?_
  refine rf_ite (fun hb899 => ?_) (fun _ => rf_none)
  refine rf_xald2 h_x0 c_325_899 hb899 ?_
  refine rf_ald (i := 0) (Or.inr ⟨0, rfl, rfl, rfl⟩) c_325_900 rfl ?_
  refine rf_ild (i := 3) (Or.inr ⟨3, rfl, rfl, rfl⟩) c_325_901 rfl ?_
  refine rf_iconst c_325_902 ki_2 ?_
  refine rf_iadd c_325_903 ?_
  refine rf_ite (fun hb904 => ?_) (fun _ => rf_none)
  refine rf_xald2 h_x0 c_325_904 hb904 ?_
  refine rf_callI (as := [.ref x2, .int (X.2 (ix (x3 + (1 : Int32)))), .int (X.2 (ix (x3 + (2 : Int32))))]) (kd := 1) c_325_905 rfl (by decide) rfl ml_13_94 (by decide) rfl (rcv_1 hS rfl rfl h_x2 (by decide)) (by simp [Value.category]) rfl rfl (t_Mo_of hS (by omega) σ x2 (X.2 (ix (x3 + (1 : Int32)))) (X.2 (ix (x3 + (2 : Int32)))) h_x2) (fun v905 => ?_)
  refine rf_ite (fun hc908 => ?_) (fun hc908 => ?_)
  · refine rf_b2t c_325_908 rfl (decide_eq_true hc908) ?_
    exact t_Lw_law_2077 hS hd hk18 x0 x1 x2 x3 σ h_x0 h_x1 h_x2
  · refine rf_b2f c_325_908 rfl (decide_eq_false hc908) ?_
    refine rf_iconst c_325_911 ki_0 ?_
    exact rf_ret c_325_912 rfl (by decide) rfl rfl
def f_Lw_law_913 (X : Xt) (k18 : Nat → Nat → Nat → Int32 → Mm → Option (Int32 × Mm)) (x0 : Nat) (x1 : Nat) (x2 : Nat) (x3 : Int32) (σ : Mm) : Option (Int32 × Mm) := if inbB (x3 + (1 : Int32)) X.1 = true then if inbB (x3 + (2 : Int32)) X.1 = true then (f_Ct_counts σ x1 (X.2 (ix (x3 + (1 : Int32)))) (X.2 (ix (x3 + (2 : Int32))))).bind fun v924 => if inbB (x3 + (1 : Int32)) X.1 = true then if inbB (x3 + (2 : Int32)) X.1 = true then (f_Mo_counts x2 (X.2 (ix (x3 + (1 : Int32)))) (X.2 (ix (x3 + (2 : Int32)))) σ).bind fun v938 => (if v924 = v938.1 then (f_Lw_law_2077 X k18 x0 x1 x2 x3 v938.2) else (some ((0 : Int32), v938.2))) else none else none else none else none
set_option maxRecDepth 100000 in
set_option maxHeartbeats 4000000 in
theorem t_Lw_law_913 {X : Xt} {S : Sh} (hS : ShOK S) {d : Nat} (hd : 63 ≤ d + 1) {k18 : Nat → Nat → Nat → Int32 → Mm → Option (Int32 × Mm)} (hk18 : ∀ (x0 : Nat) (x1 : Nat) (x2 : Nat) (x3 : Int32) (σ : Mm) (h_x0 : x0 = 1000009) (h_x1 : tgT x1 = 11) (h_x2 : tgT x2 = 12), Rf X S emM (k18 x0 x1 x2 x3 σ) (d + 1) 325 18 [.ref x0, .ref x1, .ref x2, .int x3] [] σ) (x0 : Nat) (x1 : Nat) (x2 : Nat) (x3 : Int32) (σ : Mm) (h_x0 : x0 = 1000009) (h_x1 : tgT x1 = 11) (h_x2 : tgT x2 = 12) : Rf X S emM (f_Lw_law_913 X k18 x0 x1 x2 x3 σ) (d + 1) 325 913 [.ref x0, .ref x1, .ref x2, .int x3] [] σ := by
  unfold f_Lw_law_913
  refine rf_ald (i := 1) (Or.inr ⟨1, rfl, rfl, rfl⟩) c_325_913 rfl ?_
  refine rf_ald (i := 0) (Or.inr ⟨0, rfl, rfl, rfl⟩) c_325_914 rfl ?_
  refine rf_ild (i := 3) (Or.inr ⟨3, rfl, rfl, rfl⟩) c_325_915 rfl ?_
  refine rf_iconst c_325_916 ki_1 ?_
  refine rf_iadd c_325_917 ?_
  refine rf_ite (fun hb918 => ?_) (fun _ => rf_none)
  refine rf_xald2 h_x0 c_325_918 hb918 ?_
  refine rf_ald (i := 0) (Or.inr ⟨0, rfl, rfl, rfl⟩) c_325_919 rfl ?_
  refine rf_ild (i := 3) (Or.inr ⟨3, rfl, rfl, rfl⟩) c_325_920 rfl ?_
  refine rf_iconst c_325_921 ki_2 ?_
  refine rf_iadd c_325_922 ?_
  refine rf_ite (fun hb923 => ?_) (fun _ => rf_none)
  refine rf_xald2 h_x0 c_325_923 hb923 ?_
  refine rf_callI (as := [.ref x1, .int (X.2 (ix (x3 + (1 : Int32)))), .int (X.2 (ix (x3 + (2 : Int32))))]) (kd := 1) c_325_924 rfl (by decide) rfl ml_13_95 (by decide) rfl (rcv_1 hS rfl rfl h_x1 (by decide)) (Nat.zero_le _) rfl rfl (t_Ct_counts hS (by omega) σ x1 (X.2 (ix (x3 + (1 : Int32)))) (X.2 (ix (x3 + (2 : Int32)))) h_x1) (fun v924 => ?_)
  refine rf_ald (i := 2) (Or.inr ⟨2, rfl, rfl, rfl⟩) c_325_927 rfl ?_
  refine rf_ald (i := 0) (Or.inr ⟨0, rfl, rfl, rfl⟩) c_325_928 rfl ?_
  refine rf_ild (i := 3) (Or.inr ⟨3, rfl, rfl, rfl⟩) c_325_929 rfl ?_
  refine rf_iconst c_325_930 ki_1 ?_
  refine rf_iadd c_325_931 ?_
  refine rf_ite (fun hb932 => ?_) (fun _ => rf_none)
  refine rf_xald2 h_x0 c_325_932 hb932 ?_
  refine rf_ald (i := 0) (Or.inr ⟨0, rfl, rfl, rfl⟩) c_325_933 rfl ?_
  refine rf_ild (i := 3) (Or.inr ⟨3, rfl, rfl, rfl⟩) c_325_934 rfl ?_
  refine rf_iconst c_325_935 ki_2 ?_
  refine rf_iadd c_325_936 ?_
  refine rf_ite (fun hb937 => ?_) (fun _ => rf_none)
  refine rf_xald2 h_x0 c_325_937 hb937 ?_
  refine rf_callM (as := [.ref x2, .int (X.2 (ix (x3 + (1 : Int32)))), .int (X.2 (ix (x3 + (2 : Int32))))]) (kd := 1) c_325_938 rfl (by decide) rfl ml_13_98 (by decide) rfl (rcv_1 hS rfl rfl h_x2 (by decide)) (by simp [Value.category]) rfl rfl (t_Mo_counts hS (by omega) x2 (X.2 (ix (x3 + (1 : Int32)))) (X.2 (ix (x3 + (2 : Int32)))) σ h_x2) (fun v938 => ?_)
  refine rf_ite (fun hc941 => ?_) (fun hc941 => ?_)
  · refine rf_b2t c_325_941 rfl (decide_eq_true hc941) ?_
    exact t_Lw_law_2077 hS hd hk18 x0 x1 x2 x3 v938.2 h_x0 h_x1 h_x2
  · refine rf_b2f c_325_941 rfl (decide_eq_false hc941) ?_
    refine rf_iconst c_325_944 ki_0 ?_
    exact rf_ret c_325_945 rfl (by decide) rfl rfl
def f_Lw_law_946 (X : Xt) (k18 : Nat → Nat → Nat → Int32 → Mm → Option (Int32 × Mm)) (x0 : Nat) (x1 : Nat) (x2 : Nat) (x3 : Int32) (σ : Mm) : Option (Int32 × Mm) := if inbB (x3 + (1 : Int32)) X.1 = true then if inbB (x3 + (2 : Int32)) X.1 = true then (f_Ct_due σ x1 (X.2 (ix (x3 + (1 : Int32)))) (X.2 (ix (x3 + (2 : Int32))))).bind fun v957 => if inbB (x3 + (1 : Int32)) X.1 = true then if inbB (x3 + (2 : Int32)) X.1 = true then (f_Mo_due x2 (X.2 (ix (x3 + (1 : Int32)))) (X.2 (ix (x3 + (2 : Int32)))) σ).bind fun v971 => (if v957 = v971.1 then (f_Lw_law_2077 X k18 x0 x1 x2 x3 v971.2) else (some ((0 : Int32), v971.2))) else none else none else none else none
set_option maxRecDepth 100000 in
set_option maxHeartbeats 4000000 in
theorem t_Lw_law_946 {X : Xt} {S : Sh} (hS : ShOK S) {d : Nat} (hd : 63 ≤ d + 1) {k18 : Nat → Nat → Nat → Int32 → Mm → Option (Int32 × Mm)} (hk18 : ∀ (x0 : Nat) (x1 : Nat) (x2 : Nat) (x3 : Int32) (σ : Mm) (h_x0 : x0 = 1000009) (h_x1 : tgT x1 = 11) (h_x2 : tgT x2 = 12), Rf X S emM (k18 x0 x1 x2 x3 σ) (d + 1) 325 18 [.ref x0, .ref x1, .ref x2, .int x3] [] σ) (x0 : Nat) (x1 : Nat) (x2 : Nat) (x3 : Int32) (σ : Mm) (h_x0 : x0 = 1000009) (h_x1 : tgT x1 = 11) (h_x2 : tgT x2 = 12) : Rf X S emM (f_Lw_law_946 X k18 x0 x1 x2 x3 σ) (d + 1) 325 946 [.ref x0, .ref x1, .ref x2, .int x3] [] σ := by
  unfold f_Lw_law_946
  refine rf_ald (i := 1) (Or.inr ⟨1, rfl, rfl, rfl⟩) c_325_946 rfl ?_
  refine rf_ald (i := 0) (Or.inr ⟨0, rfl, rfl, rfl⟩) c_325_947 rfl ?_
  refine rf_ild (i := 3) (Or.inr ⟨3, rfl, rfl, rfl⟩) c_325_948 rfl ?_
  refine rf_iconst c_325_949 ki_1 ?_
  refine rf_iadd c_325_950 ?_
  refine rf_ite (fun hb951 => ?_) (fun _ => rf_none)
  refine rf_xald2 h_x0 c_325_951 hb951 ?_
  refine rf_ald (i := 0) (Or.inr ⟨0, rfl, rfl, rfl⟩) c_325_952 rfl ?_
  refine rf_ild (i := 3) (Or.inr ⟨3, rfl, rfl, rfl⟩) c_325_953 rfl ?_
  refine rf_iconst c_325_954 ki_2 ?_
  refine rf_iadd c_325_955 ?_
  refine rf_ite (fun hb956 => ?_) (fun _ => rf_none)
  refine rf_xald2 h_x0 c_325_956 hb956 ?_
  refine rf_callI (as := [.ref x1, .int (X.2 (ix (x3 + (1 : Int32)))), .int (X.2 (ix (x3 + (2 : Int32))))]) (kd := 1) c_325_957 rfl (by decide) rfl ml_13_99 (by decide) rfl (rcv_1 hS rfl rfl h_x1 (by decide)) (Nat.zero_le _) rfl rfl (t_Ct_due hS (by omega) σ x1 (X.2 (ix (x3 + (1 : Int32)))) (X.2 (ix (x3 + (2 : Int32)))) h_x1) (fun v957 => ?_)
  refine rf_ald (i := 2) (Or.inr ⟨2, rfl, rfl, rfl⟩) c_325_960 rfl ?_
  refine rf_ald (i := 0) (Or.inr ⟨0, rfl, rfl, rfl⟩) c_325_961 rfl ?_
  refine rf_ild (i := 3) (Or.inr ⟨3, rfl, rfl, rfl⟩) c_325_962 rfl ?_
  refine rf_iconst c_325_963 ki_1 ?_
  refine rf_iadd c_325_964 ?_
  refine rf_ite (fun hb965 => ?_) (fun _ => rf_none)
  refine rf_xald2 h_x0 c_325_965 hb965 ?_
  refine rf_ald (i := 0) (Or.inr ⟨0, rfl, rfl, rfl⟩) c_325_966 rfl ?_
  refine rf_ild (i := 3) (Or.inr ⟨3, rfl, rfl, rfl⟩) c_325_967 rfl ?_
  refine rf_iconst c_325_968 ki_2 ?_
  refine rf_iadd c_325_969 ?_
  refine rf_ite (fun hb970 => ?_) (fun _ => rf_none)
  refine rf_xald2 h_x0 c_325_970 hb970 ?_
  refine rf_callM (as := [.ref x2, .int (X.2 (ix (x3 + (1 : Int32)))), .int (X.2 (ix (x3 + (2 : Int32))))]) (kd := 1) c_325_971 rfl (by decide) rfl ml_13_102 (by decide) rfl (rcv_1 hS rfl rfl h_x2 (by decide)) (by simp [Value.category]) rfl rfl (t_Mo_due hS (by omega) x2 (X.2 (ix (x3 + (1 : Int32)))) (X.2 (ix (x3 + (2 : Int32)))) σ h_x2) (fun v971 => ?_)
  refine rf_ite (fun hc974 => ?_) (fun hc974 => ?_)
  · refine rf_b2t c_325_974 rfl (decide_eq_true hc974) ?_
    exact t_Lw_law_2077 hS hd hk18 x0 x1 x2 x3 v971.2 h_x0 h_x1 h_x2
  · refine rf_b2f c_325_974 rfl (decide_eq_false hc974) ?_
    refine rf_iconst c_325_977 ki_0 ?_
    exact rf_ret c_325_978 rfl (by decide) rfl rfl
def f_Lw_law_979 (X : Xt) (k18 : Nat → Nat → Nat → Int32 → Mm → Option (Int32 × Mm)) (x0 : Nat) (x1 : Nat) (x2 : Nat) (x3 : Int32) (σ : Mm) : Option (Int32 × Mm) := if inbB (x3 + (1 : Int32)) X.1 = true then if inbB (x3 + (2 : Int32)) X.1 = true then (f_Ct_why σ x1 (X.2 (ix (x3 + (1 : Int32)))) (X.2 (ix (x3 + (2 : Int32))))).bind fun v990 => if inbB (x3 + (1 : Int32)) X.1 = true then if inbB (x3 + (2 : Int32)) X.1 = true then (f_Mo_why x2 (X.2 (ix (x3 + (1 : Int32)))) (X.2 (ix (x3 + (2 : Int32)))) σ).bind fun v1004 => (if v990 = v1004.1 then (f_Lw_law_2077 X k18 x0 x1 x2 x3 v1004.2) else (some ((0 : Int32), v1004.2))) else none else none else none else none
set_option maxRecDepth 100000 in
set_option maxHeartbeats 4000000 in
theorem t_Lw_law_979 {X : Xt} {S : Sh} (hS : ShOK S) {d : Nat} (hd : 63 ≤ d + 1) {k18 : Nat → Nat → Nat → Int32 → Mm → Option (Int32 × Mm)} (hk18 : ∀ (x0 : Nat) (x1 : Nat) (x2 : Nat) (x3 : Int32) (σ : Mm) (h_x0 : x0 = 1000009) (h_x1 : tgT x1 = 11) (h_x2 : tgT x2 = 12), Rf X S emM (k18 x0 x1 x2 x3 σ) (d + 1) 325 18 [.ref x0, .ref x1, .ref x2, .int x3] [] σ) (x0 : Nat) (x1 : Nat) (x2 : Nat) (x3 : Int32) (σ : Mm) (h_x0 : x0 = 1000009) (h_x1 : tgT x1 = 11) (h_x2 : tgT x2 = 12) : Rf X S emM (f_Lw_law_979 X k18 x0 x1 x2 x3 σ) (d + 1) 325 979 [.ref x0, .ref x1, .ref x2, .int x3] [] σ := by
  unfold f_Lw_law_979
  refine rf_ald (i := 1) (Or.inr ⟨1, rfl, rfl, rfl⟩) c_325_979 rfl ?_
  refine rf_ald (i := 0) (Or.inr ⟨0, rfl, rfl, rfl⟩) c_325_980 rfl ?_
  refine rf_ild (i := 3) (Or.inr ⟨3, rfl, rfl, rfl⟩) c_325_981 rfl ?_
  refine rf_iconst c_325_982 ki_1 ?_
  refine rf_iadd c_325_983 ?_
  refine rf_ite (fun hb984 => ?_) (fun _ => rf_none)
  refine rf_xald2 h_x0 c_325_984 hb984 ?_
  refine rf_ald (i := 0) (Or.inr ⟨0, rfl, rfl, rfl⟩) c_325_985 rfl ?_
  refine rf_ild (i := 3) (Or.inr ⟨3, rfl, rfl, rfl⟩) c_325_986 rfl ?_
  refine rf_iconst c_325_987 ki_2 ?_
  refine rf_iadd c_325_988 ?_
  refine rf_ite (fun hb989 => ?_) (fun _ => rf_none)
  refine rf_xald2 h_x0 c_325_989 hb989 ?_
  refine rf_callI (as := [.ref x1, .int (X.2 (ix (x3 + (1 : Int32)))), .int (X.2 (ix (x3 + (2 : Int32))))]) (kd := 1) c_325_990 rfl (by decide) rfl ml_13_103 (by decide) rfl (rcv_1 hS rfl rfl h_x1 (by decide)) (Nat.zero_le _) rfl rfl (t_Ct_why hS (by omega) σ x1 (X.2 (ix (x3 + (1 : Int32)))) (X.2 (ix (x3 + (2 : Int32)))) h_x1) (fun v990 => ?_)
  refine rf_ald (i := 2) (Or.inr ⟨2, rfl, rfl, rfl⟩) c_325_993 rfl ?_
  refine rf_ald (i := 0) (Or.inr ⟨0, rfl, rfl, rfl⟩) c_325_994 rfl ?_
  refine rf_ild (i := 3) (Or.inr ⟨3, rfl, rfl, rfl⟩) c_325_995 rfl ?_
  refine rf_iconst c_325_996 ki_1 ?_
  refine rf_iadd c_325_997 ?_
  refine rf_ite (fun hb998 => ?_) (fun _ => rf_none)
  refine rf_xald2 h_x0 c_325_998 hb998 ?_
  refine rf_ald (i := 0) (Or.inr ⟨0, rfl, rfl, rfl⟩) c_325_999 rfl ?_
  refine rf_ild (i := 3) (Or.inr ⟨3, rfl, rfl, rfl⟩) c_325_1000 rfl ?_
  refine rf_iconst c_325_1001 ki_2 ?_
  refine rf_iadd c_325_1002 ?_
  refine rf_ite (fun hb1003 => ?_) (fun _ => rf_none)
  refine rf_xald2 h_x0 c_325_1003 hb1003 ?_
  refine rf_callM (as := [.ref x2, .int (X.2 (ix (x3 + (1 : Int32)))), .int (X.2 (ix (x3 + (2 : Int32))))]) (kd := 1) c_325_1004 rfl (by decide) rfl ml_13_106 (by decide) rfl (rcv_1 hS rfl rfl h_x2 (by decide)) (by simp [Value.category]) rfl rfl (t_Mo_why hS (by omega) x2 (X.2 (ix (x3 + (1 : Int32)))) (X.2 (ix (x3 + (2 : Int32)))) σ h_x2) (fun v1004 => ?_)
  refine rf_ite (fun hc1007 => ?_) (fun hc1007 => ?_)
  · refine rf_b2t c_325_1007 rfl (decide_eq_true hc1007) ?_
    exact t_Lw_law_2077 hS hd hk18 x0 x1 x2 x3 v1004.2 h_x0 h_x1 h_x2
  · refine rf_b2f c_325_1007 rfl (decide_eq_false hc1007) ?_
    refine rf_iconst c_325_1010 ki_0 ?_
    exact rf_ret c_325_1011 rfl (by decide) rfl rfl
def f_Lw_law_1012 (X : Xt) (k18 : Nat → Nat → Nat → Int32 → Mm → Option (Int32 × Mm)) (x0 : Nat) (x1 : Nat) (x2 : Nat) (x3 : Int32) (σ : Mm) : Option (Int32 × Mm) := if inbB (x3 + (1 : Int32)) X.1 = true then if inbB (x3 + (2 : Int32)) X.1 = true then (f_Ct_quarrel σ x1 (X.2 (ix (x3 + (1 : Int32)))) (X.2 (ix (x3 + (2 : Int32))))).bind fun v1023 => if inbB (x3 + (1 : Int32)) X.1 = true then if inbB (x3 + (2 : Int32)) X.1 = true then (f_Mo_quarrel x2 (X.2 (ix (x3 + (1 : Int32)))) (X.2 (ix (x3 + (2 : Int32)))) σ).bind fun v1037 => (if v1023 = v1037.1 then (f_Lw_law_2077 X k18 x0 x1 x2 x3 v1037.2) else (some ((0 : Int32), v1037.2))) else none else none else none else none
set_option maxRecDepth 100000 in
set_option maxHeartbeats 4000000 in
theorem t_Lw_law_1012 {X : Xt} {S : Sh} (hS : ShOK S) {d : Nat} (hd : 63 ≤ d + 1) {k18 : Nat → Nat → Nat → Int32 → Mm → Option (Int32 × Mm)} (hk18 : ∀ (x0 : Nat) (x1 : Nat) (x2 : Nat) (x3 : Int32) (σ : Mm) (h_x0 : x0 = 1000009) (h_x1 : tgT x1 = 11) (h_x2 : tgT x2 = 12), Rf X S emM (k18 x0 x1 x2 x3 σ) (d + 1) 325 18 [.ref x0, .ref x1, .ref x2, .int x3] [] σ) (x0 : Nat) (x1 : Nat) (x2 : Nat) (x3 : Int32) (σ : Mm) (h_x0 : x0 = 1000009) (h_x1 : tgT x1 = 11) (h_x2 : tgT x2 = 12) : Rf X S emM (f_Lw_law_1012 X k18 x0 x1 x2 x3 σ) (d + 1) 325 1012 [.ref x0, .ref x1, .ref x2, .int x3] [] σ := by
  unfold f_Lw_law_1012
  refine rf_ald (i := 1) (Or.inr ⟨1, rfl, rfl, rfl⟩) c_325_1012 rfl ?_
  refine rf_ald (i := 0) (Or.inr ⟨0, rfl, rfl, rfl⟩) c_325_1013 rfl ?_
  refine rf_ild (i := 3) (Or.inr ⟨3, rfl, rfl, rfl⟩) c_325_1014 rfl ?_
  refine rf_iconst c_325_1015 ki_1 ?_
  refine rf_iadd c_325_1016 ?_
  refine rf_ite (fun hb1017 => ?_) (fun _ => rf_none)
  refine rf_xald2 h_x0 c_325_1017 hb1017 ?_
  refine rf_ald (i := 0) (Or.inr ⟨0, rfl, rfl, rfl⟩) c_325_1018 rfl ?_
  refine rf_ild (i := 3) (Or.inr ⟨3, rfl, rfl, rfl⟩) c_325_1019 rfl ?_
  refine rf_iconst c_325_1020 ki_2 ?_
  refine rf_iadd c_325_1021 ?_
  refine rf_ite (fun hb1022 => ?_) (fun _ => rf_none)
  refine rf_xald2 h_x0 c_325_1022 hb1022 ?_
  refine rf_callI (as := [.ref x1, .int (X.2 (ix (x3 + (1 : Int32)))), .int (X.2 (ix (x3 + (2 : Int32))))]) (kd := 1) c_325_1023 rfl (by decide) rfl ml_13_107 (by decide) rfl (rcv_1 hS rfl rfl h_x1 (by decide)) (Nat.zero_le _) rfl rfl (t_Ct_quarrel hS (by omega) σ x1 (X.2 (ix (x3 + (1 : Int32)))) (X.2 (ix (x3 + (2 : Int32)))) h_x1) (fun v1023 => ?_)
  refine rf_ald (i := 2) (Or.inr ⟨2, rfl, rfl, rfl⟩) c_325_1026 rfl ?_
  refine rf_ald (i := 0) (Or.inr ⟨0, rfl, rfl, rfl⟩) c_325_1027 rfl ?_
  refine rf_ild (i := 3) (Or.inr ⟨3, rfl, rfl, rfl⟩) c_325_1028 rfl ?_
  refine rf_iconst c_325_1029 ki_1 ?_
  refine rf_iadd c_325_1030 ?_
  refine rf_ite (fun hb1031 => ?_) (fun _ => rf_none)
  refine rf_xald2 h_x0 c_325_1031 hb1031 ?_
  refine rf_ald (i := 0) (Or.inr ⟨0, rfl, rfl, rfl⟩) c_325_1032 rfl ?_
  refine rf_ild (i := 3) (Or.inr ⟨3, rfl, rfl, rfl⟩) c_325_1033 rfl ?_
  refine rf_iconst c_325_1034 ki_2 ?_
  refine rf_iadd c_325_1035 ?_
  refine rf_ite (fun hb1036 => ?_) (fun _ => rf_none)
  refine rf_xald2 h_x0 c_325_1036 hb1036 ?_
  refine rf_callM (as := [.ref x2, .int (X.2 (ix (x3 + (1 : Int32)))), .int (X.2 (ix (x3 + (2 : Int32))))]) (kd := 1) c_325_1037 rfl (by decide) rfl ml_13_110 (by decide) rfl (rcv_1 hS rfl rfl h_x2 (by decide)) (by simp [Value.category]) rfl rfl (t_Mo_quarrel hS (by omega) x2 (X.2 (ix (x3 + (1 : Int32)))) (X.2 (ix (x3 + (2 : Int32)))) σ h_x2) (fun v1037 => ?_)
  refine rf_ite (fun hc1040 => ?_) (fun hc1040 => ?_)
  · refine rf_b2t c_325_1040 rfl (decide_eq_true hc1040) ?_
    exact t_Lw_law_2077 hS hd hk18 x0 x1 x2 x3 v1037.2 h_x0 h_x1 h_x2
  · refine rf_b2f c_325_1040 rfl (decide_eq_false hc1040) ?_
    refine rf_iconst c_325_1043 ki_0 ?_
    exact rf_ret c_325_1044 rfl (by decide) rfl rfl
def f_Lw_law_1045 (X : Xt) (k18 : Nat → Nat → Nat → Int32 → Mm → Option (Int32 × Mm)) (x0 : Nat) (x1 : Nat) (x2 : Nat) (x3 : Int32) (σ : Mm) : Option (Int32 × Mm) := if inbB (x3 + (1 : Int32)) X.1 = true then if inbB (x3 + (2 : Int32)) X.1 = true then (f_Ct_lacks σ x1 (X.2 (ix (x3 + (1 : Int32)))) (X.2 (ix (x3 + (2 : Int32))))).bind fun v1056 => if inbB (x3 + (1 : Int32)) X.1 = true then if inbB (x3 + (2 : Int32)) X.1 = true then (f_Mo_lacks x2 (X.2 (ix (x3 + (1 : Int32)))) (X.2 (ix (x3 + (2 : Int32)))) σ).bind fun v1070 => (if v1056 = v1070.1 then (f_Lw_law_2077 X k18 x0 x1 x2 x3 v1070.2) else (some ((0 : Int32), v1070.2))) else none else none else none else none
set_option maxRecDepth 100000 in
set_option maxHeartbeats 4000000 in
theorem t_Lw_law_1045 {X : Xt} {S : Sh} (hS : ShOK S) {d : Nat} (hd : 63 ≤ d + 1) {k18 : Nat → Nat → Nat → Int32 → Mm → Option (Int32 × Mm)} (hk18 : ∀ (x0 : Nat) (x1 : Nat) (x2 : Nat) (x3 : Int32) (σ : Mm) (h_x0 : x0 = 1000009) (h_x1 : tgT x1 = 11) (h_x2 : tgT x2 = 12), Rf X S emM (k18 x0 x1 x2 x3 σ) (d + 1) 325 18 [.ref x0, .ref x1, .ref x2, .int x3] [] σ) (x0 : Nat) (x1 : Nat) (x2 : Nat) (x3 : Int32) (σ : Mm) (h_x0 : x0 = 1000009) (h_x1 : tgT x1 = 11) (h_x2 : tgT x2 = 12) : Rf X S emM (f_Lw_law_1045 X k18 x0 x1 x2 x3 σ) (d + 1) 325 1045 [.ref x0, .ref x1, .ref x2, .int x3] [] σ := by
  unfold f_Lw_law_1045
  refine rf_ald (i := 1) (Or.inr ⟨1, rfl, rfl, rfl⟩) c_325_1045 rfl ?_
  refine rf_ald (i := 0) (Or.inr ⟨0, rfl, rfl, rfl⟩) c_325_1046 rfl ?_
  refine rf_ild (i := 3) (Or.inr ⟨3, rfl, rfl, rfl⟩) c_325_1047 rfl ?_
  refine rf_iconst c_325_1048 ki_1 ?_
  refine rf_iadd c_325_1049 ?_
  refine rf_ite (fun hb1050 => ?_) (fun _ => rf_none)
  refine rf_xald2 h_x0 c_325_1050 hb1050 ?_
  refine rf_ald (i := 0) (Or.inr ⟨0, rfl, rfl, rfl⟩) c_325_1051 rfl ?_
  refine rf_ild (i := 3) (Or.inr ⟨3, rfl, rfl, rfl⟩) c_325_1052 rfl ?_
  refine rf_iconst c_325_1053 ki_2 ?_
  refine rf_iadd c_325_1054 ?_
  refine rf_ite (fun hb1055 => ?_) (fun _ => rf_none)
  refine rf_xald2 h_x0 c_325_1055 hb1055 ?_
  refine rf_callI (as := [.ref x1, .int (X.2 (ix (x3 + (1 : Int32)))), .int (X.2 (ix (x3 + (2 : Int32))))]) (kd := 1) c_325_1056 rfl (by decide) rfl ml_13_111 (by decide) rfl (rcv_1 hS rfl rfl h_x1 (by decide)) (Nat.zero_le _) rfl rfl (t_Ct_lacks hS (by omega) σ x1 (X.2 (ix (x3 + (1 : Int32)))) (X.2 (ix (x3 + (2 : Int32)))) h_x1) (fun v1056 => ?_)
  refine rf_ald (i := 2) (Or.inr ⟨2, rfl, rfl, rfl⟩) c_325_1059 rfl ?_
  refine rf_ald (i := 0) (Or.inr ⟨0, rfl, rfl, rfl⟩) c_325_1060 rfl ?_
  refine rf_ild (i := 3) (Or.inr ⟨3, rfl, rfl, rfl⟩) c_325_1061 rfl ?_
  refine rf_iconst c_325_1062 ki_1 ?_
  refine rf_iadd c_325_1063 ?_
  refine rf_ite (fun hb1064 => ?_) (fun _ => rf_none)
  refine rf_xald2 h_x0 c_325_1064 hb1064 ?_
  refine rf_ald (i := 0) (Or.inr ⟨0, rfl, rfl, rfl⟩) c_325_1065 rfl ?_
  refine rf_ild (i := 3) (Or.inr ⟨3, rfl, rfl, rfl⟩) c_325_1066 rfl ?_
  refine rf_iconst c_325_1067 ki_2 ?_
  refine rf_iadd c_325_1068 ?_
  refine rf_ite (fun hb1069 => ?_) (fun _ => rf_none)
  refine rf_xald2 h_x0 c_325_1069 hb1069 ?_
  refine rf_callM (as := [.ref x2, .int (X.2 (ix (x3 + (1 : Int32)))), .int (X.2 (ix (x3 + (2 : Int32))))]) (kd := 1) c_325_1070 rfl (by decide) rfl ml_13_114 (by decide) rfl (rcv_1 hS rfl rfl h_x2 (by decide)) (by simp [Value.category]) rfl rfl (t_Mo_lacks hS (by omega) x2 (X.2 (ix (x3 + (1 : Int32)))) (X.2 (ix (x3 + (2 : Int32)))) σ h_x2) (fun v1070 => ?_)
  refine rf_ite (fun hc1073 => ?_) (fun hc1073 => ?_)
  · refine rf_b2t c_325_1073 rfl (decide_eq_true hc1073) ?_
    exact t_Lw_law_2077 hS hd hk18 x0 x1 x2 x3 v1070.2 h_x0 h_x1 h_x2
  · refine rf_b2f c_325_1073 rfl (decide_eq_false hc1073) ?_
    refine rf_iconst c_325_1076 ki_0 ?_
    exact rf_ret c_325_1077 rfl (by decide) rfl rfl
def f_Lw_law_1078 (X : Xt) (k18 : Nat → Nat → Nat → Int32 → Mm → Option (Int32 × Mm)) (x0 : Nat) (x1 : Nat) (x2 : Nat) (x3 : Int32) (σ : Mm) : Option (Int32 × Mm) := if inbB (x3 + (1 : Int32)) X.1 = true then if inbB (x3 + (2 : Int32)) X.1 = true then if inbB (x3 + (3 : Int32)) X.1 = true then (f_Ct_come x1 (X.2 (ix (x3 + (1 : Int32)))) (X.2 (ix (x3 + (2 : Int32)))) (X.2 (ix (x3 + (3 : Int32)))) σ).bind fun v1094 => if inbB (x3 + (1 : Int32)) X.1 = true then if inbB (x3 + (2 : Int32)) X.1 = true then if inbB (x3 + (3 : Int32)) X.1 = true then (f_Mo_come x2 (X.2 (ix (x3 + (1 : Int32)))) (X.2 (ix (x3 + (2 : Int32)))) (X.2 (ix (x3 + (3 : Int32)))) v1094.2).bind fun v1113 => (if v1094.1 = v1113.1 then (f_Lw_law_2077 X k18 x0 x1 x2 x3 v1113.2) else (some ((0 : Int32), v1113.2))) else none else none else none else none else none else none
set_option maxRecDepth 100000 in
set_option maxHeartbeats 4000000 in
theorem t_Lw_law_1078 {X : Xt} {S : Sh} (hS : ShOK S) {d : Nat} (hd : 63 ≤ d + 1) {k18 : Nat → Nat → Nat → Int32 → Mm → Option (Int32 × Mm)} (hk18 : ∀ (x0 : Nat) (x1 : Nat) (x2 : Nat) (x3 : Int32) (σ : Mm) (h_x0 : x0 = 1000009) (h_x1 : tgT x1 = 11) (h_x2 : tgT x2 = 12), Rf X S emM (k18 x0 x1 x2 x3 σ) (d + 1) 325 18 [.ref x0, .ref x1, .ref x2, .int x3] [] σ) (x0 : Nat) (x1 : Nat) (x2 : Nat) (x3 : Int32) (σ : Mm) (h_x0 : x0 = 1000009) (h_x1 : tgT x1 = 11) (h_x2 : tgT x2 = 12) : Rf X S emM (f_Lw_law_1078 X k18 x0 x1 x2 x3 σ) (d + 1) 325 1078 [.ref x0, .ref x1, .ref x2, .int x3] [] σ := by
  unfold f_Lw_law_1078
  refine rf_ald (i := 1) (Or.inr ⟨1, rfl, rfl, rfl⟩) c_325_1078 rfl ?_
  refine rf_ald (i := 0) (Or.inr ⟨0, rfl, rfl, rfl⟩) c_325_1079 rfl ?_
  refine rf_ild (i := 3) (Or.inr ⟨3, rfl, rfl, rfl⟩) c_325_1080 rfl ?_
  refine rf_iconst c_325_1081 ki_1 ?_
  refine rf_iadd c_325_1082 ?_
  refine rf_ite (fun hb1083 => ?_) (fun _ => rf_none)
  refine rf_xald2 h_x0 c_325_1083 hb1083 ?_
  refine rf_ald (i := 0) (Or.inr ⟨0, rfl, rfl, rfl⟩) c_325_1084 rfl ?_
  refine rf_ild (i := 3) (Or.inr ⟨3, rfl, rfl, rfl⟩) c_325_1085 rfl ?_
  refine rf_iconst c_325_1086 ki_2 ?_
  refine rf_iadd c_325_1087 ?_
  refine rf_ite (fun hb1088 => ?_) (fun _ => rf_none)
  refine rf_xald2 h_x0 c_325_1088 hb1088 ?_
  refine rf_ald (i := 0) (Or.inr ⟨0, rfl, rfl, rfl⟩) c_325_1089 rfl ?_
  refine rf_ild (i := 3) (Or.inr ⟨3, rfl, rfl, rfl⟩) c_325_1090 rfl ?_
  refine rf_iconst c_325_1091 ki_3 ?_
  refine rf_iadd c_325_1092 ?_
  refine rf_ite (fun hb1093 => ?_) (fun _ => rf_none)
  refine rf_xald2 h_x0 c_325_1093 hb1093 ?_
  refine rf_callM (as := [.ref x1, .int (X.2 (ix (x3 + (1 : Int32)))), .int (X.2 (ix (x3 + (2 : Int32)))), .int (X.2 (ix (x3 + (3 : Int32))))]) (kd := 1) c_325_1094 rfl (by decide) rfl ml_13_115 (by decide) rfl (rcv_1 hS rfl rfl h_x1 (by decide)) (Nat.zero_le _) rfl rfl (t_Ct_come hS (by omega) x1 (X.2 (ix (x3 + (1 : Int32)))) (X.2 (ix (x3 + (2 : Int32)))) (X.2 (ix (x3 + (3 : Int32)))) σ h_x1) (fun v1094 => ?_)
  refine rf_ald (i := 2) (Or.inr ⟨2, rfl, rfl, rfl⟩) c_325_1097 rfl ?_
  refine rf_ald (i := 0) (Or.inr ⟨0, rfl, rfl, rfl⟩) c_325_1098 rfl ?_
  refine rf_ild (i := 3) (Or.inr ⟨3, rfl, rfl, rfl⟩) c_325_1099 rfl ?_
  refine rf_iconst c_325_1100 ki_1 ?_
  refine rf_iadd c_325_1101 ?_
  refine rf_ite (fun hb1102 => ?_) (fun _ => rf_none)
  refine rf_xald2 h_x0 c_325_1102 hb1102 ?_
  refine rf_ald (i := 0) (Or.inr ⟨0, rfl, rfl, rfl⟩) c_325_1103 rfl ?_
  refine rf_ild (i := 3) (Or.inr ⟨3, rfl, rfl, rfl⟩) c_325_1104 rfl ?_
  refine rf_iconst c_325_1105 ki_2 ?_
  refine rf_iadd c_325_1106 ?_
  refine rf_ite (fun hb1107 => ?_) (fun _ => rf_none)
  refine rf_xald2 h_x0 c_325_1107 hb1107 ?_
  refine rf_ald (i := 0) (Or.inr ⟨0, rfl, rfl, rfl⟩) c_325_1108 rfl ?_
  refine rf_ild (i := 3) (Or.inr ⟨3, rfl, rfl, rfl⟩) c_325_1109 rfl ?_
  refine rf_iconst c_325_1110 ki_3 ?_
  refine rf_iadd c_325_1111 ?_
  refine rf_ite (fun hb1112 => ?_) (fun _ => rf_none)
  refine rf_xald2 h_x0 c_325_1112 hb1112 ?_
  refine rf_callM (as := [.ref x2, .int (X.2 (ix (x3 + (1 : Int32)))), .int (X.2 (ix (x3 + (2 : Int32)))), .int (X.2 (ix (x3 + (3 : Int32))))]) (kd := 1) c_325_1113 rfl (by decide) rfl ml_13_118 (by decide) rfl (rcv_1 hS rfl rfl h_x2 (by decide)) (by simp [Value.category]) rfl rfl (t_Mo_come hS (by omega) x2 (X.2 (ix (x3 + (1 : Int32)))) (X.2 (ix (x3 + (2 : Int32)))) (X.2 (ix (x3 + (3 : Int32)))) v1094.2 h_x2) (fun v1113 => ?_)
  refine rf_ite (fun hc1116 => ?_) (fun hc1116 => ?_)
  · refine rf_b2t c_325_1116 rfl (decide_eq_true hc1116) ?_
    exact t_Lw_law_2077 hS hd hk18 x0 x1 x2 x3 v1113.2 h_x0 h_x1 h_x2
  · refine rf_b2f c_325_1116 rfl (decide_eq_false hc1116) ?_
    refine rf_iconst c_325_1119 ki_0 ?_
    exact rf_ret c_325_1120 rfl (by decide) rfl rfl
def f_Lw_law_1121 (X : Xt) (k18 : Nat → Nat → Nat → Int32 → Mm → Option (Int32 × Mm)) (x0 : Nat) (x1 : Nat) (x2 : Nat) (x3 : Int32) (σ : Mm) : Option (Int32 × Mm) := if inbB (x3 + (1 : Int32)) X.1 = true then if inbB (x3 + (2 : Int32)) X.1 = true then if inbB (x3 + (3 : Int32)) X.1 = true then (f_Ct_decide x1 (X.2 (ix (x3 + (1 : Int32)))) (X.2 (ix (x3 + (2 : Int32)))) (X.2 (ix (x3 + (3 : Int32)))) σ).bind fun v1137 => if inbB (x3 + (1 : Int32)) X.1 = true then if inbB (x3 + (2 : Int32)) X.1 = true then if inbB (x3 + (3 : Int32)) X.1 = true then (f_Mo_decide x2 (X.2 (ix (x3 + (1 : Int32)))) (X.2 (ix (x3 + (2 : Int32)))) (X.2 (ix (x3 + (3 : Int32)))) v1137.2).bind fun v1156 => (if v1137.1 = v1156.1 then (f_Lw_law_2077 X k18 x0 x1 x2 x3 v1156.2) else (some ((0 : Int32), v1156.2))) else none else none else none else none else none else none
set_option maxRecDepth 100000 in
set_option maxHeartbeats 4000000 in
theorem t_Lw_law_1121 {X : Xt} {S : Sh} (hS : ShOK S) {d : Nat} (hd : 63 ≤ d + 1) {k18 : Nat → Nat → Nat → Int32 → Mm → Option (Int32 × Mm)} (hk18 : ∀ (x0 : Nat) (x1 : Nat) (x2 : Nat) (x3 : Int32) (σ : Mm) (h_x0 : x0 = 1000009) (h_x1 : tgT x1 = 11) (h_x2 : tgT x2 = 12), Rf X S emM (k18 x0 x1 x2 x3 σ) (d + 1) 325 18 [.ref x0, .ref x1, .ref x2, .int x3] [] σ) (x0 : Nat) (x1 : Nat) (x2 : Nat) (x3 : Int32) (σ : Mm) (h_x0 : x0 = 1000009) (h_x1 : tgT x1 = 11) (h_x2 : tgT x2 = 12) : Rf X S emM (f_Lw_law_1121 X k18 x0 x1 x2 x3 σ) (d + 1) 325 1121 [.ref x0, .ref x1, .ref x2, .int x3] [] σ := by
  unfold f_Lw_law_1121
  refine rf_ald (i := 1) (Or.inr ⟨1, rfl, rfl, rfl⟩) c_325_1121 rfl ?_
  refine rf_ald (i := 0) (Or.inr ⟨0, rfl, rfl, rfl⟩) c_325_1122 rfl ?_
  refine rf_ild (i := 3) (Or.inr ⟨3, rfl, rfl, rfl⟩) c_325_1123 rfl ?_
  refine rf_iconst c_325_1124 ki_1 ?_
  refine rf_iadd c_325_1125 ?_
  refine rf_ite (fun hb1126 => ?_) (fun _ => rf_none)
  refine rf_xald2 h_x0 c_325_1126 hb1126 ?_
  refine rf_ald (i := 0) (Or.inr ⟨0, rfl, rfl, rfl⟩) c_325_1127 rfl ?_
  refine rf_ild (i := 3) (Or.inr ⟨3, rfl, rfl, rfl⟩) c_325_1128 rfl ?_
  refine rf_iconst c_325_1129 ki_2 ?_
  refine rf_iadd c_325_1130 ?_
  refine rf_ite (fun hb1131 => ?_) (fun _ => rf_none)
  refine rf_xald2 h_x0 c_325_1131 hb1131 ?_
  refine rf_ald (i := 0) (Or.inr ⟨0, rfl, rfl, rfl⟩) c_325_1132 rfl ?_
  refine rf_ild (i := 3) (Or.inr ⟨3, rfl, rfl, rfl⟩) c_325_1133 rfl ?_
  refine rf_iconst c_325_1134 ki_3 ?_
  refine rf_iadd c_325_1135 ?_
  refine rf_ite (fun hb1136 => ?_) (fun _ => rf_none)
  refine rf_xald2 h_x0 c_325_1136 hb1136 ?_
  refine rf_callM (as := [.ref x1, .int (X.2 (ix (x3 + (1 : Int32)))), .int (X.2 (ix (x3 + (2 : Int32)))), .int (X.2 (ix (x3 + (3 : Int32))))]) (kd := 1) c_325_1137 rfl (by decide) rfl ml_13_119 (by decide) rfl (rcv_1 hS rfl rfl h_x1 (by decide)) (Nat.zero_le _) rfl rfl (t_Ct_decide hS (by omega) x1 (X.2 (ix (x3 + (1 : Int32)))) (X.2 (ix (x3 + (2 : Int32)))) (X.2 (ix (x3 + (3 : Int32)))) σ h_x1) (fun v1137 => ?_)
  refine rf_ald (i := 2) (Or.inr ⟨2, rfl, rfl, rfl⟩) c_325_1140 rfl ?_
  refine rf_ald (i := 0) (Or.inr ⟨0, rfl, rfl, rfl⟩) c_325_1141 rfl ?_
  refine rf_ild (i := 3) (Or.inr ⟨3, rfl, rfl, rfl⟩) c_325_1142 rfl ?_
  refine rf_iconst c_325_1143 ki_1 ?_
  refine rf_iadd c_325_1144 ?_
  refine rf_ite (fun hb1145 => ?_) (fun _ => rf_none)
  refine rf_xald2 h_x0 c_325_1145 hb1145 ?_
  refine rf_ald (i := 0) (Or.inr ⟨0, rfl, rfl, rfl⟩) c_325_1146 rfl ?_
  refine rf_ild (i := 3) (Or.inr ⟨3, rfl, rfl, rfl⟩) c_325_1147 rfl ?_
  refine rf_iconst c_325_1148 ki_2 ?_
  refine rf_iadd c_325_1149 ?_
  refine rf_ite (fun hb1150 => ?_) (fun _ => rf_none)
  refine rf_xald2 h_x0 c_325_1150 hb1150 ?_
  refine rf_ald (i := 0) (Or.inr ⟨0, rfl, rfl, rfl⟩) c_325_1151 rfl ?_
  refine rf_ild (i := 3) (Or.inr ⟨3, rfl, rfl, rfl⟩) c_325_1152 rfl ?_
  refine rf_iconst c_325_1153 ki_3 ?_
  refine rf_iadd c_325_1154 ?_
  refine rf_ite (fun hb1155 => ?_) (fun _ => rf_none)
  refine rf_xald2 h_x0 c_325_1155 hb1155 ?_
  refine rf_callM (as := [.ref x2, .int (X.2 (ix (x3 + (1 : Int32)))), .int (X.2 (ix (x3 + (2 : Int32)))), .int (X.2 (ix (x3 + (3 : Int32))))]) (kd := 1) c_325_1156 rfl (by decide) rfl ml_13_122 (by decide) rfl (rcv_1 hS rfl rfl h_x2 (by decide)) (by simp [Value.category]) rfl rfl (t_Mo_decide hS (by omega) x2 (X.2 (ix (x3 + (1 : Int32)))) (X.2 (ix (x3 + (2 : Int32)))) (X.2 (ix (x3 + (3 : Int32)))) v1137.2 h_x2) (fun v1156 => ?_)
  refine rf_ite (fun hc1159 => ?_) (fun hc1159 => ?_)
  · refine rf_b2t c_325_1159 rfl (decide_eq_true hc1159) ?_
    exact t_Lw_law_2077 hS hd hk18 x0 x1 x2 x3 v1156.2 h_x0 h_x1 h_x2
  · refine rf_b2f c_325_1159 rfl (decide_eq_false hc1159) ?_
    refine rf_iconst c_325_1162 ki_0 ?_
    exact rf_ret c_325_1163 rfl (by decide) rfl rfl
def f_Lw_law_1164 (X : Xt) (k18 : Nat → Nat → Nat → Int32 → Mm → Option (Int32 × Mm)) (x0 : Nat) (x1 : Nat) (x2 : Nat) (x3 : Int32) (σ : Mm) : Option (Int32 × Mm) := if inbB (x3 + (1 : Int32)) X.1 = true then if inbB (x3 + (2 : Int32)) X.1 = true then (f_Ct_is σ x1 (X.2 (ix (x3 + (1 : Int32)))) (X.2 (ix (x3 + (2 : Int32))))).bind fun v1175 => if inbB (x3 + (1 : Int32)) X.1 = true then if inbB (x3 + (2 : Int32)) X.1 = true then (f_Mo_is σ x2 (X.2 (ix (x3 + (1 : Int32)))) (X.2 (ix (x3 + (2 : Int32))))).bind fun v1189 => (if v1175 = v1189 then (f_Lw_law_2077 X k18 x0 x1 x2 x3 σ) else (some ((0 : Int32), σ))) else none else none else none else none
set_option maxRecDepth 100000 in
set_option maxHeartbeats 4000000 in
theorem t_Lw_law_1164 {X : Xt} {S : Sh} (hS : ShOK S) {d : Nat} (hd : 63 ≤ d + 1) {k18 : Nat → Nat → Nat → Int32 → Mm → Option (Int32 × Mm)} (hk18 : ∀ (x0 : Nat) (x1 : Nat) (x2 : Nat) (x3 : Int32) (σ : Mm) (h_x0 : x0 = 1000009) (h_x1 : tgT x1 = 11) (h_x2 : tgT x2 = 12), Rf X S emM (k18 x0 x1 x2 x3 σ) (d + 1) 325 18 [.ref x0, .ref x1, .ref x2, .int x3] [] σ) (x0 : Nat) (x1 : Nat) (x2 : Nat) (x3 : Int32) (σ : Mm) (h_x0 : x0 = 1000009) (h_x1 : tgT x1 = 11) (h_x2 : tgT x2 = 12) : Rf X S emM (f_Lw_law_1164 X k18 x0 x1 x2 x3 σ) (d + 1) 325 1164 [.ref x0, .ref x1, .ref x2, .int x3] [] σ := by
  unfold f_Lw_law_1164
  refine rf_ald (i := 1) (Or.inr ⟨1, rfl, rfl, rfl⟩) c_325_1164 rfl ?_
  refine rf_ald (i := 0) (Or.inr ⟨0, rfl, rfl, rfl⟩) c_325_1165 rfl ?_
  refine rf_ild (i := 3) (Or.inr ⟨3, rfl, rfl, rfl⟩) c_325_1166 rfl ?_
  refine rf_iconst c_325_1167 ki_1 ?_
  refine rf_iadd c_325_1168 ?_
  refine rf_ite (fun hb1169 => ?_) (fun _ => rf_none)
  refine rf_xald2 h_x0 c_325_1169 hb1169 ?_
  refine rf_ald (i := 0) (Or.inr ⟨0, rfl, rfl, rfl⟩) c_325_1170 rfl ?_
  refine rf_ild (i := 3) (Or.inr ⟨3, rfl, rfl, rfl⟩) c_325_1171 rfl ?_
  refine rf_iconst c_325_1172 ki_2 ?_
  refine rf_iadd c_325_1173 ?_
  refine rf_ite (fun hb1174 => ?_) (fun _ => rf_none)
  refine rf_xald2 h_x0 c_325_1174 hb1174 ?_
  refine rf_callI (as := [.ref x1, .int (X.2 (ix (x3 + (1 : Int32)))), .int (X.2 (ix (x3 + (2 : Int32))))]) (kd := 1) c_325_1175 rfl (by decide) rfl ml_13_123 (by decide) rfl (rcv_1 hS rfl rfl h_x1 (by decide)) (Nat.zero_le _) rfl rfl (t_Ct_is hS (by omega) σ x1 (X.2 (ix (x3 + (1 : Int32)))) (X.2 (ix (x3 + (2 : Int32)))) h_x1) (fun v1175 => ?_)
  refine rf_ald (i := 2) (Or.inr ⟨2, rfl, rfl, rfl⟩) c_325_1178 rfl ?_
  refine rf_ald (i := 0) (Or.inr ⟨0, rfl, rfl, rfl⟩) c_325_1179 rfl ?_
  refine rf_ild (i := 3) (Or.inr ⟨3, rfl, rfl, rfl⟩) c_325_1180 rfl ?_
  refine rf_iconst c_325_1181 ki_1 ?_
  refine rf_iadd c_325_1182 ?_
  refine rf_ite (fun hb1183 => ?_) (fun _ => rf_none)
  refine rf_xald2 h_x0 c_325_1183 hb1183 ?_
  refine rf_ald (i := 0) (Or.inr ⟨0, rfl, rfl, rfl⟩) c_325_1184 rfl ?_
  refine rf_ild (i := 3) (Or.inr ⟨3, rfl, rfl, rfl⟩) c_325_1185 rfl ?_
  refine rf_iconst c_325_1186 ki_2 ?_
  refine rf_iadd c_325_1187 ?_
  refine rf_ite (fun hb1188 => ?_) (fun _ => rf_none)
  refine rf_xald2 h_x0 c_325_1188 hb1188 ?_
  refine rf_callI (as := [.ref x2, .int (X.2 (ix (x3 + (1 : Int32)))), .int (X.2 (ix (x3 + (2 : Int32))))]) (kd := 1) c_325_1189 rfl (by decide) rfl ml_13_126 (by decide) rfl (rcv_1 hS rfl rfl h_x2 (by decide)) (by simp [Value.category]) rfl rfl (t_Mo_is hS (by omega) σ x2 (X.2 (ix (x3 + (1 : Int32)))) (X.2 (ix (x3 + (2 : Int32)))) h_x2) (fun v1189 => ?_)
  refine rf_ite (fun hc1192 => ?_) (fun hc1192 => ?_)
  · refine rf_b2t c_325_1192 rfl (decide_eq_true hc1192) ?_
    exact t_Lw_law_2077 hS hd hk18 x0 x1 x2 x3 σ h_x0 h_x1 h_x2
  · refine rf_b2f c_325_1192 rfl (decide_eq_false hc1192) ?_
    refine rf_iconst c_325_1195 ki_0 ?_
    exact rf_ret c_325_1196 rfl (by decide) rfl rfl
def f_Lw_law_1197 (X : Xt) (k18 : Nat → Nat → Nat → Int32 → Mm → Option (Int32 × Mm)) (x0 : Nat) (x1 : Nat) (x2 : Nat) (x3 : Int32) (σ : Mm) : Option (Int32 × Mm) := if inbB (x3 + (1 : Int32)) X.1 = true then (f_Ct_reopen x1 (X.2 (ix (x3 + (1 : Int32)))) σ).bind fun v1203 => if inbB (x3 + (1 : Int32)) X.1 = true then (f_Mo_reopen x2 (X.2 (ix (x3 + (1 : Int32)))) v1203.2).bind fun v1212 => (if v1203.1 = v1212.1 then (f_Lw_law_2077 X k18 x0 x1 x2 x3 v1212.2) else (some ((0 : Int32), v1212.2))) else none else none
set_option maxRecDepth 100000 in
set_option maxHeartbeats 4000000 in
theorem t_Lw_law_1197 {X : Xt} {S : Sh} (hS : ShOK S) {d : Nat} (hd : 63 ≤ d + 1) {k18 : Nat → Nat → Nat → Int32 → Mm → Option (Int32 × Mm)} (hk18 : ∀ (x0 : Nat) (x1 : Nat) (x2 : Nat) (x3 : Int32) (σ : Mm) (h_x0 : x0 = 1000009) (h_x1 : tgT x1 = 11) (h_x2 : tgT x2 = 12), Rf X S emM (k18 x0 x1 x2 x3 σ) (d + 1) 325 18 [.ref x0, .ref x1, .ref x2, .int x3] [] σ) (x0 : Nat) (x1 : Nat) (x2 : Nat) (x3 : Int32) (σ : Mm) (h_x0 : x0 = 1000009) (h_x1 : tgT x1 = 11) (h_x2 : tgT x2 = 12) : Rf X S emM (f_Lw_law_1197 X k18 x0 x1 x2 x3 σ) (d + 1) 325 1197 [.ref x0, .ref x1, .ref x2, .int x3] [] σ := by
  unfold f_Lw_law_1197
  refine rf_ald (i := 1) (Or.inr ⟨1, rfl, rfl, rfl⟩) c_325_1197 rfl ?_
  refine rf_ald (i := 0) (Or.inr ⟨0, rfl, rfl, rfl⟩) c_325_1198 rfl ?_
  refine rf_ild (i := 3) (Or.inr ⟨3, rfl, rfl, rfl⟩) c_325_1199 rfl ?_
  refine rf_iconst c_325_1200 ki_1 ?_
  refine rf_iadd c_325_1201 ?_
  refine rf_ite (fun hb1202 => ?_) (fun _ => rf_none)
  refine rf_xald2 h_x0 c_325_1202 hb1202 ?_
  refine rf_callM (as := [.ref x1, .int (X.2 (ix (x3 + (1 : Int32))))]) (kd := 1) c_325_1203 rfl (by decide) rfl ml_13_127 (by decide) rfl (rcv_1 hS rfl rfl h_x1 (by decide)) (Nat.zero_le _) rfl rfl (t_Ct_reopen hS (by omega) x1 (X.2 (ix (x3 + (1 : Int32)))) σ h_x1) (fun v1203 => ?_)
  refine rf_ald (i := 2) (Or.inr ⟨2, rfl, rfl, rfl⟩) c_325_1206 rfl ?_
  refine rf_ald (i := 0) (Or.inr ⟨0, rfl, rfl, rfl⟩) c_325_1207 rfl ?_
  refine rf_ild (i := 3) (Or.inr ⟨3, rfl, rfl, rfl⟩) c_325_1208 rfl ?_
  refine rf_iconst c_325_1209 ki_1 ?_
  refine rf_iadd c_325_1210 ?_
  refine rf_ite (fun hb1211 => ?_) (fun _ => rf_none)
  refine rf_xald2 h_x0 c_325_1211 hb1211 ?_
  refine rf_callM (as := [.ref x2, .int (X.2 (ix (x3 + (1 : Int32))))]) (kd := 1) c_325_1212 rfl (by decide) rfl ml_13_130 (by decide) rfl (rcv_1 hS rfl rfl h_x2 (by decide)) (by simp [Value.category]) rfl rfl (t_Mo_reopen hS (by omega) x2 (X.2 (ix (x3 + (1 : Int32)))) v1203.2 h_x2) (fun v1212 => ?_)
  refine rf_ite (fun hc1215 => ?_) (fun hc1215 => ?_)
  · refine rf_b2t c_325_1215 rfl (decide_eq_true hc1215) ?_
    exact t_Lw_law_2077 hS hd hk18 x0 x1 x2 x3 v1212.2 h_x0 h_x1 h_x2
  · refine rf_b2f c_325_1215 rfl (decide_eq_false hc1215) ?_
    refine rf_iconst c_325_1218 ki_0 ?_
    exact rf_ret c_325_1219 rfl (by decide) rfl rfl
def f_Lw_law_1220 (X : Xt) (k18 : Nat → Nat → Nat → Int32 → Mm → Option (Int32 × Mm)) (x0 : Nat) (x1 : Nat) (x2 : Nat) (x3 : Int32) (σ : Mm) : Option (Int32 × Mm) := if inbB (x3 + (1 : Int32)) X.1 = true then (f_Ct_falls σ x1 (X.2 (ix (x3 + (1 : Int32))))).bind fun v1226 => if inbB (x3 + (1 : Int32)) X.1 = true then (f_Mo_falls x2 (X.2 (ix (x3 + (1 : Int32)))) σ).bind fun v1235 => (if v1226 = v1235.1 then (f_Lw_law_2077 X k18 x0 x1 x2 x3 v1235.2) else (some ((0 : Int32), v1235.2))) else none else none
set_option maxRecDepth 100000 in
set_option maxHeartbeats 4000000 in
theorem t_Lw_law_1220 {X : Xt} {S : Sh} (hS : ShOK S) {d : Nat} (hd : 63 ≤ d + 1) {k18 : Nat → Nat → Nat → Int32 → Mm → Option (Int32 × Mm)} (hk18 : ∀ (x0 : Nat) (x1 : Nat) (x2 : Nat) (x3 : Int32) (σ : Mm) (h_x0 : x0 = 1000009) (h_x1 : tgT x1 = 11) (h_x2 : tgT x2 = 12), Rf X S emM (k18 x0 x1 x2 x3 σ) (d + 1) 325 18 [.ref x0, .ref x1, .ref x2, .int x3] [] σ) (x0 : Nat) (x1 : Nat) (x2 : Nat) (x3 : Int32) (σ : Mm) (h_x0 : x0 = 1000009) (h_x1 : tgT x1 = 11) (h_x2 : tgT x2 = 12) : Rf X S emM (f_Lw_law_1220 X k18 x0 x1 x2 x3 σ) (d + 1) 325 1220 [.ref x0, .ref x1, .ref x2, .int x3] [] σ := by
  unfold f_Lw_law_1220
  refine rf_ald (i := 1) (Or.inr ⟨1, rfl, rfl, rfl⟩) c_325_1220 rfl ?_
  refine rf_ald (i := 0) (Or.inr ⟨0, rfl, rfl, rfl⟩) c_325_1221 rfl ?_
  refine rf_ild (i := 3) (Or.inr ⟨3, rfl, rfl, rfl⟩) c_325_1222 rfl ?_
  refine rf_iconst c_325_1223 ki_1 ?_
  refine rf_iadd c_325_1224 ?_
  refine rf_ite (fun hb1225 => ?_) (fun _ => rf_none)
  refine rf_xald2 h_x0 c_325_1225 hb1225 ?_
  refine rf_callI (as := [.ref x1, .int (X.2 (ix (x3 + (1 : Int32))))]) (kd := 1) c_325_1226 rfl (by decide) rfl ml_13_131 (by decide) rfl (rcv_1 hS rfl rfl h_x1 (by decide)) (Nat.zero_le _) rfl rfl (t_Ct_falls hS (by omega) σ x1 (X.2 (ix (x3 + (1 : Int32)))) h_x1) (fun v1226 => ?_)
  refine rf_ald (i := 2) (Or.inr ⟨2, rfl, rfl, rfl⟩) c_325_1229 rfl ?_
  refine rf_ald (i := 0) (Or.inr ⟨0, rfl, rfl, rfl⟩) c_325_1230 rfl ?_
  refine rf_ild (i := 3) (Or.inr ⟨3, rfl, rfl, rfl⟩) c_325_1231 rfl ?_
  refine rf_iconst c_325_1232 ki_1 ?_
  refine rf_iadd c_325_1233 ?_
  refine rf_ite (fun hb1234 => ?_) (fun _ => rf_none)
  refine rf_xald2 h_x0 c_325_1234 hb1234 ?_
  refine rf_callM (as := [.ref x2, .int (X.2 (ix (x3 + (1 : Int32))))]) (kd := 1) c_325_1235 rfl (by decide) rfl ml_13_134 (by decide) rfl (rcv_1 hS rfl rfl h_x2 (by decide)) (by simp [Value.category]) rfl rfl (t_Mo_falls hS (by omega) x2 (X.2 (ix (x3 + (1 : Int32)))) σ h_x2) (fun v1235 => ?_)
  refine rf_ite (fun hc1238 => ?_) (fun hc1238 => ?_)
  · refine rf_b2t c_325_1238 rfl (decide_eq_true hc1238) ?_
    exact t_Lw_law_2077 hS hd hk18 x0 x1 x2 x3 v1235.2 h_x0 h_x1 h_x2
  · refine rf_b2f c_325_1238 rfl (decide_eq_false hc1238) ?_
    refine rf_iconst c_325_1241 ki_0 ?_
    exact rf_ret c_325_1242 rfl (by decide) rfl rfl
def f_Lw_law_1243 (X : Xt) (k18 : Nat → Nat → Nat → Int32 → Mm → Option (Int32 × Mm)) (x0 : Nat) (x1 : Nat) (x2 : Nat) (x3 : Int32) (σ : Mm) : Option (Int32 × Mm) := if inbB (x3 + (1 : Int32)) X.1 = true then if inbB (x3 + (2 : Int32)) X.1 = true then (f_Ct_current σ x1 (X.2 (ix (x3 + (1 : Int32)))) (X.2 (ix (x3 + (2 : Int32))))).bind fun v1254 => if inbB (x3 + (1 : Int32)) X.1 = true then if inbB (x3 + (2 : Int32)) X.1 = true then (f_Mo_current σ x2 (X.2 (ix (x3 + (1 : Int32)))) (X.2 (ix (x3 + (2 : Int32))))).bind fun v1268 => (if v1254 = v1268 then (f_Lw_law_2077 X k18 x0 x1 x2 x3 σ) else (some ((0 : Int32), σ))) else none else none else none else none
set_option maxRecDepth 100000 in
set_option maxHeartbeats 4000000 in
theorem t_Lw_law_1243 {X : Xt} {S : Sh} (hS : ShOK S) {d : Nat} (hd : 63 ≤ d + 1) {k18 : Nat → Nat → Nat → Int32 → Mm → Option (Int32 × Mm)} (hk18 : ∀ (x0 : Nat) (x1 : Nat) (x2 : Nat) (x3 : Int32) (σ : Mm) (h_x0 : x0 = 1000009) (h_x1 : tgT x1 = 11) (h_x2 : tgT x2 = 12), Rf X S emM (k18 x0 x1 x2 x3 σ) (d + 1) 325 18 [.ref x0, .ref x1, .ref x2, .int x3] [] σ) (x0 : Nat) (x1 : Nat) (x2 : Nat) (x3 : Int32) (σ : Mm) (h_x0 : x0 = 1000009) (h_x1 : tgT x1 = 11) (h_x2 : tgT x2 = 12) : Rf X S emM (f_Lw_law_1243 X k18 x0 x1 x2 x3 σ) (d + 1) 325 1243 [.ref x0, .ref x1, .ref x2, .int x3] [] σ := by
  unfold f_Lw_law_1243
  refine rf_ald (i := 1) (Or.inr ⟨1, rfl, rfl, rfl⟩) c_325_1243 rfl ?_
  refine rf_ald (i := 0) (Or.inr ⟨0, rfl, rfl, rfl⟩) c_325_1244 rfl ?_
  refine rf_ild (i := 3) (Or.inr ⟨3, rfl, rfl, rfl⟩) c_325_1245 rfl ?_
  refine rf_iconst c_325_1246 ki_1 ?_
  refine rf_iadd c_325_1247 ?_
  refine rf_ite (fun hb1248 => ?_) (fun _ => rf_none)
  refine rf_xald2 h_x0 c_325_1248 hb1248 ?_
  refine rf_ald (i := 0) (Or.inr ⟨0, rfl, rfl, rfl⟩) c_325_1249 rfl ?_
  refine rf_ild (i := 3) (Or.inr ⟨3, rfl, rfl, rfl⟩) c_325_1250 rfl ?_
  refine rf_iconst c_325_1251 ki_2 ?_
  refine rf_iadd c_325_1252 ?_
  refine rf_ite (fun hb1253 => ?_) (fun _ => rf_none)
  refine rf_xald2 h_x0 c_325_1253 hb1253 ?_
  refine rf_callI (as := [.ref x1, .int (X.2 (ix (x3 + (1 : Int32)))), .int (X.2 (ix (x3 + (2 : Int32))))]) (kd := 1) c_325_1254 rfl (by decide) rfl ml_13_135 (by decide) rfl (rcv_1 hS rfl rfl h_x1 (by decide)) (Nat.zero_le _) rfl rfl (t_Ct_current hS (by omega) σ x1 (X.2 (ix (x3 + (1 : Int32)))) (X.2 (ix (x3 + (2 : Int32)))) h_x1) (fun v1254 => ?_)
  refine rf_ald (i := 2) (Or.inr ⟨2, rfl, rfl, rfl⟩) c_325_1257 rfl ?_
  refine rf_ald (i := 0) (Or.inr ⟨0, rfl, rfl, rfl⟩) c_325_1258 rfl ?_
  refine rf_ild (i := 3) (Or.inr ⟨3, rfl, rfl, rfl⟩) c_325_1259 rfl ?_
  refine rf_iconst c_325_1260 ki_1 ?_
  refine rf_iadd c_325_1261 ?_
  refine rf_ite (fun hb1262 => ?_) (fun _ => rf_none)
  refine rf_xald2 h_x0 c_325_1262 hb1262 ?_
  refine rf_ald (i := 0) (Or.inr ⟨0, rfl, rfl, rfl⟩) c_325_1263 rfl ?_
  refine rf_ild (i := 3) (Or.inr ⟨3, rfl, rfl, rfl⟩) c_325_1264 rfl ?_
  refine rf_iconst c_325_1265 ki_2 ?_
  refine rf_iadd c_325_1266 ?_
  refine rf_ite (fun hb1267 => ?_) (fun _ => rf_none)
  refine rf_xald2 h_x0 c_325_1267 hb1267 ?_
  refine rf_callI (as := [.ref x2, .int (X.2 (ix (x3 + (1 : Int32)))), .int (X.2 (ix (x3 + (2 : Int32))))]) (kd := 1) c_325_1268 rfl (by decide) rfl ml_13_138 (by decide) rfl (rcv_1 hS rfl rfl h_x2 (by decide)) (by simp [Value.category]) rfl rfl (t_Mo_current hS (by omega) σ x2 (X.2 (ix (x3 + (1 : Int32)))) (X.2 (ix (x3 + (2 : Int32)))) h_x2) (fun v1268 => ?_)
  refine rf_ite (fun hc1271 => ?_) (fun hc1271 => ?_)
  · refine rf_b2t c_325_1271 rfl (decide_eq_true hc1271) ?_
    exact t_Lw_law_2077 hS hd hk18 x0 x1 x2 x3 σ h_x0 h_x1 h_x2
  · refine rf_b2f c_325_1271 rfl (decide_eq_false hc1271) ?_
    refine rf_iconst c_325_1274 ki_0 ?_
    exact rf_ret c_325_1275 rfl (by decide) rfl rfl
def f_Lw_law_1276 (X : Xt) (k18 : Nat → Nat → Nat → Int32 → Mm → Option (Int32 × Mm)) (x0 : Nat) (x1 : Nat) (x2 : Nat) (x3 : Int32) (σ : Mm) : Option (Int32 × Mm) := if inbB (x3 + (1 : Int32)) X.1 = true then if inbB (x3 + (2 : Int32)) X.1 = true then (f_Ct_bound σ x1 (X.2 (ix (x3 + (1 : Int32)))) (X.2 (ix (x3 + (2 : Int32))))).bind fun v1287 => if inbB (x3 + (1 : Int32)) X.1 = true then if inbB (x3 + (2 : Int32)) X.1 = true then (f_Mo_bound σ x2 (X.2 (ix (x3 + (1 : Int32)))) (X.2 (ix (x3 + (2 : Int32))))).bind fun v1301 => (if v1287 = v1301 then (f_Lw_law_2077 X k18 x0 x1 x2 x3 σ) else (some ((0 : Int32), σ))) else none else none else none else none
set_option maxRecDepth 100000 in
set_option maxHeartbeats 4000000 in
theorem t_Lw_law_1276 {X : Xt} {S : Sh} (hS : ShOK S) {d : Nat} (hd : 63 ≤ d + 1) {k18 : Nat → Nat → Nat → Int32 → Mm → Option (Int32 × Mm)} (hk18 : ∀ (x0 : Nat) (x1 : Nat) (x2 : Nat) (x3 : Int32) (σ : Mm) (h_x0 : x0 = 1000009) (h_x1 : tgT x1 = 11) (h_x2 : tgT x2 = 12), Rf X S emM (k18 x0 x1 x2 x3 σ) (d + 1) 325 18 [.ref x0, .ref x1, .ref x2, .int x3] [] σ) (x0 : Nat) (x1 : Nat) (x2 : Nat) (x3 : Int32) (σ : Mm) (h_x0 : x0 = 1000009) (h_x1 : tgT x1 = 11) (h_x2 : tgT x2 = 12) : Rf X S emM (f_Lw_law_1276 X k18 x0 x1 x2 x3 σ) (d + 1) 325 1276 [.ref x0, .ref x1, .ref x2, .int x3] [] σ := by
  unfold f_Lw_law_1276
  refine rf_ald (i := 1) (Or.inr ⟨1, rfl, rfl, rfl⟩) c_325_1276 rfl ?_
  refine rf_ald (i := 0) (Or.inr ⟨0, rfl, rfl, rfl⟩) c_325_1277 rfl ?_
  refine rf_ild (i := 3) (Or.inr ⟨3, rfl, rfl, rfl⟩) c_325_1278 rfl ?_
  refine rf_iconst c_325_1279 ki_1 ?_
  refine rf_iadd c_325_1280 ?_
  refine rf_ite (fun hb1281 => ?_) (fun _ => rf_none)
  refine rf_xald2 h_x0 c_325_1281 hb1281 ?_
  refine rf_ald (i := 0) (Or.inr ⟨0, rfl, rfl, rfl⟩) c_325_1282 rfl ?_
  refine rf_ild (i := 3) (Or.inr ⟨3, rfl, rfl, rfl⟩) c_325_1283 rfl ?_
  refine rf_iconst c_325_1284 ki_2 ?_
  refine rf_iadd c_325_1285 ?_
  refine rf_ite (fun hb1286 => ?_) (fun _ => rf_none)
  refine rf_xald2 h_x0 c_325_1286 hb1286 ?_
  refine rf_callI (as := [.ref x1, .int (X.2 (ix (x3 + (1 : Int32)))), .int (X.2 (ix (x3 + (2 : Int32))))]) (kd := 1) c_325_1287 rfl (by decide) rfl ml_13_139 (by decide) rfl (rcv_1 hS rfl rfl h_x1 (by decide)) (Nat.zero_le _) rfl rfl (t_Ct_bound hS (by omega) σ x1 (X.2 (ix (x3 + (1 : Int32)))) (X.2 (ix (x3 + (2 : Int32)))) h_x1) (fun v1287 => ?_)
  refine rf_ald (i := 2) (Or.inr ⟨2, rfl, rfl, rfl⟩) c_325_1290 rfl ?_
  refine rf_ald (i := 0) (Or.inr ⟨0, rfl, rfl, rfl⟩) c_325_1291 rfl ?_
  refine rf_ild (i := 3) (Or.inr ⟨3, rfl, rfl, rfl⟩) c_325_1292 rfl ?_
  refine rf_iconst c_325_1293 ki_1 ?_
  refine rf_iadd c_325_1294 ?_
  refine rf_ite (fun hb1295 => ?_) (fun _ => rf_none)
  refine rf_xald2 h_x0 c_325_1295 hb1295 ?_
  refine rf_ald (i := 0) (Or.inr ⟨0, rfl, rfl, rfl⟩) c_325_1296 rfl ?_
  refine rf_ild (i := 3) (Or.inr ⟨3, rfl, rfl, rfl⟩) c_325_1297 rfl ?_
  refine rf_iconst c_325_1298 ki_2 ?_
  refine rf_iadd c_325_1299 ?_
  refine rf_ite (fun hb1300 => ?_) (fun _ => rf_none)
  refine rf_xald2 h_x0 c_325_1300 hb1300 ?_
  refine rf_callI (as := [.ref x2, .int (X.2 (ix (x3 + (1 : Int32)))), .int (X.2 (ix (x3 + (2 : Int32))))]) (kd := 1) c_325_1301 rfl (by decide) rfl ml_13_142 (by decide) rfl (rcv_1 hS rfl rfl h_x2 (by decide)) (by simp [Value.category]) rfl rfl (t_Mo_bound hS (by omega) σ x2 (X.2 (ix (x3 + (1 : Int32)))) (X.2 (ix (x3 + (2 : Int32)))) h_x2) (fun v1301 => ?_)
  refine rf_ite (fun hc1304 => ?_) (fun hc1304 => ?_)
  · refine rf_b2t c_325_1304 rfl (decide_eq_true hc1304) ?_
    exact t_Lw_law_2077 hS hd hk18 x0 x1 x2 x3 σ h_x0 h_x1 h_x2
  · refine rf_b2f c_325_1304 rfl (decide_eq_false hc1304) ?_
    refine rf_iconst c_325_1307 ki_0 ?_
    exact rf_ret c_325_1308 rfl (by decide) rfl rfl
def f_Lw_law_1309 (X : Xt) (k18 : Nat → Nat → Nat → Int32 → Mm → Option (Int32 × Mm)) (x0 : Nat) (x1 : Nat) (x2 : Nat) (x3 : Int32) (σ : Mm) : Option (Int32 × Mm) := if inbB (x3 + (1 : Int32)) X.1 = true then (f_Ct_against σ x1 (X.2 (ix (x3 + (1 : Int32))))).bind fun v1315 => if inbB (x3 + (1 : Int32)) X.1 = true then (f_Mo_against σ x2 (X.2 (ix (x3 + (1 : Int32))))).bind fun v1324 => (if v1315 = v1324 then (f_Lw_law_2077 X k18 x0 x1 x2 x3 σ) else (some ((0 : Int32), σ))) else none else none
set_option maxRecDepth 100000 in
set_option maxHeartbeats 4000000 in
theorem t_Lw_law_1309 {X : Xt} {S : Sh} (hS : ShOK S) {d : Nat} (hd : 63 ≤ d + 1) {k18 : Nat → Nat → Nat → Int32 → Mm → Option (Int32 × Mm)} (hk18 : ∀ (x0 : Nat) (x1 : Nat) (x2 : Nat) (x3 : Int32) (σ : Mm) (h_x0 : x0 = 1000009) (h_x1 : tgT x1 = 11) (h_x2 : tgT x2 = 12), Rf X S emM (k18 x0 x1 x2 x3 σ) (d + 1) 325 18 [.ref x0, .ref x1, .ref x2, .int x3] [] σ) (x0 : Nat) (x1 : Nat) (x2 : Nat) (x3 : Int32) (σ : Mm) (h_x0 : x0 = 1000009) (h_x1 : tgT x1 = 11) (h_x2 : tgT x2 = 12) : Rf X S emM (f_Lw_law_1309 X k18 x0 x1 x2 x3 σ) (d + 1) 325 1309 [.ref x0, .ref x1, .ref x2, .int x3] [] σ := by
  unfold f_Lw_law_1309
  refine rf_ald (i := 1) (Or.inr ⟨1, rfl, rfl, rfl⟩) c_325_1309 rfl ?_
  refine rf_ald (i := 0) (Or.inr ⟨0, rfl, rfl, rfl⟩) c_325_1310 rfl ?_
  refine rf_ild (i := 3) (Or.inr ⟨3, rfl, rfl, rfl⟩) c_325_1311 rfl ?_
  refine rf_iconst c_325_1312 ki_1 ?_
  refine rf_iadd c_325_1313 ?_
  refine rf_ite (fun hb1314 => ?_) (fun _ => rf_none)
  refine rf_xald2 h_x0 c_325_1314 hb1314 ?_
  refine rf_callI (as := [.ref x1, .int (X.2 (ix (x3 + (1 : Int32))))]) (kd := 1) c_325_1315 rfl (by decide) rfl ml_13_143 (by decide) rfl (rcv_1 hS rfl rfl h_x1 (by decide)) (Nat.zero_le _) rfl rfl (t_Ct_against hS (by omega) σ x1 (X.2 (ix (x3 + (1 : Int32)))) h_x1) (fun v1315 => ?_)
  refine rf_ald (i := 2) (Or.inr ⟨2, rfl, rfl, rfl⟩) c_325_1318 rfl ?_
  refine rf_ald (i := 0) (Or.inr ⟨0, rfl, rfl, rfl⟩) c_325_1319 rfl ?_
  refine rf_ild (i := 3) (Or.inr ⟨3, rfl, rfl, rfl⟩) c_325_1320 rfl ?_
  refine rf_iconst c_325_1321 ki_1 ?_
  refine rf_iadd c_325_1322 ?_
  refine rf_ite (fun hb1323 => ?_) (fun _ => rf_none)
  refine rf_xald2 h_x0 c_325_1323 hb1323 ?_
  refine rf_callI (as := [.ref x2, .int (X.2 (ix (x3 + (1 : Int32))))]) (kd := 1) c_325_1324 rfl (by decide) rfl ml_13_146 (by decide) rfl (rcv_1 hS rfl rfl h_x2 (by decide)) (by simp [Value.category]) rfl rfl (t_Mo_against hS (by omega) σ x2 (X.2 (ix (x3 + (1 : Int32)))) h_x2) (fun v1324 => ?_)
  refine rf_ite (fun hc1327 => ?_) (fun hc1327 => ?_)
  · refine rf_b2t c_325_1327 rfl (decide_eq_true hc1327) ?_
    exact t_Lw_law_2077 hS hd hk18 x0 x1 x2 x3 σ h_x0 h_x1 h_x2
  · refine rf_b2f c_325_1327 rfl (decide_eq_false hc1327) ?_
    refine rf_iconst c_325_1330 ki_0 ?_
    exact rf_ret c_325_1331 rfl (by decide) rfl rfl
def f_Lw_law_1332 (X : Xt) (k18 : Nat → Nat → Nat → Int32 → Mm → Option (Int32 × Mm)) (x0 : Nat) (x1 : Nat) (x2 : Nat) (x3 : Int32) (σ : Mm) : Option (Int32 × Mm) := if inbB (x3 + (1 : Int32)) X.1 = true then if inbB (x3 + (2 : Int32)) X.1 = true then (f_Ct_law x1 (X.2 (ix (x3 + (1 : Int32)))) (X.2 (ix (x3 + (2 : Int32)))) σ).bind fun v1343 => if inbB (x3 + (1 : Int32)) X.1 = true then if inbB (x3 + (2 : Int32)) X.1 = true then (f_Mo_law x2 (X.2 (ix (x3 + (1 : Int32)))) (X.2 (ix (x3 + (2 : Int32)))) v1343.2).bind fun v1357 => (if v1343.1 = v1357.1 then (f_Lw_law_2077 X k18 x0 x1 x2 x3 v1357.2) else (some ((0 : Int32), v1357.2))) else none else none else none else none
set_option maxRecDepth 100000 in
set_option maxHeartbeats 4000000 in
theorem t_Lw_law_1332 {X : Xt} {S : Sh} (hS : ShOK S) {d : Nat} (hd : 63 ≤ d + 1) {k18 : Nat → Nat → Nat → Int32 → Mm → Option (Int32 × Mm)} (hk18 : ∀ (x0 : Nat) (x1 : Nat) (x2 : Nat) (x3 : Int32) (σ : Mm) (h_x0 : x0 = 1000009) (h_x1 : tgT x1 = 11) (h_x2 : tgT x2 = 12), Rf X S emM (k18 x0 x1 x2 x3 σ) (d + 1) 325 18 [.ref x0, .ref x1, .ref x2, .int x3] [] σ) (x0 : Nat) (x1 : Nat) (x2 : Nat) (x3 : Int32) (σ : Mm) (h_x0 : x0 = 1000009) (h_x1 : tgT x1 = 11) (h_x2 : tgT x2 = 12) : Rf X S emM (f_Lw_law_1332 X k18 x0 x1 x2 x3 σ) (d + 1) 325 1332 [.ref x0, .ref x1, .ref x2, .int x3] [] σ := by
  unfold f_Lw_law_1332
  refine rf_ald (i := 1) (Or.inr ⟨1, rfl, rfl, rfl⟩) c_325_1332 rfl ?_
  refine rf_ald (i := 0) (Or.inr ⟨0, rfl, rfl, rfl⟩) c_325_1333 rfl ?_
  refine rf_ild (i := 3) (Or.inr ⟨3, rfl, rfl, rfl⟩) c_325_1334 rfl ?_
  refine rf_iconst c_325_1335 ki_1 ?_
  refine rf_iadd c_325_1336 ?_
  refine rf_ite (fun hb1337 => ?_) (fun _ => rf_none)
  refine rf_xald2 h_x0 c_325_1337 hb1337 ?_
  refine rf_ald (i := 0) (Or.inr ⟨0, rfl, rfl, rfl⟩) c_325_1338 rfl ?_
  refine rf_ild (i := 3) (Or.inr ⟨3, rfl, rfl, rfl⟩) c_325_1339 rfl ?_
  refine rf_iconst c_325_1340 ki_2 ?_
  refine rf_iadd c_325_1341 ?_
  refine rf_ite (fun hb1342 => ?_) (fun _ => rf_none)
  refine rf_xald2 h_x0 c_325_1342 hb1342 ?_
  refine rf_callM (as := [.ref x1, .int (X.2 (ix (x3 + (1 : Int32)))), .int (X.2 (ix (x3 + (2 : Int32))))]) (kd := 1) c_325_1343 rfl (by decide) rfl ml_13_147 (by decide) rfl (rcv_1 hS rfl rfl h_x1 (by decide)) (Nat.zero_le _) rfl rfl (t_Ct_law hS (by omega) x1 (X.2 (ix (x3 + (1 : Int32)))) (X.2 (ix (x3 + (2 : Int32)))) σ h_x1) (fun v1343 => ?_)
  refine rf_ald (i := 2) (Or.inr ⟨2, rfl, rfl, rfl⟩) c_325_1346 rfl ?_
  refine rf_ald (i := 0) (Or.inr ⟨0, rfl, rfl, rfl⟩) c_325_1347 rfl ?_
  refine rf_ild (i := 3) (Or.inr ⟨3, rfl, rfl, rfl⟩) c_325_1348 rfl ?_
  refine rf_iconst c_325_1349 ki_1 ?_
  refine rf_iadd c_325_1350 ?_
  refine rf_ite (fun hb1351 => ?_) (fun _ => rf_none)
  refine rf_xald2 h_x0 c_325_1351 hb1351 ?_
  refine rf_ald (i := 0) (Or.inr ⟨0, rfl, rfl, rfl⟩) c_325_1352 rfl ?_
  refine rf_ild (i := 3) (Or.inr ⟨3, rfl, rfl, rfl⟩) c_325_1353 rfl ?_
  refine rf_iconst c_325_1354 ki_2 ?_
  refine rf_iadd c_325_1355 ?_
  refine rf_ite (fun hb1356 => ?_) (fun _ => rf_none)
  refine rf_xald2 h_x0 c_325_1356 hb1356 ?_
  refine rf_callM (as := [.ref x2, .int (X.2 (ix (x3 + (1 : Int32)))), .int (X.2 (ix (x3 + (2 : Int32))))]) (kd := 1) c_325_1357 rfl (by decide) rfl ml_13_150 (by decide) rfl (rcv_1 hS rfl rfl h_x2 (by decide)) (by simp [Value.category]) rfl rfl (t_Mo_law hS (by omega) x2 (X.2 (ix (x3 + (1 : Int32)))) (X.2 (ix (x3 + (2 : Int32)))) v1343.2 h_x2) (fun v1357 => ?_)
  refine rf_ite (fun hc1360 => ?_) (fun hc1360 => ?_)
  · refine rf_b2t c_325_1360 rfl (decide_eq_true hc1360) ?_
    exact t_Lw_law_2077 hS hd hk18 x0 x1 x2 x3 v1357.2 h_x0 h_x1 h_x2
  · refine rf_b2f c_325_1360 rfl (decide_eq_false hc1360) ?_
    refine rf_iconst c_325_1363 ki_0 ?_
    exact rf_ret c_325_1364 rfl (by decide) rfl rfl
def f_Lw_law_1365 (X : Xt) (k18 : Nat → Nat → Nat → Int32 → Mm → Option (Int32 × Mm)) (x0 : Nat) (x1 : Nat) (x2 : Nat) (x3 : Int32) (σ : Mm) : Option (Int32 × Mm) := if inbB (x3 + (1 : Int32)) X.1 = true then (f_Ct_more σ x1 (X.2 (ix (x3 + (1 : Int32))))).bind fun v1371 => if inbB (x3 + (1 : Int32)) X.1 = true then (f_Mo_more σ x2 (X.2 (ix (x3 + (1 : Int32))))).bind fun v1380 => (if v1371 = v1380 then (f_Lw_law_2077 X k18 x0 x1 x2 x3 σ) else (some ((0 : Int32), σ))) else none else none
set_option maxRecDepth 100000 in
set_option maxHeartbeats 4000000 in
theorem t_Lw_law_1365 {X : Xt} {S : Sh} (hS : ShOK S) {d : Nat} (hd : 63 ≤ d + 1) {k18 : Nat → Nat → Nat → Int32 → Mm → Option (Int32 × Mm)} (hk18 : ∀ (x0 : Nat) (x1 : Nat) (x2 : Nat) (x3 : Int32) (σ : Mm) (h_x0 : x0 = 1000009) (h_x1 : tgT x1 = 11) (h_x2 : tgT x2 = 12), Rf X S emM (k18 x0 x1 x2 x3 σ) (d + 1) 325 18 [.ref x0, .ref x1, .ref x2, .int x3] [] σ) (x0 : Nat) (x1 : Nat) (x2 : Nat) (x3 : Int32) (σ : Mm) (h_x0 : x0 = 1000009) (h_x1 : tgT x1 = 11) (h_x2 : tgT x2 = 12) : Rf X S emM (f_Lw_law_1365 X k18 x0 x1 x2 x3 σ) (d + 1) 325 1365 [.ref x0, .ref x1, .ref x2, .int x3] [] σ := by
  unfold f_Lw_law_1365
  refine rf_ald (i := 1) (Or.inr ⟨1, rfl, rfl, rfl⟩) c_325_1365 rfl ?_
  refine rf_ald (i := 0) (Or.inr ⟨0, rfl, rfl, rfl⟩) c_325_1366 rfl ?_
  refine rf_ild (i := 3) (Or.inr ⟨3, rfl, rfl, rfl⟩) c_325_1367 rfl ?_
  refine rf_iconst c_325_1368 ki_1 ?_
  refine rf_iadd c_325_1369 ?_
  refine rf_ite (fun hb1370 => ?_) (fun _ => rf_none)
  refine rf_xald2 h_x0 c_325_1370 hb1370 ?_
  refine rf_callI (as := [.ref x1, .int (X.2 (ix (x3 + (1 : Int32))))]) (kd := 1) c_325_1371 rfl (by decide) rfl ml_13_151 (by decide) rfl (rcv_1 hS rfl rfl h_x1 (by decide)) (Nat.zero_le _) rfl rfl (t_Ct_more hS (by omega) σ x1 (X.2 (ix (x3 + (1 : Int32)))) h_x1) (fun v1371 => ?_)
  refine rf_ald (i := 2) (Or.inr ⟨2, rfl, rfl, rfl⟩) c_325_1374 rfl ?_
  refine rf_ald (i := 0) (Or.inr ⟨0, rfl, rfl, rfl⟩) c_325_1375 rfl ?_
  refine rf_ild (i := 3) (Or.inr ⟨3, rfl, rfl, rfl⟩) c_325_1376 rfl ?_
  refine rf_iconst c_325_1377 ki_1 ?_
  refine rf_iadd c_325_1378 ?_
  refine rf_ite (fun hb1379 => ?_) (fun _ => rf_none)
  refine rf_xald2 h_x0 c_325_1379 hb1379 ?_
  refine rf_callI (as := [.ref x2, .int (X.2 (ix (x3 + (1 : Int32))))]) (kd := 1) c_325_1380 rfl (by decide) rfl ml_13_154 (by decide) rfl (rcv_1 hS rfl rfl h_x2 (by decide)) (by simp [Value.category]) rfl rfl (t_Mo_more hS (by omega) σ x2 (X.2 (ix (x3 + (1 : Int32)))) h_x2) (fun v1380 => ?_)
  refine rf_ite (fun hc1383 => ?_) (fun hc1383 => ?_)
  · refine rf_b2t c_325_1383 rfl (decide_eq_true hc1383) ?_
    exact t_Lw_law_2077 hS hd hk18 x0 x1 x2 x3 σ h_x0 h_x1 h_x2
  · refine rf_b2f c_325_1383 rfl (decide_eq_false hc1383) ?_
    refine rf_iconst c_325_1386 ki_0 ?_
    exact rf_ret c_325_1387 rfl (by decide) rfl rfl
def f_Lw_law_1388 (X : Xt) (k18 : Nat → Nat → Nat → Int32 → Mm → Option (Int32 × Mm)) (x0 : Nat) (x1 : Nat) (x2 : Nat) (x3 : Int32) (σ : Mm) : Option (Int32 × Mm) := if inbB (x3 + (1 : Int32)) X.1 = true then (f_Ct_run x1 (X.2 (ix (x3 + (1 : Int32)))) σ).bind fun v1394 => if inbB (x3 + (1 : Int32)) X.1 = true then (f_Mo_run x2 (X.2 (ix (x3 + (1 : Int32)))) v1394.2).bind fun v1403 => (if v1394.1 = v1403.1 then (f_Lw_law_2077 X k18 x0 x1 x2 x3 v1403.2) else (some ((0 : Int32), v1403.2))) else none else none
set_option maxRecDepth 100000 in
set_option maxHeartbeats 4000000 in
theorem t_Lw_law_1388 {X : Xt} {S : Sh} (hS : ShOK S) {d : Nat} (hd : 63 ≤ d + 1) {k18 : Nat → Nat → Nat → Int32 → Mm → Option (Int32 × Mm)} (hk18 : ∀ (x0 : Nat) (x1 : Nat) (x2 : Nat) (x3 : Int32) (σ : Mm) (h_x0 : x0 = 1000009) (h_x1 : tgT x1 = 11) (h_x2 : tgT x2 = 12), Rf X S emM (k18 x0 x1 x2 x3 σ) (d + 1) 325 18 [.ref x0, .ref x1, .ref x2, .int x3] [] σ) (x0 : Nat) (x1 : Nat) (x2 : Nat) (x3 : Int32) (σ : Mm) (h_x0 : x0 = 1000009) (h_x1 : tgT x1 = 11) (h_x2 : tgT x2 = 12) : Rf X S emM (f_Lw_law_1388 X k18 x0 x1 x2 x3 σ) (d + 1) 325 1388 [.ref x0, .ref x1, .ref x2, .int x3] [] σ := by
  unfold f_Lw_law_1388
  refine rf_ald (i := 1) (Or.inr ⟨1, rfl, rfl, rfl⟩) c_325_1388 rfl ?_
  refine rf_ald (i := 0) (Or.inr ⟨0, rfl, rfl, rfl⟩) c_325_1389 rfl ?_
  refine rf_ild (i := 3) (Or.inr ⟨3, rfl, rfl, rfl⟩) c_325_1390 rfl ?_
  refine rf_iconst c_325_1391 ki_1 ?_
  refine rf_iadd c_325_1392 ?_
  refine rf_ite (fun hb1393 => ?_) (fun _ => rf_none)
  refine rf_xald2 h_x0 c_325_1393 hb1393 ?_
  refine rf_callM (as := [.ref x1, .int (X.2 (ix (x3 + (1 : Int32))))]) (kd := 1) c_325_1394 rfl (by decide) rfl ml_13_155 (by decide) rfl (rcv_1 hS rfl rfl h_x1 (by decide)) (Nat.zero_le _) rfl rfl (t_Ct_run hS (by omega) x1 (X.2 (ix (x3 + (1 : Int32)))) σ h_x1) (fun v1394 => ?_)
  refine rf_ald (i := 2) (Or.inr ⟨2, rfl, rfl, rfl⟩) c_325_1397 rfl ?_
  refine rf_ald (i := 0) (Or.inr ⟨0, rfl, rfl, rfl⟩) c_325_1398 rfl ?_
  refine rf_ild (i := 3) (Or.inr ⟨3, rfl, rfl, rfl⟩) c_325_1399 rfl ?_
  refine rf_iconst c_325_1400 ki_1 ?_
  refine rf_iadd c_325_1401 ?_
  refine rf_ite (fun hb1402 => ?_) (fun _ => rf_none)
  refine rf_xald2 h_x0 c_325_1402 hb1402 ?_
  refine rf_callM (as := [.ref x2, .int (X.2 (ix (x3 + (1 : Int32))))]) (kd := 1) c_325_1403 rfl (by decide) rfl ml_13_158 (by decide) rfl (rcv_1 hS rfl rfl h_x2 (by decide)) (by simp [Value.category]) rfl rfl (t_Mo_run hS (by omega) x2 (X.2 (ix (x3 + (1 : Int32)))) v1394.2 h_x2) (fun v1403 => ?_)
  refine rf_ite (fun hc1406 => ?_) (fun hc1406 => ?_)
  · refine rf_b2t c_325_1406 rfl (decide_eq_true hc1406) ?_
    exact t_Lw_law_2077 hS hd hk18 x0 x1 x2 x3 v1403.2 h_x0 h_x1 h_x2
  · refine rf_b2f c_325_1406 rfl (decide_eq_false hc1406) ?_
    refine rf_iconst c_325_1409 ki_0 ?_
    exact rf_ret c_325_1410 rfl (by decide) rfl rfl
def f_Lw_law_1411 (X : Xt) (k18 : Nat → Nat → Nat → Int32 → Mm → Option (Int32 × Mm)) (x0 : Nat) (x1 : Nat) (x2 : Nat) (x3 : Int32) (σ : Mm) : Option (Int32 × Mm) := if inbB (x3 + (1 : Int32)) X.1 = true then (f_Ct_beside σ x1 (X.2 (ix (x3 + (1 : Int32))))).bind fun v1417 => if inbB (x3 + (1 : Int32)) X.1 = true then (f_Mo_beside σ x2 (X.2 (ix (x3 + (1 : Int32))))).bind fun v1426 => (if v1417 = v1426 then (f_Lw_law_2077 X k18 x0 x1 x2 x3 σ) else (some ((0 : Int32), σ))) else none else none
set_option maxRecDepth 100000 in
set_option maxHeartbeats 4000000 in
theorem t_Lw_law_1411 {X : Xt} {S : Sh} (hS : ShOK S) {d : Nat} (hd : 63 ≤ d + 1) {k18 : Nat → Nat → Nat → Int32 → Mm → Option (Int32 × Mm)} (hk18 : ∀ (x0 : Nat) (x1 : Nat) (x2 : Nat) (x3 : Int32) (σ : Mm) (h_x0 : x0 = 1000009) (h_x1 : tgT x1 = 11) (h_x2 : tgT x2 = 12), Rf X S emM (k18 x0 x1 x2 x3 σ) (d + 1) 325 18 [.ref x0, .ref x1, .ref x2, .int x3] [] σ) (x0 : Nat) (x1 : Nat) (x2 : Nat) (x3 : Int32) (σ : Mm) (h_x0 : x0 = 1000009) (h_x1 : tgT x1 = 11) (h_x2 : tgT x2 = 12) : Rf X S emM (f_Lw_law_1411 X k18 x0 x1 x2 x3 σ) (d + 1) 325 1411 [.ref x0, .ref x1, .ref x2, .int x3] [] σ := by
  unfold f_Lw_law_1411
  refine rf_ald (i := 1) (Or.inr ⟨1, rfl, rfl, rfl⟩) c_325_1411 rfl ?_
  refine rf_ald (i := 0) (Or.inr ⟨0, rfl, rfl, rfl⟩) c_325_1412 rfl ?_
  refine rf_ild (i := 3) (Or.inr ⟨3, rfl, rfl, rfl⟩) c_325_1413 rfl ?_
  refine rf_iconst c_325_1414 ki_1 ?_
  refine rf_iadd c_325_1415 ?_
  refine rf_ite (fun hb1416 => ?_) (fun _ => rf_none)
  refine rf_xald2 h_x0 c_325_1416 hb1416 ?_
  refine rf_callI (as := [.ref x1, .int (X.2 (ix (x3 + (1 : Int32))))]) (kd := 1) c_325_1417 rfl (by decide) rfl ml_13_159 (by decide) rfl (rcv_1 hS rfl rfl h_x1 (by decide)) (Nat.zero_le _) rfl rfl (t_Ct_beside hS (by omega) σ x1 (X.2 (ix (x3 + (1 : Int32)))) h_x1) (fun v1417 => ?_)
  refine rf_ald (i := 2) (Or.inr ⟨2, rfl, rfl, rfl⟩) c_325_1420 rfl ?_
  refine rf_ald (i := 0) (Or.inr ⟨0, rfl, rfl, rfl⟩) c_325_1421 rfl ?_
  refine rf_ild (i := 3) (Or.inr ⟨3, rfl, rfl, rfl⟩) c_325_1422 rfl ?_
  refine rf_iconst c_325_1423 ki_1 ?_
  refine rf_iadd c_325_1424 ?_
  refine rf_ite (fun hb1425 => ?_) (fun _ => rf_none)
  refine rf_xald2 h_x0 c_325_1425 hb1425 ?_
  refine rf_callI (as := [.ref x2, .int (X.2 (ix (x3 + (1 : Int32))))]) (kd := 1) c_325_1426 rfl (by decide) rfl ml_13_162 (by decide) rfl (rcv_1 hS rfl rfl h_x2 (by decide)) (by simp [Value.category]) rfl rfl (t_Mo_beside hS (by omega) σ x2 (X.2 (ix (x3 + (1 : Int32)))) h_x2) (fun v1426 => ?_)
  refine rf_ite (fun hc1429 => ?_) (fun hc1429 => ?_)
  · refine rf_b2t c_325_1429 rfl (decide_eq_true hc1429) ?_
    exact t_Lw_law_2077 hS hd hk18 x0 x1 x2 x3 σ h_x0 h_x1 h_x2
  · refine rf_b2f c_325_1429 rfl (decide_eq_false hc1429) ?_
    refine rf_iconst c_325_1432 ki_0 ?_
    exact rf_ret c_325_1433 rfl (by decide) rfl rfl
def f_Lw_law_1434 (X : Xt) (k18 : Nat → Nat → Nat → Int32 → Mm → Option (Int32 × Mm)) (x0 : Nat) (x1 : Nat) (x2 : Nat) (x3 : Int32) (σ : Mm) : Option (Int32 × Mm) := if inbB (x3 + (1 : Int32)) X.1 = true then if inbB (x3 + (2 : Int32)) X.1 = true then if inbB (x3 + (3 : Int32)) X.1 = true then (f_Ct_copy x1 (X.2 (ix (x3 + (1 : Int32)))) (X.2 (ix (x3 + (2 : Int32)))) (X.2 (ix (x3 + (3 : Int32)))) σ).bind fun v1450 => if inbB (x3 + (1 : Int32)) X.1 = true then if inbB (x3 + (2 : Int32)) X.1 = true then if inbB (x3 + (3 : Int32)) X.1 = true then (f_Mo_copy x2 (X.2 (ix (x3 + (1 : Int32)))) (X.2 (ix (x3 + (2 : Int32)))) (X.2 (ix (x3 + (3 : Int32)))) v1450.2).bind fun v1469 => (if v1450.1 = v1469.1 then (f_Lw_law_2077 X k18 x0 x1 x2 x3 v1469.2) else (some ((0 : Int32), v1469.2))) else none else none else none else none else none else none
set_option maxRecDepth 100000 in
set_option maxHeartbeats 4000000 in
theorem t_Lw_law_1434 {X : Xt} {S : Sh} (hS : ShOK S) {d : Nat} (hd : 63 ≤ d + 1) {k18 : Nat → Nat → Nat → Int32 → Mm → Option (Int32 × Mm)} (hk18 : ∀ (x0 : Nat) (x1 : Nat) (x2 : Nat) (x3 : Int32) (σ : Mm) (h_x0 : x0 = 1000009) (h_x1 : tgT x1 = 11) (h_x2 : tgT x2 = 12), Rf X S emM (k18 x0 x1 x2 x3 σ) (d + 1) 325 18 [.ref x0, .ref x1, .ref x2, .int x3] [] σ) (x0 : Nat) (x1 : Nat) (x2 : Nat) (x3 : Int32) (σ : Mm) (h_x0 : x0 = 1000009) (h_x1 : tgT x1 = 11) (h_x2 : tgT x2 = 12) : Rf X S emM (f_Lw_law_1434 X k18 x0 x1 x2 x3 σ) (d + 1) 325 1434 [.ref x0, .ref x1, .ref x2, .int x3] [] σ := by
  unfold f_Lw_law_1434
  refine rf_ald (i := 1) (Or.inr ⟨1, rfl, rfl, rfl⟩) c_325_1434 rfl ?_
  refine rf_ald (i := 0) (Or.inr ⟨0, rfl, rfl, rfl⟩) c_325_1435 rfl ?_
  refine rf_ild (i := 3) (Or.inr ⟨3, rfl, rfl, rfl⟩) c_325_1436 rfl ?_
  refine rf_iconst c_325_1437 ki_1 ?_
  refine rf_iadd c_325_1438 ?_
  refine rf_ite (fun hb1439 => ?_) (fun _ => rf_none)
  refine rf_xald2 h_x0 c_325_1439 hb1439 ?_
  refine rf_ald (i := 0) (Or.inr ⟨0, rfl, rfl, rfl⟩) c_325_1440 rfl ?_
  refine rf_ild (i := 3) (Or.inr ⟨3, rfl, rfl, rfl⟩) c_325_1441 rfl ?_
  refine rf_iconst c_325_1442 ki_2 ?_
  refine rf_iadd c_325_1443 ?_
  refine rf_ite (fun hb1444 => ?_) (fun _ => rf_none)
  refine rf_xald2 h_x0 c_325_1444 hb1444 ?_
  refine rf_ald (i := 0) (Or.inr ⟨0, rfl, rfl, rfl⟩) c_325_1445 rfl ?_
  refine rf_ild (i := 3) (Or.inr ⟨3, rfl, rfl, rfl⟩) c_325_1446 rfl ?_
  refine rf_iconst c_325_1447 ki_3 ?_
  refine rf_iadd c_325_1448 ?_
  refine rf_ite (fun hb1449 => ?_) (fun _ => rf_none)
  refine rf_xald2 h_x0 c_325_1449 hb1449 ?_
  refine rf_callM (as := [.ref x1, .int (X.2 (ix (x3 + (1 : Int32)))), .int (X.2 (ix (x3 + (2 : Int32)))), .int (X.2 (ix (x3 + (3 : Int32))))]) (kd := 1) c_325_1450 rfl (by decide) rfl ml_13_163 (by decide) rfl (rcv_1 hS rfl rfl h_x1 (by decide)) (Nat.zero_le _) rfl rfl (t_Ct_copy hS (by omega) x1 (X.2 (ix (x3 + (1 : Int32)))) (X.2 (ix (x3 + (2 : Int32)))) (X.2 (ix (x3 + (3 : Int32)))) σ h_x1) (fun v1450 => ?_)
  refine rf_ald (i := 2) (Or.inr ⟨2, rfl, rfl, rfl⟩) c_325_1453 rfl ?_
  refine rf_ald (i := 0) (Or.inr ⟨0, rfl, rfl, rfl⟩) c_325_1454 rfl ?_
  refine rf_ild (i := 3) (Or.inr ⟨3, rfl, rfl, rfl⟩) c_325_1455 rfl ?_
  refine rf_iconst c_325_1456 ki_1 ?_
  refine rf_iadd c_325_1457 ?_
  refine rf_ite (fun hb1458 => ?_) (fun _ => rf_none)
  refine rf_xald2 h_x0 c_325_1458 hb1458 ?_
  refine rf_ald (i := 0) (Or.inr ⟨0, rfl, rfl, rfl⟩) c_325_1459 rfl ?_
  refine rf_ild (i := 3) (Or.inr ⟨3, rfl, rfl, rfl⟩) c_325_1460 rfl ?_
  refine rf_iconst c_325_1461 ki_2 ?_
  refine rf_iadd c_325_1462 ?_
  refine rf_ite (fun hb1463 => ?_) (fun _ => rf_none)
  refine rf_xald2 h_x0 c_325_1463 hb1463 ?_
  refine rf_ald (i := 0) (Or.inr ⟨0, rfl, rfl, rfl⟩) c_325_1464 rfl ?_
  refine rf_ild (i := 3) (Or.inr ⟨3, rfl, rfl, rfl⟩) c_325_1465 rfl ?_
  refine rf_iconst c_325_1466 ki_3 ?_
  refine rf_iadd c_325_1467 ?_
  refine rf_ite (fun hb1468 => ?_) (fun _ => rf_none)
  refine rf_xald2 h_x0 c_325_1468 hb1468 ?_
  refine rf_callM (as := [.ref x2, .int (X.2 (ix (x3 + (1 : Int32)))), .int (X.2 (ix (x3 + (2 : Int32)))), .int (X.2 (ix (x3 + (3 : Int32))))]) (kd := 1) c_325_1469 rfl (by decide) rfl ml_13_166 (by decide) rfl (rcv_1 hS rfl rfl h_x2 (by decide)) (by simp [Value.category]) rfl rfl (t_Mo_copy hS (by omega) x2 (X.2 (ix (x3 + (1 : Int32)))) (X.2 (ix (x3 + (2 : Int32)))) (X.2 (ix (x3 + (3 : Int32)))) v1450.2 h_x2) (fun v1469 => ?_)
  refine rf_ite (fun hc1472 => ?_) (fun hc1472 => ?_)
  · refine rf_b2t c_325_1472 rfl (decide_eq_true hc1472) ?_
    exact t_Lw_law_2077 hS hd hk18 x0 x1 x2 x3 v1469.2 h_x0 h_x1 h_x2
  · refine rf_b2f c_325_1472 rfl (decide_eq_false hc1472) ?_
    refine rf_iconst c_325_1475 ki_0 ?_
    exact rf_ret c_325_1476 rfl (by decide) rfl rfl
def f_Lw_law_1477 (X : Xt) (k18 : Nat → Nat → Nat → Int32 → Mm → Option (Int32 × Mm)) (x0 : Nat) (x1 : Nat) (x2 : Nat) (x3 : Int32) (σ : Mm) : Option (Int32 × Mm) := if inbB (x3 + (1 : Int32)) X.1 = true then (f_Ct_comesBack x1 (X.2 (ix (x3 + (1 : Int32)))) σ).bind fun v1483 => if inbB (x3 + (1 : Int32)) X.1 = true then (f_Mo_comesBack x2 (X.2 (ix (x3 + (1 : Int32)))) v1483.2).bind fun v1492 => (if v1483.1 = v1492.1 then (f_Lw_law_2077 X k18 x0 x1 x2 x3 v1492.2) else (some ((0 : Int32), v1492.2))) else none else none
set_option maxRecDepth 100000 in
set_option maxHeartbeats 4000000 in
theorem t_Lw_law_1477 {X : Xt} {S : Sh} (hS : ShOK S) {d : Nat} (hd : 63 ≤ d + 1) {k18 : Nat → Nat → Nat → Int32 → Mm → Option (Int32 × Mm)} (hk18 : ∀ (x0 : Nat) (x1 : Nat) (x2 : Nat) (x3 : Int32) (σ : Mm) (h_x0 : x0 = 1000009) (h_x1 : tgT x1 = 11) (h_x2 : tgT x2 = 12), Rf X S emM (k18 x0 x1 x2 x3 σ) (d + 1) 325 18 [.ref x0, .ref x1, .ref x2, .int x3] [] σ) (x0 : Nat) (x1 : Nat) (x2 : Nat) (x3 : Int32) (σ : Mm) (h_x0 : x0 = 1000009) (h_x1 : tgT x1 = 11) (h_x2 : tgT x2 = 12) : Rf X S emM (f_Lw_law_1477 X k18 x0 x1 x2 x3 σ) (d + 1) 325 1477 [.ref x0, .ref x1, .ref x2, .int x3] [] σ := by
  unfold f_Lw_law_1477
  refine rf_ald (i := 1) (Or.inr ⟨1, rfl, rfl, rfl⟩) c_325_1477 rfl ?_
  refine rf_ald (i := 0) (Or.inr ⟨0, rfl, rfl, rfl⟩) c_325_1478 rfl ?_
  refine rf_ild (i := 3) (Or.inr ⟨3, rfl, rfl, rfl⟩) c_325_1479 rfl ?_
  refine rf_iconst c_325_1480 ki_1 ?_
  refine rf_iadd c_325_1481 ?_
  refine rf_ite (fun hb1482 => ?_) (fun _ => rf_none)
  refine rf_xald2 h_x0 c_325_1482 hb1482 ?_
  refine rf_callM (as := [.ref x1, .int (X.2 (ix (x3 + (1 : Int32))))]) (kd := 1) c_325_1483 rfl (by decide) rfl ml_13_167 (by decide) rfl (rcv_1 hS rfl rfl h_x1 (by decide)) (Nat.zero_le _) rfl rfl (t_Ct_comesBack hS (by omega) x1 (X.2 (ix (x3 + (1 : Int32)))) σ h_x1) (fun v1483 => ?_)
  refine rf_ald (i := 2) (Or.inr ⟨2, rfl, rfl, rfl⟩) c_325_1486 rfl ?_
  refine rf_ald (i := 0) (Or.inr ⟨0, rfl, rfl, rfl⟩) c_325_1487 rfl ?_
  refine rf_ild (i := 3) (Or.inr ⟨3, rfl, rfl, rfl⟩) c_325_1488 rfl ?_
  refine rf_iconst c_325_1489 ki_1 ?_
  refine rf_iadd c_325_1490 ?_
  refine rf_ite (fun hb1491 => ?_) (fun _ => rf_none)
  refine rf_xald2 h_x0 c_325_1491 hb1491 ?_
  refine rf_callM (as := [.ref x2, .int (X.2 (ix (x3 + (1 : Int32))))]) (kd := 1) c_325_1492 rfl (by decide) rfl ml_13_170 (by decide) rfl (rcv_1 hS rfl rfl h_x2 (by decide)) (by simp [Value.category]) rfl rfl (t_Mo_comesBack hS (by omega) x2 (X.2 (ix (x3 + (1 : Int32)))) v1483.2 h_x2) (fun v1492 => ?_)
  refine rf_ite (fun hc1495 => ?_) (fun hc1495 => ?_)
  · refine rf_b2t c_325_1495 rfl (decide_eq_true hc1495) ?_
    exact t_Lw_law_2077 hS hd hk18 x0 x1 x2 x3 v1492.2 h_x0 h_x1 h_x2
  · refine rf_b2f c_325_1495 rfl (decide_eq_false hc1495) ?_
    refine rf_iconst c_325_1498 ki_0 ?_
    exact rf_ret c_325_1499 rfl (by decide) rfl rfl
def f_Lw_law_1500 (X : Xt) (k18 : Nat → Nat → Nat → Int32 → Mm → Option (Int32 × Mm)) (x0 : Nat) (x1 : Nat) (x2 : Nat) (x3 : Int32) (σ : Mm) : Option (Int32 × Mm) := if inbB (x3 + (1 : Int32)) X.1 = true then (f_Ct_out σ x1 (X.2 (ix (x3 + (1 : Int32))))).bind fun v1506 => if inbB (x3 + (1 : Int32)) X.1 = true then (f_Mo_out σ x2 (X.2 (ix (x3 + (1 : Int32))))).bind fun v1515 => (if v1506 = v1515 then (f_Lw_law_2077 X k18 x0 x1 x2 x3 σ) else (some ((0 : Int32), σ))) else none else none
set_option maxRecDepth 100000 in
set_option maxHeartbeats 4000000 in
theorem t_Lw_law_1500 {X : Xt} {S : Sh} (hS : ShOK S) {d : Nat} (hd : 63 ≤ d + 1) {k18 : Nat → Nat → Nat → Int32 → Mm → Option (Int32 × Mm)} (hk18 : ∀ (x0 : Nat) (x1 : Nat) (x2 : Nat) (x3 : Int32) (σ : Mm) (h_x0 : x0 = 1000009) (h_x1 : tgT x1 = 11) (h_x2 : tgT x2 = 12), Rf X S emM (k18 x0 x1 x2 x3 σ) (d + 1) 325 18 [.ref x0, .ref x1, .ref x2, .int x3] [] σ) (x0 : Nat) (x1 : Nat) (x2 : Nat) (x3 : Int32) (σ : Mm) (h_x0 : x0 = 1000009) (h_x1 : tgT x1 = 11) (h_x2 : tgT x2 = 12) : Rf X S emM (f_Lw_law_1500 X k18 x0 x1 x2 x3 σ) (d + 1) 325 1500 [.ref x0, .ref x1, .ref x2, .int x3] [] σ := by
  unfold f_Lw_law_1500
  refine rf_ald (i := 1) (Or.inr ⟨1, rfl, rfl, rfl⟩) c_325_1500 rfl ?_
  refine rf_ald (i := 0) (Or.inr ⟨0, rfl, rfl, rfl⟩) c_325_1501 rfl ?_
  refine rf_ild (i := 3) (Or.inr ⟨3, rfl, rfl, rfl⟩) c_325_1502 rfl ?_
  refine rf_iconst c_325_1503 ki_1 ?_
  refine rf_iadd c_325_1504 ?_
  refine rf_ite (fun hb1505 => ?_) (fun _ => rf_none)
  refine rf_xald2 h_x0 c_325_1505 hb1505 ?_
  refine rf_callI (as := [.ref x1, .int (X.2 (ix (x3 + (1 : Int32))))]) (kd := 1) c_325_1506 rfl (by decide) rfl ml_13_171 (by decide) rfl (rcv_1 hS rfl rfl h_x1 (by decide)) (Nat.zero_le _) rfl rfl (t_Ct_out hS (by omega) σ x1 (X.2 (ix (x3 + (1 : Int32)))) h_x1) (fun v1506 => ?_)
  refine rf_ald (i := 2) (Or.inr ⟨2, rfl, rfl, rfl⟩) c_325_1509 rfl ?_
  refine rf_ald (i := 0) (Or.inr ⟨0, rfl, rfl, rfl⟩) c_325_1510 rfl ?_
  refine rf_ild (i := 3) (Or.inr ⟨3, rfl, rfl, rfl⟩) c_325_1511 rfl ?_
  refine rf_iconst c_325_1512 ki_1 ?_
  refine rf_iadd c_325_1513 ?_
  refine rf_ite (fun hb1514 => ?_) (fun _ => rf_none)
  refine rf_xald2 h_x0 c_325_1514 hb1514 ?_
  refine rf_callI (as := [.ref x2, .int (X.2 (ix (x3 + (1 : Int32))))]) (kd := 1) c_325_1515 rfl (by decide) rfl ml_13_174 (by decide) rfl (rcv_1 hS rfl rfl h_x2 (by decide)) (by simp [Value.category]) rfl rfl (t_Mo_out hS (by omega) σ x2 (X.2 (ix (x3 + (1 : Int32)))) h_x2) (fun v1515 => ?_)
  refine rf_ite (fun hc1518 => ?_) (fun hc1518 => ?_)
  · refine rf_b2t c_325_1518 rfl (decide_eq_true hc1518) ?_
    exact t_Lw_law_2077 hS hd hk18 x0 x1 x2 x3 σ h_x0 h_x1 h_x2
  · refine rf_b2f c_325_1518 rfl (decide_eq_false hc1518) ?_
    refine rf_iconst c_325_1521 ki_0 ?_
    exact rf_ret c_325_1522 rfl (by decide) rfl rfl
def f_Lw_law_1523 (X : Xt) (k18 : Nat → Nat → Nat → Int32 → Mm → Option (Int32 × Mm)) (x0 : Nat) (x1 : Nat) (x2 : Nat) (x3 : Int32) (σ : Mm) : Option (Int32 × Mm) := if inbB (x3 + (1 : Int32)) X.1 = true then if inbB (x3 + (2 : Int32)) X.1 = true then if inbB (x3 + (3 : Int32)) X.1 = true then (f_Ct_suspect σ x1 (X.2 (ix (x3 + (1 : Int32)))) (X.2 (ix (x3 + (2 : Int32)))) (X.2 (ix (x3 + (3 : Int32))))).bind fun v1539 => if inbB (x3 + (1 : Int32)) X.1 = true then if inbB (x3 + (2 : Int32)) X.1 = true then if inbB (x3 + (3 : Int32)) X.1 = true then (f_Mo_suspect σ x2 (X.2 (ix (x3 + (1 : Int32)))) (X.2 (ix (x3 + (2 : Int32)))) (X.2 (ix (x3 + (3 : Int32))))).bind fun v1558 => (if v1539 = v1558 then (f_Lw_law_2077 X k18 x0 x1 x2 x3 σ) else (some ((0 : Int32), σ))) else none else none else none else none else none else none
set_option maxRecDepth 100000 in
set_option maxHeartbeats 4000000 in
theorem t_Lw_law_1523 {X : Xt} {S : Sh} (hS : ShOK S) {d : Nat} (hd : 63 ≤ d + 1) {k18 : Nat → Nat → Nat → Int32 → Mm → Option (Int32 × Mm)} (hk18 : ∀ (x0 : Nat) (x1 : Nat) (x2 : Nat) (x3 : Int32) (σ : Mm) (h_x0 : x0 = 1000009) (h_x1 : tgT x1 = 11) (h_x2 : tgT x2 = 12), Rf X S emM (k18 x0 x1 x2 x3 σ) (d + 1) 325 18 [.ref x0, .ref x1, .ref x2, .int x3] [] σ) (x0 : Nat) (x1 : Nat) (x2 : Nat) (x3 : Int32) (σ : Mm) (h_x0 : x0 = 1000009) (h_x1 : tgT x1 = 11) (h_x2 : tgT x2 = 12) : Rf X S emM (f_Lw_law_1523 X k18 x0 x1 x2 x3 σ) (d + 1) 325 1523 [.ref x0, .ref x1, .ref x2, .int x3] [] σ := by
  unfold f_Lw_law_1523
  refine rf_ald (i := 1) (Or.inr ⟨1, rfl, rfl, rfl⟩) c_325_1523 rfl ?_
  refine rf_ald (i := 0) (Or.inr ⟨0, rfl, rfl, rfl⟩) c_325_1524 rfl ?_
  refine rf_ild (i := 3) (Or.inr ⟨3, rfl, rfl, rfl⟩) c_325_1525 rfl ?_
  refine rf_iconst c_325_1526 ki_1 ?_
  refine rf_iadd c_325_1527 ?_
  refine rf_ite (fun hb1528 => ?_) (fun _ => rf_none)
  refine rf_xald2 h_x0 c_325_1528 hb1528 ?_
  refine rf_ald (i := 0) (Or.inr ⟨0, rfl, rfl, rfl⟩) c_325_1529 rfl ?_
  refine rf_ild (i := 3) (Or.inr ⟨3, rfl, rfl, rfl⟩) c_325_1530 rfl ?_
  refine rf_iconst c_325_1531 ki_2 ?_
  refine rf_iadd c_325_1532 ?_
  refine rf_ite (fun hb1533 => ?_) (fun _ => rf_none)
  refine rf_xald2 h_x0 c_325_1533 hb1533 ?_
  refine rf_ald (i := 0) (Or.inr ⟨0, rfl, rfl, rfl⟩) c_325_1534 rfl ?_
  refine rf_ild (i := 3) (Or.inr ⟨3, rfl, rfl, rfl⟩) c_325_1535 rfl ?_
  refine rf_iconst c_325_1536 ki_3 ?_
  refine rf_iadd c_325_1537 ?_
  refine rf_ite (fun hb1538 => ?_) (fun _ => rf_none)
  refine rf_xald2 h_x0 c_325_1538 hb1538 ?_
  refine rf_callI (as := [.ref x1, .int (X.2 (ix (x3 + (1 : Int32)))), .int (X.2 (ix (x3 + (2 : Int32)))), .int (X.2 (ix (x3 + (3 : Int32))))]) (kd := 1) c_325_1539 rfl (by decide) rfl ml_13_175 (by decide) rfl (rcv_1 hS rfl rfl h_x1 (by decide)) (Nat.zero_le _) rfl rfl (t_Ct_suspect hS (by omega) σ x1 (X.2 (ix (x3 + (1 : Int32)))) (X.2 (ix (x3 + (2 : Int32)))) (X.2 (ix (x3 + (3 : Int32)))) h_x1) (fun v1539 => ?_)
  refine rf_ald (i := 2) (Or.inr ⟨2, rfl, rfl, rfl⟩) c_325_1542 rfl ?_
  refine rf_ald (i := 0) (Or.inr ⟨0, rfl, rfl, rfl⟩) c_325_1543 rfl ?_
  refine rf_ild (i := 3) (Or.inr ⟨3, rfl, rfl, rfl⟩) c_325_1544 rfl ?_
  refine rf_iconst c_325_1545 ki_1 ?_
  refine rf_iadd c_325_1546 ?_
  refine rf_ite (fun hb1547 => ?_) (fun _ => rf_none)
  refine rf_xald2 h_x0 c_325_1547 hb1547 ?_
  refine rf_ald (i := 0) (Or.inr ⟨0, rfl, rfl, rfl⟩) c_325_1548 rfl ?_
  refine rf_ild (i := 3) (Or.inr ⟨3, rfl, rfl, rfl⟩) c_325_1549 rfl ?_
  refine rf_iconst c_325_1550 ki_2 ?_
  refine rf_iadd c_325_1551 ?_
  refine rf_ite (fun hb1552 => ?_) (fun _ => rf_none)
  refine rf_xald2 h_x0 c_325_1552 hb1552 ?_
  refine rf_ald (i := 0) (Or.inr ⟨0, rfl, rfl, rfl⟩) c_325_1553 rfl ?_
  refine rf_ild (i := 3) (Or.inr ⟨3, rfl, rfl, rfl⟩) c_325_1554 rfl ?_
  refine rf_iconst c_325_1555 ki_3 ?_
  refine rf_iadd c_325_1556 ?_
  refine rf_ite (fun hb1557 => ?_) (fun _ => rf_none)
  refine rf_xald2 h_x0 c_325_1557 hb1557 ?_
  refine rf_callI (as := [.ref x2, .int (X.2 (ix (x3 + (1 : Int32)))), .int (X.2 (ix (x3 + (2 : Int32)))), .int (X.2 (ix (x3 + (3 : Int32))))]) (kd := 1) c_325_1558 rfl (by decide) rfl ml_13_178 (by decide) rfl (rcv_1 hS rfl rfl h_x2 (by decide)) (by simp [Value.category]) rfl rfl (t_Mo_suspect hS (by omega) σ x2 (X.2 (ix (x3 + (1 : Int32)))) (X.2 (ix (x3 + (2 : Int32)))) (X.2 (ix (x3 + (3 : Int32)))) h_x2) (fun v1558 => ?_)
  refine rf_ite (fun hc1561 => ?_) (fun hc1561 => ?_)
  · refine rf_b2t c_325_1561 rfl (decide_eq_true hc1561) ?_
    exact t_Lw_law_2077 hS hd hk18 x0 x1 x2 x3 σ h_x0 h_x1 h_x2
  · refine rf_b2f c_325_1561 rfl (decide_eq_false hc1561) ?_
    refine rf_iconst c_325_1564 ki_0 ?_
    exact rf_ret c_325_1565 rfl (by decide) rfl rfl
def f_Lw_law_1566 (X : Xt) (k18 : Nat → Nat → Nat → Int32 → Mm → Option (Int32 × Mm)) (x0 : Nat) (x1 : Nat) (x2 : Nat) (x3 : Int32) (σ : Mm) : Option (Int32 × Mm) := if inbB (x3 + (1 : Int32)) X.1 = true then if inbB (x3 + (2 : Int32)) X.1 = true then if inbB (x3 + (3 : Int32)) X.1 = true then (f_Ct_look σ x1 (X.2 (ix (x3 + (1 : Int32)))) (X.2 (ix (x3 + (2 : Int32)))) (X.2 (ix (x3 + (3 : Int32))))).bind fun v1582 => if inbB (x3 + (1 : Int32)) X.1 = true then if inbB (x3 + (2 : Int32)) X.1 = true then if inbB (x3 + (3 : Int32)) X.1 = true then (f_Mo_look σ x2 (X.2 (ix (x3 + (1 : Int32)))) (X.2 (ix (x3 + (2 : Int32)))) (X.2 (ix (x3 + (3 : Int32))))).bind fun v1601 => (if v1582 = v1601 then (f_Lw_law_2077 X k18 x0 x1 x2 x3 σ) else (some ((0 : Int32), σ))) else none else none else none else none else none else none
set_option maxRecDepth 100000 in
set_option maxHeartbeats 4000000 in
theorem t_Lw_law_1566 {X : Xt} {S : Sh} (hS : ShOK S) {d : Nat} (hd : 63 ≤ d + 1) {k18 : Nat → Nat → Nat → Int32 → Mm → Option (Int32 × Mm)} (hk18 : ∀ (x0 : Nat) (x1 : Nat) (x2 : Nat) (x3 : Int32) (σ : Mm) (h_x0 : x0 = 1000009) (h_x1 : tgT x1 = 11) (h_x2 : tgT x2 = 12), Rf X S emM (k18 x0 x1 x2 x3 σ) (d + 1) 325 18 [.ref x0, .ref x1, .ref x2, .int x3] [] σ) (x0 : Nat) (x1 : Nat) (x2 : Nat) (x3 : Int32) (σ : Mm) (h_x0 : x0 = 1000009) (h_x1 : tgT x1 = 11) (h_x2 : tgT x2 = 12) : Rf X S emM (f_Lw_law_1566 X k18 x0 x1 x2 x3 σ) (d + 1) 325 1566 [.ref x0, .ref x1, .ref x2, .int x3] [] σ := by
  unfold f_Lw_law_1566
  refine rf_ald (i := 1) (Or.inr ⟨1, rfl, rfl, rfl⟩) c_325_1566 rfl ?_
  refine rf_ald (i := 0) (Or.inr ⟨0, rfl, rfl, rfl⟩) c_325_1567 rfl ?_
  refine rf_ild (i := 3) (Or.inr ⟨3, rfl, rfl, rfl⟩) c_325_1568 rfl ?_
  refine rf_iconst c_325_1569 ki_1 ?_
  refine rf_iadd c_325_1570 ?_
  refine rf_ite (fun hb1571 => ?_) (fun _ => rf_none)
  refine rf_xald2 h_x0 c_325_1571 hb1571 ?_
  refine rf_ald (i := 0) (Or.inr ⟨0, rfl, rfl, rfl⟩) c_325_1572 rfl ?_
  refine rf_ild (i := 3) (Or.inr ⟨3, rfl, rfl, rfl⟩) c_325_1573 rfl ?_
  refine rf_iconst c_325_1574 ki_2 ?_
  refine rf_iadd c_325_1575 ?_
  refine rf_ite (fun hb1576 => ?_) (fun _ => rf_none)
  refine rf_xald2 h_x0 c_325_1576 hb1576 ?_
  refine rf_ald (i := 0) (Or.inr ⟨0, rfl, rfl, rfl⟩) c_325_1577 rfl ?_
  refine rf_ild (i := 3) (Or.inr ⟨3, rfl, rfl, rfl⟩) c_325_1578 rfl ?_
  refine rf_iconst c_325_1579 ki_3 ?_
  refine rf_iadd c_325_1580 ?_
  refine rf_ite (fun hb1581 => ?_) (fun _ => rf_none)
  refine rf_xald2 h_x0 c_325_1581 hb1581 ?_
  refine rf_callI (as := [.ref x1, .int (X.2 (ix (x3 + (1 : Int32)))), .int (X.2 (ix (x3 + (2 : Int32)))), .int (X.2 (ix (x3 + (3 : Int32))))]) (kd := 1) c_325_1582 rfl (by decide) rfl ml_13_179 (by decide) rfl (rcv_1 hS rfl rfl h_x1 (by decide)) (Nat.zero_le _) rfl rfl (t_Ct_look hS (by omega) σ x1 (X.2 (ix (x3 + (1 : Int32)))) (X.2 (ix (x3 + (2 : Int32)))) (X.2 (ix (x3 + (3 : Int32)))) h_x1) (fun v1582 => ?_)
  refine rf_ald (i := 2) (Or.inr ⟨2, rfl, rfl, rfl⟩) c_325_1585 rfl ?_
  refine rf_ald (i := 0) (Or.inr ⟨0, rfl, rfl, rfl⟩) c_325_1586 rfl ?_
  refine rf_ild (i := 3) (Or.inr ⟨3, rfl, rfl, rfl⟩) c_325_1587 rfl ?_
  refine rf_iconst c_325_1588 ki_1 ?_
  refine rf_iadd c_325_1589 ?_
  refine rf_ite (fun hb1590 => ?_) (fun _ => rf_none)
  refine rf_xald2 h_x0 c_325_1590 hb1590 ?_
  refine rf_ald (i := 0) (Or.inr ⟨0, rfl, rfl, rfl⟩) c_325_1591 rfl ?_
  refine rf_ild (i := 3) (Or.inr ⟨3, rfl, rfl, rfl⟩) c_325_1592 rfl ?_
  refine rf_iconst c_325_1593 ki_2 ?_
  refine rf_iadd c_325_1594 ?_
  refine rf_ite (fun hb1595 => ?_) (fun _ => rf_none)
  refine rf_xald2 h_x0 c_325_1595 hb1595 ?_
  refine rf_ald (i := 0) (Or.inr ⟨0, rfl, rfl, rfl⟩) c_325_1596 rfl ?_
  refine rf_ild (i := 3) (Or.inr ⟨3, rfl, rfl, rfl⟩) c_325_1597 rfl ?_
  refine rf_iconst c_325_1598 ki_3 ?_
  refine rf_iadd c_325_1599 ?_
  refine rf_ite (fun hb1600 => ?_) (fun _ => rf_none)
  refine rf_xald2 h_x0 c_325_1600 hb1600 ?_
  refine rf_callI (as := [.ref x2, .int (X.2 (ix (x3 + (1 : Int32)))), .int (X.2 (ix (x3 + (2 : Int32)))), .int (X.2 (ix (x3 + (3 : Int32))))]) (kd := 1) c_325_1601 rfl (by decide) rfl ml_13_182 (by decide) rfl (rcv_1 hS rfl rfl h_x2 (by decide)) (by simp [Value.category]) rfl rfl (t_Mo_look hS (by omega) σ x2 (X.2 (ix (x3 + (1 : Int32)))) (X.2 (ix (x3 + (2 : Int32)))) (X.2 (ix (x3 + (3 : Int32)))) h_x2) (fun v1601 => ?_)
  refine rf_ite (fun hc1604 => ?_) (fun hc1604 => ?_)
  · refine rf_b2t c_325_1604 rfl (decide_eq_true hc1604) ?_
    exact t_Lw_law_2077 hS hd hk18 x0 x1 x2 x3 σ h_x0 h_x1 h_x2
  · refine rf_b2f c_325_1604 rfl (decide_eq_false hc1604) ?_
    refine rf_iconst c_325_1607 ki_0 ?_
    exact rf_ret c_325_1608 rfl (by decide) rfl rfl
def f_Lw_law_1609 (X : Xt) (k18 : Nat → Nat → Nat → Int32 → Mm → Option (Int32 × Mm)) (x0 : Nat) (x1 : Nat) (x2 : Nat) (x3 : Int32) (σ : Mm) : Option (Int32 × Mm) := if inbB (x3 + (1 : Int32)) X.1 = true then if inbB (x3 + (2 : Int32)) X.1 = true then (f_Ct_knows σ x1 (X.2 (ix (x3 + (1 : Int32)))) (X.2 (ix (x3 + (2 : Int32))))).bind fun v1620 => if inbB (x3 + (1 : Int32)) X.1 = true then if inbB (x3 + (2 : Int32)) X.1 = true then (f_Mo_knows σ x2 (X.2 (ix (x3 + (1 : Int32)))) (X.2 (ix (x3 + (2 : Int32))))).bind fun v1634 => (if v1620 = v1634 then (f_Lw_law_2077 X k18 x0 x1 x2 x3 σ) else (some ((0 : Int32), σ))) else none else none else none else none
set_option maxRecDepth 100000 in
set_option maxHeartbeats 4000000 in
theorem t_Lw_law_1609 {X : Xt} {S : Sh} (hS : ShOK S) {d : Nat} (hd : 63 ≤ d + 1) {k18 : Nat → Nat → Nat → Int32 → Mm → Option (Int32 × Mm)} (hk18 : ∀ (x0 : Nat) (x1 : Nat) (x2 : Nat) (x3 : Int32) (σ : Mm) (h_x0 : x0 = 1000009) (h_x1 : tgT x1 = 11) (h_x2 : tgT x2 = 12), Rf X S emM (k18 x0 x1 x2 x3 σ) (d + 1) 325 18 [.ref x0, .ref x1, .ref x2, .int x3] [] σ) (x0 : Nat) (x1 : Nat) (x2 : Nat) (x3 : Int32) (σ : Mm) (h_x0 : x0 = 1000009) (h_x1 : tgT x1 = 11) (h_x2 : tgT x2 = 12) : Rf X S emM (f_Lw_law_1609 X k18 x0 x1 x2 x3 σ) (d + 1) 325 1609 [.ref x0, .ref x1, .ref x2, .int x3] [] σ := by
  unfold f_Lw_law_1609
  refine rf_ald (i := 1) (Or.inr ⟨1, rfl, rfl, rfl⟩) c_325_1609 rfl ?_
  refine rf_ald (i := 0) (Or.inr ⟨0, rfl, rfl, rfl⟩) c_325_1610 rfl ?_
  refine rf_ild (i := 3) (Or.inr ⟨3, rfl, rfl, rfl⟩) c_325_1611 rfl ?_
  refine rf_iconst c_325_1612 ki_1 ?_
  refine rf_iadd c_325_1613 ?_
  refine rf_ite (fun hb1614 => ?_) (fun _ => rf_none)
  refine rf_xald2 h_x0 c_325_1614 hb1614 ?_
  refine rf_ald (i := 0) (Or.inr ⟨0, rfl, rfl, rfl⟩) c_325_1615 rfl ?_
  refine rf_ild (i := 3) (Or.inr ⟨3, rfl, rfl, rfl⟩) c_325_1616 rfl ?_
  refine rf_iconst c_325_1617 ki_2 ?_
  refine rf_iadd c_325_1618 ?_
  refine rf_ite (fun hb1619 => ?_) (fun _ => rf_none)
  refine rf_xald2 h_x0 c_325_1619 hb1619 ?_
  refine rf_callI (as := [.ref x1, .int (X.2 (ix (x3 + (1 : Int32)))), .int (X.2 (ix (x3 + (2 : Int32))))]) (kd := 1) c_325_1620 rfl (by decide) rfl ml_13_183 (by decide) rfl (rcv_1 hS rfl rfl h_x1 (by decide)) (Nat.zero_le _) rfl rfl (t_Ct_knows hS (by omega) σ x1 (X.2 (ix (x3 + (1 : Int32)))) (X.2 (ix (x3 + (2 : Int32)))) h_x1) (fun v1620 => ?_)
  refine rf_ald (i := 2) (Or.inr ⟨2, rfl, rfl, rfl⟩) c_325_1623 rfl ?_
  refine rf_ald (i := 0) (Or.inr ⟨0, rfl, rfl, rfl⟩) c_325_1624 rfl ?_
  refine rf_ild (i := 3) (Or.inr ⟨3, rfl, rfl, rfl⟩) c_325_1625 rfl ?_
  refine rf_iconst c_325_1626 ki_1 ?_
  refine rf_iadd c_325_1627 ?_
  refine rf_ite (fun hb1628 => ?_) (fun _ => rf_none)
  refine rf_xald2 h_x0 c_325_1628 hb1628 ?_
  refine rf_ald (i := 0) (Or.inr ⟨0, rfl, rfl, rfl⟩) c_325_1629 rfl ?_
  refine rf_ild (i := 3) (Or.inr ⟨3, rfl, rfl, rfl⟩) c_325_1630 rfl ?_
  refine rf_iconst c_325_1631 ki_2 ?_
  refine rf_iadd c_325_1632 ?_
  refine rf_ite (fun hb1633 => ?_) (fun _ => rf_none)
  refine rf_xald2 h_x0 c_325_1633 hb1633 ?_
  refine rf_callI (as := [.ref x2, .int (X.2 (ix (x3 + (1 : Int32)))), .int (X.2 (ix (x3 + (2 : Int32))))]) (kd := 1) c_325_1634 rfl (by decide) rfl ml_13_186 (by decide) rfl (rcv_1 hS rfl rfl h_x2 (by decide)) (by simp [Value.category]) rfl rfl (t_Mo_knows hS (by omega) σ x2 (X.2 (ix (x3 + (1 : Int32)))) (X.2 (ix (x3 + (2 : Int32)))) h_x2) (fun v1634 => ?_)
  refine rf_ite (fun hc1637 => ?_) (fun hc1637 => ?_)
  · refine rf_b2t c_325_1637 rfl (decide_eq_true hc1637) ?_
    exact t_Lw_law_2077 hS hd hk18 x0 x1 x2 x3 σ h_x0 h_x1 h_x2
  · refine rf_b2f c_325_1637 rfl (decide_eq_false hc1637) ?_
    refine rf_iconst c_325_1640 ki_0 ?_
    exact rf_ret c_325_1641 rfl (by decide) rfl rfl
def f_Lw_law_1642 (X : Xt) (k18 : Nat → Nat → Nat → Int32 → Mm → Option (Int32 × Mm)) (x0 : Nat) (x1 : Nat) (x2 : Nat) (x3 : Int32) (σ : Mm) : Option (Int32 × Mm) := (f_Ct_open σ x1).bind fun v1643 => (f_Mo_open x2 σ).bind fun v1647 => (if v1643 = v1647.1 then (f_Lw_law_2077 X k18 x0 x1 x2 x3 v1647.2) else (some ((0 : Int32), v1647.2)))
set_option maxRecDepth 100000 in
set_option maxHeartbeats 4000000 in
theorem t_Lw_law_1642 {X : Xt} {S : Sh} (hS : ShOK S) {d : Nat} (hd : 63 ≤ d + 1) {k18 : Nat → Nat → Nat → Int32 → Mm → Option (Int32 × Mm)} (hk18 : ∀ (x0 : Nat) (x1 : Nat) (x2 : Nat) (x3 : Int32) (σ : Mm) (h_x0 : x0 = 1000009) (h_x1 : tgT x1 = 11) (h_x2 : tgT x2 = 12), Rf X S emM (k18 x0 x1 x2 x3 σ) (d + 1) 325 18 [.ref x0, .ref x1, .ref x2, .int x3] [] σ) (x0 : Nat) (x1 : Nat) (x2 : Nat) (x3 : Int32) (σ : Mm) (h_x0 : x0 = 1000009) (h_x1 : tgT x1 = 11) (h_x2 : tgT x2 = 12) : Rf X S emM (f_Lw_law_1642 X k18 x0 x1 x2 x3 σ) (d + 1) 325 1642 [.ref x0, .ref x1, .ref x2, .int x3] [] σ := by
  unfold f_Lw_law_1642
  refine rf_ald (i := 1) (Or.inr ⟨1, rfl, rfl, rfl⟩) c_325_1642 rfl ?_
  refine rf_callI (as := [.ref x1]) (kd := 1) c_325_1643 rfl (by decide) rfl ml_13_187 (by decide) rfl (rcv_1 hS rfl rfl h_x1 (by decide)) (Nat.zero_le _) rfl rfl (t_Ct_open hS (by omega) σ x1 h_x1) (fun v1643 => ?_)
  refine rf_ald (i := 2) (Or.inr ⟨2, rfl, rfl, rfl⟩) c_325_1646 rfl ?_
  refine rf_callM (as := [.ref x2]) (kd := 1) c_325_1647 rfl (by decide) rfl ml_13_190 (by decide) rfl (rcv_1 hS rfl rfl h_x2 (by decide)) (by simp [Value.category]) rfl rfl (t_Mo_open hS (by omega) x2 σ h_x2) (fun v1647 => ?_)
  refine rf_ite (fun hc1650 => ?_) (fun hc1650 => ?_)
  · refine rf_b2t c_325_1650 rfl (decide_eq_true hc1650) ?_
    exact t_Lw_law_2077 hS hd hk18 x0 x1 x2 x3 v1647.2 h_x0 h_x1 h_x2
  · refine rf_b2f c_325_1650 rfl (decide_eq_false hc1650) ?_
    refine rf_iconst c_325_1653 ki_0 ?_
    exact rf_ret c_325_1654 rfl (by decide) rfl rfl
def f_Lw_law_1655 (X : Xt) (k18 : Nat → Nat → Nat → Int32 → Mm → Option (Int32 × Mm)) (x0 : Nat) (x1 : Nat) (x2 : Nat) (x3 : Int32) (σ : Mm) : Option (Int32 × Mm) := if inbB (x3 + (1 : Int32)) X.1 = true then (f_Ct_group x1 (X.2 (ix (x3 + (1 : Int32)))) σ).bind fun v1661 => if inbB (x3 + (1 : Int32)) X.1 = true then (f_Mo_group x2 (X.2 (ix (x3 + (1 : Int32)))) v1661.2).bind fun v1670 => (if v1661.1 = v1670.1 then (f_Lw_law_2077 X k18 x0 x1 x2 x3 v1670.2) else (some ((0 : Int32), v1670.2))) else none else none
set_option maxRecDepth 100000 in
set_option maxHeartbeats 4000000 in
theorem t_Lw_law_1655 {X : Xt} {S : Sh} (hS : ShOK S) {d : Nat} (hd : 63 ≤ d + 1) {k18 : Nat → Nat → Nat → Int32 → Mm → Option (Int32 × Mm)} (hk18 : ∀ (x0 : Nat) (x1 : Nat) (x2 : Nat) (x3 : Int32) (σ : Mm) (h_x0 : x0 = 1000009) (h_x1 : tgT x1 = 11) (h_x2 : tgT x2 = 12), Rf X S emM (k18 x0 x1 x2 x3 σ) (d + 1) 325 18 [.ref x0, .ref x1, .ref x2, .int x3] [] σ) (x0 : Nat) (x1 : Nat) (x2 : Nat) (x3 : Int32) (σ : Mm) (h_x0 : x0 = 1000009) (h_x1 : tgT x1 = 11) (h_x2 : tgT x2 = 12) : Rf X S emM (f_Lw_law_1655 X k18 x0 x1 x2 x3 σ) (d + 1) 325 1655 [.ref x0, .ref x1, .ref x2, .int x3] [] σ := by
  unfold f_Lw_law_1655
  refine rf_ald (i := 1) (Or.inr ⟨1, rfl, rfl, rfl⟩) c_325_1655 rfl ?_
  refine rf_ald (i := 0) (Or.inr ⟨0, rfl, rfl, rfl⟩) c_325_1656 rfl ?_
  refine rf_ild (i := 3) (Or.inr ⟨3, rfl, rfl, rfl⟩) c_325_1657 rfl ?_
  refine rf_iconst c_325_1658 ki_1 ?_
  refine rf_iadd c_325_1659 ?_
  refine rf_ite (fun hb1660 => ?_) (fun _ => rf_none)
  refine rf_xald2 h_x0 c_325_1660 hb1660 ?_
  refine rf_callM (as := [.ref x1, .int (X.2 (ix (x3 + (1 : Int32))))]) (kd := 1) c_325_1661 rfl (by decide) rfl ml_13_191 (by decide) rfl (rcv_1 hS rfl rfl h_x1 (by decide)) (Nat.zero_le _) rfl rfl (t_Ct_group hS (by omega) x1 (X.2 (ix (x3 + (1 : Int32)))) σ h_x1) (fun v1661 => ?_)
  refine rf_ald (i := 2) (Or.inr ⟨2, rfl, rfl, rfl⟩) c_325_1664 rfl ?_
  refine rf_ald (i := 0) (Or.inr ⟨0, rfl, rfl, rfl⟩) c_325_1665 rfl ?_
  refine rf_ild (i := 3) (Or.inr ⟨3, rfl, rfl, rfl⟩) c_325_1666 rfl ?_
  refine rf_iconst c_325_1667 ki_1 ?_
  refine rf_iadd c_325_1668 ?_
  refine rf_ite (fun hb1669 => ?_) (fun _ => rf_none)
  refine rf_xald2 h_x0 c_325_1669 hb1669 ?_
  refine rf_callM (as := [.ref x2, .int (X.2 (ix (x3 + (1 : Int32))))]) (kd := 1) c_325_1670 rfl (by decide) rfl ml_13_194 (by decide) rfl (rcv_1 hS rfl rfl h_x2 (by decide)) (by simp [Value.category]) rfl rfl (t_Mo_group hS (by omega) x2 (X.2 (ix (x3 + (1 : Int32)))) v1661.2 h_x2) (fun v1670 => ?_)
  refine rf_ite (fun hc1673 => ?_) (fun hc1673 => ?_)
  · refine rf_b2t c_325_1673 rfl (decide_eq_true hc1673) ?_
    exact t_Lw_law_2077 hS hd hk18 x0 x1 x2 x3 v1670.2 h_x0 h_x1 h_x2
  · refine rf_b2f c_325_1673 rfl (decide_eq_false hc1673) ?_
    refine rf_iconst c_325_1676 ki_0 ?_
    exact rf_ret c_325_1677 rfl (by decide) rfl rfl
def f_Lw_law_1678 (X : Xt) (k18 : Nat → Nat → Nat → Int32 → Mm → Option (Int32 × Mm)) (x0 : Nat) (x1 : Nat) (x2 : Nat) (x3 : Int32) (σ : Mm) : Option (Int32 × Mm) := (f_Ct_reckoned σ x1).bind fun v1679 => (f_Mo_reckoned x2 σ).bind fun v1683 => (if v1679 = v1683.1 then (f_Lw_law_2077 X k18 x0 x1 x2 x3 v1683.2) else (some ((0 : Int32), v1683.2)))
set_option maxRecDepth 100000 in
set_option maxHeartbeats 4000000 in
theorem t_Lw_law_1678 {X : Xt} {S : Sh} (hS : ShOK S) {d : Nat} (hd : 63 ≤ d + 1) {k18 : Nat → Nat → Nat → Int32 → Mm → Option (Int32 × Mm)} (hk18 : ∀ (x0 : Nat) (x1 : Nat) (x2 : Nat) (x3 : Int32) (σ : Mm) (h_x0 : x0 = 1000009) (h_x1 : tgT x1 = 11) (h_x2 : tgT x2 = 12), Rf X S emM (k18 x0 x1 x2 x3 σ) (d + 1) 325 18 [.ref x0, .ref x1, .ref x2, .int x3] [] σ) (x0 : Nat) (x1 : Nat) (x2 : Nat) (x3 : Int32) (σ : Mm) (h_x0 : x0 = 1000009) (h_x1 : tgT x1 = 11) (h_x2 : tgT x2 = 12) : Rf X S emM (f_Lw_law_1678 X k18 x0 x1 x2 x3 σ) (d + 1) 325 1678 [.ref x0, .ref x1, .ref x2, .int x3] [] σ := by
  unfold f_Lw_law_1678
  refine rf_ald (i := 1) (Or.inr ⟨1, rfl, rfl, rfl⟩) c_325_1678 rfl ?_
  refine rf_callI (as := [.ref x1]) (kd := 1) c_325_1679 rfl (by decide) rfl ml_13_195 (by decide) rfl (rcv_1 hS rfl rfl h_x1 (by decide)) (Nat.zero_le _) rfl rfl (t_Ct_reckoned hS (by omega) σ x1 h_x1) (fun v1679 => ?_)
  refine rf_ald (i := 2) (Or.inr ⟨2, rfl, rfl, rfl⟩) c_325_1682 rfl ?_
  refine rf_callM (as := [.ref x2]) (kd := 1) c_325_1683 rfl (by decide) rfl ml_13_198 (by decide) rfl (rcv_1 hS rfl rfl h_x2 (by decide)) (by simp [Value.category]) rfl rfl (t_Mo_reckoned hS (by omega) x2 σ h_x2) (fun v1683 => ?_)
  refine rf_ite (fun hc1686 => ?_) (fun hc1686 => ?_)
  · refine rf_b2t c_325_1686 rfl (decide_eq_true hc1686) ?_
    exact t_Lw_law_2077 hS hd hk18 x0 x1 x2 x3 v1683.2 h_x0 h_x1 h_x2
  · refine rf_b2f c_325_1686 rfl (decide_eq_false hc1686) ?_
    refine rf_iconst c_325_1689 ki_0 ?_
    exact rf_ret c_325_1690 rfl (by decide) rfl rfl
def f_Lw_law_1691 (X : Xt) (k18 : Nat → Nat → Nat → Int32 → Mm → Option (Int32 × Mm)) (x0 : Nat) (x1 : Nat) (x2 : Nat) (x3 : Int32) (σ : Mm) : Option (Int32 × Mm) := if inbB (x3 + (1 : Int32)) X.1 = true then if inbB (x3 + (2 : Int32)) X.1 = true then if inbB (x3 + (3 : Int32)) X.1 = true then (f_Ct_register x1 (X.2 (ix (x3 + (1 : Int32)))) (X.2 (ix (x3 + (2 : Int32)))) (X.2 (ix (x3 + (3 : Int32)))) σ).bind fun v1707 => if inbB (x3 + (1 : Int32)) X.1 = true then if inbB (x3 + (2 : Int32)) X.1 = true then if inbB (x3 + (3 : Int32)) X.1 = true then (f_Mo_register x2 (X.2 (ix (x3 + (1 : Int32)))) (X.2 (ix (x3 + (2 : Int32)))) (X.2 (ix (x3 + (3 : Int32)))) v1707.2).bind fun v1726 => (if v1707.1 = v1726.1 then (f_Lw_law_2077 X k18 x0 x1 x2 x3 v1726.2) else (some ((0 : Int32), v1726.2))) else none else none else none else none else none else none
set_option maxRecDepth 100000 in
set_option maxHeartbeats 4000000 in
theorem t_Lw_law_1691 {X : Xt} {S : Sh} (hS : ShOK S) {d : Nat} (hd : 63 ≤ d + 1) {k18 : Nat → Nat → Nat → Int32 → Mm → Option (Int32 × Mm)} (hk18 : ∀ (x0 : Nat) (x1 : Nat) (x2 : Nat) (x3 : Int32) (σ : Mm) (h_x0 : x0 = 1000009) (h_x1 : tgT x1 = 11) (h_x2 : tgT x2 = 12), Rf X S emM (k18 x0 x1 x2 x3 σ) (d + 1) 325 18 [.ref x0, .ref x1, .ref x2, .int x3] [] σ) (x0 : Nat) (x1 : Nat) (x2 : Nat) (x3 : Int32) (σ : Mm) (h_x0 : x0 = 1000009) (h_x1 : tgT x1 = 11) (h_x2 : tgT x2 = 12) : Rf X S emM (f_Lw_law_1691 X k18 x0 x1 x2 x3 σ) (d + 1) 325 1691 [.ref x0, .ref x1, .ref x2, .int x3] [] σ := by
  unfold f_Lw_law_1691
  refine rf_ald (i := 1) (Or.inr ⟨1, rfl, rfl, rfl⟩) c_325_1691 rfl ?_
  refine rf_ald (i := 0) (Or.inr ⟨0, rfl, rfl, rfl⟩) c_325_1692 rfl ?_
  refine rf_ild (i := 3) (Or.inr ⟨3, rfl, rfl, rfl⟩) c_325_1693 rfl ?_
  refine rf_iconst c_325_1694 ki_1 ?_
  refine rf_iadd c_325_1695 ?_
  refine rf_ite (fun hb1696 => ?_) (fun _ => rf_none)
  refine rf_xald2 h_x0 c_325_1696 hb1696 ?_
  refine rf_ald (i := 0) (Or.inr ⟨0, rfl, rfl, rfl⟩) c_325_1697 rfl ?_
  refine rf_ild (i := 3) (Or.inr ⟨3, rfl, rfl, rfl⟩) c_325_1698 rfl ?_
  refine rf_iconst c_325_1699 ki_2 ?_
  refine rf_iadd c_325_1700 ?_
  refine rf_ite (fun hb1701 => ?_) (fun _ => rf_none)
  refine rf_xald2 h_x0 c_325_1701 hb1701 ?_
  refine rf_ald (i := 0) (Or.inr ⟨0, rfl, rfl, rfl⟩) c_325_1702 rfl ?_
  refine rf_ild (i := 3) (Or.inr ⟨3, rfl, rfl, rfl⟩) c_325_1703 rfl ?_
  refine rf_iconst c_325_1704 ki_3 ?_
  refine rf_iadd c_325_1705 ?_
  refine rf_ite (fun hb1706 => ?_) (fun _ => rf_none)
  refine rf_xald2 h_x0 c_325_1706 hb1706 ?_
  refine rf_callM (as := [.ref x1, .int (X.2 (ix (x3 + (1 : Int32)))), .int (X.2 (ix (x3 + (2 : Int32)))), .int (X.2 (ix (x3 + (3 : Int32))))]) (kd := 1) c_325_1707 rfl (by decide) rfl ml_13_199 (by decide) rfl (rcv_1 hS rfl rfl h_x1 (by decide)) (Nat.zero_le _) rfl rfl (t_Ct_register hS (by omega) x1 (X.2 (ix (x3 + (1 : Int32)))) (X.2 (ix (x3 + (2 : Int32)))) (X.2 (ix (x3 + (3 : Int32)))) σ h_x1) (fun v1707 => ?_)
  refine rf_ald (i := 2) (Or.inr ⟨2, rfl, rfl, rfl⟩) c_325_1710 rfl ?_
  refine rf_ald (i := 0) (Or.inr ⟨0, rfl, rfl, rfl⟩) c_325_1711 rfl ?_
  refine rf_ild (i := 3) (Or.inr ⟨3, rfl, rfl, rfl⟩) c_325_1712 rfl ?_
  refine rf_iconst c_325_1713 ki_1 ?_
  refine rf_iadd c_325_1714 ?_
  refine rf_ite (fun hb1715 => ?_) (fun _ => rf_none)
  refine rf_xald2 h_x0 c_325_1715 hb1715 ?_
  refine rf_ald (i := 0) (Or.inr ⟨0, rfl, rfl, rfl⟩) c_325_1716 rfl ?_
  refine rf_ild (i := 3) (Or.inr ⟨3, rfl, rfl, rfl⟩) c_325_1717 rfl ?_
  refine rf_iconst c_325_1718 ki_2 ?_
  refine rf_iadd c_325_1719 ?_
  refine rf_ite (fun hb1720 => ?_) (fun _ => rf_none)
  refine rf_xald2 h_x0 c_325_1720 hb1720 ?_
  refine rf_ald (i := 0) (Or.inr ⟨0, rfl, rfl, rfl⟩) c_325_1721 rfl ?_
  refine rf_ild (i := 3) (Or.inr ⟨3, rfl, rfl, rfl⟩) c_325_1722 rfl ?_
  refine rf_iconst c_325_1723 ki_3 ?_
  refine rf_iadd c_325_1724 ?_
  refine rf_ite (fun hb1725 => ?_) (fun _ => rf_none)
  refine rf_xald2 h_x0 c_325_1725 hb1725 ?_
  refine rf_callM (as := [.ref x2, .int (X.2 (ix (x3 + (1 : Int32)))), .int (X.2 (ix (x3 + (2 : Int32)))), .int (X.2 (ix (x3 + (3 : Int32))))]) (kd := 1) c_325_1726 rfl (by decide) rfl ml_13_202 (by decide) rfl (rcv_1 hS rfl rfl h_x2 (by decide)) (by simp [Value.category]) rfl rfl (t_Mo_register hS (by omega) x2 (X.2 (ix (x3 + (1 : Int32)))) (X.2 (ix (x3 + (2 : Int32)))) (X.2 (ix (x3 + (3 : Int32)))) v1707.2 h_x2) (fun v1726 => ?_)
  refine rf_ite (fun hc1729 => ?_) (fun hc1729 => ?_)
  · refine rf_b2t c_325_1729 rfl (decide_eq_true hc1729) ?_
    exact t_Lw_law_2077 hS hd hk18 x0 x1 x2 x3 v1726.2 h_x0 h_x1 h_x2
  · refine rf_b2f c_325_1729 rfl (decide_eq_false hc1729) ?_
    refine rf_iconst c_325_1732 ki_0 ?_
    exact rf_ret c_325_1733 rfl (by decide) rfl rfl
def f_Lw_law_1734 (X : Xt) (k18 : Nat → Nat → Nat → Int32 → Mm → Option (Int32 × Mm)) (x0 : Nat) (x1 : Nat) (x2 : Nat) (x3 : Int32) (σ : Mm) : Option (Int32 × Mm) := if inbB (x3 + (1 : Int32)) X.1 = true then if inbB (x3 + (2 : Int32)) X.1 = true then if inbB (x3 + (3 : Int32)) X.1 = true then (f_Ct_note x1 (X.2 (ix (x3 + (1 : Int32)))) (X.2 (ix (x3 + (2 : Int32)))) (X.2 (ix (x3 + (3 : Int32)))) σ).bind fun v1750 => if inbB (x3 + (1 : Int32)) X.1 = true then if inbB (x3 + (2 : Int32)) X.1 = true then if inbB (x3 + (3 : Int32)) X.1 = true then (f_Mo_note x2 (X.2 (ix (x3 + (1 : Int32)))) (X.2 (ix (x3 + (2 : Int32)))) (X.2 (ix (x3 + (3 : Int32)))) v1750.2).bind fun v1769 => (if v1750.1 = v1769.1 then (f_Lw_law_2077 X k18 x0 x1 x2 x3 v1769.2) else (some ((0 : Int32), v1769.2))) else none else none else none else none else none else none
set_option maxRecDepth 100000 in
set_option maxHeartbeats 4000000 in
theorem t_Lw_law_1734 {X : Xt} {S : Sh} (hS : ShOK S) {d : Nat} (hd : 63 ≤ d + 1) {k18 : Nat → Nat → Nat → Int32 → Mm → Option (Int32 × Mm)} (hk18 : ∀ (x0 : Nat) (x1 : Nat) (x2 : Nat) (x3 : Int32) (σ : Mm) (h_x0 : x0 = 1000009) (h_x1 : tgT x1 = 11) (h_x2 : tgT x2 = 12), Rf X S emM (k18 x0 x1 x2 x3 σ) (d + 1) 325 18 [.ref x0, .ref x1, .ref x2, .int x3] [] σ) (x0 : Nat) (x1 : Nat) (x2 : Nat) (x3 : Int32) (σ : Mm) (h_x0 : x0 = 1000009) (h_x1 : tgT x1 = 11) (h_x2 : tgT x2 = 12) : Rf X S emM (f_Lw_law_1734 X k18 x0 x1 x2 x3 σ) (d + 1) 325 1734 [.ref x0, .ref x1, .ref x2, .int x3] [] σ := by
  unfold f_Lw_law_1734
  refine rf_ald (i := 1) (Or.inr ⟨1, rfl, rfl, rfl⟩) c_325_1734 rfl ?_
  refine rf_ald (i := 0) (Or.inr ⟨0, rfl, rfl, rfl⟩) c_325_1735 rfl ?_
  refine rf_ild (i := 3) (Or.inr ⟨3, rfl, rfl, rfl⟩) c_325_1736 rfl ?_
  refine rf_iconst c_325_1737 ki_1 ?_
  refine rf_iadd c_325_1738 ?_
  refine rf_ite (fun hb1739 => ?_) (fun _ => rf_none)
  refine rf_xald2 h_x0 c_325_1739 hb1739 ?_
  refine rf_ald (i := 0) (Or.inr ⟨0, rfl, rfl, rfl⟩) c_325_1740 rfl ?_
  refine rf_ild (i := 3) (Or.inr ⟨3, rfl, rfl, rfl⟩) c_325_1741 rfl ?_
  refine rf_iconst c_325_1742 ki_2 ?_
  refine rf_iadd c_325_1743 ?_
  refine rf_ite (fun hb1744 => ?_) (fun _ => rf_none)
  refine rf_xald2 h_x0 c_325_1744 hb1744 ?_
  refine rf_ald (i := 0) (Or.inr ⟨0, rfl, rfl, rfl⟩) c_325_1745 rfl ?_
  refine rf_ild (i := 3) (Or.inr ⟨3, rfl, rfl, rfl⟩) c_325_1746 rfl ?_
  refine rf_iconst c_325_1747 ki_3 ?_
  refine rf_iadd c_325_1748 ?_
  refine rf_ite (fun hb1749 => ?_) (fun _ => rf_none)
  refine rf_xald2 h_x0 c_325_1749 hb1749 ?_
  refine rf_callM (as := [.ref x1, .int (X.2 (ix (x3 + (1 : Int32)))), .int (X.2 (ix (x3 + (2 : Int32)))), .int (X.2 (ix (x3 + (3 : Int32))))]) (kd := 1) c_325_1750 rfl (by decide) rfl ml_13_203 (by decide) rfl (rcv_1 hS rfl rfl h_x1 (by decide)) (Nat.zero_le _) rfl rfl (t_Ct_note hS (by omega) x1 (X.2 (ix (x3 + (1 : Int32)))) (X.2 (ix (x3 + (2 : Int32)))) (X.2 (ix (x3 + (3 : Int32)))) σ h_x1) (fun v1750 => ?_)
  refine rf_ald (i := 2) (Or.inr ⟨2, rfl, rfl, rfl⟩) c_325_1753 rfl ?_
  refine rf_ald (i := 0) (Or.inr ⟨0, rfl, rfl, rfl⟩) c_325_1754 rfl ?_
  refine rf_ild (i := 3) (Or.inr ⟨3, rfl, rfl, rfl⟩) c_325_1755 rfl ?_
  refine rf_iconst c_325_1756 ki_1 ?_
  refine rf_iadd c_325_1757 ?_
  refine rf_ite (fun hb1758 => ?_) (fun _ => rf_none)
  refine rf_xald2 h_x0 c_325_1758 hb1758 ?_
  refine rf_ald (i := 0) (Or.inr ⟨0, rfl, rfl, rfl⟩) c_325_1759 rfl ?_
  refine rf_ild (i := 3) (Or.inr ⟨3, rfl, rfl, rfl⟩) c_325_1760 rfl ?_
  refine rf_iconst c_325_1761 ki_2 ?_
  refine rf_iadd c_325_1762 ?_
  refine rf_ite (fun hb1763 => ?_) (fun _ => rf_none)
  refine rf_xald2 h_x0 c_325_1763 hb1763 ?_
  refine rf_ald (i := 0) (Or.inr ⟨0, rfl, rfl, rfl⟩) c_325_1764 rfl ?_
  refine rf_ild (i := 3) (Or.inr ⟨3, rfl, rfl, rfl⟩) c_325_1765 rfl ?_
  refine rf_iconst c_325_1766 ki_3 ?_
  refine rf_iadd c_325_1767 ?_
  refine rf_ite (fun hb1768 => ?_) (fun _ => rf_none)
  refine rf_xald2 h_x0 c_325_1768 hb1768 ?_
  refine rf_callM (as := [.ref x2, .int (X.2 (ix (x3 + (1 : Int32)))), .int (X.2 (ix (x3 + (2 : Int32)))), .int (X.2 (ix (x3 + (3 : Int32))))]) (kd := 1) c_325_1769 rfl (by decide) rfl ml_13_206 (by decide) rfl (rcv_1 hS rfl rfl h_x2 (by decide)) (by simp [Value.category]) rfl rfl (t_Mo_note hS (by omega) x2 (X.2 (ix (x3 + (1 : Int32)))) (X.2 (ix (x3 + (2 : Int32)))) (X.2 (ix (x3 + (3 : Int32)))) v1750.2 h_x2) (fun v1769 => ?_)
  refine rf_ite (fun hc1772 => ?_) (fun hc1772 => ?_)
  · refine rf_b2t c_325_1772 rfl (decide_eq_true hc1772) ?_
    exact t_Lw_law_2077 hS hd hk18 x0 x1 x2 x3 v1769.2 h_x0 h_x1 h_x2
  · refine rf_b2f c_325_1772 rfl (decide_eq_false hc1772) ?_
    refine rf_iconst c_325_1775 ki_0 ?_
    exact rf_ret c_325_1776 rfl (by decide) rfl rfl
def f_Lw_law_1777 (X : Xt) (k18 : Nat → Nat → Nat → Int32 → Mm → Option (Int32 × Mm)) (x0 : Nat) (x1 : Nat) (x2 : Nat) (x3 : Int32) (σ : Mm) : Option (Int32 × Mm) := if inbB (x3 + (1 : Int32)) X.1 = true then if inbB (x3 + (2 : Int32)) X.1 = true then if inbB (x3 + (3 : Int32)) X.1 = true then if inbB (x3 + (4 : Int32)) X.1 = true then if inbB (x3 + (5 : Int32)) X.1 = true then (f_Ct_carry x1 (X.2 (ix (x3 + (1 : Int32)))) (X.2 (ix (x3 + (2 : Int32)))) (X.2 (ix (x3 + (3 : Int32)))) (X.2 (ix (x3 + (4 : Int32)))) (X.2 (ix (x3 + (5 : Int32)))) σ).bind fun v1803 => if inbB (x3 + (1 : Int32)) X.1 = true then if inbB (x3 + (2 : Int32)) X.1 = true then if inbB (x3 + (3 : Int32)) X.1 = true then if inbB (x3 + (4 : Int32)) X.1 = true then if inbB (x3 + (5 : Int32)) X.1 = true then (f_Mo_carry x2 (X.2 (ix (x3 + (1 : Int32)))) (X.2 (ix (x3 + (2 : Int32)))) (X.2 (ix (x3 + (3 : Int32)))) (X.2 (ix (x3 + (4 : Int32)))) (X.2 (ix (x3 + (5 : Int32)))) v1803.2).bind fun v1832 => (if v1803.1 = v1832.1 then (f_Lw_law_2077 X k18 x0 x1 x2 x3 v1832.2) else (some ((0 : Int32), v1832.2))) else none else none else none else none else none else none else none else none else none else none
set_option maxRecDepth 100000 in
set_option maxHeartbeats 4000000 in
theorem t_Lw_law_1777 {X : Xt} {S : Sh} (hS : ShOK S) {d : Nat} (hd : 63 ≤ d + 1) {k18 : Nat → Nat → Nat → Int32 → Mm → Option (Int32 × Mm)} (hk18 : ∀ (x0 : Nat) (x1 : Nat) (x2 : Nat) (x3 : Int32) (σ : Mm) (h_x0 : x0 = 1000009) (h_x1 : tgT x1 = 11) (h_x2 : tgT x2 = 12), Rf X S emM (k18 x0 x1 x2 x3 σ) (d + 1) 325 18 [.ref x0, .ref x1, .ref x2, .int x3] [] σ) (x0 : Nat) (x1 : Nat) (x2 : Nat) (x3 : Int32) (σ : Mm) (h_x0 : x0 = 1000009) (h_x1 : tgT x1 = 11) (h_x2 : tgT x2 = 12) : Rf X S emM (f_Lw_law_1777 X k18 x0 x1 x2 x3 σ) (d + 1) 325 1777 [.ref x0, .ref x1, .ref x2, .int x3] [] σ := by
  unfold f_Lw_law_1777
  refine rf_ald (i := 1) (Or.inr ⟨1, rfl, rfl, rfl⟩) c_325_1777 rfl ?_
  refine rf_ald (i := 0) (Or.inr ⟨0, rfl, rfl, rfl⟩) c_325_1778 rfl ?_
  refine rf_ild (i := 3) (Or.inr ⟨3, rfl, rfl, rfl⟩) c_325_1779 rfl ?_
  refine rf_iconst c_325_1780 ki_1 ?_
  refine rf_iadd c_325_1781 ?_
  refine rf_ite (fun hb1782 => ?_) (fun _ => rf_none)
  refine rf_xald2 h_x0 c_325_1782 hb1782 ?_
  refine rf_ald (i := 0) (Or.inr ⟨0, rfl, rfl, rfl⟩) c_325_1783 rfl ?_
  refine rf_ild (i := 3) (Or.inr ⟨3, rfl, rfl, rfl⟩) c_325_1784 rfl ?_
  refine rf_iconst c_325_1785 ki_2 ?_
  refine rf_iadd c_325_1786 ?_
  refine rf_ite (fun hb1787 => ?_) (fun _ => rf_none)
  refine rf_xald2 h_x0 c_325_1787 hb1787 ?_
  refine rf_ald (i := 0) (Or.inr ⟨0, rfl, rfl, rfl⟩) c_325_1788 rfl ?_
  refine rf_ild (i := 3) (Or.inr ⟨3, rfl, rfl, rfl⟩) c_325_1789 rfl ?_
  refine rf_iconst c_325_1790 ki_3 ?_
  refine rf_iadd c_325_1791 ?_
  refine rf_ite (fun hb1792 => ?_) (fun _ => rf_none)
  refine rf_xald2 h_x0 c_325_1792 hb1792 ?_
  refine rf_ald (i := 0) (Or.inr ⟨0, rfl, rfl, rfl⟩) c_325_1793 rfl ?_
  refine rf_ild (i := 3) (Or.inr ⟨3, rfl, rfl, rfl⟩) c_325_1794 rfl ?_
  refine rf_iconst c_325_1795 ki_4 ?_
  refine rf_iadd c_325_1796 ?_
  refine rf_ite (fun hb1797 => ?_) (fun _ => rf_none)
  refine rf_xald2 h_x0 c_325_1797 hb1797 ?_
  refine rf_ald (i := 0) (Or.inr ⟨0, rfl, rfl, rfl⟩) c_325_1798 rfl ?_
  refine rf_ild (i := 3) (Or.inr ⟨3, rfl, rfl, rfl⟩) c_325_1799 rfl ?_
  refine rf_iconst c_325_1800 ki_5 ?_
  refine rf_iadd c_325_1801 ?_
  refine rf_ite (fun hb1802 => ?_) (fun _ => rf_none)
  refine rf_xald2 h_x0 c_325_1802 hb1802 ?_
  refine rf_callM (as := [.ref x1, .int (X.2 (ix (x3 + (1 : Int32)))), .int (X.2 (ix (x3 + (2 : Int32)))), .int (X.2 (ix (x3 + (3 : Int32)))), .int (X.2 (ix (x3 + (4 : Int32)))), .int (X.2 (ix (x3 + (5 : Int32))))]) (kd := 1) c_325_1803 rfl (by decide) rfl ml_13_207 (by decide) rfl (rcv_1 hS rfl rfl h_x1 (by decide)) (Nat.zero_le _) rfl rfl (t_Ct_carry hS (by omega) x1 (X.2 (ix (x3 + (1 : Int32)))) (X.2 (ix (x3 + (2 : Int32)))) (X.2 (ix (x3 + (3 : Int32)))) (X.2 (ix (x3 + (4 : Int32)))) (X.2 (ix (x3 + (5 : Int32)))) σ h_x1) (fun v1803 => ?_)
  refine rf_ald (i := 2) (Or.inr ⟨2, rfl, rfl, rfl⟩) c_325_1806 rfl ?_
  refine rf_ald (i := 0) (Or.inr ⟨0, rfl, rfl, rfl⟩) c_325_1807 rfl ?_
  refine rf_ild (i := 3) (Or.inr ⟨3, rfl, rfl, rfl⟩) c_325_1808 rfl ?_
  refine rf_iconst c_325_1809 ki_1 ?_
  refine rf_iadd c_325_1810 ?_
  refine rf_ite (fun hb1811 => ?_) (fun _ => rf_none)
  refine rf_xald2 h_x0 c_325_1811 hb1811 ?_
  refine rf_ald (i := 0) (Or.inr ⟨0, rfl, rfl, rfl⟩) c_325_1812 rfl ?_
  refine rf_ild (i := 3) (Or.inr ⟨3, rfl, rfl, rfl⟩) c_325_1813 rfl ?_
  refine rf_iconst c_325_1814 ki_2 ?_
  refine rf_iadd c_325_1815 ?_
  refine rf_ite (fun hb1816 => ?_) (fun _ => rf_none)
  refine rf_xald2 h_x0 c_325_1816 hb1816 ?_
  refine rf_ald (i := 0) (Or.inr ⟨0, rfl, rfl, rfl⟩) c_325_1817 rfl ?_
  refine rf_ild (i := 3) (Or.inr ⟨3, rfl, rfl, rfl⟩) c_325_1818 rfl ?_
  refine rf_iconst c_325_1819 ki_3 ?_
  refine rf_iadd c_325_1820 ?_
  refine rf_ite (fun hb1821 => ?_) (fun _ => rf_none)
  refine rf_xald2 h_x0 c_325_1821 hb1821 ?_
  refine rf_ald (i := 0) (Or.inr ⟨0, rfl, rfl, rfl⟩) c_325_1822 rfl ?_
  refine rf_ild (i := 3) (Or.inr ⟨3, rfl, rfl, rfl⟩) c_325_1823 rfl ?_
  refine rf_iconst c_325_1824 ki_4 ?_
  refine rf_iadd c_325_1825 ?_
  refine rf_ite (fun hb1826 => ?_) (fun _ => rf_none)
  refine rf_xald2 h_x0 c_325_1826 hb1826 ?_
  refine rf_ald (i := 0) (Or.inr ⟨0, rfl, rfl, rfl⟩) c_325_1827 rfl ?_
  refine rf_ild (i := 3) (Or.inr ⟨3, rfl, rfl, rfl⟩) c_325_1828 rfl ?_
  refine rf_iconst c_325_1829 ki_5 ?_
  refine rf_iadd c_325_1830 ?_
  refine rf_ite (fun hb1831 => ?_) (fun _ => rf_none)
  refine rf_xald2 h_x0 c_325_1831 hb1831 ?_
  refine rf_callM (as := [.ref x2, .int (X.2 (ix (x3 + (1 : Int32)))), .int (X.2 (ix (x3 + (2 : Int32)))), .int (X.2 (ix (x3 + (3 : Int32)))), .int (X.2 (ix (x3 + (4 : Int32)))), .int (X.2 (ix (x3 + (5 : Int32))))]) (kd := 1) c_325_1832 rfl (by decide) rfl ml_13_210 (by decide) rfl (rcv_1 hS rfl rfl h_x2 (by decide)) (by simp [Value.category]) rfl rfl (t_Mo_carry hS (by omega) x2 (X.2 (ix (x3 + (1 : Int32)))) (X.2 (ix (x3 + (2 : Int32)))) (X.2 (ix (x3 + (3 : Int32)))) (X.2 (ix (x3 + (4 : Int32)))) (X.2 (ix (x3 + (5 : Int32)))) v1803.2 h_x2) (fun v1832 => ?_)
  refine rf_ite (fun hc1835 => ?_) (fun hc1835 => ?_)
  · refine rf_b2t c_325_1835 rfl (decide_eq_true hc1835) ?_
    exact t_Lw_law_2077 hS hd hk18 x0 x1 x2 x3 v1832.2 h_x0 h_x1 h_x2
  · refine rf_b2f c_325_1835 rfl (decide_eq_false hc1835) ?_
    refine rf_iconst c_325_1838 ki_0 ?_
    exact rf_ret c_325_1839 rfl (by decide) rfl rfl
def f_Lw_law_1840 (X : Xt) (k18 : Nat → Nat → Nat → Int32 → Mm → Option (Int32 × Mm)) (x0 : Nat) (x1 : Nat) (x2 : Nat) (x3 : Int32) (σ : Mm) : Option (Int32 × Mm) := if inbB (x3 + (1 : Int32)) X.1 = true then if inbB (x3 + (2 : Int32)) X.1 = true then if inbB (x3 + (3 : Int32)) X.1 = true then (f_Ct_lay x1 (X.2 (ix (x3 + (1 : Int32)))) (X.2 (ix (x3 + (2 : Int32)))) (X.2 (ix (x3 + (3 : Int32)))) σ).bind fun v1856 => if inbB (x3 + (1 : Int32)) X.1 = true then if inbB (x3 + (2 : Int32)) X.1 = true then if inbB (x3 + (3 : Int32)) X.1 = true then (f_Mo_lay x2 (X.2 (ix (x3 + (1 : Int32)))) (X.2 (ix (x3 + (2 : Int32)))) (X.2 (ix (x3 + (3 : Int32)))) v1856.2).bind fun v1875 => (if v1856.1 = v1875.1 then (f_Lw_law_2077 X k18 x0 x1 x2 x3 v1875.2) else (some ((0 : Int32), v1875.2))) else none else none else none else none else none else none
set_option maxRecDepth 100000 in
set_option maxHeartbeats 4000000 in
theorem t_Lw_law_1840 {X : Xt} {S : Sh} (hS : ShOK S) {d : Nat} (hd : 63 ≤ d + 1) {k18 : Nat → Nat → Nat → Int32 → Mm → Option (Int32 × Mm)} (hk18 : ∀ (x0 : Nat) (x1 : Nat) (x2 : Nat) (x3 : Int32) (σ : Mm) (h_x0 : x0 = 1000009) (h_x1 : tgT x1 = 11) (h_x2 : tgT x2 = 12), Rf X S emM (k18 x0 x1 x2 x3 σ) (d + 1) 325 18 [.ref x0, .ref x1, .ref x2, .int x3] [] σ) (x0 : Nat) (x1 : Nat) (x2 : Nat) (x3 : Int32) (σ : Mm) (h_x0 : x0 = 1000009) (h_x1 : tgT x1 = 11) (h_x2 : tgT x2 = 12) : Rf X S emM (f_Lw_law_1840 X k18 x0 x1 x2 x3 σ) (d + 1) 325 1840 [.ref x0, .ref x1, .ref x2, .int x3] [] σ := by
  unfold f_Lw_law_1840
  refine rf_ald (i := 1) (Or.inr ⟨1, rfl, rfl, rfl⟩) c_325_1840 rfl ?_
  refine rf_ald (i := 0) (Or.inr ⟨0, rfl, rfl, rfl⟩) c_325_1841 rfl ?_
  refine rf_ild (i := 3) (Or.inr ⟨3, rfl, rfl, rfl⟩) c_325_1842 rfl ?_
  refine rf_iconst c_325_1843 ki_1 ?_
  refine rf_iadd c_325_1844 ?_
  refine rf_ite (fun hb1845 => ?_) (fun _ => rf_none)
  refine rf_xald2 h_x0 c_325_1845 hb1845 ?_
  refine rf_ald (i := 0) (Or.inr ⟨0, rfl, rfl, rfl⟩) c_325_1846 rfl ?_
  refine rf_ild (i := 3) (Or.inr ⟨3, rfl, rfl, rfl⟩) c_325_1847 rfl ?_
  refine rf_iconst c_325_1848 ki_2 ?_
  refine rf_iadd c_325_1849 ?_
  refine rf_ite (fun hb1850 => ?_) (fun _ => rf_none)
  refine rf_xald2 h_x0 c_325_1850 hb1850 ?_
  refine rf_ald (i := 0) (Or.inr ⟨0, rfl, rfl, rfl⟩) c_325_1851 rfl ?_
  refine rf_ild (i := 3) (Or.inr ⟨3, rfl, rfl, rfl⟩) c_325_1852 rfl ?_
  refine rf_iconst c_325_1853 ki_3 ?_
  refine rf_iadd c_325_1854 ?_
  refine rf_ite (fun hb1855 => ?_) (fun _ => rf_none)
  refine rf_xald2 h_x0 c_325_1855 hb1855 ?_
  refine rf_callM (as := [.ref x1, .int (X.2 (ix (x3 + (1 : Int32)))), .int (X.2 (ix (x3 + (2 : Int32)))), .int (X.2 (ix (x3 + (3 : Int32))))]) (kd := 1) c_325_1856 rfl (by decide) rfl ml_13_211 (by decide) rfl (rcv_1 hS rfl rfl h_x1 (by decide)) (Nat.zero_le _) rfl rfl (t_Ct_lay hS (by omega) x1 (X.2 (ix (x3 + (1 : Int32)))) (X.2 (ix (x3 + (2 : Int32)))) (X.2 (ix (x3 + (3 : Int32)))) σ h_x1) (fun v1856 => ?_)
  refine rf_ald (i := 2) (Or.inr ⟨2, rfl, rfl, rfl⟩) c_325_1859 rfl ?_
  refine rf_ald (i := 0) (Or.inr ⟨0, rfl, rfl, rfl⟩) c_325_1860 rfl ?_
  refine rf_ild (i := 3) (Or.inr ⟨3, rfl, rfl, rfl⟩) c_325_1861 rfl ?_
  refine rf_iconst c_325_1862 ki_1 ?_
  refine rf_iadd c_325_1863 ?_
  refine rf_ite (fun hb1864 => ?_) (fun _ => rf_none)
  refine rf_xald2 h_x0 c_325_1864 hb1864 ?_
  refine rf_ald (i := 0) (Or.inr ⟨0, rfl, rfl, rfl⟩) c_325_1865 rfl ?_
  refine rf_ild (i := 3) (Or.inr ⟨3, rfl, rfl, rfl⟩) c_325_1866 rfl ?_
  refine rf_iconst c_325_1867 ki_2 ?_
  refine rf_iadd c_325_1868 ?_
  refine rf_ite (fun hb1869 => ?_) (fun _ => rf_none)
  refine rf_xald2 h_x0 c_325_1869 hb1869 ?_
  refine rf_ald (i := 0) (Or.inr ⟨0, rfl, rfl, rfl⟩) c_325_1870 rfl ?_
  refine rf_ild (i := 3) (Or.inr ⟨3, rfl, rfl, rfl⟩) c_325_1871 rfl ?_
  refine rf_iconst c_325_1872 ki_3 ?_
  refine rf_iadd c_325_1873 ?_
  refine rf_ite (fun hb1874 => ?_) (fun _ => rf_none)
  refine rf_xald2 h_x0 c_325_1874 hb1874 ?_
  refine rf_callM (as := [.ref x2, .int (X.2 (ix (x3 + (1 : Int32)))), .int (X.2 (ix (x3 + (2 : Int32)))), .int (X.2 (ix (x3 + (3 : Int32))))]) (kd := 1) c_325_1875 rfl (by decide) rfl ml_13_214 (by decide) rfl (rcv_1 hS rfl rfl h_x2 (by decide)) (by simp [Value.category]) rfl rfl (t_Mo_lay hS (by omega) x2 (X.2 (ix (x3 + (1 : Int32)))) (X.2 (ix (x3 + (2 : Int32)))) (X.2 (ix (x3 + (3 : Int32)))) v1856.2 h_x2) (fun v1875 => ?_)
  refine rf_ite (fun hc1878 => ?_) (fun hc1878 => ?_)
  · refine rf_b2t c_325_1878 rfl (decide_eq_true hc1878) ?_
    exact t_Lw_law_2077 hS hd hk18 x0 x1 x2 x3 v1875.2 h_x0 h_x1 h_x2
  · refine rf_b2f c_325_1878 rfl (decide_eq_false hc1878) ?_
    refine rf_iconst c_325_1881 ki_0 ?_
    exact rf_ret c_325_1882 rfl (by decide) rfl rfl
def f_Lw_law_1883 (X : Xt) (k18 : Nat → Nat → Nat → Int32 → Mm → Option (Int32 × Mm)) (x0 : Nat) (x1 : Nat) (x2 : Nat) (x3 : Int32) (σ : Mm) : Option (Int32 × Mm) := if inbB (x3 + (1 : Int32)) X.1 = true then if inbB (x3 + (2 : Int32)) X.1 = true then (f_Ct_ask σ x1 (X.2 (ix (x3 + (1 : Int32)))) (X.2 (ix (x3 + (2 : Int32))))).bind fun v1894 => if inbB (x3 + (1 : Int32)) X.1 = true then if inbB (x3 + (2 : Int32)) X.1 = true then (f_Mo_ask σ x2 (X.2 (ix (x3 + (1 : Int32)))) (X.2 (ix (x3 + (2 : Int32))))).bind fun v1908 => (if v1894 = v1908 then (f_Lw_law_2077 X k18 x0 x1 x2 x3 σ) else (some ((0 : Int32), σ))) else none else none else none else none
set_option maxRecDepth 100000 in
set_option maxHeartbeats 4000000 in
theorem t_Lw_law_1883 {X : Xt} {S : Sh} (hS : ShOK S) {d : Nat} (hd : 63 ≤ d + 1) {k18 : Nat → Nat → Nat → Int32 → Mm → Option (Int32 × Mm)} (hk18 : ∀ (x0 : Nat) (x1 : Nat) (x2 : Nat) (x3 : Int32) (σ : Mm) (h_x0 : x0 = 1000009) (h_x1 : tgT x1 = 11) (h_x2 : tgT x2 = 12), Rf X S emM (k18 x0 x1 x2 x3 σ) (d + 1) 325 18 [.ref x0, .ref x1, .ref x2, .int x3] [] σ) (x0 : Nat) (x1 : Nat) (x2 : Nat) (x3 : Int32) (σ : Mm) (h_x0 : x0 = 1000009) (h_x1 : tgT x1 = 11) (h_x2 : tgT x2 = 12) : Rf X S emM (f_Lw_law_1883 X k18 x0 x1 x2 x3 σ) (d + 1) 325 1883 [.ref x0, .ref x1, .ref x2, .int x3] [] σ := by
  unfold f_Lw_law_1883
  refine rf_ald (i := 1) (Or.inr ⟨1, rfl, rfl, rfl⟩) c_325_1883 rfl ?_
  refine rf_ald (i := 0) (Or.inr ⟨0, rfl, rfl, rfl⟩) c_325_1884 rfl ?_
  refine rf_ild (i := 3) (Or.inr ⟨3, rfl, rfl, rfl⟩) c_325_1885 rfl ?_
  refine rf_iconst c_325_1886 ki_1 ?_
  refine rf_iadd c_325_1887 ?_
  refine rf_ite (fun hb1888 => ?_) (fun _ => rf_none)
  refine rf_xald2 h_x0 c_325_1888 hb1888 ?_
  refine rf_ald (i := 0) (Or.inr ⟨0, rfl, rfl, rfl⟩) c_325_1889 rfl ?_
  refine rf_ild (i := 3) (Or.inr ⟨3, rfl, rfl, rfl⟩) c_325_1890 rfl ?_
  refine rf_iconst c_325_1891 ki_2 ?_
  refine rf_iadd c_325_1892 ?_
  refine rf_ite (fun hb1893 => ?_) (fun _ => rf_none)
  refine rf_xald2 h_x0 c_325_1893 hb1893 ?_
  refine rf_callI (as := [.ref x1, .int (X.2 (ix (x3 + (1 : Int32)))), .int (X.2 (ix (x3 + (2 : Int32))))]) (kd := 1) c_325_1894 rfl (by decide) rfl ml_13_215 (by decide) rfl (rcv_1 hS rfl rfl h_x1 (by decide)) (Nat.zero_le _) rfl rfl (t_Ct_ask hS (by omega) σ x1 (X.2 (ix (x3 + (1 : Int32)))) (X.2 (ix (x3 + (2 : Int32)))) h_x1) (fun v1894 => ?_)
  refine rf_ald (i := 2) (Or.inr ⟨2, rfl, rfl, rfl⟩) c_325_1897 rfl ?_
  refine rf_ald (i := 0) (Or.inr ⟨0, rfl, rfl, rfl⟩) c_325_1898 rfl ?_
  refine rf_ild (i := 3) (Or.inr ⟨3, rfl, rfl, rfl⟩) c_325_1899 rfl ?_
  refine rf_iconst c_325_1900 ki_1 ?_
  refine rf_iadd c_325_1901 ?_
  refine rf_ite (fun hb1902 => ?_) (fun _ => rf_none)
  refine rf_xald2 h_x0 c_325_1902 hb1902 ?_
  refine rf_ald (i := 0) (Or.inr ⟨0, rfl, rfl, rfl⟩) c_325_1903 rfl ?_
  refine rf_ild (i := 3) (Or.inr ⟨3, rfl, rfl, rfl⟩) c_325_1904 rfl ?_
  refine rf_iconst c_325_1905 ki_2 ?_
  refine rf_iadd c_325_1906 ?_
  refine rf_ite (fun hb1907 => ?_) (fun _ => rf_none)
  refine rf_xald2 h_x0 c_325_1907 hb1907 ?_
  refine rf_callI (as := [.ref x2, .int (X.2 (ix (x3 + (1 : Int32)))), .int (X.2 (ix (x3 + (2 : Int32))))]) (kd := 1) c_325_1908 rfl (by decide) rfl ml_13_218 (by decide) rfl (rcv_1 hS rfl rfl h_x2 (by decide)) (by simp [Value.category]) rfl rfl (t_Mo_ask hS (by omega) σ x2 (X.2 (ix (x3 + (1 : Int32)))) (X.2 (ix (x3 + (2 : Int32)))) h_x2) (fun v1908 => ?_)
  refine rf_ite (fun hc1911 => ?_) (fun hc1911 => ?_)
  · refine rf_b2t c_325_1911 rfl (decide_eq_true hc1911) ?_
    exact t_Lw_law_2077 hS hd hk18 x0 x1 x2 x3 σ h_x0 h_x1 h_x2
  · refine rf_b2f c_325_1911 rfl (decide_eq_false hc1911) ?_
    refine rf_iconst c_325_1914 ki_0 ?_
    exact rf_ret c_325_1915 rfl (by decide) rfl rfl
def f_Lw_law_1916 (X : Xt) (k18 : Nat → Nat → Nat → Int32 → Mm → Option (Int32 × Mm)) (x0 : Nat) (x1 : Nat) (x2 : Nat) (x3 : Int32) (σ : Mm) : Option (Int32 × Mm) := if inbB (x3 + (1 : Int32)) X.1 = true then if inbB (x3 + (2 : Int32)) X.1 = true then (f_Ct_item σ x1 (X.2 (ix (x3 + (1 : Int32)))) (X.2 (ix (x3 + (2 : Int32))))).bind fun v1927 => if inbB (x3 + (1 : Int32)) X.1 = true then if inbB (x3 + (2 : Int32)) X.1 = true then (f_Mo_item σ x2 (X.2 (ix (x3 + (1 : Int32)))) (X.2 (ix (x3 + (2 : Int32))))).bind fun v1941 => (if v1927 = v1941 then (f_Lw_law_2077 X k18 x0 x1 x2 x3 σ) else (some ((0 : Int32), σ))) else none else none else none else none
set_option maxRecDepth 100000 in
set_option maxHeartbeats 4000000 in
theorem t_Lw_law_1916 {X : Xt} {S : Sh} (hS : ShOK S) {d : Nat} (hd : 63 ≤ d + 1) {k18 : Nat → Nat → Nat → Int32 → Mm → Option (Int32 × Mm)} (hk18 : ∀ (x0 : Nat) (x1 : Nat) (x2 : Nat) (x3 : Int32) (σ : Mm) (h_x0 : x0 = 1000009) (h_x1 : tgT x1 = 11) (h_x2 : tgT x2 = 12), Rf X S emM (k18 x0 x1 x2 x3 σ) (d + 1) 325 18 [.ref x0, .ref x1, .ref x2, .int x3] [] σ) (x0 : Nat) (x1 : Nat) (x2 : Nat) (x3 : Int32) (σ : Mm) (h_x0 : x0 = 1000009) (h_x1 : tgT x1 = 11) (h_x2 : tgT x2 = 12) : Rf X S emM (f_Lw_law_1916 X k18 x0 x1 x2 x3 σ) (d + 1) 325 1916 [.ref x0, .ref x1, .ref x2, .int x3] [] σ := by
  unfold f_Lw_law_1916
  refine rf_ald (i := 1) (Or.inr ⟨1, rfl, rfl, rfl⟩) c_325_1916 rfl ?_
  refine rf_ald (i := 0) (Or.inr ⟨0, rfl, rfl, rfl⟩) c_325_1917 rfl ?_
  refine rf_ild (i := 3) (Or.inr ⟨3, rfl, rfl, rfl⟩) c_325_1918 rfl ?_
  refine rf_iconst c_325_1919 ki_1 ?_
  refine rf_iadd c_325_1920 ?_
  refine rf_ite (fun hb1921 => ?_) (fun _ => rf_none)
  refine rf_xald2 h_x0 c_325_1921 hb1921 ?_
  refine rf_ald (i := 0) (Or.inr ⟨0, rfl, rfl, rfl⟩) c_325_1922 rfl ?_
  refine rf_ild (i := 3) (Or.inr ⟨3, rfl, rfl, rfl⟩) c_325_1923 rfl ?_
  refine rf_iconst c_325_1924 ki_2 ?_
  refine rf_iadd c_325_1925 ?_
  refine rf_ite (fun hb1926 => ?_) (fun _ => rf_none)
  refine rf_xald2 h_x0 c_325_1926 hb1926 ?_
  refine rf_callI (as := [.ref x1, .int (X.2 (ix (x3 + (1 : Int32)))), .int (X.2 (ix (x3 + (2 : Int32))))]) (kd := 1) c_325_1927 rfl (by decide) rfl ml_13_219 (by decide) rfl (rcv_1 hS rfl rfl h_x1 (by decide)) (Nat.zero_le _) rfl rfl (t_Ct_item hS (by omega) σ x1 (X.2 (ix (x3 + (1 : Int32)))) (X.2 (ix (x3 + (2 : Int32)))) h_x1) (fun v1927 => ?_)
  refine rf_ald (i := 2) (Or.inr ⟨2, rfl, rfl, rfl⟩) c_325_1930 rfl ?_
  refine rf_ald (i := 0) (Or.inr ⟨0, rfl, rfl, rfl⟩) c_325_1931 rfl ?_
  refine rf_ild (i := 3) (Or.inr ⟨3, rfl, rfl, rfl⟩) c_325_1932 rfl ?_
  refine rf_iconst c_325_1933 ki_1 ?_
  refine rf_iadd c_325_1934 ?_
  refine rf_ite (fun hb1935 => ?_) (fun _ => rf_none)
  refine rf_xald2 h_x0 c_325_1935 hb1935 ?_
  refine rf_ald (i := 0) (Or.inr ⟨0, rfl, rfl, rfl⟩) c_325_1936 rfl ?_
  refine rf_ild (i := 3) (Or.inr ⟨3, rfl, rfl, rfl⟩) c_325_1937 rfl ?_
  refine rf_iconst c_325_1938 ki_2 ?_
  refine rf_iadd c_325_1939 ?_
  refine rf_ite (fun hb1940 => ?_) (fun _ => rf_none)
  refine rf_xald2 h_x0 c_325_1940 hb1940 ?_
  refine rf_callI (as := [.ref x2, .int (X.2 (ix (x3 + (1 : Int32)))), .int (X.2 (ix (x3 + (2 : Int32))))]) (kd := 1) c_325_1941 rfl (by decide) rfl ml_13_222 (by decide) rfl (rcv_1 hS rfl rfl h_x2 (by decide)) (by simp [Value.category]) rfl rfl (t_Mo_item hS (by omega) σ x2 (X.2 (ix (x3 + (1 : Int32)))) (X.2 (ix (x3 + (2 : Int32)))) h_x2) (fun v1941 => ?_)
  refine rf_ite (fun hc1944 => ?_) (fun hc1944 => ?_)
  · refine rf_b2t c_325_1944 rfl (decide_eq_true hc1944) ?_
    exact t_Lw_law_2077 hS hd hk18 x0 x1 x2 x3 σ h_x0 h_x1 h_x2
  · refine rf_b2f c_325_1944 rfl (decide_eq_false hc1944) ?_
    refine rf_iconst c_325_1947 ki_0 ?_
    exact rf_ret c_325_1948 rfl (by decide) rfl rfl
def f_Lw_law_1949 (X : Xt) (k18 : Nat → Nat → Nat → Int32 → Mm → Option (Int32 × Mm)) (x0 : Nat) (x1 : Nat) (x2 : Nat) (x3 : Int32) (σ : Mm) : Option (Int32 × Mm) := if inbB (x3 + (1 : Int32)) X.1 = true then if inbB (x3 + (2 : Int32)) X.1 = true then (f_Ct_rest σ x1 (X.2 (ix (x3 + (1 : Int32)))) (X.2 (ix (x3 + (2 : Int32))))).bind fun v1960 => if inbB (x3 + (1 : Int32)) X.1 = true then if inbB (x3 + (2 : Int32)) X.1 = true then (f_Mo_rest σ x2 (X.2 (ix (x3 + (1 : Int32)))) (X.2 (ix (x3 + (2 : Int32))))).bind fun v1974 => (if v1960 = v1974 then (f_Lw_law_2077 X k18 x0 x1 x2 x3 σ) else (some ((0 : Int32), σ))) else none else none else none else none
set_option maxRecDepth 100000 in
set_option maxHeartbeats 4000000 in
theorem t_Lw_law_1949 {X : Xt} {S : Sh} (hS : ShOK S) {d : Nat} (hd : 63 ≤ d + 1) {k18 : Nat → Nat → Nat → Int32 → Mm → Option (Int32 × Mm)} (hk18 : ∀ (x0 : Nat) (x1 : Nat) (x2 : Nat) (x3 : Int32) (σ : Mm) (h_x0 : x0 = 1000009) (h_x1 : tgT x1 = 11) (h_x2 : tgT x2 = 12), Rf X S emM (k18 x0 x1 x2 x3 σ) (d + 1) 325 18 [.ref x0, .ref x1, .ref x2, .int x3] [] σ) (x0 : Nat) (x1 : Nat) (x2 : Nat) (x3 : Int32) (σ : Mm) (h_x0 : x0 = 1000009) (h_x1 : tgT x1 = 11) (h_x2 : tgT x2 = 12) : Rf X S emM (f_Lw_law_1949 X k18 x0 x1 x2 x3 σ) (d + 1) 325 1949 [.ref x0, .ref x1, .ref x2, .int x3] [] σ := by
  unfold f_Lw_law_1949
  refine rf_ald (i := 1) (Or.inr ⟨1, rfl, rfl, rfl⟩) c_325_1949 rfl ?_
  refine rf_ald (i := 0) (Or.inr ⟨0, rfl, rfl, rfl⟩) c_325_1950 rfl ?_
  refine rf_ild (i := 3) (Or.inr ⟨3, rfl, rfl, rfl⟩) c_325_1951 rfl ?_
  refine rf_iconst c_325_1952 ki_1 ?_
  refine rf_iadd c_325_1953 ?_
  refine rf_ite (fun hb1954 => ?_) (fun _ => rf_none)
  refine rf_xald2 h_x0 c_325_1954 hb1954 ?_
  refine rf_ald (i := 0) (Or.inr ⟨0, rfl, rfl, rfl⟩) c_325_1955 rfl ?_
  refine rf_ild (i := 3) (Or.inr ⟨3, rfl, rfl, rfl⟩) c_325_1956 rfl ?_
  refine rf_iconst c_325_1957 ki_2 ?_
  refine rf_iadd c_325_1958 ?_
  refine rf_ite (fun hb1959 => ?_) (fun _ => rf_none)
  refine rf_xald2 h_x0 c_325_1959 hb1959 ?_
  refine rf_callI (as := [.ref x1, .int (X.2 (ix (x3 + (1 : Int32)))), .int (X.2 (ix (x3 + (2 : Int32))))]) (kd := 1) c_325_1960 rfl (by decide) rfl ml_13_223 (by decide) rfl (rcv_1 hS rfl rfl h_x1 (by decide)) (Nat.zero_le _) rfl rfl (t_Ct_rest hS (by omega) σ x1 (X.2 (ix (x3 + (1 : Int32)))) (X.2 (ix (x3 + (2 : Int32)))) h_x1) (fun v1960 => ?_)
  refine rf_ald (i := 2) (Or.inr ⟨2, rfl, rfl, rfl⟩) c_325_1963 rfl ?_
  refine rf_ald (i := 0) (Or.inr ⟨0, rfl, rfl, rfl⟩) c_325_1964 rfl ?_
  refine rf_ild (i := 3) (Or.inr ⟨3, rfl, rfl, rfl⟩) c_325_1965 rfl ?_
  refine rf_iconst c_325_1966 ki_1 ?_
  refine rf_iadd c_325_1967 ?_
  refine rf_ite (fun hb1968 => ?_) (fun _ => rf_none)
  refine rf_xald2 h_x0 c_325_1968 hb1968 ?_
  refine rf_ald (i := 0) (Or.inr ⟨0, rfl, rfl, rfl⟩) c_325_1969 rfl ?_
  refine rf_ild (i := 3) (Or.inr ⟨3, rfl, rfl, rfl⟩) c_325_1970 rfl ?_
  refine rf_iconst c_325_1971 ki_2 ?_
  refine rf_iadd c_325_1972 ?_
  refine rf_ite (fun hb1973 => ?_) (fun _ => rf_none)
  refine rf_xald2 h_x0 c_325_1973 hb1973 ?_
  refine rf_callI (as := [.ref x2, .int (X.2 (ix (x3 + (1 : Int32)))), .int (X.2 (ix (x3 + (2 : Int32))))]) (kd := 1) c_325_1974 rfl (by decide) rfl ml_13_226 (by decide) rfl (rcv_1 hS rfl rfl h_x2 (by decide)) (by simp [Value.category]) rfl rfl (t_Mo_rest hS (by omega) σ x2 (X.2 (ix (x3 + (1 : Int32)))) (X.2 (ix (x3 + (2 : Int32)))) h_x2) (fun v1974 => ?_)
  refine rf_ite (fun hc1977 => ?_) (fun hc1977 => ?_)
  · refine rf_b2t c_325_1977 rfl (decide_eq_true hc1977) ?_
    exact t_Lw_law_2077 hS hd hk18 x0 x1 x2 x3 σ h_x0 h_x1 h_x2
  · refine rf_b2f c_325_1977 rfl (decide_eq_false hc1977) ?_
    refine rf_iconst c_325_1980 ki_0 ?_
    exact rf_ret c_325_1981 rfl (by decide) rfl rfl
def f_Lw_law_1982 (X : Xt) (k18 : Nat → Nat → Nat → Int32 → Mm → Option (Int32 × Mm)) (x0 : Nat) (x1 : Nat) (x2 : Nat) (x3 : Int32) (σ : Mm) : Option (Int32 × Mm) := if inbB (x3 + (1 : Int32)) X.1 = true then (f_Ct_tell x1 (X.2 (ix (x3 + (1 : Int32)))) σ).bind fun v1988 => if inbB (x3 + (1 : Int32)) X.1 = true then (f_Mo_tell x2 (X.2 (ix (x3 + (1 : Int32)))) v1988.2).bind fun v1997 => (if v1988.1 = v1997.1 then (f_Lw_law_2077 X k18 x0 x1 x2 x3 v1997.2) else (some ((0 : Int32), v1997.2))) else none else none
set_option maxRecDepth 100000 in
set_option maxHeartbeats 4000000 in
theorem t_Lw_law_1982 {X : Xt} {S : Sh} (hS : ShOK S) {d : Nat} (hd : 63 ≤ d + 1) {k18 : Nat → Nat → Nat → Int32 → Mm → Option (Int32 × Mm)} (hk18 : ∀ (x0 : Nat) (x1 : Nat) (x2 : Nat) (x3 : Int32) (σ : Mm) (h_x0 : x0 = 1000009) (h_x1 : tgT x1 = 11) (h_x2 : tgT x2 = 12), Rf X S emM (k18 x0 x1 x2 x3 σ) (d + 1) 325 18 [.ref x0, .ref x1, .ref x2, .int x3] [] σ) (x0 : Nat) (x1 : Nat) (x2 : Nat) (x3 : Int32) (σ : Mm) (h_x0 : x0 = 1000009) (h_x1 : tgT x1 = 11) (h_x2 : tgT x2 = 12) : Rf X S emM (f_Lw_law_1982 X k18 x0 x1 x2 x3 σ) (d + 1) 325 1982 [.ref x0, .ref x1, .ref x2, .int x3] [] σ := by
  unfold f_Lw_law_1982
  refine rf_ald (i := 1) (Or.inr ⟨1, rfl, rfl, rfl⟩) c_325_1982 rfl ?_
  refine rf_ald (i := 0) (Or.inr ⟨0, rfl, rfl, rfl⟩) c_325_1983 rfl ?_
  refine rf_ild (i := 3) (Or.inr ⟨3, rfl, rfl, rfl⟩) c_325_1984 rfl ?_
  refine rf_iconst c_325_1985 ki_1 ?_
  refine rf_iadd c_325_1986 ?_
  refine rf_ite (fun hb1987 => ?_) (fun _ => rf_none)
  refine rf_xald2 h_x0 c_325_1987 hb1987 ?_
  refine rf_callM (as := [.ref x1, .int (X.2 (ix (x3 + (1 : Int32))))]) (kd := 1) c_325_1988 rfl (by decide) rfl ml_13_227 (by decide) rfl (rcv_1 hS rfl rfl h_x1 (by decide)) (Nat.zero_le _) rfl rfl (t_Ct_tell hS (by omega) x1 (X.2 (ix (x3 + (1 : Int32)))) σ h_x1) (fun v1988 => ?_)
  refine rf_ald (i := 2) (Or.inr ⟨2, rfl, rfl, rfl⟩) c_325_1991 rfl ?_
  refine rf_ald (i := 0) (Or.inr ⟨0, rfl, rfl, rfl⟩) c_325_1992 rfl ?_
  refine rf_ild (i := 3) (Or.inr ⟨3, rfl, rfl, rfl⟩) c_325_1993 rfl ?_
  refine rf_iconst c_325_1994 ki_1 ?_
  refine rf_iadd c_325_1995 ?_
  refine rf_ite (fun hb1996 => ?_) (fun _ => rf_none)
  refine rf_xald2 h_x0 c_325_1996 hb1996 ?_
  refine rf_callM (as := [.ref x2, .int (X.2 (ix (x3 + (1 : Int32))))]) (kd := 1) c_325_1997 rfl (by decide) rfl ml_13_230 (by decide) rfl (rcv_1 hS rfl rfl h_x2 (by decide)) (by simp [Value.category]) rfl rfl (t_Mo_tell hS (by omega) x2 (X.2 (ix (x3 + (1 : Int32)))) v1988.2 h_x2) (fun v1997 => ?_)
  refine rf_ite (fun hc2000 => ?_) (fun hc2000 => ?_)
  · refine rf_b2t c_325_2000 rfl (decide_eq_true hc2000) ?_
    exact t_Lw_law_2077 hS hd hk18 x0 x1 x2 x3 v1997.2 h_x0 h_x1 h_x2
  · refine rf_b2f c_325_2000 rfl (decide_eq_false hc2000) ?_
    refine rf_iconst c_325_2003 ki_0 ?_
    exact rf_ret c_325_2004 rfl (by decide) rfl rfl
def f_Lw_law_2005 (X : Xt) (k18 : Nat → Nat → Nat → Int32 → Mm → Option (Int32 × Mm)) (x0 : Nat) (x1 : Nat) (x2 : Nat) (x3 : Int32) (σ : Mm) : Option (Int32 × Mm) := if inbB (x3 + (1 : Int32)) X.1 = true then (f_Ct_check x1 (X.2 (ix (x3 + (1 : Int32)))) σ).bind fun v2011 => if inbB (x3 + (1 : Int32)) X.1 = true then (f_Mo_check x2 (X.2 (ix (x3 + (1 : Int32)))) v2011.2).bind fun v2020 => (if v2011.1 = v2020.1 then (f_Lw_law_2077 X k18 x0 x1 x2 x3 v2020.2) else (some ((0 : Int32), v2020.2))) else none else none
set_option maxRecDepth 100000 in
set_option maxHeartbeats 4000000 in
theorem t_Lw_law_2005 {X : Xt} {S : Sh} (hS : ShOK S) {d : Nat} (hd : 63 ≤ d + 1) {k18 : Nat → Nat → Nat → Int32 → Mm → Option (Int32 × Mm)} (hk18 : ∀ (x0 : Nat) (x1 : Nat) (x2 : Nat) (x3 : Int32) (σ : Mm) (h_x0 : x0 = 1000009) (h_x1 : tgT x1 = 11) (h_x2 : tgT x2 = 12), Rf X S emM (k18 x0 x1 x2 x3 σ) (d + 1) 325 18 [.ref x0, .ref x1, .ref x2, .int x3] [] σ) (x0 : Nat) (x1 : Nat) (x2 : Nat) (x3 : Int32) (σ : Mm) (h_x0 : x0 = 1000009) (h_x1 : tgT x1 = 11) (h_x2 : tgT x2 = 12) : Rf X S emM (f_Lw_law_2005 X k18 x0 x1 x2 x3 σ) (d + 1) 325 2005 [.ref x0, .ref x1, .ref x2, .int x3] [] σ := by
  unfold f_Lw_law_2005
  refine rf_ald (i := 1) (Or.inr ⟨1, rfl, rfl, rfl⟩) c_325_2005 rfl ?_
  refine rf_ald (i := 0) (Or.inr ⟨0, rfl, rfl, rfl⟩) c_325_2006 rfl ?_
  refine rf_ild (i := 3) (Or.inr ⟨3, rfl, rfl, rfl⟩) c_325_2007 rfl ?_
  refine rf_iconst c_325_2008 ki_1 ?_
  refine rf_iadd c_325_2009 ?_
  refine rf_ite (fun hb2010 => ?_) (fun _ => rf_none)
  refine rf_xald2 h_x0 c_325_2010 hb2010 ?_
  refine rf_callM (as := [.ref x1, .int (X.2 (ix (x3 + (1 : Int32))))]) (kd := 1) c_325_2011 rfl (by decide) rfl ml_13_231 (by decide) rfl (rcv_1 hS rfl rfl h_x1 (by decide)) (Nat.zero_le _) rfl rfl (t_Ct_check hS (by omega) x1 (X.2 (ix (x3 + (1 : Int32)))) σ h_x1) (fun v2011 => ?_)
  refine rf_ald (i := 2) (Or.inr ⟨2, rfl, rfl, rfl⟩) c_325_2014 rfl ?_
  refine rf_ald (i := 0) (Or.inr ⟨0, rfl, rfl, rfl⟩) c_325_2015 rfl ?_
  refine rf_ild (i := 3) (Or.inr ⟨3, rfl, rfl, rfl⟩) c_325_2016 rfl ?_
  refine rf_iconst c_325_2017 ki_1 ?_
  refine rf_iadd c_325_2018 ?_
  refine rf_ite (fun hb2019 => ?_) (fun _ => rf_none)
  refine rf_xald2 h_x0 c_325_2019 hb2019 ?_
  refine rf_callM (as := [.ref x2, .int (X.2 (ix (x3 + (1 : Int32))))]) (kd := 1) c_325_2020 rfl (by decide) rfl ml_13_234 (by decide) rfl (rcv_1 hS rfl rfl h_x2 (by decide)) (by simp [Value.category]) rfl rfl (t_Mo_check hS (by omega) x2 (X.2 (ix (x3 + (1 : Int32)))) v2011.2 h_x2) (fun v2020 => ?_)
  refine rf_ite (fun hc2023 => ?_) (fun hc2023 => ?_)
  · refine rf_b2t c_325_2023 rfl (decide_eq_true hc2023) ?_
    exact t_Lw_law_2077 hS hd hk18 x0 x1 x2 x3 v2020.2 h_x0 h_x1 h_x2
  · refine rf_b2f c_325_2023 rfl (decide_eq_false hc2023) ?_
    refine rf_iconst c_325_2026 ki_0 ?_
    exact rf_ret c_325_2027 rfl (by decide) rfl rfl
def f_Lw_law_2028 (X : Xt) (k18 : Nat → Nat → Nat → Int32 → Mm → Option (Int32 × Mm)) (x0 : Nat) (x1 : Nat) (x2 : Nat) (x3 : Int32) (σ : Mm) : Option (Int32 × Mm) := (f_Ct_keep x1 σ).bind fun v2029 => (f_Mo_keep x2 v2029.2).bind fun v2033 => (if v2029.1 = v2033.1 then (f_Lw_law_2077 X k18 x0 x1 x2 x3 v2033.2) else (some ((0 : Int32), v2033.2)))
set_option maxRecDepth 100000 in
set_option maxHeartbeats 4000000 in
theorem t_Lw_law_2028 {X : Xt} {S : Sh} (hS : ShOK S) {d : Nat} (hd : 63 ≤ d + 1) {k18 : Nat → Nat → Nat → Int32 → Mm → Option (Int32 × Mm)} (hk18 : ∀ (x0 : Nat) (x1 : Nat) (x2 : Nat) (x3 : Int32) (σ : Mm) (h_x0 : x0 = 1000009) (h_x1 : tgT x1 = 11) (h_x2 : tgT x2 = 12), Rf X S emM (k18 x0 x1 x2 x3 σ) (d + 1) 325 18 [.ref x0, .ref x1, .ref x2, .int x3] [] σ) (x0 : Nat) (x1 : Nat) (x2 : Nat) (x3 : Int32) (σ : Mm) (h_x0 : x0 = 1000009) (h_x1 : tgT x1 = 11) (h_x2 : tgT x2 = 12) : Rf X S emM (f_Lw_law_2028 X k18 x0 x1 x2 x3 σ) (d + 1) 325 2028 [.ref x0, .ref x1, .ref x2, .int x3] [] σ := by
  unfold f_Lw_law_2028
  refine rf_ald (i := 1) (Or.inr ⟨1, rfl, rfl, rfl⟩) c_325_2028 rfl ?_
  refine rf_callM (as := [.ref x1]) (kd := 1) c_325_2029 rfl (by decide) rfl ml_13_235 (by decide) rfl (rcv_1 hS rfl rfl h_x1 (by decide)) (Nat.zero_le _) rfl rfl (t_Ct_keep hS (by omega) x1 σ h_x1) (fun v2029 => ?_)
  refine rf_ald (i := 2) (Or.inr ⟨2, rfl, rfl, rfl⟩) c_325_2032 rfl ?_
  refine rf_callM (as := [.ref x2]) (kd := 1) c_325_2033 rfl (by decide) rfl ml_13_238 (by decide) rfl (rcv_1 hS rfl rfl h_x2 (by decide)) (by simp [Value.category]) rfl rfl (t_Mo_keep hS (by omega) x2 v2029.2 h_x2) (fun v2033 => ?_)
  refine rf_ite (fun hc2036 => ?_) (fun hc2036 => ?_)
  · refine rf_b2t c_325_2036 rfl (decide_eq_true hc2036) ?_
    exact t_Lw_law_2077 hS hd hk18 x0 x1 x2 x3 v2033.2 h_x0 h_x1 h_x2
  · refine rf_b2f c_325_2036 rfl (decide_eq_false hc2036) ?_
    refine rf_iconst c_325_2039 ki_0 ?_
    exact rf_ret c_325_2040 rfl (by decide) rfl rfl
def f_Lw_law_2041 (X : Xt) (k18 : Nat → Nat → Nat → Int32 → Mm → Option (Int32 × Mm)) (x0 : Nat) (x1 : Nat) (x2 : Nat) (x3 : Int32) (σ : Mm) : Option (Int32 × Mm) := (f_Ct_back x1 σ).bind fun v2042 => (f_Mo_back x2 v2042.2).bind fun v2046 => (if v2042.1 = v2046.1 then (f_Lw_law_2077 X k18 x0 x1 x2 x3 v2046.2) else (some ((0 : Int32), v2046.2)))
set_option maxRecDepth 100000 in
set_option maxHeartbeats 4000000 in
theorem t_Lw_law_2041 {X : Xt} {S : Sh} (hS : ShOK S) {d : Nat} (hd : 63 ≤ d + 1) {k18 : Nat → Nat → Nat → Int32 → Mm → Option (Int32 × Mm)} (hk18 : ∀ (x0 : Nat) (x1 : Nat) (x2 : Nat) (x3 : Int32) (σ : Mm) (h_x0 : x0 = 1000009) (h_x1 : tgT x1 = 11) (h_x2 : tgT x2 = 12), Rf X S emM (k18 x0 x1 x2 x3 σ) (d + 1) 325 18 [.ref x0, .ref x1, .ref x2, .int x3] [] σ) (x0 : Nat) (x1 : Nat) (x2 : Nat) (x3 : Int32) (σ : Mm) (h_x0 : x0 = 1000009) (h_x1 : tgT x1 = 11) (h_x2 : tgT x2 = 12) : Rf X S emM (f_Lw_law_2041 X k18 x0 x1 x2 x3 σ) (d + 1) 325 2041 [.ref x0, .ref x1, .ref x2, .int x3] [] σ := by
  unfold f_Lw_law_2041
  refine rf_ald (i := 1) (Or.inr ⟨1, rfl, rfl, rfl⟩) c_325_2041 rfl ?_
  refine rf_callM (as := [.ref x1]) (kd := 1) c_325_2042 rfl (by decide) rfl ml_13_239 (by decide) rfl (rcv_1 hS rfl rfl h_x1 (by decide)) (Nat.zero_le _) rfl rfl (t_Ct_back hS (by omega) x1 σ h_x1) (fun v2042 => ?_)
  refine rf_ald (i := 2) (Or.inr ⟨2, rfl, rfl, rfl⟩) c_325_2045 rfl ?_
  refine rf_callM (as := [.ref x2]) (kd := 1) c_325_2046 rfl (by decide) rfl ml_13_242 (by decide) rfl (rcv_1 hS rfl rfl h_x2 (by decide)) (by simp [Value.category]) rfl rfl (t_Mo_back hS (by omega) x2 v2042.2 h_x2) (fun v2046 => ?_)
  refine rf_ite (fun hc2049 => ?_) (fun hc2049 => ?_)
  · refine rf_b2t c_325_2049 rfl (decide_eq_true hc2049) ?_
    exact t_Lw_law_2077 hS hd hk18 x0 x1 x2 x3 v2046.2 h_x0 h_x1 h_x2
  · refine rf_b2f c_325_2049 rfl (decide_eq_false hc2049) ?_
    refine rf_iconst c_325_2052 ki_0 ?_
    exact rf_ret c_325_2053 rfl (by decide) rfl rfl
def f_Lw_law_2054 (X : Xt) (k18 : Nat → Nat → Nat → Int32 → Mm → Option (Int32 × Mm)) (x0 : Nat) (x1 : Nat) (x2 : Nat) (x3 : Int32) (σ : Mm) : Option (Int32 × Mm) := if inbB (x3 + (1 : Int32)) X.1 = true then (f_Ct_count σ x1 (X.2 (ix (x3 + (1 : Int32))))).bind fun v2060 => if inbB (x3 + (1 : Int32)) X.1 = true then (f_Mo_count σ x2 (X.2 (ix (x3 + (1 : Int32))))).bind fun v2069 => (if v2060 = v2069 then (f_Lw_law_2077 X k18 x0 x1 x2 x3 σ) else (some ((0 : Int32), σ))) else none else none
set_option maxRecDepth 100000 in
set_option maxHeartbeats 4000000 in
theorem t_Lw_law_2054 {X : Xt} {S : Sh} (hS : ShOK S) {d : Nat} (hd : 63 ≤ d + 1) {k18 : Nat → Nat → Nat → Int32 → Mm → Option (Int32 × Mm)} (hk18 : ∀ (x0 : Nat) (x1 : Nat) (x2 : Nat) (x3 : Int32) (σ : Mm) (h_x0 : x0 = 1000009) (h_x1 : tgT x1 = 11) (h_x2 : tgT x2 = 12), Rf X S emM (k18 x0 x1 x2 x3 σ) (d + 1) 325 18 [.ref x0, .ref x1, .ref x2, .int x3] [] σ) (x0 : Nat) (x1 : Nat) (x2 : Nat) (x3 : Int32) (σ : Mm) (h_x0 : x0 = 1000009) (h_x1 : tgT x1 = 11) (h_x2 : tgT x2 = 12) : Rf X S emM (f_Lw_law_2054 X k18 x0 x1 x2 x3 σ) (d + 1) 325 2054 [.ref x0, .ref x1, .ref x2, .int x3] [] σ := by
  unfold f_Lw_law_2054
  refine rf_ald (i := 1) (Or.inr ⟨1, rfl, rfl, rfl⟩) c_325_2054 rfl ?_
  refine rf_ald (i := 0) (Or.inr ⟨0, rfl, rfl, rfl⟩) c_325_2055 rfl ?_
  refine rf_ild (i := 3) (Or.inr ⟨3, rfl, rfl, rfl⟩) c_325_2056 rfl ?_
  refine rf_iconst c_325_2057 ki_1 ?_
  refine rf_iadd c_325_2058 ?_
  refine rf_ite (fun hb2059 => ?_) (fun _ => rf_none)
  refine rf_xald2 h_x0 c_325_2059 hb2059 ?_
  refine rf_callI (as := [.ref x1, .int (X.2 (ix (x3 + (1 : Int32))))]) (kd := 1) c_325_2060 rfl (by decide) rfl ml_13_243 (by decide) rfl (rcv_1 hS rfl rfl h_x1 (by decide)) (Nat.zero_le _) rfl rfl (t_Ct_count hS (by omega) σ x1 (X.2 (ix (x3 + (1 : Int32)))) h_x1) (fun v2060 => ?_)
  refine rf_ald (i := 2) (Or.inr ⟨2, rfl, rfl, rfl⟩) c_325_2063 rfl ?_
  refine rf_ald (i := 0) (Or.inr ⟨0, rfl, rfl, rfl⟩) c_325_2064 rfl ?_
  refine rf_ild (i := 3) (Or.inr ⟨3, rfl, rfl, rfl⟩) c_325_2065 rfl ?_
  refine rf_iconst c_325_2066 ki_1 ?_
  refine rf_iadd c_325_2067 ?_
  refine rf_ite (fun hb2068 => ?_) (fun _ => rf_none)
  refine rf_xald2 h_x0 c_325_2068 hb2068 ?_
  refine rf_callI (as := [.ref x2, .int (X.2 (ix (x3 + (1 : Int32))))]) (kd := 1) c_325_2069 rfl (by decide) rfl ml_13_246 (by decide) rfl (rcv_1 hS rfl rfl h_x2 (by decide)) (by simp [Value.category]) rfl rfl (t_Mo_count hS (by omega) σ x2 (X.2 (ix (x3 + (1 : Int32)))) h_x2) (fun v2069 => ?_)
  refine rf_ite (fun hc2072 => ?_) (fun hc2072 => ?_)
  · refine rf_b2t c_325_2072 rfl (decide_eq_true hc2072) ?_
    exact t_Lw_law_2077 hS hd hk18 x0 x1 x2 x3 σ h_x0 h_x1 h_x2
  · refine rf_b2f c_325_2072 rfl (decide_eq_false hc2072) ?_
    refine rf_iconst c_325_2075 ki_0 ?_
    exact rf_ret c_325_2076 rfl (by decide) rfl rfl
def f_Lw_law_18 (X : Xt) : Nat → Nat → Nat → Nat → Int32 → Mm → Option (Int32 × Mm)
  | 0, _, _, _, _, _ => none
  | n + 1, x0, x1, x2, x3, σ => (if ((Int32.ofNat X.1) - (6 : Int32)) < x3 then (some ((1 : Int32), σ)) else (if inbB x3 X.1 = true then (if ((X.2 (ix x3)) &&& (63 : Int32)) = (0 : Int32) then (f_Lw_law_276 X (f_Lw_law_18 X n) x0 x1 x2 x3 σ) else (if ((X.2 (ix x3)) &&& (63 : Int32)) = (1 : Int32) then (f_Lw_law_289 X (f_Lw_law_18 X n) x0 x1 x2 x3 σ) else (if ((X.2 (ix x3)) &&& (63 : Int32)) = (2 : Int32) then (f_Lw_law_322 X (f_Lw_law_18 X n) x0 x1 x2 x3 σ) else (if ((X.2 (ix x3)) &&& (63 : Int32)) = (3 : Int32) then (f_Lw_law_355 X (f_Lw_law_18 X n) x0 x1 x2 x3 σ) else (if ((X.2 (ix x3)) &&& (63 : Int32)) = (4 : Int32) then (f_Lw_law_368 X (f_Lw_law_18 X n) x0 x1 x2 x3 σ) else (if ((X.2 (ix x3)) &&& (63 : Int32)) = (5 : Int32) then (f_Lw_law_411 X (f_Lw_law_18 X n) x0 x1 x2 x3 σ) else (if ((X.2 (ix x3)) &&& (63 : Int32)) = (6 : Int32) then (f_Lw_law_444 X (f_Lw_law_18 X n) x0 x1 x2 x3 σ) else (if ((X.2 (ix x3)) &&& (63 : Int32)) = (7 : Int32) then (f_Lw_law_477 X (f_Lw_law_18 X n) x0 x1 x2 x3 σ) else (if ((X.2 (ix x3)) &&& (63 : Int32)) = (8 : Int32) then (f_Lw_law_520 X (f_Lw_law_18 X n) x0 x1 x2 x3 σ) else (if ((X.2 (ix x3)) &&& (63 : Int32)) = (9 : Int32) then (f_Lw_law_573 X (f_Lw_law_18 X n) x0 x1 x2 x3 σ) else (if ((X.2 (ix x3)) &&& (63 : Int32)) = (10 : Int32) then (f_Lw_law_636 X (f_Lw_law_18 X n) x0 x1 x2 x3 σ) else (if ((X.2 (ix x3)) &&& (63 : Int32)) = (11 : Int32) then (f_Lw_law_669 X (f_Lw_law_18 X n) x0 x1 x2 x3 σ) else (if ((X.2 (ix x3)) &&& (63 : Int32)) = (12 : Int32) then (f_Lw_law_702 X (f_Lw_law_18 X n) x0 x1 x2 x3 σ) else (if ((X.2 (ix x3)) &&& (63 : Int32)) = (13 : Int32) then (f_Lw_law_725 X (f_Lw_law_18 X n) x0 x1 x2 x3 σ) else (if ((X.2 (ix x3)) &&& (63 : Int32)) = (14 : Int32) then (f_Lw_law_748 X (f_Lw_law_18 X n) x0 x1 x2 x3 σ) else (if ((X.2 (ix x3)) &&& (63 : Int32)) = (15 : Int32) then (f_Lw_law_791 X (f_Lw_law_18 X n) x0 x1 x2 x3 σ) else (if ((X.2 (ix x3)) &&& (63 : Int32)) = (16 : Int32) then (f_Lw_law_834 X (f_Lw_law_18 X n) x0 x1 x2 x3 σ) else (if ((X.2 (ix x3)) &&& (63 : Int32)) = (17 : Int32) then (f_Lw_law_857 X (f_Lw_law_18 X n) x0 x1 x2 x3 σ) else (if ((X.2 (ix x3)) &&& (63 : Int32)) = (18 : Int32) then (f_Lw_law_880 X (f_Lw_law_18 X n) x0 x1 x2 x3 σ) else (if ((X.2 (ix x3)) &&& (63 : Int32)) = (19 : Int32) then (f_Lw_law_913 X (f_Lw_law_18 X n) x0 x1 x2 x3 σ) else (if ((X.2 (ix x3)) &&& (63 : Int32)) = (20 : Int32) then (f_Lw_law_946 X (f_Lw_law_18 X n) x0 x1 x2 x3 σ) else (if ((X.2 (ix x3)) &&& (63 : Int32)) = (21 : Int32) then (f_Lw_law_979 X (f_Lw_law_18 X n) x0 x1 x2 x3 σ) else (if ((X.2 (ix x3)) &&& (63 : Int32)) = (22 : Int32) then (f_Lw_law_1012 X (f_Lw_law_18 X n) x0 x1 x2 x3 σ) else (if ((X.2 (ix x3)) &&& (63 : Int32)) = (23 : Int32) then (f_Lw_law_1045 X (f_Lw_law_18 X n) x0 x1 x2 x3 σ) else (if ((X.2 (ix x3)) &&& (63 : Int32)) = (24 : Int32) then (f_Lw_law_1078 X (f_Lw_law_18 X n) x0 x1 x2 x3 σ) else (if ((X.2 (ix x3)) &&& (63 : Int32)) = (25 : Int32) then (f_Lw_law_1121 X (f_Lw_law_18 X n) x0 x1 x2 x3 σ) else (if ((X.2 (ix x3)) &&& (63 : Int32)) = (26 : Int32) then (f_Lw_law_1164 X (f_Lw_law_18 X n) x0 x1 x2 x3 σ) else (if ((X.2 (ix x3)) &&& (63 : Int32)) = (27 : Int32) then (f_Lw_law_1197 X (f_Lw_law_18 X n) x0 x1 x2 x3 σ) else (if ((X.2 (ix x3)) &&& (63 : Int32)) = (28 : Int32) then (f_Lw_law_1220 X (f_Lw_law_18 X n) x0 x1 x2 x3 σ) else (if ((X.2 (ix x3)) &&& (63 : Int32)) = (29 : Int32) then (f_Lw_law_1243 X (f_Lw_law_18 X n) x0 x1 x2 x3 σ) else (if ((X.2 (ix x3)) &&& (63 : Int32)) = (30 : Int32) then (f_Lw_law_1276 X (f_Lw_law_18 X n) x0 x1 x2 x3 σ) else (if ((X.2 (ix x3)) &&& (63 : Int32)) = (31 : Int32) then (f_Lw_law_1309 X (f_Lw_law_18 X n) x0 x1 x2 x3 σ) else (if ((X.2 (ix x3)) &&& (63 : Int32)) = (32 : Int32) then (f_Lw_law_1332 X (f_Lw_law_18 X n) x0 x1 x2 x3 σ) else (if ((X.2 (ix x3)) &&& (63 : Int32)) = (33 : Int32) then (f_Lw_law_1365 X (f_Lw_law_18 X n) x0 x1 x2 x3 σ) else (if ((X.2 (ix x3)) &&& (63 : Int32)) = (34 : Int32) then (f_Lw_law_1388 X (f_Lw_law_18 X n) x0 x1 x2 x3 σ) else (if ((X.2 (ix x3)) &&& (63 : Int32)) = (35 : Int32) then (f_Lw_law_1411 X (f_Lw_law_18 X n) x0 x1 x2 x3 σ) else (if ((X.2 (ix x3)) &&& (63 : Int32)) = (36 : Int32) then (f_Lw_law_1434 X (f_Lw_law_18 X n) x0 x1 x2 x3 σ) else (if ((X.2 (ix x3)) &&& (63 : Int32)) = (37 : Int32) then (f_Lw_law_1477 X (f_Lw_law_18 X n) x0 x1 x2 x3 σ) else (if ((X.2 (ix x3)) &&& (63 : Int32)) = (38 : Int32) then (f_Lw_law_1500 X (f_Lw_law_18 X n) x0 x1 x2 x3 σ) else (if ((X.2 (ix x3)) &&& (63 : Int32)) = (39 : Int32) then (f_Lw_law_1523 X (f_Lw_law_18 X n) x0 x1 x2 x3 σ) else (if ((X.2 (ix x3)) &&& (63 : Int32)) = (40 : Int32) then (f_Lw_law_1566 X (f_Lw_law_18 X n) x0 x1 x2 x3 σ) else (if ((X.2 (ix x3)) &&& (63 : Int32)) = (41 : Int32) then (f_Lw_law_1609 X (f_Lw_law_18 X n) x0 x1 x2 x3 σ) else (if ((X.2 (ix x3)) &&& (63 : Int32)) = (42 : Int32) then (f_Lw_law_1642 X (f_Lw_law_18 X n) x0 x1 x2 x3 σ) else (if ((X.2 (ix x3)) &&& (63 : Int32)) = (43 : Int32) then (f_Lw_law_1655 X (f_Lw_law_18 X n) x0 x1 x2 x3 σ) else (if ((X.2 (ix x3)) &&& (63 : Int32)) = (44 : Int32) then (f_Lw_law_1678 X (f_Lw_law_18 X n) x0 x1 x2 x3 σ) else (if ((X.2 (ix x3)) &&& (63 : Int32)) = (45 : Int32) then (f_Lw_law_1691 X (f_Lw_law_18 X n) x0 x1 x2 x3 σ) else (if ((X.2 (ix x3)) &&& (63 : Int32)) = (46 : Int32) then (f_Lw_law_1734 X (f_Lw_law_18 X n) x0 x1 x2 x3 σ) else (if ((X.2 (ix x3)) &&& (63 : Int32)) = (47 : Int32) then (f_Lw_law_1777 X (f_Lw_law_18 X n) x0 x1 x2 x3 σ) else (if ((X.2 (ix x3)) &&& (63 : Int32)) = (48 : Int32) then (f_Lw_law_1840 X (f_Lw_law_18 X n) x0 x1 x2 x3 σ) else (if ((X.2 (ix x3)) &&& (63 : Int32)) = (49 : Int32) then (f_Lw_law_1883 X (f_Lw_law_18 X n) x0 x1 x2 x3 σ) else (if ((X.2 (ix x3)) &&& (63 : Int32)) = (50 : Int32) then (f_Lw_law_1916 X (f_Lw_law_18 X n) x0 x1 x2 x3 σ) else (if ((X.2 (ix x3)) &&& (63 : Int32)) = (51 : Int32) then (f_Lw_law_1949 X (f_Lw_law_18 X n) x0 x1 x2 x3 σ) else (if ((X.2 (ix x3)) &&& (63 : Int32)) = (52 : Int32) then (f_Lw_law_1982 X (f_Lw_law_18 X n) x0 x1 x2 x3 σ) else (if ((X.2 (ix x3)) &&& (63 : Int32)) = (53 : Int32) then (f_Lw_law_2005 X (f_Lw_law_18 X n) x0 x1 x2 x3 σ) else (if ((X.2 (ix x3)) &&& (63 : Int32)) = (54 : Int32) then (f_Lw_law_2028 X (f_Lw_law_18 X n) x0 x1 x2 x3 σ) else (if ((X.2 (ix x3)) &&& (63 : Int32)) = (55 : Int32) then (f_Lw_law_2041 X (f_Lw_law_18 X n) x0 x1 x2 x3 σ) else (if ((X.2 (ix x3)) &&& (63 : Int32)) = (56 : Int32) then (f_Lw_law_2054 X (f_Lw_law_18 X n) x0 x1 x2 x3 σ) else (f_Lw_law_2077 X (f_Lw_law_18 X n) x0 x1 x2 x3 σ)))))))))))))))))))))))))))))))))))))))))))))))))))))))))) else none))
set_option maxRecDepth 100000 in
set_option maxHeartbeats 4000000 in
theorem t_Lw_law_18 {X : Xt} {S : Sh} (hS : ShOK S) {d : Nat} (hd : 63 ≤ d + 1) : ∀ (n : Nat) (x0 : Nat) (x1 : Nat) (x2 : Nat) (x3 : Int32) (σ : Mm) (h_x0 : x0 = 1000009) (h_x1 : tgT x1 = 11) (h_x2 : tgT x2 = 12), Rf X S emM (f_Lw_law_18 X n x0 x1 x2 x3 σ) (d + 1) 325 18 [.ref x0, .ref x1, .ref x2, .int x3] [] σ := by
  intro n
  induction n with
  | zero => intro x0 x1 x2 x3 σ h_x0 h_x1 h_x2; exact rf_none
  | succ n ih =>
    intro x0 x1 x2 x3 σ h_x0 h_x1 h_x2
    rw [f_Lw_law_18]
    refine rf_ild (i := 3) (Or.inr ⟨3, rfl, rfl, rfl⟩) c_325_18 rfl ?_
    refine rf_ald (i := 0) (Or.inr ⟨0, rfl, rfl, rfl⟩) c_325_19 rfl ?_
    refine rf_alen2 h_x0 c_325_20 ?_
    refine rf_bipush c_325_21 kb_6 ?_
    refine rf_isub c_325_23 ?_
    refine rf_ite (fun hc24 => ?_) (fun hc24 => ?_)
    · refine rf_b2t c_325_24 rfl (decide_eq_true hc24) ?_
      refine rf_iconst c_325_2083 ki_1 ?_
      exact rf_ret c_325_2084 rfl (by decide) rfl rfl
    · refine rf_b2f c_325_24 rfl (decide_eq_false hc24) ?_
      refine rf_ald (i := 0) (Or.inr ⟨0, rfl, rfl, rfl⟩) c_325_27 rfl ?_
      refine rf_ild (i := 3) (Or.inr ⟨3, rfl, rfl, rfl⟩) c_325_28 rfl ?_
      refine rf_ite (fun hb29 => ?_) (fun _ => rf_none)
      refine rf_xald2 h_x0 c_325_29 hb29 ?_
      refine rf_bipush c_325_30 kb_63 ?_
      refine rf_iand c_325_32 ?_
      refine rf_ite (fun hs33_0 => ?_) (fun hs33_0 => ?_)
      · refine rf_tsw (o := 243) c_325_33 (by rw [hs33_0]; decide) rfl ?_
        exact t_Lw_law_276 hS hd ih x0 x1 x2 x3 σ h_x0 h_x1 h_x2
      · refine rf_ite (fun hs33_1 => ?_) (fun hs33_1 => ?_)
        · refine rf_tsw (o := 256) c_325_33 (by rw [hs33_1]; decide) rfl ?_
          exact t_Lw_law_289 hS hd ih x0 x1 x2 x3 σ h_x0 h_x1 h_x2
        · refine rf_ite (fun hs33_2 => ?_) (fun hs33_2 => ?_)
          · refine rf_tsw (o := 289) c_325_33 (by rw [hs33_2]; decide) rfl ?_
            exact t_Lw_law_322 hS hd ih x0 x1 x2 x3 σ h_x0 h_x1 h_x2
          · refine rf_ite (fun hs33_3 => ?_) (fun hs33_3 => ?_)
            · refine rf_tsw (o := 322) c_325_33 (by rw [hs33_3]; decide) rfl ?_
              exact t_Lw_law_355 hS hd ih x0 x1 x2 x3 σ h_x0 h_x1 h_x2
            · refine rf_ite (fun hs33_4 => ?_) (fun hs33_4 => ?_)
              · refine rf_tsw (o := 335) c_325_33 (by rw [hs33_4]; decide) rfl ?_
                exact t_Lw_law_368 hS hd ih x0 x1 x2 x3 σ h_x0 h_x1 h_x2
              · refine rf_ite (fun hs33_5 => ?_) (fun hs33_5 => ?_)
                · refine rf_tsw (o := 378) c_325_33 (by rw [hs33_5]; decide) rfl ?_
                  exact t_Lw_law_411 hS hd ih x0 x1 x2 x3 σ h_x0 h_x1 h_x2
                · refine rf_ite (fun hs33_6 => ?_) (fun hs33_6 => ?_)
                  · refine rf_tsw (o := 411) c_325_33 (by rw [hs33_6]; decide) rfl ?_
                    exact t_Lw_law_444 hS hd ih x0 x1 x2 x3 σ h_x0 h_x1 h_x2
                  · refine rf_ite (fun hs33_7 => ?_) (fun hs33_7 => ?_)
                    · refine rf_tsw (o := 444) c_325_33 (by rw [hs33_7]; decide) rfl ?_
                      exact t_Lw_law_477 hS hd ih x0 x1 x2 x3 σ h_x0 h_x1 h_x2
                    · refine rf_ite (fun hs33_8 => ?_) (fun hs33_8 => ?_)
                      · refine rf_tsw (o := 487) c_325_33 (by rw [hs33_8]; decide) rfl ?_
                        exact t_Lw_law_520 hS hd ih x0 x1 x2 x3 σ h_x0 h_x1 h_x2
                      · refine rf_ite (fun hs33_9 => ?_) (fun hs33_9 => ?_)
                        · refine rf_tsw (o := 540) c_325_33 (by rw [hs33_9]; decide) rfl ?_
                          exact t_Lw_law_573 hS hd ih x0 x1 x2 x3 σ h_x0 h_x1 h_x2
                        · refine rf_ite (fun hs33_10 => ?_) (fun hs33_10 => ?_)
                          · refine rf_tsw (o := 603) c_325_33 (by rw [hs33_10]; decide) rfl ?_
                            exact t_Lw_law_636 hS hd ih x0 x1 x2 x3 σ h_x0 h_x1 h_x2
                          · refine rf_ite (fun hs33_11 => ?_) (fun hs33_11 => ?_)
                            · refine rf_tsw (o := 636) c_325_33 (by rw [hs33_11]; decide) rfl ?_
                              exact t_Lw_law_669 hS hd ih x0 x1 x2 x3 σ h_x0 h_x1 h_x2
                            · refine rf_ite (fun hs33_12 => ?_) (fun hs33_12 => ?_)
                              · refine rf_tsw (o := 669) c_325_33 (by rw [hs33_12]; decide) rfl ?_
                                exact t_Lw_law_702 hS hd ih x0 x1 x2 x3 σ h_x0 h_x1 h_x2
                              · refine rf_ite (fun hs33_13 => ?_) (fun hs33_13 => ?_)
                                · refine rf_tsw (o := 692) c_325_33 (by rw [hs33_13]; decide) rfl ?_
                                  exact t_Lw_law_725 hS hd ih x0 x1 x2 x3 σ h_x0 h_x1 h_x2
                                · refine rf_ite (fun hs33_14 => ?_) (fun hs33_14 => ?_)
                                  · refine rf_tsw (o := 715) c_325_33 (by rw [hs33_14]; decide) rfl ?_
                                    exact t_Lw_law_748 hS hd ih x0 x1 x2 x3 σ h_x0 h_x1 h_x2
                                  · refine rf_ite (fun hs33_15 => ?_) (fun hs33_15 => ?_)
                                    · refine rf_tsw (o := 758) c_325_33 (by rw [hs33_15]; decide) rfl ?_
                                      exact t_Lw_law_791 hS hd ih x0 x1 x2 x3 σ h_x0 h_x1 h_x2
                                    · refine rf_ite (fun hs33_16 => ?_) (fun hs33_16 => ?_)
                                      · refine rf_tsw (o := 801) c_325_33 (by rw [hs33_16]; decide) rfl ?_
                                        exact t_Lw_law_834 hS hd ih x0 x1 x2 x3 σ h_x0 h_x1 h_x2
                                      · refine rf_ite (fun hs33_17 => ?_) (fun hs33_17 => ?_)
                                        · refine rf_tsw (o := 824) c_325_33 (by rw [hs33_17]; decide) rfl ?_
                                          exact t_Lw_law_857 hS hd ih x0 x1 x2 x3 σ h_x0 h_x1 h_x2
                                        · refine rf_ite (fun hs33_18 => ?_) (fun hs33_18 => ?_)
                                          · refine rf_tsw (o := 847) c_325_33 (by rw [hs33_18]; decide) rfl ?_
                                            exact t_Lw_law_880 hS hd ih x0 x1 x2 x3 σ h_x0 h_x1 h_x2
                                          · refine rf_ite (fun hs33_19 => ?_) (fun hs33_19 => ?_)
                                            · refine rf_tsw (o := 880) c_325_33 (by rw [hs33_19]; decide) rfl ?_
                                              exact t_Lw_law_913 hS hd ih x0 x1 x2 x3 σ h_x0 h_x1 h_x2
                                            · refine rf_ite (fun hs33_20 => ?_) (fun hs33_20 => ?_)
                                              · refine rf_tsw (o := 913) c_325_33 (by rw [hs33_20]; decide) rfl ?_
                                                exact t_Lw_law_946 hS hd ih x0 x1 x2 x3 σ h_x0 h_x1 h_x2
                                              · refine rf_ite (fun hs33_21 => ?_) (fun hs33_21 => ?_)
                                                · refine rf_tsw (o := 946) c_325_33 (by rw [hs33_21]; decide) rfl ?_
                                                  exact t_Lw_law_979 hS hd ih x0 x1 x2 x3 σ h_x0 h_x1 h_x2
                                                · refine rf_ite (fun hs33_22 => ?_) (fun hs33_22 => ?_)
                                                  · refine rf_tsw (o := 979) c_325_33 (by rw [hs33_22]; decide) rfl ?_
                                                    exact t_Lw_law_1012 hS hd ih x0 x1 x2 x3 σ h_x0 h_x1 h_x2
                                                  · refine rf_ite (fun hs33_23 => ?_) (fun hs33_23 => ?_)
                                                    · refine rf_tsw (o := 1012) c_325_33 (by rw [hs33_23]; decide) rfl ?_
                                                      exact t_Lw_law_1045 hS hd ih x0 x1 x2 x3 σ h_x0 h_x1 h_x2
                                                    · refine rf_ite (fun hs33_24 => ?_) (fun hs33_24 => ?_)
                                                      · refine rf_tsw (o := 1045) c_325_33 (by rw [hs33_24]; decide) rfl ?_
                                                        exact t_Lw_law_1078 hS hd ih x0 x1 x2 x3 σ h_x0 h_x1 h_x2
                                                      · refine rf_ite (fun hs33_25 => ?_) (fun hs33_25 => ?_)
                                                        · refine rf_tsw (o := 1088) c_325_33 (by rw [hs33_25]; decide) rfl ?_
                                                          exact t_Lw_law_1121 hS hd ih x0 x1 x2 x3 σ h_x0 h_x1 h_x2
                                                        · refine rf_ite (fun hs33_26 => ?_) (fun hs33_26 => ?_)
                                                          · refine rf_tsw (o := 1131) c_325_33 (by rw [hs33_26]; decide) rfl ?_
                                                            exact t_Lw_law_1164 hS hd ih x0 x1 x2 x3 σ h_x0 h_x1 h_x2
                                                          · refine rf_ite (fun hs33_27 => ?_) (fun hs33_27 => ?_)
                                                            · refine rf_tsw (o := 1164) c_325_33 (by rw [hs33_27]; decide) rfl ?_
                                                              exact t_Lw_law_1197 hS hd ih x0 x1 x2 x3 σ h_x0 h_x1 h_x2
                                                            · refine rf_ite (fun hs33_28 => ?_) (fun hs33_28 => ?_)
                                                              · refine rf_tsw (o := 1187) c_325_33 (by rw [hs33_28]; decide) rfl ?_
                                                                exact t_Lw_law_1220 hS hd ih x0 x1 x2 x3 σ h_x0 h_x1 h_x2
                                                              · refine rf_ite (fun hs33_29 => ?_) (fun hs33_29 => ?_)
                                                                · refine rf_tsw (o := 1210) c_325_33 (by rw [hs33_29]; decide) rfl ?_
                                                                  exact t_Lw_law_1243 hS hd ih x0 x1 x2 x3 σ h_x0 h_x1 h_x2
                                                                · refine rf_ite (fun hs33_30 => ?_) (fun hs33_30 => ?_)
                                                                  · refine rf_tsw (o := 1243) c_325_33 (by rw [hs33_30]; decide) rfl ?_
                                                                    exact t_Lw_law_1276 hS hd ih x0 x1 x2 x3 σ h_x0 h_x1 h_x2
                                                                  · refine rf_ite (fun hs33_31 => ?_) (fun hs33_31 => ?_)
                                                                    · refine rf_tsw (o := 1276) c_325_33 (by rw [hs33_31]; decide) rfl ?_
                                                                      exact t_Lw_law_1309 hS hd ih x0 x1 x2 x3 σ h_x0 h_x1 h_x2
                                                                    · refine rf_ite (fun hs33_32 => ?_) (fun hs33_32 => ?_)
                                                                      · refine rf_tsw (o := 1299) c_325_33 (by rw [hs33_32]; decide) rfl ?_
                                                                        exact t_Lw_law_1332 hS hd ih x0 x1 x2 x3 σ h_x0 h_x1 h_x2
                                                                      · refine rf_ite (fun hs33_33 => ?_) (fun hs33_33 => ?_)
                                                                        · refine rf_tsw (o := 1332) c_325_33 (by rw [hs33_33]; decide) rfl ?_
                                                                          exact t_Lw_law_1365 hS hd ih x0 x1 x2 x3 σ h_x0 h_x1 h_x2
                                                                        · refine rf_ite (fun hs33_34 => ?_) (fun hs33_34 => ?_)
                                                                          · refine rf_tsw (o := 1355) c_325_33 (by rw [hs33_34]; decide) rfl ?_
                                                                            exact t_Lw_law_1388 hS hd ih x0 x1 x2 x3 σ h_x0 h_x1 h_x2
                                                                          · refine rf_ite (fun hs33_35 => ?_) (fun hs33_35 => ?_)
                                                                            · refine rf_tsw (o := 1378) c_325_33 (by rw [hs33_35]; decide) rfl ?_
                                                                              exact t_Lw_law_1411 hS hd ih x0 x1 x2 x3 σ h_x0 h_x1 h_x2
                                                                            · refine rf_ite (fun hs33_36 => ?_) (fun hs33_36 => ?_)
                                                                              · refine rf_tsw (o := 1401) c_325_33 (by rw [hs33_36]; decide) rfl ?_
                                                                                exact t_Lw_law_1434 hS hd ih x0 x1 x2 x3 σ h_x0 h_x1 h_x2
                                                                              · refine rf_ite (fun hs33_37 => ?_) (fun hs33_37 => ?_)
                                                                                · refine rf_tsw (o := 1444) c_325_33 (by rw [hs33_37]; decide) rfl ?_
                                                                                  exact t_Lw_law_1477 hS hd ih x0 x1 x2 x3 σ h_x0 h_x1 h_x2
                                                                                · refine rf_ite (fun hs33_38 => ?_) (fun hs33_38 => ?_)
                                                                                  · refine rf_tsw (o := 1467) c_325_33 (by rw [hs33_38]; decide) rfl ?_
                                                                                    exact t_Lw_law_1500 hS hd ih x0 x1 x2 x3 σ h_x0 h_x1 h_x2
                                                                                  · refine rf_ite (fun hs33_39 => ?_) (fun hs33_39 => ?_)
                                                                                    · refine rf_tsw (o := 1490) c_325_33 (by rw [hs33_39]; decide) rfl ?_
                                                                                      exact t_Lw_law_1523 hS hd ih x0 x1 x2 x3 σ h_x0 h_x1 h_x2
                                                                                    · refine rf_ite (fun hs33_40 => ?_) (fun hs33_40 => ?_)
                                                                                      · refine rf_tsw (o := 1533) c_325_33 (by rw [hs33_40]; decide) rfl ?_
                                                                                        exact t_Lw_law_1566 hS hd ih x0 x1 x2 x3 σ h_x0 h_x1 h_x2
                                                                                      · refine rf_ite (fun hs33_41 => ?_) (fun hs33_41 => ?_)
                                                                                        · refine rf_tsw (o := 1576) c_325_33 (by rw [hs33_41]; decide) rfl ?_
                                                                                          exact t_Lw_law_1609 hS hd ih x0 x1 x2 x3 σ h_x0 h_x1 h_x2
                                                                                        · refine rf_ite (fun hs33_42 => ?_) (fun hs33_42 => ?_)
                                                                                          · refine rf_tsw (o := 1609) c_325_33 (by rw [hs33_42]; decide) rfl ?_
                                                                                            exact t_Lw_law_1642 hS hd ih x0 x1 x2 x3 σ h_x0 h_x1 h_x2
                                                                                          · refine rf_ite (fun hs33_43 => ?_) (fun hs33_43 => ?_)
                                                                                            · refine rf_tsw (o := 1622) c_325_33 (by rw [hs33_43]; decide) rfl ?_
                                                                                              exact t_Lw_law_1655 hS hd ih x0 x1 x2 x3 σ h_x0 h_x1 h_x2
                                                                                            · refine rf_ite (fun hs33_44 => ?_) (fun hs33_44 => ?_)
                                                                                              · refine rf_tsw (o := 1645) c_325_33 (by rw [hs33_44]; decide) rfl ?_
                                                                                                exact t_Lw_law_1678 hS hd ih x0 x1 x2 x3 σ h_x0 h_x1 h_x2
                                                                                              · refine rf_ite (fun hs33_45 => ?_) (fun hs33_45 => ?_)
                                                                                                · refine rf_tsw (o := 1658) c_325_33 (by rw [hs33_45]; decide) rfl ?_
                                                                                                  exact t_Lw_law_1691 hS hd ih x0 x1 x2 x3 σ h_x0 h_x1 h_x2
                                                                                                · refine rf_ite (fun hs33_46 => ?_) (fun hs33_46 => ?_)
                                                                                                  · refine rf_tsw (o := 1701) c_325_33 (by rw [hs33_46]; decide) rfl ?_
                                                                                                    exact t_Lw_law_1734 hS hd ih x0 x1 x2 x3 σ h_x0 h_x1 h_x2
                                                                                                  · refine rf_ite (fun hs33_47 => ?_) (fun hs33_47 => ?_)
                                                                                                    · refine rf_tsw (o := 1744) c_325_33 (by rw [hs33_47]; decide) rfl ?_
                                                                                                      exact t_Lw_law_1777 hS hd ih x0 x1 x2 x3 σ h_x0 h_x1 h_x2
                                                                                                    · refine rf_ite (fun hs33_48 => ?_) (fun hs33_48 => ?_)
                                                                                                      · refine rf_tsw (o := 1807) c_325_33 (by rw [hs33_48]; decide) rfl ?_
                                                                                                        exact t_Lw_law_1840 hS hd ih x0 x1 x2 x3 σ h_x0 h_x1 h_x2
                                                                                                      · refine rf_ite (fun hs33_49 => ?_) (fun hs33_49 => ?_)
                                                                                                        · refine rf_tsw (o := 1850) c_325_33 (by rw [hs33_49]; decide) rfl ?_
                                                                                                          exact t_Lw_law_1883 hS hd ih x0 x1 x2 x3 σ h_x0 h_x1 h_x2
                                                                                                        · refine rf_ite (fun hs33_50 => ?_) (fun hs33_50 => ?_)
                                                                                                          · refine rf_tsw (o := 1883) c_325_33 (by rw [hs33_50]; decide) rfl ?_
                                                                                                            exact t_Lw_law_1916 hS hd ih x0 x1 x2 x3 σ h_x0 h_x1 h_x2
                                                                                                          · refine rf_ite (fun hs33_51 => ?_) (fun hs33_51 => ?_)
                                                                                                            · refine rf_tsw (o := 1916) c_325_33 (by rw [hs33_51]; decide) rfl ?_
                                                                                                              exact t_Lw_law_1949 hS hd ih x0 x1 x2 x3 σ h_x0 h_x1 h_x2
                                                                                                            · refine rf_ite (fun hs33_52 => ?_) (fun hs33_52 => ?_)
                                                                                                              · refine rf_tsw (o := 1949) c_325_33 (by rw [hs33_52]; decide) rfl ?_
                                                                                                                exact t_Lw_law_1982 hS hd ih x0 x1 x2 x3 σ h_x0 h_x1 h_x2
                                                                                                              · refine rf_ite (fun hs33_53 => ?_) (fun hs33_53 => ?_)
                                                                                                                · refine rf_tsw (o := 1972) c_325_33 (by rw [hs33_53]; decide) rfl ?_
                                                                                                                  exact t_Lw_law_2005 hS hd ih x0 x1 x2 x3 σ h_x0 h_x1 h_x2
                                                                                                                · refine rf_ite (fun hs33_54 => ?_) (fun hs33_54 => ?_)
                                                                                                                  · refine rf_tsw (o := 1995) c_325_33 (by rw [hs33_54]; decide) rfl ?_
                                                                                                                    exact t_Lw_law_2028 hS hd ih x0 x1 x2 x3 σ h_x0 h_x1 h_x2
                                                                                                                  · refine rf_ite (fun hs33_55 => ?_) (fun hs33_55 => ?_)
                                                                                                                    · refine rf_tsw (o := 2008) c_325_33 (by rw [hs33_55]; decide) rfl ?_
                                                                                                                      exact t_Lw_law_2041 hS hd ih x0 x1 x2 x3 σ h_x0 h_x1 h_x2
                                                                                                                    · refine rf_ite (fun hs33_56 => ?_) (fun hs33_56 => ?_)
                                                                                                                      · refine rf_tsw (o := 2021) c_325_33 (by rw [hs33_56]; decide) rfl ?_
                                                                                                                        exact t_Lw_law_2054 hS hd ih x0 x1 x2 x3 σ h_x0 h_x1 h_x2
                                                                                                                      · refine rf_tsw c_325_33 (if_pos (by have e0 := lv_neT hs33_0 (a := 0) (by decide); have e1 := lv_neT hs33_1 (a := 1) (by decide); have e2 := lv_neT hs33_2 (a := 2) (by decide); have e3 := lv_neT hs33_3 (a := 3) (by decide); have e4 := lv_neT hs33_4 (a := 4) (by decide); have e5 := lv_neT hs33_5 (a := 5) (by decide); have e6 := lv_neT hs33_6 (a := 6) (by decide); have e7 := lv_neT hs33_7 (a := 7) (by decide); have e8 := lv_neT hs33_8 (a := 8) (by decide); have e9 := lv_neT hs33_9 (a := 9) (by decide); have e10 := lv_neT hs33_10 (a := 10) (by decide); have e11 := lv_neT hs33_11 (a := 11) (by decide); have e12 := lv_neT hs33_12 (a := 12) (by decide); have e13 := lv_neT hs33_13 (a := 13) (by decide); have e14 := lv_neT hs33_14 (a := 14) (by decide); have e15 := lv_neT hs33_15 (a := 15) (by decide); have e16 := lv_neT hs33_16 (a := 16) (by decide); have e17 := lv_neT hs33_17 (a := 17) (by decide); have e18 := lv_neT hs33_18 (a := 18) (by decide); have e19 := lv_neT hs33_19 (a := 19) (by decide); have e20 := lv_neT hs33_20 (a := 20) (by decide); have e21 := lv_neT hs33_21 (a := 21) (by decide); have e22 := lv_neT hs33_22 (a := 22) (by decide); have e23 := lv_neT hs33_23 (a := 23) (by decide); have e24 := lv_neT hs33_24 (a := 24) (by decide); have e25 := lv_neT hs33_25 (a := 25) (by decide); have e26 := lv_neT hs33_26 (a := 26) (by decide); have e27 := lv_neT hs33_27 (a := 27) (by decide); have e28 := lv_neT hs33_28 (a := 28) (by decide); have e29 := lv_neT hs33_29 (a := 29) (by decide); have e30 := lv_neT hs33_30 (a := 30) (by decide); have e31 := lv_neT hs33_31 (a := 31) (by decide); have e32 := lv_neT hs33_32 (a := 32) (by decide); have e33 := lv_neT hs33_33 (a := 33) (by decide); have e34 := lv_neT hs33_34 (a := 34) (by decide); have e35 := lv_neT hs33_35 (a := 35) (by decide); have e36 := lv_neT hs33_36 (a := 36) (by decide); have e37 := lv_neT hs33_37 (a := 37) (by decide); have e38 := lv_neT hs33_38 (a := 38) (by decide); have e39 := lv_neT hs33_39 (a := 39) (by decide); have e40 := lv_neT hs33_40 (a := 40) (by decide); have e41 := lv_neT hs33_41 (a := 41) (by decide); have e42 := lv_neT hs33_42 (a := 42) (by decide); have e43 := lv_neT hs33_43 (a := 43) (by decide); have e44 := lv_neT hs33_44 (a := 44) (by decide); have e45 := lv_neT hs33_45 (a := 45) (by decide); have e46 := lv_neT hs33_46 (a := 46) (by decide); have e47 := lv_neT hs33_47 (a := 47) (by decide); have e48 := lv_neT hs33_48 (a := 48) (by decide); have e49 := lv_neT hs33_49 (a := 49) (by decide); have e50 := lv_neT hs33_50 (a := 50) (by decide); have e51 := lv_neT hs33_51 (a := 51) (by decide); have e52 := lv_neT hs33_52 (a := 52) (by decide); have e53 := lv_neT hs33_53 (a := 53) (by decide); have e54 := lv_neT hs33_54 (a := 54) (by decide); have e55 := lv_neT hs33_55 (a := 55) (by decide); have e56 := lv_neT hs33_56 (a := 56) (by decide); omega)) rfl ?_
                                                                                                                        exact t_Lw_law_2077 hS hd ih x0 x1 x2 x3 σ h_x0 h_x1 h_x2
