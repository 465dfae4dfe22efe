theorem t123 : Cond.classLink RL 7 RX9 ∈ TB := tb 123 _ (by decide +kernel) rfl
theorem t124 : Cond.instantiable RX9 11 ∈ TB := tb 124 _ (by decide +kernel) rfl
theorem t125 : Cond.methodLink RL 9 yX9_init ∈ TB := tb 125 _ (by decide +kernel) rfl
theorem t126 : Cond.instanceMethod yX9_init ∈ TB := tb 126 _ (by decide +kernel) rfl
theorem t127 : Cond.code yX9_init cX9_init 2 none ∈ TB := tb 127 _ (by decide +kernel) rfl
theorem t485 : Cond.methodLink RL 13 yX9_feed ∈ TB := tb 485 _ (by decide +kernel) rfl
theorem t486 : Cond.instanceMethod yX9_feed ∈ TB := tb 486 _ (by decide +kernel) rfl
theorem t487 : Cond.selects RX9 yX9_feed yX9_feed ∈ TB := tb 487 _ (by decide +kernel) rfl
theorem t488 : Cond.code yX9_feed cX9_feed 6 (some .int) ∈ TB := tb 488 _ (by decide +kernel) rfl
theorem t497 : Cond.methodLink RL 18 yX9_end ∈ TB := tb 497 _ (by decide +kernel) rfl
theorem t498 : Cond.instanceMethod yX9_end ∈ TB := tb 498 _ (by decide +kernel) rfl
theorem t499 : Cond.selects RX9 yX9_end yX9_end ∈ TB := tb 499 _ (by decide +kernel) rfl
theorem t500 : Cond.code yX9_end cX9_end 2 (some .int) ∈ TB := tb 500 _ (by decide +kernel) rfl
theorem t501 : Cond.methodLink RL 23 yX9_land ∈ TB := tb 501 _ (by decide +kernel) rfl
theorem t502 : Cond.instanceMethod yX9_land ∈ TB := tb 502 _ (by decide +kernel) rfl
theorem t503 : Cond.selects RX9 yX9_land yX9_land ∈ TB := tb 503 _ (by decide +kernel) rfl
theorem t504 : Cond.code yX9_land cX9_land 1 (some .int) ∈ TB := tb 504 _ (by decide +kernel) rfl
theorem t1210 : Cond.methodLink RL 247 yX9_image ∈ TB := tb 1210 _ (by decide +kernel) rfl
theorem t1211 : Cond.instanceMethod yX9_image ∈ TB := tb 1211 _ (by decide +kernel) rfl
theorem t1212 : Cond.selects RX9 yX9_image yX9_image ∈ TB := tb 1212 _ (by decide +kernel) rfl
theorem t1213 : Cond.code yX9_image cX9_image 2 (some .int) ∈ TB := tb 1213 _ (by decide +kernel) rfl
theorem t1223 : Cond.methodLink RL 255 yX9_row ∈ TB := tb 1223 _ (by decide +kernel) rfl
theorem t1224 : Cond.instanceMethod yX9_row ∈ TB := tb 1224 _ (by decide +kernel) rfl
theorem t1225 : Cond.selects RX9 yX9_row yX9_row ∈ TB := tb 1225 _ (by decide +kernel) rfl
theorem t1226 : Cond.code yX9_row cX9_row 4 (some .int) ∈ TB := tb 1226 _ (by decide +kernel) rfl
theorem t1257 : Cond.classLink RL 10 RX10 ∈ TB := tb 1257 _ (by decide +kernel) rfl
theorem t1258 : Cond.instantiable RX10 38 ∈ TB := tb 1258 _ (by decide +kernel) rfl
theorem t1259 : Cond.methodLink RL 12 yX10_init ∈ TB := tb 1259 _ (by decide +kernel) rfl
theorem t1260 : Cond.instanceMethod yX10_init ∈ TB := tb 1260 _ (by decide +kernel) rfl
theorem t1261 : Cond.code yX10_init cX10_init 1 none ∈ TB := tb 1261 _ (by decide +kernel) rfl
theorem t1377 : Cond.methodLink RL 250 yX10_image ∈ TB := tb 1377 _ (by decide +kernel) rfl
theorem t1378 : Cond.instanceMethod yX10_image ∈ TB := tb 1378 _ (by decide +kernel) rfl
theorem t1379 : Cond.selects RX10 yX10_image yX10_image ∈ TB := tb 1379 _ (by decide +kernel) rfl
theorem t1380 : Cond.code yX10_image cX10_image 3 (some .int) ∈ TB := tb 1380 _ (by decide +kernel) rfl
theorem t1389 : Cond.methodLink RL 17 yX10_feed ∈ TB := tb 1389 _ (by decide +kernel) rfl
theorem t1390 : Cond.instanceMethod yX10_feed ∈ TB := tb 1390 _ (by decide +kernel) rfl
theorem t1391 : Cond.selects RX10 yX10_feed yX10_feed ∈ TB := tb 1391 _ (by decide +kernel) rfl
theorem t1392 : Cond.code yX10_feed cX10_feed 7 (some .int) ∈ TB := tb 1392 _ (by decide +kernel) rfl
theorem t1393 : Cond.methodLink RL 22 yX10_end_ ∈ TB := tb 1393 _ (by decide +kernel) rfl
theorem t1394 : Cond.instanceMethod yX10_end_ ∈ TB := tb 1394 _ (by decide +kernel) rfl
theorem t1395 : Cond.selects RX10 yX10_end_ yX10_end_ ∈ TB := tb 1395 _ (by decide +kernel) rfl
theorem t1396 : Cond.code yX10_end_ cX10_end_ 2 (some .int) ∈ TB := tb 1396 _ (by decide +kernel) rfl
theorem t1401 : Cond.methodLink RL 27 yX10_land ∈ TB := tb 1401 _ (by decide +kernel) rfl
theorem t1402 : Cond.instanceMethod yX10_land ∈ TB := tb 1402 _ (by decide +kernel) rfl
theorem t1403 : Cond.selects RX10 yX10_land yX10_land ∈ TB := tb 1403 _ (by decide +kernel) rfl
theorem t1404 : Cond.code yX10_land cX10_land 2 (some .int) ∈ TB := tb 1404 _ (by decide +kernel) rfl
theorem t1927 : Cond.methodLink RL 258 yX10_row ∈ TB := tb 1927 _ (by decide +kernel) rfl
theorem t1928 : Cond.instanceMethod yX10_row ∈ TB := tb 1928 _ (by decide +kernel) rfl
theorem t1929 : Cond.selects RX10 yX10_row yX10_row ∈ TB := tb 1929 _ (by decide +kernel) rfl
theorem t1930 : Cond.code yX10_row cX10_row 5 (some .int) ∈ TB := tb 1930 _ (by decide +kernel) rfl
theorem lkL_13 : GoodIn TB (wsV RL 13 RX9 yX9_feed (.code yX9_feed cX9_feed 6 (some .int) :: TB)) := gdV t485 t486 t487 t104 t488
theorem lkL_17 : GoodIn TB (wsV RL 17 RX10 yX10_feed (.code yX10_feed cX10_feed 7 (some .int) :: TB)) := gdV t1389 t1390 t1391 t115 t1392
theorem lkL_18 : GoodIn TB (wsV RL 18 RX9 yX9_end (.code yX9_end cX9_end 2 (some .int) :: TB)) := gdV t497 t498 t499 t104 t500
theorem lkL_22 : GoodIn TB (wsV RL 22 RX10 yX10_end_ (.code yX10_end_ cX10_end_ 2 (some .int) :: TB)) := gdV t1393 t1394 t1395 t115 t1396
theorem lkL_23 : GoodIn TB (wsV RL 23 RX9 yX9_land (.code yX9_land cX9_land 1 (some .int) :: TB)) := gdV t501 t502 t503 t104 t504
theorem lkL_247 : GoodIn TB (wsV RL 247 RX9 yX9_image (.code yX9_image cX9_image 2 (some .int) :: TB)) := gdV t1210 t1211 t1212 t104 t1213
theorem lkL_250 : GoodIn TB (wsV RL 250 RX10 yX10_image (.code yX10_image cX10_image 3 (some .int) :: TB)) := gdV t1377 t1378 t1379 t115 t1380
theorem lkL_255 : GoodIn TB (wsV RL 255 RX9 yX9_row (.code yX9_row cX9_row 4 (some .int) :: TB)) := gdV t1223 t1224 t1225 t104 t1226
theorem lkL_258 : GoodIn TB (wsV RL 258 RX10 yX10_row (.code yX10_row cX10_row 5 (some .int) :: TB)) := gdV t1927 t1928 t1929 t115 t1930
theorem lkL_27 : GoodIn TB (wsV RL 27 RX10 yX10_land (.code yX10_land cX10_land 2 (some .int) :: TB)) := gdV t1401 t1402 t1403 t115 t1404
theorem dL_law_0 : decode cL_law 0 = .ok (.new 7, 3) := by decide +kernel
theorem dL_law_3 : decode cL_law 3 = .ok (.dup, 1) := by decide +kernel
theorem dL_law_4 : decode cL_law 4 = .ok (.invokespecial 9, 3) := by decide +kernel
theorem dL_law_7 : decode cL_law 7 = .ok (.astore_n 1, 1) := by decide +kernel
theorem dL_law_8 : decode cL_law 8 = .ok (.new 10, 3) := by decide +kernel
theorem dL_law_11 : decode cL_law 11 = .ok (.dup, 1) := by decide +kernel
theorem dL_law_12 : decode cL_law 12 = .ok (.invokespecial 12, 3) := by decide +kernel
theorem dL_law_15 : decode cL_law 15 = .ok (.astore_n 2, 1) := by decide +kernel
theorem dL_law_16 : decode cL_law 16 = .ok (.iconst 0, 1) := by decide +kernel
theorem dL_law_17 : decode cL_law 17 = .ok (.istore_n 3, 1) := by decide +kernel
theorem dL_law_27 : decode cL_law 27 = .ok (.aload_n 0, 1) := by decide +kernel
theorem dL_law_28 : decode cL_law 28 = .ok (.iload_n 3, 1) := by decide +kernel
theorem dL_law_29 : decode cL_law 29 = .ok (.iaload, 1) := by decide +kernel
theorem dL_law_30 : decode cL_law 30 = .ok (.bipush 63, 2) := by decide +kernel
theorem dL_law_32 : decode cL_law 32 = .ok (.iand, 1) := by decide +kernel
theorem dL_law_33 : decode cL_law 33 = .ok (.tableswitch 2179 0 61 #[263, 326, 349, 362, 385, 418, 451, 484, 517, 550, 573, 606, 639, 662, 695, 728, 761, 784, 797, 810, 843, 876, 909, 942, 975, 1008, 1051, 1074, 1107, 1120, 1153, 1186, 1219, 1242, 1265, 1298, 1331, 1354, 1377, 1400, 1433, 1456, 1469, 1502, 1525, 1558, 1591, 1624, 1657, 1700, 1723, 1736, 1749, 1802, 1865, 1908, 1931, 1954, 1977, 2000, 2043, 2116], 263) := by decide +kernel
theorem dL_law_296 : decode cL_law 296 = .ok (.aload_n 1, 1) := by decide +kernel
theorem dL_law_297 : decode cL_law 297 = .ok (.aload_n 0, 1) := by decide +kernel
theorem dL_law_298 : decode cL_law 298 = .ok (.iload_n 3, 1) := by decide +kernel
theorem dL_law_299 : decode cL_law 299 = .ok (.iconst 1, 1) := by decide +kernel
theorem dL_law_300 : decode cL_law 300 = .ok (.iadd, 1) := by decide +kernel
theorem dL_law_301 : decode cL_law 301 = .ok (.iaload, 1) := by decide +kernel
theorem dL_law_302 : decode cL_law 302 = .ok (.aload_n 0, 1) := by decide +kernel
theorem dL_law_303 : decode cL_law 303 = .ok (.iload_n 3, 1) := by decide +kernel
theorem dL_law_304 : decode cL_law 304 = .ok (.iconst 2, 1) := by decide +kernel
theorem dL_law_305 : decode cL_law 305 = .ok (.iadd, 1) := by decide +kernel
theorem dL_law_306 : decode cL_law 306 = .ok (.iaload, 1) := by decide +kernel
theorem dL_law_307 : decode cL_law 307 = .ok (.aload_n 0, 1) := by decide +kernel
theorem dL_law_308 : decode cL_law 308 = .ok (.iload_n 3, 1) := by decide +kernel
theorem dL_law_309 : decode cL_law 309 = .ok (.iconst 3, 1) := by decide +kernel
theorem dL_law_310 : decode cL_law 310 = .ok (.iadd, 1) := by decide +kernel
theorem dL_law_311 : decode cL_law 311 = .ok (.iaload, 1) := by decide +kernel
theorem dL_law_312 : decode cL_law 312 = .ok (.aload_n 0, 1) := by decide +kernel
theorem dL_law_313 : decode cL_law 313 = .ok (.iload_n 3, 1) := by decide +kernel
theorem dL_law_314 : decode cL_law 314 = .ok (.iconst 4, 1) := by decide +kernel
theorem dL_law_315 : decode cL_law 315 = .ok (.iadd, 1) := by decide +kernel
theorem dL_law_316 : decode cL_law 316 = .ok (.iaload, 1) := by decide +kernel
theorem dL_law_317 : decode cL_law 317 = .ok (.aload_n 0, 1) := by decide +kernel
theorem dL_law_318 : decode cL_law 318 = .ok (.iload_n 3, 1) := by decide +kernel
theorem dL_law_319 : decode cL_law 319 = .ok (.iconst 5, 1) := by decide +kernel
theorem dL_law_320 : decode cL_law 320 = .ok (.iadd, 1) := by decide +kernel
theorem dL_law_321 : decode cL_law 321 = .ok (.iaload, 1) := by decide +kernel
theorem dL_law_322 : decode cL_law 322 = .ok (.invokevirtual 13, 3) := by decide +kernel
theorem dL_law_325 : decode cL_law 325 = .ok (.aload_n 2, 1) := by decide +kernel
theorem dL_law_326 : decode cL_law 326 = .ok (.aload_n 0, 1) := by decide +kernel
theorem dL_law_327 : decode cL_law 327 = .ok (.iload_n 3, 1) := by decide +kernel
theorem dL_law_328 : decode cL_law 328 = .ok (.iconst 1, 1) := by decide +kernel
theorem dL_law_329 : decode cL_law 329 = .ok (.iadd, 1) := by decide +kernel
theorem dL_law_330 : decode cL_law 330 = .ok (.iaload, 1) := by decide +kernel
theorem dL_law_331 : decode cL_law 331 = .ok (.aload_n 0, 1) := by decide +kernel
theorem dL_law_332 : decode cL_law 332 = .ok (.iload_n 3, 1) := by decide +kernel
theorem dL_law_333 : decode cL_law 333 = .ok (.iconst 2, 1) := by decide +kernel
theorem dL_law_334 : decode cL_law 334 = .ok (.iadd, 1) := by decide +kernel
theorem dL_law_335 : decode cL_law 335 = .ok (.iaload, 1) := by decide +kernel
theorem dL_law_336 : decode cL_law 336 = .ok (.aload_n 0, 1) := by decide +kernel
theorem dL_law_337 : decode cL_law 337 = .ok (.iload_n 3, 1) := by decide +kernel
theorem dL_law_338 : decode cL_law 338 = .ok (.iconst 3, 1) := by decide +kernel
theorem dL_law_339 : decode cL_law 339 = .ok (.iadd, 1) := by decide +kernel
theorem dL_law_340 : decode cL_law 340 = .ok (.iaload, 1) := by decide +kernel
theorem dL_law_341 : decode cL_law 341 = .ok (.aload_n 0, 1) := by decide +kernel
theorem dL_law_342 : decode cL_law 342 = .ok (.iload_n 3, 1) := by decide +kernel
theorem dL_law_343 : decode cL_law 343 = .ok (.iconst 4, 1) := by decide +kernel
theorem dL_law_344 : decode cL_law 344 = .ok (.iadd, 1) := by decide +kernel
theorem dL_law_345 : decode cL_law 345 = .ok (.iaload, 1) := by decide +kernel
theorem dL_law_346 : decode cL_law 346 = .ok (.aload_n 0, 1) := by decide +kernel
theorem dL_law_347 : decode cL_law 347 = .ok (.iload_n 3, 1) := by decide +kernel
theorem dL_law_348 : decode cL_law 348 = .ok (.iconst 5, 1) := by decide +kernel
theorem dL_law_349 : decode cL_law 349 = .ok (.iadd, 1) := by decide +kernel
theorem dL_law_350 : decode cL_law 350 = .ok (.iaload, 1) := by decide +kernel
theorem dL_law_351 : decode cL_law 351 = .ok (.invokevirtual 17, 3) := by decide +kernel
theorem dL_law_354 : decode cL_law 354 = .ok (.if_icmp .eq 1858, 3) := by decide +kernel
theorem dL_law_359 : decode cL_law 359 = .ok (.aload_n 1, 1) := by decide +kernel
theorem dL_law_360 : decode cL_law 360 = .ok (.aload_n 0, 1) := by decide +kernel
theorem dL_law_361 : decode cL_law 361 = .ok (.iload_n 3, 1) := by decide +kernel
theorem dL_law_362 : decode cL_law 362 = .ok (.iconst 1, 1) := by decide +kernel
theorem dL_law_363 : decode cL_law 363 = .ok (.iadd, 1) := by decide +kernel
theorem dL_law_364 : decode cL_law 364 = .ok (.iaload, 1) := by decide +kernel
theorem dL_law_365 : decode cL_law 365 = .ok (.invokevirtual 18, 3) := by decide +kernel
theorem dL_law_368 : decode cL_law 368 = .ok (.aload_n 2, 1) := by decide +kernel
theorem dL_law_369 : decode cL_law 369 = .ok (.aload_n 0, 1) := by decide +kernel
theorem dL_law_370 : decode cL_law 370 = .ok (.iload_n 3, 1) := by decide +kernel
theorem dL_law_371 : decode cL_law 371 = .ok (.iconst 1, 1) := by decide +kernel
theorem dL_law_372 : decode cL_law 372 = .ok (.iadd, 1) := by decide +kernel
theorem dL_law_373 : decode cL_law 373 = .ok (.iaload, 1) := by decide +kernel
theorem dL_law_374 : decode cL_law 374 = .ok (.invokevirtual 22, 3) := by decide +kernel
theorem dL_law_377 : decode cL_law 377 = .ok (.if_icmp .eq 1835, 3) := by decide +kernel
theorem dL_law_382 : decode cL_law 382 = .ok (.aload_n 1, 1) := by decide +kernel
theorem dL_law_383 : decode cL_law 383 = .ok (.invokevirtual 23, 3) := by decide +kernel
theorem dL_law_386 : decode cL_law 386 = .ok (.aload_n 2, 1) := by decide +kernel
theorem dL_law_387 : decode cL_law 387 = .ok (.invokevirtual 27, 3) := by decide +kernel
theorem dL_law_390 : decode cL_law 390 = .ok (.if_icmp .eq 1822, 3) := by decide +kernel
theorem dL_law_1987 : decode cL_law 1987 = .ok (.aload_n 1, 1) := by decide +kernel
theorem dL_law_1988 : decode cL_law 1988 = .ok (.aload_n 0, 1) := by decide +kernel
theorem dL_law_1989 : decode cL_law 1989 = .ok (.iload_n 3, 1) := by decide +kernel
theorem dL_law_1990 : decode cL_law 1990 = .ok (.iconst 1, 1) := by decide +kernel
theorem dL_law_1991 : decode cL_law 1991 = .ok (.iadd, 1) := by decide +kernel
theorem dL_law_1992 : decode cL_law 1992 = .ok (.iaload, 1) := by decide +kernel
theorem dL_law_1993 : decode cL_law 1993 = .ok (.invokevirtual 247, 3) := by decide +kernel
theorem dL_law_1996 : decode cL_law 1996 = .ok (.aload_n 2, 1) := by decide +kernel
theorem dL_law_1997 : decode cL_law 1997 = .ok (.aload_n 0, 1) := by decide +kernel
theorem dL_law_1998 : decode cL_law 1998 = .ok (.iload_n 3, 1) := by decide +kernel
theorem dL_law_1999 : decode cL_law 1999 = .ok (.iconst 1, 1) := by decide +kernel
theorem dL_law_2000 : decode cL_law 2000 = .ok (.iadd, 1) := by decide +kernel
theorem dL_law_2001 : decode cL_law 2001 = .ok (.iaload, 1) := by decide +kernel
theorem dL_law_2002 : decode cL_law 2002 = .ok (.invokevirtual 250, 3) := by decide +kernel
theorem dL_law_2005 : decode cL_law 2005 = .ok (.if_icmp .eq 207, 3) := by decide +kernel
theorem dL_law_2033 : decode cL_law 2033 = .ok (.aload_n 1, 1) := by decide +kernel
theorem dL_law_2034 : decode cL_law 2034 = .ok (.aload_n 0, 1) := by decide +kernel
theorem dL_law_2035 : decode cL_law 2035 = .ok (.iload_n 3, 1) := by decide +kernel
theorem dL_law_2036 : decode cL_law 2036 = .ok (.iconst 1, 1) := by decide +kernel
theorem dL_law_2037 : decode cL_law 2037 = .ok (.iadd, 1) := by decide +kernel
theorem dL_law_2038 : decode cL_law 2038 = .ok (.iaload, 1) := by decide +kernel
theorem dL_law_2039 : decode cL_law 2039 = .ok (.aload_n 0, 1) := by decide +kernel
theorem dL_law_2040 : decode cL_law 2040 = .ok (.iload_n 3, 1) := by decide +kernel
theorem dL_law_2041 : decode cL_law 2041 = .ok (.iconst 2, 1) := by decide +kernel
theorem dL_law_2042 : decode cL_law 2042 = .ok (.iadd, 1) := by decide +kernel
theorem dL_law_2043 : decode cL_law 2043 = .ok (.iaload, 1) := by decide +kernel
theorem dL_law_2044 : decode cL_law 2044 = .ok (.aload_n 0, 1) := by decide +kernel
theorem dL_law_2045 : decode cL_law 2045 = .ok (.iload_n 3, 1) := by decide +kernel
theorem dL_law_2046 : decode cL_law 2046 = .ok (.iconst 3, 1) := by decide +kernel
theorem dL_law_2047 : decode cL_law 2047 = .ok (.iadd, 1) := by decide +kernel
theorem dL_law_2048 : decode cL_law 2048 = .ok (.iaload, 1) := by decide +kernel
theorem dL_law_2049 : decode cL_law 2049 = .ok (.invokevirtual 255, 3) := by decide +kernel
theorem dL_law_2052 : decode cL_law 2052 = .ok (.aload_n 2, 1) := by decide +kernel
theorem dL_law_2053 : decode cL_law 2053 = .ok (.aload_n 0, 1) := by decide +kernel
theorem dL_law_2054 : decode cL_law 2054 = .ok (.iload_n 3, 1) := by decide +kernel
theorem dL_law_2055 : decode cL_law 2055 = .ok (.iconst 1, 1) := by decide +kernel
theorem dL_law_2056 : decode cL_law 2056 = .ok (.iadd, 1) := by decide +kernel
theorem dL_law_2057 : decode cL_law 2057 = .ok (.iaload, 1) := by decide +kernel
theorem dL_law_2058 : decode cL_law 2058 = .ok (.aload_n 0, 1) := by decide +kernel
theorem dL_law_2059 : decode cL_law 2059 = .ok (.iload_n 3, 1) := by decide +kernel
theorem dL_law_2060 : decode cL_law 2060 = .ok (.iconst 2, 1) := by decide +kernel
theorem dL_law_2061 : decode cL_law 2061 = .ok (.iadd, 1) := by decide +kernel
theorem dL_law_2062 : decode cL_law 2062 = .ok (.iaload, 1) := by decide +kernel
theorem dL_law_2063 : decode cL_law 2063 = .ok (.aload_n 0, 1) := by decide +kernel
theorem dL_law_2064 : decode cL_law 2064 = .ok (.iload_n 3, 1) := by decide +kernel
theorem dL_law_2065 : decode cL_law 2065 = .ok (.iconst 3, 1) := by decide +kernel
theorem dL_law_2066 : decode cL_law 2066 = .ok (.iadd, 1) := by decide +kernel
theorem dL_law_2067 : decode cL_law 2067 = .ok (.iaload, 1) := by decide +kernel
theorem dL_law_2068 : decode cL_law 2068 = .ok (.invokevirtual 258, 3) := by decide +kernel
theorem dL_law_2071 : decode cL_law 2071 = .ok (.if_icmp .eq 141, 3) := by decide +kernel
