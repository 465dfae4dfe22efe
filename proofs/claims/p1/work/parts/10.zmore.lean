theorem t105 : Cond.initialized RX2 ∈ TB := tb 105 _ (by decide +kernel) rfl
theorem t106 : Cond.initialized RX6 ∈ TB := tb 106 _ (by decide +kernel) rfl
theorem t108 : Cond.initialized RX5 ∈ TB := tb 108 _ (by decide +kernel) rfl
theorem t109 : Cond.initialized RJ7 ∈ TB := tb 109 _ (by decide +kernel) rfl
theorem t110 : Cond.initialized RX8 ∈ TB := tb 110 _ (by decide +kernel) rfl
theorem t112 : Cond.initialized RX7 ∈ TB := tb 112 _ (by decide +kernel) rfl
theorem t113 : Cond.initialized RX3 ∈ TB := tb 113 _ (by decide +kernel) rfl
theorem t114 : Cond.initialized RX0 ∈ TB := tb 114 _ (by decide +kernel) rfl
theorem t128 : Cond.methodLink RX9 1 objectInit ∈ TB := tb 128 _ (by decide +kernel) rfl
theorem t129 : Cond.instanceMethod objectInit ∈ TB := tb 129 _ (by decide +kernel) rfl
theorem t130 : Cond.code objectInit ⟨#[0xb1]⟩ 1 none ∈ TB := tb 130 _ (by decide +kernel) rfl
theorem t131 : Cond.classLink RX9 7 RX2 ∈ TB := tb 131 _ (by decide +kernel) rfl
theorem t132 : Cond.instantiable RX2 8 ∈ TB := tb 132 _ (by decide +kernel) rfl
theorem t134 : Cond.instanceMethod yX2_init ∈ TB := tb 134 _ (by decide +kernel) rfl
theorem t135 : Cond.code yX2_init cX2_init 1 none ∈ TB := tb 135 _ (by decide +kernel) rfl
theorem t136 : Cond.methodLink RX2 3 objectInit ∈ TB := tb 136 _ (by decide +kernel) rfl
theorem t137 : Cond.classLink RX2 9 RX6 ∈ TB := tb 137 _ (by decide +kernel) rfl
theorem t138 : Cond.instantiable RX6 2 ∈ TB := tb 138 _ (by decide +kernel) rfl
theorem t140 : Cond.instanceMethod yX6_init ∈ TB := tb 140 _ (by decide +kernel) rfl
theorem t141 : Cond.code yX6_init cX6_init 1 none ∈ TB := tb 141 _ (by decide +kernel) rfl
theorem t142 : Cond.methodLink RX6 3 objectInit ∈ TB := tb 142 _ (by decide +kernel) rfl
theorem t143 : Cond.fieldLink RX6 11 "WheelMemory$Tape" "bytes" "[B" ∈ TB := tb 143 _ (by decide +kernel) rfl
theorem t151 : Cond.arrayClass .byte ∈ TB := tb 151 _ (by decide +kernel) rfl
theorem t152 : Cond.classLink RX2 18 RX1 ∈ TB := tb 152 _ (by decide +kernel) rfl
theorem t153 : Cond.instantiable RX1 14 ∈ TB := tb 153 _ (by decide +kernel) rfl
theorem t155 : Cond.instanceMethod yX1_init ∈ TB := tb 155 _ (by decide +kernel) rfl
theorem t156 : Cond.code yX1_init cX1_init 1 none ∈ TB := tb 156 _ (by decide +kernel) rfl
theorem t157 : Cond.methodLink RX1 3 objectInit ∈ TB := tb 157 _ (by decide +kernel) rfl
theorem t158 : Cond.classLink RX1 30 RX5 ∈ TB := tb 158 _ (by decide +kernel) rfl
theorem t159 : Cond.instantiable RX5 5 ∈ TB := tb 159 _ (by decide +kernel) rfl
theorem t160 : Cond.methodLink RX1 32 yX5_init ∈ TB := tb 160 _ (by decide +kernel) rfl
theorem t161 : Cond.instanceMethod yX5_init ∈ TB := tb 161 _ (by decide +kernel) rfl
theorem t162 : Cond.code yX5_init cX5_init 1 none ∈ TB := tb 162 _ (by decide +kernel) rfl
theorem t163 : Cond.methodLink RX5 3 objectInit ∈ TB := tb 163 _ (by decide +kernel) rfl
theorem t164 : Cond.methodLink RX5 27 yJ7_fill_53178 ∈ TB := tb 164 _ (by decide +kernel) rfl
theorem t165 : Cond.static yJ7_fill_53178 ∈ TB := tb 165 _ (by decide +kernel) rfl
theorem t166 : Cond.code yJ7_fill_53178 cJ7_fill_53178 4 none ∈ TB := tb 166 _ (by decide +kernel) rfl
theorem t167 : Cond.fieldLink RX5 9 "WheelMemory$State" "liked" "[I" ∈ TB := tb 167 _ (by decide +kernel) rfl
theorem t168 : Cond.fieldLink RX5 15 "WheelMemory$State" "rims" "[I" ∈ TB := tb 168 _ (by decide +kernel) rfl
theorem t172 : Cond.fieldLink RX5 18 "WheelMemory$State" "seats" "[I" ∈ TB := tb 172 _ (by decide +kernel) rfl
theorem t176 : Cond.fieldLink RX5 21 "WheelMemory$State" "stands" "[I" ∈ TB := tb 176 _ (by decide +kernel) rfl
theorem t181 : Cond.fieldLink RX5 24 "WheelMemory$State" "driven" "[I" ∈ TB := tb 181 _ (by decide +kernel) rfl
theorem t194 : Cond.arrayClass .int ∈ TB := tb 194 _ (by decide +kernel) rfl
theorem t222 : Cond.fieldLink RX1 9 "WheelMemory$Land" "roadFrom" "[I" ∈ TB := tb 222 _ (by decide +kernel) rfl
theorem t225 : Cond.fieldLink RX1 15 "WheelMemory$Land" "roadTo" "[I" ∈ TB := tb 225 _ (by decide +kernel) rfl
theorem t228 : Cond.fieldLink RX1 18 "WheelMemory$Land" "roadMiles" "[I" ∈ TB := tb 228 _ (by decide +kernel) rfl
theorem t233 : Cond.fieldLink RX1 21 "WheelMemory$Land" "errandCart" "[I" ∈ TB := tb 233 _ (by decide +kernel) rfl
theorem t235 : Cond.fieldLink RX1 24 "WheelMemory$Land" "errandPlace" "[I" ∈ TB := tb 235 _ (by decide +kernel) rfl
theorem t237 : Cond.fieldLink RX1 27 "WheelMemory$Land" "errandBy" "[I" ∈ TB := tb 237 _ (by decide +kernel) rfl
theorem t239 : Cond.fieldLink RX1 33 "WheelMemory$Land" "first" "LWheelMemory$State;" ∈ TB := tb 239 _ (by decide +kernel) rfl
theorem t272 : Cond.fieldLink RX2 12 "WheelMemory$Reader" "tape" "LWheelMemory$Tape;" ∈ TB := tb 272 _ (by decide +kernel) rfl
theorem t273 : Cond.fieldLink RX9 16 "WheelMemory$Reader" "tape" "LWheelMemory$Tape;" ∈ TB := tb 273 _ (by decide +kernel) rfl
theorem t274 : Cond.fieldLink RX2 21 "WheelMemory$Reader" "draft" "LWheelMemory$Land;" ∈ TB := tb 274 _ (by decide +kernel) rfl
theorem t278 : Cond.fieldLink RX2 25 "WheelMemory$Reader" "faultPlace" "I" ∈ TB := tb 278 _ (by decide +kernel) rfl
theorem t301 : Cond.classLink RX9 21 RX8 ∈ TB := tb 301 _ (by decide +kernel) rfl
theorem t302 : Cond.instantiable RX8 6 ∈ TB := tb 302 _ (by decide +kernel) rfl
theorem t304 : Cond.instanceMethod yX8_init ∈ TB := tb 304 _ (by decide +kernel) rfl
theorem t305 : Cond.code yX8_init cX8_init 1 none ∈ TB := tb 305 _ (by decide +kernel) rfl
theorem t306 : Cond.methodLink RX8 3 objectInit ∈ TB := tb 306 _ (by decide +kernel) rfl
theorem t307 : Cond.classLink RX8 9 RX1 ∈ TB := tb 307 _ (by decide +kernel) rfl
theorem t309 : Cond.classLink RX8 18 RX5 ∈ TB := tb 309 _ (by decide +kernel) rfl
theorem t310 : Cond.methodLink RX8 20 yX5_init ∈ TB := tb 310 _ (by decide +kernel) rfl
theorem t311 : Cond.fieldLink RX8 12 "WheelMemory$World" "told" "LWheelMemory$Land;" ∈ TB := tb 311 _ (by decide +kernel) rfl
theorem t313 : Cond.fieldLink RX8 21 "WheelMemory$World" "now" "LWheelMemory$State;" ∈ TB := tb 313 _ (by decide +kernel) rfl
theorem t317 : Cond.fieldLink RX8 25 "WheelMemory$World" "kinds" "[I" ∈ TB := tb 317 _ (by decide +kernel) rfl
theorem t318 : Cond.fieldLink RX8 29 "WheelMemory$World" "ones" "[I" ∈ TB := tb 318 _ (by decide +kernel) rfl
theorem t319 : Cond.fieldLink RX8 32 "WheelMemory$World" "others" "[I" ∈ TB := tb 319 _ (by decide +kernel) rfl
theorem t334 : Cond.classLink RX9 36 RX4 ∈ TB := tb 334 _ (by decide +kernel) rfl
theorem t335 : Cond.instantiable RX4 3 ∈ TB := tb 335 _ (by decide +kernel) rfl
theorem t336 : Cond.methodLink RX9 38 yX4_init ∈ TB := tb 336 _ (by decide +kernel) rfl
theorem t337 : Cond.instanceMethod yX4_init ∈ TB := tb 337 _ (by decide +kernel) rfl
theorem t338 : Cond.code yX4_init cX4_init 1 none ∈ TB := tb 338 _ (by decide +kernel) rfl
theorem t339 : Cond.methodLink RX4 3 objectInit ∈ TB := tb 339 _ (by decide +kernel) rfl
theorem t340 : Cond.classLink RX4 18 "[[J" ∈ TB := tb 340 _ (by decide +kernel) rfl
theorem t342 : Cond.methodLink RX4 23 yJ7_fill_53178 ∈ TB := tb 342 _ (by decide +kernel) rfl
theorem t345 : Cond.fieldLink RX4 15 "WheelMemory$Slots" "lengths" "[I" ∈ TB := tb 345 _ (by decide +kernel) rfl
theorem t347 : Cond.fieldLink RX4 20 "WheelMemory$Slots" "rows" "[[J" ∈ TB := tb 347 _ (by decide +kernel) rfl
theorem t356 : Cond.arrayClass .boolean ∈ TB := tb 356 _ (by decide +kernel) rfl
theorem t357 : Cond.arrayClass .long ∈ TB := tb 357 _ (by decide +kernel) rfl
theorem t358 : Cond.classLink RX9 43 RX5 ∈ TB := tb 358 _ (by decide +kernel) rfl
theorem t359 : Cond.methodLink RX9 45 yX5_init ∈ TB := tb 359 _ (by decide +kernel) rfl
theorem t360 : Cond.classLink RX9 50 RX7 ∈ TB := tb 360 _ (by decide +kernel) rfl
theorem t361 : Cond.instantiable RX7 6 ∈ TB := tb 361 _ (by decide +kernel) rfl
theorem t363 : Cond.instanceMethod yX7_init ∈ TB := tb 363 _ (by decide +kernel) rfl
theorem t364 : Cond.code yX7_init cX7_init 1 none ∈ TB := tb 364 _ (by decide +kernel) rfl
theorem t365 : Cond.methodLink RX7 3 objectInit ∈ TB := tb 365 _ (by decide +kernel) rfl
theorem t391 : Cond.classLink RX9 57 RX3 ∈ TB := tb 391 _ (by decide +kernel) rfl
theorem t392 : Cond.instantiable RX3 10 ∈ TB := tb 392 _ (by decide +kernel) rfl
theorem t393 : Cond.methodLink RX9 59 yX3_init ∈ TB := tb 393 _ (by decide +kernel) rfl
theorem t394 : Cond.instanceMethod yX3_init ∈ TB := tb 394 _ (by decide +kernel) rfl
theorem t395 : Cond.code yX3_init cX3_init 2 none ∈ TB := tb 395 _ (by decide +kernel) rfl
theorem t396 : Cond.methodLink RX3 3 objectInit ∈ TB := tb 396 _ (by decide +kernel) rfl
theorem t397 : Cond.classLink RX3 24 RX5 ∈ TB := tb 397 _ (by decide +kernel) rfl
theorem t399 : Cond.methodLink RX3 30 yX5_init ∈ TB := tb 399 _ (by decide +kernel) rfl
theorem t400 : Cond.fieldLink RX3 26 "WheelMemory$Search" "levels" "[LWheelMemory$State;" ∈ TB := tb 400 _ (by decide +kernel) rfl
theorem t401 : Cond.fieldLink RX3 9 "WheelMemory$Search" "milesLeft" "[I" ∈ TB := tb 401 _ (by decide +kernel) rfl
theorem t403 : Cond.fieldLink RX3 15 "WheelMemory$Search" "roadsLeft" "[I" ∈ TB := tb 403 _ (by decide +kernel) rfl
theorem t404 : Cond.fieldLink RX3 18 "WheelMemory$Search" "row" "[I" ∈ TB := tb 404 _ (by decide +kernel) rfl
theorem t405 : Cond.fieldLink RX3 21 "WheelMemory$Search" "bestRow" "[I" ∈ TB := tb 405 _ (by decide +kernel) rfl
theorem t435 : Cond.classLink RX9 64 RX0 ∈ TB := tb 435 _ (by decide +kernel) rfl
theorem t436 : Cond.instantiable RX0 3 ∈ TB := tb 436 _ (by decide +kernel) rfl
theorem t438 : Cond.instanceMethod yX0_init ∈ TB := tb 438 _ (by decide +kernel) rfl
theorem t439 : Cond.code yX0_init cX0_init 1 none ∈ TB := tb 439 _ (by decide +kernel) rfl
theorem t440 : Cond.methodLink RX0 3 objectInit ∈ TB := tb 440 _ (by decide +kernel) rfl
theorem t441 : Cond.fieldLink RX0 9 "WheelMemory$Game" "outcomes" "[I" ∈ TB := tb 441 _ (by decide +kernel) rfl
theorem t442 : Cond.fieldLink RX0 15 "WheelMemory$Game" "worths" "[I" ∈ TB := tb 442 _ (by decide +kernel) rfl
theorem t443 : Cond.fieldLink RX0 18 "WheelMemory$Game" "rims" "[I" ∈ TB := tb 443 _ (by decide +kernel) rfl
theorem t454 : Cond.fieldLink RX9 28 "WheelMemory" "images" "[LWheelMemory$World;" ∈ TB := tb 454 _ (by decide +kernel) rfl
theorem t457 : Cond.fieldLink RX9 46 "WheelMemory" "trial" "LWheelMemory$State;" ∈ TB := tb 457 _ (by decide +kernel) rfl
theorem t458 : Cond.fieldLink RX9 53 "WheelMemory" "trip" "LWheelMemory$Trip;" ∈ TB := tb 458 _ (by decide +kernel) rfl
theorem t459 : Cond.fieldLink RX9 60 "WheelMemory" "search" "LWheelMemory$Search;" ∈ TB := tb 459 _ (by decide +kernel) rfl
theorem t460 : Cond.fieldLink RX9 67 "WheelMemory" "game" "LWheelMemory$Game;" ∈ TB := tb 460 _ (by decide +kernel) rfl
theorem t461 : Cond.fieldLink RX9 71 "WheelMemory" "tally" "[I" ∈ TB := tb 461 _ (by decide +kernel) rfl
theorem ok_X9_init : okY yX9_init RX9 0 := by unfold okY; decide +kernel
theorem ok_X0_init : okY yX0_init RX0 0 := by unfold okY; decide +kernel
theorem ok_X1_init : okY yX1_init RX1 0 := by unfold okY; decide +kernel
theorem ok_X2_init : okY yX2_init RX2 0 := by unfold okY; decide +kernel
theorem ok_X3_init : okY yX3_init RX3 0 := by unfold okY; decide +kernel
theorem ok_X4_init : okY yX4_init RX4 0 := by unfold okY; decide +kernel
theorem ok_X5_init : okY yX5_init RX5 0 := by unfold okY; decide +kernel
theorem ok_X6_init : okY yX6_init RX6 0 := by unfold okY; decide +kernel
theorem ok_X7_init : okY yX7_init RX7 0 := by unfold okY; decide +kernel
theorem ok_X8_init : okY yX8_init RX8 0 := by unfold okY; decide +kernel
theorem ok_J7_fill_53178 : okY yJ7_fill_53178 RJ7 2 := by unfold okY; decide +kernel
theorem ok_J7_fill_d0a16 : okY yJ7_fill_d0a16 RJ7 2 := by unfold okY; decide +kernel
theorem dJ7_fill_53178_0 : decode cJ7_fill_53178 0 = .ok (.iconst 0, 1) := by decide +kernel
theorem dJ7_fill_53178_1 : decode cJ7_fill_53178 1 = .ok (.istore_n 2, 1) := by decide +kernel
theorem dJ7_fill_53178_2 : decode cJ7_fill_53178 2 = .ok (.aload_n 0, 1) := by decide +kernel
theorem dJ7_fill_53178_3 : decode cJ7_fill_53178 3 = .ok (.arraylength, 1) := by decide +kernel
theorem dJ7_fill_53178_4 : decode cJ7_fill_53178 4 = .ok (.istore_n 3, 1) := by decide +kernel
theorem dJ7_fill_53178_5 : decode cJ7_fill_53178 5 = .ok (.iload_n 2, 1) := by decide +kernel
theorem dJ7_fill_53178_6 : decode cJ7_fill_53178 6 = .ok (.iload_n 3, 1) := by decide +kernel
theorem dJ7_fill_53178_7 : decode cJ7_fill_53178 7 = .ok (.if_icmp .ge 13, 3) := by decide +kernel
theorem dJ7_fill_53178_10 : decode cJ7_fill_53178 10 = .ok (.aload_n 0, 1) := by decide +kernel
theorem dJ7_fill_53178_11 : decode cJ7_fill_53178 11 = .ok (.iload_n 2, 1) := by decide +kernel
theorem dJ7_fill_53178_12 : decode cJ7_fill_53178 12 = .ok (.iload_n 1, 1) := by decide +kernel
theorem dJ7_fill_53178_13 : decode cJ7_fill_53178 13 = .ok (.iastore, 1) := by decide +kernel
theorem dJ7_fill_53178_14 : decode cJ7_fill_53178 14 = .ok (.iinc 2 1, 3) := by decide +kernel
theorem dJ7_fill_53178_17 : decode cJ7_fill_53178 17 = .ok (.goto (-12), 3) := by decide +kernel
theorem dJ7_fill_53178_20 : decode cJ7_fill_53178 20 = .ok (.return_, 1) := by decide +kernel
theorem dJ7_fill_d0a16_0 : decode cJ7_fill_d0a16 0 = .ok (.iconst 0, 1) := by decide +kernel
theorem dJ7_fill_d0a16_1 : decode cJ7_fill_d0a16 1 = .ok (.istore_n 3, 1) := by decide +kernel
theorem dJ7_fill_d0a16_2 : decode cJ7_fill_d0a16 2 = .ok (.aload_n 0, 1) := by decide +kernel
theorem dJ7_fill_d0a16_3 : decode cJ7_fill_d0a16 3 = .ok (.arraylength, 1) := by decide +kernel
theorem dJ7_fill_d0a16_4 : decode cJ7_fill_d0a16 4 = .ok (.istore 4, 2) := by decide +kernel
theorem dJ7_fill_d0a16_6 : decode cJ7_fill_d0a16 6 = .ok (.iload_n 3, 1) := by decide +kernel
theorem dJ7_fill_d0a16_7 : decode cJ7_fill_d0a16 7 = .ok (.iload 4, 2) := by decide +kernel
theorem dJ7_fill_d0a16_9 : decode cJ7_fill_d0a16 9 = .ok (.if_icmp .ge 13, 3) := by decide +kernel
theorem dJ7_fill_d0a16_12 : decode cJ7_fill_d0a16 12 = .ok (.aload_n 0, 1) := by decide +kernel
theorem dJ7_fill_d0a16_13 : decode cJ7_fill_d0a16 13 = .ok (.iload_n 3, 1) := by decide +kernel
theorem dJ7_fill_d0a16_14 : decode cJ7_fill_d0a16 14 = .ok (.lload_n 1, 1) := by decide +kernel
theorem dJ7_fill_d0a16_15 : decode cJ7_fill_d0a16 15 = .ok (.lastore, 1) := by decide +kernel
theorem dJ7_fill_d0a16_16 : decode cJ7_fill_d0a16 16 = .ok (.iinc 3 1, 3) := by decide +kernel
theorem dJ7_fill_d0a16_19 : decode cJ7_fill_d0a16 19 = .ok (.goto (-13), 3) := by decide +kernel
theorem dJ7_fill_d0a16_22 : decode cJ7_fill_d0a16 22 = .ok (.return_, 1) := by decide +kernel
theorem dX0_init_0 : decode cX0_init 0 = .ok (.aload_n 0, 1) := by decide +kernel
theorem dX0_init_1 : decode cX0_init 1 = .ok (.invokespecial 3, 3) := by decide +kernel
theorem dX0_init_4 : decode cX0_init 4 = .ok (.aload_n 0, 1) := by decide +kernel
theorem dX0_init_5 : decode cX0_init 5 = .ok (.sipush 256, 3) := by decide +kernel
theorem dX0_init_8 : decode cX0_init 8 = .ok (.newarray .int, 2) := by decide +kernel
theorem dX0_init_10 : decode cX0_init 10 = .ok (.putfield 9, 3) := by decide +kernel
theorem dX0_init_13 : decode cX0_init 13 = .ok (.aload_n 0, 1) := by decide +kernel
theorem dX0_init_14 : decode cX0_init 14 = .ok (.bipush 8, 2) := by decide +kernel
theorem dX0_init_16 : decode cX0_init 16 = .ok (.newarray .int, 2) := by decide +kernel
theorem dX0_init_18 : decode cX0_init 18 = .ok (.putfield 15, 3) := by decide +kernel
theorem dX0_init_21 : decode cX0_init 21 = .ok (.aload_n 0, 1) := by decide +kernel
theorem dX0_init_22 : decode cX0_init 22 = .ok (.bipush 8, 2) := by decide +kernel
theorem dX0_init_24 : decode cX0_init 24 = .ok (.newarray .int, 2) := by decide +kernel
theorem dX0_init_26 : decode cX0_init 26 = .ok (.putfield 18, 3) := by decide +kernel
theorem dX0_init_29 : decode cX0_init 29 = .ok (.return_, 1) := by decide +kernel
theorem dX1_init_0 : decode cX1_init 0 = .ok (.aload_n 0, 1) := by decide +kernel
theorem dX1_init_1 : decode cX1_init 1 = .ok (.invokespecial 3, 3) := by decide +kernel
theorem dX1_init_4 : decode cX1_init 4 = .ok (.aload_n 0, 1) := by decide +kernel
theorem dX1_init_5 : decode cX1_init 5 = .ok (.bipush 8, 2) := by decide +kernel
theorem dX1_init_7 : decode cX1_init 7 = .ok (.newarray .int, 2) := by decide +kernel
theorem dX1_init_9 : decode cX1_init 9 = .ok (.putfield 9, 3) := by decide +kernel
theorem dX1_init_12 : decode cX1_init 12 = .ok (.aload_n 0, 1) := by decide +kernel
theorem dX1_init_13 : decode cX1_init 13 = .ok (.bipush 8, 2) := by decide +kernel
theorem dX1_init_15 : decode cX1_init 15 = .ok (.newarray .int, 2) := by decide +kernel
theorem dX1_init_17 : decode cX1_init 17 = .ok (.putfield 15, 3) := by decide +kernel
theorem dX1_init_20 : decode cX1_init 20 = .ok (.aload_n 0, 1) := by decide +kernel
theorem dX1_init_21 : decode cX1_init 21 = .ok (.bipush 8, 2) := by decide +kernel
theorem dX1_init_23 : decode cX1_init 23 = .ok (.newarray .int, 2) := by decide +kernel
theorem dX1_init_25 : decode cX1_init 25 = .ok (.putfield 18, 3) := by decide +kernel
theorem dX1_init_28 : decode cX1_init 28 = .ok (.aload_n 0, 1) := by decide +kernel
theorem dX1_init_29 : decode cX1_init 29 = .ok (.bipush 6, 2) := by decide +kernel
theorem dX1_init_31 : decode cX1_init 31 = .ok (.newarray .int, 2) := by decide +kernel
theorem dX1_init_33 : decode cX1_init 33 = .ok (.putfield 21, 3) := by decide +kernel
theorem dX1_init_36 : decode cX1_init 36 = .ok (.aload_n 0, 1) := by decide +kernel
theorem dX1_init_37 : decode cX1_init 37 = .ok (.bipush 6, 2) := by decide +kernel
theorem dX1_init_39 : decode cX1_init 39 = .ok (.newarray .int, 2) := by decide +kernel
theorem dX1_init_41 : decode cX1_init 41 = .ok (.putfield 24, 3) := by decide +kernel
theorem dX1_init_44 : decode cX1_init 44 = .ok (.aload_n 0, 1) := by decide +kernel
theorem dX1_init_45 : decode cX1_init 45 = .ok (.bipush 6, 2) := by decide +kernel
theorem dX1_init_47 : decode cX1_init 47 = .ok (.newarray .int, 2) := by decide +kernel
theorem dX1_init_49 : decode cX1_init 49 = .ok (.putfield 27, 3) := by decide +kernel
theorem dX1_init_52 : decode cX1_init 52 = .ok (.aload_n 0, 1) := by decide +kernel
theorem dX1_init_53 : decode cX1_init 53 = .ok (.new 30, 3) := by decide +kernel
theorem dX1_init_56 : decode cX1_init 56 = .ok (.dup, 1) := by decide +kernel
theorem dX1_init_57 : decode cX1_init 57 = .ok (.invokespecial 32, 3) := by decide +kernel
theorem dX1_init_60 : decode cX1_init 60 = .ok (.putfield 33, 3) := by decide +kernel
theorem dX1_init_63 : decode cX1_init 63 = .ok (.return_, 1) := by decide +kernel
theorem dX2_init_0 : decode cX2_init 0 = .ok (.aload_n 0, 1) := by decide +kernel
theorem dX2_init_1 : decode cX2_init 1 = .ok (.invokespecial 3, 3) := by decide +kernel
theorem dX2_init_4 : decode cX2_init 4 = .ok (.aload_n 0, 1) := by decide +kernel
theorem dX2_init_5 : decode cX2_init 5 = .ok (.new 9, 3) := by decide +kernel
theorem dX2_init_8 : decode cX2_init 8 = .ok (.dup, 1) := by decide +kernel
theorem dX2_init_9 : decode cX2_init 9 = .ok (.invokespecial 11, 3) := by decide +kernel
theorem dX2_init_12 : decode cX2_init 12 = .ok (.putfield 12, 3) := by decide +kernel
theorem dX2_init_15 : decode cX2_init 15 = .ok (.aload_n 0, 1) := by decide +kernel
theorem dX2_init_16 : decode cX2_init 16 = .ok (.new 18, 3) := by decide +kernel
theorem dX2_init_19 : decode cX2_init 19 = .ok (.dup, 1) := by decide +kernel
theorem dX2_init_20 : decode cX2_init 20 = .ok (.invokespecial 20, 3) := by decide +kernel
theorem dX2_init_23 : decode cX2_init 23 = .ok (.putfield 21, 3) := by decide +kernel
theorem dX2_init_26 : decode cX2_init 26 = .ok (.aload_n 0, 1) := by decide +kernel
theorem dX2_init_27 : decode cX2_init 27 = .ok (.iconst (-1), 1) := by decide +kernel
theorem dX2_init_28 : decode cX2_init 28 = .ok (.putfield 25, 3) := by decide +kernel
theorem dX2_init_31 : decode cX2_init 31 = .ok (.return_, 1) := by decide +kernel
theorem dX3_init_0 : decode cX3_init 0 = .ok (.aload_n 0, 1) := by decide +kernel
theorem dX3_init_1 : decode cX3_init 1 = .ok (.invokespecial 3, 3) := by decide +kernel
theorem dX3_init_4 : decode cX3_init 4 = .ok (.aload_n 0, 1) := by decide +kernel
theorem dX3_init_5 : decode cX3_init 5 = .ok (.bipush 6, 2) := by decide +kernel
theorem dX3_init_7 : decode cX3_init 7 = .ok (.newarray .int, 2) := by decide +kernel
theorem dX3_init_9 : decode cX3_init 9 = .ok (.putfield 9, 3) := by decide +kernel
theorem dX3_init_12 : decode cX3_init 12 = .ok (.aload_n 0, 1) := by decide +kernel
theorem dX3_init_13 : decode cX3_init 13 = .ok (.bipush 6, 2) := by decide +kernel
theorem dX3_init_15 : decode cX3_init 15 = .ok (.newarray .int, 2) := by decide +kernel
theorem dX3_init_17 : decode cX3_init 17 = .ok (.putfield 15, 3) := by decide +kernel
theorem dX3_init_20 : decode cX3_init 20 = .ok (.aload_n 0, 1) := by decide +kernel
theorem dX3_init_21 : decode cX3_init 21 = .ok (.iconst 4, 1) := by decide +kernel
theorem dX3_init_22 : decode cX3_init 22 = .ok (.newarray .int, 2) := by decide +kernel
theorem dX3_init_24 : decode cX3_init 24 = .ok (.putfield 18, 3) := by decide +kernel
theorem dX3_init_27 : decode cX3_init 27 = .ok (.aload_n 0, 1) := by decide +kernel
theorem dX3_init_28 : decode cX3_init 28 = .ok (.iconst 4, 1) := by decide +kernel
theorem dX3_init_29 : decode cX3_init 29 = .ok (.newarray .int, 2) := by decide +kernel
theorem dX3_init_31 : decode cX3_init 31 = .ok (.putfield 21, 3) := by decide +kernel
theorem dX3_init_34 : decode cX3_init 34 = .ok (.aload_n 0, 1) := by decide +kernel
theorem dX3_init_35 : decode cX3_init 35 = .ok (.iconst 5, 1) := by decide +kernel
theorem dX3_init_36 : decode cX3_init 36 = .ok (.anewarray 24, 3) := by decide +kernel
theorem dX3_init_39 : decode cX3_init 39 = .ok (.putfield 26, 3) := by decide +kernel
theorem dX3_init_42 : decode cX3_init 42 = .ok (.iconst 0, 1) := by decide +kernel
theorem dX3_init_43 : decode cX3_init 43 = .ok (.istore_n 1, 1) := by decide +kernel
theorem dX3_init_44 : decode cX3_init 44 = .ok (.iload_n 1, 1) := by decide +kernel
theorem dX3_init_45 : decode cX3_init 45 = .ok (.iconst 4, 1) := by decide +kernel
theorem dX3_init_46 : decode cX3_init 46 = .ok (.if_icmp .gt 22, 3) := by decide +kernel
theorem dX3_init_49 : decode cX3_init 49 = .ok (.aload_n 0, 1) := by decide +kernel
theorem dX3_init_50 : decode cX3_init 50 = .ok (.getfield 26, 3) := by decide +kernel
theorem dX3_init_53 : decode cX3_init 53 = .ok (.iload_n 1, 1) := by decide +kernel
theorem dX3_init_54 : decode cX3_init 54 = .ok (.new 24, 3) := by decide +kernel
theorem dX3_init_57 : decode cX3_init 57 = .ok (.dup, 1) := by decide +kernel
theorem dX3_init_58 : decode cX3_init 58 = .ok (.invokespecial 30, 3) := by decide +kernel
theorem dX3_init_61 : decode cX3_init 61 = .ok (.aastore, 1) := by decide +kernel
theorem dX3_init_62 : decode cX3_init 62 = .ok (.iinc 1 1, 3) := by decide +kernel
theorem dX3_init_65 : decode cX3_init 65 = .ok (.goto (-21), 3) := by decide +kernel
theorem dX3_init_68 : decode cX3_init 68 = .ok (.return_, 1) := by decide +kernel
theorem dX4_init_0 : decode cX4_init 0 = .ok (.aload_n 0, 1) := by decide +kernel
theorem dX4_init_1 : decode cX4_init 1 = .ok (.invokespecial 3, 3) := by decide +kernel
theorem dX4_init_4 : decode cX4_init 4 = .ok (.aload_n 0, 1) := by decide +kernel
theorem dX4_init_5 : decode cX4_init 5 = .ok (.iconst 4, 1) := by decide +kernel
theorem dX4_init_6 : decode cX4_init 6 = .ok (.newarray .int, 2) := by decide +kernel
theorem dX4_init_8 : decode cX4_init 8 = .ok (.putfield 11, 3) := by decide +kernel
theorem dX4_init_11 : decode cX4_init 11 = .ok (.aload_n 0, 1) := by decide +kernel
theorem dX4_init_12 : decode cX4_init 12 = .ok (.iconst 4, 1) := by decide +kernel
theorem dX4_init_13 : decode cX4_init 13 = .ok (.newarray .int, 2) := by decide +kernel
theorem dX4_init_15 : decode cX4_init 15 = .ok (.putfield 15, 3) := by decide +kernel
theorem dX4_init_18 : decode cX4_init 18 = .ok (.aload_n 0, 1) := by decide +kernel
theorem dX4_init_19 : decode cX4_init 19 = .ok (.iconst 4, 1) := by decide +kernel
theorem dX4_init_20 : decode cX4_init 20 = .ok (.bipush 60, 2) := by decide +kernel
theorem dX4_init_22 : decode cX4_init 22 = .ok (.multianewarray 18 2, 4) := by decide +kernel
theorem dX4_init_26 : decode cX4_init 26 = .ok (.putfield 20, 3) := by decide +kernel
theorem dX4_init_29 : decode cX4_init 29 = .ok (.aload_n 0, 1) := by decide +kernel
theorem dX4_init_30 : decode cX4_init 30 = .ok (.getfield 11, 3) := by decide +kernel
theorem dX4_init_33 : decode cX4_init 33 = .ok (.iconst (-1), 1) := by decide +kernel
theorem dX4_init_34 : decode cX4_init 34 = .ok (.invokestatic 23, 3) := by decide +kernel
theorem dX4_init_37 : decode cX4_init 37 = .ok (.return_, 1) := by decide +kernel
theorem dX5_init_0 : decode cX5_init 0 = .ok (.aload_n 0, 1) := by decide +kernel
theorem dX5_init_1 : decode cX5_init 1 = .ok (.invokespecial 3, 3) := by decide +kernel
theorem dX5_init_4 : decode cX5_init 4 = .ok (.aload_n 0, 1) := by decide +kernel
theorem dX5_init_5 : decode cX5_init 5 = .ok (.bipush 64, 2) := by decide +kernel
theorem dX5_init_7 : decode cX5_init 7 = .ok (.newarray .int, 2) := by decide +kernel
theorem dX5_init_9 : decode cX5_init 9 = .ok (.putfield 9, 3) := by decide +kernel
theorem dX5_init_12 : decode cX5_init 12 = .ok (.aload_n 0, 1) := by decide +kernel
theorem dX5_init_13 : decode cX5_init 13 = .ok (.bipush 8, 2) := by decide +kernel
theorem dX5_init_15 : decode cX5_init 15 = .ok (.newarray .int, 2) := by decide +kernel
theorem dX5_init_17 : decode cX5_init 17 = .ok (.putfield 15, 3) := by decide +kernel
theorem dX5_init_20 : decode cX5_init 20 = .ok (.aload_n 0, 1) := by decide +kernel
theorem dX5_init_21 : decode cX5_init 21 = .ok (.bipush 8, 2) := by decide +kernel
theorem dX5_init_23 : decode cX5_init 23 = .ok (.newarray .int, 2) := by decide +kernel
theorem dX5_init_25 : decode cX5_init 25 = .ok (.putfield 18, 3) := by decide +kernel
theorem dX5_init_28 : decode cX5_init 28 = .ok (.aload_n 0, 1) := by decide +kernel
theorem dX5_init_29 : decode cX5_init 29 = .ok (.iconst 3, 1) := by decide +kernel
theorem dX5_init_30 : decode cX5_init 30 = .ok (.newarray .int, 2) := by decide +kernel
theorem dX5_init_32 : decode cX5_init 32 = .ok (.putfield 21, 3) := by decide +kernel
theorem dX5_init_35 : decode cX5_init 35 = .ok (.aload_n 0, 1) := by decide +kernel
theorem dX5_init_36 : decode cX5_init 36 = .ok (.iconst 3, 1) := by decide +kernel
theorem dX5_init_37 : decode cX5_init 37 = .ok (.newarray .int, 2) := by decide +kernel
theorem dX5_init_39 : decode cX5_init 39 = .ok (.putfield 24, 3) := by decide +kernel
theorem dX5_init_42 : decode cX5_init 42 = .ok (.aload_n 0, 1) := by decide +kernel
theorem dX5_init_43 : decode cX5_init 43 = .ok (.getfield 18, 3) := by decide +kernel
theorem dX5_init_46 : decode cX5_init 46 = .ok (.iconst (-1), 1) := by decide +kernel
theorem dX5_init_47 : decode cX5_init 47 = .ok (.invokestatic 27, 3) := by decide +kernel
theorem dX5_init_50 : decode cX5_init 50 = .ok (.return_, 1) := by decide +kernel
theorem dX6_init_0 : decode cX6_init 0 = .ok (.aload_n 0, 1) := by decide +kernel
theorem dX6_init_1 : decode cX6_init 1 = .ok (.invokespecial 3, 3) := by decide +kernel
theorem dX6_init_4 : decode cX6_init 4 = .ok (.aload_n 0, 1) := by decide +kernel
theorem dX6_init_5 : decode cX6_init 5 = .ok (.sipush 1000, 3) := by decide +kernel
theorem dX6_init_8 : decode cX6_init 8 = .ok (.newarray .byte, 2) := by decide +kernel
theorem dX6_init_10 : decode cX6_init 10 = .ok (.putfield 11, 3) := by decide +kernel
theorem dX6_init_13 : decode cX6_init 13 = .ok (.return_, 1) := by decide +kernel
theorem dX7_init_0 : decode cX7_init 0 = .ok (.aload_n 0, 1) := by decide +kernel
theorem dX7_init_1 : decode cX7_init 1 = .ok (.invokespecial 3, 3) := by decide +kernel
theorem dX7_init_4 : decode cX7_init 4 = .ok (.return_, 1) := by decide +kernel
theorem dX8_init_0 : decode cX8_init 0 = .ok (.aload_n 0, 1) := by decide +kernel
theorem dX8_init_1 : decode cX8_init 1 = .ok (.invokespecial 3, 3) := by decide +kernel
theorem dX8_init_4 : decode cX8_init 4 = .ok (.aload_n 0, 1) := by decide +kernel
theorem dX8_init_5 : decode cX8_init 5 = .ok (.new 9, 3) := by decide +kernel
theorem dX8_init_8 : decode cX8_init 8 = .ok (.dup, 1) := by decide +kernel
theorem dX8_init_9 : decode cX8_init 9 = .ok (.invokespecial 11, 3) := by decide +kernel
theorem dX8_init_12 : decode cX8_init 12 = .ok (.putfield 12, 3) := by decide +kernel
theorem dX8_init_15 : decode cX8_init 15 = .ok (.aload_n 0, 1) := by decide +kernel
theorem dX8_init_16 : decode cX8_init 16 = .ok (.new 18, 3) := by decide +kernel
theorem dX8_init_19 : decode cX8_init 19 = .ok (.dup, 1) := by decide +kernel
theorem dX8_init_20 : decode cX8_init 20 = .ok (.invokespecial 20, 3) := by decide +kernel
theorem dX8_init_23 : decode cX8_init 23 = .ok (.putfield 21, 3) := by decide +kernel
theorem dX8_init_26 : decode cX8_init 26 = .ok (.aload_n 0, 1) := by decide +kernel
theorem dX8_init_27 : decode cX8_init 27 = .ok (.bipush 40, 2) := by decide +kernel
theorem dX8_init_29 : decode cX8_init 29 = .ok (.newarray .int, 2) := by decide +kernel
theorem dX8_init_31 : decode cX8_init 31 = .ok (.putfield 25, 3) := by decide +kernel
theorem dX8_init_34 : decode cX8_init 34 = .ok (.aload_n 0, 1) := by decide +kernel
theorem dX8_init_35 : decode cX8_init 35 = .ok (.bipush 40, 2) := by decide +kernel
theorem dX8_init_37 : decode cX8_init 37 = .ok (.newarray .int, 2) := by decide +kernel
theorem dX8_init_39 : decode cX8_init 39 = .ok (.putfield 29, 3) := by decide +kernel
theorem dX8_init_42 : decode cX8_init 42 = .ok (.aload_n 0, 1) := by decide +kernel
theorem dX8_init_43 : decode cX8_init 43 = .ok (.bipush 40, 2) := by decide +kernel
theorem dX8_init_45 : decode cX8_init 45 = .ok (.newarray .int, 2) := by decide +kernel
theorem dX8_init_47 : decode cX8_init 47 = .ok (.putfield 32, 3) := by decide +kernel
theorem dX8_init_50 : decode cX8_init 50 = .ok (.return_, 1) := by decide +kernel
theorem dX9_init_0 : decode cX9_init 0 = .ok (.aload_n 0, 1) := by decide +kernel
theorem dX9_init_1 : decode cX9_init 1 = .ok (.invokespecial 1, 3) := by decide +kernel
theorem dX9_init_4 : decode cX9_init 4 = .ok (.aload_n 0, 1) := by decide +kernel
theorem dX9_init_5 : decode cX9_init 5 = .ok (.new 7, 3) := by decide +kernel
theorem dX9_init_8 : decode cX9_init 8 = .ok (.dup, 1) := by decide +kernel
theorem dX9_init_9 : decode cX9_init 9 = .ok (.invokespecial 9, 3) := by decide +kernel
theorem dX9_init_12 : decode cX9_init 12 = .ok (.putfield 10, 3) := by decide +kernel
theorem dX9_init_15 : decode cX9_init 15 = .ok (.aload_n 0, 1) := by decide +kernel
theorem dX9_init_16 : decode cX9_init 16 = .ok (.aload_n 0, 1) := by decide +kernel
theorem dX9_init_17 : decode cX9_init 17 = .ok (.getfield 10, 3) := by decide +kernel
theorem dX9_init_20 : decode cX9_init 20 = .ok (.getfield 16, 3) := by decide +kernel
theorem dX9_init_23 : decode cX9_init 23 = .ok (.putfield 20, 3) := by decide +kernel
theorem dX9_init_26 : decode cX9_init 26 = .ok (.aload_n 0, 1) := by decide +kernel
theorem dX9_init_27 : decode cX9_init 27 = .ok (.new 21, 3) := by decide +kernel
theorem dX9_init_30 : decode cX9_init 30 = .ok (.dup, 1) := by decide +kernel
theorem dX9_init_31 : decode cX9_init 31 = .ok (.invokespecial 23, 3) := by decide +kernel
theorem dX9_init_34 : decode cX9_init 34 = .ok (.putfield 24, 3) := by decide +kernel
theorem dX9_init_37 : decode cX9_init 37 = .ok (.aload_n 0, 1) := by decide +kernel
theorem dX9_init_38 : decode cX9_init 38 = .ok (.iconst 3, 1) := by decide +kernel
theorem dX9_init_39 : decode cX9_init 39 = .ok (.anewarray 21, 3) := by decide +kernel
theorem dX9_init_42 : decode cX9_init 42 = .ok (.putfield 28, 3) := by decide +kernel
theorem dX9_init_45 : decode cX9_init 45 = .ok (.iconst 0, 1) := by decide +kernel
theorem dX9_init_46 : decode cX9_init 46 = .ok (.istore_n 1, 1) := by decide +kernel
theorem dX9_init_47 : decode cX9_init 47 = .ok (.iload_n 1, 1) := by decide +kernel
theorem dX9_init_48 : decode cX9_init 48 = .ok (.iconst 3, 1) := by decide +kernel
theorem dX9_init_49 : decode cX9_init 49 = .ok (.if_icmp .ge 22, 3) := by decide +kernel
theorem dX9_init_52 : decode cX9_init 52 = .ok (.aload_n 0, 1) := by decide +kernel
theorem dX9_init_53 : decode cX9_init 53 = .ok (.getfield 28, 3) := by decide +kernel
theorem dX9_init_56 : decode cX9_init 56 = .ok (.iload_n 1, 1) := by decide +kernel
theorem dX9_init_57 : decode cX9_init 57 = .ok (.new 21, 3) := by decide +kernel
theorem dX9_init_60 : decode cX9_init 60 = .ok (.dup, 1) := by decide +kernel
theorem dX9_init_61 : decode cX9_init 61 = .ok (.invokespecial 23, 3) := by decide +kernel
theorem dX9_init_64 : decode cX9_init 64 = .ok (.aastore, 1) := by decide +kernel
theorem dX9_init_65 : decode cX9_init 65 = .ok (.iinc 1 1, 3) := by decide +kernel
theorem dX9_init_68 : decode cX9_init 68 = .ok (.goto (-21), 3) := by decide +kernel
theorem dX9_init_71 : decode cX9_init 71 = .ok (.aload_n 0, 1) := by decide +kernel
theorem dX9_init_72 : decode cX9_init 72 = .ok (.iconst 3, 1) := by decide +kernel
theorem dX9_init_73 : decode cX9_init 73 = .ok (.newarray .boolean, 2) := by decide +kernel
theorem dX9_init_75 : decode cX9_init 75 = .ok (.putfield 32, 3) := by decide +kernel
theorem dX9_init_78 : decode cX9_init 78 = .ok (.aload_n 0, 1) := by decide +kernel
theorem dX9_init_79 : decode cX9_init 79 = .ok (.new 36, 3) := by decide +kernel
theorem dX9_init_82 : decode cX9_init 82 = .ok (.dup, 1) := by decide +kernel
theorem dX9_init_83 : decode cX9_init 83 = .ok (.invokespecial 38, 3) := by decide +kernel
theorem dX9_init_86 : decode cX9_init 86 = .ok (.putfield 39, 3) := by decide +kernel
theorem dX9_init_89 : decode cX9_init 89 = .ok (.aload_n 0, 1) := by decide +kernel
theorem dX9_init_90 : decode cX9_init 90 = .ok (.new 43, 3) := by decide +kernel
theorem dX9_init_93 : decode cX9_init 93 = .ok (.dup, 1) := by decide +kernel
theorem dX9_init_94 : decode cX9_init 94 = .ok (.invokespecial 45, 3) := by decide +kernel
theorem dX9_init_97 : decode cX9_init 97 = .ok (.putfield 46, 3) := by decide +kernel
theorem dX9_init_100 : decode cX9_init 100 = .ok (.aload_n 0, 1) := by decide +kernel
theorem dX9_init_101 : decode cX9_init 101 = .ok (.new 50, 3) := by decide +kernel
theorem dX9_init_104 : decode cX9_init 104 = .ok (.dup, 1) := by decide +kernel
theorem dX9_init_105 : decode cX9_init 105 = .ok (.invokespecial 52, 3) := by decide +kernel
theorem dX9_init_108 : decode cX9_init 108 = .ok (.putfield 53, 3) := by decide +kernel
theorem dX9_init_111 : decode cX9_init 111 = .ok (.aload_n 0, 1) := by decide +kernel
theorem dX9_init_112 : decode cX9_init 112 = .ok (.new 57, 3) := by decide +kernel
theorem dX9_init_115 : decode cX9_init 115 = .ok (.dup, 1) := by decide +kernel
theorem dX9_init_116 : decode cX9_init 116 = .ok (.invokespecial 59, 3) := by decide +kernel
theorem dX9_init_119 : decode cX9_init 119 = .ok (.putfield 60, 3) := by decide +kernel
theorem dX9_init_122 : decode cX9_init 122 = .ok (.aload_n 0, 1) := by decide +kernel
theorem dX9_init_123 : decode cX9_init 123 = .ok (.new 64, 3) := by decide +kernel
theorem dX9_init_126 : decode cX9_init 126 = .ok (.dup, 1) := by decide +kernel
theorem dX9_init_127 : decode cX9_init 127 = .ok (.invokespecial 66, 3) := by decide +kernel
theorem dX9_init_130 : decode cX9_init 130 = .ok (.putfield 67, 3) := by decide +kernel
theorem dX9_init_133 : decode cX9_init 133 = .ok (.aload_n 0, 1) := by decide +kernel
theorem dX9_init_134 : decode cX9_init 134 = .ok (.bipush 8, 2) := by decide +kernel
theorem dX9_init_136 : decode cX9_init 136 = .ok (.newarray .int, 2) := by decide +kernel
theorem dX9_init_138 : decode cX9_init 138 = .ok (.putfield 71, 3) := by decide +kernel
theorem dX9_init_141 : decode cX9_init 141 = .ok (.return_, 1) := by decide +kernel
