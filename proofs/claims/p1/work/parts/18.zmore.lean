theorem t0 : Cond.selects RX2 yX2_next yX2_next ∈ TB := tb 0 _ (by decide +kernel) rfl
theorem t121 : Cond.initialized RJ10 ∈ TB := tb 121 _ (by decide +kernel) rfl
theorem t202 : Cond.fieldLink RX1 44 "WheelMemory$Land" "handed" "I" ∈ TB := tb 202 _ (by decide +kernel) rfl
theorem t240 : Cond.fieldLink RX8 39 "WheelMemory$Land" "first" "LWheelMemory$State;" ∈ TB := tb 240 _ (by decide +kernel) rfl
theorem t275 : Cond.fieldLink RX9 92 "WheelMemory$Reader" "draft" "LWheelMemory$Land;" ∈ TB := tb 275 _ (by decide +kernel) rfl
theorem t276 : Cond.fieldLink RX2 32 "WheelMemory$Reader" "fault" "I" ∈ TB := tb 276 _ (by decide +kernel) rfl
theorem t280 : Cond.fieldLink RX2 41 "WheelMemory$Reader" "kind" "I" ∈ TB := tb 280 _ (by decide +kernel) rfl
theorem t281 : Cond.fieldLink RX2 162 "WheelMemory$Reader" "start" "I" ∈ TB := tb 281 _ (by decide +kernel) rfl
theorem t282 : Cond.fieldLink RX2 35 "WheelMemory$Reader" "after" "I" ∈ TB := tb 282 _ (by decide +kernel) rfl
theorem t283 : Cond.fieldLink RX2 105 "WheelMemory$Reader" "value" "I" ∈ TB := tb 283 _ (by decide +kernel) rfl
theorem t315 : Cond.fieldLink RX8 45 "WheelMemory$World" "acts" "I" ∈ TB := tb 315 _ (by decide +kernel) rfl
theorem t505 : Cond.methodLink RX9 89 yX2_readAll ∈ TB := tb 505 _ (by decide +kernel) rfl
theorem t506 : Cond.instanceMethod yX2_readAll ∈ TB := tb 506 _ (by decide +kernel) rfl
theorem t507 : Cond.selects RX2 yX2_readAll yX2_readAll ∈ TB := tb 507 _ (by decide +kernel) rfl
theorem t508 : Cond.code yX2_readAll cX2_readAll 2 (some .boolean) ∈ TB := tb 508 _ (by decide +kernel) rfl
theorem t509 : Cond.methodLink RX2 29 yX1_clear ∈ TB := tb 509 _ (by decide +kernel) rfl
theorem t510 : Cond.instanceMethod yX1_clear ∈ TB := tb 510 _ (by decide +kernel) rfl
theorem t511 : Cond.selects RX1 yX1_clear yX1_clear ∈ TB := tb 511 _ (by decide +kernel) rfl
theorem t512 : Cond.code yX1_clear cX1_clear 1 none ∈ TB := tb 512 _ (by decide +kernel) rfl
theorem t513 : Cond.methodLink RX1 59 yX5_clear ∈ TB := tb 513 _ (by decide +kernel) rfl
theorem t514 : Cond.instanceMethod yX5_clear ∈ TB := tb 514 _ (by decide +kernel) rfl
theorem t515 : Cond.selects RX5 yX5_clear yX5_clear ∈ TB := tb 515 _ (by decide +kernel) rfl
theorem t516 : Cond.code yX5_clear cX5_clear 1 none ∈ TB := tb 516 _ (by decide +kernel) rfl
theorem t517 : Cond.methodLink RX2 38 yX2_next ∈ TB := tb 517 _ (by decide +kernel) rfl
theorem t519 : Cond.instanceMethod yX2_next ∈ TB := tb 519 _ (by decide +kernel) rfl
theorem t520 : Cond.code yX2_next cX2_next 2 none ∈ TB := tb 520 _ (by decide +kernel) rfl
theorem t521 : Cond.methodLink RX2 171 yX6_byteAt ∈ TB := tb 521 _ (by decide +kernel) rfl
theorem t522 : Cond.instanceMethod yX6_byteAt ∈ TB := tb 522 _ (by decide +kernel) rfl
theorem t523 : Cond.selects RX6 yX6_byteAt yX6_byteAt ∈ TB := tb 523 _ (by decide +kernel) rfl
theorem t524 : Cond.code yX6_byteAt cX6_byteAt 2 (some .int) ∈ TB := tb 524 _ (by decide +kernel) rfl
theorem t525 : Cond.methodLink RX2 179 yX2_isBlank ∈ TB := tb 525 _ (by decide +kernel) rfl
theorem t526 : Cond.static yX2_isBlank ∈ TB := tb 526 _ (by decide +kernel) rfl
theorem t527 : Cond.code yX2_isBlank cX2_isBlank 1 (some .boolean) ∈ TB := tb 527 _ (by decide +kernel) rfl
theorem t676 : Cond.methodLink RX9 96 yX8_begin ∈ TB := tb 676 _ (by decide +kernel) rfl
theorem t677 : Cond.instanceMethod yX8_begin ∈ TB := tb 677 _ (by decide +kernel) rfl
theorem t678 : Cond.selects RX8 yX8_begin yX8_begin ∈ TB := tb 678 _ (by decide +kernel) rfl
theorem t679 : Cond.code yX8_begin cX8_begin 2 none ∈ TB := tb 679 _ (by decide +kernel) rfl
theorem t680 : Cond.methodLink RX8 35 yX1_copy ∈ TB := tb 680 _ (by decide +kernel) rfl
theorem t681 : Cond.instanceMethod yX1_copy ∈ TB := tb 681 _ (by decide +kernel) rfl
theorem t682 : Cond.selects RX1 yX1_copy yX1_copy ∈ TB := tb 682 _ (by decide +kernel) rfl
theorem t683 : Cond.code yX1_copy cX1_copy 2 none ∈ TB := tb 683 _ (by decide +kernel) rfl
theorem t684 : Cond.methodLink RX1 62 arraycopyName ∈ TB := tb 684 _ (by decide +kernel) rfl
theorem t685 : Cond.static arraycopyName ∈ TB := tb 685 _ (by decide +kernel) rfl
theorem t686 : Cond.native arraycopyName ∈ TB := tb 686 _ (by decide +kernel) rfl
theorem t687 : Cond.methodLink RX1 68 yX5_copy ∈ TB := tb 687 _ (by decide +kernel) rfl
theorem t688 : Cond.instanceMethod yX5_copy ∈ TB := tb 688 _ (by decide +kernel) rfl
theorem t689 : Cond.selects RX5 yX5_copy yX5_copy ∈ TB := tb 689 _ (by decide +kernel) rfl
theorem t690 : Cond.code yX5_copy cX5_copy 2 none ∈ TB := tb 690 _ (by decide +kernel) rfl
theorem t691 : Cond.methodLink RX5 33 arraycopyName ∈ TB := tb 691 _ (by decide +kernel) rfl
theorem t692 : Cond.methodLink RX8 42 yX5_copy ∈ TB := tb 692 _ (by decide +kernel) rfl
theorem t1214 : Cond.methodLink RX9 413 yX8_copy ∈ TB := tb 1214 _ (by decide +kernel) rfl
theorem t1215 : Cond.instanceMethod yX8_copy ∈ TB := tb 1215 _ (by decide +kernel) rfl
theorem t1216 : Cond.selects RX8 yX8_copy yX8_copy ∈ TB := tb 1216 _ (by decide +kernel) rfl
theorem t1217 : Cond.code yX8_copy cX8_copy 2 none ∈ TB := tb 1217 _ (by decide +kernel) rfl
theorem t1218 : Cond.methodLink RX8 49 arraycopyName ∈ TB := tb 1218 _ (by decide +kernel) rfl
theorem t1227 : Cond.methodLink RX9 416 yX4_isWidth ∈ TB := tb 1227 _ (by decide +kernel) rfl
theorem t1228 : Cond.static yX4_isWidth ∈ TB := tb 1228 _ (by decide +kernel) rfl
theorem t1229 : Cond.code yX4_isWidth cX4_isWidth 1 (some .boolean) ∈ TB := tb 1229 _ (by decide +kernel) rfl
theorem t1230 : Cond.methodLink RX9 419 yX4_begin ∈ TB := tb 1230 _ (by decide +kernel) rfl
theorem t1231 : Cond.instanceMethod yX4_begin ∈ TB := tb 1231 _ (by decide +kernel) rfl
theorem t1232 : Cond.selects RX4 yX4_begin yX4_begin ∈ TB := tb 1232 _ (by decide +kernel) rfl
theorem t1233 : Cond.code yX4_begin cX4_begin 4 none ∈ TB := tb 1233 _ (by decide +kernel) rfl
theorem t1234 : Cond.methodLink RX4 33 yJ7_fill_d0a16 ∈ TB := tb 1234 _ (by decide +kernel) rfl
theorem t1235 : Cond.static yJ7_fill_d0a16 ∈ TB := tb 1235 _ (by decide +kernel) rfl
theorem t1236 : Cond.code yJ7_fill_d0a16 cJ7_fill_d0a16 5 none ∈ TB := tb 1236 _ (by decide +kernel) rfl
theorem ok_X9_image : okY yX9_image RX9 1 := by unfold okY; decide +kernel
theorem ok_X9_land : okY yX9_land RX9 0 := by unfold okY; decide +kernel
theorem ok_X9_row : okY yX9_row RX9 3 := by unfold okY; decide +kernel
theorem ok_X1_clear : okY yX1_clear RX1 0 := by unfold okY; decide +kernel
theorem ok_X1_copy : okY yX1_copy RX1 1 := by unfold okY; decide +kernel
theorem ok_X2_next : okY yX2_next RX2 0 := by unfold okY; decide +kernel
theorem ok_X2_readAll : okY yX2_readAll RX2 0 := by unfold okY; decide +kernel
theorem ok_X4_begin : okY yX4_begin RX4 3 := by unfold okY; decide +kernel
theorem ok_X4_isWidth : okY yX4_isWidth RX4 1 := by unfold okY; decide +kernel
theorem ok_X5_clear : okY yX5_clear RX5 0 := by unfold okY; decide +kernel
theorem ok_X5_copy : okY yX5_copy RX5 1 := by unfold okY; decide +kernel
theorem ok_X8_begin : okY yX8_begin RX8 1 := by unfold okY; decide +kernel
theorem ok_X8_copy : okY yX8_copy RX8 1 := by unfold okY; decide +kernel
theorem lkX1_59 : GoodIn TB (wsV RX1 59 RX5 yX5_clear (.code yX5_clear cX5_clear 1 none :: TB)) := gdV t513 t514 t515 t108 t516
theorem lkX1_68 : GoodIn TB (wsV RX1 68 RX5 yX5_copy (.code yX5_copy cX5_copy 2 none :: TB)) := gdV t687 t688 t689 t108 t690
theorem lkX2_171 : GoodIn TB (wsV RX2 171 RX6 yX6_byteAt (.code yX6_byteAt cX6_byteAt 2 (some .int) :: TB)) := gdV t521 t522 t523 t106 t524
theorem lkX2_179 : GoodIn TB (wsS RX2 179 yX2_isBlank (.code yX2_isBlank cX2_isBlank 1 (some .boolean) :: TB)) := gdS t525 t526 t105 t527
theorem lkX2_29 : GoodIn TB (wsV RX2 29 RX1 yX1_clear (.code yX1_clear cX1_clear 1 none :: TB)) := gdV t509 t510 t511 t107 t512
theorem lkX2_38 : GoodIn TB (wsV RX2 38 RX2 yX2_next (.code yX2_next cX2_next 2 none :: TB)) := gdV t517 t519 t0 t105 t520
theorem lkX8_35 : GoodIn TB (wsV RX8 35 RX1 yX1_copy (.code yX1_copy cX1_copy 2 none :: TB)) := gdV t680 t681 t682 t107 t683
theorem lkX8_42 : GoodIn TB (wsV RX8 42 RX5 yX5_copy (.code yX5_copy cX5_copy 2 none :: TB)) := gdV t692 t688 t689 t108 t690
theorem lkX9_413 : GoodIn TB (wsV RX9 413 RX8 yX8_copy (.code yX8_copy cX8_copy 2 none :: TB)) := gdV t1214 t1215 t1216 t110 t1217
theorem lkX9_419 : GoodIn TB (wsV RX9 419 RX4 yX4_begin (.code yX4_begin cX4_begin 4 none :: TB)) := gdV t1230 t1231 t1232 t111 t1233
theorem lkX9_89 : GoodIn TB (wsV RX9 89 RX2 yX2_readAll (.code yX2_readAll cX2_readAll 2 (some .boolean) :: TB)) := gdV t505 t506 t507 t105 t508
theorem lkX9_96 : GoodIn TB (wsV RX9 96 RX8 yX8_begin (.code yX8_begin cX8_begin 2 none :: TB)) := gdV t676 t677 t678 t110 t679
theorem dX1_clear_0 : decode cX1_clear 0 = .ok (.aload_n 0, 1) := by decide +kernel
theorem dX1_clear_1 : decode cX1_clear 1 = .ok (.iconst 0, 1) := by decide +kernel
theorem dX1_clear_2 : decode cX1_clear 2 = .ok (.putfield 37, 3) := by decide +kernel
theorem dX1_clear_5 : decode cX1_clear 5 = .ok (.aload_n 0, 1) := by decide +kernel
theorem dX1_clear_6 : decode cX1_clear 6 = .ok (.iconst 0, 1) := by decide +kernel
theorem dX1_clear_7 : decode cX1_clear 7 = .ok (.putfield 41, 3) := by decide +kernel
theorem dX1_clear_10 : decode cX1_clear 10 = .ok (.aload_n 0, 1) := by decide +kernel
theorem dX1_clear_11 : decode cX1_clear 11 = .ok (.iconst 0, 1) := by decide +kernel
theorem dX1_clear_12 : decode cX1_clear 12 = .ok (.putfield 44, 3) := by decide +kernel
theorem dX1_clear_15 : decode cX1_clear 15 = .ok (.aload_n 0, 1) := by decide +kernel
theorem dX1_clear_16 : decode cX1_clear 16 = .ok (.iconst 0, 1) := by decide +kernel
theorem dX1_clear_17 : decode cX1_clear 17 = .ok (.putfield 47, 3) := by decide +kernel
theorem dX1_clear_20 : decode cX1_clear 20 = .ok (.aload_n 0, 1) := by decide +kernel
theorem dX1_clear_21 : decode cX1_clear 21 = .ok (.iconst 0, 1) := by decide +kernel
theorem dX1_clear_22 : decode cX1_clear 22 = .ok (.putfield 50, 3) := by decide +kernel
theorem dX1_clear_25 : decode cX1_clear 25 = .ok (.aload_n 0, 1) := by decide +kernel
theorem dX1_clear_26 : decode cX1_clear 26 = .ok (.iconst 0, 1) := by decide +kernel
theorem dX1_clear_27 : decode cX1_clear 27 = .ok (.putfield 53, 3) := by decide +kernel
theorem dX1_clear_30 : decode cX1_clear 30 = .ok (.aload_n 0, 1) := by decide +kernel
theorem dX1_clear_31 : decode cX1_clear 31 = .ok (.iconst 0, 1) := by decide +kernel
theorem dX1_clear_32 : decode cX1_clear 32 = .ok (.putfield 56, 3) := by decide +kernel
theorem dX1_clear_35 : decode cX1_clear 35 = .ok (.aload_n 0, 1) := by decide +kernel
theorem dX1_clear_36 : decode cX1_clear 36 = .ok (.getfield 33, 3) := by decide +kernel
theorem dX1_clear_39 : decode cX1_clear 39 = .ok (.invokevirtual 59, 3) := by decide +kernel
theorem dX1_clear_42 : decode cX1_clear 42 = .ok (.return_, 1) := by decide +kernel
theorem dX1_copy_0 : decode cX1_copy 0 = .ok (.aload_n 0, 1) := by decide +kernel
theorem dX1_copy_1 : decode cX1_copy 1 = .ok (.aload_n 1, 1) := by decide +kernel
theorem dX1_copy_2 : decode cX1_copy 2 = .ok (.getfield 37, 3) := by decide +kernel
theorem dX1_copy_5 : decode cX1_copy 5 = .ok (.putfield 37, 3) := by decide +kernel
theorem dX1_copy_8 : decode cX1_copy 8 = .ok (.aload_n 0, 1) := by decide +kernel
theorem dX1_copy_9 : decode cX1_copy 9 = .ok (.aload_n 1, 1) := by decide +kernel
theorem dX1_copy_10 : decode cX1_copy 10 = .ok (.getfield 41, 3) := by decide +kernel
theorem dX1_copy_13 : decode cX1_copy 13 = .ok (.putfield 41, 3) := by decide +kernel
theorem dX1_copy_16 : decode cX1_copy 16 = .ok (.aload_n 0, 1) := by decide +kernel
theorem dX1_copy_17 : decode cX1_copy 17 = .ok (.aload_n 1, 1) := by decide +kernel
theorem dX1_copy_18 : decode cX1_copy 18 = .ok (.getfield 44, 3) := by decide +kernel
theorem dX1_copy_21 : decode cX1_copy 21 = .ok (.putfield 44, 3) := by decide +kernel
theorem dX1_copy_24 : decode cX1_copy 24 = .ok (.aload_n 0, 1) := by decide +kernel
theorem dX1_copy_25 : decode cX1_copy 25 = .ok (.aload_n 1, 1) := by decide +kernel
theorem dX1_copy_26 : decode cX1_copy 26 = .ok (.getfield 47, 3) := by decide +kernel
theorem dX1_copy_29 : decode cX1_copy 29 = .ok (.putfield 47, 3) := by decide +kernel
theorem dX1_copy_32 : decode cX1_copy 32 = .ok (.aload_n 0, 1) := by decide +kernel
theorem dX1_copy_33 : decode cX1_copy 33 = .ok (.aload_n 1, 1) := by decide +kernel
theorem dX1_copy_34 : decode cX1_copy 34 = .ok (.getfield 50, 3) := by decide +kernel
theorem dX1_copy_37 : decode cX1_copy 37 = .ok (.putfield 50, 3) := by decide +kernel
theorem dX1_copy_40 : decode cX1_copy 40 = .ok (.aload_n 0, 1) := by decide +kernel
theorem dX1_copy_41 : decode cX1_copy 41 = .ok (.aload_n 1, 1) := by decide +kernel
theorem dX1_copy_42 : decode cX1_copy 42 = .ok (.getfield 53, 3) := by decide +kernel
theorem dX1_copy_45 : decode cX1_copy 45 = .ok (.putfield 53, 3) := by decide +kernel
theorem dX1_copy_48 : decode cX1_copy 48 = .ok (.aload_n 0, 1) := by decide +kernel
theorem dX1_copy_49 : decode cX1_copy 49 = .ok (.aload_n 1, 1) := by decide +kernel
theorem dX1_copy_50 : decode cX1_copy 50 = .ok (.getfield 56, 3) := by decide +kernel
theorem dX1_copy_53 : decode cX1_copy 53 = .ok (.putfield 56, 3) := by decide +kernel
theorem dX1_copy_56 : decode cX1_copy 56 = .ok (.aload_n 1, 1) := by decide +kernel
theorem dX1_copy_57 : decode cX1_copy 57 = .ok (.getfield 9, 3) := by decide +kernel
theorem dX1_copy_60 : decode cX1_copy 60 = .ok (.iconst 0, 1) := by decide +kernel
theorem dX1_copy_61 : decode cX1_copy 61 = .ok (.aload_n 0, 1) := by decide +kernel
theorem dX1_copy_62 : decode cX1_copy 62 = .ok (.getfield 9, 3) := by decide +kernel
theorem dX1_copy_65 : decode cX1_copy 65 = .ok (.iconst 0, 1) := by decide +kernel
theorem dX1_copy_66 : decode cX1_copy 66 = .ok (.bipush 8, 2) := by decide +kernel
theorem dX1_copy_68 : decode cX1_copy 68 = .ok (.invokestatic 62, 3) := by decide +kernel
theorem dX1_copy_71 : decode cX1_copy 71 = .ok (.aload_n 1, 1) := by decide +kernel
theorem dX1_copy_72 : decode cX1_copy 72 = .ok (.getfield 15, 3) := by decide +kernel
theorem dX1_copy_75 : decode cX1_copy 75 = .ok (.iconst 0, 1) := by decide +kernel
theorem dX1_copy_76 : decode cX1_copy 76 = .ok (.aload_n 0, 1) := by decide +kernel
theorem dX1_copy_77 : decode cX1_copy 77 = .ok (.getfield 15, 3) := by decide +kernel
theorem dX1_copy_80 : decode cX1_copy 80 = .ok (.iconst 0, 1) := by decide +kernel
theorem dX1_copy_81 : decode cX1_copy 81 = .ok (.bipush 8, 2) := by decide +kernel
theorem dX1_copy_83 : decode cX1_copy 83 = .ok (.invokestatic 62, 3) := by decide +kernel
theorem dX1_copy_86 : decode cX1_copy 86 = .ok (.aload_n 1, 1) := by decide +kernel
theorem dX1_copy_87 : decode cX1_copy 87 = .ok (.getfield 18, 3) := by decide +kernel
theorem dX1_copy_90 : decode cX1_copy 90 = .ok (.iconst 0, 1) := by decide +kernel
theorem dX1_copy_91 : decode cX1_copy 91 = .ok (.aload_n 0, 1) := by decide +kernel
theorem dX1_copy_92 : decode cX1_copy 92 = .ok (.getfield 18, 3) := by decide +kernel
theorem dX1_copy_95 : decode cX1_copy 95 = .ok (.iconst 0, 1) := by decide +kernel
theorem dX1_copy_96 : decode cX1_copy 96 = .ok (.bipush 8, 2) := by decide +kernel
theorem dX1_copy_98 : decode cX1_copy 98 = .ok (.invokestatic 62, 3) := by decide +kernel
theorem dX1_copy_101 : decode cX1_copy 101 = .ok (.aload_n 1, 1) := by decide +kernel
theorem dX1_copy_102 : decode cX1_copy 102 = .ok (.getfield 21, 3) := by decide +kernel
theorem dX1_copy_105 : decode cX1_copy 105 = .ok (.iconst 0, 1) := by decide +kernel
theorem dX1_copy_106 : decode cX1_copy 106 = .ok (.aload_n 0, 1) := by decide +kernel
theorem dX1_copy_107 : decode cX1_copy 107 = .ok (.getfield 21, 3) := by decide +kernel
theorem dX1_copy_110 : decode cX1_copy 110 = .ok (.iconst 0, 1) := by decide +kernel
theorem dX1_copy_111 : decode cX1_copy 111 = .ok (.bipush 6, 2) := by decide +kernel
theorem dX1_copy_113 : decode cX1_copy 113 = .ok (.invokestatic 62, 3) := by decide +kernel
theorem dX1_copy_116 : decode cX1_copy 116 = .ok (.aload_n 1, 1) := by decide +kernel
theorem dX1_copy_117 : decode cX1_copy 117 = .ok (.getfield 24, 3) := by decide +kernel
theorem dX1_copy_120 : decode cX1_copy 120 = .ok (.iconst 0, 1) := by decide +kernel
theorem dX1_copy_121 : decode cX1_copy 121 = .ok (.aload_n 0, 1) := by decide +kernel
theorem dX1_copy_122 : decode cX1_copy 122 = .ok (.getfield 24, 3) := by decide +kernel
theorem dX1_copy_125 : decode cX1_copy 125 = .ok (.iconst 0, 1) := by decide +kernel
theorem dX1_copy_126 : decode cX1_copy 126 = .ok (.bipush 6, 2) := by decide +kernel
theorem dX1_copy_128 : decode cX1_copy 128 = .ok (.invokestatic 62, 3) := by decide +kernel
theorem dX1_copy_131 : decode cX1_copy 131 = .ok (.aload_n 1, 1) := by decide +kernel
theorem dX1_copy_132 : decode cX1_copy 132 = .ok (.getfield 27, 3) := by decide +kernel
theorem dX1_copy_135 : decode cX1_copy 135 = .ok (.iconst 0, 1) := by decide +kernel
theorem dX1_copy_136 : decode cX1_copy 136 = .ok (.aload_n 0, 1) := by decide +kernel
theorem dX1_copy_137 : decode cX1_copy 137 = .ok (.getfield 27, 3) := by decide +kernel
theorem dX1_copy_140 : decode cX1_copy 140 = .ok (.iconst 0, 1) := by decide +kernel
theorem dX1_copy_141 : decode cX1_copy 141 = .ok (.bipush 6, 2) := by decide +kernel
theorem dX1_copy_143 : decode cX1_copy 143 = .ok (.invokestatic 62, 3) := by decide +kernel
theorem dX1_copy_146 : decode cX1_copy 146 = .ok (.aload_n 0, 1) := by decide +kernel
theorem dX1_copy_147 : decode cX1_copy 147 = .ok (.getfield 33, 3) := by decide +kernel
theorem dX1_copy_150 : decode cX1_copy 150 = .ok (.aload_n 1, 1) := by decide +kernel
theorem dX1_copy_151 : decode cX1_copy 151 = .ok (.getfield 33, 3) := by decide +kernel
theorem dX1_copy_154 : decode cX1_copy 154 = .ok (.invokevirtual 68, 3) := by decide +kernel
theorem dX1_copy_157 : decode cX1_copy 157 = .ok (.return_, 1) := by decide +kernel
theorem dX2_next_0 : decode cX2_next 0 = .ok (.aload_n 0, 1) := by decide +kernel
theorem dX2_next_1 : decode cX2_next 1 = .ok (.aload_n 0, 1) := by decide +kernel
theorem dX2_next_2 : decode cX2_next 2 = .ok (.getfield 35, 3) := by decide +kernel
theorem dX2_next_5 : decode cX2_next 5 = .ok (.putfield 162, 3) := by decide +kernel
theorem dX2_next_8 : decode cX2_next 8 = .ok (.iconst 0, 1) := by decide +kernel
theorem dX2_next_9 : decode cX2_next 9 = .ok (.istore_n 1, 1) := by decide +kernel
theorem dX2_next_10 : decode cX2_next 10 = .ok (.iload_n 1, 1) := by decide +kernel
theorem dX2_next_11 : decode cX2_next 11 = .ok (.sipush 1000, 3) := by decide +kernel
theorem dX2_next_14 : decode cX2_next 14 = .ok (.if_icmp .ge 36, 3) := by decide +kernel
theorem dX2_next_17 : decode cX2_next 17 = .ok (.aload_n 0, 1) := by decide +kernel
theorem dX2_next_18 : decode cX2_next 18 = .ok (.getfield 12, 3) := by decide +kernel
theorem dX2_next_21 : decode cX2_next 21 = .ok (.aload_n 0, 1) := by decide +kernel
theorem dX2_next_22 : decode cX2_next 22 = .ok (.getfield 162, 3) := by decide +kernel
theorem dX2_next_25 : decode cX2_next 25 = .ok (.invokevirtual 171, 3) := by decide +kernel
theorem dX2_next_28 : decode cX2_next 28 = .ok (.invokestatic 179, 3) := by decide +kernel
theorem dX2_next_31 : decode cX2_next 31 = .ok (.ifCond .eq 19, 3) := by decide +kernel
theorem dX2_next_50 : decode cX2_next 50 = .ok (.aload_n 0, 1) := by decide +kernel
theorem dX2_next_51 : decode cX2_next 51 = .ok (.getfield 12, 3) := by decide +kernel
theorem dX2_next_54 : decode cX2_next 54 = .ok (.aload_n 0, 1) := by decide +kernel
theorem dX2_next_55 : decode cX2_next 55 = .ok (.getfield 162, 3) := by decide +kernel
theorem dX2_next_58 : decode cX2_next 58 = .ok (.invokevirtual 171, 3) := by decide +kernel
theorem dX2_next_61 : decode cX2_next 61 = .ok (.istore_n 1, 1) := by decide +kernel
theorem dX2_next_62 : decode cX2_next 62 = .ok (.aload_n 0, 1) := by decide +kernel
theorem dX2_next_63 : decode cX2_next 63 = .ok (.aload_n 0, 1) := by decide +kernel
theorem dX2_next_64 : decode cX2_next 64 = .ok (.getfield 162, 3) := by decide +kernel
theorem dX2_next_67 : decode cX2_next 67 = .ok (.putfield 35, 3) := by decide +kernel
theorem dX2_next_70 : decode cX2_next 70 = .ok (.aload_n 0, 1) := by decide +kernel
theorem dX2_next_71 : decode cX2_next 71 = .ok (.iconst 0, 1) := by decide +kernel
theorem dX2_next_72 : decode cX2_next 72 = .ok (.putfield 105, 3) := by decide +kernel
theorem dX2_next_75 : decode cX2_next 75 = .ok (.iload_n 1, 1) := by decide +kernel
theorem dX2_next_76 : decode cX2_next 76 = .ok (.iconst (-1), 1) := by decide +kernel
theorem dX2_next_77 : decode cX2_next 77 = .ok (.if_icmp .ne 11, 3) := by decide +kernel
theorem dX2_next_80 : decode cX2_next 80 = .ok (.aload_n 0, 1) := by decide +kernel
theorem dX2_next_81 : decode cX2_next 81 = .ok (.iconst 0, 1) := by decide +kernel
theorem dX2_next_82 : decode cX2_next 82 = .ok (.putfield 41, 3) := by decide +kernel
theorem dX2_next_85 : decode cX2_next 85 = .ok (.goto 66, 3) := by decide +kernel
theorem dX2_next_151 : decode cX2_next 151 = .ok (.return_, 1) := by decide +kernel
theorem dX2_readAll_0 : decode cX2_readAll 0 = .ok (.aload_n 0, 1) := by decide +kernel
theorem dX2_readAll_1 : decode cX2_readAll 1 = .ok (.getfield 21, 3) := by decide +kernel
theorem dX2_readAll_4 : decode cX2_readAll 4 = .ok (.invokevirtual 29, 3) := by decide +kernel
theorem dX2_readAll_7 : decode cX2_readAll 7 = .ok (.aload_n 0, 1) := by decide +kernel
theorem dX2_readAll_8 : decode cX2_readAll 8 = .ok (.iconst 0, 1) := by decide +kernel
theorem dX2_readAll_9 : decode cX2_readAll 9 = .ok (.putfield 32, 3) := by decide +kernel
theorem dX2_readAll_12 : decode cX2_readAll 12 = .ok (.aload_n 0, 1) := by decide +kernel
theorem dX2_readAll_13 : decode cX2_readAll 13 = .ok (.iconst (-1), 1) := by decide +kernel
theorem dX2_readAll_14 : decode cX2_readAll 14 = .ok (.putfield 25, 3) := by decide +kernel
theorem dX2_readAll_17 : decode cX2_readAll 17 = .ok (.aload_n 0, 1) := by decide +kernel
theorem dX2_readAll_18 : decode cX2_readAll 18 = .ok (.iconst 0, 1) := by decide +kernel
theorem dX2_readAll_19 : decode cX2_readAll 19 = .ok (.putfield 35, 3) := by decide +kernel
theorem dX2_readAll_22 : decode cX2_readAll 22 = .ok (.aload_n 0, 1) := by decide +kernel
theorem dX2_readAll_23 : decode cX2_readAll 23 = .ok (.invokevirtual 38, 3) := by decide +kernel
theorem dX2_readAll_26 : decode cX2_readAll 26 = .ok (.iconst 0, 1) := by decide +kernel
theorem dX2_readAll_27 : decode cX2_readAll 27 = .ok (.istore_n 1, 1) := by decide +kernel
theorem dX2_readAll_28 : decode cX2_readAll 28 = .ok (.iload_n 1, 1) := by decide +kernel
theorem dX2_readAll_29 : decode cX2_readAll 29 = .ok (.sipush 1000, 3) := by decide +kernel
theorem dX2_readAll_32 : decode cX2_readAll 32 = .ok (.if_icmp .ge 27, 3) := by decide +kernel
theorem dX2_readAll_35 : decode cX2_readAll 35 = .ok (.aload_n 0, 1) := by decide +kernel
theorem dX2_readAll_36 : decode cX2_readAll 36 = .ok (.getfield 32, 3) := by decide +kernel
theorem dX2_readAll_39 : decode cX2_readAll 39 = .ok (.ifCond .ne 20, 3) := by decide +kernel
theorem dX2_readAll_42 : decode cX2_readAll 42 = .ok (.aload_n 0, 1) := by decide +kernel
theorem dX2_readAll_43 : decode cX2_readAll 43 = .ok (.getfield 41, 3) := by decide +kernel
theorem dX2_readAll_46 : decode cX2_readAll 46 = .ok (.ifCond .eq 13, 3) := by decide +kernel
theorem dX2_readAll_59 : decode cX2_readAll 59 = .ok (.aload_n 0, 1) := by decide +kernel
theorem dX2_readAll_60 : decode cX2_readAll 60 = .ok (.getfield 32, 3) := by decide +kernel
theorem dX2_readAll_63 : decode cX2_readAll 63 = .ok (.ifCond .ne 7, 3) := by decide +kernel
theorem dX2_readAll_66 : decode cX2_readAll 66 = .ok (.iconst 1, 1) := by decide +kernel
theorem dX2_readAll_67 : decode cX2_readAll 67 = .ok (.goto 4, 3) := by decide +kernel
theorem dX2_readAll_71 : decode cX2_readAll 71 = .ok (.ireturn, 1) := by decide +kernel
theorem dX4_begin_0 : decode cX4_begin 0 = .ok (.aload_n 0, 1) := by decide +kernel
theorem dX4_begin_1 : decode cX4_begin 1 = .ok (.getfield 11, 3) := by decide +kernel
theorem dX4_begin_4 : decode cX4_begin 4 = .ok (.iload_n 1, 1) := by decide +kernel
theorem dX4_begin_5 : decode cX4_begin 5 = .ok (.iload_n 2, 1) := by decide +kernel
theorem dX4_begin_6 : decode cX4_begin 6 = .ok (.iastore, 1) := by decide +kernel
theorem dX4_begin_7 : decode cX4_begin 7 = .ok (.aload_n 0, 1) := by decide +kernel
theorem dX4_begin_8 : decode cX4_begin 8 = .ok (.getfield 15, 3) := by decide +kernel
theorem dX4_begin_11 : decode cX4_begin 11 = .ok (.iload_n 1, 1) := by decide +kernel
theorem dX4_begin_12 : decode cX4_begin 12 = .ok (.iload_n 3, 1) := by decide +kernel
theorem dX4_begin_13 : decode cX4_begin 13 = .ok (.iastore, 1) := by decide +kernel
theorem dX4_begin_14 : decode cX4_begin 14 = .ok (.aload_n 0, 1) := by decide +kernel
theorem dX4_begin_15 : decode cX4_begin 15 = .ok (.getfield 20, 3) := by decide +kernel
theorem dX4_begin_18 : decode cX4_begin 18 = .ok (.iload_n 1, 1) := by decide +kernel
theorem dX4_begin_19 : decode cX4_begin 19 = .ok (.aaload, 1) := by decide +kernel
theorem dX4_begin_20 : decode cX4_begin 20 = .ok (.lconst 0, 1) := by decide +kernel
theorem dX4_begin_21 : decode cX4_begin 21 = .ok (.invokestatic 33, 3) := by decide +kernel
theorem dX4_begin_24 : decode cX4_begin 24 = .ok (.return_, 1) := by decide +kernel
theorem dX4_isWidth_0 : decode cX4_isWidth 0 = .ok (.iload_n 0, 1) := by decide +kernel
theorem dX4_isWidth_1 : decode cX4_isWidth 1 = .ok (.ifCond .lt 12, 3) := by decide +kernel
theorem dX4_isWidth_4 : decode cX4_isWidth 4 = .ok (.iload_n 0, 1) := by decide +kernel
theorem dX4_isWidth_5 : decode cX4_isWidth 5 = .ok (.iconst 4, 1) := by decide +kernel
theorem dX4_isWidth_6 : decode cX4_isWidth 6 = .ok (.if_icmp .ge 7, 3) := by decide +kernel
theorem dX4_isWidth_9 : decode cX4_isWidth 9 = .ok (.iconst 1, 1) := by decide +kernel
theorem dX4_isWidth_10 : decode cX4_isWidth 10 = .ok (.goto 4, 3) := by decide +kernel
theorem dX4_isWidth_13 : decode cX4_isWidth 13 = .ok (.iconst 0, 1) := by decide +kernel
theorem dX4_isWidth_14 : decode cX4_isWidth 14 = .ok (.ireturn, 1) := by decide +kernel
theorem dX5_clear_0 : decode cX5_clear 0 = .ok (.aload_n 0, 1) := by decide +kernel
theorem dX5_clear_1 : decode cX5_clear 1 = .ok (.getfield 9, 3) := by decide +kernel
theorem dX5_clear_4 : decode cX5_clear 4 = .ok (.iconst 0, 1) := by decide +kernel
theorem dX5_clear_5 : decode cX5_clear 5 = .ok (.invokestatic 27, 3) := by decide +kernel
theorem dX5_clear_8 : decode cX5_clear 8 = .ok (.aload_n 0, 1) := by decide +kernel
theorem dX5_clear_9 : decode cX5_clear 9 = .ok (.getfield 15, 3) := by decide +kernel
theorem dX5_clear_12 : decode cX5_clear 12 = .ok (.iconst 0, 1) := by decide +kernel
theorem dX5_clear_13 : decode cX5_clear 13 = .ok (.invokestatic 27, 3) := by decide +kernel
theorem dX5_clear_16 : decode cX5_clear 16 = .ok (.aload_n 0, 1) := by decide +kernel
theorem dX5_clear_17 : decode cX5_clear 17 = .ok (.getfield 18, 3) := by decide +kernel
theorem dX5_clear_20 : decode cX5_clear 20 = .ok (.iconst (-1), 1) := by decide +kernel
theorem dX5_clear_21 : decode cX5_clear 21 = .ok (.invokestatic 27, 3) := by decide +kernel
theorem dX5_clear_24 : decode cX5_clear 24 = .ok (.aload_n 0, 1) := by decide +kernel
theorem dX5_clear_25 : decode cX5_clear 25 = .ok (.getfield 21, 3) := by decide +kernel
theorem dX5_clear_28 : decode cX5_clear 28 = .ok (.iconst 0, 1) := by decide +kernel
theorem dX5_clear_29 : decode cX5_clear 29 = .ok (.invokestatic 27, 3) := by decide +kernel
theorem dX5_clear_32 : decode cX5_clear 32 = .ok (.aload_n 0, 1) := by decide +kernel
theorem dX5_clear_33 : decode cX5_clear 33 = .ok (.getfield 24, 3) := by decide +kernel
theorem dX5_clear_36 : decode cX5_clear 36 = .ok (.iconst 0, 1) := by decide +kernel
theorem dX5_clear_37 : decode cX5_clear 37 = .ok (.invokestatic 27, 3) := by decide +kernel
theorem dX5_clear_40 : decode cX5_clear 40 = .ok (.return_, 1) := by decide +kernel
theorem dX5_copy_0 : decode cX5_copy 0 = .ok (.aload_n 1, 1) := by decide +kernel
theorem dX5_copy_1 : decode cX5_copy 1 = .ok (.getfield 9, 3) := by decide +kernel
theorem dX5_copy_4 : decode cX5_copy 4 = .ok (.iconst 0, 1) := by decide +kernel
theorem dX5_copy_5 : decode cX5_copy 5 = .ok (.aload_n 0, 1) := by decide +kernel
theorem dX5_copy_6 : decode cX5_copy 6 = .ok (.getfield 9, 3) := by decide +kernel
theorem dX5_copy_9 : decode cX5_copy 9 = .ok (.iconst 0, 1) := by decide +kernel
theorem dX5_copy_10 : decode cX5_copy 10 = .ok (.aload_n 0, 1) := by decide +kernel
theorem dX5_copy_11 : decode cX5_copy 11 = .ok (.getfield 9, 3) := by decide +kernel
theorem dX5_copy_14 : decode cX5_copy 14 = .ok (.arraylength, 1) := by decide +kernel
theorem dX5_copy_15 : decode cX5_copy 15 = .ok (.invokestatic 33, 3) := by decide +kernel
theorem dX5_copy_18 : decode cX5_copy 18 = .ok (.aload_n 1, 1) := by decide +kernel
theorem dX5_copy_19 : decode cX5_copy 19 = .ok (.getfield 15, 3) := by decide +kernel
theorem dX5_copy_22 : decode cX5_copy 22 = .ok (.iconst 0, 1) := by decide +kernel
theorem dX5_copy_23 : decode cX5_copy 23 = .ok (.aload_n 0, 1) := by decide +kernel
theorem dX5_copy_24 : decode cX5_copy 24 = .ok (.getfield 15, 3) := by decide +kernel
theorem dX5_copy_27 : decode cX5_copy 27 = .ok (.iconst 0, 1) := by decide +kernel
theorem dX5_copy_28 : decode cX5_copy 28 = .ok (.bipush 8, 2) := by decide +kernel
theorem dX5_copy_30 : decode cX5_copy 30 = .ok (.invokestatic 33, 3) := by decide +kernel
theorem dX5_copy_33 : decode cX5_copy 33 = .ok (.aload_n 1, 1) := by decide +kernel
theorem dX5_copy_34 : decode cX5_copy 34 = .ok (.getfield 18, 3) := by decide +kernel
theorem dX5_copy_37 : decode cX5_copy 37 = .ok (.iconst 0, 1) := by decide +kernel
theorem dX5_copy_38 : decode cX5_copy 38 = .ok (.aload_n 0, 1) := by decide +kernel
theorem dX5_copy_39 : decode cX5_copy 39 = .ok (.getfield 18, 3) := by decide +kernel
theorem dX5_copy_42 : decode cX5_copy 42 = .ok (.iconst 0, 1) := by decide +kernel
theorem dX5_copy_43 : decode cX5_copy 43 = .ok (.bipush 8, 2) := by decide +kernel
theorem dX5_copy_45 : decode cX5_copy 45 = .ok (.invokestatic 33, 3) := by decide +kernel
theorem dX5_copy_48 : decode cX5_copy 48 = .ok (.aload_n 1, 1) := by decide +kernel
theorem dX5_copy_49 : decode cX5_copy 49 = .ok (.getfield 21, 3) := by decide +kernel
theorem dX5_copy_52 : decode cX5_copy 52 = .ok (.iconst 0, 1) := by decide +kernel
theorem dX5_copy_53 : decode cX5_copy 53 = .ok (.aload_n 0, 1) := by decide +kernel
theorem dX5_copy_54 : decode cX5_copy 54 = .ok (.getfield 21, 3) := by decide +kernel
theorem dX5_copy_57 : decode cX5_copy 57 = .ok (.iconst 0, 1) := by decide +kernel
theorem dX5_copy_58 : decode cX5_copy 58 = .ok (.iconst 3, 1) := by decide +kernel
theorem dX5_copy_59 : decode cX5_copy 59 = .ok (.invokestatic 33, 3) := by decide +kernel
theorem dX5_copy_62 : decode cX5_copy 62 = .ok (.aload_n 1, 1) := by decide +kernel
theorem dX5_copy_63 : decode cX5_copy 63 = .ok (.getfield 24, 3) := by decide +kernel
theorem dX5_copy_66 : decode cX5_copy 66 = .ok (.iconst 0, 1) := by decide +kernel
theorem dX5_copy_67 : decode cX5_copy 67 = .ok (.aload_n 0, 1) := by decide +kernel
theorem dX5_copy_68 : decode cX5_copy 68 = .ok (.getfield 24, 3) := by decide +kernel
theorem dX5_copy_71 : decode cX5_copy 71 = .ok (.iconst 0, 1) := by decide +kernel
theorem dX5_copy_72 : decode cX5_copy 72 = .ok (.iconst 3, 1) := by decide +kernel
theorem dX5_copy_73 : decode cX5_copy 73 = .ok (.invokestatic 33, 3) := by decide +kernel
theorem dX5_copy_76 : decode cX5_copy 76 = .ok (.return_, 1) := by decide +kernel
theorem dX8_begin_0 : decode cX8_begin 0 = .ok (.aload_n 0, 1) := by decide +kernel
theorem dX8_begin_1 : decode cX8_begin 1 = .ok (.getfield 12, 3) := by decide +kernel
theorem dX8_begin_4 : decode cX8_begin 4 = .ok (.aload_n 1, 1) := by decide +kernel
theorem dX8_begin_5 : decode cX8_begin 5 = .ok (.invokevirtual 35, 3) := by decide +kernel
theorem dX8_begin_8 : decode cX8_begin 8 = .ok (.aload_n 0, 1) := by decide +kernel
theorem dX8_begin_9 : decode cX8_begin 9 = .ok (.getfield 21, 3) := by decide +kernel
theorem dX8_begin_12 : decode cX8_begin 12 = .ok (.aload_n 1, 1) := by decide +kernel
theorem dX8_begin_13 : decode cX8_begin 13 = .ok (.getfield 39, 3) := by decide +kernel
theorem dX8_begin_16 : decode cX8_begin 16 = .ok (.invokevirtual 42, 3) := by decide +kernel
theorem dX8_begin_19 : decode cX8_begin 19 = .ok (.aload_n 0, 1) := by decide +kernel
theorem dX8_begin_20 : decode cX8_begin 20 = .ok (.iconst 0, 1) := by decide +kernel
theorem dX8_begin_21 : decode cX8_begin 21 = .ok (.putfield 45, 3) := by decide +kernel
theorem dX8_begin_24 : decode cX8_begin 24 = .ok (.return_, 1) := by decide +kernel
theorem dX8_copy_0 : decode cX8_copy 0 = .ok (.aload_n 0, 1) := by decide +kernel
theorem dX8_copy_1 : decode cX8_copy 1 = .ok (.getfield 12, 3) := by decide +kernel
theorem dX8_copy_4 : decode cX8_copy 4 = .ok (.aload_n 1, 1) := by decide +kernel
theorem dX8_copy_5 : decode cX8_copy 5 = .ok (.getfield 12, 3) := by decide +kernel
theorem dX8_copy_8 : decode cX8_copy 8 = .ok (.invokevirtual 35, 3) := by decide +kernel
theorem dX8_copy_11 : decode cX8_copy 11 = .ok (.aload_n 0, 1) := by decide +kernel
theorem dX8_copy_12 : decode cX8_copy 12 = .ok (.getfield 21, 3) := by decide +kernel
theorem dX8_copy_15 : decode cX8_copy 15 = .ok (.aload_n 1, 1) := by decide +kernel
theorem dX8_copy_16 : decode cX8_copy 16 = .ok (.getfield 21, 3) := by decide +kernel
theorem dX8_copy_19 : decode cX8_copy 19 = .ok (.invokevirtual 42, 3) := by decide +kernel
theorem dX8_copy_22 : decode cX8_copy 22 = .ok (.aload_n 0, 1) := by decide +kernel
theorem dX8_copy_23 : decode cX8_copy 23 = .ok (.aload_n 1, 1) := by decide +kernel
theorem dX8_copy_24 : decode cX8_copy 24 = .ok (.getfield 45, 3) := by decide +kernel
theorem dX8_copy_27 : decode cX8_copy 27 = .ok (.putfield 45, 3) := by decide +kernel
theorem dX8_copy_30 : decode cX8_copy 30 = .ok (.aload_n 1, 1) := by decide +kernel
theorem dX8_copy_31 : decode cX8_copy 31 = .ok (.getfield 25, 3) := by decide +kernel
theorem dX8_copy_34 : decode cX8_copy 34 = .ok (.iconst 0, 1) := by decide +kernel
theorem dX8_copy_35 : decode cX8_copy 35 = .ok (.aload_n 0, 1) := by decide +kernel
theorem dX8_copy_36 : decode cX8_copy 36 = .ok (.getfield 25, 3) := by decide +kernel
theorem dX8_copy_39 : decode cX8_copy 39 = .ok (.iconst 0, 1) := by decide +kernel
theorem dX8_copy_40 : decode cX8_copy 40 = .ok (.bipush 40, 2) := by decide +kernel
theorem dX8_copy_42 : decode cX8_copy 42 = .ok (.invokestatic 49, 3) := by decide +kernel
theorem dX8_copy_45 : decode cX8_copy 45 = .ok (.aload_n 1, 1) := by decide +kernel
theorem dX8_copy_46 : decode cX8_copy 46 = .ok (.getfield 29, 3) := by decide +kernel
theorem dX8_copy_49 : decode cX8_copy 49 = .ok (.iconst 0, 1) := by decide +kernel
theorem dX8_copy_50 : decode cX8_copy 50 = .ok (.aload_n 0, 1) := by decide +kernel
theorem dX8_copy_51 : decode cX8_copy 51 = .ok (.getfield 29, 3) := by decide +kernel
theorem dX8_copy_54 : decode cX8_copy 54 = .ok (.iconst 0, 1) := by decide +kernel
theorem dX8_copy_55 : decode cX8_copy 55 = .ok (.bipush 40, 2) := by decide +kernel
theorem dX8_copy_57 : decode cX8_copy 57 = .ok (.invokestatic 49, 3) := by decide +kernel
theorem dX8_copy_60 : decode cX8_copy 60 = .ok (.aload_n 1, 1) := by decide +kernel
theorem dX8_copy_61 : decode cX8_copy 61 = .ok (.getfield 32, 3) := by decide +kernel
theorem dX8_copy_64 : decode cX8_copy 64 = .ok (.iconst 0, 1) := by decide +kernel
theorem dX8_copy_65 : decode cX8_copy 65 = .ok (.aload_n 0, 1) := by decide +kernel
theorem dX8_copy_66 : decode cX8_copy 66 = .ok (.getfield 32, 3) := by decide +kernel
theorem dX8_copy_69 : decode cX8_copy 69 = .ok (.iconst 0, 1) := by decide +kernel
theorem dX8_copy_70 : decode cX8_copy 70 = .ok (.bipush 40, 2) := by decide +kernel
theorem dX8_copy_72 : decode cX8_copy 72 = .ok (.invokestatic 49, 3) := by decide +kernel
theorem dX8_copy_75 : decode cX8_copy 75 = .ok (.return_, 1) := by decide +kernel
theorem dX9_image_0 : decode cX9_image 0 = .ok (.iload_n 1, 1) := by decide +kernel
theorem dX9_image_1 : decode cX9_image 1 = .ok (.ifCond .lt 8, 3) := by decide +kernel
theorem dX9_image_4 : decode cX9_image 4 = .ok (.iload_n 1, 1) := by decide +kernel
theorem dX9_image_5 : decode cX9_image 5 = .ok (.iconst 3, 1) := by decide +kernel
theorem dX9_image_6 : decode cX9_image 6 = .ok (.if_icmp .lt 6, 3) := by decide +kernel
theorem dX9_image_9 : decode cX9_image 9 = .ok (.bipush (-2), 2) := by decide +kernel
theorem dX9_image_11 : decode cX9_image 11 = .ok (.ireturn, 1) := by decide +kernel
theorem dX9_image_12 : decode cX9_image 12 = .ok (.aload_n 0, 1) := by decide +kernel
theorem dX9_image_13 : decode cX9_image 13 = .ok (.getfield 28, 3) := by decide +kernel
theorem dX9_image_16 : decode cX9_image 16 = .ok (.iload_n 1, 1) := by decide +kernel
theorem dX9_image_17 : decode cX9_image 17 = .ok (.aaload, 1) := by decide +kernel
theorem dX9_image_18 : decode cX9_image 18 = .ok (.aload_n 0, 1) := by decide +kernel
theorem dX9_image_19 : decode cX9_image 19 = .ok (.getfield 24, 3) := by decide +kernel
theorem dX9_image_22 : decode cX9_image 22 = .ok (.invokevirtual 413, 3) := by decide +kernel
theorem dX9_image_25 : decode cX9_image 25 = .ok (.aload_n 0, 1) := by decide +kernel
theorem dX9_image_26 : decode cX9_image 26 = .ok (.getfield 32, 3) := by decide +kernel
theorem dX9_image_29 : decode cX9_image 29 = .ok (.iload_n 1, 1) := by decide +kernel
theorem dX9_image_30 : decode cX9_image 30 = .ok (.iconst 1, 1) := by decide +kernel
theorem dX9_image_31 : decode cX9_image 31 = .ok (.bastore, 1) := by decide +kernel
theorem dX9_image_32 : decode cX9_image 32 = .ok (.iconst 0, 1) := by decide +kernel
theorem dX9_image_33 : decode cX9_image 33 = .ok (.ireturn, 1) := by decide +kernel
theorem dX9_land_0 : decode cX9_land 0 = .ok (.aload_n 0, 1) := by decide +kernel
theorem dX9_land_1 : decode cX9_land 1 = .ok (.getfield 10, 3) := by decide +kernel
theorem dX9_land_4 : decode cX9_land 4 = .ok (.invokevirtual 89, 3) := by decide +kernel
theorem dX9_land_7 : decode cX9_land 7 = .ok (.ifCond .ne 6, 3) := by decide +kernel
theorem dX9_land_13 : decode cX9_land 13 = .ok (.aload_n 0, 1) := by decide +kernel
theorem dX9_land_14 : decode cX9_land 14 = .ok (.getfield 24, 3) := by decide +kernel
theorem dX9_land_17 : decode cX9_land 17 = .ok (.aload_n 0, 1) := by decide +kernel
theorem dX9_land_18 : decode cX9_land 18 = .ok (.getfield 10, 3) := by decide +kernel
theorem dX9_land_21 : decode cX9_land 21 = .ok (.getfield 92, 3) := by decide +kernel
theorem dX9_land_24 : decode cX9_land 24 = .ok (.invokevirtual 96, 3) := by decide +kernel
theorem dX9_land_27 : decode cX9_land 27 = .ok (.aload_n 0, 1) := by decide +kernel
theorem dX9_land_28 : decode cX9_land 28 = .ok (.getfield 20, 3) := by decide +kernel
theorem dX9_land_31 : decode cX9_land 31 = .ok (.iconst 0, 1) := by decide +kernel
theorem dX9_land_32 : decode cX9_land 32 = .ok (.putfield 85, 3) := by decide +kernel
theorem dX9_land_35 : decode cX9_land 35 = .ok (.aload_n 0, 1) := by decide +kernel
theorem dX9_land_36 : decode cX9_land 36 = .ok (.getfield 24, 3) := by decide +kernel
theorem dX9_land_39 : decode cX9_land 39 = .ok (.getfield 100, 3) := by decide +kernel
theorem dX9_land_42 : decode cX9_land 42 = .ok (.getfield 103, 3) := by decide +kernel
theorem dX9_land_45 : decode cX9_land 45 = .ok (.ireturn, 1) := by decide +kernel
theorem dX9_row_0 : decode cX9_row 0 = .ok (.aload_n 0, 1) := by decide +kernel
theorem dX9_row_1 : decode cX9_row 1 = .ok (.getfield 39, 3) := by decide +kernel
theorem dX9_row_4 : decode cX9_row 4 = .ok (.iload_n 1, 1) := by decide +kernel
theorem dX9_row_5 : decode cX9_row 5 = .ok (.invokevirtual 238, 3) := by decide +kernel
theorem dX9_row_8 : decode cX9_row 8 = .ok (.ifCond .eq 16, 3) := by decide +kernel
theorem dX9_row_11 : decode cX9_row 11 = .ok (.iload_n 2, 1) := by decide +kernel
theorem dX9_row_12 : decode cX9_row 12 = .ok (.invokestatic 416, 3) := by decide +kernel
theorem dX9_row_15 : decode cX9_row 15 = .ok (.ifCond .eq 9, 3) := by decide +kernel
theorem dX9_row_18 : decode cX9_row 18 = .ok (.iload_n 3, 1) := by decide +kernel
theorem dX9_row_19 : decode cX9_row 19 = .ok (.bipush 60, 2) := by decide +kernel
theorem dX9_row_21 : decode cX9_row 21 = .ok (.if_icmp .le 6, 3) := by decide +kernel
theorem dX9_row_24 : decode cX9_row 24 = .ok (.bipush (-2), 2) := by decide +kernel
theorem dX9_row_26 : decode cX9_row 26 = .ok (.ireturn, 1) := by decide +kernel
theorem dX9_row_27 : decode cX9_row 27 = .ok (.iload_n 3, 1) := by decide +kernel
theorem dX9_row_28 : decode cX9_row 28 = .ok (.ifCond .ge 6, 3) := by decide +kernel
theorem dX9_row_31 : decode cX9_row 31 = .ok (.bipush (-3), 2) := by decide +kernel
theorem dX9_row_33 : decode cX9_row 33 = .ok (.ireturn, 1) := by decide +kernel
theorem dX9_row_34 : decode cX9_row 34 = .ok (.aload_n 0, 1) := by decide +kernel
theorem dX9_row_35 : decode cX9_row 35 = .ok (.getfield 39, 3) := by decide +kernel
theorem dX9_row_38 : decode cX9_row 38 = .ok (.iload_n 1, 1) := by decide +kernel
theorem dX9_row_39 : decode cX9_row 39 = .ok (.iload_n 2, 1) := by decide +kernel
theorem dX9_row_40 : decode cX9_row 40 = .ok (.iload_n 3, 1) := by decide +kernel
theorem dX9_row_41 : decode cX9_row 41 = .ok (.invokevirtual 419, 3) := by decide +kernel
theorem dX9_row_44 : decode cX9_row 44 = .ok (.iconst 0, 1) := by decide +kernel
theorem dX9_row_45 : decode cX9_row 45 = .ok (.ireturn, 1) := by decide +kernel
