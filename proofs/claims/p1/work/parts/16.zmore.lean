theorem t144 : Cond.fieldLink RX6 15 "WheelMemory$Tape" "length" "I" ∈ TB := tb 144 _ (by decide +kernel) rfl
theorem t489 : Cond.methodLink RX9 75 yX6_hasRoom ∈ TB := tb 489 _ (by decide +kernel) rfl
theorem t490 : Cond.instanceMethod yX6_hasRoom ∈ TB := tb 490 _ (by decide +kernel) rfl
theorem t491 : Cond.selects RX6 yX6_hasRoom yX6_hasRoom ∈ TB := tb 491 _ (by decide +kernel) rfl
theorem t492 : Cond.code yX6_hasRoom cX6_hasRoom 1 (some .boolean) ∈ TB := tb 492 _ (by decide +kernel) rfl
theorem t493 : Cond.methodLink RX9 81 yX6_append ∈ TB := tb 493 _ (by decide +kernel) rfl
theorem t494 : Cond.instanceMethod yX6_append ∈ TB := tb 494 _ (by decide +kernel) rfl
theorem t495 : Cond.selects RX6 yX6_append yX6_append ∈ TB := tb 495 _ (by decide +kernel) rfl
theorem t496 : Cond.code yX6_append cX6_append 3 none ∈ TB := tb 496 _ (by decide +kernel) rfl
theorem t1262 : Cond.methodLink RX10 3 objectInit ∈ TB := tb 1262 _ (by decide +kernel) rfl
theorem t1264 : Cond.fieldLink RX10 13 "WheelMemoryModel" "images" "[I" ∈ TB := tb 1264 _ (by decide +kernel) rfl
theorem t1266 : Cond.fieldLink RX10 20 "WheelMemoryModel" "tape" "[B" ∈ TB := tb 1266 _ (by decide +kernel) rfl
theorem t1268 : Cond.fieldLink RX10 24 "WheelMemoryModel" "five" "[I" ∈ TB := tb 1268 _ (by decide +kernel) rfl
theorem t1276 : Cond.fieldLink RX10 31 "WheelMemoryModel" "fresh" "[I" ∈ TB := tb 1276 _ (by decide +kernel) rfl
theorem t1277 : Cond.fieldLink RX10 34 "WheelMemoryModel" "rim" "[I" ∈ TB := tb 1277 _ (by decide +kernel) rfl
theorem t1278 : Cond.fieldLink RX10 37 "WheelMemoryModel" "like" "[I" ∈ TB := tb 1278 _ (by decide +kernel) rfl
theorem t1279 : Cond.fieldLink RX10 40 "WheelMemoryModel" "seat" "[I" ∈ TB := tb 1279 _ (by decide +kernel) rfl
theorem t1280 : Cond.fieldLink RX10 43 "WheelMemoryModel" "place" "[I" ∈ TB := tb 1280 _ (by decide +kernel) rfl
theorem t1281 : Cond.fieldLink RX10 46 "WheelMemoryModel" "miles" "[I" ∈ TB := tb 1281 _ (by decide +kernel) rfl
theorem t1285 : Cond.fieldLink RX10 49 "WheelMemoryModel" "deep" "[I" ∈ TB := tb 1285 _ (by decide +kernel) rfl
theorem t1286 : Cond.fieldLink RX10 52 "WheelMemoryModel" "wanted" "[I" ∈ TB := tb 1286 _ (by decide +kernel) rfl
theorem t1287 : Cond.fieldLink RX10 55 "WheelMemoryModel" "bestWanted" "[I" ∈ TB := tb 1287 _ (by decide +kernel) rfl
theorem t1290 : Cond.fieldLink RX10 58 "WheelMemoryModel" "far" "[I" ∈ TB := tb 1290 _ (by decide +kernel) rfl
theorem t1292 : Cond.fieldLink RX10 61 "WheelMemoryModel" "roamed" "[I" ∈ TB := tb 1292 _ (by decide +kernel) rfl
theorem t1294 : Cond.fieldLink RX10 64 "WheelMemoryModel" "gain" "[I" ∈ TB := tb 1294 _ (by decide +kernel) rfl
theorem t1297 : Cond.fieldLink RX10 70 "WheelMemoryModel" "width" "[I" ∈ TB := tb 1297 _ (by decide +kernel) rfl
theorem t1298 : Cond.fieldLink RX10 73 "WheelMemoryModel" "numbers" "[J" ∈ TB := tb 1298 _ (by decide +kernel) rfl
theorem t1299 : Cond.fieldLink RX10 77 "WheelMemoryModel" "moving" "[J" ∈ TB := tb 1299 _ (by decide +kernel) rfl
theorem ok_X9_end : okY yX9_end RX9 1 := by unfold okY; decide +kernel
theorem ok_X9_feed : okY yX9_feed RX9 5 := by unfold okY; decide +kernel
theorem ok_X2_isBlank : okY yX2_isBlank RX2 1 := by unfold okY; decide +kernel
theorem ok_X6_append : okY yX6_append RX6 1 := by unfold okY; decide +kernel
theorem ok_X6_byteAt : okY yX6_byteAt RX6 1 := by unfold okY; decide +kernel
theorem ok_X6_hasRoom : okY yX6_hasRoom RX6 0 := by unfold okY; decide +kernel
theorem ok_X10_init : okY yX10_init RX10 0 := by unfold okY; decide +kernel
theorem lkX9_75 : GoodIn TB (wsV RX9 75 RX6 yX6_hasRoom (.code yX6_hasRoom cX6_hasRoom 1 (some .boolean) :: TB)) := gdV t489 t490 t491 t106 t492
theorem lkX9_81 : GoodIn TB (wsV RX9 81 RX6 yX6_append (.code yX6_append cX6_append 3 none :: TB)) := gdV t493 t494 t495 t106 t496
theorem dX10_init_0 : decode cX10_init 0 = .ok (.aload_n 0, 1) := by decide +kernel
theorem dX10_init_1 : decode cX10_init 1 = .ok (.invokespecial 3, 3) := by decide +kernel
theorem dX10_init_4 : decode cX10_init 4 = .ok (.aload_n 0, 1) := by decide +kernel
theorem dX10_init_5 : decode cX10_init 5 = .ok (.sipush 168, 3) := by decide +kernel
theorem dX10_init_8 : decode cX10_init 8 = .ok (.newarray .int, 2) := by decide +kernel
theorem dX10_init_10 : decode cX10_init 10 = .ok (.putfield 9, 3) := by decide +kernel
theorem dX10_init_13 : decode cX10_init 13 = .ok (.aload_n 0, 1) := by decide +kernel
theorem dX10_init_14 : decode cX10_init 14 = .ok (.sipush 504, 3) := by decide +kernel
theorem dX10_init_17 : decode cX10_init 17 = .ok (.newarray .int, 2) := by decide +kernel
theorem dX10_init_19 : decode cX10_init 19 = .ok (.putfield 13, 3) := by decide +kernel
theorem dX10_init_22 : decode cX10_init 22 = .ok (.aload_n 0, 1) := by decide +kernel
theorem dX10_init_23 : decode cX10_init 23 = .ok (.iconst 3, 1) := by decide +kernel
theorem dX10_init_24 : decode cX10_init 24 = .ok (.newarray .boolean, 2) := by decide +kernel
theorem dX10_init_26 : decode cX10_init 26 = .ok (.putfield 16, 3) := by decide +kernel
theorem dX10_init_29 : decode cX10_init 29 = .ok (.aload_n 0, 1) := by decide +kernel
theorem dX10_init_30 : decode cX10_init 30 = .ok (.sipush 1000, 3) := by decide +kernel
theorem dX10_init_33 : decode cX10_init 33 = .ok (.newarray .byte, 2) := by decide +kernel
theorem dX10_init_35 : decode cX10_init 35 = .ok (.putfield 20, 3) := by decide +kernel
theorem dX10_init_38 : decode cX10_init 38 = .ok (.aload_n 0, 1) := by decide +kernel
theorem dX10_init_39 : decode cX10_init 39 = .ok (.iconst 5, 1) := by decide +kernel
theorem dX10_init_40 : decode cX10_init 40 = .ok (.newarray .int, 2) := by decide +kernel
theorem dX10_init_42 : decode cX10_init 42 = .ok (.putfield 24, 3) := by decide +kernel
theorem dX10_init_45 : decode cX10_init 45 = .ok (.aload_n 0, 1) := by decide +kernel
theorem dX10_init_46 : decode cX10_init 46 = .ok (.iconst (-1), 1) := by decide +kernel
theorem dX10_init_47 : decode cX10_init 47 = .ok (.putfield 27, 3) := by decide +kernel
theorem dX10_init_50 : decode cX10_init 50 = .ok (.aload_n 0, 1) := by decide +kernel
theorem dX10_init_51 : decode cX10_init 51 = .ok (.sipush 168, 3) := by decide +kernel
theorem dX10_init_54 : decode cX10_init 54 = .ok (.newarray .int, 2) := by decide +kernel
theorem dX10_init_56 : decode cX10_init 56 = .ok (.putfield 31, 3) := by decide +kernel
theorem dX10_init_59 : decode cX10_init 59 = .ok (.aload_n 0, 1) := by decide +kernel
theorem dX10_init_60 : decode cX10_init 60 = .ok (.bipush 8, 2) := by decide +kernel
theorem dX10_init_62 : decode cX10_init 62 = .ok (.newarray .int, 2) := by decide +kernel
theorem dX10_init_64 : decode cX10_init 64 = .ok (.putfield 34, 3) := by decide +kernel
theorem dX10_init_67 : decode cX10_init 67 = .ok (.aload_n 0, 1) := by decide +kernel
theorem dX10_init_68 : decode cX10_init 68 = .ok (.bipush 64, 2) := by decide +kernel
theorem dX10_init_70 : decode cX10_init 70 = .ok (.newarray .int, 2) := by decide +kernel
theorem dX10_init_72 : decode cX10_init 72 = .ok (.putfield 37, 3) := by decide +kernel
theorem dX10_init_75 : decode cX10_init 75 = .ok (.aload_n 0, 1) := by decide +kernel
theorem dX10_init_76 : decode cX10_init 76 = .ok (.bipush 8, 2) := by decide +kernel
theorem dX10_init_78 : decode cX10_init 78 = .ok (.newarray .int, 2) := by decide +kernel
theorem dX10_init_80 : decode cX10_init 80 = .ok (.putfield 40, 3) := by decide +kernel
theorem dX10_init_83 : decode cX10_init 83 = .ok (.aload_n 0, 1) := by decide +kernel
theorem dX10_init_84 : decode cX10_init 84 = .ok (.iconst 3, 1) := by decide +kernel
theorem dX10_init_85 : decode cX10_init 85 = .ok (.newarray .int, 2) := by decide +kernel
theorem dX10_init_87 : decode cX10_init 87 = .ok (.putfield 43, 3) := by decide +kernel
theorem dX10_init_90 : decode cX10_init 90 = .ok (.aload_n 0, 1) := by decide +kernel
theorem dX10_init_91 : decode cX10_init 91 = .ok (.iconst 3, 1) := by decide +kernel
theorem dX10_init_92 : decode cX10_init 92 = .ok (.newarray .int, 2) := by decide +kernel
theorem dX10_init_94 : decode cX10_init 94 = .ok (.putfield 46, 3) := by decide +kernel
theorem dX10_init_97 : decode cX10_init 97 = .ok (.aload_n 0, 1) := by decide +kernel
theorem dX10_init_98 : decode cX10_init 98 = .ok (.sipush 370, 3) := by decide +kernel
theorem dX10_init_101 : decode cX10_init 101 = .ok (.newarray .int, 2) := by decide +kernel
theorem dX10_init_103 : decode cX10_init 103 = .ok (.putfield 49, 3) := by decide +kernel
theorem dX10_init_106 : decode cX10_init 106 = .ok (.aload_n 0, 1) := by decide +kernel
theorem dX10_init_107 : decode cX10_init 107 = .ok (.iconst 5, 1) := by decide +kernel
theorem dX10_init_108 : decode cX10_init 108 = .ok (.newarray .int, 2) := by decide +kernel
theorem dX10_init_110 : decode cX10_init 110 = .ok (.putfield 52, 3) := by decide +kernel
theorem dX10_init_113 : decode cX10_init 113 = .ok (.aload_n 0, 1) := by decide +kernel
theorem dX10_init_114 : decode cX10_init 114 = .ok (.iconst 4, 1) := by decide +kernel
theorem dX10_init_115 : decode cX10_init 115 = .ok (.newarray .int, 2) := by decide +kernel
theorem dX10_init_117 : decode cX10_init 117 = .ok (.putfield 55, 3) := by decide +kernel
theorem dX10_init_120 : decode cX10_init 120 = .ok (.aload_n 0, 1) := by decide +kernel
theorem dX10_init_121 : decode cX10_init 121 = .ok (.bipush 6, 2) := by decide +kernel
theorem dX10_init_123 : decode cX10_init 123 = .ok (.newarray .int, 2) := by decide +kernel
theorem dX10_init_125 : decode cX10_init 125 = .ok (.putfield 58, 3) := by decide +kernel
theorem dX10_init_128 : decode cX10_init 128 = .ok (.aload_n 0, 1) := by decide +kernel
theorem dX10_init_129 : decode cX10_init 129 = .ok (.bipush 41, 2) := by decide +kernel
theorem dX10_init_131 : decode cX10_init 131 = .ok (.newarray .int, 2) := by decide +kernel
theorem dX10_init_133 : decode cX10_init 133 = .ok (.putfield 61, 3) := by decide +kernel
theorem dX10_init_136 : decode cX10_init 136 = .ok (.aload_n 0, 1) := by decide +kernel
theorem dX10_init_137 : decode cX10_init 137 = .ok (.sipush 256, 3) := by decide +kernel
theorem dX10_init_140 : decode cX10_init 140 = .ok (.newarray .int, 2) := by decide +kernel
theorem dX10_init_142 : decode cX10_init 142 = .ok (.putfield 64, 3) := by decide +kernel
theorem dX10_init_145 : decode cX10_init 145 = .ok (.aload_n 0, 1) := by decide +kernel
theorem dX10_init_146 : decode cX10_init 146 = .ok (.iconst 4, 1) := by decide +kernel
theorem dX10_init_147 : decode cX10_init 147 = .ok (.newarray .int, 2) := by decide +kernel
theorem dX10_init_149 : decode cX10_init 149 = .ok (.dup, 1) := by decide +kernel
theorem dX10_init_150 : decode cX10_init 150 = .ok (.iconst 0, 1) := by decide +kernel
theorem dX10_init_151 : decode cX10_init 151 = .ok (.iconst (-1), 1) := by decide +kernel
theorem dX10_init_152 : decode cX10_init 152 = .ok (.iastore, 1) := by decide +kernel
theorem dX10_init_153 : decode cX10_init 153 = .ok (.dup, 1) := by decide +kernel
theorem dX10_init_154 : decode cX10_init 154 = .ok (.iconst 1, 1) := by decide +kernel
theorem dX10_init_155 : decode cX10_init 155 = .ok (.iconst (-1), 1) := by decide +kernel
theorem dX10_init_156 : decode cX10_init 156 = .ok (.iastore, 1) := by decide +kernel
theorem dX10_init_157 : decode cX10_init 157 = .ok (.dup, 1) := by decide +kernel
theorem dX10_init_158 : decode cX10_init 158 = .ok (.iconst 2, 1) := by decide +kernel
theorem dX10_init_159 : decode cX10_init 159 = .ok (.iconst (-1), 1) := by decide +kernel
theorem dX10_init_160 : decode cX10_init 160 = .ok (.iastore, 1) := by decide +kernel
theorem dX10_init_161 : decode cX10_init 161 = .ok (.dup, 1) := by decide +kernel
theorem dX10_init_162 : decode cX10_init 162 = .ok (.iconst 3, 1) := by decide +kernel
theorem dX10_init_163 : decode cX10_init 163 = .ok (.iconst (-1), 1) := by decide +kernel
theorem dX10_init_164 : decode cX10_init 164 = .ok (.iastore, 1) := by decide +kernel
theorem dX10_init_165 : decode cX10_init 165 = .ok (.putfield 67, 3) := by decide +kernel
theorem dX10_init_168 : decode cX10_init 168 = .ok (.aload_n 0, 1) := by decide +kernel
theorem dX10_init_169 : decode cX10_init 169 = .ok (.iconst 4, 1) := by decide +kernel
theorem dX10_init_170 : decode cX10_init 170 = .ok (.newarray .int, 2) := by decide +kernel
theorem dX10_init_172 : decode cX10_init 172 = .ok (.putfield 70, 3) := by decide +kernel
theorem dX10_init_175 : decode cX10_init 175 = .ok (.aload_n 0, 1) := by decide +kernel
theorem dX10_init_176 : decode cX10_init 176 = .ok (.sipush 240, 3) := by decide +kernel
theorem dX10_init_179 : decode cX10_init 179 = .ok (.newarray .long, 2) := by decide +kernel
theorem dX10_init_181 : decode cX10_init 181 = .ok (.putfield 73, 3) := by decide +kernel
theorem dX10_init_184 : decode cX10_init 184 = .ok (.aload_n 0, 1) := by decide +kernel
theorem dX10_init_185 : decode cX10_init 185 = .ok (.bipush 60, 2) := by decide +kernel
theorem dX10_init_187 : decode cX10_init 187 = .ok (.newarray .long, 2) := by decide +kernel
theorem dX10_init_189 : decode cX10_init 189 = .ok (.putfield 77, 3) := by decide +kernel
theorem dX10_init_192 : decode cX10_init 192 = .ok (.return_, 1) := by decide +kernel
theorem dX2_isBlank_0 : decode cX2_isBlank 0 = .ok (.iload_n 0, 1) := by decide +kernel
theorem dX2_isBlank_1 : decode cX2_isBlank 1 = .ok (.bipush 32, 2) := by decide +kernel
theorem dX2_isBlank_3 : decode cX2_isBlank 3 = .ok (.if_icmp .eq 9, 3) := by decide +kernel
theorem dX2_isBlank_6 : decode cX2_isBlank 6 = .ok (.iload_n 0, 1) := by decide +kernel
theorem dX2_isBlank_7 : decode cX2_isBlank 7 = .ok (.bipush 10, 2) := by decide +kernel
theorem dX2_isBlank_9 : decode cX2_isBlank 9 = .ok (.if_icmp .ne 7, 3) := by decide +kernel
theorem dX2_isBlank_16 : decode cX2_isBlank 16 = .ok (.iconst 0, 1) := by decide +kernel
theorem dX2_isBlank_17 : decode cX2_isBlank 17 = .ok (.ireturn, 1) := by decide +kernel
theorem dX6_append_0 : decode cX6_append 0 = .ok (.bipush 24, 2) := by decide +kernel
theorem dX6_append_2 : decode cX6_append 2 = .ok (.istore_n 2, 1) := by decide +kernel
theorem dX6_append_3 : decode cX6_append 3 = .ok (.iload_n 2, 1) := by decide +kernel
theorem dX6_append_4 : decode cX6_append 4 = .ok (.ifCond .lt 42, 3) := by decide +kernel
theorem dX6_append_7 : decode cX6_append 7 = .ok (.aload_n 0, 1) := by decide +kernel
theorem dX6_append_8 : decode cX6_append 8 = .ok (.getfield 15, 3) := by decide +kernel
theorem dX6_append_11 : decode cX6_append 11 = .ok (.sipush 1000, 3) := by decide +kernel
theorem dX6_append_14 : decode cX6_append 14 = .ok (.if_icmp .ge 26, 3) := by decide +kernel
theorem dX6_append_17 : decode cX6_append 17 = .ok (.aload_n 0, 1) := by decide +kernel
theorem dX6_append_18 : decode cX6_append 18 = .ok (.getfield 11, 3) := by decide +kernel
theorem dX6_append_21 : decode cX6_append 21 = .ok (.aload_n 0, 1) := by decide +kernel
theorem dX6_append_22 : decode cX6_append 22 = .ok (.getfield 15, 3) := by decide +kernel
theorem dX6_append_25 : decode cX6_append 25 = .ok (.iload_n 1, 1) := by decide +kernel
theorem dX6_append_26 : decode cX6_append 26 = .ok (.iload_n 2, 1) := by decide +kernel
theorem dX6_append_27 : decode cX6_append 27 = .ok (.ishr, 1) := by decide +kernel
theorem dX6_append_28 : decode cX6_append 28 = .ok (.i2b, 1) := by decide +kernel
theorem dX6_append_29 : decode cX6_append 29 = .ok (.bastore, 1) := by decide +kernel
theorem dX6_append_30 : decode cX6_append 30 = .ok (.aload_n 0, 1) := by decide +kernel
theorem dX6_append_31 : decode cX6_append 31 = .ok (.dup, 1) := by decide +kernel
theorem dX6_append_32 : decode cX6_append 32 = .ok (.getfield 15, 3) := by decide +kernel
theorem dX6_append_35 : decode cX6_append 35 = .ok (.iconst 1, 1) := by decide +kernel
theorem dX6_append_36 : decode cX6_append 36 = .ok (.iadd, 1) := by decide +kernel
theorem dX6_append_37 : decode cX6_append 37 = .ok (.putfield 15, 3) := by decide +kernel
theorem dX6_append_40 : decode cX6_append 40 = .ok (.iinc 2 (-8), 3) := by decide +kernel
theorem dX6_append_43 : decode cX6_append 43 = .ok (.goto (-40), 3) := by decide +kernel
theorem dX6_append_46 : decode cX6_append 46 = .ok (.return_, 1) := by decide +kernel
theorem dX6_byteAt_0 : decode cX6_byteAt 0 = .ok (.iload_n 1, 1) := by decide +kernel
theorem dX6_byteAt_1 : decode cX6_byteAt 1 = .ok (.ifCond .lt 24, 3) := by decide +kernel
theorem dX6_byteAt_4 : decode cX6_byteAt 4 = .ok (.iload_n 1, 1) := by decide +kernel
theorem dX6_byteAt_5 : decode cX6_byteAt 5 = .ok (.aload_n 0, 1) := by decide +kernel
theorem dX6_byteAt_6 : decode cX6_byteAt 6 = .ok (.getfield 15, 3) := by decide +kernel
theorem dX6_byteAt_9 : decode cX6_byteAt 9 = .ok (.if_icmp .ge 16, 3) := by decide +kernel
theorem dX6_byteAt_25 : decode cX6_byteAt 25 = .ok (.iconst (-1), 1) := by decide +kernel
theorem dX6_byteAt_26 : decode cX6_byteAt 26 = .ok (.ireturn, 1) := by decide +kernel
theorem dX6_hasRoom_0 : decode cX6_hasRoom 0 = .ok (.aload_n 0, 1) := by decide +kernel
theorem dX6_hasRoom_1 : decode cX6_hasRoom 1 = .ok (.getfield 15, 3) := by decide +kernel
theorem dX6_hasRoom_4 : decode cX6_hasRoom 4 = .ok (.bipush 20, 2) := by decide +kernel
theorem dX6_hasRoom_6 : decode cX6_hasRoom 6 = .ok (.iadd, 1) := by decide +kernel
theorem dX6_hasRoom_7 : decode cX6_hasRoom 7 = .ok (.sipush 1000, 3) := by decide +kernel
theorem dX6_hasRoom_10 : decode cX6_hasRoom 10 = .ok (.if_icmp .gt 7, 3) := by decide +kernel
theorem dX6_hasRoom_13 : decode cX6_hasRoom 13 = .ok (.iconst 1, 1) := by decide +kernel
theorem dX6_hasRoom_14 : decode cX6_hasRoom 14 = .ok (.goto 4, 3) := by decide +kernel
theorem dX6_hasRoom_18 : decode cX6_hasRoom 18 = .ok (.ireturn, 1) := by decide +kernel
theorem dX9_end_0 : decode cX9_end 0 = .ok (.iload_n 1, 1) := by decide +kernel
theorem dX9_end_1 : decode cX9_end 1 = .ok (.ifCond .lt 14, 3) := by decide +kernel
theorem dX9_end_4 : decode cX9_end 4 = .ok (.iload_n 1, 1) := by decide +kernel
theorem dX9_end_5 : decode cX9_end 5 = .ok (.aload_n 0, 1) := by decide +kernel
theorem dX9_end_6 : decode cX9_end 6 = .ok (.getfield 20, 3) := by decide +kernel
theorem dX9_end_9 : decode cX9_end 9 = .ok (.getfield 85, 3) := by decide +kernel
theorem dX9_end_12 : decode cX9_end 12 = .ok (.if_icmp .le 5, 3) := by decide +kernel
theorem dX9_end_15 : decode cX9_end 15 = .ok (.iconst (-1), 1) := by decide +kernel
theorem dX9_end_16 : decode cX9_end 16 = .ok (.ireturn, 1) := by decide +kernel
theorem dX9_end_17 : decode cX9_end 17 = .ok (.aload_n 0, 1) := by decide +kernel
theorem dX9_end_18 : decode cX9_end 18 = .ok (.getfield 20, 3) := by decide +kernel
theorem dX9_end_21 : decode cX9_end 21 = .ok (.iload_n 1, 1) := by decide +kernel
theorem dX9_end_22 : decode cX9_end 22 = .ok (.putfield 85, 3) := by decide +kernel
theorem dX9_end_25 : decode cX9_end 25 = .ok (.iload_n 1, 1) := by decide +kernel
theorem dX9_end_26 : decode cX9_end 26 = .ok (.ireturn, 1) := by decide +kernel
theorem dX9_feed_0 : decode cX9_feed 0 = .ok (.aload_n 0, 1) := by decide +kernel
theorem dX9_feed_1 : decode cX9_feed 1 = .ok (.getfield 20, 3) := by decide +kernel
theorem dX9_feed_4 : decode cX9_feed 4 = .ok (.invokevirtual 75, 3) := by decide +kernel
theorem dX9_feed_7 : decode cX9_feed 7 = .ok (.ifCond .ne 5, 3) := by decide +kernel
theorem dX9_feed_12 : decode cX9_feed 12 = .ok (.aload_n 0, 1) := by decide +kernel
theorem dX9_feed_13 : decode cX9_feed 13 = .ok (.getfield 20, 3) := by decide +kernel
theorem dX9_feed_16 : decode cX9_feed 16 = .ok (.iload_n 1, 1) := by decide +kernel
theorem dX9_feed_17 : decode cX9_feed 17 = .ok (.invokevirtual 81, 3) := by decide +kernel
theorem dX9_feed_20 : decode cX9_feed 20 = .ok (.aload_n 0, 1) := by decide +kernel
theorem dX9_feed_21 : decode cX9_feed 21 = .ok (.getfield 20, 3) := by decide +kernel
theorem dX9_feed_24 : decode cX9_feed 24 = .ok (.iload_n 2, 1) := by decide +kernel
theorem dX9_feed_25 : decode cX9_feed 25 = .ok (.invokevirtual 81, 3) := by decide +kernel
theorem dX9_feed_28 : decode cX9_feed 28 = .ok (.aload_n 0, 1) := by decide +kernel
theorem dX9_feed_29 : decode cX9_feed 29 = .ok (.getfield 20, 3) := by decide +kernel
theorem dX9_feed_32 : decode cX9_feed 32 = .ok (.iload_n 3, 1) := by decide +kernel
theorem dX9_feed_33 : decode cX9_feed 33 = .ok (.invokevirtual 81, 3) := by decide +kernel
theorem dX9_feed_36 : decode cX9_feed 36 = .ok (.aload_n 0, 1) := by decide +kernel
theorem dX9_feed_37 : decode cX9_feed 37 = .ok (.getfield 20, 3) := by decide +kernel
theorem dX9_feed_40 : decode cX9_feed 40 = .ok (.iload 4, 2) := by decide +kernel
theorem dX9_feed_42 : decode cX9_feed 42 = .ok (.invokevirtual 81, 3) := by decide +kernel
theorem dX9_feed_45 : decode cX9_feed 45 = .ok (.aload_n 0, 1) := by decide +kernel
theorem dX9_feed_46 : decode cX9_feed 46 = .ok (.getfield 20, 3) := by decide +kernel
theorem dX9_feed_49 : decode cX9_feed 49 = .ok (.iload 5, 2) := by decide +kernel
theorem dX9_feed_51 : decode cX9_feed 51 = .ok (.invokevirtual 81, 3) := by decide +kernel
theorem dX9_feed_54 : decode cX9_feed 54 = .ok (.aload_n 0, 1) := by decide +kernel
theorem dX9_feed_55 : decode cX9_feed 55 = .ok (.getfield 20, 3) := by decide +kernel
theorem dX9_feed_58 : decode cX9_feed 58 = .ok (.getfield 85, 3) := by decide +kernel
theorem dX9_feed_61 : decode cX9_feed 61 = .ok (.ireturn, 1) := by decide +kernel
