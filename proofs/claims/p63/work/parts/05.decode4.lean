theorem dX10_wayOf_129 : decode cX10_wayOf 129 = .ok (.iconst 0, 1) := by decide +kernel
theorem dX10_wayOf_130 : decode cX10_wayOf 130 = .ok (.istore 5, 2) := by decide +kernel
theorem dX10_wayOf_132 : decode cX10_wayOf 132 = .ok (.iload 5, 2) := by decide +kernel
theorem dX10_wayOf_134 : decode cX10_wayOf 134 = .ok (.iload 4, 2) := by decide +kernel
theorem dX10_wayOf_136 : decode cX10_wayOf 136 = .ok (.if_icmp .ge 23, 3) := by decide +kernel
theorem dX10_wayOf_139 : decode cX10_wayOf 139 = .ok (.aload_n 0, 1) := by decide +kernel
theorem dX10_wayOf_140 : decode cX10_wayOf 140 = .ok (.getfield 55, 3) := by decide +kernel
theorem dX10_wayOf_143 : decode cX10_wayOf 143 = .ok (.iload 5, 2) := by decide +kernel
theorem dX10_wayOf_145 : decode cX10_wayOf 145 = .ok (.aload_n 0, 1) := by decide +kernel
theorem dX10_wayOf_146 : decode cX10_wayOf 146 = .ok (.getfield 52, 3) := by decide +kernel
theorem dX10_wayOf_149 : decode cX10_wayOf 149 = .ok (.iload 5, 2) := by decide +kernel
theorem dX10_wayOf_151 : decode cX10_wayOf 151 = .ok (.iaload, 1) := by decide +kernel
theorem dX10_wayOf_152 : decode cX10_wayOf 152 = .ok (.iastore, 1) := by decide +kernel
theorem dX10_wayOf_153 : decode cX10_wayOf 153 = .ok (.iinc 5 1, 3) := by decide +kernel
theorem dX10_wayOf_156 : decode cX10_wayOf 156 = .ok (.goto (-24), 3) := by decide +kernel
theorem dX10_wayOf_159 : decode cX10_wayOf 159 = .ok (.aload_n 0, 1) := by decide +kernel
theorem dX10_wayOf_160 : decode cX10_wayOf 160 = .ok (.getfield 52, 3) := by decide +kernel
theorem dX10_wayOf_163 : decode cX10_wayOf 163 = .ok (.iload 4, 2) := by decide +kernel
theorem dX10_wayOf_165 : decode cX10_wayOf 165 = .ok (.dup2, 1) := by decide +kernel
theorem dX10_wayOf_166 : decode cX10_wayOf 166 = .ok (.iaload, 1) := by decide +kernel
theorem dX10_wayOf_167 : decode cX10_wayOf 167 = .ok (.iconst 1, 1) := by decide +kernel
theorem dX10_wayOf_168 : decode cX10_wayOf 168 = .ok (.iadd, 1) := by decide +kernel
theorem dX10_wayOf_169 : decode cX10_wayOf 169 = .ok (.iastore, 1) := by decide +kernel
theorem dX10_wayOf_170 : decode cX10_wayOf 170 = .ok (.iload 4, 2) := by decide +kernel
theorem dX10_wayOf_172 : decode cX10_wayOf 172 = .ok (.iconst 4, 1) := by decide +kernel
theorem dX10_wayOf_173 : decode cX10_wayOf 173 = .ok (.if_icmp .eq 19, 3) := by decide +kernel
theorem dX10_wayOf_176 : decode cX10_wayOf 176 = .ok (.aload_n 0, 1) := by decide +kernel
theorem dX10_wayOf_177 : decode cX10_wayOf 177 = .ok (.getfield 52, 3) := by decide +kernel
theorem dX10_wayOf_180 : decode cX10_wayOf 180 = .ok (.iload 4, 2) := by decide +kernel
theorem dX10_wayOf_182 : decode cX10_wayOf 182 = .ok (.iaload, 1) := by decide +kernel
theorem dX10_wayOf_183 : decode cX10_wayOf 183 = .ok (.aload_n 0, 1) := by decide +kernel
theorem dX10_wayOf_184 : decode cX10_wayOf 184 = .ok (.getfield 9, 3) := by decide +kernel
theorem dX10_wayOf_187 : decode cX10_wayOf 187 = .ok (.iconst 2, 1) := by decide +kernel
theorem dX10_wayOf_188 : decode cX10_wayOf 188 = .ok (.iaload, 1) := by decide +kernel
theorem dX10_wayOf_189 : decode cX10_wayOf 189 = .ok (.if_icmp .ne 9, 3) := by decide +kernel
theorem dX10_wayOf_192 : decode cX10_wayOf 192 = .ok (.iinc 4 (-1), 3) := by decide +kernel
theorem dX10_wayOf_195 : decode cX10_wayOf 195 = .ok (.goto (-158), 3) := by decide +kernel
theorem dX10_wayOf_198 : decode cX10_wayOf 198 = .ok (.aload_n 0, 1) := by decide +kernel
theorem dX10_wayOf_199 : decode cX10_wayOf 199 = .ok (.aload_n 0, 1) := by decide +kernel
theorem dX10_wayOf_200 : decode cX10_wayOf 200 = .ok (.getfield 52, 3) := by decide +kernel
theorem dX10_wayOf_203 : decode cX10_wayOf 203 = .ok (.iload 4, 2) := by decide +kernel
theorem dX10_wayOf_205 : decode cX10_wayOf 205 = .ok (.iaload, 1) := by decide +kernel
theorem dX10_wayOf_206 : decode cX10_wayOf 206 = .ok (.aload_n 0, 1) := by decide +kernel
theorem dX10_wayOf_207 : decode cX10_wayOf 207 = .ok (.getfield 43, 3) := by decide +kernel
theorem dX10_wayOf_210 : decode cX10_wayOf 210 = .ok (.iload_n 1, 1) := by decide +kernel
theorem dX10_wayOf_211 : decode cX10_wayOf 211 = .ok (.iaload, 1) := by decide +kernel
theorem dX10_wayOf_212 : decode cX10_wayOf 212 = .ok (.invokevirtual 93, 3) := by decide +kernel
theorem dX10_wayOf_215 : decode cX10_wayOf 215 = .ok (.ifCond .ne 6, 3) := by decide +kernel
theorem dX10_wayOf_218 : decode cX10_wayOf 218 = .ok (.goto (-181), 3) := by decide +kernel
theorem dX10_wayOf_221 : decode cX10_wayOf 221 = .ok (.aload_n 0, 1) := by decide +kernel
theorem dX10_wayOf_222 : decode cX10_wayOf 222 = .ok (.iload_n 1, 1) := by decide +kernel
theorem dX10_wayOf_223 : decode cX10_wayOf 223 = .ok (.aload_n 0, 1) := by decide +kernel
theorem dX10_wayOf_224 : decode cX10_wayOf 224 = .ok (.getfield 52, 3) := by decide +kernel
theorem dX10_wayOf_227 : decode cX10_wayOf 227 = .ok (.iload 4, 2) := by decide +kernel
theorem dX10_wayOf_229 : decode cX10_wayOf 229 = .ok (.iaload, 1) := by decide +kernel
theorem dX10_wayOf_230 : decode cX10_wayOf 230 = .ok (.invokevirtual 233, 3) := by decide +kernel
theorem dX10_wayOf_233 : decode cX10_wayOf 233 = .ok (.pop, 1) := by decide +kernel
theorem dX10_wayOf_234 : decode cX10_wayOf 234 = .ok (.iinc 4 1, 3) := by decide +kernel
theorem dX10_wayOf_237 : decode cX10_wayOf 237 = .ok (.aload_n 0, 1) := by decide +kernel
theorem dX10_wayOf_238 : decode cX10_wayOf 238 = .ok (.iload 4, 2) := by decide +kernel
theorem dX10_wayOf_240 : decode cX10_wayOf 240 = .ok (.iload_n 1, 1) := by decide +kernel
theorem dX10_wayOf_241 : decode cX10_wayOf 241 = .ok (.invokevirtual 332, 3) := by decide +kernel
theorem dX10_wayOf_244 : decode cX10_wayOf 244 = .ok (.aload_n 0, 1) := by decide +kernel
theorem dX10_wayOf_245 : decode cX10_wayOf 245 = .ok (.getfield 52, 3) := by decide +kernel
theorem dX10_wayOf_248 : decode cX10_wayOf 248 = .ok (.iload 4, 2) := by decide +kernel
theorem dX10_wayOf_250 : decode cX10_wayOf 250 = .ok (.iconst (-1), 1) := by decide +kernel
theorem dX10_wayOf_251 : decode cX10_wayOf 251 = .ok (.iastore, 1) := by decide +kernel
theorem dX10_wayOf_252 : decode cX10_wayOf 252 = .ok (.goto (-215), 3) := by decide +kernel
theorem dX10_wayOf_255 : decode cX10_wayOf 255 = .ok (.aload_n 0, 1) := by decide +kernel
theorem dX10_wayOf_256 : decode cX10_wayOf 256 = .ok (.iconst 0, 1) := by decide +kernel
theorem dX10_wayOf_257 : decode cX10_wayOf 257 = .ok (.iload_n 1, 1) := by decide +kernel
theorem dX10_wayOf_258 : decode cX10_wayOf 258 = .ok (.invokevirtual 335, 3) := by decide +kernel
theorem dX10_wayOf_261 : decode cX10_wayOf 261 = .ok (.iload_n 3, 1) := by decide +kernel
theorem dX10_wayOf_262 : decode cX10_wayOf 262 = .ok (.ireturn, 1) := by decide +kernel
theorem dX10_wheel_0 : decode cX10_wheel 0 = .ok (.aload_n 0, 1) := by decide +kernel
theorem dX10_wheel_1 : decode cX10_wheel 1 = .ok (.iload_n 1, 1) := by decide +kernel
theorem dX10_wheel_2 : decode cX10_wheel 2 = .ok (.invokevirtual 269, 3) := by decide +kernel
theorem dX10_wheel_5 : decode cX10_wheel 5 = .ok (.ifCond .eq 15, 3) := by decide +kernel
theorem dX10_wheel_8 : decode cX10_wheel 8 = .ok (.iload_n 2, 1) := by decide +kernel
theorem dX10_wheel_9 : decode cX10_wheel 9 = .ok (.i2l, 1) := by decide +kernel
theorem dX10_wheel_10 : decode cX10_wheel 10 = .ok (.lconst 0, 1) := by decide +kernel
theorem dX10_wheel_11 : decode cX10_wheel 11 = .ok (.ldc2_w 83, 3) := by decide +kernel
theorem dX10_wheel_14 : decode cX10_wheel 14 = .ok (.invokestatic 85, 3) := by decide +kernel
theorem dX10_wheel_17 : decode cX10_wheel 17 = .ok (.ifCond .ne 6, 3) := by decide +kernel
theorem dX10_wheel_20 : decode cX10_wheel 20 = .ok (.bipush (-2), 2) := by decide +kernel
theorem dX10_wheel_22 : decode cX10_wheel 22 = .ok (.ireturn, 1) := by decide +kernel
theorem dX10_wheel_23 : decode cX10_wheel 23 = .ok (.aload_n 0, 1) := by decide +kernel
theorem dX10_wheel_24 : decode cX10_wheel 24 = .ok (.invokevirtual 273, 3) := by decide +kernel
theorem dX10_wheel_27 : decode cX10_wheel 27 = .ok (.iload_n 2, 1) := by decide +kernel
theorem dX10_wheel_28 : decode cX10_wheel 28 = .ok (.ifCond .ne 12, 3) := by decide +kernel
theorem dX10_wheel_31 : decode cX10_wheel 31 = .ok (.aload_n 0, 1) := by decide +kernel
theorem dX10_wheel_32 : decode cX10_wheel 32 = .ok (.getfield 34, 3) := by decide +kernel
theorem dX10_wheel_35 : decode cX10_wheel 35 = .ok (.iload_n 1, 1) := by decide +kernel
theorem dX10_wheel_36 : decode cX10_wheel 36 = .ok (.iaload, 1) := by decide +kernel
theorem dX10_wheel_37 : decode cX10_wheel 37 = .ok (.goto 22, 3) := by decide +kernel
theorem dX10_wheel_40 : decode cX10_wheel 40 = .ok (.iload_n 2, 1) := by decide +kernel
theorem dX10_wheel_41 : decode cX10_wheel 41 = .ok (.iconst 1, 1) := by decide +kernel
theorem dX10_wheel_42 : decode cX10_wheel 42 = .ok (.if_icmp .ne 12, 3) := by decide +kernel
theorem dX10_wheel_45 : decode cX10_wheel 45 = .ok (.aload_n 0, 1) := by decide +kernel
theorem dX10_wheel_46 : decode cX10_wheel 46 = .ok (.getfield 40, 3) := by decide +kernel
theorem dX10_wheel_49 : decode cX10_wheel 49 = .ok (.iload_n 1, 1) := by decide +kernel
theorem dX10_wheel_50 : decode cX10_wheel 50 = .ok (.iaload, 1) := by decide +kernel
theorem dX10_wheel_51 : decode cX10_wheel 51 = .ok (.goto 8, 3) := by decide +kernel
theorem dX10_wheel_54 : decode cX10_wheel 54 = .ok (.aload_n 0, 1) := by decide +kernel
theorem dX10_wheel_55 : decode cX10_wheel 55 = .ok (.iload_n 1, 1) := by decide +kernel
theorem dX10_wheel_56 : decode cX10_wheel 56 = .ok (.invokevirtual 276, 3) := by decide +kernel
theorem dX10_wheel_59 : decode cX10_wheel 59 = .ok (.ireturn, 1) := by decide +kernel
theorem dX10_wheelsOf_0 : decode cX10_wheelsOf 0 = .ok (.iconst 0, 1) := by decide +kernel
theorem dX10_wheelsOf_1 : decode cX10_wheelsOf 1 = .ok (.istore_n 2, 1) := by decide +kernel
theorem dX10_wheelsOf_2 : decode cX10_wheelsOf 2 = .ok (.iconst 0, 1) := by decide +kernel
theorem dX10_wheelsOf_3 : decode cX10_wheelsOf 3 = .ok (.istore_n 3, 1) := by decide +kernel
theorem dX10_wheelsOf_4 : decode cX10_wheelsOf 4 = .ok (.iload_n 3, 1) := by decide +kernel
theorem dX10_wheelsOf_5 : decode cX10_wheelsOf 5 = .ok (.aload_n 0, 1) := by decide +kernel
theorem dX10_wheelsOf_6 : decode cX10_wheelsOf 6 = .ok (.getfield 9, 3) := by decide +kernel
theorem dX10_wheelsOf_9 : decode cX10_wheelsOf 9 = .ok (.iconst 3, 1) := by decide +kernel
theorem dX10_wheelsOf_10 : decode cX10_wheelsOf 10 = .ok (.iaload, 1) := by decide +kernel
theorem dX10_wheelsOf_11 : decode cX10_wheelsOf 11 = .ok (.if_icmp .ge 29, 3) := by decide +kernel
theorem dX10_wheelsOf_14 : decode cX10_wheelsOf 14 = .ok (.iload_n 2, 1) := by decide +kernel
theorem dX10_wheelsOf_15 : decode cX10_wheelsOf 15 = .ok (.aload_n 0, 1) := by decide +kernel
theorem dX10_wheelsOf_16 : decode cX10_wheelsOf 16 = .ok (.getfield 40, 3) := by decide +kernel
theorem dX10_wheelsOf_19 : decode cX10_wheelsOf 19 = .ok (.iload_n 3, 1) := by decide +kernel
theorem dX10_wheelsOf_20 : decode cX10_wheelsOf 20 = .ok (.iaload, 1) := by decide +kernel
theorem dX10_wheelsOf_21 : decode cX10_wheelsOf 21 = .ok (.iload_n 1, 1) := by decide +kernel
theorem dX10_wheelsOf_22 : decode cX10_wheelsOf 22 = .ok (.if_icmp .ne 9, 3) := by decide +kernel
theorem dX10_wheelsOf_25 : decode cX10_wheelsOf 25 = .ok (.iconst 1, 1) := by decide +kernel
theorem dX10_wheelsOf_26 : decode cX10_wheelsOf 26 = .ok (.iload_n 3, 1) := by decide +kernel
theorem dX10_wheelsOf_27 : decode cX10_wheelsOf 27 = .ok (.ishl, 1) := by decide +kernel
theorem dX10_wheelsOf_28 : decode cX10_wheelsOf 28 = .ok (.goto 4, 3) := by decide +kernel
theorem dX10_wheelsOf_31 : decode cX10_wheelsOf 31 = .ok (.iconst 0, 1) := by decide +kernel
theorem dX10_wheelsOf_32 : decode cX10_wheelsOf 32 = .ok (.ior, 1) := by decide +kernel
theorem dX10_wheelsOf_33 : decode cX10_wheelsOf 33 = .ok (.istore_n 2, 1) := by decide +kernel
theorem dX10_wheelsOf_34 : decode cX10_wheelsOf 34 = .ok (.iinc 3 1, 3) := by decide +kernel
theorem dX10_wheelsOf_37 : decode cX10_wheelsOf 37 = .ok (.goto (-33), 3) := by decide +kernel
theorem dX10_wheelsOf_40 : decode cX10_wheelsOf 40 = .ok (.iload_n 2, 1) := by decide +kernel
theorem dX10_wheelsOf_41 : decode cX10_wheelsOf 41 = .ok (.ireturn, 1) := by decide +kernel
theorem dX10_wider_0 : decode cX10_wider 0 = .ok (.iload_n 1, 1) := by decide +kernel
theorem dX10_wider_1 : decode cX10_wider 1 = .ok (.istore_n 2, 1) := by decide +kernel
theorem dX10_wider_2 : decode cX10_wider 2 = .ok (.iconst 0, 1) := by decide +kernel
theorem dX10_wider_3 : decode cX10_wider 3 = .ok (.istore_n 3, 1) := by decide +kernel
theorem dX10_wider_4 : decode cX10_wider 4 = .ok (.iload_n 3, 1) := by decide +kernel
theorem dX10_wider_5 : decode cX10_wider 5 = .ok (.aload_n 0, 1) := by decide +kernel
theorem dX10_wider_6 : decode cX10_wider 6 = .ok (.getfield 9, 3) := by decide +kernel
theorem dX10_wider_9 : decode cX10_wider 9 = .ok (.iconst 2, 1) := by decide +kernel
theorem dX10_wider_10 : decode cX10_wider 10 = .ok (.iaload, 1) := by decide +kernel
theorem dX10_wider_11 : decode cX10_wider 11 = .ok (.if_icmp .ge 57, 3) := by decide +kernel
theorem dX10_wider_14 : decode cX10_wider 14 = .ok (.iconst 0, 1) := by decide +kernel
theorem dX10_wider_15 : decode cX10_wider 15 = .ok (.istore 4, 2) := by decide +kernel
theorem dX10_wider_17 : decode cX10_wider 17 = .ok (.iload 4, 2) := by decide +kernel
theorem dX10_wider_19 : decode cX10_wider 19 = .ok (.iconst 2, 1) := by decide +kernel
theorem dX10_wider_20 : decode cX10_wider 20 = .ok (.if_icmp .ge 42, 3) := by decide +kernel
theorem dX10_wider_23 : decode cX10_wider 23 = .ok (.iload_n 2, 1) := by decide +kernel
theorem dX10_wider_24 : decode cX10_wider 24 = .ok (.iload_n 1, 1) := by decide +kernel
theorem dX10_wider_25 : decode cX10_wider 25 = .ok (.aload_n 0, 1) := by decide +kernel
theorem dX10_wider_26 : decode cX10_wider 26 = .ok (.iload_n 3, 1) := by decide +kernel
theorem dX10_wider_27 : decode cX10_wider 27 = .ok (.iload 4, 2) := by decide +kernel
theorem dX10_wider_29 : decode cX10_wider 29 = .ok (.invokevirtual 89, 3) := by decide +kernel
theorem dX10_wider_32 : decode cX10_wider 32 = .ok (.invokestatic 193, 3) := by decide +kernel
theorem dX10_wider_35 : decode cX10_wider 35 = .ok (.iconst 1, 1) := by decide +kernel
theorem dX10_wider_36 : decode cX10_wider 36 = .ok (.if_icmp .ne 17, 3) := by decide +kernel
theorem dX10_wider_39 : decode cX10_wider 39 = .ok (.iconst 1, 1) := by decide +kernel
theorem dX10_wider_40 : decode cX10_wider 40 = .ok (.aload_n 0, 1) := by decide +kernel
theorem dX10_wider_41 : decode cX10_wider 41 = .ok (.iload_n 3, 1) := by decide +kernel
theorem dX10_wider_42 : decode cX10_wider 42 = .ok (.iconst 1, 1) := by decide +kernel
theorem dX10_wider_43 : decode cX10_wider 43 = .ok (.iload 4, 2) := by decide +kernel
theorem dX10_wider_45 : decode cX10_wider 45 = .ok (.isub, 1) := by decide +kernel
theorem dX10_wider_46 : decode cX10_wider 46 = .ok (.invokevirtual 89, 3) := by decide +kernel
theorem dX10_wider_49 : decode cX10_wider 49 = .ok (.ishl, 1) := by decide +kernel
theorem dX10_wider_50 : decode cX10_wider 50 = .ok (.goto 4, 3) := by decide +kernel
theorem dX10_wider_53 : decode cX10_wider 53 = .ok (.iconst 0, 1) := by decide +kernel
theorem dX10_wider_54 : decode cX10_wider 54 = .ok (.ior, 1) := by decide +kernel
theorem dX10_wider_55 : decode cX10_wider 55 = .ok (.istore_n 2, 1) := by decide +kernel
theorem dX10_wider_56 : decode cX10_wider 56 = .ok (.iinc 4 1, 3) := by decide +kernel
theorem dX10_wider_59 : decode cX10_wider 59 = .ok (.goto (-42), 3) := by decide +kernel
theorem dX10_wider_62 : decode cX10_wider 62 = .ok (.iinc 3 1, 3) := by decide +kernel
theorem dX10_wider_65 : decode cX10_wider 65 = .ok (.goto (-61), 3) := by decide +kernel
theorem dX10_wider_68 : decode cX10_wider 68 = .ok (.iload_n 2, 1) := by decide +kernel
theorem dX10_wider_69 : decode cX10_wider 69 = .ok (.ireturn, 1) := by decide +kernel
theorem dX10_worn_0 : decode cX10_worn 0 = .ok (.aload_n 0, 1) := by decide +kernel
theorem dX10_worn_1 : decode cX10_worn 1 = .ok (.iload_n 1, 1) := by decide +kernel
theorem dX10_worn_2 : decode cX10_worn 2 = .ok (.iload_n 2, 1) := by decide +kernel
theorem dX10_worn_3 : decode cX10_worn 3 = .ok (.invokevirtual 319, 3) := by decide +kernel
theorem dX10_worn_6 : decode cX10_worn 6 = .ok (.istore_n 3, 1) := by decide +kernel
theorem dX10_worn_7 : decode cX10_worn 7 = .ok (.iload_n 3, 1) := by decide +kernel
theorem dX10_worn_8 : decode cX10_worn 8 = .ok (.ifCond .ge 5, 3) := by decide +kernel
theorem dX10_worn_11 : decode cX10_worn 11 = .ok (.iload_n 3, 1) := by decide +kernel
theorem dX10_worn_12 : decode cX10_worn 12 = .ok (.ireturn, 1) := by decide +kernel
theorem dX10_worn_13 : decode cX10_worn 13 = .ok (.aload_n 0, 1) := by decide +kernel
theorem dX10_worn_14 : decode cX10_worn 14 = .ok (.iload_n 1, 1) := by decide +kernel
theorem dX10_worn_15 : decode cX10_worn 15 = .ok (.iload_n 2, 1) := by decide +kernel
theorem dX10_worn_16 : decode cX10_worn 16 = .ok (.invokevirtual 322, 3) := by decide +kernel
theorem dX10_worn_19 : decode cX10_worn 19 = .ok (.aload_n 0, 1) := by decide +kernel
theorem dX10_worn_20 : decode cX10_worn 20 = .ok (.getfield 313, 3) := by decide +kernel
theorem dX10_worn_23 : decode cX10_worn 23 = .ok (.ireturn, 1) := by decide +kernel
theorem dX10_worstIn_0 : decode cX10_worstIn 0 = .ok (.iconst 0, 1) := by decide +kernel
theorem dX10_worstIn_1 : decode cX10_worstIn 1 = .ok (.istore_n 3, 1) := by decide +kernel
theorem dX10_worstIn_2 : decode cX10_worstIn 2 = .ok (.iconst (-1), 1) := by decide +kernel
theorem dX10_worstIn_3 : decode cX10_worstIn 3 = .ok (.istore 4, 2) := by decide +kernel
theorem dX10_worstIn_5 : decode cX10_worstIn 5 = .ok (.iload 4, 2) := by decide +kernel
theorem dX10_worstIn_7 : decode cX10_worstIn 7 = .ok (.aload_n 0, 1) := by decide +kernel
theorem dX10_worstIn_8 : decode cX10_worstIn 8 = .ok (.getfield 9, 3) := by decide +kernel
theorem dX10_worstIn_11 : decode cX10_worstIn 11 = .ok (.iconst 2, 1) := by decide +kernel
theorem dX10_worstIn_12 : decode cX10_worstIn 12 = .ok (.iaload, 1) := by decide +kernel
theorem dX10_worstIn_13 : decode cX10_worstIn 13 = .ok (.if_icmp .ge 71, 3) := by decide +kernel
theorem dX10_worstIn_16 : decode cX10_worstIn 16 = .ok (.iconst 0, 1) := by decide +kernel
theorem dX10_worstIn_17 : decode cX10_worstIn 17 = .ok (.istore 5, 2) := by decide +kernel
theorem dX10_worstIn_19 : decode cX10_worstIn 19 = .ok (.iconst 0, 1) := by decide +kernel
theorem dX10_worstIn_20 : decode cX10_worstIn 20 = .ok (.istore 6, 2) := by decide +kernel
theorem dX10_worstIn_22 : decode cX10_worstIn 22 = .ok (.iload 6, 2) := by decide +kernel
theorem dX10_worstIn_24 : decode cX10_worstIn 24 = .ok (.aload_n 0, 1) := by decide +kernel
theorem dX10_worstIn_25 : decode cX10_worstIn 25 = .ok (.getfield 9, 3) := by decide +kernel
theorem dX10_worstIn_28 : decode cX10_worstIn 28 = .ok (.iconst 3, 1) := by decide +kernel
theorem dX10_worstIn_29 : decode cX10_worstIn 29 = .ok (.iaload, 1) := by decide +kernel
theorem dX10_worstIn_30 : decode cX10_worstIn 30 = .ok (.if_icmp .ge 41, 3) := by decide +kernel
theorem dX10_worstIn_33 : decode cX10_worstIn 33 = .ok (.iload 5, 2) := by decide +kernel
theorem dX10_worstIn_35 : decode cX10_worstIn 35 = .ok (.iload_n 1, 1) := by decide +kernel
theorem dX10_worstIn_36 : decode cX10_worstIn 36 = .ok (.iload 6, 2) := by decide +kernel
theorem dX10_worstIn_38 : decode cX10_worstIn 38 = .ok (.invokestatic 193, 3) := by decide +kernel
theorem dX10_worstIn_41 : decode cX10_worstIn 41 = .ok (.iconst 1, 1) := by decide +kernel
theorem dX10_worstIn_42 : decode cX10_worstIn 42 = .ok (.if_icmp .ne 19, 3) := by decide +kernel
theorem dX10_worstIn_45 : decode cX10_worstIn 45 = .ok (.aload_n 0, 1) := by decide +kernel
theorem dX10_worstIn_46 : decode cX10_worstIn 46 = .ok (.iload 6, 2) := by decide +kernel
theorem dX10_worstIn_48 : decode cX10_worstIn 48 = .ok (.iload_n 2, 1) := by decide +kernel
theorem dX10_worstIn_49 : decode cX10_worstIn 49 = .ok (.invokevirtual 358, 3) := by decide +kernel
theorem dX10_worstIn_52 : decode cX10_worstIn 52 = .ok (.iload 4, 2) := by decide +kernel
theorem dX10_worstIn_54 : decode cX10_worstIn 54 = .ok (.if_icmp .ne 7, 3) := by decide +kernel
theorem dX10_worstIn_57 : decode cX10_worstIn 57 = .ok (.iconst 1, 1) := by decide +kernel
theorem dX10_worstIn_58 : decode cX10_worstIn 58 = .ok (.goto 4, 3) := by decide +kernel
theorem dX10_worstIn_61 : decode cX10_worstIn 61 = .ok (.iconst 0, 1) := by decide +kernel
theorem dX10_worstIn_62 : decode cX10_worstIn 62 = .ok (.iadd, 1) := by decide +kernel
theorem dX10_worstIn_63 : decode cX10_worstIn 63 = .ok (.istore 5, 2) := by decide +kernel
theorem dX10_worstIn_65 : decode cX10_worstIn 65 = .ok (.iinc 6 1, 3) := by decide +kernel
theorem dX10_worstIn_68 : decode cX10_worstIn 68 = .ok (.goto (-46), 3) := by decide +kernel
theorem dX10_worstIn_71 : decode cX10_worstIn 71 = .ok (.iload_n 3, 1) := by decide +kernel
theorem dX10_worstIn_72 : decode cX10_worstIn 72 = .ok (.iload 5, 2) := by decide +kernel
theorem dX10_worstIn_74 : decode cX10_worstIn 74 = .ok (.invokestatic 367, 3) := by decide +kernel
theorem dX10_worstIn_77 : decode cX10_worstIn 77 = .ok (.istore_n 3, 1) := by decide +kernel
theorem dX10_worstIn_78 : decode cX10_worstIn 78 = .ok (.iinc 4 1, 3) := by decide +kernel
theorem dX10_worstIn_81 : decode cX10_worstIn 81 = .ok (.goto (-76), 3) := by decide +kernel
theorem dX10_worstIn_84 : decode cX10_worstIn 84 = .ok (.iload_n 3, 1) := by decide +kernel
theorem dX10_worstIn_85 : decode cX10_worstIn 85 = .ok (.ireturn, 1) := by decide +kernel
theorem dX10_worth_0 : decode cX10_worth 0 = .ok (.aload_n 0, 1) := by decide +kernel
theorem dX10_worth_1 : decode cX10_worth 1 = .ok (.iload_n 1, 1) := by decide +kernel
theorem dX10_worth_2 : decode cX10_worth 2 = .ok (.invokevirtual 269, 3) := by decide +kernel
theorem dX10_worth_5 : decode cX10_worth 5 = .ok (.ifCond .ne 6, 3) := by decide +kernel
theorem dX10_worth_8 : decode cX10_worth 8 = .ok (.bipush (-2), 2) := by decide +kernel
theorem dX10_worth_10 : decode cX10_worth 10 = .ok (.ireturn, 1) := by decide +kernel
theorem dX10_worth_11 : decode cX10_worth 11 = .ok (.aload_n 0, 1) := by decide +kernel
theorem dX10_worth_12 : decode cX10_worth 12 = .ok (.invokevirtual 273, 3) := by decide +kernel
theorem dX10_worth_15 : decode cX10_worth 15 = .ok (.aload_n 0, 1) := by decide +kernel
theorem dX10_worth_16 : decode cX10_worth 16 = .ok (.iload_n 1, 1) := by decide +kernel
theorem dX10_worth_17 : decode cX10_worth 17 = .ok (.invokevirtual 396, 3) := by decide +kernel
theorem dX10_worth_20 : decode cX10_worth 20 = .ok (.ireturn, 1) := by decide +kernel
theorem dX10_worthOf_0 : decode cX10_worthOf 0 = .ok (.iconst 0, 1) := by decide +kernel
theorem dX10_worthOf_1 : decode cX10_worthOf 1 = .ok (.istore_n 2, 1) := by decide +kernel
theorem dX10_worthOf_2 : decode cX10_worthOf 2 = .ok (.iconst 0, 1) := by decide +kernel
theorem dX10_worthOf_3 : decode cX10_worthOf 3 = .ok (.istore_n 3, 1) := by decide +kernel
theorem dX10_worthOf_4 : decode cX10_worthOf 4 = .ok (.iload_n 3, 1) := by decide +kernel
theorem dX10_worthOf_5 : decode cX10_worthOf 5 = .ok (.aload_n 0, 1) := by decide +kernel
theorem dX10_worthOf_6 : decode cX10_worthOf 6 = .ok (.getfield 9, 3) := by decide +kernel
theorem dX10_worthOf_9 : decode cX10_worthOf 9 = .ok (.iconst 2, 1) := by decide +kernel
theorem dX10_worthOf_10 : decode cX10_worthOf 10 = .ok (.iaload, 1) := by decide +kernel
theorem dX10_worthOf_11 : decode cX10_worthOf 11 = .ok (.if_icmp .ge 29, 3) := by decide +kernel
theorem dX10_worthOf_14 : decode cX10_worthOf 14 = .ok (.iload_n 2, 1) := by decide +kernel
theorem dX10_worthOf_15 : decode cX10_worthOf 15 = .ok (.aload_n 0, 1) := by decide +kernel
theorem dX10_worthOf_16 : decode cX10_worthOf 16 = .ok (.getfield 37, 3) := by decide +kernel
theorem dX10_worthOf_19 : decode cX10_worthOf 19 = .ok (.bipush 8, 2) := by decide +kernel
theorem dX10_worthOf_21 : decode cX10_worthOf 21 = .ok (.iload_n 1, 1) := by decide +kernel
theorem dX10_worthOf_22 : decode cX10_worthOf 22 = .ok (.imul, 1) := by decide +kernel
theorem dX10_worthOf_23 : decode cX10_worthOf 23 = .ok (.iload_n 3, 1) := by decide +kernel
theorem dX10_worthOf_24 : decode cX10_worthOf 24 = .ok (.iadd, 1) := by decide +kernel
theorem dX10_worthOf_25 : decode cX10_worthOf 25 = .ok (.iaload, 1) := by decide +kernel
theorem dX10_worthOf_26 : decode cX10_worthOf 26 = .ok (.aload_n 0, 1) := by decide +kernel
theorem dX10_worthOf_27 : decode cX10_worthOf 27 = .ok (.iload_n 3, 1) := by decide +kernel
theorem dX10_worthOf_28 : decode cX10_worthOf 28 = .ok (.invokevirtual 253, 3) := by decide +kernel
theorem dX10_worthOf_31 : decode cX10_worthOf 31 = .ok (.imul, 1) := by decide +kernel
theorem dX10_worthOf_32 : decode cX10_worthOf 32 = .ok (.iadd, 1) := by decide +kernel
theorem dX10_worthOf_33 : decode cX10_worthOf 33 = .ok (.istore_n 2, 1) := by decide +kernel
theorem dX10_worthOf_34 : decode cX10_worthOf 34 = .ok (.iinc 3 1, 3) := by decide +kernel
theorem dX10_worthOf_37 : decode cX10_worthOf 37 = .ok (.goto (-33), 3) := by decide +kernel
theorem dX10_worthOf_40 : decode cX10_worthOf 40 = .ok (.iload_n 2, 1) := by decide +kernel
theorem dX10_worthOf_41 : decode cX10_worthOf 41 = .ok (.ireturn, 1) := by decide +kernel
theorem dX10_write_0 : decode cX10_write 0 = .ok (.iload_n 1, 1) := by decide +kernel
theorem dX10_write_1 : decode cX10_write 1 = .ok (.invokestatic 300, 3) := by decide +kernel
theorem dX10_write_4 : decode cX10_write 4 = .ok (.ifCond .ne 6, 3) := by decide +kernel
theorem dX10_write_7 : decode cX10_write 7 = .ok (.bipush (-2), 2) := by decide +kernel
theorem dX10_write_9 : decode cX10_write 9 = .ok (.ireturn, 1) := by decide +kernel
theorem dX10_write_10 : decode cX10_write 10 = .ok (.aload_n 0, 1) := by decide +kernel
theorem dX10_write_11 : decode cX10_write 11 = .ok (.getfield 67, 3) := by decide +kernel
theorem dX10_write_14 : decode cX10_write 14 = .ok (.iload_n 1, 1) := by decide +kernel
theorem dX10_write_15 : decode cX10_write 15 = .ok (.iaload, 1) := by decide +kernel
theorem dX10_write_16 : decode cX10_write 16 = .ok (.iconst (-1), 1) := by decide +kernel
theorem dX10_write_17 : decode cX10_write 17 = .ok (.if_icmp .ne 6, 3) := by decide +kernel
theorem dX10_write_20 : decode cX10_write 20 = .ok (.bipush (-6), 2) := by decide +kernel
theorem dX10_write_22 : decode cX10_write 22 = .ok (.ireturn, 1) := by decide +kernel
theorem dX10_write_23 : decode cX10_write 23 = .ok (.iload_n 2, 1) := by decide +kernel
theorem dX10_write_24 : decode cX10_write 24 = .ok (.i2l, 1) := by decide +kernel
theorem dX10_write_25 : decode cX10_write 25 = .ok (.lconst 0, 1) := by decide +kernel
theorem dX10_write_26 : decode cX10_write 26 = .ok (.aload_n 0, 1) := by decide +kernel
theorem dX10_write_27 : decode cX10_write 27 = .ok (.getfield 67, 3) := by decide +kernel
theorem dX10_write_30 : decode cX10_write 30 = .ok (.iload_n 1, 1) := by decide +kernel
theorem dX10_write_31 : decode cX10_write 31 = .ok (.iaload, 1) := by decide +kernel
theorem dX10_write_32 : decode cX10_write 32 = .ok (.iconst 1, 1) := by decide +kernel
theorem dX10_write_33 : decode cX10_write 33 = .ok (.isub, 1) := by decide +kernel
theorem dX10_write_34 : decode cX10_write 34 = .ok (.i2l, 1) := by decide +kernel
theorem dX10_write_35 : decode cX10_write 35 = .ok (.invokestatic 85, 3) := by decide +kernel
theorem dX10_write_38 : decode cX10_write 38 = .ok (.ifCond .ne 6, 3) := by decide +kernel
theorem dX10_write_41 : decode cX10_write 41 = .ok (.bipush (-7), 2) := by decide +kernel
theorem dX10_write_43 : decode cX10_write 43 = .ok (.ireturn, 1) := by decide +kernel
theorem dX10_write_44 : decode cX10_write 44 = .ok (.aload_n 0, 1) := by decide +kernel
theorem dX10_write_45 : decode cX10_write 45 = .ok (.getfield 73, 3) := by decide +kernel
theorem dX10_write_48 : decode cX10_write 48 = .ok (.bipush 60, 2) := by decide +kernel
theorem dX10_write_50 : decode cX10_write 50 = .ok (.iload_n 1, 1) := by decide +kernel
theorem dX10_write_51 : decode cX10_write 51 = .ok (.imul, 1) := by decide +kernel
theorem dX10_write_52 : decode cX10_write 52 = .ok (.iload_n 2, 1) := by decide +kernel
theorem dX10_write_53 : decode cX10_write 53 = .ok (.iadd, 1) := by decide +kernel
theorem dX10_write_54 : decode cX10_write 54 = .ok (.lload_n 3, 1) := by decide +kernel
theorem dX10_write_55 : decode cX10_write 55 = .ok (.aload_n 0, 1) := by decide +kernel
theorem dX10_write_56 : decode cX10_write 56 = .ok (.getfield 70, 3) := by decide +kernel
theorem dX10_write_59 : decode cX10_write 59 = .ok (.iload_n 1, 1) := by decide +kernel
theorem dX10_write_60 : decode cX10_write 60 = .ok (.iaload, 1) := by decide +kernel
theorem dX10_write_61 : decode cX10_write 61 = .ok (.invokestatic 436, 3) := by decide +kernel
theorem dX10_write_64 : decode cX10_write 64 = .ok (.lastore, 1) := by decide +kernel
theorem dX10_write_65 : decode cX10_write 65 = .ok (.iconst 0, 1) := by decide +kernel
theorem dX10_write_66 : decode cX10_write 66 = .ok (.ireturn, 1) := by decide +kernel
theorem dX1_addCart_0 : decode cX1_addCart 0 = .ok (.aload_n 0, 1) := by decide +kernel
theorem dX1_addCart_1 : decode cX1_addCart 1 = .ok (.getfield 53, 3) := by decide +kernel
theorem dX1_addCart_4 : decode cX1_addCart 4 = .ok (.iconst 3, 1) := by decide +kernel
theorem dX1_addCart_5 : decode cX1_addCart 5 = .ok (.if_icmp .ge 26, 3) := by decide +kernel
theorem dX1_addCart_8 : decode cX1_addCart 8 = .ok (.aload_n 0, 1) := by decide +kernel
theorem dX1_addCart_9 : decode cX1_addCart 9 = .ok (.getfield 33, 3) := by decide +kernel
theorem dX1_addCart_12 : decode cX1_addCart 12 = .ok (.getfield 75, 3) := by decide +kernel
theorem dX1_addCart_15 : decode cX1_addCart 15 = .ok (.aload_n 0, 1) := by decide +kernel
theorem dX1_addCart_16 : decode cX1_addCart 16 = .ok (.getfield 53, 3) := by decide +kernel
theorem dX1_addCart_19 : decode cX1_addCart 19 = .ok (.iload_n 1, 1) := by decide +kernel
theorem dX1_addCart_20 : decode cX1_addCart 20 = .ok (.iastore, 1) := by decide +kernel
theorem dX1_addCart_21 : decode cX1_addCart 21 = .ok (.aload_n 0, 1) := by decide +kernel
theorem dX1_addCart_22 : decode cX1_addCart 22 = .ok (.dup, 1) := by decide +kernel
theorem dX1_addCart_23 : decode cX1_addCart 23 = .ok (.getfield 53, 3) := by decide +kernel
theorem dX1_addCart_26 : decode cX1_addCart 26 = .ok (.iconst 1, 1) := by decide +kernel
theorem dX1_addCart_27 : decode cX1_addCart 27 = .ok (.iadd, 1) := by decide +kernel
theorem dX1_addCart_28 : decode cX1_addCart 28 = .ok (.putfield 53, 3) := by decide +kernel
theorem dX1_addCart_31 : decode cX1_addCart 31 = .ok (.return_, 1) := by decide +kernel
theorem dX1_addErrand_0 : decode cX1_addErrand 0 = .ok (.aload_n 0, 1) := by decide +kernel
theorem dX1_addErrand_1 : decode cX1_addErrand 1 = .ok (.getfield 56, 3) := by decide +kernel
theorem dX1_addErrand_4 : decode cX1_addErrand 4 = .ok (.bipush 6, 2) := by decide +kernel
theorem dX1_addErrand_6 : decode cX1_addErrand 6 = .ok (.if_icmp .ge 43, 3) := by decide +kernel
theorem dX1_addErrand_9 : decode cX1_addErrand 9 = .ok (.aload_n 0, 1) := by decide +kernel
theorem dX1_addErrand_10 : decode cX1_addErrand 10 = .ok (.getfield 21, 3) := by decide +kernel
theorem dX1_addErrand_13 : decode cX1_addErrand 13 = .ok (.aload_n 0, 1) := by decide +kernel
theorem dX1_addErrand_14 : decode cX1_addErrand 14 = .ok (.getfield 56, 3) := by decide +kernel
theorem dX1_addErrand_17 : decode cX1_addErrand 17 = .ok (.iload_n 1, 1) := by decide +kernel
theorem dX1_addErrand_18 : decode cX1_addErrand 18 = .ok (.iastore, 1) := by decide +kernel
theorem dX1_addErrand_19 : decode cX1_addErrand 19 = .ok (.aload_n 0, 1) := by decide +kernel
theorem dX1_addErrand_20 : decode cX1_addErrand 20 = .ok (.getfield 24, 3) := by decide +kernel
theorem dX1_addErrand_23 : decode cX1_addErrand 23 = .ok (.aload_n 0, 1) := by decide +kernel
theorem dX1_addErrand_24 : decode cX1_addErrand 24 = .ok (.getfield 56, 3) := by decide +kernel
theorem dX1_addErrand_27 : decode cX1_addErrand 27 = .ok (.iload_n 2, 1) := by decide +kernel
theorem dX1_addErrand_28 : decode cX1_addErrand 28 = .ok (.iastore, 1) := by decide +kernel
theorem dX1_addErrand_29 : decode cX1_addErrand 29 = .ok (.aload_n 0, 1) := by decide +kernel
theorem dX1_addErrand_30 : decode cX1_addErrand 30 = .ok (.getfield 27, 3) := by decide +kernel
theorem dX1_addErrand_33 : decode cX1_addErrand 33 = .ok (.aload_n 0, 1) := by decide +kernel
theorem dX1_addErrand_34 : decode cX1_addErrand 34 = .ok (.getfield 56, 3) := by decide +kernel
theorem dX1_addErrand_37 : decode cX1_addErrand 37 = .ok (.iload_n 3, 1) := by decide +kernel
theorem dX1_addErrand_38 : decode cX1_addErrand 38 = .ok (.iastore, 1) := by decide +kernel
theorem dX1_addErrand_39 : decode cX1_addErrand 39 = .ok (.aload_n 0, 1) := by decide +kernel
theorem dX1_addErrand_40 : decode cX1_addErrand 40 = .ok (.dup, 1) := by decide +kernel
theorem dX1_addErrand_41 : decode cX1_addErrand 41 = .ok (.getfield 56, 3) := by decide +kernel
theorem dX1_addErrand_44 : decode cX1_addErrand 44 = .ok (.iconst 1, 1) := by decide +kernel
theorem dX1_addErrand_45 : decode cX1_addErrand 45 = .ok (.iadd, 1) := by decide +kernel
theorem dX1_addErrand_46 : decode cX1_addErrand 46 = .ok (.putfield 56, 3) := by decide +kernel
theorem dX1_addErrand_49 : decode cX1_addErrand 49 = .ok (.return_, 1) := by decide +kernel
theorem dX1_addRoad_0 : decode cX1_addRoad 0 = .ok (.aload_n 0, 1) := by decide +kernel
theorem dX1_addRoad_1 : decode cX1_addRoad 1 = .ok (.getfield 47, 3) := by decide +kernel
theorem dX1_addRoad_4 : decode cX1_addRoad 4 = .ok (.bipush 8, 2) := by decide +kernel
theorem dX1_addRoad_6 : decode cX1_addRoad 6 = .ok (.if_icmp .ge 43, 3) := by decide +kernel
theorem dX1_addRoad_9 : decode cX1_addRoad 9 = .ok (.aload_n 0, 1) := by decide +kernel
theorem dX1_addRoad_10 : decode cX1_addRoad 10 = .ok (.getfield 9, 3) := by decide +kernel
theorem dX1_addRoad_13 : decode cX1_addRoad 13 = .ok (.aload_n 0, 1) := by decide +kernel
theorem dX1_addRoad_14 : decode cX1_addRoad 14 = .ok (.getfield 47, 3) := by decide +kernel
theorem dX1_addRoad_17 : decode cX1_addRoad 17 = .ok (.iload_n 1, 1) := by decide +kernel
theorem dX1_addRoad_18 : decode cX1_addRoad 18 = .ok (.iastore, 1) := by decide +kernel
theorem dX1_addRoad_19 : decode cX1_addRoad 19 = .ok (.aload_n 0, 1) := by decide +kernel
theorem dX1_addRoad_20 : decode cX1_addRoad 20 = .ok (.getfield 15, 3) := by decide +kernel
theorem dX1_addRoad_23 : decode cX1_addRoad 23 = .ok (.aload_n 0, 1) := by decide +kernel
theorem dX1_addRoad_24 : decode cX1_addRoad 24 = .ok (.getfield 47, 3) := by decide +kernel
theorem dX1_addRoad_27 : decode cX1_addRoad 27 = .ok (.iload_n 2, 1) := by decide +kernel
theorem dX1_addRoad_28 : decode cX1_addRoad 28 = .ok (.iastore, 1) := by decide +kernel
theorem dX1_addRoad_29 : decode cX1_addRoad 29 = .ok (.aload_n 0, 1) := by decide +kernel
theorem dX1_addRoad_30 : decode cX1_addRoad 30 = .ok (.getfield 18, 3) := by decide +kernel
theorem dX1_addRoad_33 : decode cX1_addRoad 33 = .ok (.aload_n 0, 1) := by decide +kernel
theorem dX1_addRoad_34 : decode cX1_addRoad 34 = .ok (.getfield 47, 3) := by decide +kernel
theorem dX1_addRoad_37 : decode cX1_addRoad 37 = .ok (.iload_n 3, 1) := by decide +kernel
theorem dX1_addRoad_38 : decode cX1_addRoad 38 = .ok (.iastore, 1) := by decide +kernel
theorem dX1_addRoad_39 : decode cX1_addRoad 39 = .ok (.aload_n 0, 1) := by decide +kernel
theorem dX1_addRoad_40 : decode cX1_addRoad 40 = .ok (.dup, 1) := by decide +kernel
theorem dX1_addRoad_41 : decode cX1_addRoad 41 = .ok (.getfield 47, 3) := by decide +kernel
theorem dX1_addRoad_44 : decode cX1_addRoad 44 = .ok (.iconst 1, 1) := by decide +kernel
theorem dX1_addRoad_45 : decode cX1_addRoad 45 = .ok (.iadd, 1) := by decide +kernel
theorem dX1_addRoad_46 : decode cX1_addRoad 46 = .ok (.putfield 47, 3) := by decide +kernel
theorem dX1_addRoad_49 : decode cX1_addRoad 49 = .ok (.return_, 1) := by decide +kernel
theorem dX1_addWheel_0 : decode cX1_addWheel 0 = .ok (.aload_n 0, 1) := by decide +kernel
theorem dX1_addWheel_1 : decode cX1_addWheel 1 = .ok (.getfield 50, 3) := by decide +kernel
theorem dX1_addWheel_4 : decode cX1_addWheel 4 = .ok (.bipush 8, 2) := by decide +kernel
theorem dX1_addWheel_6 : decode cX1_addWheel 6 = .ok (.if_icmp .ge 26, 3) := by decide +kernel
theorem dX1_addWheel_9 : decode cX1_addWheel 9 = .ok (.aload_n 0, 1) := by decide +kernel
theorem dX1_addWheel_10 : decode cX1_addWheel 10 = .ok (.getfield 33, 3) := by decide +kernel
theorem dX1_addWheel_13 : decode cX1_addWheel 13 = .ok (.getfield 72, 3) := by decide +kernel
theorem dX1_addWheel_16 : decode cX1_addWheel 16 = .ok (.aload_n 0, 1) := by decide +kernel
theorem dX1_addWheel_17 : decode cX1_addWheel 17 = .ok (.getfield 50, 3) := by decide +kernel
theorem dX1_addWheel_20 : decode cX1_addWheel 20 = .ok (.iload_n 1, 1) := by decide +kernel
theorem dX1_addWheel_21 : decode cX1_addWheel 21 = .ok (.iastore, 1) := by decide +kernel
theorem dX1_addWheel_22 : decode cX1_addWheel 22 = .ok (.aload_n 0, 1) := by decide +kernel
theorem dX1_addWheel_23 : decode cX1_addWheel 23 = .ok (.dup, 1) := by decide +kernel
theorem dX1_addWheel_24 : decode cX1_addWheel 24 = .ok (.getfield 50, 3) := by decide +kernel
theorem dX1_addWheel_27 : decode cX1_addWheel 27 = .ok (.iconst 1, 1) := by decide +kernel
theorem dX1_addWheel_28 : decode cX1_addWheel 28 = .ok (.iadd, 1) := by decide +kernel
theorem dX1_addWheel_29 : decode cX1_addWheel 29 = .ok (.putfield 50, 3) := by decide +kernel
theorem dX1_addWheel_32 : decode cX1_addWheel 32 = .ok (.return_, 1) := by decide +kernel
theorem dX1_clear_0 : decode cX1_clear 0 = .ok (.aload_n 0, 1) := by decide +kernel
theorem dX1_clear_1 : decode cX1_clear 1 = .ok (.iconst 0, 1) := by decide +kernel
theorem dX1_clear_2 : decode cX1_clear 2 = .ok (.putfield 37, 3) := by decide +kernel
theorem dX1_clear_5 : decode cX1_clear 5 = .ok (.aload_n 0, 1) := by decide +kernel
theorem dX1_clear_6 : decode cX1_clear 6 = .ok (.iconst 0, 1) := by decide +kernel
theorem dX1_clear_7 : decode cX1_clear 7 = .ok (.putfield 41, 3) := by decide +kernel
theorem dX1_clear_10 : decode cX1_clear 10 = .ok (.aload_n 0, 1) := by decide +kernel
theorem dX1_clear_11 : decode cX1_clear 11 = .ok (.iconst 0, 1) := by decide +kernel
theorem dX1_clear_12 : decode cX1_clear 12 = .ok (.putfield 44, 3) := by decide +kernel
theorem dX1_clear_15 : decode cX1_clear 15 = .ok (.aload_n 0, 1) := by decide +kernel
theorem dX1_clear_16 : decode cX1_clear 16 = .ok (.iconst 0, 1) := by decide +kernel
theorem dX1_clear_17 : decode cX1_clear 17 = .ok (.putfield 47, 3) := by decide +kernel
theorem dX1_clear_20 : decode cX1_clear 20 = .ok (.aload_n 0, 1) := by decide +kernel
theorem dX1_clear_21 : decode cX1_clear 21 = .ok (.iconst 0, 1) := by decide +kernel
theorem dX1_clear_22 : decode cX1_clear 22 = .ok (.putfield 50, 3) := by decide +kernel
theorem dX1_clear_25 : decode cX1_clear 25 = .ok (.aload_n 0, 1) := by decide +kernel
theorem dX1_clear_26 : decode cX1_clear 26 = .ok (.iconst 0, 1) := by decide +kernel
theorem dX1_clear_27 : decode cX1_clear 27 = .ok (.putfield 53, 3) := by decide +kernel
theorem dX1_clear_30 : decode cX1_clear 30 = .ok (.aload_n 0, 1) := by decide +kernel
theorem dX1_clear_31 : decode cX1_clear 31 = .ok (.iconst 0, 1) := by decide +kernel
theorem dX1_clear_32 : decode cX1_clear 32 = .ok (.putfield 56, 3) := by decide +kernel
theorem dX1_clear_35 : decode cX1_clear 35 = .ok (.aload_n 0, 1) := by decide +kernel
theorem dX1_clear_36 : decode cX1_clear 36 = .ok (.getfield 33, 3) := by decide +kernel
theorem dX1_clear_39 : decode cX1_clear 39 = .ok (.invokevirtual 59, 3) := by decide +kernel
theorem dX1_clear_42 : decode cX1_clear 42 = .ok (.return_, 1) := by decide +kernel
theorem dX1_copy_0 : decode cX1_copy 0 = .ok (.aload_n 0, 1) := by decide +kernel
theorem dX1_copy_1 : decode cX1_copy 1 = .ok (.aload_n 1, 1) := by decide +kernel
theorem dX1_copy_2 : decode cX1_copy 2 = .ok (.getfield 37, 3) := by decide +kernel
theorem dX1_copy_5 : decode cX1_copy 5 = .ok (.putfield 37, 3) := by decide +kernel
theorem dX1_copy_8 : decode cX1_copy 8 = .ok (.aload_n 0, 1) := by decide +kernel
theorem dX1_copy_9 : decode cX1_copy 9 = .ok (.aload_n 1, 1) := by decide +kernel
theorem dX1_copy_10 : decode cX1_copy 10 = .ok (.getfield 41, 3) := by decide +kernel
theorem dX1_copy_13 : decode cX1_copy 13 = .ok (.putfield 41, 3) := by decide +kernel
theorem dX1_copy_16 : decode cX1_copy 16 = .ok (.aload_n 0, 1) := by decide +kernel
theorem dX1_copy_17 : decode cX1_copy 17 = .ok (.aload_n 1, 1) := by decide +kernel
theorem dX1_copy_18 : decode cX1_copy 18 = .ok (.getfield 44, 3) := by decide +kernel
theorem dX1_copy_21 : decode cX1_copy 21 = .ok (.putfield 44, 3) := by decide +kernel
theorem dX1_copy_24 : decode cX1_copy 24 = .ok (.aload_n 0, 1) := by decide +kernel
theorem dX1_copy_25 : decode cX1_copy 25 = .ok (.aload_n 1, 1) := by decide +kernel
theorem dX1_copy_26 : decode cX1_copy 26 = .ok (.getfield 47, 3) := by decide +kernel
theorem dX1_copy_29 : decode cX1_copy 29 = .ok (.putfield 47, 3) := by decide +kernel
theorem dX1_copy_32 : decode cX1_copy 32 = .ok (.aload_n 0, 1) := by decide +kernel
theorem dX1_copy_33 : decode cX1_copy 33 = .ok (.aload_n 1, 1) := by decide +kernel
theorem dX1_copy_34 : decode cX1_copy 34 = .ok (.getfield 50, 3) := by decide +kernel
theorem dX1_copy_37 : decode cX1_copy 37 = .ok (.putfield 50, 3) := by decide +kernel
theorem dX1_copy_40 : decode cX1_copy 40 = .ok (.aload_n 0, 1) := by decide +kernel
theorem dX1_copy_41 : decode cX1_copy 41 = .ok (.aload_n 1, 1) := by decide +kernel
theorem dX1_copy_42 : decode cX1_copy 42 = .ok (.getfield 53, 3) := by decide +kernel
theorem dX1_copy_45 : decode cX1_copy 45 = .ok (.putfield 53, 3) := by decide +kernel
theorem dX1_copy_48 : decode cX1_copy 48 = .ok (.aload_n 0, 1) := by decide +kernel
theorem dX1_copy_49 : decode cX1_copy 49 = .ok (.aload_n 1, 1) := by decide +kernel
theorem dX1_copy_50 : decode cX1_copy 50 = .ok (.getfield 56, 3) := by decide +kernel
theorem dX1_copy_53 : decode cX1_copy 53 = .ok (.putfield 56, 3) := by decide +kernel
theorem dX1_copy_56 : decode cX1_copy 56 = .ok (.aload_n 1, 1) := by decide +kernel
theorem dX1_copy_57 : decode cX1_copy 57 = .ok (.getfield 9, 3) := by decide +kernel
theorem dX1_copy_60 : decode cX1_copy 60 = .ok (.iconst 0, 1) := by decide +kernel
theorem dX1_copy_61 : decode cX1_copy 61 = .ok (.aload_n 0, 1) := by decide +kernel
theorem dX1_copy_62 : decode cX1_copy 62 = .ok (.getfield 9, 3) := by decide +kernel
theorem dX1_copy_65 : decode cX1_copy 65 = .ok (.iconst 0, 1) := by decide +kernel
theorem dX1_copy_66 : decode cX1_copy 66 = .ok (.bipush 8, 2) := by decide +kernel
theorem dX1_copy_68 : decode cX1_copy 68 = .ok (.invokestatic 62, 3) := by decide +kernel
theorem dX1_copy_71 : decode cX1_copy 71 = .ok (.aload_n 1, 1) := by decide +kernel
theorem dX1_copy_72 : decode cX1_copy 72 = .ok (.getfield 15, 3) := by decide +kernel
theorem dX1_copy_75 : decode cX1_copy 75 = .ok (.iconst 0, 1) := by decide +kernel
theorem dX1_copy_76 : decode cX1_copy 76 = .ok (.aload_n 0, 1) := by decide +kernel
theorem dX1_copy_77 : decode cX1_copy 77 = .ok (.getfield 15, 3) := by decide +kernel
theorem dX1_copy_80 : decode cX1_copy 80 = .ok (.iconst 0, 1) := by decide +kernel
theorem dX1_copy_81 : decode cX1_copy 81 = .ok (.bipush 8, 2) := by decide +kernel
theorem dX1_copy_83 : decode cX1_copy 83 = .ok (.invokestatic 62, 3) := by decide +kernel
theorem dX1_copy_86 : decode cX1_copy 86 = .ok (.aload_n 1, 1) := by decide +kernel
theorem dX1_copy_87 : decode cX1_copy 87 = .ok (.getfield 18, 3) := by decide +kernel
theorem dX1_copy_90 : decode cX1_copy 90 = .ok (.iconst 0, 1) := by decide +kernel
theorem dX1_copy_91 : decode cX1_copy 91 = .ok (.aload_n 0, 1) := by decide +kernel
theorem dX1_copy_92 : decode cX1_copy 92 = .ok (.getfield 18, 3) := by decide +kernel
theorem dX1_copy_95 : decode cX1_copy 95 = .ok (.iconst 0, 1) := by decide +kernel
theorem dX1_copy_96 : decode cX1_copy 96 = .ok (.bipush 8, 2) := by decide +kernel
theorem dX1_copy_98 : decode cX1_copy 98 = .ok (.invokestatic 62, 3) := by decide +kernel
theorem dX1_copy_101 : decode cX1_copy 101 = .ok (.aload_n 1, 1) := by decide +kernel
theorem dX1_copy_102 : decode cX1_copy 102 = .ok (.getfield 21, 3) := by decide +kernel
theorem dX1_copy_105 : decode cX1_copy 105 = .ok (.iconst 0, 1) := by decide +kernel
theorem dX1_copy_106 : decode cX1_copy 106 = .ok (.aload_n 0, 1) := by decide +kernel
theorem dX1_copy_107 : decode cX1_copy 107 = .ok (.getfield 21, 3) := by decide +kernel
theorem dX1_copy_110 : decode cX1_copy 110 = .ok (.iconst 0, 1) := by decide +kernel
theorem dX1_copy_111 : decode cX1_copy 111 = .ok (.bipush 6, 2) := by decide +kernel
theorem dX1_copy_113 : decode cX1_copy 113 = .ok (.invokestatic 62, 3) := by decide +kernel
theorem dX1_copy_116 : decode cX1_copy 116 = .ok (.aload_n 1, 1) := by decide +kernel
theorem dX1_copy_117 : decode cX1_copy 117 = .ok (.getfield 24, 3) := by decide +kernel
theorem dX1_copy_120 : decode cX1_copy 120 = .ok (.iconst 0, 1) := by decide +kernel
theorem dX1_copy_121 : decode cX1_copy 121 = .ok (.aload_n 0, 1) := by decide +kernel
theorem dX1_copy_122 : decode cX1_copy 122 = .ok (.getfield 24, 3) := by decide +kernel
theorem dX1_copy_125 : decode cX1_copy 125 = .ok (.iconst 0, 1) := by decide +kernel
theorem dX1_copy_126 : decode cX1_copy 126 = .ok (.bipush 6, 2) := by decide +kernel
theorem dX1_copy_128 : decode cX1_copy 128 = .ok (.invokestatic 62, 3) := by decide +kernel
theorem dX1_copy_131 : decode cX1_copy 131 = .ok (.aload_n 1, 1) := by decide +kernel
theorem dX1_copy_132 : decode cX1_copy 132 = .ok (.getfield 27, 3) := by decide +kernel
theorem dX1_copy_135 : decode cX1_copy 135 = .ok (.iconst 0, 1) := by decide +kernel
theorem dX1_copy_136 : decode cX1_copy 136 = .ok (.aload_n 0, 1) := by decide +kernel
theorem dX1_copy_137 : decode cX1_copy 137 = .ok (.getfield 27, 3) := by decide +kernel
theorem dX1_copy_140 : decode cX1_copy 140 = .ok (.iconst 0, 1) := by decide +kernel
theorem dX1_copy_141 : decode cX1_copy 141 = .ok (.bipush 6, 2) := by decide +kernel
theorem dX1_copy_143 : decode cX1_copy 143 = .ok (.invokestatic 62, 3) := by decide +kernel
theorem dX1_copy_146 : decode cX1_copy 146 = .ok (.aload_n 0, 1) := by decide +kernel
theorem dX1_copy_147 : decode cX1_copy 147 = .ok (.getfield 33, 3) := by decide +kernel
theorem dX1_copy_150 : decode cX1_copy 150 = .ok (.aload_n 1, 1) := by decide +kernel
theorem dX1_copy_151 : decode cX1_copy 151 = .ok (.getfield 33, 3) := by decide +kernel
theorem dX1_copy_154 : decode cX1_copy 154 = .ok (.invokevirtual 68, 3) := by decide +kernel
theorem dX1_copy_157 : decode cX1_copy 157 = .ok (.return_, 1) := by decide +kernel
theorem dX1_isCart_0 : decode cX1_isCart 0 = .ok (.iload_n 1, 1) := by decide +kernel
theorem dX1_isCart_1 : decode cX1_isCart 1 = .ok (.ifCond .lt 15, 3) := by decide +kernel
theorem dX1_isCart_4 : decode cX1_isCart 4 = .ok (.iload_n 1, 1) := by decide +kernel
theorem dX1_isCart_5 : decode cX1_isCart 5 = .ok (.aload_n 0, 1) := by decide +kernel
theorem dX1_isCart_6 : decode cX1_isCart 6 = .ok (.getfield 53, 3) := by decide +kernel
theorem dX1_isCart_9 : decode cX1_isCart 9 = .ok (.if_icmp .ge 7, 3) := by decide +kernel
theorem dX1_isCart_12 : decode cX1_isCart 12 = .ok (.iconst 1, 1) := by decide +kernel
theorem dX1_isCart_13 : decode cX1_isCart 13 = .ok (.goto 4, 3) := by decide +kernel
theorem dX1_isCart_16 : decode cX1_isCart 16 = .ok (.iconst 0, 1) := by decide +kernel
theorem dX1_isCart_17 : decode cX1_isCart 17 = .ok (.ireturn, 1) := by decide +kernel
theorem dX1_isErrand_0 : decode cX1_isErrand 0 = .ok (.iload_n 1, 1) := by decide +kernel
theorem dX1_isErrand_1 : decode cX1_isErrand 1 = .ok (.ifCond .lt 15, 3) := by decide +kernel
theorem dX1_isErrand_4 : decode cX1_isErrand 4 = .ok (.iload_n 1, 1) := by decide +kernel
theorem dX1_isErrand_5 : decode cX1_isErrand 5 = .ok (.aload_n 0, 1) := by decide +kernel
theorem dX1_isErrand_6 : decode cX1_isErrand 6 = .ok (.getfield 56, 3) := by decide +kernel
theorem dX1_isErrand_9 : decode cX1_isErrand 9 = .ok (.if_icmp .ge 7, 3) := by decide +kernel
theorem dX1_isErrand_12 : decode cX1_isErrand 12 = .ok (.iconst 1, 1) := by decide +kernel
theorem dX1_isErrand_13 : decode cX1_isErrand 13 = .ok (.goto 4, 3) := by decide +kernel
theorem dX1_isErrand_16 : decode cX1_isErrand 16 = .ok (.iconst 0, 1) := by decide +kernel
theorem dX1_isErrand_17 : decode cX1_isErrand 17 = .ok (.ireturn, 1) := by decide +kernel
theorem dX1_isPlace_0 : decode cX1_isPlace 0 = .ok (.iload_n 1, 1) := by decide +kernel
theorem dX1_isPlace_1 : decode cX1_isPlace 1 = .ok (.ifCond .lt 15, 3) := by decide +kernel
theorem dX1_isPlace_4 : decode cX1_isPlace 4 = .ok (.iload_n 1, 1) := by decide +kernel
theorem dX1_isPlace_5 : decode cX1_isPlace 5 = .ok (.aload_n 0, 1) := by decide +kernel
theorem dX1_isPlace_6 : decode cX1_isPlace 6 = .ok (.getfield 41, 3) := by decide +kernel
theorem dX1_isPlace_9 : decode cX1_isPlace 9 = .ok (.if_icmp .ge 7, 3) := by decide +kernel
theorem dX1_isPlace_12 : decode cX1_isPlace 12 = .ok (.iconst 1, 1) := by decide +kernel
theorem dX1_isPlace_13 : decode cX1_isPlace 13 = .ok (.goto 4, 3) := by decide +kernel
theorem dX1_isPlace_16 : decode cX1_isPlace 16 = .ok (.iconst 0, 1) := by decide +kernel
theorem dX1_isPlace_17 : decode cX1_isPlace 17 = .ok (.ireturn, 1) := by decide +kernel
theorem dX1_isRoad_0 : decode cX1_isRoad 0 = .ok (.iload_n 1, 1) := by decide +kernel
theorem dX1_isRoad_1 : decode cX1_isRoad 1 = .ok (.ifCond .lt 15, 3) := by decide +kernel
theorem dX1_isRoad_4 : decode cX1_isRoad 4 = .ok (.iload_n 1, 1) := by decide +kernel
theorem dX1_isRoad_5 : decode cX1_isRoad 5 = .ok (.aload_n 0, 1) := by decide +kernel
theorem dX1_isRoad_6 : decode cX1_isRoad 6 = .ok (.getfield 47, 3) := by decide +kernel
theorem dX1_isRoad_9 : decode cX1_isRoad 9 = .ok (.if_icmp .ge 7, 3) := by decide +kernel
theorem dX1_isRoad_12 : decode cX1_isRoad 12 = .ok (.iconst 1, 1) := by decide +kernel
theorem dX1_isRoad_13 : decode cX1_isRoad 13 = .ok (.goto 4, 3) := by decide +kernel
theorem dX1_isRoad_16 : decode cX1_isRoad 16 = .ok (.iconst 0, 1) := by decide +kernel
theorem dX1_isRoad_17 : decode cX1_isRoad 17 = .ok (.ireturn, 1) := by decide +kernel
theorem dX1_isTold_0 : decode cX1_isTold 0 = .ok (.aload_n 0, 1) := by decide +kernel
theorem dX1_isTold_1 : decode cX1_isTold 1 = .ok (.getfield 37, 3) := by decide +kernel
theorem dX1_isTold_4 : decode cX1_isTold 4 = .ok (.ifCond .le 7, 3) := by decide +kernel
theorem dX1_isTold_7 : decode cX1_isTold 7 = .ok (.iconst 1, 1) := by decide +kernel
theorem dX1_isTold_8 : decode cX1_isTold 8 = .ok (.goto 4, 3) := by decide +kernel
theorem dX1_isTold_11 : decode cX1_isTold 11 = .ok (.iconst 0, 1) := by decide +kernel
theorem dX1_isTold_12 : decode cX1_isTold 12 = .ok (.ireturn, 1) := by decide +kernel
theorem dX1_isWheel_0 : decode cX1_isWheel 0 = .ok (.iload_n 1, 1) := by decide +kernel
theorem dX1_isWheel_1 : decode cX1_isWheel 1 = .ok (.ifCond .lt 15, 3) := by decide +kernel
theorem dX1_isWheel_4 : decode cX1_isWheel 4 = .ok (.iload_n 1, 1) := by decide +kernel
theorem dX1_isWheel_5 : decode cX1_isWheel 5 = .ok (.aload_n 0, 1) := by decide +kernel
theorem dX1_isWheel_6 : decode cX1_isWheel 6 = .ok (.getfield 50, 3) := by decide +kernel
theorem dX1_isWheel_9 : decode cX1_isWheel 9 = .ok (.if_icmp .ge 7, 3) := by decide +kernel
theorem dX1_isWheel_12 : decode cX1_isWheel 12 = .ok (.iconst 1, 1) := by decide +kernel
theorem dX1_isWheel_13 : decode cX1_isWheel 13 = .ok (.goto 4, 3) := by decide +kernel
theorem dX1_isWheel_16 : decode cX1_isWheel 16 = .ok (.iconst 0, 1) := by decide +kernel
theorem dX1_isWheel_17 : decode cX1_isWheel 17 = .ok (.ireturn, 1) := by decide +kernel
theorem dX1_otherEnd_0 : decode cX1_otherEnd 0 = .ok (.aload_n 0, 1) := by decide +kernel
theorem dX1_otherEnd_1 : decode cX1_otherEnd 1 = .ok (.getfield 9, 3) := by decide +kernel
theorem dX1_otherEnd_4 : decode cX1_otherEnd 4 = .ok (.iload_n 1, 1) := by decide +kernel
theorem dX1_otherEnd_5 : decode cX1_otherEnd 5 = .ok (.iaload, 1) := by decide +kernel
theorem dX1_otherEnd_6 : decode cX1_otherEnd 6 = .ok (.iload_n 2, 1) := by decide +kernel
theorem dX1_otherEnd_7 : decode cX1_otherEnd 7 = .ok (.if_icmp .ne 12, 3) := by decide +kernel
theorem dX1_otherEnd_10 : decode cX1_otherEnd 10 = .ok (.aload_n 0, 1) := by decide +kernel
theorem dX1_otherEnd_11 : decode cX1_otherEnd 11 = .ok (.getfield 15, 3) := by decide +kernel
theorem dX1_otherEnd_14 : decode cX1_otherEnd 14 = .ok (.iload_n 1, 1) := by decide +kernel
theorem dX1_otherEnd_15 : decode cX1_otherEnd 15 = .ok (.iaload, 1) := by decide +kernel
theorem dX1_otherEnd_16 : decode cX1_otherEnd 16 = .ok (.goto 9, 3) := by decide +kernel
theorem dX1_otherEnd_19 : decode cX1_otherEnd 19 = .ok (.aload_n 0, 1) := by decide +kernel
theorem dX1_otherEnd_20 : decode cX1_otherEnd 20 = .ok (.getfield 9, 3) := by decide +kernel
theorem dX1_otherEnd_23 : decode cX1_otherEnd 23 = .ok (.iload_n 1, 1) := by decide +kernel
theorem dX1_otherEnd_24 : decode cX1_otherEnd 24 = .ok (.iaload, 1) := by decide +kernel
theorem dX1_otherEnd_25 : decode cX1_otherEnd 25 = .ok (.ireturn, 1) := by decide +kernel
theorem dX1_roadsAt_0 : decode cX1_roadsAt 0 = .ok (.iconst 0, 1) := by decide +kernel
theorem dX1_roadsAt_1 : decode cX1_roadsAt 1 = .ok (.istore_n 2, 1) := by decide +kernel
theorem dX1_roadsAt_2 : decode cX1_roadsAt 2 = .ok (.iconst 0, 1) := by decide +kernel
theorem dX1_roadsAt_3 : decode cX1_roadsAt 3 = .ok (.istore_n 3, 1) := by decide +kernel
theorem dX1_roadsAt_4 : decode cX1_roadsAt 4 = .ok (.iload_n 3, 1) := by decide +kernel
theorem dX1_roadsAt_5 : decode cX1_roadsAt 5 = .ok (.aload_n 0, 1) := by decide +kernel
theorem dX1_roadsAt_6 : decode cX1_roadsAt 6 = .ok (.getfield 47, 3) := by decide +kernel
theorem dX1_roadsAt_9 : decode cX1_roadsAt 9 = .ok (.if_icmp .ge 24, 3) := by decide +kernel
theorem dX1_roadsAt_12 : decode cX1_roadsAt 12 = .ok (.aload_n 0, 1) := by decide +kernel
theorem dX1_roadsAt_13 : decode cX1_roadsAt 13 = .ok (.iload_n 3, 1) := by decide +kernel
theorem dX1_roadsAt_14 : decode cX1_roadsAt 14 = .ok (.iload_n 1, 1) := by decide +kernel
theorem dX1_roadsAt_15 : decode cX1_roadsAt 15 = .ok (.invokevirtual 78, 3) := by decide +kernel
theorem dX1_roadsAt_18 : decode cX1_roadsAt 18 = .ok (.ifCond .eq 9, 3) := by decide +kernel
theorem dX1_roadsAt_21 : decode cX1_roadsAt 21 = .ok (.iload_n 2, 1) := by decide +kernel
theorem dX1_roadsAt_22 : decode cX1_roadsAt 22 = .ok (.iconst 1, 1) := by decide +kernel
theorem dX1_roadsAt_23 : decode cX1_roadsAt 23 = .ok (.iload_n 3, 1) := by decide +kernel
theorem dX1_roadsAt_24 : decode cX1_roadsAt 24 = .ok (.ishl, 1) := by decide +kernel
theorem dX1_roadsAt_25 : decode cX1_roadsAt 25 = .ok (.ior, 1) := by decide +kernel
theorem dX1_roadsAt_26 : decode cX1_roadsAt 26 = .ok (.istore_n 2, 1) := by decide +kernel
theorem dX1_roadsAt_27 : decode cX1_roadsAt 27 = .ok (.iinc 3 1, 3) := by decide +kernel
theorem dX1_roadsAt_30 : decode cX1_roadsAt 30 = .ok (.goto (-26), 3) := by decide +kernel
theorem dX1_roadsAt_33 : decode cX1_roadsAt 33 = .ok (.iload_n 2, 1) := by decide +kernel
theorem dX1_roadsAt_34 : decode cX1_roadsAt 34 = .ok (.ireturn, 1) := by decide +kernel
theorem dX1_spreadOf_0 : decode cX1_spreadOf 0 = .ok (.iload_n 1, 1) := by decide +kernel
theorem dX1_spreadOf_1 : decode cX1_spreadOf 1 = .ok (.istore_n 2, 1) := by decide +kernel
theorem dX1_spreadOf_2 : decode cX1_spreadOf 2 = .ok (.iconst 0, 1) := by decide +kernel
theorem dX1_spreadOf_3 : decode cX1_spreadOf 3 = .ok (.istore_n 3, 1) := by decide +kernel
theorem dX1_spreadOf_4 : decode cX1_spreadOf 4 = .ok (.iload_n 3, 1) := by decide +kernel
theorem dX1_spreadOf_5 : decode cX1_spreadOf 5 = .ok (.aload_n 0, 1) := by decide +kernel
theorem dX1_spreadOf_6 : decode cX1_spreadOf 6 = .ok (.getfield 47, 3) := by decide +kernel
theorem dX1_spreadOf_9 : decode cX1_spreadOf 9 = .ok (.if_icmp .ge 57, 3) := by decide +kernel
theorem dX1_spreadOf_12 : decode cX1_spreadOf 12 = .ok (.iload_n 1, 1) := by decide +kernel
theorem dX1_spreadOf_13 : decode cX1_spreadOf 13 = .ok (.aload_n 0, 1) := by decide +kernel
theorem dX1_spreadOf_14 : decode cX1_spreadOf 14 = .ok (.getfield 9, 3) := by decide +kernel
theorem dX1_spreadOf_17 : decode cX1_spreadOf 17 = .ok (.iload_n 3, 1) := by decide +kernel
theorem dX1_spreadOf_18 : decode cX1_spreadOf 18 = .ok (.iaload, 1) := by decide +kernel
theorem dX1_spreadOf_19 : decode cX1_spreadOf 19 = .ok (.ishr, 1) := by decide +kernel
theorem dX1_spreadOf_20 : decode cX1_spreadOf 20 = .ok (.iconst 1, 1) := by decide +kernel
theorem dX1_spreadOf_21 : decode cX1_spreadOf 21 = .ok (.iand, 1) := by decide +kernel
theorem dX1_spreadOf_22 : decode cX1_spreadOf 22 = .ok (.ifCond .eq 14, 3) := by decide +kernel
theorem dX1_spreadOf_25 : decode cX1_spreadOf 25 = .ok (.iload_n 2, 1) := by decide +kernel
theorem dX1_spreadOf_26 : decode cX1_spreadOf 26 = .ok (.iconst 1, 1) := by decide +kernel
theorem dX1_spreadOf_27 : decode cX1_spreadOf 27 = .ok (.aload_n 0, 1) := by decide +kernel
theorem dX1_spreadOf_28 : decode cX1_spreadOf 28 = .ok (.getfield 15, 3) := by decide +kernel
theorem dX1_spreadOf_31 : decode cX1_spreadOf 31 = .ok (.iload_n 3, 1) := by decide +kernel
theorem dX1_spreadOf_32 : decode cX1_spreadOf 32 = .ok (.iaload, 1) := by decide +kernel
theorem dX1_spreadOf_33 : decode cX1_spreadOf 33 = .ok (.ishl, 1) := by decide +kernel
theorem dX1_spreadOf_34 : decode cX1_spreadOf 34 = .ok (.ior, 1) := by decide +kernel
theorem dX1_spreadOf_35 : decode cX1_spreadOf 35 = .ok (.istore_n 2, 1) := by decide +kernel
theorem dX1_spreadOf_36 : decode cX1_spreadOf 36 = .ok (.iload_n 1, 1) := by decide +kernel
theorem dX1_spreadOf_37 : decode cX1_spreadOf 37 = .ok (.aload_n 0, 1) := by decide +kernel
theorem dX1_spreadOf_38 : decode cX1_spreadOf 38 = .ok (.getfield 15, 3) := by decide +kernel
theorem dX1_spreadOf_41 : decode cX1_spreadOf 41 = .ok (.iload_n 3, 1) := by decide +kernel
theorem dX1_spreadOf_42 : decode cX1_spreadOf 42 = .ok (.iaload, 1) := by decide +kernel
theorem dX1_spreadOf_43 : decode cX1_spreadOf 43 = .ok (.ishr, 1) := by decide +kernel
theorem dX1_spreadOf_44 : decode cX1_spreadOf 44 = .ok (.iconst 1, 1) := by decide +kernel
theorem dX1_spreadOf_45 : decode cX1_spreadOf 45 = .ok (.iand, 1) := by decide +kernel
theorem dX1_spreadOf_46 : decode cX1_spreadOf 46 = .ok (.ifCond .eq 14, 3) := by decide +kernel
theorem dX1_spreadOf_49 : decode cX1_spreadOf 49 = .ok (.iload_n 2, 1) := by decide +kernel
theorem dX1_spreadOf_50 : decode cX1_spreadOf 50 = .ok (.iconst 1, 1) := by decide +kernel
theorem dX1_spreadOf_51 : decode cX1_spreadOf 51 = .ok (.aload_n 0, 1) := by decide +kernel
theorem dX1_spreadOf_52 : decode cX1_spreadOf 52 = .ok (.getfield 9, 3) := by decide +kernel
theorem dX1_spreadOf_55 : decode cX1_spreadOf 55 = .ok (.iload_n 3, 1) := by decide +kernel
theorem dX1_spreadOf_56 : decode cX1_spreadOf 56 = .ok (.iaload, 1) := by decide +kernel
theorem dX1_spreadOf_57 : decode cX1_spreadOf 57 = .ok (.ishl, 1) := by decide +kernel
theorem dX1_spreadOf_58 : decode cX1_spreadOf 58 = .ok (.ior, 1) := by decide +kernel
theorem dX1_spreadOf_59 : decode cX1_spreadOf 59 = .ok (.istore_n 2, 1) := by decide +kernel
theorem dX1_spreadOf_60 : decode cX1_spreadOf 60 = .ok (.iinc 3 1, 3) := by decide +kernel
theorem dX1_spreadOf_63 : decode cX1_spreadOf 63 = .ok (.goto (-59), 3) := by decide +kernel
theorem dX1_spreadOf_66 : decode cX1_spreadOf 66 = .ok (.iload_n 2, 1) := by decide +kernel
theorem dX1_spreadOf_67 : decode cX1_spreadOf 67 = .ok (.ireturn, 1) := by decide +kernel
theorem dX1_touches_0 : decode cX1_touches 0 = .ok (.iload_n 1, 1) := by decide +kernel
theorem dX1_touches_1 : decode cX1_touches 1 = .ok (.ifCond .lt 35, 3) := by decide +kernel
theorem dX1_touches_4 : decode cX1_touches 4 = .ok (.iload_n 1, 1) := by decide +kernel
theorem dX1_touches_5 : decode cX1_touches 5 = .ok (.aload_n 0, 1) := by decide +kernel
theorem dX1_touches_6 : decode cX1_touches 6 = .ok (.getfield 47, 3) := by decide +kernel
theorem dX1_touches_9 : decode cX1_touches 9 = .ok (.if_icmp .ge 27, 3) := by decide +kernel
theorem dX1_touches_12 : decode cX1_touches 12 = .ok (.aload_n 0, 1) := by decide +kernel
theorem dX1_touches_13 : decode cX1_touches 13 = .ok (.getfield 9, 3) := by decide +kernel
theorem dX1_touches_16 : decode cX1_touches 16 = .ok (.iload_n 1, 1) := by decide +kernel
theorem dX1_touches_17 : decode cX1_touches 17 = .ok (.iaload, 1) := by decide +kernel
theorem dX1_touches_18 : decode cX1_touches 18 = .ok (.iload_n 2, 1) := by decide +kernel
theorem dX1_touches_19 : decode cX1_touches 19 = .ok (.if_icmp .eq 13, 3) := by decide +kernel
theorem dX1_touches_22 : decode cX1_touches 22 = .ok (.aload_n 0, 1) := by decide +kernel
theorem dX1_touches_23 : decode cX1_touches 23 = .ok (.getfield 15, 3) := by decide +kernel
theorem dX1_touches_26 : decode cX1_touches 26 = .ok (.iload_n 1, 1) := by decide +kernel
theorem dX1_touches_27 : decode cX1_touches 27 = .ok (.iaload, 1) := by decide +kernel
theorem dX1_touches_28 : decode cX1_touches 28 = .ok (.iload_n 2, 1) := by decide +kernel
theorem dX1_touches_29 : decode cX1_touches 29 = .ok (.if_icmp .ne 7, 3) := by decide +kernel
theorem dX1_touches_32 : decode cX1_touches 32 = .ok (.iconst 1, 1) := by decide +kernel
theorem dX1_touches_33 : decode cX1_touches 33 = .ok (.goto 4, 3) := by decide +kernel
theorem dX1_touches_36 : decode cX1_touches 36 = .ok (.iconst 0, 1) := by decide +kernel
theorem dX1_touches_37 : decode cX1_touches 37 = .ok (.ireturn, 1) := by decide +kernel
theorem dX2_fail_0 : decode cX2_fail 0 = .ok (.aload_n 0, 1) := by decide +kernel
theorem dX2_fail_1 : decode cX2_fail 1 = .ok (.getfield 32, 3) := by decide +kernel
theorem dX2_fail_4 : decode cX2_fail 4 = .ok (.ifCond .ne 16, 3) := by decide +kernel
theorem dX2_fail_7 : decode cX2_fail 7 = .ok (.aload_n 0, 1) := by decide +kernel
theorem dX2_fail_8 : decode cX2_fail 8 = .ok (.iload_n 1, 1) := by decide +kernel
theorem dX2_fail_9 : decode cX2_fail 9 = .ok (.putfield 32, 3) := by decide +kernel
theorem dX2_fail_12 : decode cX2_fail 12 = .ok (.aload_n 0, 1) := by decide +kernel
theorem dX2_fail_13 : decode cX2_fail 13 = .ok (.aload_n 0, 1) := by decide +kernel
theorem dX2_fail_14 : decode cX2_fail 14 = .ok (.getfield 162, 3) := by decide +kernel
theorem dX2_fail_17 : decode cX2_fail 17 = .ok (.putfield 25, 3) := by decide +kernel
theorem dX2_fail_20 : decode cX2_fail 20 = .ok (.return_, 1) := by decide +kernel
theorem dX2_isBlank_0 : decode cX2_isBlank 0 = .ok (.iload_n 0, 1) := by decide +kernel
theorem dX2_isBlank_1 : decode cX2_isBlank 1 = .ok (.bipush 32, 2) := by decide +kernel
theorem dX2_isBlank_3 : decode cX2_isBlank 3 = .ok (.if_icmp .eq 9, 3) := by decide +kernel
theorem dX2_isBlank_6 : decode cX2_isBlank 6 = .ok (.iload_n 0, 1) := by decide +kernel
theorem dX2_isBlank_7 : decode cX2_isBlank 7 = .ok (.bipush 10, 2) := by decide +kernel
theorem dX2_isBlank_9 : decode cX2_isBlank 9 = .ok (.if_icmp .ne 7, 3) := by decide +kernel
theorem dX2_isBlank_12 : decode cX2_isBlank 12 = .ok (.iconst 1, 1) := by decide +kernel
theorem dX2_isBlank_13 : decode cX2_isBlank 13 = .ok (.goto 4, 3) := by decide +kernel
theorem dX2_isBlank_16 : decode cX2_isBlank 16 = .ok (.iconst 0, 1) := by decide +kernel
theorem dX2_isBlank_17 : decode cX2_isBlank 17 = .ok (.ireturn, 1) := by decide +kernel
theorem dX2_isDigit_0 : decode cX2_isDigit 0 = .ok (.iload_n 0, 1) := by decide +kernel
theorem dX2_isDigit_1 : decode cX2_isDigit 1 = .ok (.bipush 48, 2) := by decide +kernel
theorem dX2_isDigit_3 : decode cX2_isDigit 3 = .ok (.if_icmp .lt 13, 3) := by decide +kernel
theorem dX2_isDigit_6 : decode cX2_isDigit 6 = .ok (.iload_n 0, 1) := by decide +kernel
theorem dX2_isDigit_7 : decode cX2_isDigit 7 = .ok (.bipush 57, 2) := by decide +kernel
theorem dX2_isDigit_9 : decode cX2_isDigit 9 = .ok (.if_icmp .gt 7, 3) := by decide +kernel
theorem dX2_isDigit_12 : decode cX2_isDigit 12 = .ok (.iconst 1, 1) := by decide +kernel
theorem dX2_isDigit_13 : decode cX2_isDigit 13 = .ok (.goto 4, 3) := by decide +kernel
theorem dX2_isDigit_16 : decode cX2_isDigit 16 = .ok (.iconst 0, 1) := by decide +kernel
theorem dX2_isDigit_17 : decode cX2_isDigit 17 = .ok (.ireturn, 1) := by decide +kernel
theorem dX2_isLetter_0 : decode cX2_isLetter 0 = .ok (.iload_n 0, 1) := by decide +kernel
theorem dX2_isLetter_1 : decode cX2_isLetter 1 = .ok (.bipush 97, 2) := by decide +kernel
theorem dX2_isLetter_3 : decode cX2_isLetter 3 = .ok (.if_icmp .lt 13, 3) := by decide +kernel
theorem dX2_isLetter_6 : decode cX2_isLetter 6 = .ok (.iload_n 0, 1) := by decide +kernel
theorem dX2_isLetter_7 : decode cX2_isLetter 7 = .ok (.bipush 122, 2) := by decide +kernel
theorem dX2_isLetter_9 : decode cX2_isLetter 9 = .ok (.if_icmp .gt 7, 3) := by decide +kernel
theorem dX2_isLetter_12 : decode cX2_isLetter 12 = .ok (.iconst 1, 1) := by decide +kernel
theorem dX2_isLetter_13 : decode cX2_isLetter 13 = .ok (.goto 4, 3) := by decide +kernel
theorem dX2_isLetter_16 : decode cX2_isLetter 16 = .ok (.iconst 0, 1) := by decide +kernel
theorem dX2_isLetter_17 : decode cX2_isLetter 17 = .ok (.ireturn, 1) := by decide +kernel
theorem dX2_isWord_0 : decode cX2_isWord 0 = .ok (.aload_n 0, 1) := by decide +kernel
theorem dX2_isWord_1 : decode cX2_isWord 1 = .ok (.getfield 41, 3) := by decide +kernel
theorem dX2_isWord_4 : decode cX2_isWord 4 = .ok (.iconst 1, 1) := by decide +kernel
theorem dX2_isWord_5 : decode cX2_isWord 5 = .ok (.if_icmp .ne 19, 3) := by decide +kernel
theorem dX2_isWord_8 : decode cX2_isWord 8 = .ok (.aload_n 0, 1) := by decide +kernel
theorem dX2_isWord_9 : decode cX2_isWord 9 = .ok (.getfield 35, 3) := by decide +kernel
theorem dX2_isWord_12 : decode cX2_isWord 12 = .ok (.aload_n 0, 1) := by decide +kernel
theorem dX2_isWord_13 : decode cX2_isWord 13 = .ok (.getfield 162, 3) := by decide +kernel
theorem dX2_isWord_16 : decode cX2_isWord 16 = .ok (.isub, 1) := by decide +kernel
theorem dX2_isWord_17 : decode cX2_isWord 17 = .ok (.aload_n 1, 1) := by decide +kernel
theorem dX2_isWord_18 : decode cX2_isWord 18 = .ok (.invokevirtual 165, 3) := by decide +kernel
theorem dX2_isWord_21 : decode cX2_isWord 21 = .ok (.if_icmp .eq 5, 3) := by decide +kernel
theorem dX2_isWord_24 : decode cX2_isWord 24 = .ok (.iconst 0, 1) := by decide +kernel
theorem dX2_isWord_25 : decode cX2_isWord 25 = .ok (.ireturn, 1) := by decide +kernel
theorem dX2_isWord_26 : decode cX2_isWord 26 = .ok (.iconst 0, 1) := by decide +kernel
theorem dX2_isWord_27 : decode cX2_isWord 27 = .ok (.istore_n 2, 1) := by decide +kernel
theorem dX2_isWord_28 : decode cX2_isWord 28 = .ok (.iload_n 2, 1) := by decide +kernel
theorem dX2_isWord_29 : decode cX2_isWord 29 = .ok (.aload_n 1, 1) := by decide +kernel
theorem dX2_isWord_30 : decode cX2_isWord 30 = .ok (.invokevirtual 165, 3) := by decide +kernel
theorem dX2_isWord_33 : decode cX2_isWord 33 = .ok (.if_icmp .ge 32, 3) := by decide +kernel
theorem dX2_isWord_36 : decode cX2_isWord 36 = .ok (.aload_n 0, 1) := by decide +kernel
theorem dX2_isWord_37 : decode cX2_isWord 37 = .ok (.getfield 12, 3) := by decide +kernel
theorem dX2_isWord_40 : decode cX2_isWord 40 = .ok (.aload_n 0, 1) := by decide +kernel
theorem dX2_isWord_41 : decode cX2_isWord 41 = .ok (.getfield 162, 3) := by decide +kernel
theorem dX2_isWord_44 : decode cX2_isWord 44 = .ok (.iload_n 2, 1) := by decide +kernel
theorem dX2_isWord_45 : decode cX2_isWord 45 = .ok (.iadd, 1) := by decide +kernel
theorem dX2_isWord_46 : decode cX2_isWord 46 = .ok (.invokevirtual 171, 3) := by decide +kernel
theorem dX2_isWord_49 : decode cX2_isWord 49 = .ok (.aload_n 1, 1) := by decide +kernel
theorem dX2_isWord_50 : decode cX2_isWord 50 = .ok (.iload_n 2, 1) := by decide +kernel
theorem dX2_isWord_51 : decode cX2_isWord 51 = .ok (.invokevirtual 175, 3) := by decide +kernel
theorem dX2_isWord_54 : decode cX2_isWord 54 = .ok (.if_icmp .eq 5, 3) := by decide +kernel
theorem dX2_isWord_57 : decode cX2_isWord 57 = .ok (.iconst 0, 1) := by decide +kernel
theorem dX2_isWord_58 : decode cX2_isWord 58 = .ok (.ireturn, 1) := by decide +kernel
theorem dX2_isWord_59 : decode cX2_isWord 59 = .ok (.iinc 2 1, 3) := by decide +kernel
theorem dX2_isWord_62 : decode cX2_isWord 62 = .ok (.goto (-34), 3) := by decide +kernel
theorem dX2_isWord_65 : decode cX2_isWord 65 = .ok (.iconst 1, 1) := by decide +kernel
theorem dX2_isWord_66 : decode cX2_isWord 66 = .ok (.ireturn, 1) := by decide +kernel
theorem dX2_next_0 : decode cX2_next 0 = .ok (.aload_n 0, 1) := by decide +kernel
theorem dX2_next_1 : decode cX2_next 1 = .ok (.aload_n 0, 1) := by decide +kernel
theorem dX2_next_2 : decode cX2_next 2 = .ok (.getfield 35, 3) := by decide +kernel
theorem dX2_next_5 : decode cX2_next 5 = .ok (.putfield 162, 3) := by decide +kernel
theorem dX2_next_8 : decode cX2_next 8 = .ok (.iconst 0, 1) := by decide +kernel
theorem dX2_next_9 : decode cX2_next 9 = .ok (.istore_n 1, 1) := by decide +kernel
theorem dX2_next_10 : decode cX2_next 10 = .ok (.iload_n 1, 1) := by decide +kernel
theorem dX2_next_11 : decode cX2_next 11 = .ok (.sipush 1000, 3) := by decide +kernel
theorem dX2_next_14 : decode cX2_next 14 = .ok (.if_icmp .ge 36, 3) := by decide +kernel
theorem dX2_next_17 : decode cX2_next 17 = .ok (.aload_n 0, 1) := by decide +kernel
theorem dX2_next_18 : decode cX2_next 18 = .ok (.getfield 12, 3) := by decide +kernel
theorem dX2_next_21 : decode cX2_next 21 = .ok (.aload_n 0, 1) := by decide +kernel
theorem dX2_next_22 : decode cX2_next 22 = .ok (.getfield 162, 3) := by decide +kernel
theorem dX2_next_25 : decode cX2_next 25 = .ok (.invokevirtual 171, 3) := by decide +kernel
theorem dX2_next_28 : decode cX2_next 28 = .ok (.invokestatic 179, 3) := by decide +kernel
theorem dX2_next_31 : decode cX2_next 31 = .ok (.ifCond .eq 19, 3) := by decide +kernel
theorem dX2_next_34 : decode cX2_next 34 = .ok (.aload_n 0, 1) := by decide +kernel
theorem dX2_next_35 : decode cX2_next 35 = .ok (.dup, 1) := by decide +kernel
theorem dX2_next_36 : decode cX2_next 36 = .ok (.getfield 162, 3) := by decide +kernel
theorem dX2_next_39 : decode cX2_next 39 = .ok (.iconst 1, 1) := by decide +kernel
theorem dX2_next_40 : decode cX2_next 40 = .ok (.iadd, 1) := by decide +kernel
theorem dX2_next_41 : decode cX2_next 41 = .ok (.putfield 162, 3) := by decide +kernel
theorem dX2_next_44 : decode cX2_next 44 = .ok (.iinc 1 1, 3) := by decide +kernel
theorem dX2_next_47 : decode cX2_next 47 = .ok (.goto (-37), 3) := by decide +kernel
theorem dX2_next_50 : decode cX2_next 50 = .ok (.aload_n 0, 1) := by decide +kernel
theorem dX2_next_51 : decode cX2_next 51 = .ok (.getfield 12, 3) := by decide +kernel
theorem dX2_next_54 : decode cX2_next 54 = .ok (.aload_n 0, 1) := by decide +kernel
theorem dX2_next_55 : decode cX2_next 55 = .ok (.getfield 162, 3) := by decide +kernel
theorem dX2_next_58 : decode cX2_next 58 = .ok (.invokevirtual 171, 3) := by decide +kernel
theorem dX2_next_61 : decode cX2_next 61 = .ok (.istore_n 1, 1) := by decide +kernel
theorem dX2_next_62 : decode cX2_next 62 = .ok (.aload_n 0, 1) := by decide +kernel
theorem dX2_next_63 : decode cX2_next 63 = .ok (.aload_n 0, 1) := by decide +kernel
theorem dX2_next_64 : decode cX2_next 64 = .ok (.getfield 162, 3) := by decide +kernel
theorem dX2_next_67 : decode cX2_next 67 = .ok (.putfield 35, 3) := by decide +kernel
theorem dX2_next_70 : decode cX2_next 70 = .ok (.aload_n 0, 1) := by decide +kernel
theorem dX2_next_71 : decode cX2_next 71 = .ok (.iconst 0, 1) := by decide +kernel
theorem dX2_next_72 : decode cX2_next 72 = .ok (.putfield 105, 3) := by decide +kernel
theorem dX2_next_75 : decode cX2_next 75 = .ok (.iload_n 1, 1) := by decide +kernel
theorem dX2_next_76 : decode cX2_next 76 = .ok (.iconst (-1), 1) := by decide +kernel
theorem dX2_next_77 : decode cX2_next 77 = .ok (.if_icmp .ne 11, 3) := by decide +kernel
theorem dX2_next_80 : decode cX2_next 80 = .ok (.aload_n 0, 1) := by decide +kernel
theorem dX2_next_81 : decode cX2_next 81 = .ok (.iconst 0, 1) := by decide +kernel
theorem dX2_next_82 : decode cX2_next 82 = .ok (.putfield 41, 3) := by decide +kernel
theorem dX2_next_85 : decode cX2_next 85 = .ok (.goto 66, 3) := by decide +kernel
theorem dX2_next_88 : decode cX2_next 88 = .ok (.iload_n 1, 1) := by decide +kernel
theorem dX2_next_89 : decode cX2_next 89 = .ok (.invokestatic 182, 3) := by decide +kernel
theorem dX2_next_92 : decode cX2_next 92 = .ok (.ifCond .eq 15, 3) := by decide +kernel
theorem dX2_next_95 : decode cX2_next 95 = .ok (.aload_n 0, 1) := by decide +kernel
theorem dX2_next_96 : decode cX2_next 96 = .ok (.iconst 1, 1) := by decide +kernel
theorem dX2_next_97 : decode cX2_next 97 = .ok (.putfield 41, 3) := by decide +kernel
theorem dX2_next_100 : decode cX2_next 100 = .ok (.aload_n 0, 1) := by decide +kernel
theorem dX2_next_101 : decode cX2_next 101 = .ok (.invokevirtual 185, 3) := by decide +kernel
theorem dX2_next_104 : decode cX2_next 104 = .ok (.goto 47, 3) := by decide +kernel
theorem dX2_next_107 : decode cX2_next 107 = .ok (.iload_n 1, 1) := by decide +kernel
theorem dX2_next_108 : decode cX2_next 108 = .ok (.invokestatic 188, 3) := by decide +kernel
theorem dX2_next_111 : decode cX2_next 111 = .ok (.ifCond .eq 15, 3) := by decide +kernel
theorem dX2_next_114 : decode cX2_next 114 = .ok (.aload_n 0, 1) := by decide +kernel
theorem dX2_next_115 : decode cX2_next 115 = .ok (.iconst 2, 1) := by decide +kernel
theorem dX2_next_116 : decode cX2_next 116 = .ok (.putfield 41, 3) := by decide +kernel
theorem dX2_next_119 : decode cX2_next 119 = .ok (.aload_n 0, 1) := by decide +kernel
theorem dX2_next_120 : decode cX2_next 120 = .ok (.invokevirtual 191, 3) := by decide +kernel
theorem dX2_next_123 : decode cX2_next 123 = .ok (.goto 28, 3) := by decide +kernel
theorem dX2_next_126 : decode cX2_next 126 = .ok (.aload_n 0, 1) := by decide +kernel
theorem dX2_next_127 : decode cX2_next 127 = .ok (.iload_n 1, 1) := by decide +kernel
theorem dX2_next_128 : decode cX2_next 128 = .ok (.bipush 59, 2) := by decide +kernel
theorem dX2_next_130 : decode cX2_next 130 = .ok (.if_icmp .ne 7, 3) := by decide +kernel
theorem dX2_next_133 : decode cX2_next 133 = .ok (.iconst 3, 1) := by decide +kernel
theorem dX2_next_134 : decode cX2_next 134 = .ok (.goto 4, 3) := by decide +kernel
theorem dX2_next_137 : decode cX2_next 137 = .ok (.iconst 4, 1) := by decide +kernel
theorem dX2_next_138 : decode cX2_next 138 = .ok (.putfield 41, 3) := by decide +kernel
theorem dX2_next_141 : decode cX2_next 141 = .ok (.aload_n 0, 1) := by decide +kernel
theorem dX2_next_142 : decode cX2_next 142 = .ok (.dup, 1) := by decide +kernel
theorem dX2_next_143 : decode cX2_next 143 = .ok (.getfield 35, 3) := by decide +kernel
theorem dX2_next_146 : decode cX2_next 146 = .ok (.iconst 1, 1) := by decide +kernel
theorem dX2_next_147 : decode cX2_next 147 = .ok (.iadd, 1) := by decide +kernel
theorem dX2_next_148 : decode cX2_next 148 = .ok (.putfield 35, 3) := by decide +kernel
theorem dX2_next_151 : decode cX2_next 151 = .ok (.return_, 1) := by decide +kernel
theorem dX2_passDigits_0 : decode cX2_passDigits 0 = .ok (.iconst 0, 1) := by decide +kernel
theorem dX2_passDigits_1 : decode cX2_passDigits 1 = .ok (.istore_n 1, 1) := by decide +kernel
theorem dX2_passDigits_2 : decode cX2_passDigits 2 = .ok (.iload_n 1, 1) := by decide +kernel
theorem dX2_passDigits_3 : decode cX2_passDigits 3 = .ok (.sipush 1000, 3) := by decide +kernel
theorem dX2_passDigits_6 : decode cX2_passDigits 6 = .ok (.if_icmp .ge 67, 3) := by decide +kernel
theorem dX2_passDigits_9 : decode cX2_passDigits 9 = .ok (.aload_n 0, 1) := by decide +kernel
theorem dX2_passDigits_10 : decode cX2_passDigits 10 = .ok (.getfield 12, 3) := by decide +kernel
theorem dX2_passDigits_13 : decode cX2_passDigits 13 = .ok (.aload_n 0, 1) := by decide +kernel
theorem dX2_passDigits_14 : decode cX2_passDigits 14 = .ok (.getfield 35, 3) := by decide +kernel
theorem dX2_passDigits_17 : decode cX2_passDigits 17 = .ok (.invokevirtual 171, 3) := by decide +kernel
theorem dX2_passDigits_20 : decode cX2_passDigits 20 = .ok (.invokestatic 188, 3) := by decide +kernel
theorem dX2_passDigits_23 : decode cX2_passDigits 23 = .ok (.ifCond .eq 50, 3) := by decide +kernel
theorem dX2_passDigits_26 : decode cX2_passDigits 26 = .ok (.aload_n 0, 1) := by decide +kernel
theorem dX2_passDigits_27 : decode cX2_passDigits 27 = .ok (.ldc 194, 2) := by decide +kernel
theorem dX2_passDigits_29 : decode cX2_passDigits 29 = .ok (.aload_n 0, 1) := by decide +kernel
theorem dX2_passDigits_30 : decode cX2_passDigits 30 = .ok (.getfield 105, 3) := by decide +kernel
theorem dX2_passDigits_33 : decode cX2_passDigits 33 = .ok (.bipush 10, 2) := by decide +kernel
theorem dX2_passDigits_35 : decode cX2_passDigits 35 = .ok (.imul, 1) := by decide +kernel
theorem dX2_passDigits_36 : decode cX2_passDigits 36 = .ok (.aload_n 0, 1) := by decide +kernel
theorem dX2_passDigits_37 : decode cX2_passDigits 37 = .ok (.getfield 12, 3) := by decide +kernel
theorem dX2_passDigits_40 : decode cX2_passDigits 40 = .ok (.aload_n 0, 1) := by decide +kernel
theorem dX2_passDigits_41 : decode cX2_passDigits 41 = .ok (.getfield 35, 3) := by decide +kernel
theorem dX2_passDigits_44 : decode cX2_passDigits 44 = .ok (.invokevirtual 171, 3) := by decide +kernel
theorem dX2_passDigits_47 : decode cX2_passDigits 47 = .ok (.iadd, 1) := by decide +kernel
theorem dX2_passDigits_48 : decode cX2_passDigits 48 = .ok (.bipush 48, 2) := by decide +kernel
theorem dX2_passDigits_50 : decode cX2_passDigits 50 = .ok (.isub, 1) := by decide +kernel
theorem dX2_passDigits_51 : decode cX2_passDigits 51 = .ok (.invokestatic 195, 3) := by decide +kernel
theorem dX2_passDigits_54 : decode cX2_passDigits 54 = .ok (.putfield 105, 3) := by decide +kernel
theorem dX2_passDigits_57 : decode cX2_passDigits 57 = .ok (.aload_n 0, 1) := by decide +kernel
theorem dX2_passDigits_58 : decode cX2_passDigits 58 = .ok (.dup, 1) := by decide +kernel
theorem dX2_passDigits_59 : decode cX2_passDigits 59 = .ok (.getfield 35, 3) := by decide +kernel
theorem dX2_passDigits_62 : decode cX2_passDigits 62 = .ok (.iconst 1, 1) := by decide +kernel
theorem dX2_passDigits_63 : decode cX2_passDigits 63 = .ok (.iadd, 1) := by decide +kernel
theorem dX2_passDigits_64 : decode cX2_passDigits 64 = .ok (.putfield 35, 3) := by decide +kernel
theorem dX2_passDigits_67 : decode cX2_passDigits 67 = .ok (.iinc 1 1, 3) := by decide +kernel
theorem dX2_passDigits_70 : decode cX2_passDigits 70 = .ok (.goto (-68), 3) := by decide +kernel
theorem dX2_passDigits_73 : decode cX2_passDigits 73 = .ok (.return_, 1) := by decide +kernel
theorem dX2_passLetters_0 : decode cX2_passLetters 0 = .ok (.iconst 0, 1) := by decide +kernel
theorem dX2_passLetters_1 : decode cX2_passLetters 1 = .ok (.istore_n 1, 1) := by decide +kernel
theorem dX2_passLetters_2 : decode cX2_passLetters 2 = .ok (.iload_n 1, 1) := by decide +kernel
theorem dX2_passLetters_3 : decode cX2_passLetters 3 = .ok (.sipush 1000, 3) := by decide +kernel
theorem dX2_passLetters_6 : decode cX2_passLetters 6 = .ok (.if_icmp .ge 36, 3) := by decide +kernel
theorem dX2_passLetters_9 : decode cX2_passLetters 9 = .ok (.aload_n 0, 1) := by decide +kernel
theorem dX2_passLetters_10 : decode cX2_passLetters 10 = .ok (.getfield 12, 3) := by decide +kernel
theorem dX2_passLetters_13 : decode cX2_passLetters 13 = .ok (.aload_n 0, 1) := by decide +kernel
theorem dX2_passLetters_14 : decode cX2_passLetters 14 = .ok (.getfield 35, 3) := by decide +kernel
theorem dX2_passLetters_17 : decode cX2_passLetters 17 = .ok (.invokevirtual 171, 3) := by decide +kernel
theorem dX2_passLetters_20 : decode cX2_passLetters 20 = .ok (.invokestatic 182, 3) := by decide +kernel
theorem dX2_passLetters_23 : decode cX2_passLetters 23 = .ok (.ifCond .eq 19, 3) := by decide +kernel
theorem dX2_passLetters_26 : decode cX2_passLetters 26 = .ok (.aload_n 0, 1) := by decide +kernel
theorem dX2_passLetters_27 : decode cX2_passLetters 27 = .ok (.dup, 1) := by decide +kernel
theorem dX2_passLetters_28 : decode cX2_passLetters 28 = .ok (.getfield 35, 3) := by decide +kernel
theorem dX2_passLetters_31 : decode cX2_passLetters 31 = .ok (.iconst 1, 1) := by decide +kernel
theorem dX2_passLetters_32 : decode cX2_passLetters 32 = .ok (.iadd, 1) := by decide +kernel
theorem dX2_passLetters_33 : decode cX2_passLetters 33 = .ok (.putfield 35, 3) := by decide +kernel
theorem dX2_passLetters_36 : decode cX2_passLetters 36 = .ok (.iinc 1 1, 3) := by decide +kernel
theorem dX2_passLetters_39 : decode cX2_passLetters 39 = .ok (.goto (-37), 3) := by decide +kernel
theorem dX2_passLetters_42 : decode cX2_passLetters 42 = .ok (.return_, 1) := by decide +kernel
theorem dX2_passNumber_0 : decode cX2_passNumber 0 = .ok (.aload_n 0, 1) := by decide +kernel
theorem dX2_passNumber_1 : decode cX2_passNumber 1 = .ok (.getfield 105, 3) := by decide +kernel
theorem dX2_passNumber_4 : decode cX2_passNumber 4 = .ok (.istore_n 3, 1) := by decide +kernel
theorem dX2_passNumber_5 : decode cX2_passNumber 5 = .ok (.aload_n 0, 1) := by decide +kernel
theorem dX2_passNumber_6 : decode cX2_passNumber 6 = .ok (.getfield 41, 3) := by decide +kernel
theorem dX2_passNumber_9 : decode cX2_passNumber 9 = .ok (.iconst 2, 1) := by decide +kernel
theorem dX2_passNumber_10 : decode cX2_passNumber 10 = .ok (.if_icmp .eq 11, 3) := by decide +kernel
theorem dX2_passNumber_13 : decode cX2_passNumber 13 = .ok (.aload_n 0, 1) := by decide +kernel
theorem dX2_passNumber_14 : decode cX2_passNumber 14 = .ok (.iconst 1, 1) := by decide +kernel
theorem dX2_passNumber_15 : decode cX2_passNumber 15 = .ok (.invokevirtual 77, 3) := by decide +kernel
theorem dX2_passNumber_18 : decode cX2_passNumber 18 = .ok (.goto 18, 3) := by decide +kernel
theorem dX2_passNumber_21 : decode cX2_passNumber 21 = .ok (.iload_n 3, 1) := by decide +kernel
theorem dX2_passNumber_22 : decode cX2_passNumber 22 = .ok (.iload_n 1, 1) := by decide +kernel
theorem dX2_passNumber_23 : decode cX2_passNumber 23 = .ok (.if_icmp .lt 8, 3) := by decide +kernel
theorem dX2_passNumber_26 : decode cX2_passNumber 26 = .ok (.iload_n 3, 1) := by decide +kernel
theorem dX2_passNumber_27 : decode cX2_passNumber 27 = .ok (.iload_n 2, 1) := by decide +kernel
theorem dX2_passNumber_28 : decode cX2_passNumber 28 = .ok (.if_icmp .le 8, 3) := by decide +kernel
theorem dX2_passNumber_31 : decode cX2_passNumber 31 = .ok (.aload_n 0, 1) := by decide +kernel
theorem dX2_passNumber_32 : decode cX2_passNumber 32 = .ok (.iconst 2, 1) := by decide +kernel
theorem dX2_passNumber_33 : decode cX2_passNumber 33 = .ok (.invokevirtual 77, 3) := by decide +kernel
theorem dX2_passNumber_36 : decode cX2_passNumber 36 = .ok (.aload_n 0, 1) := by decide +kernel
theorem dX2_passNumber_37 : decode cX2_passNumber 37 = .ok (.getfield 32, 3) := by decide +kernel
theorem dX2_passNumber_40 : decode cX2_passNumber 40 = .ok (.ifCond .ne 7, 3) := by decide +kernel
theorem dX2_passNumber_43 : decode cX2_passNumber 43 = .ok (.aload_n 0, 1) := by decide +kernel
theorem dX2_passNumber_44 : decode cX2_passNumber 44 = .ok (.invokevirtual 38, 3) := by decide +kernel
theorem dX2_passNumber_47 : decode cX2_passNumber 47 = .ok (.iload_n 3, 1) := by decide +kernel
theorem dX2_passNumber_48 : decode cX2_passNumber 48 = .ok (.ireturn, 1) := by decide +kernel
theorem dX2_passWord_0 : decode cX2_passWord 0 = .ok (.aload_n 0, 1) := by decide +kernel
theorem dX2_passWord_1 : decode cX2_passWord 1 = .ok (.aload_n 1, 1) := by decide +kernel
theorem dX2_passWord_2 : decode cX2_passWord 2 = .ok (.invokevirtual 55, 3) := by decide +kernel
theorem dX2_passWord_5 : decode cX2_passWord 5 = .ok (.ifCond .ne 8, 3) := by decide +kernel
theorem dX2_passWord_8 : decode cX2_passWord 8 = .ok (.aload_n 0, 1) := by decide +kernel
theorem dX2_passWord_9 : decode cX2_passWord 9 = .ok (.iconst 1, 1) := by decide +kernel
theorem dX2_passWord_10 : decode cX2_passWord 10 = .ok (.invokevirtual 77, 3) := by decide +kernel
theorem dX2_passWord_13 : decode cX2_passWord 13 = .ok (.aload_n 0, 1) := by decide +kernel
theorem dX2_passWord_14 : decode cX2_passWord 14 = .ok (.getfield 32, 3) := by decide +kernel
theorem dX2_passWord_17 : decode cX2_passWord 17 = .ok (.ifCond .ne 7, 3) := by decide +kernel
theorem dX2_passWord_20 : decode cX2_passWord 20 = .ok (.aload_n 0, 1) := by decide +kernel
theorem dX2_passWord_21 : decode cX2_passWord 21 = .ok (.invokevirtual 38, 3) := by decide +kernel
theorem dX2_passWord_24 : decode cX2_passWord 24 = .ok (.return_, 1) := by decide +kernel
theorem dX2_readAll_0 : decode cX2_readAll 0 = .ok (.aload_n 0, 1) := by decide +kernel
theorem dX2_readAll_1 : decode cX2_readAll 1 = .ok (.getfield 21, 3) := by decide +kernel
theorem dX2_readAll_4 : decode cX2_readAll 4 = .ok (.invokevirtual 29, 3) := by decide +kernel
theorem dX2_readAll_7 : decode cX2_readAll 7 = .ok (.aload_n 0, 1) := by decide +kernel
theorem dX2_readAll_8 : decode cX2_readAll 8 = .ok (.iconst 0, 1) := by decide +kernel
theorem dX2_readAll_9 : decode cX2_readAll 9 = .ok (.putfield 32, 3) := by decide +kernel
theorem dX2_readAll_12 : decode cX2_readAll 12 = .ok (.aload_n 0, 1) := by decide +kernel
theorem dX2_readAll_13 : decode cX2_readAll 13 = .ok (.iconst (-1), 1) := by decide +kernel
theorem dX2_readAll_14 : decode cX2_readAll 14 = .ok (.putfield 25, 3) := by decide +kernel
theorem dX2_readAll_17 : decode cX2_readAll 17 = .ok (.aload_n 0, 1) := by decide +kernel
theorem dX2_readAll_18 : decode cX2_readAll 18 = .ok (.iconst 0, 1) := by decide +kernel
theorem dX2_readAll_19 : decode cX2_readAll 19 = .ok (.putfield 35, 3) := by decide +kernel
theorem dX2_readAll_22 : decode cX2_readAll 22 = .ok (.aload_n 0, 1) := by decide +kernel
theorem dX2_readAll_23 : decode cX2_readAll 23 = .ok (.invokevirtual 38, 3) := by decide +kernel
theorem dX2_readAll_26 : decode cX2_readAll 26 = .ok (.iconst 0, 1) := by decide +kernel
theorem dX2_readAll_27 : decode cX2_readAll 27 = .ok (.istore_n 1, 1) := by decide +kernel
theorem dX2_readAll_28 : decode cX2_readAll 28 = .ok (.iload_n 1, 1) := by decide +kernel
theorem dX2_readAll_29 : decode cX2_readAll 29 = .ok (.sipush 1000, 3) := by decide +kernel
theorem dX2_readAll_32 : decode cX2_readAll 32 = .ok (.if_icmp .ge 27, 3) := by decide +kernel
theorem dX2_readAll_35 : decode cX2_readAll 35 = .ok (.aload_n 0, 1) := by decide +kernel
theorem dX2_readAll_36 : decode cX2_readAll 36 = .ok (.getfield 32, 3) := by decide +kernel
theorem dX2_readAll_39 : decode cX2_readAll 39 = .ok (.ifCond .ne 20, 3) := by decide +kernel
theorem dX2_readAll_42 : decode cX2_readAll 42 = .ok (.aload_n 0, 1) := by decide +kernel
theorem dX2_readAll_43 : decode cX2_readAll 43 = .ok (.getfield 41, 3) := by decide +kernel
theorem dX2_readAll_46 : decode cX2_readAll 46 = .ok (.ifCond .eq 13, 3) := by decide +kernel
theorem dX2_readAll_49 : decode cX2_readAll 49 = .ok (.aload_n 0, 1) := by decide +kernel
theorem dX2_readAll_50 : decode cX2_readAll 50 = .ok (.invokevirtual 44, 3) := by decide +kernel
theorem dX2_readAll_53 : decode cX2_readAll 53 = .ok (.iinc 1 1, 3) := by decide +kernel
theorem dX2_readAll_56 : decode cX2_readAll 56 = .ok (.goto (-28), 3) := by decide +kernel
theorem dX2_readAll_59 : decode cX2_readAll 59 = .ok (.aload_n 0, 1) := by decide +kernel
theorem dX2_readAll_60 : decode cX2_readAll 60 = .ok (.getfield 32, 3) := by decide +kernel
theorem dX2_readAll_63 : decode cX2_readAll 63 = .ok (.ifCond .ne 7, 3) := by decide +kernel
theorem dX2_readAll_66 : decode cX2_readAll 66 = .ok (.iconst 1, 1) := by decide +kernel
theorem dX2_readAll_67 : decode cX2_readAll 67 = .ok (.goto 4, 3) := by decide +kernel
theorem dX2_readAll_70 : decode cX2_readAll 70 = .ok (.iconst 0, 1) := by decide +kernel
theorem dX2_readAll_71 : decode cX2_readAll 71 = .ok (.ireturn, 1) := by decide +kernel
theorem dX2_readCart_0 : decode cX2_readCart 0 = .ok (.aload_n 0, 1) := by decide +kernel
theorem dX2_readCart_1 : decode cX2_readCart 1 = .ok (.getfield 21, 3) := by decide +kernel
theorem dX2_readCart_4 : decode cX2_readCart 4 = .ok (.getfield 133, 3) := by decide +kernel
theorem dX2_readCart_7 : decode cX2_readCart 7 = .ok (.iconst 3, 1) := by decide +kernel
theorem dX2_readCart_8 : decode cX2_readCart 8 = .ok (.if_icmp .lt 8, 3) := by decide +kernel
theorem dX2_readCart_11 : decode cX2_readCart 11 = .ok (.aload_n 0, 1) := by decide +kernel
theorem dX2_readCart_12 : decode cX2_readCart 12 = .ok (.iconst 3, 1) := by decide +kernel
theorem dX2_readCart_13 : decode cX2_readCart 13 = .ok (.invokevirtual 77, 3) := by decide +kernel
theorem dX2_readCart_16 : decode cX2_readCart 16 = .ok (.aload_n 0, 1) := by decide +kernel
theorem dX2_readCart_17 : decode cX2_readCart 17 = .ok (.ldc 67, 2) := by decide +kernel
theorem dX2_readCart_19 : decode cX2_readCart 19 = .ok (.invokevirtual 83, 3) := by decide +kernel
theorem dX2_readCart_22 : decode cX2_readCart 22 = .ok (.aload_n 0, 1) := by decide +kernel
theorem dX2_readCart_23 : decode cX2_readCart 23 = .ok (.ldc 136, 2) := by decide +kernel
theorem dX2_readCart_25 : decode cX2_readCart 25 = .ok (.invokevirtual 83, 3) := by decide +kernel
theorem dX2_readCart_28 : decode cX2_readCart 28 = .ok (.aload_n 0, 1) := by decide +kernel
theorem dX2_readCart_29 : decode cX2_readCart 29 = .ok (.iconst 0, 1) := by decide +kernel
theorem dX2_readCart_30 : decode cX2_readCart 30 = .ok (.aload_n 0, 1) := by decide +kernel
theorem dX2_readCart_31 : decode cX2_readCart 31 = .ok (.getfield 21, 3) := by decide +kernel
theorem dX2_readCart_34 : decode cX2_readCart 34 = .ok (.getfield 95, 3) := by decide +kernel
theorem dX2_readCart_37 : decode cX2_readCart 37 = .ok (.iconst 1, 1) := by decide +kernel
theorem dX2_readCart_38 : decode cX2_readCart 38 = .ok (.isub, 1) := by decide +kernel
theorem dX2_readCart_39 : decode cX2_readCart 39 = .ok (.invokevirtual 89, 3) := by decide +kernel
theorem dX2_readCart_42 : decode cX2_readCart 42 = .ok (.istore_n 1, 1) := by decide +kernel
theorem dX2_readCart_43 : decode cX2_readCart 43 = .ok (.aload_n 0, 1) := by decide +kernel
theorem dX2_readCart_44 : decode cX2_readCart 44 = .ok (.ldc 138, 2) := by decide +kernel
theorem dX2_readCart_46 : decode cX2_readCart 46 = .ok (.invokevirtual 83, 3) := by decide +kernel
theorem dX2_readCart_49 : decode cX2_readCart 49 = .ok (.aload_n 0, 1) := by decide +kernel
theorem dX2_readCart_50 : decode cX2_readCart 50 = .ok (.getfield 41, 3) := by decide +kernel
theorem dX2_readCart_53 : decode cX2_readCart 53 = .ok (.iconst 2, 1) := by decide +kernel
theorem dX2_readCart_54 : decode cX2_readCart 54 = .ok (.if_icmp .eq 8, 3) := by decide +kernel
theorem dX2_readCart_57 : decode cX2_readCart 57 = .ok (.aload_n 0, 1) := by decide +kernel
theorem dX2_readCart_58 : decode cX2_readCart 58 = .ok (.iconst 1, 1) := by decide +kernel
theorem dX2_readCart_59 : decode cX2_readCart 59 = .ok (.invokevirtual 77, 3) := by decide +kernel
theorem dX2_readCart_62 : decode cX2_readCart 62 = .ok (.aload_n 0, 1) := by decide +kernel
theorem dX2_readCart_63 : decode cX2_readCart 63 = .ok (.getfield 32, 3) := by decide +kernel
theorem dX2_readCart_66 : decode cX2_readCart 66 = .ok (.ifCond .ne 11, 3) := by decide +kernel
theorem dX2_readCart_69 : decode cX2_readCart 69 = .ok (.aload_n 0, 1) := by decide +kernel
theorem dX2_readCart_70 : decode cX2_readCart 70 = .ok (.getfield 21, 3) := by decide +kernel
theorem dX2_readCart_73 : decode cX2_readCart 73 = .ok (.iload_n 1, 1) := by decide +kernel
theorem dX2_readCart_74 : decode cX2_readCart 74 = .ok (.invokevirtual 140, 3) := by decide +kernel
theorem dX2_readCart_77 : decode cX2_readCart 77 = .ok (.iconst 0, 1) := by decide +kernel
theorem dX2_readCart_78 : decode cX2_readCart 78 = .ok (.istore_n 2, 1) := by decide +kernel
theorem dX2_readCart_79 : decode cX2_readCart 79 = .ok (.iload_n 2, 1) := by decide +kernel
theorem dX2_readCart_80 : decode cX2_readCart 80 = .ok (.sipush 1000, 3) := by decide +kernel
theorem dX2_readCart_83 : decode cX2_readCart 83 = .ok (.if_icmp .ge 29, 3) := by decide +kernel
theorem dX2_readCart_86 : decode cX2_readCart 86 = .ok (.aload_n 0, 1) := by decide +kernel
theorem dX2_readCart_87 : decode cX2_readCart 87 = .ok (.getfield 32, 3) := by decide +kernel
theorem dX2_readCart_90 : decode cX2_readCart 90 = .ok (.ifCond .ne 22, 3) := by decide +kernel
theorem dX2_readCart_93 : decode cX2_readCart 93 = .ok (.aload_n 0, 1) := by decide +kernel
theorem dX2_readCart_94 : decode cX2_readCart 94 = .ok (.getfield 41, 3) := by decide +kernel
theorem dX2_readCart_97 : decode cX2_readCart 97 = .ok (.iconst 2, 1) := by decide +kernel
theorem dX2_readCart_98 : decode cX2_readCart 98 = .ok (.if_icmp .ne 14, 3) := by decide +kernel
theorem dX2_readCart_101 : decode cX2_readCart 101 = .ok (.aload_n 0, 1) := by decide +kernel
theorem dX2_readCart_102 : decode cX2_readCart 102 = .ok (.iload_n 2, 1) := by decide +kernel
theorem dX2_readCart_103 : decode cX2_readCart 103 = .ok (.invokevirtual 143, 3) := by decide +kernel
theorem dX2_readCart_106 : decode cX2_readCart 106 = .ok (.iinc 2 1, 3) := by decide +kernel
theorem dX2_readCart_109 : decode cX2_readCart 109 = .ok (.goto (-30), 3) := by decide +kernel
theorem dX2_readCart_112 : decode cX2_readCart 112 = .ok (.return_, 1) := by decide +kernel
theorem dX2_readErrand_0 : decode cX2_readErrand 0 = .ok (.aload_n 0, 1) := by decide +kernel
theorem dX2_readErrand_1 : decode cX2_readErrand 1 = .ok (.getfield 21, 3) := by decide +kernel
theorem dX2_readErrand_4 : decode cX2_readErrand 4 = .ok (.getfield 154, 3) := by decide +kernel
theorem dX2_readErrand_7 : decode cX2_readErrand 7 = .ok (.bipush 6, 2) := by decide +kernel
theorem dX2_readErrand_9 : decode cX2_readErrand 9 = .ok (.if_icmp .lt 8, 3) := by decide +kernel
theorem dX2_readErrand_12 : decode cX2_readErrand 12 = .ok (.aload_n 0, 1) := by decide +kernel
theorem dX2_readErrand_13 : decode cX2_readErrand 13 = .ok (.iconst 3, 1) := by decide +kernel
theorem dX2_readErrand_14 : decode cX2_readErrand 14 = .ok (.invokevirtual 77, 3) := by decide +kernel
theorem dX2_readErrand_17 : decode cX2_readErrand 17 = .ok (.aload_n 0, 1) := by decide +kernel
theorem dX2_readErrand_18 : decode cX2_readErrand 18 = .ok (.ldc 72, 2) := by decide +kernel
theorem dX2_readErrand_20 : decode cX2_readErrand 20 = .ok (.invokevirtual 83, 3) := by decide +kernel
theorem dX2_readErrand_23 : decode cX2_readErrand 23 = .ok (.aload_n 0, 1) := by decide +kernel
theorem dX2_readErrand_24 : decode cX2_readErrand 24 = .ok (.iconst 0, 1) := by decide +kernel
theorem dX2_readErrand_25 : decode cX2_readErrand 25 = .ok (.aload_n 0, 1) := by decide +kernel
theorem dX2_readErrand_26 : decode cX2_readErrand 26 = .ok (.getfield 21, 3) := by decide +kernel
theorem dX2_readErrand_29 : decode cX2_readErrand 29 = .ok (.getfield 133, 3) := by decide +kernel
theorem dX2_readErrand_32 : decode cX2_readErrand 32 = .ok (.iconst 1, 1) := by decide +kernel
theorem dX2_readErrand_33 : decode cX2_readErrand 33 = .ok (.isub, 1) := by decide +kernel
theorem dX2_readErrand_34 : decode cX2_readErrand 34 = .ok (.invokevirtual 89, 3) := by decide +kernel
theorem dX2_readErrand_37 : decode cX2_readErrand 37 = .ok (.istore_n 1, 1) := by decide +kernel
theorem dX2_readErrand_38 : decode cX2_readErrand 38 = .ok (.aload_n 0, 1) := by decide +kernel
theorem dX2_readErrand_39 : decode cX2_readErrand 39 = .ok (.ldc 103, 2) := by decide +kernel
theorem dX2_readErrand_41 : decode cX2_readErrand 41 = .ok (.invokevirtual 83, 3) := by decide +kernel
theorem dX2_readErrand_44 : decode cX2_readErrand 44 = .ok (.aload_n 0, 1) := by decide +kernel
theorem dX2_readErrand_45 : decode cX2_readErrand 45 = .ok (.iconst 0, 1) := by decide +kernel
theorem dX2_readErrand_46 : decode cX2_readErrand 46 = .ok (.aload_n 0, 1) := by decide +kernel
theorem dX2_readErrand_47 : decode cX2_readErrand 47 = .ok (.getfield 21, 3) := by decide +kernel
theorem dX2_readErrand_50 : decode cX2_readErrand 50 = .ok (.getfield 95, 3) := by decide +kernel
theorem dX2_readErrand_53 : decode cX2_readErrand 53 = .ok (.iconst 1, 1) := by decide +kernel
theorem dX2_readErrand_54 : decode cX2_readErrand 54 = .ok (.isub, 1) := by decide +kernel
theorem dX2_readErrand_55 : decode cX2_readErrand 55 = .ok (.invokevirtual 89, 3) := by decide +kernel
theorem dX2_readErrand_58 : decode cX2_readErrand 58 = .ok (.istore_n 2, 1) := by decide +kernel
theorem dX2_readErrand_59 : decode cX2_readErrand 59 = .ok (.aload_n 0, 1) := by decide +kernel
theorem dX2_readErrand_60 : decode cX2_readErrand 60 = .ok (.ldc 157, 2) := by decide +kernel
theorem dX2_readErrand_62 : decode cX2_readErrand 62 = .ok (.invokevirtual 83, 3) := by decide +kernel
theorem dX2_readErrand_65 : decode cX2_readErrand 65 = .ok (.aload_n 0, 1) := by decide +kernel
theorem dX2_readErrand_66 : decode cX2_readErrand 66 = .ok (.iconst 1, 1) := by decide +kernel
theorem dX2_readErrand_67 : decode cX2_readErrand 67 = .ok (.sipush 200, 3) := by decide +kernel
theorem dX2_readErrand_70 : decode cX2_readErrand 70 = .ok (.invokevirtual 89, 3) := by decide +kernel
theorem dX2_readErrand_73 : decode cX2_readErrand 73 = .ok (.istore_n 3, 1) := by decide +kernel
theorem dX2_readErrand_74 : decode cX2_readErrand 74 = .ok (.aload_n 0, 1) := by decide +kernel
theorem dX2_readErrand_75 : decode cX2_readErrand 75 = .ok (.getfield 32, 3) := by decide +kernel
theorem dX2_readErrand_78 : decode cX2_readErrand 78 = .ok (.ifCond .ne 13, 3) := by decide +kernel
theorem dX2_readErrand_81 : decode cX2_readErrand 81 = .ok (.aload_n 0, 1) := by decide +kernel
theorem dX2_readErrand_82 : decode cX2_readErrand 82 = .ok (.getfield 21, 3) := by decide +kernel
theorem dX2_readErrand_85 : decode cX2_readErrand 85 = .ok (.iload_n 1, 1) := by decide +kernel
theorem dX2_readErrand_86 : decode cX2_readErrand 86 = .ok (.iload_n 2, 1) := by decide +kernel
theorem dX2_readErrand_87 : decode cX2_readErrand 87 = .ok (.iload_n 3, 1) := by decide +kernel
theorem dX2_readErrand_88 : decode cX2_readErrand 88 = .ok (.invokevirtual 159, 3) := by decide +kernel
theorem dX2_readErrand_91 : decode cX2_readErrand 91 = .ok (.return_, 1) := by decide +kernel
theorem dX2_readLand_0 : decode cX2_readLand 0 = .ok (.aload_n 0, 1) := by decide +kernel
theorem dX2_readLand_1 : decode cX2_readLand 1 = .ok (.ldc 81, 2) := by decide +kernel
theorem dX2_readLand_3 : decode cX2_readLand 3 = .ok (.invokevirtual 83, 3) := by decide +kernel
theorem dX2_readLand_6 : decode cX2_readLand 6 = .ok (.aload_n 0, 1) := by decide +kernel
theorem dX2_readLand_7 : decode cX2_readLand 7 = .ok (.ldc 87, 2) := by decide +kernel
theorem dX2_readLand_9 : decode cX2_readLand 9 = .ok (.invokevirtual 83, 3) := by decide +kernel
theorem dX2_readLand_12 : decode cX2_readLand 12 = .ok (.aload_n 0, 1) := by decide +kernel
theorem dX2_readLand_13 : decode cX2_readLand 13 = .ok (.iconst 2, 1) := by decide +kernel
theorem dX2_readLand_14 : decode cX2_readLand 14 = .ok (.bipush 6, 2) := by decide +kernel
theorem dX2_readLand_16 : decode cX2_readLand 16 = .ok (.invokevirtual 89, 3) := by decide +kernel
theorem dX2_readLand_19 : decode cX2_readLand 19 = .ok (.istore_n 1, 1) := by decide +kernel
theorem dX2_readLand_20 : decode cX2_readLand 20 = .ok (.aload_n 0, 1) := by decide +kernel
theorem dX2_readLand_21 : decode cX2_readLand 21 = .ok (.ldc 93, 2) := by decide +kernel
theorem dX2_readLand_23 : decode cX2_readLand 23 = .ok (.invokevirtual 83, 3) := by decide +kernel
theorem dX2_readLand_26 : decode cX2_readLand 26 = .ok (.aload_n 0, 1) := by decide +kernel
theorem dX2_readLand_27 : decode cX2_readLand 27 = .ok (.iconst 0, 1) := by decide +kernel
theorem dX2_readLand_28 : decode cX2_readLand 28 = .ok (.bipush 40, 2) := by decide +kernel
theorem dX2_readLand_30 : decode cX2_readLand 30 = .ok (.invokevirtual 89, 3) := by decide +kernel
theorem dX2_readLand_33 : decode cX2_readLand 33 = .ok (.istore_n 2, 1) := by decide +kernel
theorem dX2_readLand_34 : decode cX2_readLand 34 = .ok (.aload_n 0, 1) := by decide +kernel
theorem dX2_readLand_35 : decode cX2_readLand 35 = .ok (.getfield 32, 3) := by decide +kernel
theorem dX2_readLand_38 : decode cX2_readLand 38 = .ok (.ifCond .ne 19, 3) := by decide +kernel
theorem dX2_readLand_41 : decode cX2_readLand 41 = .ok (.aload_n 0, 1) := by decide +kernel
theorem dX2_readLand_42 : decode cX2_readLand 42 = .ok (.getfield 21, 3) := by decide +kernel
theorem dX2_readLand_45 : decode cX2_readLand 45 = .ok (.iload_n 1, 1) := by decide +kernel
theorem dX2_readLand_46 : decode cX2_readLand 46 = .ok (.putfield 95, 3) := by decide +kernel
theorem dX2_readLand_49 : decode cX2_readLand 49 = .ok (.aload_n 0, 1) := by decide +kernel
theorem dX2_readLand_50 : decode cX2_readLand 50 = .ok (.getfield 21, 3) := by decide +kernel
theorem dX2_readLand_53 : decode cX2_readLand 53 = .ok (.iload_n 2, 1) := by decide +kernel
theorem dX2_readLand_54 : decode cX2_readLand 54 = .ok (.putfield 97, 3) := by decide +kernel
theorem dX2_readLand_57 : decode cX2_readLand 57 = .ok (.return_, 1) := by decide +kernel
theorem dX2_readLine_0 : decode cX2_readLine 0 = .ok (.aload_n 0, 1) := by decide +kernel
theorem dX2_readLine_1 : decode cX2_readLine 1 = .ok (.getfield 21, 3) := by decide +kernel
theorem dX2_readLine_4 : decode cX2_readLine 4 = .ok (.getfield 47, 3) := by decide +kernel
theorem dX2_readLine_7 : decode cX2_readLine 7 = .ok (.ifCond .ne 10, 3) := by decide +kernel
theorem dX2_readLine_10 : decode cX2_readLine 10 = .ok (.aload_n 0, 1) := by decide +kernel
theorem dX2_readLine_11 : decode cX2_readLine 11 = .ok (.invokevirtual 50, 3) := by decide +kernel
theorem dX2_readLine_14 : decode cX2_readLine 14 = .ok (.goto 72, 3) := by decide +kernel
theorem dX2_readLine_17 : decode cX2_readLine 17 = .ok (.aload_n 0, 1) := by decide +kernel
theorem dX2_readLine_18 : decode cX2_readLine 18 = .ok (.ldc 53, 2) := by decide +kernel
theorem dX2_readLine_20 : decode cX2_readLine 20 = .ok (.invokevirtual 55, 3) := by decide +kernel
theorem dX2_readLine_23 : decode cX2_readLine 23 = .ok (.ifCond .eq 10, 3) := by decide +kernel
theorem dX2_readLine_26 : decode cX2_readLine 26 = .ok (.aload_n 0, 1) := by decide +kernel
theorem dX2_readLine_27 : decode cX2_readLine 27 = .ok (.invokevirtual 59, 3) := by decide +kernel
theorem dX2_readLine_30 : decode cX2_readLine 30 = .ok (.goto 56, 3) := by decide +kernel
theorem dX2_readLine_33 : decode cX2_readLine 33 = .ok (.aload_n 0, 1) := by decide +kernel
theorem dX2_readLine_34 : decode cX2_readLine 34 = .ok (.ldc 62, 2) := by decide +kernel
theorem dX2_readLine_36 : decode cX2_readLine 36 = .ok (.invokevirtual 55, 3) := by decide +kernel
theorem dX2_readLine_39 : decode cX2_readLine 39 = .ok (.ifCond .eq 10, 3) := by decide +kernel
theorem dX2_readLine_42 : decode cX2_readLine 42 = .ok (.aload_n 0, 1) := by decide +kernel
theorem dX2_readLine_43 : decode cX2_readLine 43 = .ok (.invokevirtual 64, 3) := by decide +kernel
theorem dX2_readLine_46 : decode cX2_readLine 46 = .ok (.goto 40, 3) := by decide +kernel
theorem dX2_readLine_49 : decode cX2_readLine 49 = .ok (.aload_n 0, 1) := by decide +kernel
theorem dX2_readLine_50 : decode cX2_readLine 50 = .ok (.ldc 67, 2) := by decide +kernel
theorem dX2_readLine_52 : decode cX2_readLine 52 = .ok (.invokevirtual 55, 3) := by decide +kernel
theorem dX2_readLine_55 : decode cX2_readLine 55 = .ok (.ifCond .eq 10, 3) := by decide +kernel
theorem dX2_readLine_58 : decode cX2_readLine 58 = .ok (.aload_n 0, 1) := by decide +kernel
theorem dX2_readLine_59 : decode cX2_readLine 59 = .ok (.invokevirtual 69, 3) := by decide +kernel
theorem dX2_readLine_62 : decode cX2_readLine 62 = .ok (.goto 24, 3) := by decide +kernel
theorem dX2_readLine_65 : decode cX2_readLine 65 = .ok (.aload_n 0, 1) := by decide +kernel
theorem dX2_readLine_66 : decode cX2_readLine 66 = .ok (.ldc 72, 2) := by decide +kernel
theorem dX2_readLine_68 : decode cX2_readLine 68 = .ok (.invokevirtual 55, 3) := by decide +kernel
theorem dX2_readLine_71 : decode cX2_readLine 71 = .ok (.ifCond .eq 10, 3) := by decide +kernel
theorem dX2_readLine_74 : decode cX2_readLine 74 = .ok (.aload_n 0, 1) := by decide +kernel
theorem dX2_readLine_75 : decode cX2_readLine 75 = .ok (.invokevirtual 74, 3) := by decide +kernel
theorem dX2_readLine_78 : decode cX2_readLine 78 = .ok (.goto 8, 3) := by decide +kernel
theorem dX2_readLine_81 : decode cX2_readLine 81 = .ok (.aload_n 0, 1) := by decide +kernel
theorem dX2_readLine_82 : decode cX2_readLine 82 = .ok (.iconst 1, 1) := by decide +kernel
theorem dX2_readLine_83 : decode cX2_readLine 83 = .ok (.invokevirtual 77, 3) := by decide +kernel
theorem dX2_readLine_86 : decode cX2_readLine 86 = .ok (.aload_n 0, 1) := by decide +kernel
theorem dX2_readLine_87 : decode cX2_readLine 87 = .ok (.getfield 32, 3) := by decide +kernel
theorem dX2_readLine_90 : decode cX2_readLine 90 = .ok (.ifCond .ne 16, 3) := by decide +kernel
theorem dX2_readLine_93 : decode cX2_readLine 93 = .ok (.aload_n 0, 1) := by decide +kernel
theorem dX2_readLine_94 : decode cX2_readLine 94 = .ok (.getfield 41, 3) := by decide +kernel
theorem dX2_readLine_97 : decode cX2_readLine 97 = .ok (.iconst 3, 1) := by decide +kernel
theorem dX2_readLine_98 : decode cX2_readLine 98 = .ok (.if_icmp .eq 8, 3) := by decide +kernel
theorem dX2_readLine_101 : decode cX2_readLine 101 = .ok (.aload_n 0, 1) := by decide +kernel
theorem dX2_readLine_102 : decode cX2_readLine 102 = .ok (.iconst 1, 1) := by decide +kernel
theorem dX2_readLine_103 : decode cX2_readLine 103 = .ok (.invokevirtual 77, 3) := by decide +kernel
theorem dX2_readLine_106 : decode cX2_readLine 106 = .ok (.aload_n 0, 1) := by decide +kernel
theorem dX2_readLine_107 : decode cX2_readLine 107 = .ok (.getfield 32, 3) := by decide +kernel
theorem dX2_readLine_110 : decode cX2_readLine 110 = .ok (.ifCond .ne 20, 3) := by decide +kernel
theorem dX2_readLine_113 : decode cX2_readLine 113 = .ok (.aload_n 0, 1) := by decide +kernel
theorem dX2_readLine_114 : decode cX2_readLine 114 = .ok (.getfield 21, 3) := by decide +kernel
theorem dX2_readLine_117 : decode cX2_readLine 117 = .ok (.dup, 1) := by decide +kernel
theorem dX2_readLine_118 : decode cX2_readLine 118 = .ok (.getfield 47, 3) := by decide +kernel
theorem dX2_readLine_121 : decode cX2_readLine 121 = .ok (.iconst 1, 1) := by decide +kernel
theorem dX2_readLine_122 : decode cX2_readLine 122 = .ok (.iadd, 1) := by decide +kernel
theorem dX2_readLine_123 : decode cX2_readLine 123 = .ok (.putfield 47, 3) := by decide +kernel
theorem dX2_readLine_126 : decode cX2_readLine 126 = .ok (.aload_n 0, 1) := by decide +kernel
theorem dX2_readLine_127 : decode cX2_readLine 127 = .ok (.invokevirtual 38, 3) := by decide +kernel
theorem dX2_readLine_130 : decode cX2_readLine 130 = .ok (.return_, 1) := by decide +kernel
theorem dX2_readRoad_0 : decode cX2_readRoad 0 = .ok (.aload_n 0, 1) := by decide +kernel
theorem dX2_readRoad_1 : decode cX2_readRoad 1 = .ok (.getfield 21, 3) := by decide +kernel
theorem dX2_readRoad_4 : decode cX2_readRoad 4 = .ok (.getfield 100, 3) := by decide +kernel
theorem dX2_readRoad_7 : decode cX2_readRoad 7 = .ok (.bipush 8, 2) := by decide +kernel
theorem dX2_readRoad_9 : decode cX2_readRoad 9 = .ok (.if_icmp .lt 8, 3) := by decide +kernel
theorem dX2_readRoad_12 : decode cX2_readRoad 12 = .ok (.aload_n 0, 1) := by decide +kernel
theorem dX2_readRoad_13 : decode cX2_readRoad 13 = .ok (.iconst 3, 1) := by decide +kernel
theorem dX2_readRoad_14 : decode cX2_readRoad 14 = .ok (.invokevirtual 77, 3) := by decide +kernel
theorem dX2_readRoad_17 : decode cX2_readRoad 17 = .ok (.aload_n 0, 1) := by decide +kernel
theorem dX2_readRoad_18 : decode cX2_readRoad 18 = .ok (.ldc 53, 2) := by decide +kernel
theorem dX2_readRoad_20 : decode cX2_readRoad 20 = .ok (.invokevirtual 83, 3) := by decide +kernel
theorem dX2_readRoad_23 : decode cX2_readRoad 23 = .ok (.aload_n 0, 1) := by decide +kernel
theorem dX2_readRoad_24 : decode cX2_readRoad 24 = .ok (.iconst 0, 1) := by decide +kernel
theorem dX2_readRoad_25 : decode cX2_readRoad 25 = .ok (.aload_n 0, 1) := by decide +kernel
theorem dX2_readRoad_26 : decode cX2_readRoad 26 = .ok (.getfield 21, 3) := by decide +kernel
theorem dX2_readRoad_29 : decode cX2_readRoad 29 = .ok (.getfield 95, 3) := by decide +kernel
theorem dX2_readRoad_32 : decode cX2_readRoad 32 = .ok (.iconst 1, 1) := by decide +kernel
theorem dX2_readRoad_33 : decode cX2_readRoad 33 = .ok (.isub, 1) := by decide +kernel
theorem dX2_readRoad_34 : decode cX2_readRoad 34 = .ok (.invokevirtual 89, 3) := by decide +kernel
theorem dX2_readRoad_37 : decode cX2_readRoad 37 = .ok (.istore_n 1, 1) := by decide +kernel
