theorem dJ0_charAt_5068e_0 : decode cJ0_charAt_5068e 0 = .ok (.aload_n 0, 1) := by decide +kernel
theorem dJ0_charAt_5068e_1 : decode cJ0_charAt_5068e 1 = .ok (.invokevirtual 492, 3) := by decide +kernel
theorem dJ0_charAt_5068e_4 : decode cJ0_charAt_5068e 4 = .ok (.ifCond .eq 12, 3) := by decide +kernel
theorem dJ0_charAt_5068e_7 : decode cJ0_charAt_5068e 7 = .ok (.aload_n 0, 1) := by decide +kernel
theorem dJ0_charAt_5068e_8 : decode cJ0_charAt_5068e 8 = .ok (.getfield 9, 3) := by decide +kernel
theorem dJ0_charAt_5068e_11 : decode cJ0_charAt_5068e 11 = .ok (.iload_n 1, 1) := by decide +kernel
theorem dJ0_charAt_5068e_12 : decode cJ0_charAt_5068e 12 = .ok (.invokestatic 495, 3) := by decide +kernel
theorem dJ0_charAt_5068e_15 : decode cJ0_charAt_5068e 15 = .ok (.ireturn, 1) := by decide +kernel
theorem dJ0_charAt_5068e_16 : decode cJ0_charAt_5068e 16 = .ok (.aload_n 0, 1) := by decide +kernel
theorem dJ0_charAt_5068e_17 : decode cJ0_charAt_5068e 17 = .ok (.getfield 9, 3) := by decide +kernel
theorem dJ0_charAt_5068e_20 : decode cJ0_charAt_5068e 20 = .ok (.iload_n 1, 1) := by decide +kernel
theorem dJ0_charAt_5068e_21 : decode cJ0_charAt_5068e 21 = .ok (.invokestatic 498, 3) := by decide +kernel
theorem dJ0_charAt_5068e_24 : decode cJ0_charAt_5068e 24 = .ok (.ireturn, 1) := by decide +kernel
theorem dJ0_checkIndex_df160_0 : decode cJ0_checkIndex_df160 0 = .ok (.iload_n 0, 1) := by decide +kernel
theorem dJ0_checkIndex_df160_1 : decode cJ0_checkIndex_df160 1 = .ok (.iload_n 1, 1) := by decide +kernel
theorem dJ0_checkIndex_df160_2 : decode cJ0_checkIndex_df160 2 = .ok (.getstatic 1053, 3) := by decide +kernel
theorem dJ0_checkIndex_df160_5 : decode cJ0_checkIndex_df160 5 = .ok (.invokestatic 1059, 3) := by decide +kernel
theorem dJ0_checkIndex_df160_8 : decode cJ0_checkIndex_df160 8 = .ok (.pop, 1) := by decide +kernel
theorem dJ0_checkIndex_df160_9 : decode cJ0_checkIndex_df160 9 = .ok (.return_, 1) := by decide +kernel
theorem dJ0_coder_7d493_0 : decode cJ0_coder_7d493 0 = .ok (.getstatic 38, 3) := by decide +kernel
theorem dJ0_coder_7d493_3 : decode cJ0_coder_7d493 3 = .ok (.ifCond .eq 10, 3) := by decide +kernel
theorem dJ0_coder_7d493_6 : decode cJ0_coder_7d493 6 = .ok (.aload_n 0, 1) := by decide +kernel
theorem dJ0_coder_7d493_7 : decode cJ0_coder_7d493 7 = .ok (.getfield 15, 3) := by decide +kernel
theorem dJ0_coder_7d493_10 : decode cJ0_coder_7d493 10 = .ok (.goto 4, 3) := by decide +kernel
theorem dJ0_coder_7d493_13 : decode cJ0_coder_7d493 13 = .ok (.iconst 1, 1) := by decide +kernel
theorem dJ0_coder_7d493_14 : decode cJ0_coder_7d493 14 = .ok (.ireturn, 1) := by decide +kernel
theorem dJ0_isLatin1_aae02_0 : decode cJ0_isLatin1_aae02 0 = .ok (.getstatic 38, 3) := by decide +kernel
theorem dJ0_isLatin1_aae02_3 : decode cJ0_isLatin1_aae02 3 = .ok (.ifCond .eq 14, 3) := by decide +kernel
theorem dJ0_isLatin1_aae02_6 : decode cJ0_isLatin1_aae02 6 = .ok (.aload_n 0, 1) := by decide +kernel
theorem dJ0_isLatin1_aae02_7 : decode cJ0_isLatin1_aae02 7 = .ok (.getfield 15, 3) := by decide +kernel
theorem dJ0_isLatin1_aae02_10 : decode cJ0_isLatin1_aae02 10 = .ok (.ifCond .ne 7, 3) := by decide +kernel
theorem dJ0_isLatin1_aae02_13 : decode cJ0_isLatin1_aae02 13 = .ok (.iconst 1, 1) := by decide +kernel
theorem dJ0_isLatin1_aae02_14 : decode cJ0_isLatin1_aae02 14 = .ok (.goto 4, 3) := by decide +kernel
theorem dJ0_isLatin1_aae02_17 : decode cJ0_isLatin1_aae02 17 = .ok (.iconst 0, 1) := by decide +kernel
theorem dJ0_isLatin1_aae02_18 : decode cJ0_isLatin1_aae02 18 = .ok (.ireturn, 1) := by decide +kernel
theorem dJ0_length_8abf5_0 : decode cJ0_length_8abf5 0 = .ok (.aload_n 0, 1) := by decide +kernel
theorem dJ0_length_8abf5_1 : decode cJ0_length_8abf5 1 = .ok (.getfield 9, 3) := by decide +kernel
theorem dJ0_length_8abf5_4 : decode cJ0_length_8abf5 4 = .ok (.arraylength, 1) := by decide +kernel
theorem dJ0_length_8abf5_5 : decode cJ0_length_8abf5 5 = .ok (.aload_n 0, 1) := by decide +kernel
theorem dJ0_length_8abf5_6 : decode cJ0_length_8abf5 6 = .ok (.invokevirtual 335, 3) := by decide +kernel
theorem dJ0_length_8abf5_9 : decode cJ0_length_8abf5 9 = .ok (.ishr, 1) := by decide +kernel
theorem dJ0_length_8abf5_10 : decode cJ0_length_8abf5 10 = .ok (.ireturn, 1) := by decide +kernel
theorem dJ1_charAt_3b067_0 : decode cJ1_charAt_3b067 0 = .ok (.iload_n 1, 1) := by decide +kernel
theorem dJ1_charAt_3b067_1 : decode cJ1_charAt_3b067 1 = .ok (.aload_n 0, 1) := by decide +kernel
theorem dJ1_charAt_3b067_2 : decode cJ1_charAt_3b067 2 = .ok (.arraylength, 1) := by decide +kernel
theorem dJ1_charAt_3b067_3 : decode cJ1_charAt_3b067 3 = .ok (.invokestatic 9, 3) := by decide +kernel
theorem dJ1_charAt_3b067_6 : decode cJ1_charAt_3b067 6 = .ok (.aload_n 0, 1) := by decide +kernel
theorem dJ1_charAt_3b067_7 : decode cJ1_charAt_3b067 7 = .ok (.iload_n 1, 1) := by decide +kernel
theorem dJ1_charAt_3b067_8 : decode cJ1_charAt_3b067 8 = .ok (.baload, 1) := by decide +kernel
theorem dJ1_charAt_3b067_9 : decode cJ1_charAt_3b067 9 = .ok (.sipush 255, 3) := by decide +kernel
theorem dJ1_charAt_3b067_12 : decode cJ1_charAt_3b067 12 = .ok (.iand, 1) := by decide +kernel
theorem dJ1_charAt_3b067_13 : decode cJ1_charAt_3b067 13 = .ok (.i2c, 1) := by decide +kernel
theorem dJ1_charAt_3b067_14 : decode cJ1_charAt_3b067 14 = .ok (.ireturn, 1) := by decide +kernel
theorem dJ2_charAt_3b067_0 : decode cJ2_charAt_3b067 0 = .ok (.iload_n 1, 1) := by decide +kernel
theorem dJ2_charAt_3b067_1 : decode cJ2_charAt_3b067 1 = .ok (.aload_n 0, 1) := by decide +kernel
theorem dJ2_charAt_3b067_2 : decode cJ2_charAt_3b067 2 = .ok (.invokestatic 67, 3) := by decide +kernel
theorem dJ2_charAt_3b067_5 : decode cJ2_charAt_3b067 5 = .ok (.aload_n 0, 1) := by decide +kernel
theorem dJ2_charAt_3b067_6 : decode cJ2_charAt_3b067 6 = .ok (.iload_n 1, 1) := by decide +kernel
theorem dJ2_charAt_3b067_7 : decode cJ2_charAt_3b067 7 = .ok (.invokestatic 71, 3) := by decide +kernel
theorem dJ2_charAt_3b067_10 : decode cJ2_charAt_3b067 10 = .ok (.ireturn, 1) := by decide +kernel
theorem dJ2_checkIndex_2214a_0 : decode cJ2_checkIndex_2214a 0 = .ok (.iload_n 0, 1) := by decide +kernel
theorem dJ2_checkIndex_2214a_1 : decode cJ2_checkIndex_2214a 1 = .ok (.aload_n 1, 1) := by decide +kernel
theorem dJ2_checkIndex_2214a_2 : decode cJ2_checkIndex_2214a 2 = .ok (.invokestatic 48, 3) := by decide +kernel
theorem dJ2_checkIndex_2214a_5 : decode cJ2_checkIndex_2214a 5 = .ok (.invokestatic 414, 3) := by decide +kernel
theorem dJ2_checkIndex_2214a_8 : decode cJ2_checkIndex_2214a 8 = .ok (.return_, 1) := by decide +kernel
theorem dJ2_getChar_3b067_0 : decode cJ2_getChar_3b067 0 = .ok (.getstatic 44, 3) := by decide +kernel
theorem dJ2_getChar_3b067_3 : decode cJ2_getChar_3b067 3 = .ok (.ifCond .ne 25, 3) := by decide +kernel
theorem dJ2_getChar_3b067_6 : decode cJ2_getChar_3b067 6 = .ok (.iload_n 1, 1) := by decide +kernel
theorem dJ2_getChar_3b067_7 : decode cJ2_getChar_3b067 7 = .ok (.ifCond .lt 11, 3) := by decide +kernel
theorem dJ2_getChar_3b067_10 : decode cJ2_getChar_3b067 10 = .ok (.iload_n 1, 1) := by decide +kernel
theorem dJ2_getChar_3b067_11 : decode cJ2_getChar_3b067 11 = .ok (.aload_n 0, 1) := by decide +kernel
theorem dJ2_getChar_3b067_12 : decode cJ2_getChar_3b067 12 = .ok (.invokestatic 48, 3) := by decide +kernel
theorem dJ2_getChar_3b067_15 : decode cJ2_getChar_3b067 15 = .ok (.if_icmp .lt 13, 3) := by decide +kernel
theorem dJ2_getChar_3b067_18 : decode cJ2_getChar_3b067 18 = .ok (.new 52, 3) := by decide +kernel
theorem dJ2_getChar_3b067_21 : decode cJ2_getChar_3b067 21 = .ok (.dup, 1) := by decide +kernel
theorem dJ2_getChar_3b067_22 : decode cJ2_getChar_3b067 22 = .ok (.ldc 54, 2) := by decide +kernel
theorem dJ2_getChar_3b067_24 : decode cJ2_getChar_3b067 24 = .ok (.invokespecial 56, 3) := by decide +kernel
theorem dJ2_getChar_3b067_27 : decode cJ2_getChar_3b067 27 = .ok (.athrow, 1) := by decide +kernel
theorem dJ2_getChar_3b067_28 : decode cJ2_getChar_3b067 28 = .ok (.iload_n 1, 1) := by decide +kernel
theorem dJ2_getChar_3b067_29 : decode cJ2_getChar_3b067 29 = .ok (.iconst 1, 1) := by decide +kernel
theorem dJ2_getChar_3b067_30 : decode cJ2_getChar_3b067 30 = .ok (.ishl, 1) := by decide +kernel
theorem dJ2_getChar_3b067_31 : decode cJ2_getChar_3b067 31 = .ok (.istore_n 1, 1) := by decide +kernel
theorem dJ2_getChar_3b067_32 : decode cJ2_getChar_3b067 32 = .ok (.aload_n 0, 1) := by decide +kernel
theorem dJ2_getChar_3b067_33 : decode cJ2_getChar_3b067 33 = .ok (.iload_n 1, 1) := by decide +kernel
theorem dJ2_getChar_3b067_34 : decode cJ2_getChar_3b067 34 = .ok (.iinc 1 1, 3) := by decide +kernel
theorem dJ2_getChar_3b067_37 : decode cJ2_getChar_3b067 37 = .ok (.baload, 1) := by decide +kernel
theorem dJ2_getChar_3b067_38 : decode cJ2_getChar_3b067 38 = .ok (.sipush 255, 3) := by decide +kernel
theorem dJ2_getChar_3b067_41 : decode cJ2_getChar_3b067 41 = .ok (.iand, 1) := by decide +kernel
theorem dJ2_getChar_3b067_42 : decode cJ2_getChar_3b067 42 = .ok (.getstatic 59, 3) := by decide +kernel
theorem dJ2_getChar_3b067_45 : decode cJ2_getChar_3b067 45 = .ok (.ishl, 1) := by decide +kernel
theorem dJ2_getChar_3b067_46 : decode cJ2_getChar_3b067 46 = .ok (.aload_n 0, 1) := by decide +kernel
theorem dJ2_getChar_3b067_47 : decode cJ2_getChar_3b067 47 = .ok (.iload_n 1, 1) := by decide +kernel
theorem dJ2_getChar_3b067_48 : decode cJ2_getChar_3b067 48 = .ok (.baload, 1) := by decide +kernel
theorem dJ2_getChar_3b067_49 : decode cJ2_getChar_3b067 49 = .ok (.sipush 255, 3) := by decide +kernel
theorem dJ2_getChar_3b067_52 : decode cJ2_getChar_3b067 52 = .ok (.iand, 1) := by decide +kernel
theorem dJ2_getChar_3b067_53 : decode cJ2_getChar_3b067 53 = .ok (.getstatic 63, 3) := by decide +kernel
theorem dJ2_getChar_3b067_56 : decode cJ2_getChar_3b067 56 = .ok (.ishl, 1) := by decide +kernel
theorem dJ2_getChar_3b067_57 : decode cJ2_getChar_3b067 57 = .ok (.ior, 1) := by decide +kernel
theorem dJ2_getChar_3b067_58 : decode cJ2_getChar_3b067 58 = .ok (.i2c, 1) := by decide +kernel
theorem dJ2_getChar_3b067_59 : decode cJ2_getChar_3b067 59 = .ok (.ireturn, 1) := by decide +kernel
theorem dJ2_length_9d52b_0 : decode cJ2_length_9d52b 0 = .ok (.aload_n 0, 1) := by decide +kernel
theorem dJ2_length_9d52b_1 : decode cJ2_length_9d52b 1 = .ok (.arraylength, 1) := by decide +kernel
theorem dJ2_length_9d52b_2 : decode cJ2_length_9d52b 2 = .ok (.iconst 1, 1) := by decide +kernel
theorem dJ2_length_9d52b_3 : decode cJ2_length_9d52b 3 = .ok (.ishr, 1) := by decide +kernel
theorem dJ2_length_9d52b_4 : decode cJ2_length_9d52b 4 = .ok (.ireturn, 1) := by decide +kernel
theorem dJ3_checkIndex_8e157_0 : decode cJ3_checkIndex_8e157 0 = .ok (.iload_n 0, 1) := by decide +kernel
theorem dJ3_checkIndex_8e157_1 : decode cJ3_checkIndex_8e157 1 = .ok (.ifCond .lt 8, 3) := by decide +kernel
theorem dJ3_checkIndex_8e157_4 : decode cJ3_checkIndex_8e157 4 = .ok (.iload_n 0, 1) := by decide +kernel
theorem dJ3_checkIndex_8e157_5 : decode cJ3_checkIndex_8e157 5 = .ok (.iload_n 1, 1) := by decide +kernel
theorem dJ3_checkIndex_8e157_6 : decode cJ3_checkIndex_8e157 6 = .ok (.if_icmp .lt 10, 3) := by decide +kernel
theorem dJ3_checkIndex_8e157_9 : decode cJ3_checkIndex_8e157 9 = .ok (.aload_n 2, 1) := by decide +kernel
theorem dJ3_checkIndex_8e157_10 : decode cJ3_checkIndex_8e157 10 = .ok (.iload_n 0, 1) := by decide +kernel
theorem dJ3_checkIndex_8e157_11 : decode cJ3_checkIndex_8e157 11 = .ok (.iload_n 1, 1) := by decide +kernel
theorem dJ3_checkIndex_8e157_12 : decode cJ3_checkIndex_8e157 12 = .ok (.invokestatic 95, 3) := by decide +kernel
theorem dJ3_checkIndex_8e157_15 : decode cJ3_checkIndex_8e157 15 = .ok (.athrow, 1) := by decide +kernel
theorem dJ3_checkIndex_8e157_16 : decode cJ3_checkIndex_8e157 16 = .ok (.iload_n 0, 1) := by decide +kernel
theorem dJ3_checkIndex_8e157_17 : decode cJ3_checkIndex_8e157 17 = .ok (.ireturn, 1) := by decide +kernel
theorem dJ6_bitCount_0f7a4_0 : decode cJ6_bitCount_0f7a4 0 = .ok (.iload_n 0, 1) := by decide +kernel
theorem dJ6_bitCount_0f7a4_1 : decode cJ6_bitCount_0f7a4 1 = .ok (.iload_n 0, 1) := by decide +kernel
theorem dJ6_bitCount_0f7a4_2 : decode cJ6_bitCount_0f7a4 2 = .ok (.iconst 1, 1) := by decide +kernel
theorem dJ6_bitCount_0f7a4_3 : decode cJ6_bitCount_0f7a4 3 = .ok (.iushr, 1) := by decide +kernel
theorem dJ6_bitCount_0f7a4_4 : decode cJ6_bitCount_0f7a4 4 = .ok (.ldc_w 265, 3) := by decide +kernel
theorem dJ6_bitCount_0f7a4_7 : decode cJ6_bitCount_0f7a4 7 = .ok (.iand, 1) := by decide +kernel
theorem dJ6_bitCount_0f7a4_8 : decode cJ6_bitCount_0f7a4 8 = .ok (.isub, 1) := by decide +kernel
theorem dJ6_bitCount_0f7a4_9 : decode cJ6_bitCount_0f7a4 9 = .ok (.istore_n 0, 1) := by decide +kernel
theorem dJ6_bitCount_0f7a4_10 : decode cJ6_bitCount_0f7a4 10 = .ok (.iload_n 0, 1) := by decide +kernel
theorem dJ6_bitCount_0f7a4_11 : decode cJ6_bitCount_0f7a4 11 = .ok (.ldc_w 266, 3) := by decide +kernel
theorem dJ6_bitCount_0f7a4_14 : decode cJ6_bitCount_0f7a4 14 = .ok (.iand, 1) := by decide +kernel
theorem dJ6_bitCount_0f7a4_15 : decode cJ6_bitCount_0f7a4 15 = .ok (.iload_n 0, 1) := by decide +kernel
theorem dJ6_bitCount_0f7a4_16 : decode cJ6_bitCount_0f7a4 16 = .ok (.iconst 2, 1) := by decide +kernel
theorem dJ6_bitCount_0f7a4_17 : decode cJ6_bitCount_0f7a4 17 = .ok (.iushr, 1) := by decide +kernel
theorem dJ6_bitCount_0f7a4_18 : decode cJ6_bitCount_0f7a4 18 = .ok (.ldc_w 266, 3) := by decide +kernel
theorem dJ6_bitCount_0f7a4_21 : decode cJ6_bitCount_0f7a4 21 = .ok (.iand, 1) := by decide +kernel
theorem dJ6_bitCount_0f7a4_22 : decode cJ6_bitCount_0f7a4 22 = .ok (.iadd, 1) := by decide +kernel
theorem dJ6_bitCount_0f7a4_23 : decode cJ6_bitCount_0f7a4 23 = .ok (.istore_n 0, 1) := by decide +kernel
theorem dJ6_bitCount_0f7a4_24 : decode cJ6_bitCount_0f7a4 24 = .ok (.iload_n 0, 1) := by decide +kernel
theorem dJ6_bitCount_0f7a4_25 : decode cJ6_bitCount_0f7a4 25 = .ok (.iload_n 0, 1) := by decide +kernel
theorem dJ6_bitCount_0f7a4_26 : decode cJ6_bitCount_0f7a4 26 = .ok (.iconst 4, 1) := by decide +kernel
theorem dJ6_bitCount_0f7a4_27 : decode cJ6_bitCount_0f7a4 27 = .ok (.iushr, 1) := by decide +kernel
theorem dJ6_bitCount_0f7a4_28 : decode cJ6_bitCount_0f7a4 28 = .ok (.iadd, 1) := by decide +kernel
theorem dJ6_bitCount_0f7a4_29 : decode cJ6_bitCount_0f7a4 29 = .ok (.ldc_w 267, 3) := by decide +kernel
theorem dJ6_bitCount_0f7a4_32 : decode cJ6_bitCount_0f7a4 32 = .ok (.iand, 1) := by decide +kernel
theorem dJ6_bitCount_0f7a4_33 : decode cJ6_bitCount_0f7a4 33 = .ok (.istore_n 0, 1) := by decide +kernel
theorem dJ6_bitCount_0f7a4_34 : decode cJ6_bitCount_0f7a4 34 = .ok (.iload_n 0, 1) := by decide +kernel
theorem dJ6_bitCount_0f7a4_35 : decode cJ6_bitCount_0f7a4 35 = .ok (.iload_n 0, 1) := by decide +kernel
theorem dJ6_bitCount_0f7a4_36 : decode cJ6_bitCount_0f7a4 36 = .ok (.bipush 8, 2) := by decide +kernel
theorem dJ6_bitCount_0f7a4_38 : decode cJ6_bitCount_0f7a4 38 = .ok (.iushr, 1) := by decide +kernel
theorem dJ6_bitCount_0f7a4_39 : decode cJ6_bitCount_0f7a4 39 = .ok (.iadd, 1) := by decide +kernel
theorem dJ6_bitCount_0f7a4_40 : decode cJ6_bitCount_0f7a4 40 = .ok (.istore_n 0, 1) := by decide +kernel
theorem dJ6_bitCount_0f7a4_41 : decode cJ6_bitCount_0f7a4 41 = .ok (.iload_n 0, 1) := by decide +kernel
theorem dJ6_bitCount_0f7a4_42 : decode cJ6_bitCount_0f7a4 42 = .ok (.iload_n 0, 1) := by decide +kernel
theorem dJ6_bitCount_0f7a4_43 : decode cJ6_bitCount_0f7a4 43 = .ok (.bipush 16, 2) := by decide +kernel
theorem dJ6_bitCount_0f7a4_45 : decode cJ6_bitCount_0f7a4 45 = .ok (.iushr, 1) := by decide +kernel
theorem dJ6_bitCount_0f7a4_46 : decode cJ6_bitCount_0f7a4 46 = .ok (.iadd, 1) := by decide +kernel
theorem dJ6_bitCount_0f7a4_47 : decode cJ6_bitCount_0f7a4 47 = .ok (.istore_n 0, 1) := by decide +kernel
theorem dJ6_bitCount_0f7a4_48 : decode cJ6_bitCount_0f7a4 48 = .ok (.iload_n 0, 1) := by decide +kernel
theorem dJ6_bitCount_0f7a4_49 : decode cJ6_bitCount_0f7a4 49 = .ok (.bipush 63, 2) := by decide +kernel
theorem dJ6_bitCount_0f7a4_51 : decode cJ6_bitCount_0f7a4 51 = .ok (.iand, 1) := by decide +kernel
theorem dJ6_bitCount_0f7a4_52 : decode cJ6_bitCount_0f7a4 52 = .ok (.ireturn, 1) := by decide +kernel
theorem dJ7_fill_53178_0 : decode cJ7_fill_53178 0 = .ok (.iconst 0, 1) := by decide +kernel
theorem dJ7_fill_53178_1 : decode cJ7_fill_53178 1 = .ok (.istore_n 2, 1) := by decide +kernel
theorem dJ7_fill_53178_2 : decode cJ7_fill_53178 2 = .ok (.aload_n 0, 1) := by decide +kernel
theorem dJ7_fill_53178_3 : decode cJ7_fill_53178 3 = .ok (.arraylength, 1) := by decide +kernel
theorem dJ7_fill_53178_4 : decode cJ7_fill_53178 4 = .ok (.istore_n 3, 1) := by decide +kernel
theorem dJ7_fill_53178_5 : decode cJ7_fill_53178 5 = .ok (.iload_n 2, 1) := by decide +kernel
theorem dJ7_fill_53178_6 : decode cJ7_fill_53178 6 = .ok (.iload_n 3, 1) := by decide +kernel
theorem dJ7_fill_53178_7 : decode cJ7_fill_53178 7 = .ok (.if_icmp .ge 13, 3) := by decide +kernel
theorem dJ7_fill_53178_10 : decode cJ7_fill_53178 10 = .ok (.aload_n 0, 1) := by decide +kernel
theorem dJ7_fill_53178_11 : decode cJ7_fill_53178 11 = .ok (.iload_n 2, 1) := by decide +kernel
theorem dJ7_fill_53178_12 : decode cJ7_fill_53178 12 = .ok (.iload_n 1, 1) := by decide +kernel
theorem dJ7_fill_53178_13 : decode cJ7_fill_53178 13 = .ok (.iastore, 1) := by decide +kernel
theorem dJ7_fill_53178_14 : decode cJ7_fill_53178 14 = .ok (.iinc 2 1, 3) := by decide +kernel
theorem dJ7_fill_53178_17 : decode cJ7_fill_53178 17 = .ok (.goto (-12), 3) := by decide +kernel
theorem dJ7_fill_53178_20 : decode cJ7_fill_53178 20 = .ok (.return_, 1) := by decide +kernel
theorem dJ7_fill_d0a16_0 : decode cJ7_fill_d0a16 0 = .ok (.iconst 0, 1) := by decide +kernel
theorem dJ7_fill_d0a16_1 : decode cJ7_fill_d0a16 1 = .ok (.istore_n 3, 1) := by decide +kernel
theorem dJ7_fill_d0a16_2 : decode cJ7_fill_d0a16 2 = .ok (.aload_n 0, 1) := by decide +kernel
theorem dJ7_fill_d0a16_3 : decode cJ7_fill_d0a16 3 = .ok (.arraylength, 1) := by decide +kernel
theorem dJ7_fill_d0a16_4 : decode cJ7_fill_d0a16 4 = .ok (.istore 4, 2) := by decide +kernel
theorem dJ7_fill_d0a16_6 : decode cJ7_fill_d0a16 6 = .ok (.iload_n 3, 1) := by decide +kernel
theorem dJ7_fill_d0a16_7 : decode cJ7_fill_d0a16 7 = .ok (.iload 4, 2) := by decide +kernel
theorem dJ7_fill_d0a16_9 : decode cJ7_fill_d0a16 9 = .ok (.if_icmp .ge 13, 3) := by decide +kernel
theorem dJ7_fill_d0a16_12 : decode cJ7_fill_d0a16 12 = .ok (.aload_n 0, 1) := by decide +kernel
theorem dJ7_fill_d0a16_13 : decode cJ7_fill_d0a16 13 = .ok (.iload_n 3, 1) := by decide +kernel
theorem dJ7_fill_d0a16_14 : decode cJ7_fill_d0a16 14 = .ok (.lload_n 1, 1) := by decide +kernel
theorem dJ7_fill_d0a16_15 : decode cJ7_fill_d0a16 15 = .ok (.lastore, 1) := by decide +kernel
theorem dJ7_fill_d0a16_16 : decode cJ7_fill_d0a16 16 = .ok (.iinc 3 1, 3) := by decide +kernel
theorem dJ7_fill_d0a16_19 : decode cJ7_fill_d0a16 19 = .ok (.goto (-13), 3) := by decide +kernel
theorem dJ7_fill_d0a16_22 : decode cJ7_fill_d0a16 22 = .ok (.return_, 1) := by decide +kernel
theorem dJ9_max_7cf53_0 : decode cJ9_max_7cf53 0 = .ok (.iload_n 0, 1) := by decide +kernel
theorem dJ9_max_7cf53_1 : decode cJ9_max_7cf53 1 = .ok (.iload_n 1, 1) := by decide +kernel
theorem dJ9_max_7cf53_2 : decode cJ9_max_7cf53 2 = .ok (.if_icmp .lt 7, 3) := by decide +kernel
theorem dJ9_max_7cf53_5 : decode cJ9_max_7cf53 5 = .ok (.iload_n 0, 1) := by decide +kernel
theorem dJ9_max_7cf53_6 : decode cJ9_max_7cf53 6 = .ok (.goto 4, 3) := by decide +kernel
theorem dJ9_max_7cf53_9 : decode cJ9_max_7cf53 9 = .ok (.iload_n 1, 1) := by decide +kernel
theorem dJ9_max_7cf53_10 : decode cJ9_max_7cf53 10 = .ok (.ireturn, 1) := by decide +kernel
theorem dJ9_min_7cf53_0 : decode cJ9_min_7cf53 0 = .ok (.iload_n 0, 1) := by decide +kernel
theorem dJ9_min_7cf53_1 : decode cJ9_min_7cf53 1 = .ok (.iload_n 1, 1) := by decide +kernel
theorem dJ9_min_7cf53_2 : decode cJ9_min_7cf53 2 = .ok (.if_icmp .gt 7, 3) := by decide +kernel
theorem dJ9_min_7cf53_5 : decode cJ9_min_7cf53 5 = .ok (.iload_n 0, 1) := by decide +kernel
theorem dJ9_min_7cf53_6 : decode cJ9_min_7cf53 6 = .ok (.goto 4, 3) := by decide +kernel
theorem dJ9_min_7cf53_9 : decode cJ9_min_7cf53 9 = .ok (.iload_n 1, 1) := by decide +kernel
theorem dJ9_min_7cf53_10 : decode cJ9_min_7cf53 10 = .ok (.ireturn, 1) := by decide +kernel
theorem dX0_bestPick_0 : decode cX0_bestPick 0 = .ok (.iconst (-1), 1) := by decide +kernel
theorem dX0_bestPick_1 : decode cX0_bestPick 1 = .ok (.istore_n 3, 1) := by decide +kernel
theorem dX0_bestPick_2 : decode cX0_bestPick 2 = .ok (.iconst 0, 1) := by decide +kernel
theorem dX0_bestPick_3 : decode cX0_bestPick 3 = .ok (.istore 4, 2) := by decide +kernel
theorem dX0_bestPick_5 : decode cX0_bestPick 5 = .ok (.iload 4, 2) := by decide +kernel
theorem dX0_bestPick_7 : decode cX0_bestPick 7 = .ok (.bipush 8, 2) := by decide +kernel
theorem dX0_bestPick_9 : decode cX0_bestPick 9 = .ok (.if_icmp .ge 48, 3) := by decide +kernel
theorem dX0_bestPick_12 : decode cX0_bestPick 12 = .ok (.iload_n 1, 1) := by decide +kernel
theorem dX0_bestPick_13 : decode cX0_bestPick 13 = .ok (.iload 4, 2) := by decide +kernel
theorem dX0_bestPick_15 : decode cX0_bestPick 15 = .ok (.ishr, 1) := by decide +kernel
theorem dX0_bestPick_16 : decode cX0_bestPick 16 = .ok (.iconst 1, 1) := by decide +kernel
theorem dX0_bestPick_17 : decode cX0_bestPick 17 = .ok (.iand, 1) := by decide +kernel
theorem dX0_bestPick_18 : decode cX0_bestPick 18 = .ok (.ifCond .eq 33, 3) := by decide +kernel
theorem dX0_bestPick_21 : decode cX0_bestPick 21 = .ok (.iload_n 3, 1) := by decide +kernel
theorem dX0_bestPick_22 : decode cX0_bestPick 22 = .ok (.iconst (-1), 1) := by decide +kernel
theorem dX0_bestPick_23 : decode cX0_bestPick 23 = .ok (.if_icmp .eq 25, 3) := by decide +kernel
theorem dX0_bestPick_26 : decode cX0_bestPick 26 = .ok (.aload_n 0, 1) := by decide +kernel
theorem dX0_bestPick_27 : decode cX0_bestPick 27 = .ok (.iload_n 1, 1) := by decide +kernel
theorem dX0_bestPick_28 : decode cX0_bestPick 28 = .ok (.iload 4, 2) := by decide +kernel
theorem dX0_bestPick_30 : decode cX0_bestPick 30 = .ok (.iload_n 2, 1) := by decide +kernel
theorem dX0_bestPick_31 : decode cX0_bestPick 31 = .ok (.invokevirtual 44, 3) := by decide +kernel
theorem dX0_bestPick_34 : decode cX0_bestPick 34 = .ok (.aload_n 0, 1) := by decide +kernel
theorem dX0_bestPick_35 : decode cX0_bestPick 35 = .ok (.iload_n 1, 1) := by decide +kernel
theorem dX0_bestPick_36 : decode cX0_bestPick 36 = .ok (.iload_n 3, 1) := by decide +kernel
theorem dX0_bestPick_37 : decode cX0_bestPick 37 = .ok (.iload_n 2, 1) := by decide +kernel
theorem dX0_bestPick_38 : decode cX0_bestPick 38 = .ok (.invokevirtual 44, 3) := by decide +kernel
theorem dX0_bestPick_41 : decode cX0_bestPick 41 = .ok (.iload_n 2, 1) := by decide +kernel
theorem dX0_bestPick_42 : decode cX0_bestPick 42 = .ok (.invokestatic 52, 3) := by decide +kernel
theorem dX0_bestPick_45 : decode cX0_bestPick 45 = .ok (.ifCond .eq 6, 3) := by decide +kernel
theorem dX0_bestPick_48 : decode cX0_bestPick 48 = .ok (.iload 4, 2) := by decide +kernel
theorem dX0_bestPick_50 : decode cX0_bestPick 50 = .ok (.istore_n 3, 1) := by decide +kernel
theorem dX0_bestPick_51 : decode cX0_bestPick 51 = .ok (.iinc 4 1, 3) := by decide +kernel
theorem dX0_bestPick_54 : decode cX0_bestPick 54 = .ok (.goto (-49), 3) := by decide +kernel
theorem dX0_bestPick_57 : decode cX0_bestPick 57 = .ok (.iload_n 3, 1) := by decide +kernel
theorem dX0_bestPick_58 : decode cX0_bestPick 58 = .ok (.ireturn, 1) := by decide +kernel
theorem dX0_firstPick_0 : decode cX0_firstPick 0 = .ok (.aload_n 0, 1) := by decide +kernel
theorem dX0_firstPick_1 : decode cX0_firstPick 1 = .ok (.aload_n 1, 1) := by decide +kernel
theorem dX0_firstPick_2 : decode cX0_firstPick 2 = .ok (.aload_n 2, 1) := by decide +kernel
theorem dX0_firstPick_3 : decode cX0_firstPick 3 = .ok (.iload_n 3, 1) := by decide +kernel
theorem dX0_firstPick_4 : decode cX0_firstPick 4 = .ok (.invokevirtual 48, 3) := by decide +kernel
theorem dX0_firstPick_7 : decode cX0_firstPick 7 = .ok (.pop, 1) := by decide +kernel
theorem dX0_firstPick_8 : decode cX0_firstPick 8 = .ok (.aload_n 0, 1) := by decide +kernel
theorem dX0_firstPick_9 : decode cX0_firstPick 9 = .ok (.iload_n 3, 1) := by decide +kernel
theorem dX0_firstPick_10 : decode cX0_firstPick 10 = .ok (.iconst 1, 1) := by decide +kernel
theorem dX0_firstPick_11 : decode cX0_firstPick 11 = .ok (.invokevirtual 40, 3) := by decide +kernel
theorem dX0_firstPick_14 : decode cX0_firstPick 14 = .ok (.ireturn, 1) := by decide +kernel
theorem dX0_isBetter_0 : decode cX0_isBetter 0 = .ok (.iload_n 2, 1) := by decide +kernel
theorem dX0_isBetter_1 : decode cX0_isBetter 1 = .ok (.ifCond .eq 16, 3) := by decide +kernel
theorem dX0_isBetter_4 : decode cX0_isBetter 4 = .ok (.iload_n 0, 1) := by decide +kernel
theorem dX0_isBetter_5 : decode cX0_isBetter 5 = .ok (.iload_n 1, 1) := by decide +kernel
theorem dX0_isBetter_6 : decode cX0_isBetter 6 = .ok (.if_icmp .le 7, 3) := by decide +kernel
theorem dX0_isBetter_9 : decode cX0_isBetter 9 = .ok (.iconst 1, 1) := by decide +kernel
theorem dX0_isBetter_10 : decode cX0_isBetter 10 = .ok (.goto 17, 3) := by decide +kernel
theorem dX0_isBetter_13 : decode cX0_isBetter 13 = .ok (.iconst 0, 1) := by decide +kernel
theorem dX0_isBetter_14 : decode cX0_isBetter 14 = .ok (.goto 13, 3) := by decide +kernel
theorem dX0_isBetter_17 : decode cX0_isBetter 17 = .ok (.iload_n 0, 1) := by decide +kernel
theorem dX0_isBetter_18 : decode cX0_isBetter 18 = .ok (.iload_n 1, 1) := by decide +kernel
theorem dX0_isBetter_19 : decode cX0_isBetter 19 = .ok (.if_icmp .ge 7, 3) := by decide +kernel
theorem dX0_isBetter_22 : decode cX0_isBetter 22 = .ok (.iconst 1, 1) := by decide +kernel
theorem dX0_isBetter_23 : decode cX0_isBetter 23 = .ok (.goto 4, 3) := by decide +kernel
theorem dX0_isBetter_26 : decode cX0_isBetter 26 = .ok (.iconst 0, 1) := by decide +kernel
theorem dX0_isBetter_27 : decode cX0_isBetter 27 = .ok (.ireturn, 1) := by decide +kernel
theorem dX0_outcome_0 : decode cX0_outcome 0 = .ok (.iconst 0, 1) := by decide +kernel
theorem dX0_outcome_1 : decode cX0_outcome 1 = .ok (.istore 4, 2) := by decide +kernel
theorem dX0_outcome_3 : decode cX0_outcome 3 = .ok (.iload 4, 2) := by decide +kernel
theorem dX0_outcome_5 : decode cX0_outcome 5 = .ok (.aload_n 1, 1) := by decide +kernel
theorem dX0_outcome_6 : decode cX0_outcome 6 = .ok (.getfield 21, 3) := by decide +kernel
theorem dX0_outcome_9 : decode cX0_outcome 9 = .ok (.if_icmp .ge 37, 3) := by decide +kernel
theorem dX0_outcome_12 : decode cX0_outcome 12 = .ok (.aload_n 0, 1) := by decide +kernel
theorem dX0_outcome_13 : decode cX0_outcome 13 = .ok (.getfield 15, 3) := by decide +kernel
theorem dX0_outcome_16 : decode cX0_outcome 16 = .ok (.iload 4, 2) := by decide +kernel
theorem dX0_outcome_18 : decode cX0_outcome 18 = .ok (.aload_n 2, 1) := by decide +kernel
theorem dX0_outcome_19 : decode cX0_outcome 19 = .ok (.aload_n 1, 1) := by decide +kernel
theorem dX0_outcome_20 : decode cX0_outcome 20 = .ok (.iload 4, 2) := by decide +kernel
theorem dX0_outcome_22 : decode cX0_outcome 22 = .ok (.invokevirtual 27, 3) := by decide +kernel
theorem dX0_outcome_25 : decode cX0_outcome 25 = .ok (.iastore, 1) := by decide +kernel
theorem dX0_outcome_26 : decode cX0_outcome 26 = .ok (.aload_n 0, 1) := by decide +kernel
theorem dX0_outcome_27 : decode cX0_outcome 27 = .ok (.getfield 18, 3) := by decide +kernel
theorem dX0_outcome_30 : decode cX0_outcome 30 = .ok (.iload 4, 2) := by decide +kernel
theorem dX0_outcome_32 : decode cX0_outcome 32 = .ok (.aload_n 2, 1) := by decide +kernel
theorem dX0_outcome_33 : decode cX0_outcome 33 = .ok (.getfield 33, 3) := by decide +kernel
theorem dX0_outcome_36 : decode cX0_outcome 36 = .ok (.iload 4, 2) := by decide +kernel
theorem dX0_outcome_38 : decode cX0_outcome 38 = .ok (.iaload, 1) := by decide +kernel
theorem dX0_outcome_39 : decode cX0_outcome 39 = .ok (.iastore, 1) := by decide +kernel
theorem dX0_outcome_40 : decode cX0_outcome 40 = .ok (.iinc 4 1, 3) := by decide +kernel
theorem dX0_outcome_43 : decode cX0_outcome 43 = .ok (.goto (-40), 3) := by decide +kernel
theorem dX0_outcome_46 : decode cX0_outcome 46 = .ok (.aload_n 0, 1) := by decide +kernel
theorem dX0_outcome_47 : decode cX0_outcome 47 = .ok (.getfield 9, 3) := by decide +kernel
theorem dX0_outcome_50 : decode cX0_outcome 50 = .ok (.iconst 0, 1) := by decide +kernel
theorem dX0_outcome_51 : decode cX0_outcome 51 = .ok (.iconst 0, 1) := by decide +kernel
theorem dX0_outcome_52 : decode cX0_outcome 52 = .ok (.iastore, 1) := by decide +kernel
theorem dX0_outcome_53 : decode cX0_outcome 53 = .ok (.iconst 1, 1) := by decide +kernel
theorem dX0_outcome_54 : decode cX0_outcome 54 = .ok (.istore 4, 2) := by decide +kernel
theorem dX0_outcome_56 : decode cX0_outcome 56 = .ok (.iload 4, 2) := by decide +kernel
theorem dX0_outcome_58 : decode cX0_outcome 58 = .ok (.iload_n 3, 1) := by decide +kernel
theorem dX0_outcome_59 : decode cX0_outcome 59 = .ok (.if_icmp .gt 84, 3) := by decide +kernel
theorem dX0_outcome_62 : decode cX0_outcome 62 = .ok (.iload 4, 2) := by decide +kernel
theorem dX0_outcome_64 : decode cX0_outcome 64 = .ok (.sipush 256, 3) := by decide +kernel
theorem dX0_outcome_67 : decode cX0_outcome 67 = .ok (.if_icmp .ge 76, 3) := by decide +kernel
theorem dX0_outcome_70 : decode cX0_outcome 70 = .ok (.iload 4, 2) := by decide +kernel
theorem dX0_outcome_72 : decode cX0_outcome 72 = .ok (.iload_n 3, 1) := by decide +kernel
theorem dX0_outcome_73 : decode cX0_outcome 73 = .ok (.iconst (-1), 1) := by decide +kernel
theorem dX0_outcome_74 : decode cX0_outcome 74 = .ok (.ixor, 1) := by decide +kernel
theorem dX0_outcome_75 : decode cX0_outcome 75 = .ok (.iand, 1) := by decide +kernel
theorem dX0_outcome_76 : decode cX0_outcome 76 = .ok (.ifCond .ne 61, 3) := by decide +kernel
theorem dX0_outcome_79 : decode cX0_outcome 79 = .ok (.iload_n 3, 1) := by decide +kernel
theorem dX0_outcome_80 : decode cX0_outcome 80 = .ok (.iload 4, 2) := by decide +kernel
theorem dX0_outcome_82 : decode cX0_outcome 82 = .ok (.iconst (-1), 1) := by decide +kernel
theorem dX0_outcome_83 : decode cX0_outcome 83 = .ok (.ixor, 1) := by decide +kernel
theorem dX0_outcome_84 : decode cX0_outcome 84 = .ok (.iand, 1) := by decide +kernel
theorem dX0_outcome_85 : decode cX0_outcome 85 = .ok (.invokestatic 34, 3) := by decide +kernel
theorem dX0_outcome_88 : decode cX0_outcome 88 = .ok (.iconst 2, 1) := by decide +kernel
theorem dX0_outcome_89 : decode cX0_outcome 89 = .ok (.irem, 1) := by decide +kernel
theorem dX0_outcome_90 : decode cX0_outcome 90 = .ok (.ifCond .ne 7, 3) := by decide +kernel
theorem dX0_outcome_93 : decode cX0_outcome 93 = .ok (.iconst 1, 1) := by decide +kernel
theorem dX0_outcome_94 : decode cX0_outcome 94 = .ok (.goto 4, 3) := by decide +kernel
theorem dX0_outcome_97 : decode cX0_outcome 97 = .ok (.iconst 0, 1) := by decide +kernel
theorem dX0_outcome_98 : decode cX0_outcome 98 = .ok (.istore 5, 2) := by decide +kernel
theorem dX0_outcome_100 : decode cX0_outcome 100 = .ok (.aload_n 0, 1) := by decide +kernel
theorem dX0_outcome_101 : decode cX0_outcome 101 = .ok (.iload 4, 2) := by decide +kernel
theorem dX0_outcome_103 : decode cX0_outcome 103 = .ok (.iload 5, 2) := by decide +kernel
theorem dX0_outcome_105 : decode cX0_outcome 105 = .ok (.invokevirtual 40, 3) := by decide +kernel
theorem dX0_outcome_108 : decode cX0_outcome 108 = .ok (.istore 6, 2) := by decide +kernel
theorem dX0_outcome_110 : decode cX0_outcome 110 = .ok (.aload_n 0, 1) := by decide +kernel
theorem dX0_outcome_111 : decode cX0_outcome 111 = .ok (.getfield 9, 3) := by decide +kernel
theorem dX0_outcome_114 : decode cX0_outcome 114 = .ok (.iload 4, 2) := by decide +kernel
theorem dX0_outcome_116 : decode cX0_outcome 116 = .ok (.iload 6, 2) := by decide +kernel
theorem dX0_outcome_118 : decode cX0_outcome 118 = .ok (.iconst (-1), 1) := by decide +kernel
theorem dX0_outcome_119 : decode cX0_outcome 119 = .ok (.if_icmp .ne 7, 3) := by decide +kernel
theorem dX0_outcome_122 : decode cX0_outcome 122 = .ok (.iconst 0, 1) := by decide +kernel
theorem dX0_outcome_123 : decode cX0_outcome 123 = .ok (.goto 13, 3) := by decide +kernel
theorem dX0_outcome_126 : decode cX0_outcome 126 = .ok (.aload_n 0, 1) := by decide +kernel
theorem dX0_outcome_127 : decode cX0_outcome 127 = .ok (.iload 4, 2) := by decide +kernel
theorem dX0_outcome_129 : decode cX0_outcome 129 = .ok (.iload 6, 2) := by decide +kernel
theorem dX0_outcome_131 : decode cX0_outcome 131 = .ok (.iload 5, 2) := by decide +kernel
theorem dX0_outcome_133 : decode cX0_outcome 133 = .ok (.invokevirtual 44, 3) := by decide +kernel
theorem dX0_outcome_136 : decode cX0_outcome 136 = .ok (.iastore, 1) := by decide +kernel
theorem dX0_outcome_137 : decode cX0_outcome 137 = .ok (.iinc 4 1, 3) := by decide +kernel
theorem dX0_outcome_140 : decode cX0_outcome 140 = .ok (.goto (-84), 3) := by decide +kernel
theorem dX0_outcome_143 : decode cX0_outcome 143 = .ok (.aload_n 0, 1) := by decide +kernel
theorem dX0_outcome_144 : decode cX0_outcome 144 = .ok (.getfield 9, 3) := by decide +kernel
theorem dX0_outcome_147 : decode cX0_outcome 147 = .ok (.iload_n 3, 1) := by decide +kernel
theorem dX0_outcome_148 : decode cX0_outcome 148 = .ok (.sipush 255, 3) := by decide +kernel
theorem dX0_outcome_151 : decode cX0_outcome 151 = .ok (.iand, 1) := by decide +kernel
theorem dX0_outcome_152 : decode cX0_outcome 152 = .ok (.iaload, 1) := by decide +kernel
theorem dX0_outcome_153 : decode cX0_outcome 153 = .ok (.ireturn, 1) := by decide +kernel
theorem dX0_picked_0 : decode cX0_picked 0 = .ok (.iload_n 3, 1) := by decide +kernel
theorem dX0_picked_1 : decode cX0_picked 1 = .ok (.ifCond .eq 12, 3) := by decide +kernel
theorem dX0_picked_4 : decode cX0_picked 4 = .ok (.aload_n 0, 1) := by decide +kernel
theorem dX0_picked_5 : decode cX0_picked 5 = .ok (.getfield 15, 3) := by decide +kernel
theorem dX0_picked_8 : decode cX0_picked 8 = .ok (.iload_n 2, 1) := by decide +kernel
theorem dX0_picked_9 : decode cX0_picked 9 = .ok (.iaload, 1) := by decide +kernel
theorem dX0_picked_10 : decode cX0_picked 10 = .ok (.goto 10, 3) := by decide +kernel
theorem dX0_picked_13 : decode cX0_picked 13 = .ok (.aload_n 0, 1) := by decide +kernel
theorem dX0_picked_14 : decode cX0_picked 14 = .ok (.getfield 18, 3) := by decide +kernel
theorem dX0_picked_17 : decode cX0_picked 17 = .ok (.iload_n 2, 1) := by decide +kernel
theorem dX0_picked_18 : decode cX0_picked 18 = .ok (.iaload, 1) := by decide +kernel
theorem dX0_picked_19 : decode cX0_picked 19 = .ok (.ineg, 1) := by decide +kernel
theorem dX0_picked_20 : decode cX0_picked 20 = .ok (.istore 4, 2) := by decide +kernel
theorem dX0_picked_22 : decode cX0_picked 22 = .ok (.iload 4, 2) := by decide +kernel
theorem dX0_picked_24 : decode cX0_picked 24 = .ok (.aload_n 0, 1) := by decide +kernel
theorem dX0_picked_25 : decode cX0_picked 25 = .ok (.getfield 9, 3) := by decide +kernel
theorem dX0_picked_28 : decode cX0_picked 28 = .ok (.iload_n 1, 1) := by decide +kernel
theorem dX0_picked_29 : decode cX0_picked 29 = .ok (.iconst 1, 1) := by decide +kernel
theorem dX0_picked_30 : decode cX0_picked 30 = .ok (.iload_n 2, 1) := by decide +kernel
theorem dX0_picked_31 : decode cX0_picked 31 = .ok (.ishl, 1) := by decide +kernel
theorem dX0_picked_32 : decode cX0_picked 32 = .ok (.iconst (-1), 1) := by decide +kernel
theorem dX0_picked_33 : decode cX0_picked 33 = .ok (.ixor, 1) := by decide +kernel
theorem dX0_picked_34 : decode cX0_picked 34 = .ok (.iand, 1) := by decide +kernel
theorem dX0_picked_35 : decode cX0_picked 35 = .ok (.sipush 255, 3) := by decide +kernel
theorem dX0_picked_38 : decode cX0_picked 38 = .ok (.iand, 1) := by decide +kernel
theorem dX0_picked_39 : decode cX0_picked 39 = .ok (.iaload, 1) := by decide +kernel
theorem dX0_picked_40 : decode cX0_picked 40 = .ok (.iadd, 1) := by decide +kernel
theorem dX0_picked_41 : decode cX0_picked 41 = .ok (.ireturn, 1) := by decide +kernel
theorem dX10_act0_0 : decode cX10_act0 0 = .ok (.iload_n 1, 1) := by decide +kernel
theorem dX10_act0_1 : decode cX10_act0 1 = .ok (.sipush 200, 3) := by decide +kernel
theorem dX10_act0_4 : decode cX10_act0 4 = .ok (.if_icmp .ge 27, 3) := by decide +kernel
theorem dX10_act0_7 : decode cX10_act0 7 = .ok (.aload_n 0, 1) := by decide +kernel
theorem dX10_act0_8 : decode cX10_act0 8 = .ok (.iload_n 1, 1) := by decide +kernel
theorem dX10_act0_9 : decode cX10_act0 9 = .ok (.bipush 100, 2) := by decide +kernel
theorem dX10_act0_11 : decode cX10_act0 11 = .ok (.isub, 1) := by decide +kernel
theorem dX10_act0_12 : decode cX10_act0 12 = .ok (.bipush 10, 2) := by decide +kernel
theorem dX10_act0_14 : decode cX10_act0 14 = .ok (.idiv, 1) := by decide +kernel
theorem dX10_act0_15 : decode cX10_act0 15 = .ok (.iload_n 1, 1) := by decide +kernel
theorem dX10_act0_16 : decode cX10_act0 16 = .ok (.bipush 100, 2) := by decide +kernel
theorem dX10_act0_18 : decode cX10_act0 18 = .ok (.isub, 1) := by decide +kernel
theorem dX10_act0_19 : decode cX10_act0 19 = .ok (.bipush 10, 2) := by decide +kernel
theorem dX10_act0_21 : decode cX10_act0 21 = .ok (.irem, 1) := by decide +kernel
theorem dX10_act0_22 : decode cX10_act0 22 = .ok (.iconst 1, 1) := by decide +kernel
theorem dX10_act0_23 : decode cX10_act0 23 = .ok (.isub, 1) := by decide +kernel
theorem dX10_act0_24 : decode cX10_act0 24 = .ok (.invokevirtual 233, 3) := by decide +kernel
theorem dX10_act0_27 : decode cX10_act0 27 = .ok (.pop, 1) := by decide +kernel
theorem dX10_act0_28 : decode cX10_act0 28 = .ok (.goto 42, 3) := by decide +kernel
theorem dX10_act0_31 : decode cX10_act0 31 = .ok (.iload_n 1, 1) := by decide +kernel
theorem dX10_act0_32 : decode cX10_act0 32 = .ok (.sipush 300, 3) := by decide +kernel
theorem dX10_act0_35 : decode cX10_act0 35 = .ok (.if_icmp .ge 26, 3) := by decide +kernel
theorem dX10_act0_38 : decode cX10_act0 38 = .ok (.aload_n 0, 1) := by decide +kernel
theorem dX10_act0_39 : decode cX10_act0 39 = .ok (.iload_n 1, 1) := by decide +kernel
theorem dX10_act0_40 : decode cX10_act0 40 = .ok (.sipush 200, 3) := by decide +kernel
theorem dX10_act0_43 : decode cX10_act0 43 = .ok (.isub, 1) := by decide +kernel
theorem dX10_act0_44 : decode cX10_act0 44 = .ok (.bipush 10, 2) := by decide +kernel
theorem dX10_act0_46 : decode cX10_act0 46 = .ok (.idiv, 1) := by decide +kernel
theorem dX10_act0_47 : decode cX10_act0 47 = .ok (.iload_n 1, 1) := by decide +kernel
theorem dX10_act0_48 : decode cX10_act0 48 = .ok (.sipush 200, 3) := by decide +kernel
theorem dX10_act0_51 : decode cX10_act0 51 = .ok (.isub, 1) := by decide +kernel
theorem dX10_act0_52 : decode cX10_act0 52 = .ok (.bipush 10, 2) := by decide +kernel
theorem dX10_act0_54 : decode cX10_act0 54 = .ok (.irem, 1) := by decide +kernel
theorem dX10_act0_55 : decode cX10_act0 55 = .ok (.invokevirtual 236, 3) := by decide +kernel
theorem dX10_act0_58 : decode cX10_act0 58 = .ok (.goto 12, 3) := by decide +kernel
theorem dX10_act0_61 : decode cX10_act0 61 = .ok (.aload_n 0, 1) := by decide +kernel
theorem dX10_act0_62 : decode cX10_act0 62 = .ok (.iload_n 1, 1) := by decide +kernel
theorem dX10_act0_63 : decode cX10_act0 63 = .ok (.sipush 300, 3) := by decide +kernel
theorem dX10_act0_66 : decode cX10_act0 66 = .ok (.isub, 1) := by decide +kernel
theorem dX10_act0_67 : decode cX10_act0 67 = .ok (.invokevirtual 240, 3) := by decide +kernel
theorem dX10_act0_70 : decode cX10_act0 70 = .ok (.return_, 1) := by decide +kernel
theorem dX10_advance_0 : decode cX10_advance 0 = .ok (.aload_n 0, 1) := by decide +kernel
theorem dX10_advance_1 : decode cX10_advance 1 = .ok (.aload_n 0, 1) := by decide +kernel
theorem dX10_advance_2 : decode cX10_advance 2 = .ok (.getfield 103, 3) := by decide +kernel
theorem dX10_advance_5 : decode cX10_advance 5 = .ok (.invokevirtual 106, 3) := by decide +kernel
theorem dX10_advance_8 : decode cX10_advance 8 = .ok (.bipush 32, 2) := by decide +kernel
theorem dX10_advance_10 : decode cX10_advance 10 = .ok (.if_icmp .eq 16, 3) := by decide +kernel
theorem dX10_advance_13 : decode cX10_advance 13 = .ok (.aload_n 0, 1) := by decide +kernel
theorem dX10_advance_14 : decode cX10_advance 14 = .ok (.aload_n 0, 1) := by decide +kernel
theorem dX10_advance_15 : decode cX10_advance 15 = .ok (.getfield 103, 3) := by decide +kernel
theorem dX10_advance_18 : decode cX10_advance 18 = .ok (.invokevirtual 106, 3) := by decide +kernel
theorem dX10_advance_21 : decode cX10_advance 21 = .ok (.bipush 10, 2) := by decide +kernel
theorem dX10_advance_23 : decode cX10_advance 23 = .ok (.if_icmp .ne 16, 3) := by decide +kernel
theorem dX10_advance_26 : decode cX10_advance 26 = .ok (.aload_n 0, 1) := by decide +kernel
theorem dX10_advance_27 : decode cX10_advance 27 = .ok (.dup, 1) := by decide +kernel
theorem dX10_advance_28 : decode cX10_advance 28 = .ok (.getfield 103, 3) := by decide +kernel
theorem dX10_advance_31 : decode cX10_advance 31 = .ok (.iconst 1, 1) := by decide +kernel
theorem dX10_advance_32 : decode cX10_advance 32 = .ok (.iadd, 1) := by decide +kernel
theorem dX10_advance_33 : decode cX10_advance 33 = .ok (.putfield 103, 3) := by decide +kernel
theorem dX10_advance_36 : decode cX10_advance 36 = .ok (.goto (-36), 3) := by decide +kernel
theorem dX10_advance_39 : decode cX10_advance 39 = .ok (.aload_n 0, 1) := by decide +kernel
theorem dX10_advance_40 : decode cX10_advance 40 = .ok (.aload_n 0, 1) := by decide +kernel
theorem dX10_advance_41 : decode cX10_advance 41 = .ok (.getfield 103, 3) := by decide +kernel
theorem dX10_advance_44 : decode cX10_advance 44 = .ok (.putfield 110, 3) := by decide +kernel
theorem dX10_advance_47 : decode cX10_advance 47 = .ok (.aload_n 0, 1) := by decide +kernel
theorem dX10_advance_48 : decode cX10_advance 48 = .ok (.aload_n 0, 1) := by decide +kernel
theorem dX10_advance_49 : decode cX10_advance 49 = .ok (.getfield 103, 3) := by decide +kernel
theorem dX10_advance_52 : decode cX10_advance 52 = .ok (.invokevirtual 106, 3) := by decide +kernel
theorem dX10_advance_55 : decode cX10_advance 55 = .ok (.istore_n 1, 1) := by decide +kernel
theorem dX10_advance_56 : decode cX10_advance 56 = .ok (.iload_n 1, 1) := by decide +kernel
theorem dX10_advance_57 : decode cX10_advance 57 = .ok (.iconst (-1), 1) := by decide +kernel
theorem dX10_advance_58 : decode cX10_advance 58 = .ok (.if_icmp .ne 11, 3) := by decide +kernel
theorem dX10_advance_61 : decode cX10_advance 61 = .ok (.aload_n 0, 1) := by decide +kernel
theorem dX10_advance_62 : decode cX10_advance 62 = .ok (.iconst 0, 1) := by decide +kernel
theorem dX10_advance_63 : decode cX10_advance 63 = .ok (.putfield 113, 3) := by decide +kernel
theorem dX10_advance_66 : decode cX10_advance 66 = .ok (.goto 173, 3) := by decide +kernel
theorem dX10_advance_69 : decode cX10_advance 69 = .ok (.iload_n 1, 1) := by decide +kernel
theorem dX10_advance_70 : decode cX10_advance 70 = .ok (.i2l, 1) := by decide +kernel
theorem dX10_advance_71 : decode cX10_advance 71 = .ok (.ldc2_w 116, 3) := by decide +kernel
theorem dX10_advance_74 : decode cX10_advance 74 = .ok (.ldc2_w 118, 3) := by decide +kernel
theorem dX10_advance_77 : decode cX10_advance 77 = .ok (.invokestatic 85, 3) := by decide +kernel
theorem dX10_advance_80 : decode cX10_advance 80 = .ok (.ifCond .eq 45, 3) := by decide +kernel
theorem dX10_advance_83 : decode cX10_advance 83 = .ok (.aload_n 0, 1) := by decide +kernel
theorem dX10_advance_84 : decode cX10_advance 84 = .ok (.aload_n 0, 1) := by decide +kernel
theorem dX10_advance_85 : decode cX10_advance 85 = .ok (.getfield 103, 3) := by decide +kernel
theorem dX10_advance_88 : decode cX10_advance 88 = .ok (.invokevirtual 106, 3) := by decide +kernel
theorem dX10_advance_91 : decode cX10_advance 91 = .ok (.i2l, 1) := by decide +kernel
theorem dX10_advance_92 : decode cX10_advance 92 = .ok (.ldc2_w 116, 3) := by decide +kernel
theorem dX10_advance_95 : decode cX10_advance 95 = .ok (.ldc2_w 118, 3) := by decide +kernel
theorem dX10_advance_98 : decode cX10_advance 98 = .ok (.invokestatic 85, 3) := by decide +kernel
theorem dX10_advance_101 : decode cX10_advance 101 = .ok (.ifCond .eq 16, 3) := by decide +kernel
theorem dX10_advance_104 : decode cX10_advance 104 = .ok (.aload_n 0, 1) := by decide +kernel
theorem dX10_advance_105 : decode cX10_advance 105 = .ok (.dup, 1) := by decide +kernel
theorem dX10_advance_106 : decode cX10_advance 106 = .ok (.getfield 103, 3) := by decide +kernel
theorem dX10_advance_109 : decode cX10_advance 109 = .ok (.iconst 1, 1) := by decide +kernel
theorem dX10_advance_110 : decode cX10_advance 110 = .ok (.iadd, 1) := by decide +kernel
theorem dX10_advance_111 : decode cX10_advance 111 = .ok (.putfield 103, 3) := by decide +kernel
theorem dX10_advance_114 : decode cX10_advance 114 = .ok (.goto (-31), 3) := by decide +kernel
theorem dX10_advance_117 : decode cX10_advance 117 = .ok (.aload_n 0, 1) := by decide +kernel
theorem dX10_advance_118 : decode cX10_advance 118 = .ok (.iconst 1, 1) := by decide +kernel
theorem dX10_advance_119 : decode cX10_advance 119 = .ok (.putfield 113, 3) := by decide +kernel
theorem dX10_advance_122 : decode cX10_advance 122 = .ok (.goto 117, 3) := by decide +kernel
theorem dX10_advance_125 : decode cX10_advance 125 = .ok (.iload_n 1, 1) := by decide +kernel
theorem dX10_advance_126 : decode cX10_advance 126 = .ok (.i2l, 1) := by decide +kernel
theorem dX10_advance_127 : decode cX10_advance 127 = .ok (.ldc2_w 120, 3) := by decide +kernel
theorem dX10_advance_130 : decode cX10_advance 130 = .ok (.ldc2_w 122, 3) := by decide +kernel
theorem dX10_advance_133 : decode cX10_advance 133 = .ok (.invokestatic 85, 3) := by decide +kernel
theorem dX10_advance_136 : decode cX10_advance 136 = .ok (.ifCond .eq 78, 3) := by decide +kernel
theorem dX10_advance_139 : decode cX10_advance 139 = .ok (.aload_n 0, 1) := by decide +kernel
theorem dX10_advance_140 : decode cX10_advance 140 = .ok (.iconst 0, 1) := by decide +kernel
theorem dX10_advance_141 : decode cX10_advance 141 = .ok (.putfield 124, 3) := by decide +kernel
theorem dX10_advance_144 : decode cX10_advance 144 = .ok (.aload_n 0, 1) := by decide +kernel
theorem dX10_advance_145 : decode cX10_advance 145 = .ok (.aload_n 0, 1) := by decide +kernel
theorem dX10_advance_146 : decode cX10_advance 146 = .ok (.getfield 103, 3) := by decide +kernel
theorem dX10_advance_149 : decode cX10_advance 149 = .ok (.invokevirtual 106, 3) := by decide +kernel
theorem dX10_advance_152 : decode cX10_advance 152 = .ok (.i2l, 1) := by decide +kernel
theorem dX10_advance_153 : decode cX10_advance 153 = .ok (.ldc2_w 120, 3) := by decide +kernel
theorem dX10_advance_156 : decode cX10_advance 156 = .ok (.ldc2_w 122, 3) := by decide +kernel
theorem dX10_advance_159 : decode cX10_advance 159 = .ok (.invokestatic 85, 3) := by decide +kernel
theorem dX10_advance_162 : decode cX10_advance 162 = .ok (.ifCond .eq 44, 3) := by decide +kernel
theorem dX10_advance_165 : decode cX10_advance 165 = .ok (.aload_n 0, 1) := by decide +kernel
theorem dX10_advance_166 : decode cX10_advance 166 = .ok (.ldc 127, 2) := by decide +kernel
theorem dX10_advance_168 : decode cX10_advance 168 = .ok (.bipush 10, 2) := by decide +kernel
theorem dX10_advance_170 : decode cX10_advance 170 = .ok (.aload_n 0, 1) := by decide +kernel
theorem dX10_advance_171 : decode cX10_advance 171 = .ok (.getfield 124, 3) := by decide +kernel
theorem dX10_advance_174 : decode cX10_advance 174 = .ok (.imul, 1) := by decide +kernel
theorem dX10_advance_175 : decode cX10_advance 175 = .ok (.aload_n 0, 1) := by decide +kernel
theorem dX10_advance_176 : decode cX10_advance 176 = .ok (.aload_n 0, 1) := by decide +kernel
theorem dX10_advance_177 : decode cX10_advance 177 = .ok (.getfield 103, 3) := by decide +kernel
theorem dX10_advance_180 : decode cX10_advance 180 = .ok (.invokevirtual 106, 3) := by decide +kernel
theorem dX10_advance_183 : decode cX10_advance 183 = .ok (.iadd, 1) := by decide +kernel
theorem dX10_advance_184 : decode cX10_advance 184 = .ok (.bipush 48, 2) := by decide +kernel
theorem dX10_advance_186 : decode cX10_advance 186 = .ok (.isub, 1) := by decide +kernel
theorem dX10_advance_187 : decode cX10_advance 187 = .ok (.invokestatic 128, 3) := by decide +kernel
theorem dX10_advance_190 : decode cX10_advance 190 = .ok (.putfield 124, 3) := by decide +kernel
theorem dX10_advance_193 : decode cX10_advance 193 = .ok (.aload_n 0, 1) := by decide +kernel
theorem dX10_advance_194 : decode cX10_advance 194 = .ok (.dup, 1) := by decide +kernel
theorem dX10_advance_195 : decode cX10_advance 195 = .ok (.getfield 103, 3) := by decide +kernel
theorem dX10_advance_198 : decode cX10_advance 198 = .ok (.iconst 1, 1) := by decide +kernel
theorem dX10_advance_199 : decode cX10_advance 199 = .ok (.iadd, 1) := by decide +kernel
theorem dX10_advance_200 : decode cX10_advance 200 = .ok (.putfield 103, 3) := by decide +kernel
theorem dX10_advance_203 : decode cX10_advance 203 = .ok (.goto (-59), 3) := by decide +kernel
theorem dX10_advance_206 : decode cX10_advance 206 = .ok (.aload_n 0, 1) := by decide +kernel
theorem dX10_advance_207 : decode cX10_advance 207 = .ok (.iconst 2, 1) := by decide +kernel
theorem dX10_advance_208 : decode cX10_advance 208 = .ok (.putfield 113, 3) := by decide +kernel
theorem dX10_advance_211 : decode cX10_advance 211 = .ok (.goto 28, 3) := by decide +kernel
theorem dX10_advance_214 : decode cX10_advance 214 = .ok (.aload_n 0, 1) := by decide +kernel
theorem dX10_advance_215 : decode cX10_advance 215 = .ok (.iload_n 1, 1) := by decide +kernel
theorem dX10_advance_216 : decode cX10_advance 216 = .ok (.bipush 59, 2) := by decide +kernel
theorem dX10_advance_218 : decode cX10_advance 218 = .ok (.if_icmp .ne 7, 3) := by decide +kernel
theorem dX10_advance_221 : decode cX10_advance 221 = .ok (.iconst 3, 1) := by decide +kernel
theorem dX10_advance_222 : decode cX10_advance 222 = .ok (.goto 4, 3) := by decide +kernel
theorem dX10_advance_225 : decode cX10_advance 225 = .ok (.iconst 4, 1) := by decide +kernel
theorem dX10_advance_226 : decode cX10_advance 226 = .ok (.putfield 113, 3) := by decide +kernel
theorem dX10_advance_229 : decode cX10_advance 229 = .ok (.aload_n 0, 1) := by decide +kernel
theorem dX10_advance_230 : decode cX10_advance 230 = .ok (.dup, 1) := by decide +kernel
theorem dX10_advance_231 : decode cX10_advance 231 = .ok (.getfield 103, 3) := by decide +kernel
theorem dX10_advance_234 : decode cX10_advance 234 = .ok (.iconst 1, 1) := by decide +kernel
theorem dX10_advance_235 : decode cX10_advance 235 = .ok (.iadd, 1) := by decide +kernel
theorem dX10_advance_236 : decode cX10_advance 236 = .ok (.putfield 103, 3) := by decide +kernel
theorem dX10_advance_239 : decode cX10_advance 239 = .ok (.return_, 1) := by decide +kernel
theorem dX10_agree_0 : decode cX10_agree 0 = .ok (.aload_n 0, 1) := by decide +kernel
theorem dX10_agree_1 : decode cX10_agree 1 = .ok (.iload_n 1, 1) := by decide +kernel
theorem dX10_agree_2 : decode cX10_agree 2 = .ok (.invokevirtual 269, 3) := by decide +kernel
theorem dX10_agree_5 : decode cX10_agree 5 = .ok (.ifCond .eq 11, 3) := by decide +kernel
theorem dX10_agree_8 : decode cX10_agree 8 = .ok (.aload_n 0, 1) := by decide +kernel
theorem dX10_agree_9 : decode cX10_agree 9 = .ok (.iload_n 2, 1) := by decide +kernel
theorem dX10_agree_10 : decode cX10_agree 10 = .ok (.invokevirtual 269, 3) := by decide +kernel
theorem dX10_agree_13 : decode cX10_agree 13 = .ok (.ifCond .ne 6, 3) := by decide +kernel
theorem dX10_agree_16 : decode cX10_agree 16 = .ok (.bipush (-2), 2) := by decide +kernel
theorem dX10_agree_18 : decode cX10_agree 18 = .ok (.ireturn, 1) := by decide +kernel
theorem dX10_agree_19 : decode cX10_agree 19 = .ok (.aload_n 0, 1) := by decide +kernel
theorem dX10_agree_20 : decode cX10_agree 20 = .ok (.invokevirtual 273, 3) := by decide +kernel
theorem dX10_agree_23 : decode cX10_agree 23 = .ok (.aload_n 0, 1) := by decide +kernel
theorem dX10_agree_24 : decode cX10_agree 24 = .ok (.iload_n 1, 1) := by decide +kernel
theorem dX10_agree_25 : decode cX10_agree 25 = .ok (.iload_n 2, 1) := by decide +kernel
theorem dX10_agree_26 : decode cX10_agree 26 = .ok (.invokevirtual 382, 3) := by decide +kernel
theorem dX10_agree_29 : decode cX10_agree 29 = .ok (.ireturn, 1) := by decide +kernel
theorem dX10_agreeOf_0 : decode cX10_agreeOf 0 = .ok (.iconst 0, 1) := by decide +kernel
theorem dX10_agreeOf_1 : decode cX10_agreeOf 1 = .ok (.istore_n 3, 1) := by decide +kernel
theorem dX10_agreeOf_2 : decode cX10_agreeOf 2 = .ok (.iconst 0, 1) := by decide +kernel
theorem dX10_agreeOf_3 : decode cX10_agreeOf 3 = .ok (.istore 4, 2) := by decide +kernel
theorem dX10_agreeOf_5 : decode cX10_agreeOf 5 = .ok (.iload 4, 2) := by decide +kernel
theorem dX10_agreeOf_7 : decode cX10_agreeOf 7 = .ok (.aload_n 0, 1) := by decide +kernel
theorem dX10_agreeOf_8 : decode cX10_agreeOf 8 = .ok (.getfield 9, 3) := by decide +kernel
theorem dX10_agreeOf_11 : decode cX10_agreeOf 11 = .ok (.iconst 0, 1) := by decide +kernel
theorem dX10_agreeOf_12 : decode cX10_agreeOf 12 = .ok (.iaload, 1) := by decide +kernel
theorem dX10_agreeOf_13 : decode cX10_agreeOf 13 = .ok (.if_icmp .ge 43, 3) := by decide +kernel
theorem dX10_agreeOf_16 : decode cX10_agreeOf 16 = .ok (.iload_n 3, 1) := by decide +kernel
theorem dX10_agreeOf_17 : decode cX10_agreeOf 17 = .ok (.aload_n 0, 1) := by decide +kernel
theorem dX10_agreeOf_18 : decode cX10_agreeOf 18 = .ok (.iload 4, 2) := by decide +kernel
theorem dX10_agreeOf_20 : decode cX10_agreeOf 20 = .ok (.invokevirtual 285, 3) := by decide +kernel
theorem dX10_agreeOf_23 : decode cX10_agreeOf 23 = .ok (.ifCond .eq 24, 3) := by decide +kernel
theorem dX10_agreeOf_26 : decode cX10_agreeOf 26 = .ok (.aload_n 0, 1) := by decide +kernel
theorem dX10_agreeOf_27 : decode cX10_agreeOf 27 = .ok (.iload_n 1, 1) := by decide +kernel
theorem dX10_agreeOf_28 : decode cX10_agreeOf 28 = .ok (.iload 4, 2) := by decide +kernel
theorem dX10_agreeOf_30 : decode cX10_agreeOf 30 = .ok (.invokevirtual 358, 3) := by decide +kernel
theorem dX10_agreeOf_33 : decode cX10_agreeOf 33 = .ok (.aload_n 0, 1) := by decide +kernel
theorem dX10_agreeOf_34 : decode cX10_agreeOf 34 = .ok (.iload_n 2, 1) := by decide +kernel
theorem dX10_agreeOf_35 : decode cX10_agreeOf 35 = .ok (.iload 4, 2) := by decide +kernel
theorem dX10_agreeOf_37 : decode cX10_agreeOf 37 = .ok (.invokevirtual 358, 3) := by decide +kernel
theorem dX10_agreeOf_40 : decode cX10_agreeOf 40 = .ok (.if_icmp .ne 7, 3) := by decide +kernel
theorem dX10_agreeOf_43 : decode cX10_agreeOf 43 = .ok (.iconst 1, 1) := by decide +kernel
theorem dX10_agreeOf_44 : decode cX10_agreeOf 44 = .ok (.goto 4, 3) := by decide +kernel
theorem dX10_agreeOf_47 : decode cX10_agreeOf 47 = .ok (.iconst 0, 1) := by decide +kernel
theorem dX10_agreeOf_48 : decode cX10_agreeOf 48 = .ok (.iadd, 1) := by decide +kernel
theorem dX10_agreeOf_49 : decode cX10_agreeOf 49 = .ok (.istore_n 3, 1) := by decide +kernel
theorem dX10_agreeOf_50 : decode cX10_agreeOf 50 = .ok (.iinc 4 1, 3) := by decide +kernel
theorem dX10_agreeOf_53 : decode cX10_agreeOf 53 = .ok (.goto (-48), 3) := by decide +kernel
theorem dX10_agreeOf_56 : decode cX10_agreeOf 56 = .ok (.iload_n 3, 1) := by decide +kernel
theorem dX10_agreeOf_57 : decode cX10_agreeOf 57 = .ok (.ireturn, 1) := by decide +kernel
theorem dX10_aloneIn_0 : decode cX10_aloneIn 0 = .ok (.aload_n 0, 1) := by decide +kernel
theorem dX10_aloneIn_1 : decode cX10_aloneIn 1 = .ok (.iconst 1, 1) := by decide +kernel
theorem dX10_aloneIn_2 : decode cX10_aloneIn 2 = .ok (.iload_n 1, 1) := by decide +kernel
theorem dX10_aloneIn_3 : decode cX10_aloneIn 3 = .ok (.ishl, 1) := by decide +kernel
theorem dX10_aloneIn_4 : decode cX10_aloneIn 4 = .ok (.iload_n 2, 1) := by decide +kernel
theorem dX10_aloneIn_5 : decode cX10_aloneIn 5 = .ok (.iconst (-1), 1) := by decide +kernel
theorem dX10_aloneIn_6 : decode cX10_aloneIn 6 = .ok (.iconst 0, 1) := by decide +kernel
theorem dX10_aloneIn_7 : decode cX10_aloneIn 7 = .ok (.invokevirtual 249, 3) := by decide +kernel
theorem dX10_aloneIn_10 : decode cX10_aloneIn 10 = .ok (.ireturn, 1) := by decide +kernel
theorem dX10_anew_0 : decode cX10_anew 0 = .ok (.aload_n 0, 1) := by decide +kernel
theorem dX10_anew_1 : decode cX10_anew 1 = .ok (.invokevirtual 297, 3) := by decide +kernel
theorem dX10_anew_4 : decode cX10_anew 4 = .ok (.ifCond .ne 6, 3) := by decide +kernel
theorem dX10_anew_7 : decode cX10_anew 7 = .ok (.bipush (-2), 2) := by decide +kernel
theorem dX10_anew_9 : decode cX10_anew 9 = .ok (.ireturn, 1) := by decide +kernel
theorem dX10_anew_10 : decode cX10_anew 10 = .ok (.aload_n 0, 1) := by decide +kernel
theorem dX10_anew_11 : decode cX10_anew 11 = .ok (.getfield 9, 3) := by decide +kernel
theorem dX10_anew_14 : decode cX10_anew 14 = .ok (.bipush 7, 2) := by decide +kernel
theorem dX10_anew_16 : decode cX10_anew 16 = .ok (.iaload, 1) := by decide +kernel
theorem dX10_anew_17 : decode cX10_anew 17 = .ok (.istore_n 1, 1) := by decide +kernel
theorem dX10_anew_18 : decode cX10_anew 18 = .ok (.aload_n 0, 1) := by decide +kernel
theorem dX10_anew_19 : decode cX10_anew 19 = .ok (.getfield 9, 3) := by decide +kernel
theorem dX10_anew_22 : decode cX10_anew 22 = .ok (.bipush 7, 2) := by decide +kernel
theorem dX10_anew_24 : decode cX10_anew 24 = .ok (.iconst 0, 1) := by decide +kernel
theorem dX10_anew_25 : decode cX10_anew 25 = .ok (.iastore, 1) := by decide +kernel
theorem dX10_anew_26 : decode cX10_anew 26 = .ok (.iload_n 1, 1) := by decide +kernel
theorem dX10_anew_27 : decode cX10_anew 27 = .ok (.ireturn, 1) := by decide +kernel
theorem dX10_argue_0 : decode cX10_argue 0 = .ok (.iload_n 2, 1) := by decide +kernel
theorem dX10_argue_1 : decode cX10_argue 1 = .ok (.iconst (-1), 1) := by decide +kernel
theorem dX10_argue_2 : decode cX10_argue 2 = .ok (.if_icmp .eq 13, 3) := by decide +kernel
theorem dX10_argue_5 : decode cX10_argue 5 = .ok (.aload_n 0, 1) := by decide +kernel
theorem dX10_argue_6 : decode cX10_argue 6 = .ok (.iload_n 1, 1) := by decide +kernel
theorem dX10_argue_7 : decode cX10_argue 7 = .ok (.iload_n 2, 1) := by decide +kernel
theorem dX10_argue_8 : decode cX10_argue 8 = .ok (.i2l, 1) := by decide +kernel
theorem dX10_argue_9 : decode cX10_argue 9 = .ok (.invokevirtual 290, 3) := by decide +kernel
theorem dX10_argue_12 : decode cX10_argue 12 = .ok (.ifCond .ne 6, 3) := by decide +kernel
theorem dX10_argue_15 : decode cX10_argue 15 = .ok (.bipush (-2), 2) := by decide +kernel
theorem dX10_argue_17 : decode cX10_argue 17 = .ok (.ireturn, 1) := by decide +kernel
theorem dX10_argue_18 : decode cX10_argue 18 = .ok (.iconst 0, 1) := by decide +kernel
theorem dX10_argue_19 : decode cX10_argue 19 = .ok (.istore_n 3, 1) := by decide +kernel
theorem dX10_argue_20 : decode cX10_argue 20 = .ok (.iload_n 3, 1) := by decide +kernel
theorem dX10_argue_21 : decode cX10_argue 21 = .ok (.bipush 40, 2) := by decide +kernel
theorem dX10_argue_23 : decode cX10_argue 23 = .ok (.if_icmp .gt 32, 3) := by decide +kernel
theorem dX10_argue_26 : decode cX10_argue 26 = .ok (.aload_n 0, 1) := by decide +kernel
theorem dX10_argue_27 : decode cX10_argue 27 = .ok (.aload_n 0, 1) := by decide +kernel
theorem dX10_argue_28 : decode cX10_argue 28 = .ok (.iload_n 1, 1) := by decide +kernel
theorem dX10_argue_29 : decode cX10_argue 29 = .ok (.invokevirtual 246, 3) := by decide +kernel
theorem dX10_argue_32 : decode cX10_argue 32 = .ok (.aload_n 0, 1) := by decide +kernel
theorem dX10_argue_33 : decode cX10_argue 33 = .ok (.getfield 43, 3) := by decide +kernel
theorem dX10_argue_36 : decode cX10_argue 36 = .ok (.iload_n 1, 1) := by decide +kernel
theorem dX10_argue_37 : decode cX10_argue 37 = .ok (.iaload, 1) := by decide +kernel
theorem dX10_argue_38 : decode cX10_argue 38 = .ok (.iload_n 2, 1) := by decide +kernel
theorem dX10_argue_39 : decode cX10_argue 39 = .ok (.iload_n 3, 1) := by decide +kernel
theorem dX10_argue_40 : decode cX10_argue 40 = .ok (.invokevirtual 249, 3) := by decide +kernel
theorem dX10_argue_43 : decode cX10_argue 43 = .ok (.iload_n 2, 1) := by decide +kernel
theorem dX10_argue_44 : decode cX10_argue 44 = .ok (.if_icmp .ne 5, 3) := by decide +kernel
theorem dX10_argue_47 : decode cX10_argue 47 = .ok (.iload_n 3, 1) := by decide +kernel
theorem dX10_argue_48 : decode cX10_argue 48 = .ok (.ireturn, 1) := by decide +kernel
theorem dX10_argue_49 : decode cX10_argue 49 = .ok (.iinc 3 1, 3) := by decide +kernel
theorem dX10_argue_52 : decode cX10_argue 52 = .ok (.goto (-32), 3) := by decide +kernel
theorem dX10_argue_55 : decode cX10_argue 55 = .ok (.iconst (-1), 1) := by decide +kernel
theorem dX10_argue_56 : decode cX10_argue 56 = .ok (.ireturn, 1) := by decide +kernel
theorem dX10_asItIs_0 : decode cX10_asItIs 0 = .ok (.iconst 0, 1) := by decide +kernel
theorem dX10_asItIs_1 : decode cX10_asItIs 1 = .ok (.istore_n 1, 1) := by decide +kernel
theorem dX10_asItIs_2 : decode cX10_asItIs 2 = .ok (.iload_n 1, 1) := by decide +kernel
theorem dX10_asItIs_3 : decode cX10_asItIs 3 = .ok (.bipush 8, 2) := by decide +kernel
theorem dX10_asItIs_5 : decode cX10_asItIs 5 = .ok (.if_icmp .ge 75, 3) := by decide +kernel
theorem dX10_asItIs_8 : decode cX10_asItIs 8 = .ok (.aload_n 0, 1) := by decide +kernel
theorem dX10_asItIs_9 : decode cX10_asItIs 9 = .ok (.getfield 34, 3) := by decide +kernel
theorem dX10_asItIs_12 : decode cX10_asItIs 12 = .ok (.iload_n 1, 1) := by decide +kernel
theorem dX10_asItIs_13 : decode cX10_asItIs 13 = .ok (.aload_n 0, 1) := by decide +kernel
theorem dX10_asItIs_14 : decode cX10_asItIs 14 = .ok (.getfield 9, 3) := by decide +kernel
theorem dX10_asItIs_17 : decode cX10_asItIs 17 = .ok (.bipush 32, 2) := by decide +kernel
theorem dX10_asItIs_19 : decode cX10_asItIs 19 = .ok (.bipush 9, 2) := by decide +kernel
theorem dX10_asItIs_21 : decode cX10_asItIs 21 = .ok (.iload_n 1, 1) := by decide +kernel
theorem dX10_asItIs_22 : decode cX10_asItIs 22 = .ok (.imul, 1) := by decide +kernel
theorem dX10_asItIs_23 : decode cX10_asItIs 23 = .ok (.iadd, 1) := by decide +kernel
theorem dX10_asItIs_24 : decode cX10_asItIs 24 = .ok (.iaload, 1) := by decide +kernel
theorem dX10_asItIs_25 : decode cX10_asItIs 25 = .ok (.iastore, 1) := by decide +kernel
theorem dX10_asItIs_26 : decode cX10_asItIs 26 = .ok (.aload_n 0, 1) := by decide +kernel
theorem dX10_asItIs_27 : decode cX10_asItIs 27 = .ok (.getfield 40, 3) := by decide +kernel
theorem dX10_asItIs_30 : decode cX10_asItIs 30 = .ok (.iload_n 1, 1) := by decide +kernel
theorem dX10_asItIs_31 : decode cX10_asItIs 31 = .ok (.iconst (-1), 1) := by decide +kernel
theorem dX10_asItIs_32 : decode cX10_asItIs 32 = .ok (.iastore, 1) := by decide +kernel
theorem dX10_asItIs_33 : decode cX10_asItIs 33 = .ok (.iconst 0, 1) := by decide +kernel
theorem dX10_asItIs_34 : decode cX10_asItIs 34 = .ok (.istore_n 2, 1) := by decide +kernel
theorem dX10_asItIs_35 : decode cX10_asItIs 35 = .ok (.iload_n 2, 1) := by decide +kernel
theorem dX10_asItIs_36 : decode cX10_asItIs 36 = .ok (.bipush 8, 2) := by decide +kernel
theorem dX10_asItIs_38 : decode cX10_asItIs 38 = .ok (.if_icmp .ge 36, 3) := by decide +kernel
theorem dX10_asItIs_41 : decode cX10_asItIs 41 = .ok (.aload_n 0, 1) := by decide +kernel
theorem dX10_asItIs_42 : decode cX10_asItIs 42 = .ok (.getfield 37, 3) := by decide +kernel
theorem dX10_asItIs_45 : decode cX10_asItIs 45 = .ok (.bipush 8, 2) := by decide +kernel
theorem dX10_asItIs_47 : decode cX10_asItIs 47 = .ok (.iload_n 1, 1) := by decide +kernel
theorem dX10_asItIs_48 : decode cX10_asItIs 48 = .ok (.imul, 1) := by decide +kernel
theorem dX10_asItIs_49 : decode cX10_asItIs 49 = .ok (.iload_n 2, 1) := by decide +kernel
theorem dX10_asItIs_50 : decode cX10_asItIs 50 = .ok (.iadd, 1) := by decide +kernel
theorem dX10_asItIs_51 : decode cX10_asItIs 51 = .ok (.aload_n 0, 1) := by decide +kernel
theorem dX10_asItIs_52 : decode cX10_asItIs 52 = .ok (.getfield 9, 3) := by decide +kernel
theorem dX10_asItIs_55 : decode cX10_asItIs 55 = .ok (.bipush 32, 2) := by decide +kernel
theorem dX10_asItIs_57 : decode cX10_asItIs 57 = .ok (.bipush 9, 2) := by decide +kernel
theorem dX10_asItIs_59 : decode cX10_asItIs 59 = .ok (.iload_n 1, 1) := by decide +kernel
theorem dX10_asItIs_60 : decode cX10_asItIs 60 = .ok (.imul, 1) := by decide +kernel
theorem dX10_asItIs_61 : decode cX10_asItIs 61 = .ok (.iadd, 1) := by decide +kernel
theorem dX10_asItIs_62 : decode cX10_asItIs 62 = .ok (.iconst 1, 1) := by decide +kernel
theorem dX10_asItIs_63 : decode cX10_asItIs 63 = .ok (.iadd, 1) := by decide +kernel
theorem dX10_asItIs_64 : decode cX10_asItIs 64 = .ok (.iload_n 2, 1) := by decide +kernel
theorem dX10_asItIs_65 : decode cX10_asItIs 65 = .ok (.iadd, 1) := by decide +kernel
theorem dX10_asItIs_66 : decode cX10_asItIs 66 = .ok (.iaload, 1) := by decide +kernel
theorem dX10_asItIs_67 : decode cX10_asItIs 67 = .ok (.iastore, 1) := by decide +kernel
theorem dX10_asItIs_68 : decode cX10_asItIs 68 = .ok (.iinc 2 1, 3) := by decide +kernel
theorem dX10_asItIs_71 : decode cX10_asItIs 71 = .ok (.goto (-36), 3) := by decide +kernel
theorem dX10_asItIs_74 : decode cX10_asItIs 74 = .ok (.iinc 1 1, 3) := by decide +kernel
theorem dX10_asItIs_77 : decode cX10_asItIs 77 = .ok (.goto (-75), 3) := by decide +kernel
theorem dX10_asItIs_80 : decode cX10_asItIs 80 = .ok (.iconst 0, 1) := by decide +kernel
theorem dX10_asItIs_81 : decode cX10_asItIs 81 = .ok (.istore_n 1, 1) := by decide +kernel
theorem dX10_asItIs_82 : decode cX10_asItIs 82 = .ok (.iload_n 1, 1) := by decide +kernel
theorem dX10_asItIs_83 : decode cX10_asItIs 83 = .ok (.aload_n 0, 1) := by decide +kernel
theorem dX10_asItIs_84 : decode cX10_asItIs 84 = .ok (.getfield 9, 3) := by decide +kernel
theorem dX10_asItIs_87 : decode cX10_asItIs 87 = .ok (.iconst 4, 1) := by decide +kernel
theorem dX10_asItIs_88 : decode cX10_asItIs 88 = .ok (.iaload, 1) := by decide +kernel
theorem dX10_asItIs_89 : decode cX10_asItIs 89 = .ok (.if_icmp .ge 75, 3) := by decide +kernel
theorem dX10_asItIs_92 : decode cX10_asItIs 92 = .ok (.aload_n 0, 1) := by decide +kernel
theorem dX10_asItIs_93 : decode cX10_asItIs 93 = .ok (.getfield 43, 3) := by decide +kernel
theorem dX10_asItIs_96 : decode cX10_asItIs 96 = .ok (.iload_n 1, 1) := by decide +kernel
theorem dX10_asItIs_97 : decode cX10_asItIs 97 = .ok (.aload_n 0, 1) := by decide +kernel
theorem dX10_asItIs_98 : decode cX10_asItIs 98 = .ok (.getfield 9, 3) := by decide +kernel
theorem dX10_asItIs_101 : decode cX10_asItIs 101 = .ok (.bipush 104, 2) := by decide +kernel
theorem dX10_asItIs_103 : decode cX10_asItIs 103 = .ok (.iconst 2, 1) := by decide +kernel
theorem dX10_asItIs_104 : decode cX10_asItIs 104 = .ok (.iload_n 1, 1) := by decide +kernel
theorem dX10_asItIs_105 : decode cX10_asItIs 105 = .ok (.imul, 1) := by decide +kernel
theorem dX10_asItIs_106 : decode cX10_asItIs 106 = .ok (.iadd, 1) := by decide +kernel
theorem dX10_asItIs_107 : decode cX10_asItIs 107 = .ok (.iaload, 1) := by decide +kernel
theorem dX10_asItIs_108 : decode cX10_asItIs 108 = .ok (.iastore, 1) := by decide +kernel
theorem dX10_asItIs_109 : decode cX10_asItIs 109 = .ok (.aload_n 0, 1) := by decide +kernel
theorem dX10_asItIs_110 : decode cX10_asItIs 110 = .ok (.getfield 46, 3) := by decide +kernel
theorem dX10_asItIs_113 : decode cX10_asItIs 113 = .ok (.iload_n 1, 1) := by decide +kernel
theorem dX10_asItIs_114 : decode cX10_asItIs 114 = .ok (.iconst 0, 1) := by decide +kernel
theorem dX10_asItIs_115 : decode cX10_asItIs 115 = .ok (.iastore, 1) := by decide +kernel
theorem dX10_asItIs_116 : decode cX10_asItIs 116 = .ok (.iconst 0, 1) := by decide +kernel
theorem dX10_asItIs_117 : decode cX10_asItIs 117 = .ok (.istore_n 2, 1) := by decide +kernel
theorem dX10_asItIs_118 : decode cX10_asItIs 118 = .ok (.iload_n 2, 1) := by decide +kernel
theorem dX10_asItIs_119 : decode cX10_asItIs 119 = .ok (.bipush 8, 2) := by decide +kernel
theorem dX10_asItIs_121 : decode cX10_asItIs 121 = .ok (.if_icmp .ge 37, 3) := by decide +kernel
theorem dX10_asItIs_124 : decode cX10_asItIs 124 = .ok (.aload_n 0, 1) := by decide +kernel
theorem dX10_asItIs_125 : decode cX10_asItIs 125 = .ok (.getfield 9, 3) := by decide +kernel
theorem dX10_asItIs_128 : decode cX10_asItIs 128 = .ok (.bipush 104, 2) := by decide +kernel
theorem dX10_asItIs_130 : decode cX10_asItIs 130 = .ok (.iconst 2, 1) := by decide +kernel
theorem dX10_asItIs_131 : decode cX10_asItIs 131 = .ok (.iload_n 1, 1) := by decide +kernel
theorem dX10_asItIs_132 : decode cX10_asItIs 132 = .ok (.imul, 1) := by decide +kernel
theorem dX10_asItIs_133 : decode cX10_asItIs 133 = .ok (.iadd, 1) := by decide +kernel
theorem dX10_asItIs_134 : decode cX10_asItIs 134 = .ok (.iconst 1, 1) := by decide +kernel
theorem dX10_asItIs_135 : decode cX10_asItIs 135 = .ok (.iadd, 1) := by decide +kernel
theorem dX10_asItIs_136 : decode cX10_asItIs 136 = .ok (.iaload, 1) := by decide +kernel
theorem dX10_asItIs_137 : decode cX10_asItIs 137 = .ok (.iload_n 2, 1) := by decide +kernel
theorem dX10_asItIs_138 : decode cX10_asItIs 138 = .ok (.invokestatic 193, 3) := by decide +kernel
theorem dX10_asItIs_141 : decode cX10_asItIs 141 = .ok (.iconst 1, 1) := by decide +kernel
theorem dX10_asItIs_142 : decode cX10_asItIs 142 = .ok (.if_icmp .ne 10, 3) := by decide +kernel
theorem dX10_asItIs_145 : decode cX10_asItIs 145 = .ok (.aload_n 0, 1) := by decide +kernel
theorem dX10_asItIs_146 : decode cX10_asItIs 146 = .ok (.getfield 40, 3) := by decide +kernel
theorem dX10_asItIs_149 : decode cX10_asItIs 149 = .ok (.iload_n 2, 1) := by decide +kernel
theorem dX10_asItIs_150 : decode cX10_asItIs 150 = .ok (.iload_n 1, 1) := by decide +kernel
theorem dX10_asItIs_151 : decode cX10_asItIs 151 = .ok (.iastore, 1) := by decide +kernel
theorem dX10_asItIs_152 : decode cX10_asItIs 152 = .ok (.iinc 2 1, 3) := by decide +kernel
theorem dX10_asItIs_155 : decode cX10_asItIs 155 = .ok (.goto (-37), 3) := by decide +kernel
theorem dX10_asItIs_158 : decode cX10_asItIs 158 = .ok (.iinc 1 1, 3) := by decide +kernel
theorem dX10_asItIs_161 : decode cX10_asItIs 161 = .ok (.goto (-79), 3) := by decide +kernel
theorem dX10_asItIs_164 : decode cX10_asItIs 164 = .ok (.iconst 0, 1) := by decide +kernel
theorem dX10_asItIs_165 : decode cX10_asItIs 165 = .ok (.istore_n 1, 1) := by decide +kernel
theorem dX10_asItIs_166 : decode cX10_asItIs 166 = .ok (.iload_n 1, 1) := by decide +kernel
theorem dX10_asItIs_167 : decode cX10_asItIs 167 = .ok (.aload_n 0, 1) := by decide +kernel
theorem dX10_asItIs_168 : decode cX10_asItIs 168 = .ok (.getfield 9, 3) := by decide +kernel
theorem dX10_asItIs_171 : decode cX10_asItIs 171 = .ok (.bipush 7, 2) := by decide +kernel
theorem dX10_asItIs_173 : decode cX10_asItIs 173 = .ok (.iaload, 1) := by decide +kernel
theorem dX10_asItIs_174 : decode cX10_asItIs 174 = .ok (.if_icmp .ge 23, 3) := by decide +kernel
theorem dX10_asItIs_177 : decode cX10_asItIs 177 = .ok (.aload_n 0, 1) := by decide +kernel
theorem dX10_asItIs_178 : decode cX10_asItIs 178 = .ok (.aload_n 0, 1) := by decide +kernel
theorem dX10_asItIs_179 : decode cX10_asItIs 179 = .ok (.getfield 9, 3) := by decide +kernel
theorem dX10_asItIs_182 : decode cX10_asItIs 182 = .ok (.sipush 128, 3) := by decide +kernel
theorem dX10_asItIs_185 : decode cX10_asItIs 185 = .ok (.iload_n 1, 1) := by decide +kernel
theorem dX10_asItIs_186 : decode cX10_asItIs 186 = .ok (.iadd, 1) := by decide +kernel
theorem dX10_asItIs_187 : decode cX10_asItIs 187 = .ok (.iaload, 1) := by decide +kernel
theorem dX10_asItIs_188 : decode cX10_asItIs 188 = .ok (.invokevirtual 230, 3) := by decide +kernel
theorem dX10_asItIs_191 : decode cX10_asItIs 191 = .ok (.iinc 1 1, 3) := by decide +kernel
theorem dX10_asItIs_194 : decode cX10_asItIs 194 = .ok (.goto (-28), 3) := by decide +kernel
theorem dX10_asItIs_197 : decode cX10_asItIs 197 = .ok (.return_, 1) := by decide +kernel
theorem dX10_aside_0 : decode cX10_aside 0 = .ok (.aload_n 0, 1) := by decide +kernel
theorem dX10_aside_1 : decode cX10_aside 1 = .ok (.iload_n 1, 1) := by decide +kernel
theorem dX10_aside_2 : decode cX10_aside 2 = .ok (.invokevirtual 279, 3) := by decide +kernel
theorem dX10_aside_5 : decode cX10_aside 5 = .ok (.ifCond .ne 6, 3) := by decide +kernel
theorem dX10_aside_8 : decode cX10_aside 8 = .ok (.bipush (-2), 2) := by decide +kernel
theorem dX10_aside_10 : decode cX10_aside 10 = .ok (.ireturn, 1) := by decide +kernel
theorem dX10_aside_11 : decode cX10_aside 11 = .ok (.aload_n 0, 1) := by decide +kernel
theorem dX10_aside_12 : decode cX10_aside 12 = .ok (.invokevirtual 273, 3) := by decide +kernel
theorem dX10_aside_15 : decode cX10_aside 15 = .ok (.iconst 0, 1) := by decide +kernel
theorem dX10_aside_16 : decode cX10_aside 16 = .ok (.istore_n 2, 1) := by decide +kernel
theorem dX10_aside_17 : decode cX10_aside 17 = .ok (.iconst 0, 1) := by decide +kernel
theorem dX10_aside_18 : decode cX10_aside 18 = .ok (.istore_n 3, 1) := by decide +kernel
theorem dX10_aside_19 : decode cX10_aside 19 = .ok (.iload_n 3, 1) := by decide +kernel
theorem dX10_aside_20 : decode cX10_aside 20 = .ok (.aload_n 0, 1) := by decide +kernel
theorem dX10_aside_21 : decode cX10_aside 21 = .ok (.getfield 9, 3) := by decide +kernel
theorem dX10_aside_24 : decode cX10_aside 24 = .ok (.iconst 2, 1) := by decide +kernel
theorem dX10_aside_25 : decode cX10_aside 25 = .ok (.iaload, 1) := by decide +kernel
theorem dX10_aside_26 : decode cX10_aside 26 = .ok (.if_icmp .ge 43, 3) := by decide +kernel
theorem dX10_aside_29 : decode cX10_aside 29 = .ok (.iload_n 2, 1) := by decide +kernel
theorem dX10_aside_30 : decode cX10_aside 30 = .ok (.aload_n 0, 1) := by decide +kernel
theorem dX10_aside_31 : decode cX10_aside 31 = .ok (.iload_n 3, 1) := by decide +kernel
theorem dX10_aside_32 : decode cX10_aside 32 = .ok (.aload_n 0, 1) := by decide +kernel
theorem dX10_aside_33 : decode cX10_aside 33 = .ok (.getfield 43, 3) := by decide +kernel
theorem dX10_aside_36 : decode cX10_aside 36 = .ok (.iload_n 1, 1) := by decide +kernel
theorem dX10_aside_37 : decode cX10_aside 37 = .ok (.iaload, 1) := by decide +kernel
theorem dX10_aside_38 : decode cX10_aside 38 = .ok (.invokevirtual 93, 3) := by decide +kernel
theorem dX10_aside_41 : decode cX10_aside 41 = .ok (.ifCond .eq 19, 3) := by decide +kernel
theorem dX10_aside_44 : decode cX10_aside 44 = .ok (.aload_n 0, 1) := by decide +kernel
theorem dX10_aside_45 : decode cX10_aside 45 = .ok (.iload_n 1, 1) := by decide +kernel
theorem dX10_aside_46 : decode cX10_aside 46 = .ok (.iload_n 3, 1) := by decide +kernel
theorem dX10_aside_47 : decode cX10_aside 47 = .ok (.invokevirtual 256, 3) := by decide +kernel
theorem dX10_aside_50 : decode cX10_aside 50 = .ok (.iload_n 3, 1) := by decide +kernel
theorem dX10_aside_51 : decode cX10_aside 51 = .ok (.if_icmp .eq 9, 3) := by decide +kernel
theorem dX10_aside_54 : decode cX10_aside 54 = .ok (.iconst 1, 1) := by decide +kernel
theorem dX10_aside_55 : decode cX10_aside 55 = .ok (.iload_n 3, 1) := by decide +kernel
theorem dX10_aside_56 : decode cX10_aside 56 = .ok (.ishl, 1) := by decide +kernel
theorem dX10_aside_57 : decode cX10_aside 57 = .ok (.goto 4, 3) := by decide +kernel
theorem dX10_aside_60 : decode cX10_aside 60 = .ok (.iconst 0, 1) := by decide +kernel
theorem dX10_aside_61 : decode cX10_aside 61 = .ok (.ior, 1) := by decide +kernel
theorem dX10_aside_62 : decode cX10_aside 62 = .ok (.istore_n 2, 1) := by decide +kernel
theorem dX10_aside_63 : decode cX10_aside 63 = .ok (.iinc 3 1, 3) := by decide +kernel
theorem dX10_aside_66 : decode cX10_aside 66 = .ok (.goto (-47), 3) := by decide +kernel
theorem dX10_aside_69 : decode cX10_aside 69 = .ok (.iload_n 2, 1) := by decide +kernel
theorem dX10_aside_70 : decode cX10_aside 70 = .ok (.ireturn, 1) := by decide +kernel
theorem dX10_ask_0 : decode cX10_ask 0 = .ok (.aload_n 0, 1) := by decide +kernel
theorem dX10_ask_1 : decode cX10_ask 1 = .ok (.iload_n 1, 1) := by decide +kernel
theorem dX10_ask_2 : decode cX10_ask 2 = .ok (.invokevirtual 361, 3) := by decide +kernel
theorem dX10_ask_5 : decode cX10_ask 5 = .ok (.istore_n 2, 1) := by decide +kernel
theorem dX10_ask_6 : decode cX10_ask 6 = .ok (.iload_n 2, 1) := by decide +kernel
theorem dX10_ask_7 : decode cX10_ask 7 = .ok (.ifCond .ge 7, 3) := by decide +kernel
theorem dX10_ask_10 : decode cX10_ask 10 = .ok (.iload_n 2, 1) := by decide +kernel
theorem dX10_ask_11 : decode cX10_ask 11 = .ok (.goto 8, 3) := by decide +kernel
theorem dX10_ask_14 : decode cX10_ask 14 = .ok (.aload_n 0, 1) := by decide +kernel
theorem dX10_ask_15 : decode cX10_ask 15 = .ok (.iload_n 1, 1) := by decide +kernel
theorem dX10_ask_16 : decode cX10_ask 16 = .ok (.invokevirtual 376, 3) := by decide +kernel
theorem dX10_ask_19 : decode cX10_ask 19 = .ok (.ireturn, 1) := by decide +kernel
theorem dX10_askOf_0 : decode cX10_askOf 0 = .ok (.aload_n 0, 1) := by decide +kernel
theorem dX10_askOf_1 : decode cX10_askOf 1 = .ok (.iload_n 1, 1) := by decide +kernel
theorem dX10_askOf_2 : decode cX10_askOf 2 = .ok (.invokevirtual 364, 3) := by decide +kernel
theorem dX10_askOf_5 : decode cX10_askOf 5 = .ok (.istore_n 2, 1) := by decide +kernel
theorem dX10_askOf_6 : decode cX10_askOf 6 = .ok (.aload_n 0, 1) := by decide +kernel
theorem dX10_askOf_7 : decode cX10_askOf 7 = .ok (.iload_n 2, 1) := by decide +kernel
theorem dX10_askOf_8 : decode cX10_askOf 8 = .ok (.invokestatic 190, 3) := by decide +kernel
theorem dX10_askOf_11 : decode cX10_askOf 11 = .ok (.putfield 370, 3) := by decide +kernel
theorem dX10_askOf_14 : decode cX10_askOf 14 = .ok (.iconst (-1), 1) := by decide +kernel
theorem dX10_askOf_15 : decode cX10_askOf 15 = .ok (.istore_n 3, 1) := by decide +kernel
theorem dX10_askOf_16 : decode cX10_askOf 16 = .ok (.iconst 0, 1) := by decide +kernel
theorem dX10_askOf_17 : decode cX10_askOf 17 = .ok (.istore 4, 2) := by decide +kernel
theorem dX10_askOf_19 : decode cX10_askOf 19 = .ok (.iload 4, 2) := by decide +kernel
theorem dX10_askOf_21 : decode cX10_askOf 21 = .ok (.aload_n 0, 1) := by decide +kernel
theorem dX10_askOf_22 : decode cX10_askOf 22 = .ok (.getfield 9, 3) := by decide +kernel
theorem dX10_askOf_25 : decode cX10_askOf 25 = .ok (.iconst 0, 1) := by decide +kernel
theorem dX10_askOf_26 : decode cX10_askOf 26 = .ok (.iaload, 1) := by decide +kernel
theorem dX10_askOf_27 : decode cX10_askOf 27 = .ok (.if_icmp .ge 39, 3) := by decide +kernel
theorem dX10_askOf_30 : decode cX10_askOf 30 = .ok (.aload_n 0, 1) := by decide +kernel
theorem dX10_askOf_31 : decode cX10_askOf 31 = .ok (.iload_n 2, 1) := by decide +kernel
theorem dX10_askOf_32 : decode cX10_askOf 32 = .ok (.iload 4, 2) := by decide +kernel
theorem dX10_askOf_34 : decode cX10_askOf 34 = .ok (.invokevirtual 373, 3) := by decide +kernel
theorem dX10_askOf_37 : decode cX10_askOf 37 = .ok (.istore 5, 2) := by decide +kernel
theorem dX10_askOf_39 : decode cX10_askOf 39 = .ok (.iload 5, 2) := by decide +kernel
theorem dX10_askOf_41 : decode cX10_askOf 41 = .ok (.aload_n 0, 1) := by decide +kernel
theorem dX10_askOf_42 : decode cX10_askOf 42 = .ok (.getfield 370, 3) := by decide +kernel
theorem dX10_askOf_45 : decode cX10_askOf 45 = .ok (.if_icmp .lt 6, 3) := by decide +kernel
theorem dX10_askOf_48 : decode cX10_askOf 48 = .ok (.goto 12, 3) := by decide +kernel
theorem dX10_askOf_51 : decode cX10_askOf 51 = .ok (.aload_n 0, 1) := by decide +kernel
theorem dX10_askOf_52 : decode cX10_askOf 52 = .ok (.iload 5, 2) := by decide +kernel
theorem dX10_askOf_54 : decode cX10_askOf 54 = .ok (.putfield 370, 3) := by decide +kernel
theorem dX10_askOf_57 : decode cX10_askOf 57 = .ok (.iload 4, 2) := by decide +kernel
theorem dX10_askOf_59 : decode cX10_askOf 59 = .ok (.istore_n 3, 1) := by decide +kernel
theorem dX10_askOf_60 : decode cX10_askOf 60 = .ok (.iinc 4 1, 3) := by decide +kernel
theorem dX10_askOf_63 : decode cX10_askOf 63 = .ok (.goto (-44), 3) := by decide +kernel
theorem dX10_askOf_66 : decode cX10_askOf 66 = .ok (.iload_n 3, 1) := by decide +kernel
theorem dX10_askOf_67 : decode cX10_askOf 67 = .ok (.ireturn, 1) := by decide +kernel
theorem dX10_asksRow_0 : decode cX10_asksRow 0 = .ok (.iload_n 1, 1) := by decide +kernel
theorem dX10_asksRow_1 : decode cX10_asksRow 1 = .ok (.invokestatic 300, 3) := by decide +kernel
theorem dX10_asksRow_4 : decode cX10_asksRow 4 = .ok (.ifCond .eq 11, 3) := by decide +kernel
theorem dX10_asksRow_7 : decode cX10_asksRow 7 = .ok (.aload_n 0, 1) := by decide +kernel
theorem dX10_asksRow_8 : decode cX10_asksRow 8 = .ok (.iload_n 2, 1) := by decide +kernel
theorem dX10_asksRow_9 : decode cX10_asksRow 9 = .ok (.invokevirtual 279, 3) := by decide +kernel
theorem dX10_asksRow_12 : decode cX10_asksRow 12 = .ok (.ifCond .ne 6, 3) := by decide +kernel
theorem dX10_asksRow_15 : decode cX10_asksRow 15 = .ok (.bipush (-2), 2) := by decide +kernel
theorem dX10_asksRow_17 : decode cX10_asksRow 17 = .ok (.ireturn, 1) := by decide +kernel
theorem dX10_asksRow_18 : decode cX10_asksRow 18 = .ok (.aload_n 0, 1) := by decide +kernel
theorem dX10_asksRow_19 : decode cX10_asksRow 19 = .ok (.getfield 67, 3) := by decide +kernel
theorem dX10_asksRow_22 : decode cX10_asksRow 22 = .ok (.iload_n 1, 1) := by decide +kernel
theorem dX10_asksRow_23 : decode cX10_asksRow 23 = .ok (.iaload, 1) := by decide +kernel
theorem dX10_asksRow_24 : decode cX10_asksRow 24 = .ok (.iconst (-1), 1) := by decide +kernel
theorem dX10_asksRow_25 : decode cX10_asksRow 25 = .ok (.if_icmp .ne 6, 3) := by decide +kernel
theorem dX10_asksRow_28 : decode cX10_asksRow 28 = .ok (.bipush (-6), 2) := by decide +kernel
theorem dX10_asksRow_30 : decode cX10_asksRow 30 = .ok (.ireturn, 1) := by decide +kernel
theorem dX10_asksRow_31 : decode cX10_asksRow 31 = .ok (.iconst 0, 1) := by decide +kernel
theorem dX10_asksRow_32 : decode cX10_asksRow 32 = .ok (.istore_n 3, 1) := by decide +kernel
theorem dX10_asksRow_33 : decode cX10_asksRow 33 = .ok (.iload_n 3, 1) := by decide +kernel
theorem dX10_asksRow_34 : decode cX10_asksRow 34 = .ok (.aload_n 0, 1) := by decide +kernel
theorem dX10_asksRow_35 : decode cX10_asksRow 35 = .ok (.getfield 67, 3) := by decide +kernel
theorem dX10_asksRow_38 : decode cX10_asksRow 38 = .ok (.iload_n 1, 1) := by decide +kernel
theorem dX10_asksRow_39 : decode cX10_asksRow 39 = .ok (.iaload, 1) := by decide +kernel
theorem dX10_asksRow_40 : decode cX10_asksRow 40 = .ok (.if_icmp .ge 38, 3) := by decide +kernel
theorem dX10_asksRow_43 : decode cX10_asksRow 43 = .ok (.aload_n 0, 1) := by decide +kernel
theorem dX10_asksRow_44 : decode cX10_asksRow 44 = .ok (.iload_n 1, 1) := by decide +kernel
theorem dX10_asksRow_45 : decode cX10_asksRow 45 = .ok (.iload_n 3, 1) := by decide +kernel
theorem dX10_asksRow_46 : decode cX10_asksRow 46 = .ok (.invokevirtual 303, 3) := by decide +kernel
theorem dX10_asksRow_49 : decode cX10_asksRow 49 = .ok (.ldc2_w 288, 3) := by decide +kernel
theorem dX10_asksRow_52 : decode cX10_asksRow 52 = .ok (.lcmp, 1) := by decide +kernel
theorem dX10_asksRow_53 : decode cX10_asksRow 53 = .ok (.ifCond .eq 19, 3) := by decide +kernel
theorem dX10_asksRow_56 : decode cX10_asksRow 56 = .ok (.aload_n 0, 1) := by decide +kernel
theorem dX10_asksRow_57 : decode cX10_asksRow 57 = .ok (.aload_n 0, 1) := by decide +kernel
theorem dX10_asksRow_58 : decode cX10_asksRow 58 = .ok (.iload_n 1, 1) := by decide +kernel
theorem dX10_asksRow_59 : decode cX10_asksRow 59 = .ok (.iload_n 3, 1) := by decide +kernel
theorem dX10_asksRow_60 : decode cX10_asksRow 60 = .ok (.invokevirtual 303, 3) := by decide +kernel
theorem dX10_asksRow_63 : decode cX10_asksRow 63 = .ok (.invokevirtual 265, 3) := by decide +kernel
theorem dX10_asksRow_66 : decode cX10_asksRow 66 = .ok (.ifCond .ne 6, 3) := by decide +kernel
theorem dX10_asksRow_69 : decode cX10_asksRow 69 = .ok (.bipush (-2), 2) := by decide +kernel
theorem dX10_asksRow_71 : decode cX10_asksRow 71 = .ok (.ireturn, 1) := by decide +kernel
theorem dX10_asksRow_72 : decode cX10_asksRow 72 = .ok (.iinc 3 1, 3) := by decide +kernel
theorem dX10_asksRow_75 : decode cX10_asksRow 75 = .ok (.goto (-42), 3) := by decide +kernel
theorem dX10_asksRow_78 : decode cX10_asksRow 78 = .ok (.iconst 0, 1) := by decide +kernel
theorem dX10_asksRow_79 : decode cX10_asksRow 79 = .ok (.ireturn, 1) := by decide +kernel
theorem dX10_asksSeen_0 : decode cX10_asksSeen 0 = .ok (.iload_n 1, 1) := by decide +kernel
theorem dX10_asksSeen_1 : decode cX10_asksSeen 1 = .ok (.invokestatic 300, 3) := by decide +kernel
theorem dX10_asksSeen_4 : decode cX10_asksSeen 4 = .ok (.ifCond .eq 10, 3) := by decide +kernel
theorem dX10_asksSeen_7 : decode cX10_asksSeen 7 = .ok (.aload_n 0, 1) := by decide +kernel
theorem dX10_asksSeen_8 : decode cX10_asksSeen 8 = .ok (.invokevirtual 297, 3) := by decide +kernel
theorem dX10_asksSeen_11 : decode cX10_asksSeen 11 = .ok (.ifCond .ne 6, 3) := by decide +kernel
theorem dX10_asksSeen_14 : decode cX10_asksSeen 14 = .ok (.bipush (-2), 2) := by decide +kernel
theorem dX10_asksSeen_16 : decode cX10_asksSeen 16 = .ok (.ireturn, 1) := by decide +kernel
theorem dX10_asksSeen_17 : decode cX10_asksSeen 17 = .ok (.aload_n 0, 1) := by decide +kernel
theorem dX10_asksSeen_18 : decode cX10_asksSeen 18 = .ok (.getfield 67, 3) := by decide +kernel
theorem dX10_asksSeen_21 : decode cX10_asksSeen 21 = .ok (.iload_n 1, 1) := by decide +kernel
theorem dX10_asksSeen_22 : decode cX10_asksSeen 22 = .ok (.iaload, 1) := by decide +kernel
theorem dX10_asksSeen_23 : decode cX10_asksSeen 23 = .ok (.iconst (-1), 1) := by decide +kernel
theorem dX10_asksSeen_24 : decode cX10_asksSeen 24 = .ok (.if_icmp .ne 6, 3) := by decide +kernel
theorem dX10_asksSeen_27 : decode cX10_asksSeen 27 = .ok (.bipush (-6), 2) := by decide +kernel
theorem dX10_asksSeen_29 : decode cX10_asksSeen 29 = .ok (.ireturn, 1) := by decide +kernel
theorem dX10_asksSeen_30 : decode cX10_asksSeen 30 = .ok (.aload_n 0, 1) := by decide +kernel
theorem dX10_asksSeen_31 : decode cX10_asksSeen 31 = .ok (.getfield 67, 3) := by decide +kernel
theorem dX10_asksSeen_34 : decode cX10_asksSeen 34 = .ok (.iload_n 1, 1) := by decide +kernel
theorem dX10_asksSeen_35 : decode cX10_asksSeen 35 = .ok (.iaload, 1) := by decide +kernel
theorem dX10_asksSeen_36 : decode cX10_asksSeen 36 = .ok (.iconst 2, 1) := by decide +kernel
theorem dX10_asksSeen_37 : decode cX10_asksSeen 37 = .ok (.irem, 1) := by decide +kernel
theorem dX10_asksSeen_38 : decode cX10_asksSeen 38 = .ok (.ifCond .eq 6, 3) := by decide +kernel
theorem dX10_asksSeen_41 : decode cX10_asksSeen 41 = .ok (.bipush (-2), 2) := by decide +kernel
theorem dX10_asksSeen_43 : decode cX10_asksSeen 43 = .ok (.ireturn, 1) := by decide +kernel
theorem dX10_asksSeen_44 : decode cX10_asksSeen 44 = .ok (.iconst 0, 1) := by decide +kernel
theorem dX10_asksSeen_45 : decode cX10_asksSeen 45 = .ok (.istore_n 2, 1) := by decide +kernel
theorem dX10_asksSeen_46 : decode cX10_asksSeen 46 = .ok (.iload_n 2, 1) := by decide +kernel
theorem dX10_asksSeen_47 : decode cX10_asksSeen 47 = .ok (.aload_n 0, 1) := by decide +kernel
theorem dX10_asksSeen_48 : decode cX10_asksSeen 48 = .ok (.getfield 67, 3) := by decide +kernel
theorem dX10_asksSeen_51 : decode cX10_asksSeen 51 = .ok (.iload_n 1, 1) := by decide +kernel
theorem dX10_asksSeen_52 : decode cX10_asksSeen 52 = .ok (.iaload, 1) := by decide +kernel
theorem dX10_asksSeen_53 : decode cX10_asksSeen 53 = .ok (.if_icmp .ge 63, 3) := by decide +kernel
theorem dX10_asksSeen_56 : decode cX10_asksSeen 56 = .ok (.aload_n 0, 1) := by decide +kernel
theorem dX10_asksSeen_57 : decode cX10_asksSeen 57 = .ok (.aload_n 0, 1) := by decide +kernel
theorem dX10_asksSeen_58 : decode cX10_asksSeen 58 = .ok (.iload_n 1, 1) := by decide +kernel
theorem dX10_asksSeen_59 : decode cX10_asksSeen 59 = .ok (.iload_n 2, 1) := by decide +kernel
theorem dX10_asksSeen_60 : decode cX10_asksSeen 60 = .ok (.invokevirtual 303, 3) := by decide +kernel
theorem dX10_asksSeen_63 : decode cX10_asksSeen 63 = .ok (.invokevirtual 282, 3) := by decide +kernel
theorem dX10_asksSeen_66 : decode cX10_asksSeen 66 = .ok (.ifCond .eq 41, 3) := by decide +kernel
theorem dX10_asksSeen_69 : decode cX10_asksSeen 69 = .ok (.aload_n 0, 1) := by decide +kernel
theorem dX10_asksSeen_70 : decode cX10_asksSeen 70 = .ok (.aload_n 0, 1) := by decide +kernel
theorem dX10_asksSeen_71 : decode cX10_asksSeen 71 = .ok (.iload_n 1, 1) := by decide +kernel
theorem dX10_asksSeen_72 : decode cX10_asksSeen 72 = .ok (.iload_n 2, 1) := by decide +kernel
theorem dX10_asksSeen_73 : decode cX10_asksSeen 73 = .ok (.iconst 1, 1) := by decide +kernel
theorem dX10_asksSeen_74 : decode cX10_asksSeen 74 = .ok (.iadd, 1) := by decide +kernel
theorem dX10_asksSeen_75 : decode cX10_asksSeen 75 = .ok (.invokevirtual 303, 3) := by decide +kernel
theorem dX10_asksSeen_78 : decode cX10_asksSeen 78 = .ok (.invokevirtual 265, 3) := by decide +kernel
theorem dX10_asksSeen_81 : decode cX10_asksSeen 81 = .ok (.ifCond .eq 26, 3) := by decide +kernel
theorem dX10_asksSeen_84 : decode cX10_asksSeen 84 = .ok (.aload_n 0, 1) := by decide +kernel
theorem dX10_asksSeen_85 : decode cX10_asksSeen 85 = .ok (.aload_n 0, 1) := by decide +kernel
theorem dX10_asksSeen_86 : decode cX10_asksSeen 86 = .ok (.iload_n 1, 1) := by decide +kernel
theorem dX10_asksSeen_87 : decode cX10_asksSeen 87 = .ok (.iload_n 2, 1) := by decide +kernel
theorem dX10_asksSeen_88 : decode cX10_asksSeen 88 = .ok (.iconst 1, 1) := by decide +kernel
theorem dX10_asksSeen_89 : decode cX10_asksSeen 89 = .ok (.iadd, 1) := by decide +kernel
theorem dX10_asksSeen_90 : decode cX10_asksSeen 90 = .ok (.invokevirtual 303, 3) := by decide +kernel
theorem dX10_asksSeen_93 : decode cX10_asksSeen 93 = .ok (.l2i, 1) := by decide +kernel
theorem dX10_asksSeen_94 : decode cX10_asksSeen 94 = .ok (.aload_n 0, 1) := by decide +kernel
theorem dX10_asksSeen_95 : decode cX10_asksSeen 95 = .ok (.iload_n 1, 1) := by decide +kernel
theorem dX10_asksSeen_96 : decode cX10_asksSeen 96 = .ok (.iload_n 2, 1) := by decide +kernel
theorem dX10_asksSeen_97 : decode cX10_asksSeen 97 = .ok (.invokevirtual 303, 3) := by decide +kernel
theorem dX10_asksSeen_100 : decode cX10_asksSeen 100 = .ok (.l2i, 1) := by decide +kernel
theorem dX10_asksSeen_101 : decode cX10_asksSeen 101 = .ok (.invokevirtual 93, 3) := by decide +kernel
theorem dX10_asksSeen_104 : decode cX10_asksSeen 104 = .ok (.ifCond .ne 6, 3) := by decide +kernel
theorem dX10_asksSeen_107 : decode cX10_asksSeen 107 = .ok (.bipush (-2), 2) := by decide +kernel
theorem dX10_asksSeen_109 : decode cX10_asksSeen 109 = .ok (.ireturn, 1) := by decide +kernel
theorem dX10_asksSeen_110 : decode cX10_asksSeen 110 = .ok (.iinc 2 2, 3) := by decide +kernel
theorem dX10_asksSeen_113 : decode cX10_asksSeen 113 = .ok (.goto (-67), 3) := by decide +kernel
theorem dX10_asksSeen_116 : decode cX10_asksSeen 116 = .ok (.aload_n 0, 1) := by decide +kernel
theorem dX10_asksSeen_117 : decode cX10_asksSeen 117 = .ok (.invokevirtual 273, 3) := by decide +kernel
theorem dX10_asksSeen_120 : decode cX10_asksSeen 120 = .ok (.iconst 0, 1) := by decide +kernel
theorem dX10_asksSeen_121 : decode cX10_asksSeen 121 = .ok (.ireturn, 1) := by decide +kernel
theorem dX10_astray_0 : decode cX10_astray 0 = .ok (.aload_n 0, 1) := by decide +kernel
theorem dX10_astray_1 : decode cX10_astray 1 = .ok (.iload_n 1, 1) := by decide +kernel
theorem dX10_astray_2 : decode cX10_astray 2 = .ok (.iload_n 2, 1) := by decide +kernel
theorem dX10_astray_3 : decode cX10_astray 3 = .ok (.invokevirtual 319, 3) := by decide +kernel
theorem dX10_astray_6 : decode cX10_astray 6 = .ok (.istore_n 3, 1) := by decide +kernel
theorem dX10_astray_7 : decode cX10_astray 7 = .ok (.iload_n 3, 1) := by decide +kernel
theorem dX10_astray_8 : decode cX10_astray 8 = .ok (.ifCond .ge 5, 3) := by decide +kernel
theorem dX10_astray_11 : decode cX10_astray 11 = .ok (.iload_n 3, 1) := by decide +kernel
theorem dX10_astray_12 : decode cX10_astray 12 = .ok (.ireturn, 1) := by decide +kernel
theorem dX10_astray_13 : decode cX10_astray 13 = .ok (.aload_n 0, 1) := by decide +kernel
theorem dX10_astray_14 : decode cX10_astray 14 = .ok (.iload_n 1, 1) := by decide +kernel
theorem dX10_astray_15 : decode cX10_astray 15 = .ok (.iload_n 2, 1) := by decide +kernel
theorem dX10_astray_16 : decode cX10_astray 16 = .ok (.invokevirtual 322, 3) := by decide +kernel
theorem dX10_astray_19 : decode cX10_astray 19 = .ok (.aload_n 0, 1) := by decide +kernel
theorem dX10_astray_20 : decode cX10_astray 20 = .ok (.getfield 310, 3) := by decide +kernel
theorem dX10_astray_23 : decode cX10_astray 23 = .ok (.ireturn, 1) := by decide +kernel
theorem dX10_back_0 : decode cX10_back 0 = .ok (.iload_n 1, 1) := by decide +kernel
theorem dX10_back_1 : decode cX10_back 1 = .ok (.i2l, 1) := by decide +kernel
theorem dX10_back_2 : decode cX10_back 2 = .ok (.lconst 0, 1) := by decide +kernel
theorem dX10_back_3 : decode cX10_back 3 = .ok (.ldc2_w 83, 3) := by decide +kernel
theorem dX10_back_6 : decode cX10_back 6 = .ok (.invokestatic 85, 3) := by decide +kernel
theorem dX10_back_9 : decode cX10_back 9 = .ok (.ifCond .ne 6, 3) := by decide +kernel
theorem dX10_back_12 : decode cX10_back 12 = .ok (.bipush (-2), 2) := by decide +kernel
theorem dX10_back_14 : decode cX10_back 14 = .ok (.ireturn, 1) := by decide +kernel
theorem dX10_back_15 : decode cX10_back 15 = .ok (.aload_n 0, 1) := by decide +kernel
theorem dX10_back_16 : decode cX10_back 16 = .ok (.getfield 16, 3) := by decide +kernel
theorem dX10_back_19 : decode cX10_back 19 = .ok (.iload_n 1, 1) := by decide +kernel
theorem dX10_back_20 : decode cX10_back 20 = .ok (.baload, 1) := by decide +kernel
theorem dX10_back_21 : decode cX10_back 21 = .ok (.ifCond .ne 6, 3) := by decide +kernel
theorem dX10_back_24 : decode cX10_back 24 = .ok (.bipush (-6), 2) := by decide +kernel
theorem dX10_back_26 : decode cX10_back 26 = .ok (.ireturn, 1) := by decide +kernel
theorem dX10_back_27 : decode cX10_back 27 = .ok (.iconst 0, 1) := by decide +kernel
theorem dX10_back_28 : decode cX10_back 28 = .ok (.istore_n 2, 1) := by decide +kernel
theorem dX10_back_29 : decode cX10_back 29 = .ok (.iload_n 2, 1) := by decide +kernel
theorem dX10_back_30 : decode cX10_back 30 = .ok (.sipush 168, 3) := by decide +kernel
theorem dX10_back_33 : decode cX10_back 33 = .ok (.if_icmp .ge 27, 3) := by decide +kernel
theorem dX10_back_36 : decode cX10_back 36 = .ok (.aload_n 0, 1) := by decide +kernel
theorem dX10_back_37 : decode cX10_back 37 = .ok (.getfield 9, 3) := by decide +kernel
theorem dX10_back_40 : decode cX10_back 40 = .ok (.iload_n 2, 1) := by decide +kernel
theorem dX10_back_41 : decode cX10_back 41 = .ok (.aload_n 0, 1) := by decide +kernel
theorem dX10_back_42 : decode cX10_back 42 = .ok (.getfield 13, 3) := by decide +kernel
theorem dX10_back_45 : decode cX10_back 45 = .ok (.sipush 168, 3) := by decide +kernel
theorem dX10_back_48 : decode cX10_back 48 = .ok (.iload_n 1, 1) := by decide +kernel
theorem dX10_back_49 : decode cX10_back 49 = .ok (.imul, 1) := by decide +kernel
theorem dX10_back_50 : decode cX10_back 50 = .ok (.iload_n 2, 1) := by decide +kernel
theorem dX10_back_51 : decode cX10_back 51 = .ok (.iadd, 1) := by decide +kernel
theorem dX10_back_52 : decode cX10_back 52 = .ok (.iaload, 1) := by decide +kernel
theorem dX10_back_53 : decode cX10_back 53 = .ok (.iastore, 1) := by decide +kernel
theorem dX10_back_54 : decode cX10_back 54 = .ok (.iinc 2 1, 3) := by decide +kernel
theorem dX10_back_57 : decode cX10_back 57 = .ok (.goto (-28), 3) := by decide +kernel
theorem dX10_back_60 : decode cX10_back 60 = .ok (.iconst 0, 1) := by decide +kernel
theorem dX10_back_61 : decode cX10_back 61 = .ok (.ireturn, 1) := by decide +kernel
theorem dX10_bit_0 : decode cX10_bit 0 = .ok (.iload_n 0, 1) := by decide +kernel
theorem dX10_bit_1 : decode cX10_bit 1 = .ok (.iload_n 1, 1) := by decide +kernel
theorem dX10_bit_2 : decode cX10_bit 2 = .ok (.ishr, 1) := by decide +kernel
theorem dX10_bit_3 : decode cX10_bit 3 = .ok (.iconst 1, 1) := by decide +kernel
theorem dX10_bit_4 : decode cX10_bit 4 = .ok (.iand, 1) := by decide +kernel
theorem dX10_bit_5 : decode cX10_bit 5 = .ok (.ireturn, 1) := by decide +kernel
theorem dX10_bits_0 : decode cX10_bits 0 = .ok (.iconst 0, 1) := by decide +kernel
theorem dX10_bits_1 : decode cX10_bits 1 = .ok (.istore_n 1, 1) := by decide +kernel
theorem dX10_bits_2 : decode cX10_bits 2 = .ok (.iconst 0, 1) := by decide +kernel
theorem dX10_bits_3 : decode cX10_bits 3 = .ok (.istore_n 2, 1) := by decide +kernel
theorem dX10_bits_4 : decode cX10_bits 4 = .ok (.iload_n 2, 1) := by decide +kernel
theorem dX10_bits_5 : decode cX10_bits 5 = .ok (.bipush 10, 2) := by decide +kernel
theorem dX10_bits_7 : decode cX10_bits 7 = .ok (.if_icmp .ge 17, 3) := by decide +kernel
theorem dX10_bits_10 : decode cX10_bits 10 = .ok (.iload_n 1, 1) := by decide +kernel
theorem dX10_bits_11 : decode cX10_bits 11 = .ok (.iload_n 0, 1) := by decide +kernel
theorem dX10_bits_12 : decode cX10_bits 12 = .ok (.iload_n 2, 1) := by decide +kernel
theorem dX10_bits_13 : decode cX10_bits 13 = .ok (.ishr, 1) := by decide +kernel
theorem dX10_bits_14 : decode cX10_bits 14 = .ok (.iconst 1, 1) := by decide +kernel
theorem dX10_bits_15 : decode cX10_bits 15 = .ok (.iand, 1) := by decide +kernel
theorem dX10_bits_16 : decode cX10_bits 16 = .ok (.iadd, 1) := by decide +kernel
theorem dX10_bits_17 : decode cX10_bits 17 = .ok (.istore_n 1, 1) := by decide +kernel
theorem dX10_bits_18 : decode cX10_bits 18 = .ok (.iinc 2 1, 3) := by decide +kernel
theorem dX10_bits_21 : decode cX10_bits 21 = .ok (.goto (-17), 3) := by decide +kernel
theorem dX10_bits_24 : decode cX10_bits 24 = .ok (.iload_n 1, 1) := by decide +kernel
theorem dX10_bits_25 : decode cX10_bits 25 = .ok (.ireturn, 1) := by decide +kernel
theorem dX10_blind_0 : decode cX10_blind 0 = .ok (.iload_n 2, 1) := by decide +kernel
theorem dX10_blind_1 : decode cX10_blind 1 = .ok (.iconst (-1), 1) := by decide +kernel
theorem dX10_blind_2 : decode cX10_blind 2 = .ok (.if_icmp .eq 13, 3) := by decide +kernel
theorem dX10_blind_5 : decode cX10_blind 5 = .ok (.aload_n 0, 1) := by decide +kernel
theorem dX10_blind_6 : decode cX10_blind 6 = .ok (.iload_n 1, 1) := by decide +kernel
theorem dX10_blind_7 : decode cX10_blind 7 = .ok (.iload_n 2, 1) := by decide +kernel
theorem dX10_blind_8 : decode cX10_blind 8 = .ok (.i2l, 1) := by decide +kernel
theorem dX10_blind_9 : decode cX10_blind 9 = .ok (.invokevirtual 290, 3) := by decide +kernel
theorem dX10_blind_12 : decode cX10_blind 12 = .ok (.ifCond .ne 6, 3) := by decide +kernel
theorem dX10_blind_15 : decode cX10_blind 15 = .ok (.bipush (-2), 2) := by decide +kernel
theorem dX10_blind_17 : decode cX10_blind 17 = .ok (.ireturn, 1) := by decide +kernel
theorem dX10_blind_18 : decode cX10_blind 18 = .ok (.aload_n 0, 1) := by decide +kernel
theorem dX10_blind_19 : decode cX10_blind 19 = .ok (.iload_n 1, 1) := by decide +kernel
theorem dX10_blind_20 : decode cX10_blind 20 = .ok (.iload_n 2, 1) := by decide +kernel
theorem dX10_blind_21 : decode cX10_blind 21 = .ok (.invokevirtual 385, 3) := by decide +kernel
theorem dX10_blind_24 : decode cX10_blind 24 = .ok (.istore_n 3, 1) := by decide +kernel
theorem dX10_blind_25 : decode cX10_blind 25 = .ok (.iload_n 3, 1) := by decide +kernel
theorem dX10_blind_26 : decode cX10_blind 26 = .ok (.iconst (-1), 1) := by decide +kernel
theorem dX10_blind_27 : decode cX10_blind 27 = .ok (.if_icmp .ne 7, 3) := by decide +kernel
theorem dX10_blind_30 : decode cX10_blind 30 = .ok (.iconst (-1), 1) := by decide +kernel
theorem dX10_blind_31 : decode cX10_blind 31 = .ok (.goto 7, 3) := by decide +kernel
theorem dX10_blind_34 : decode cX10_blind 34 = .ok (.iload_n 3, 1) := by decide +kernel
theorem dX10_blind_35 : decode cX10_blind 35 = .ok (.invokestatic 190, 3) := by decide +kernel
theorem dX10_blind_38 : decode cX10_blind 38 = .ok (.ireturn, 1) := by decide +kernel
theorem dX10_blindOf_0 : decode cX10_blindOf 0 = .ok (.aload_n 0, 1) := by decide +kernel
theorem dX10_blindOf_1 : decode cX10_blindOf 1 = .ok (.iload_n 1, 1) := by decide +kernel
theorem dX10_blindOf_2 : decode cX10_blindOf 2 = .ok (.invokevirtual 246, 3) := by decide +kernel
theorem dX10_blindOf_5 : decode cX10_blindOf 5 = .ok (.istore_n 3, 1) := by decide +kernel
theorem dX10_blindOf_6 : decode cX10_blindOf 6 = .ok (.iconst (-1), 1) := by decide +kernel
theorem dX10_blindOf_7 : decode cX10_blindOf 7 = .ok (.istore 4, 2) := by decide +kernel
theorem dX10_blindOf_9 : decode cX10_blindOf 9 = .ok (.iconst 0, 1) := by decide +kernel
theorem dX10_blindOf_10 : decode cX10_blindOf 10 = .ok (.istore 5, 2) := by decide +kernel
theorem dX10_blindOf_12 : decode cX10_blindOf 12 = .ok (.iload 5, 2) := by decide +kernel
theorem dX10_blindOf_14 : decode cX10_blindOf 14 = .ok (.iload_n 3, 1) := by decide +kernel
theorem dX10_blindOf_15 : decode cX10_blindOf 15 = .ok (.if_icmp .gt 63, 3) := by decide +kernel
theorem dX10_blindOf_18 : decode cX10_blindOf 18 = .ok (.iload 5, 2) := by decide +kernel
theorem dX10_blindOf_20 : decode cX10_blindOf 20 = .ok (.iload_n 3, 1) := by decide +kernel
theorem dX10_blindOf_21 : decode cX10_blindOf 21 = .ok (.iconst (-1), 1) := by decide +kernel
theorem dX10_blindOf_22 : decode cX10_blindOf 22 = .ok (.ixor, 1) := by decide +kernel
theorem dX10_blindOf_23 : decode cX10_blindOf 23 = .ok (.iand, 1) := by decide +kernel
theorem dX10_blindOf_24 : decode cX10_blindOf 24 = .ok (.ifCond .ne 48, 3) := by decide +kernel
theorem dX10_blindOf_27 : decode cX10_blindOf 27 = .ok (.iload 4, 2) := by decide +kernel
theorem dX10_blindOf_29 : decode cX10_blindOf 29 = .ok (.iconst (-1), 1) := by decide +kernel
theorem dX10_blindOf_30 : decode cX10_blindOf 30 = .ok (.if_icmp .eq 16, 3) := by decide +kernel
theorem dX10_blindOf_33 : decode cX10_blindOf 33 = .ok (.iload 5, 2) := by decide +kernel
theorem dX10_blindOf_35 : decode cX10_blindOf 35 = .ok (.invokestatic 190, 3) := by decide +kernel
theorem dX10_blindOf_38 : decode cX10_blindOf 38 = .ok (.iload 4, 2) := by decide +kernel
theorem dX10_blindOf_40 : decode cX10_blindOf 40 = .ok (.invokestatic 190, 3) := by decide +kernel
theorem dX10_blindOf_43 : decode cX10_blindOf 43 = .ok (.if_icmp .ge 29, 3) := by decide +kernel
theorem dX10_blindOf_46 : decode cX10_blindOf 46 = .ok (.aload_n 0, 1) := by decide +kernel
theorem dX10_blindOf_47 : decode cX10_blindOf 47 = .ok (.iload_n 3, 1) := by decide +kernel
theorem dX10_blindOf_48 : decode cX10_blindOf 48 = .ok (.iload 5, 2) := by decide +kernel
theorem dX10_blindOf_50 : decode cX10_blindOf 50 = .ok (.iconst (-1), 1) := by decide +kernel
theorem dX10_blindOf_51 : decode cX10_blindOf 51 = .ok (.ixor, 1) := by decide +kernel
theorem dX10_blindOf_52 : decode cX10_blindOf 52 = .ok (.iand, 1) := by decide +kernel
theorem dX10_blindOf_53 : decode cX10_blindOf 53 = .ok (.aload_n 0, 1) := by decide +kernel
theorem dX10_blindOf_54 : decode cX10_blindOf 54 = .ok (.getfield 43, 3) := by decide +kernel
theorem dX10_blindOf_57 : decode cX10_blindOf 57 = .ok (.iload_n 1, 1) := by decide +kernel
theorem dX10_blindOf_58 : decode cX10_blindOf 58 = .ok (.iaload, 1) := by decide +kernel
theorem dX10_blindOf_59 : decode cX10_blindOf 59 = .ok (.iconst (-1), 1) := by decide +kernel
theorem dX10_blindOf_60 : decode cX10_blindOf 60 = .ok (.iconst 0, 1) := by decide +kernel
theorem dX10_blindOf_61 : decode cX10_blindOf 61 = .ok (.invokevirtual 249, 3) := by decide +kernel
theorem dX10_blindOf_64 : decode cX10_blindOf 64 = .ok (.iload_n 2, 1) := by decide +kernel
theorem dX10_blindOf_65 : decode cX10_blindOf 65 = .ok (.if_icmp .ne 7, 3) := by decide +kernel
theorem dX10_blindOf_68 : decode cX10_blindOf 68 = .ok (.iload 5, 2) := by decide +kernel
theorem dX10_blindOf_70 : decode cX10_blindOf 70 = .ok (.istore 4, 2) := by decide +kernel
theorem dX10_blindOf_72 : decode cX10_blindOf 72 = .ok (.iinc 5 1, 3) := by decide +kernel
theorem dX10_blindOf_75 : decode cX10_blindOf 75 = .ok (.goto (-63), 3) := by decide +kernel
theorem dX10_blindOf_78 : decode cX10_blindOf 78 = .ok (.iload 4, 2) := by decide +kernel
theorem dX10_blindOf_80 : decode cX10_blindOf 80 = .ok (.ireturn, 1) := by decide +kernel
theorem dX10_blinds_0 : decode cX10_blinds 0 = .ok (.iload_n 2, 1) := by decide +kernel
theorem dX10_blinds_1 : decode cX10_blinds 1 = .ok (.iconst (-1), 1) := by decide +kernel
theorem dX10_blinds_2 : decode cX10_blinds 2 = .ok (.if_icmp .eq 13, 3) := by decide +kernel
theorem dX10_blinds_5 : decode cX10_blinds 5 = .ok (.aload_n 0, 1) := by decide +kernel
theorem dX10_blinds_6 : decode cX10_blinds 6 = .ok (.iload_n 1, 1) := by decide +kernel
theorem dX10_blinds_7 : decode cX10_blinds 7 = .ok (.iload_n 2, 1) := by decide +kernel
theorem dX10_blinds_8 : decode cX10_blinds 8 = .ok (.i2l, 1) := by decide +kernel
theorem dX10_blinds_9 : decode cX10_blinds 9 = .ok (.invokevirtual 290, 3) := by decide +kernel
theorem dX10_blinds_12 : decode cX10_blinds 12 = .ok (.ifCond .ne 8, 3) := by decide +kernel
theorem dX10_blinds_15 : decode cX10_blinds 15 = .ok (.bipush (-2), 2) := by decide +kernel
theorem dX10_blinds_17 : decode cX10_blinds 17 = .ok (.goto 9, 3) := by decide +kernel
theorem dX10_blinds_20 : decode cX10_blinds 20 = .ok (.aload_n 0, 1) := by decide +kernel
theorem dX10_blinds_21 : decode cX10_blinds 21 = .ok (.iload_n 1, 1) := by decide +kernel
theorem dX10_blinds_22 : decode cX10_blinds 22 = .ok (.iload_n 2, 1) := by decide +kernel
theorem dX10_blinds_23 : decode cX10_blinds 23 = .ok (.invokevirtual 385, 3) := by decide +kernel
theorem dX10_blinds_26 : decode cX10_blinds 26 = .ok (.ireturn, 1) := by decide +kernel
theorem dX10_canWant_0 : decode cX10_canWant 0 = .ok (.aload_n 0, 1) := by decide +kernel
theorem dX10_canWant_1 : decode cX10_canWant 1 = .ok (.iload_n 1, 1) := by decide +kernel
theorem dX10_canWant_2 : decode cX10_canWant 2 = .ok (.invokevirtual 279, 3) := by decide +kernel
theorem dX10_canWant_5 : decode cX10_canWant 5 = .ok (.ifCond .eq 19, 3) := by decide +kernel
theorem dX10_canWant_8 : decode cX10_canWant 8 = .ok (.lload_n 2, 1) := by decide +kernel
theorem dX10_canWant_9 : decode cX10_canWant 9 = .ok (.ldc2_w 288, 3) := by decide +kernel
theorem dX10_canWant_12 : decode cX10_canWant 12 = .ok (.lcmp, 1) := by decide +kernel
theorem dX10_canWant_13 : decode cX10_canWant 13 = .ok (.ifCond .eq 13, 3) := by decide +kernel
theorem dX10_canWant_16 : decode cX10_canWant 16 = .ok (.aload_n 0, 1) := by decide +kernel
theorem dX10_canWant_17 : decode cX10_canWant 17 = .ok (.lload_n 2, 1) := by decide +kernel
theorem dX10_canWant_18 : decode cX10_canWant 18 = .ok (.invokevirtual 265, 3) := by decide +kernel
theorem dX10_canWant_21 : decode cX10_canWant 21 = .ok (.ifCond .ne 5, 3) := by decide +kernel
theorem dX10_canWant_24 : decode cX10_canWant 24 = .ok (.iconst 0, 1) := by decide +kernel
theorem dX10_canWant_25 : decode cX10_canWant 25 = .ok (.ireturn, 1) := by decide +kernel
theorem dX10_canWant_26 : decode cX10_canWant 26 = .ok (.aload_n 0, 1) := by decide +kernel
theorem dX10_canWant_27 : decode cX10_canWant 27 = .ok (.invokevirtual 273, 3) := by decide +kernel
theorem dX10_canWant_30 : decode cX10_canWant 30 = .ok (.lload_n 2, 1) := by decide +kernel
theorem dX10_canWant_31 : decode cX10_canWant 31 = .ok (.ldc2_w 288, 3) := by decide +kernel
theorem dX10_canWant_34 : decode cX10_canWant 34 = .ok (.lcmp, 1) := by decide +kernel
theorem dX10_canWant_35 : decode cX10_canWant 35 = .ok (.ifCond .eq 18, 3) := by decide +kernel
theorem dX10_canWant_38 : decode cX10_canWant 38 = .ok (.aload_n 0, 1) := by decide +kernel
theorem dX10_canWant_39 : decode cX10_canWant 39 = .ok (.lload_n 2, 1) := by decide +kernel
theorem dX10_canWant_40 : decode cX10_canWant 40 = .ok (.l2i, 1) := by decide +kernel
theorem dX10_canWant_41 : decode cX10_canWant 41 = .ok (.aload_n 0, 1) := by decide +kernel
theorem dX10_canWant_42 : decode cX10_canWant 42 = .ok (.getfield 43, 3) := by decide +kernel
theorem dX10_canWant_45 : decode cX10_canWant 45 = .ok (.iload_n 1, 1) := by decide +kernel
theorem dX10_canWant_46 : decode cX10_canWant 46 = .ok (.iaload, 1) := by decide +kernel
theorem dX10_canWant_47 : decode cX10_canWant 47 = .ok (.invokevirtual 93, 3) := by decide +kernel
theorem dX10_canWant_50 : decode cX10_canWant 50 = .ok (.ifCond .eq 7, 3) := by decide +kernel
theorem dX10_canWant_53 : decode cX10_canWant 53 = .ok (.iconst 1, 1) := by decide +kernel
theorem dX10_canWant_54 : decode cX10_canWant 54 = .ok (.goto 4, 3) := by decide +kernel
theorem dX10_canWant_57 : decode cX10_canWant 57 = .ok (.iconst 0, 1) := by decide +kernel
theorem dX10_canWant_58 : decode cX10_canWant 58 = .ok (.ireturn, 1) := by decide +kernel
theorem dX10_cart_0 : decode cX10_cart 0 = .ok (.aload_n 0, 1) := by decide +kernel
theorem dX10_cart_1 : decode cX10_cart 1 = .ok (.iload_n 1, 1) := by decide +kernel
theorem dX10_cart_2 : decode cX10_cart 2 = .ok (.invokevirtual 279, 3) := by decide +kernel
theorem dX10_cart_5 : decode cX10_cart 5 = .ok (.ifCond .eq 15, 3) := by decide +kernel
theorem dX10_cart_8 : decode cX10_cart 8 = .ok (.iload_n 2, 1) := by decide +kernel
theorem dX10_cart_9 : decode cX10_cart 9 = .ok (.i2l, 1) := by decide +kernel
theorem dX10_cart_10 : decode cX10_cart 10 = .ok (.lconst 0, 1) := by decide +kernel
theorem dX10_cart_11 : decode cX10_cart 11 = .ok (.ldc2_w 83, 3) := by decide +kernel
theorem dX10_cart_14 : decode cX10_cart 14 = .ok (.invokestatic 85, 3) := by decide +kernel
theorem dX10_cart_17 : decode cX10_cart 17 = .ok (.ifCond .ne 6, 3) := by decide +kernel
theorem dX10_cart_20 : decode cX10_cart 20 = .ok (.bipush (-2), 2) := by decide +kernel
theorem dX10_cart_22 : decode cX10_cart 22 = .ok (.ireturn, 1) := by decide +kernel
theorem dX10_cart_23 : decode cX10_cart 23 = .ok (.aload_n 0, 1) := by decide +kernel
theorem dX10_cart_24 : decode cX10_cart 24 = .ok (.invokevirtual 273, 3) := by decide +kernel
theorem dX10_cart_27 : decode cX10_cart 27 = .ok (.iload_n 2, 1) := by decide +kernel
theorem dX10_cart_28 : decode cX10_cart 28 = .ok (.ifCond .ne 12, 3) := by decide +kernel
theorem dX10_cart_31 : decode cX10_cart 31 = .ok (.aload_n 0, 1) := by decide +kernel
theorem dX10_cart_32 : decode cX10_cart 32 = .ok (.getfield 43, 3) := by decide +kernel
theorem dX10_cart_35 : decode cX10_cart 35 = .ok (.iload_n 1, 1) := by decide +kernel
theorem dX10_cart_36 : decode cX10_cart 36 = .ok (.iaload, 1) := by decide +kernel
theorem dX10_cart_37 : decode cX10_cart 37 = .ok (.goto 22, 3) := by decide +kernel
theorem dX10_cart_40 : decode cX10_cart 40 = .ok (.iload_n 2, 1) := by decide +kernel
