theorem dX10_good_4 : decode cX10_good 4 = .ok (.ifCond .ne 7, 3) := by decide +kernel
theorem dX10_good_7 : decode cX10_good 7 = .ok (.iconst 1, 1) := by decide +kernel
theorem dX10_good_8 : decode cX10_good 8 = .ok (.goto 4, 3) := by decide +kernel
theorem dX10_good_11 : decode cX10_good 11 = .ok (.iconst 0, 1) := by decide +kernel
theorem dX10_good_12 : decode cX10_good 12 = .ok (.ireturn, 1) := by decide +kernel
theorem dX10_grease_0 : decode cX10_grease 0 = .ok (.aload_n 0, 1) := by decide +kernel
theorem dX10_grease_1 : decode cX10_grease 1 = .ok (.iload_n 1, 1) := by decide +kernel
theorem dX10_grease_2 : decode cX10_grease 2 = .ok (.invokevirtual 269, 3) := by decide +kernel
theorem dX10_grease_5 : decode cX10_grease 5 = .ok (.ifCond .ne 6, 3) := by decide +kernel
theorem dX10_grease_8 : decode cX10_grease 8 = .ok (.bipush (-2), 2) := by decide +kernel
theorem dX10_grease_10 : decode cX10_grease 10 = .ok (.ireturn, 1) := by decide +kernel
theorem dX10_grease_11 : decode cX10_grease 11 = .ok (.aload_n 0, 1) := by decide +kernel
theorem dX10_grease_12 : decode cX10_grease 12 = .ok (.getfield 9, 3) := by decide +kernel
theorem dX10_grease_15 : decode cX10_grease 15 = .ok (.bipush 7, 2) := by decide +kernel
theorem dX10_grease_17 : decode cX10_grease 17 = .ok (.iaload, 1) := by decide +kernel
theorem dX10_grease_18 : decode cX10_grease 18 = .ok (.bipush 40, 2) := by decide +kernel
theorem dX10_grease_20 : decode cX10_grease 20 = .ok (.if_icmp .ne 6, 3) := by decide +kernel
theorem dX10_grease_23 : decode cX10_grease 23 = .ok (.bipush (-5), 2) := by decide +kernel
theorem dX10_grease_25 : decode cX10_grease 25 = .ok (.ireturn, 1) := by decide +kernel
theorem dX10_grease_26 : decode cX10_grease 26 = .ok (.aload_n 0, 1) := by decide +kernel
theorem dX10_grease_27 : decode cX10_grease 27 = .ok (.invokevirtual 273, 3) := by decide +kernel
theorem dX10_grease_30 : decode cX10_grease 30 = .ok (.aload_n 0, 1) := by decide +kernel
theorem dX10_grease_31 : decode cX10_grease 31 = .ok (.sipush 300, 3) := by decide +kernel
theorem dX10_grease_34 : decode cX10_grease 34 = .ok (.iload_n 1, 1) := by decide +kernel
theorem dX10_grease_35 : decode cX10_grease 35 = .ok (.iadd, 1) := by decide +kernel
theorem dX10_grease_36 : decode cX10_grease 36 = .ok (.invokevirtual 294, 3) := by decide +kernel
theorem dX10_grease_39 : decode cX10_grease 39 = .ok (.aload_n 0, 1) := by decide +kernel
theorem dX10_grease_40 : decode cX10_grease 40 = .ok (.iload_n 1, 1) := by decide +kernel
theorem dX10_grease_41 : decode cX10_grease 41 = .ok (.invokevirtual 276, 3) := by decide +kernel
theorem dX10_grease_44 : decode cX10_grease 44 = .ok (.ireturn, 1) := by decide +kernel
theorem dX10_hand_0 : decode cX10_hand 0 = .ok (.aload_n 0, 1) := by decide +kernel
theorem dX10_hand_1 : decode cX10_hand 1 = .ok (.invokevirtual 297, 3) := by decide +kernel
theorem dX10_hand_4 : decode cX10_hand 4 = .ok (.ifCond .eq 15, 3) := by decide +kernel
theorem dX10_hand_7 : decode cX10_hand 7 = .ok (.iload_n 1, 1) := by decide +kernel
theorem dX10_hand_8 : decode cX10_hand 8 = .ok (.i2l, 1) := by decide +kernel
theorem dX10_hand_9 : decode cX10_hand 9 = .ok (.lconst 0, 1) := by decide +kernel
theorem dX10_hand_10 : decode cX10_hand 10 = .ok (.ldc2_w 347, 3) := by decide +kernel
theorem dX10_hand_13 : decode cX10_hand 13 = .ok (.invokestatic 85, 3) := by decide +kernel
theorem dX10_hand_16 : decode cX10_hand 16 = .ok (.ifCond .ne 6, 3) := by decide +kernel
theorem dX10_hand_19 : decode cX10_hand 19 = .ok (.bipush (-2), 2) := by decide +kernel
theorem dX10_hand_21 : decode cX10_hand 21 = .ok (.ireturn, 1) := by decide +kernel
theorem dX10_hand_22 : decode cX10_hand 22 = .ok (.aload_n 0, 1) := by decide +kernel
theorem dX10_hand_23 : decode cX10_hand 23 = .ok (.getfield 9, 3) := by decide +kernel
theorem dX10_hand_26 : decode cX10_hand 26 = .ok (.bipush 7, 2) := by decide +kernel
theorem dX10_hand_28 : decode cX10_hand 28 = .ok (.iaload, 1) := by decide +kernel
theorem dX10_hand_29 : decode cX10_hand 29 = .ok (.ifCond .le 6, 3) := by decide +kernel
theorem dX10_hand_32 : decode cX10_hand 32 = .ok (.bipush (-5), 2) := by decide +kernel
theorem dX10_hand_34 : decode cX10_hand 34 = .ok (.ireturn, 1) := by decide +kernel
theorem dX10_hand_35 : decode cX10_hand 35 = .ok (.aload_n 0, 1) := by decide +kernel
theorem dX10_hand_36 : decode cX10_hand 36 = .ok (.getfield 9, 3) := by decide +kernel
theorem dX10_hand_39 : decode cX10_hand 39 = .ok (.iconst 1, 1) := by decide +kernel
theorem dX10_hand_40 : decode cX10_hand 40 = .ok (.iaload, 1) := by decide +kernel
theorem dX10_hand_41 : decode cX10_hand 41 = .ok (.istore_n 2, 1) := by decide +kernel
theorem dX10_hand_42 : decode cX10_hand 42 = .ok (.aload_n 0, 1) := by decide +kernel
theorem dX10_hand_43 : decode cX10_hand 43 = .ok (.getfield 9, 3) := by decide +kernel
theorem dX10_hand_46 : decode cX10_hand 46 = .ok (.iconst 1, 1) := by decide +kernel
theorem dX10_hand_47 : decode cX10_hand 47 = .ok (.iload_n 1, 1) := by decide +kernel
theorem dX10_hand_48 : decode cX10_hand 48 = .ok (.iastore, 1) := by decide +kernel
theorem dX10_hand_49 : decode cX10_hand 49 = .ok (.iload_n 2, 1) := by decide +kernel
theorem dX10_hand_50 : decode cX10_hand 50 = .ok (.ireturn, 1) := by decide +kernel
theorem dX10_haunts_0 : decode cX10_haunts 0 = .ok (.aload_n 0, 1) := by decide +kernel
theorem dX10_haunts_1 : decode cX10_haunts 1 = .ok (.iload_n 1, 1) := by decide +kernel
theorem dX10_haunts_2 : decode cX10_haunts 2 = .ok (.invokevirtual 279, 3) := by decide +kernel
theorem dX10_haunts_5 : decode cX10_haunts 5 = .ok (.ifCond .ne 6, 3) := by decide +kernel
theorem dX10_haunts_8 : decode cX10_haunts 8 = .ok (.bipush (-2), 2) := by decide +kernel
theorem dX10_haunts_10 : decode cX10_haunts 10 = .ok (.ireturn, 1) := by decide +kernel
theorem dX10_haunts_11 : decode cX10_haunts 11 = .ok (.aload_n 0, 1) := by decide +kernel
theorem dX10_haunts_12 : decode cX10_haunts 12 = .ok (.iload_n 1, 1) := by decide +kernel
theorem dX10_haunts_13 : decode cX10_haunts 13 = .ok (.invokevirtual 349, 3) := by decide +kernel
theorem dX10_haunts_16 : decode cX10_haunts 16 = .ok (.iconst (-1), 1) := by decide +kernel
theorem dX10_haunts_17 : decode cX10_haunts 17 = .ok (.istore_n 2, 1) := by decide +kernel
theorem dX10_haunts_18 : decode cX10_haunts 18 = .ok (.iconst 0, 1) := by decide +kernel
theorem dX10_haunts_19 : decode cX10_haunts 19 = .ok (.istore_n 3, 1) := by decide +kernel
theorem dX10_haunts_20 : decode cX10_haunts 20 = .ok (.iconst 0, 1) := by decide +kernel
theorem dX10_haunts_21 : decode cX10_haunts 21 = .ok (.istore 4, 2) := by decide +kernel
theorem dX10_haunts_23 : decode cX10_haunts 23 = .ok (.iload 4, 2) := by decide +kernel
theorem dX10_haunts_25 : decode cX10_haunts 25 = .ok (.aload_n 0, 1) := by decide +kernel
theorem dX10_haunts_26 : decode cX10_haunts 26 = .ok (.getfield 9, 3) := by decide +kernel
theorem dX10_haunts_29 : decode cX10_haunts 29 = .ok (.iconst 0, 1) := by decide +kernel
theorem dX10_haunts_30 : decode cX10_haunts 30 = .ok (.iaload, 1) := by decide +kernel
theorem dX10_haunts_31 : decode cX10_haunts 31 = .ok (.if_icmp .ge 65, 3) := by decide +kernel
theorem dX10_haunts_34 : decode cX10_haunts 34 = .ok (.iconst 0, 1) := by decide +kernel
theorem dX10_haunts_35 : decode cX10_haunts 35 = .ok (.istore 5, 2) := by decide +kernel
theorem dX10_haunts_37 : decode cX10_haunts 37 = .ok (.iconst 0, 1) := by decide +kernel
theorem dX10_haunts_38 : decode cX10_haunts 38 = .ok (.istore 6, 2) := by decide +kernel
theorem dX10_haunts_40 : decode cX10_haunts 40 = .ok (.iload 6, 2) := by decide +kernel
theorem dX10_haunts_42 : decode cX10_haunts 42 = .ok (.bipush 40, 2) := by decide +kernel
theorem dX10_haunts_44 : decode cX10_haunts 44 = .ok (.if_icmp .gt 31, 3) := by decide +kernel
theorem dX10_haunts_47 : decode cX10_haunts 47 = .ok (.iload 5, 2) := by decide +kernel
theorem dX10_haunts_49 : decode cX10_haunts 49 = .ok (.aload_n 0, 1) := by decide +kernel
theorem dX10_haunts_50 : decode cX10_haunts 50 = .ok (.getfield 61, 3) := by decide +kernel
theorem dX10_haunts_53 : decode cX10_haunts 53 = .ok (.iload 6, 2) := by decide +kernel
theorem dX10_haunts_55 : decode cX10_haunts 55 = .ok (.iaload, 1) := by decide +kernel
theorem dX10_haunts_56 : decode cX10_haunts 56 = .ok (.iload 4, 2) := by decide +kernel
theorem dX10_haunts_58 : decode cX10_haunts 58 = .ok (.if_icmp .ne 7, 3) := by decide +kernel
theorem dX10_haunts_61 : decode cX10_haunts 61 = .ok (.iconst 1, 1) := by decide +kernel
theorem dX10_haunts_62 : decode cX10_haunts 62 = .ok (.goto 4, 3) := by decide +kernel
theorem dX10_haunts_65 : decode cX10_haunts 65 = .ok (.iconst 0, 1) := by decide +kernel
theorem dX10_haunts_66 : decode cX10_haunts 66 = .ok (.iadd, 1) := by decide +kernel
theorem dX10_haunts_67 : decode cX10_haunts 67 = .ok (.istore 5, 2) := by decide +kernel
theorem dX10_haunts_69 : decode cX10_haunts 69 = .ok (.iinc 6 1, 3) := by decide +kernel
theorem dX10_haunts_72 : decode cX10_haunts 72 = .ok (.goto (-32), 3) := by decide +kernel
theorem dX10_haunts_75 : decode cX10_haunts 75 = .ok (.iload 5, 2) := by decide +kernel
theorem dX10_haunts_77 : decode cX10_haunts 77 = .ok (.iload_n 3, 1) := by decide +kernel
theorem dX10_haunts_78 : decode cX10_haunts 78 = .ok (.if_icmp .gt 6, 3) := by decide +kernel
theorem dX10_haunts_81 : decode cX10_haunts 81 = .ok (.goto 9, 3) := by decide +kernel
theorem dX10_haunts_84 : decode cX10_haunts 84 = .ok (.iload 5, 2) := by decide +kernel
theorem dX10_haunts_86 : decode cX10_haunts 86 = .ok (.istore_n 3, 1) := by decide +kernel
theorem dX10_haunts_87 : decode cX10_haunts 87 = .ok (.iload 4, 2) := by decide +kernel
theorem dX10_haunts_89 : decode cX10_haunts 89 = .ok (.istore_n 2, 1) := by decide +kernel
theorem dX10_haunts_90 : decode cX10_haunts 90 = .ok (.iinc 4 1, 3) := by decide +kernel
theorem dX10_haunts_93 : decode cX10_haunts 93 = .ok (.goto (-70), 3) := by decide +kernel
theorem dX10_haunts_96 : decode cX10_haunts 96 = .ok (.iload_n 2, 1) := by decide +kernel
theorem dX10_haunts_97 : decode cX10_haunts 97 = .ok (.ireturn, 1) := by decide +kernel
theorem dX10_image_0 : decode cX10_image 0 = .ok (.iload_n 1, 1) := by decide +kernel
theorem dX10_image_1 : decode cX10_image 1 = .ok (.i2l, 1) := by decide +kernel
theorem dX10_image_2 : decode cX10_image 2 = .ok (.lconst 0, 1) := by decide +kernel
theorem dX10_image_3 : decode cX10_image 3 = .ok (.ldc2_w 83, 3) := by decide +kernel
theorem dX10_image_6 : decode cX10_image 6 = .ok (.invokestatic 85, 3) := by decide +kernel
theorem dX10_image_9 : decode cX10_image 9 = .ok (.ifCond .ne 6, 3) := by decide +kernel
theorem dX10_image_12 : decode cX10_image 12 = .ok (.bipush (-2), 2) := by decide +kernel
theorem dX10_image_14 : decode cX10_image 14 = .ok (.ireturn, 1) := by decide +kernel
theorem dX10_image_15 : decode cX10_image 15 = .ok (.iconst 0, 1) := by decide +kernel
theorem dX10_image_16 : decode cX10_image 16 = .ok (.istore_n 2, 1) := by decide +kernel
theorem dX10_image_17 : decode cX10_image 17 = .ok (.iload_n 2, 1) := by decide +kernel
theorem dX10_image_18 : decode cX10_image 18 = .ok (.sipush 168, 3) := by decide +kernel
theorem dX10_image_21 : decode cX10_image 21 = .ok (.if_icmp .ge 27, 3) := by decide +kernel
theorem dX10_image_24 : decode cX10_image 24 = .ok (.aload_n 0, 1) := by decide +kernel
theorem dX10_image_25 : decode cX10_image 25 = .ok (.getfield 13, 3) := by decide +kernel
theorem dX10_image_28 : decode cX10_image 28 = .ok (.sipush 168, 3) := by decide +kernel
theorem dX10_image_31 : decode cX10_image 31 = .ok (.iload_n 1, 1) := by decide +kernel
theorem dX10_image_32 : decode cX10_image 32 = .ok (.imul, 1) := by decide +kernel
theorem dX10_image_33 : decode cX10_image 33 = .ok (.iload_n 2, 1) := by decide +kernel
theorem dX10_image_34 : decode cX10_image 34 = .ok (.iadd, 1) := by decide +kernel
theorem dX10_image_35 : decode cX10_image 35 = .ok (.aload_n 0, 1) := by decide +kernel
theorem dX10_image_36 : decode cX10_image 36 = .ok (.getfield 9, 3) := by decide +kernel
theorem dX10_image_39 : decode cX10_image 39 = .ok (.iload_n 2, 1) := by decide +kernel
theorem dX10_image_40 : decode cX10_image 40 = .ok (.iaload, 1) := by decide +kernel
theorem dX10_image_41 : decode cX10_image 41 = .ok (.iastore, 1) := by decide +kernel
theorem dX10_image_42 : decode cX10_image 42 = .ok (.iinc 2 1, 3) := by decide +kernel
theorem dX10_image_45 : decode cX10_image 45 = .ok (.goto (-28), 3) := by decide +kernel
theorem dX10_image_48 : decode cX10_image 48 = .ok (.aload_n 0, 1) := by decide +kernel
theorem dX10_image_49 : decode cX10_image 49 = .ok (.getfield 16, 3) := by decide +kernel
theorem dX10_image_52 : decode cX10_image 52 = .ok (.iload_n 1, 1) := by decide +kernel
theorem dX10_image_53 : decode cX10_image 53 = .ok (.iconst 1, 1) := by decide +kernel
theorem dX10_image_54 : decode cX10_image 54 = .ok (.bastore, 1) := by decide +kernel
theorem dX10_image_55 : decode cX10_image 55 = .ok (.iconst 0, 1) := by decide +kernel
theorem dX10_image_56 : decode cX10_image 56 = .ok (.ireturn, 1) := by decide +kernel
theorem dX10_in_0 : decode cX10_in 0 = .ok (.lload_n 0, 1) := by decide +kernel
theorem dX10_in_1 : decode cX10_in 1 = .ok (.lload_n 2, 1) := by decide +kernel
theorem dX10_in_2 : decode cX10_in 2 = .ok (.lcmp, 1) := by decide +kernel
theorem dX10_in_3 : decode cX10_in 3 = .ok (.ifCond .lt 14, 3) := by decide +kernel
theorem dX10_in_6 : decode cX10_in 6 = .ok (.lload_n 0, 1) := by decide +kernel
theorem dX10_in_7 : decode cX10_in 7 = .ok (.lload 4, 2) := by decide +kernel
theorem dX10_in_9 : decode cX10_in 9 = .ok (.lcmp, 1) := by decide +kernel
theorem dX10_in_10 : decode cX10_in 10 = .ok (.ifCond .gt 7, 3) := by decide +kernel
theorem dX10_in_13 : decode cX10_in 13 = .ok (.iconst 1, 1) := by decide +kernel
theorem dX10_in_14 : decode cX10_in 14 = .ok (.goto 4, 3) := by decide +kernel
theorem dX10_in_17 : decode cX10_in 17 = .ok (.iconst 0, 1) := by decide +kernel
theorem dX10_in_18 : decode cX10_in 18 = .ok (.ireturn, 1) := by decide +kernel
theorem dX10_is_0 : decode cX10_is 0 = .ok (.aload_n 0, 1) := by decide +kernel
theorem dX10_is_1 : decode cX10_is 1 = .ok (.invokevirtual 136, 3) := by decide +kernel
theorem dX10_is_4 : decode cX10_is 4 = .ok (.ifCond .eq 31, 3) := by decide +kernel
theorem dX10_is_7 : decode cX10_is 7 = .ok (.aload_n 0, 1) := by decide +kernel
theorem dX10_is_8 : decode cX10_is 8 = .ok (.getfield 113, 3) := by decide +kernel
theorem dX10_is_11 : decode cX10_is 11 = .ok (.iconst 1, 1) := by decide +kernel
theorem dX10_is_12 : decode cX10_is 12 = .ok (.if_icmp .ne 23, 3) := by decide +kernel
theorem dX10_is_15 : decode cX10_is 15 = .ok (.aload_n 0, 1) := by decide +kernel
theorem dX10_is_16 : decode cX10_is 16 = .ok (.getfield 103, 3) := by decide +kernel
theorem dX10_is_19 : decode cX10_is 19 = .ok (.aload_n 0, 1) := by decide +kernel
theorem dX10_is_20 : decode cX10_is 20 = .ok (.getfield 110, 3) := by decide +kernel
theorem dX10_is_23 : decode cX10_is 23 = .ok (.isub, 1) := by decide +kernel
theorem dX10_is_24 : decode cX10_is 24 = .ok (.aload_n 1, 1) := by decide +kernel
theorem dX10_is_25 : decode cX10_is 25 = .ok (.invokevirtual 140, 3) := by decide +kernel
theorem dX10_is_28 : decode cX10_is 28 = .ok (.if_icmp .ne 7, 3) := by decide +kernel
theorem dX10_is_31 : decode cX10_is 31 = .ok (.iconst 1, 1) := by decide +kernel
theorem dX10_is_32 : decode cX10_is 32 = .ok (.goto 4, 3) := by decide +kernel
theorem dX10_is_35 : decode cX10_is 35 = .ok (.iconst 0, 1) := by decide +kernel
theorem dX10_is_36 : decode cX10_is 36 = .ok (.istore_n 2, 1) := by decide +kernel
theorem dX10_is_37 : decode cX10_is 37 = .ok (.iconst 0, 1) := by decide +kernel
theorem dX10_is_38 : decode cX10_is 38 = .ok (.istore_n 3, 1) := by decide +kernel
theorem dX10_is_39 : decode cX10_is 39 = .ok (.iload_n 3, 1) := by decide +kernel
theorem dX10_is_40 : decode cX10_is 40 = .ok (.aload_n 1, 1) := by decide +kernel
theorem dX10_is_41 : decode cX10_is 41 = .ok (.invokevirtual 140, 3) := by decide +kernel
theorem dX10_is_44 : decode cX10_is 44 = .ok (.if_icmp .ge 38, 3) := by decide +kernel
theorem dX10_is_47 : decode cX10_is 47 = .ok (.iload_n 2, 1) := by decide +kernel
theorem dX10_is_48 : decode cX10_is 48 = .ok (.ifCond .eq 34, 3) := by decide +kernel
theorem dX10_is_51 : decode cX10_is 51 = .ok (.aload_n 0, 1) := by decide +kernel
theorem dX10_is_52 : decode cX10_is 52 = .ok (.getfield 20, 3) := by decide +kernel
theorem dX10_is_55 : decode cX10_is 55 = .ok (.aload_n 0, 1) := by decide +kernel
theorem dX10_is_56 : decode cX10_is 56 = .ok (.getfield 110, 3) := by decide +kernel
theorem dX10_is_59 : decode cX10_is 59 = .ok (.iload_n 3, 1) := by decide +kernel
theorem dX10_is_60 : decode cX10_is 60 = .ok (.iadd, 1) := by decide +kernel
theorem dX10_is_61 : decode cX10_is 61 = .ok (.baload, 1) := by decide +kernel
theorem dX10_is_62 : decode cX10_is 62 = .ok (.aload_n 1, 1) := by decide +kernel
theorem dX10_is_63 : decode cX10_is 63 = .ok (.iload_n 3, 1) := by decide +kernel
theorem dX10_is_64 : decode cX10_is 64 = .ok (.invokevirtual 146, 3) := by decide +kernel
theorem dX10_is_67 : decode cX10_is 67 = .ok (.if_icmp .ne 7, 3) := by decide +kernel
theorem dX10_is_70 : decode cX10_is 70 = .ok (.iconst 1, 1) := by decide +kernel
theorem dX10_is_71 : decode cX10_is 71 = .ok (.goto 4, 3) := by decide +kernel
theorem dX10_is_74 : decode cX10_is 74 = .ok (.iconst 0, 1) := by decide +kernel
theorem dX10_is_75 : decode cX10_is 75 = .ok (.istore_n 2, 1) := by decide +kernel
theorem dX10_is_76 : decode cX10_is 76 = .ok (.iinc 3 1, 3) := by decide +kernel
theorem dX10_is_79 : decode cX10_is 79 = .ok (.goto (-40), 3) := by decide +kernel
theorem dX10_is_82 : decode cX10_is 82 = .ok (.iload_n 2, 1) := by decide +kernel
theorem dX10_is_83 : decode cX10_is 83 = .ok (.ireturn, 1) := by decide +kernel
theorem dX10_isCart_0 : decode cX10_isCart 0 = .ok (.iload_n 1, 1) := by decide +kernel
theorem dX10_isCart_1 : decode cX10_isCart 1 = .ok (.i2l, 1) := by decide +kernel
theorem dX10_isCart_2 : decode cX10_isCart 2 = .ok (.lconst 0, 1) := by decide +kernel
theorem dX10_isCart_3 : decode cX10_isCart 3 = .ok (.aload_n 0, 1) := by decide +kernel
theorem dX10_isCart_4 : decode cX10_isCart 4 = .ok (.getfield 9, 3) := by decide +kernel
theorem dX10_isCart_7 : decode cX10_isCart 7 = .ok (.iconst 4, 1) := by decide +kernel
theorem dX10_isCart_8 : decode cX10_isCart 8 = .ok (.iaload, 1) := by decide +kernel
theorem dX10_isCart_9 : decode cX10_isCart 9 = .ok (.iconst 1, 1) := by decide +kernel
theorem dX10_isCart_10 : decode cX10_isCart 10 = .ok (.isub, 1) := by decide +kernel
theorem dX10_isCart_11 : decode cX10_isCart 11 = .ok (.i2l, 1) := by decide +kernel
theorem dX10_isCart_12 : decode cX10_isCart 12 = .ok (.invokestatic 85, 3) := by decide +kernel
theorem dX10_isCart_15 : decode cX10_isCart 15 = .ok (.ireturn, 1) := by decide +kernel
theorem dX10_isDrawn_0 : decode cX10_isDrawn 0 = .ok (.iload_n 1, 1) := by decide +kernel
theorem dX10_isDrawn_1 : decode cX10_isDrawn 1 = .ok (.i2l, 1) := by decide +kernel
theorem dX10_isDrawn_2 : decode cX10_isDrawn 2 = .ok (.lconst 0, 1) := by decide +kernel
theorem dX10_isDrawn_3 : decode cX10_isDrawn 3 = .ok (.ldc2_w 422, 3) := by decide +kernel
theorem dX10_isDrawn_6 : decode cX10_isDrawn 6 = .ok (.invokestatic 85, 3) := by decide +kernel
theorem dX10_isDrawn_9 : decode cX10_isDrawn 9 = .ok (.ifCond .eq 27, 3) := by decide +kernel
theorem dX10_isDrawn_12 : decode cX10_isDrawn 12 = .ok (.aload_n 0, 1) := by decide +kernel
theorem dX10_isDrawn_13 : decode cX10_isDrawn 13 = .ok (.iload_n 2, 1) := by decide +kernel
theorem dX10_isDrawn_14 : decode cX10_isDrawn 14 = .ok (.invokevirtual 279, 3) := by decide +kernel
theorem dX10_isDrawn_17 : decode cX10_isDrawn 17 = .ok (.ifCond .eq 19, 3) := by decide +kernel
theorem dX10_isDrawn_20 : decode cX10_isDrawn 20 = .ok (.iload_n 3, 1) := by decide +kernel
theorem dX10_isDrawn_21 : decode cX10_isDrawn 21 = .ok (.i2l, 1) := by decide +kernel
theorem dX10_isDrawn_22 : decode cX10_isDrawn 22 = .ok (.lconst 0, 1) := by decide +kernel
theorem dX10_isDrawn_23 : decode cX10_isDrawn 23 = .ok (.ldc2_w 347, 3) := by decide +kernel
theorem dX10_isDrawn_26 : decode cX10_isDrawn 26 = .ok (.invokestatic 85, 3) := by decide +kernel
theorem dX10_isDrawn_29 : decode cX10_isDrawn 29 = .ok (.ifCond .eq 7, 3) := by decide +kernel
theorem dX10_isDrawn_32 : decode cX10_isDrawn 32 = .ok (.iconst 1, 1) := by decide +kernel
theorem dX10_isDrawn_33 : decode cX10_isDrawn 33 = .ok (.goto 4, 3) := by decide +kernel
theorem dX10_isDrawn_36 : decode cX10_isDrawn 36 = .ok (.iconst 0, 1) := by decide +kernel
theorem dX10_isDrawn_37 : decode cX10_isDrawn 37 = .ok (.ireturn, 1) := by decide +kernel
theorem dX10_isLand_0 : decode cX10_isLand 0 = .ok (.aload_n 0, 1) := by decide +kernel
theorem dX10_isLand_1 : decode cX10_isLand 1 = .ok (.getfield 9, 3) := by decide +kernel
theorem dX10_isLand_4 : decode cX10_isLand 4 = .ok (.bipush 6, 2) := by decide +kernel
theorem dX10_isLand_6 : decode cX10_isLand 6 = .ok (.iaload, 1) := by decide +kernel
theorem dX10_isLand_7 : decode cX10_isLand 7 = .ok (.ifCond .le 7, 3) := by decide +kernel
theorem dX10_isLand_10 : decode cX10_isLand 10 = .ok (.iconst 1, 1) := by decide +kernel
theorem dX10_isLand_11 : decode cX10_isLand 11 = .ok (.goto 4, 3) := by decide +kernel
theorem dX10_isLand_14 : decode cX10_isLand 14 = .ok (.iconst 0, 1) := by decide +kernel
theorem dX10_isLand_15 : decode cX10_isLand 15 = .ok (.ireturn, 1) := by decide +kernel
theorem dX10_isOf_0 : decode cX10_isOf 0 = .ok (.aload_n 0, 1) := by decide +kernel
theorem dX10_isOf_1 : decode cX10_isOf 1 = .ok (.iload_n 1, 1) := by decide +kernel
theorem dX10_isOf_2 : decode cX10_isOf 2 = .ok (.iconst 0, 1) := by decide +kernel
theorem dX10_isOf_3 : decode cX10_isOf 3 = .ok (.invokevirtual 89, 3) := by decide +kernel
theorem dX10_isOf_6 : decode cX10_isOf 6 = .ok (.iload_n 2, 1) := by decide +kernel
theorem dX10_isOf_7 : decode cX10_isOf 7 = .ok (.if_icmp .eq 13, 3) := by decide +kernel
theorem dX10_isOf_10 : decode cX10_isOf 10 = .ok (.aload_n 0, 1) := by decide +kernel
theorem dX10_isOf_11 : decode cX10_isOf 11 = .ok (.iload_n 1, 1) := by decide +kernel
theorem dX10_isOf_12 : decode cX10_isOf 12 = .ok (.iconst 1, 1) := by decide +kernel
theorem dX10_isOf_13 : decode cX10_isOf 13 = .ok (.invokevirtual 89, 3) := by decide +kernel
theorem dX10_isOf_16 : decode cX10_isOf 16 = .ok (.iload_n 2, 1) := by decide +kernel
theorem dX10_isOf_17 : decode cX10_isOf 17 = .ok (.if_icmp .ne 7, 3) := by decide +kernel
theorem dX10_isOf_20 : decode cX10_isOf 20 = .ok (.iconst 1, 1) := by decide +kernel
theorem dX10_isOf_21 : decode cX10_isOf 21 = .ok (.goto 4, 3) := by decide +kernel
theorem dX10_isOf_24 : decode cX10_isOf 24 = .ok (.iconst 0, 1) := by decide +kernel
theorem dX10_isOf_25 : decode cX10_isOf 25 = .ok (.ireturn, 1) := by decide +kernel
theorem dX10_isPlace_0 : decode cX10_isPlace 0 = .ok (.lload_n 1, 1) := by decide +kernel
theorem dX10_isPlace_1 : decode cX10_isPlace 1 = .ok (.lconst 0, 1) := by decide +kernel
theorem dX10_isPlace_2 : decode cX10_isPlace 2 = .ok (.aload_n 0, 1) := by decide +kernel
theorem dX10_isPlace_3 : decode cX10_isPlace 3 = .ok (.getfield 9, 3) := by decide +kernel
theorem dX10_isPlace_6 : decode cX10_isPlace 6 = .ok (.iconst 0, 1) := by decide +kernel
theorem dX10_isPlace_7 : decode cX10_isPlace 7 = .ok (.iaload, 1) := by decide +kernel
theorem dX10_isPlace_8 : decode cX10_isPlace 8 = .ok (.iconst 1, 1) := by decide +kernel
theorem dX10_isPlace_9 : decode cX10_isPlace 9 = .ok (.isub, 1) := by decide +kernel
theorem dX10_isPlace_10 : decode cX10_isPlace 10 = .ok (.i2l, 1) := by decide +kernel
theorem dX10_isPlace_11 : decode cX10_isPlace 11 = .ok (.invokestatic 85, 3) := by decide +kernel
theorem dX10_isPlace_14 : decode cX10_isPlace 14 = .ok (.ireturn, 1) := by decide +kernel
theorem dX10_isRoad_0 : decode cX10_isRoad 0 = .ok (.lload_n 1, 1) := by decide +kernel
theorem dX10_isRoad_1 : decode cX10_isRoad 1 = .ok (.lconst 0, 1) := by decide +kernel
theorem dX10_isRoad_2 : decode cX10_isRoad 2 = .ok (.aload_n 0, 1) := by decide +kernel
theorem dX10_isRoad_3 : decode cX10_isRoad 3 = .ok (.getfield 9, 3) := by decide +kernel
theorem dX10_isRoad_6 : decode cX10_isRoad 6 = .ok (.iconst 2, 1) := by decide +kernel
theorem dX10_isRoad_7 : decode cX10_isRoad 7 = .ok (.iaload, 1) := by decide +kernel
theorem dX10_isRoad_8 : decode cX10_isRoad 8 = .ok (.iconst 1, 1) := by decide +kernel
theorem dX10_isRoad_9 : decode cX10_isRoad 9 = .ok (.isub, 1) := by decide +kernel
theorem dX10_isRoad_10 : decode cX10_isRoad 10 = .ok (.i2l, 1) := by decide +kernel
theorem dX10_isRoad_11 : decode cX10_isRoad 11 = .ok (.invokestatic 85, 3) := by decide +kernel
theorem dX10_isRoad_14 : decode cX10_isRoad 14 = .ok (.ireturn, 1) := by decide +kernel
theorem dX10_isSlot_0 : decode cX10_isSlot 0 = .ok (.iload_n 0, 1) := by decide +kernel
theorem dX10_isSlot_1 : decode cX10_isSlot 1 = .ok (.i2l, 1) := by decide +kernel
theorem dX10_isSlot_2 : decode cX10_isSlot 2 = .ok (.lconst 0, 1) := by decide +kernel
theorem dX10_isSlot_3 : decode cX10_isSlot 3 = .ok (.ldc2_w 434, 3) := by decide +kernel
theorem dX10_isSlot_6 : decode cX10_isSlot 6 = .ok (.invokestatic 85, 3) := by decide +kernel
theorem dX10_isSlot_9 : decode cX10_isSlot 9 = .ok (.ireturn, 1) := by decide +kernel
theorem dX10_isWheel_0 : decode cX10_isWheel 0 = .ok (.iload_n 1, 1) := by decide +kernel
theorem dX10_isWheel_1 : decode cX10_isWheel 1 = .ok (.i2l, 1) := by decide +kernel
theorem dX10_isWheel_2 : decode cX10_isWheel 2 = .ok (.lconst 0, 1) := by decide +kernel
theorem dX10_isWheel_3 : decode cX10_isWheel 3 = .ok (.aload_n 0, 1) := by decide +kernel
theorem dX10_isWheel_4 : decode cX10_isWheel 4 = .ok (.getfield 9, 3) := by decide +kernel
theorem dX10_isWheel_7 : decode cX10_isWheel 7 = .ok (.iconst 3, 1) := by decide +kernel
theorem dX10_isWheel_8 : decode cX10_isWheel 8 = .ok (.iaload, 1) := by decide +kernel
theorem dX10_isWheel_9 : decode cX10_isWheel 9 = .ok (.iconst 1, 1) := by decide +kernel
theorem dX10_isWheel_10 : decode cX10_isWheel 10 = .ok (.isub, 1) := by decide +kernel
theorem dX10_isWheel_11 : decode cX10_isWheel 11 = .ok (.i2l, 1) := by decide +kernel
theorem dX10_isWheel_12 : decode cX10_isWheel 12 = .ok (.invokestatic 85, 3) := by decide +kernel
theorem dX10_isWheel_15 : decode cX10_isWheel 15 = .ok (.ireturn, 1) := by decide +kernel
theorem dX10_isWorn_0 : decode cX10_isWorn 0 = .ok (.iconst 0, 1) := by decide +kernel
theorem dX10_isWorn_1 : decode cX10_isWorn 1 = .ok (.istore_n 2, 1) := by decide +kernel
theorem dX10_isWorn_2 : decode cX10_isWorn 2 = .ok (.iload_n 2, 1) := by decide +kernel
theorem dX10_isWorn_3 : decode cX10_isWorn 3 = .ok (.aload_n 0, 1) := by decide +kernel
theorem dX10_isWorn_4 : decode cX10_isWorn 4 = .ok (.getfield 9, 3) := by decide +kernel
theorem dX10_isWorn_7 : decode cX10_isWorn 7 = .ok (.iconst 3, 1) := by decide +kernel
theorem dX10_isWorn_8 : decode cX10_isWorn 8 = .ok (.iaload, 1) := by decide +kernel
theorem dX10_isWorn_9 : decode cX10_isWorn 9 = .ok (.if_icmp .ge 30, 3) := by decide +kernel
theorem dX10_isWorn_12 : decode cX10_isWorn 12 = .ok (.aload_n 0, 1) := by decide +kernel
theorem dX10_isWorn_13 : decode cX10_isWorn 13 = .ok (.getfield 40, 3) := by decide +kernel
theorem dX10_isWorn_16 : decode cX10_isWorn 16 = .ok (.iload_n 2, 1) := by decide +kernel
theorem dX10_isWorn_17 : decode cX10_isWorn 17 = .ok (.iaload, 1) := by decide +kernel
theorem dX10_isWorn_18 : decode cX10_isWorn 18 = .ok (.iload_n 1, 1) := by decide +kernel
theorem dX10_isWorn_19 : decode cX10_isWorn 19 = .ok (.if_icmp .ne 14, 3) := by decide +kernel
theorem dX10_isWorn_22 : decode cX10_isWorn 22 = .ok (.aload_n 0, 1) := by decide +kernel
theorem dX10_isWorn_23 : decode cX10_isWorn 23 = .ok (.getfield 34, 3) := by decide +kernel
theorem dX10_isWorn_26 : decode cX10_isWorn 26 = .ok (.iload_n 2, 1) := by decide +kernel
theorem dX10_isWorn_27 : decode cX10_isWorn 27 = .ok (.iaload, 1) := by decide +kernel
theorem dX10_isWorn_28 : decode cX10_isWorn 28 = .ok (.ifCond .ne 5, 3) := by decide +kernel
theorem dX10_isWorn_31 : decode cX10_isWorn 31 = .ok (.iconst 1, 1) := by decide +kernel
theorem dX10_isWorn_32 : decode cX10_isWorn 32 = .ok (.ireturn, 1) := by decide +kernel
theorem dX10_isWorn_33 : decode cX10_isWorn 33 = .ok (.iinc 2 1, 3) := by decide +kernel
theorem dX10_isWorn_36 : decode cX10_isWorn 36 = .ok (.goto (-34), 3) := by decide +kernel
theorem dX10_isWorn_39 : decode cX10_isWorn 39 = .ok (.iconst 0, 1) := by decide +kernel
theorem dX10_isWorn_40 : decode cX10_isWorn 40 = .ok (.ireturn, 1) := by decide +kernel
theorem dX10_keepAct_0 : decode cX10_keepAct 0 = .ok (.aload_n 0, 1) := by decide +kernel
theorem dX10_keepAct_1 : decode cX10_keepAct 1 = .ok (.getfield 9, 3) := by decide +kernel
theorem dX10_keepAct_4 : decode cX10_keepAct 4 = .ok (.sipush 128, 3) := by decide +kernel
theorem dX10_keepAct_7 : decode cX10_keepAct 7 = .ok (.aload_n 0, 1) := by decide +kernel
theorem dX10_keepAct_8 : decode cX10_keepAct 8 = .ok (.getfield 9, 3) := by decide +kernel
theorem dX10_keepAct_11 : decode cX10_keepAct 11 = .ok (.bipush 7, 2) := by decide +kernel
theorem dX10_keepAct_13 : decode cX10_keepAct 13 = .ok (.iaload, 1) := by decide +kernel
theorem dX10_keepAct_14 : decode cX10_keepAct 14 = .ok (.iadd, 1) := by decide +kernel
theorem dX10_keepAct_15 : decode cX10_keepAct 15 = .ok (.iload_n 1, 1) := by decide +kernel
theorem dX10_keepAct_16 : decode cX10_keepAct 16 = .ok (.iastore, 1) := by decide +kernel
theorem dX10_keepAct_17 : decode cX10_keepAct 17 = .ok (.aload_n 0, 1) := by decide +kernel
theorem dX10_keepAct_18 : decode cX10_keepAct 18 = .ok (.getfield 9, 3) := by decide +kernel
theorem dX10_keepAct_21 : decode cX10_keepAct 21 = .ok (.bipush 7, 2) := by decide +kernel
theorem dX10_keepAct_23 : decode cX10_keepAct 23 = .ok (.dup2, 1) := by decide +kernel
theorem dX10_keepAct_24 : decode cX10_keepAct 24 = .ok (.iaload, 1) := by decide +kernel
theorem dX10_keepAct_25 : decode cX10_keepAct 25 = .ok (.iconst 1, 1) := by decide +kernel
theorem dX10_keepAct_26 : decode cX10_keepAct 26 = .ok (.iadd, 1) := by decide +kernel
theorem dX10_keepAct_27 : decode cX10_keepAct 27 = .ok (.iastore, 1) := by decide +kernel
theorem dX10_keepAct_28 : decode cX10_keepAct 28 = .ok (.return_, 1) := by decide +kernel
theorem dX10_land_0 : decode cX10_land 0 = .ok (.aload_n 0, 1) := by decide +kernel
theorem dX10_land_1 : decode cX10_land 1 = .ok (.aload_n 0, 1) := by decide +kernel
theorem dX10_land_2 : decode cX10_land 2 = .ok (.getfield 97, 3) := by decide +kernel
theorem dX10_land_5 : decode cX10_land 5 = .ok (.putfield 100, 3) := by decide +kernel
theorem dX10_land_8 : decode cX10_land 8 = .ok (.aload_n 0, 1) := by decide +kernel
theorem dX10_land_9 : decode cX10_land 9 = .ok (.iconst 0, 1) := by decide +kernel
theorem dX10_land_10 : decode cX10_land 10 = .ok (.putfield 97, 3) := by decide +kernel
theorem dX10_land_13 : decode cX10_land 13 = .ok (.aload_n 0, 1) := by decide +kernel
theorem dX10_land_14 : decode cX10_land 14 = .ok (.iconst 0, 1) := by decide +kernel
theorem dX10_land_15 : decode cX10_land 15 = .ok (.putfield 103, 3) := by decide +kernel
theorem dX10_land_18 : decode cX10_land 18 = .ok (.aload_n 0, 1) := by decide +kernel
theorem dX10_land_19 : decode cX10_land 19 = .ok (.iconst 0, 1) := by decide +kernel
theorem dX10_land_20 : decode cX10_land 20 = .ok (.putfield 133, 3) := by decide +kernel
theorem dX10_land_23 : decode cX10_land 23 = .ok (.aload_n 0, 1) := by decide +kernel
theorem dX10_land_24 : decode cX10_land 24 = .ok (.iconst (-1), 1) := by decide +kernel
theorem dX10_land_25 : decode cX10_land 25 = .ok (.putfield 27, 3) := by decide +kernel
theorem dX10_land_28 : decode cX10_land 28 = .ok (.iconst 0, 1) := by decide +kernel
theorem dX10_land_29 : decode cX10_land 29 = .ok (.istore_n 1, 1) := by decide +kernel
theorem dX10_land_30 : decode cX10_land 30 = .ok (.iload_n 1, 1) := by decide +kernel
theorem dX10_land_31 : decode cX10_land 31 = .ok (.sipush 168, 3) := by decide +kernel
theorem dX10_land_34 : decode cX10_land 34 = .ok (.if_icmp .ge 16, 3) := by decide +kernel
theorem dX10_land_37 : decode cX10_land 37 = .ok (.aload_n 0, 1) := by decide +kernel
theorem dX10_land_38 : decode cX10_land 38 = .ok (.getfield 31, 3) := by decide +kernel
theorem dX10_land_41 : decode cX10_land 41 = .ok (.iload_n 1, 1) := by decide +kernel
theorem dX10_land_42 : decode cX10_land 42 = .ok (.iconst 0, 1) := by decide +kernel
theorem dX10_land_43 : decode cX10_land 43 = .ok (.iastore, 1) := by decide +kernel
theorem dX10_land_44 : decode cX10_land 44 = .ok (.iinc 1 1, 3) := by decide +kernel
theorem dX10_land_47 : decode cX10_land 47 = .ok (.goto (-17), 3) := by decide +kernel
theorem dX10_land_50 : decode cX10_land 50 = .ok (.aload_n 0, 1) := by decide +kernel
theorem dX10_land_51 : decode cX10_land 51 = .ok (.invokevirtual 154, 3) := by decide +kernel
theorem dX10_land_54 : decode cX10_land 54 = .ok (.aload_n 0, 1) := by decide +kernel
theorem dX10_land_55 : decode cX10_land 55 = .ok (.invokevirtual 136, 3) := by decide +kernel
theorem dX10_land_58 : decode cX10_land 58 = .ok (.ifCond .eq 17, 3) := by decide +kernel
theorem dX10_land_61 : decode cX10_land 61 = .ok (.aload_n 0, 1) := by decide +kernel
theorem dX10_land_62 : decode cX10_land 62 = .ok (.getfield 113, 3) := by decide +kernel
theorem dX10_land_65 : decode cX10_land 65 = .ok (.ifCond .eq 10, 3) := by decide +kernel
theorem dX10_land_68 : decode cX10_land 68 = .ok (.aload_n 0, 1) := by decide +kernel
theorem dX10_land_69 : decode cX10_land 69 = .ok (.invokevirtual 227, 3) := by decide +kernel
theorem dX10_land_72 : decode cX10_land 72 = .ok (.goto (-18), 3) := by decide +kernel
theorem dX10_land_75 : decode cX10_land 75 = .ok (.aload_n 0, 1) := by decide +kernel
theorem dX10_land_76 : decode cX10_land 76 = .ok (.invokevirtual 136, 3) := by decide +kernel
theorem dX10_land_79 : decode cX10_land 79 = .ok (.ifCond .ne 6, 3) := by decide +kernel
theorem dX10_land_82 : decode cX10_land 82 = .ok (.bipush (-4), 2) := by decide +kernel
theorem dX10_land_84 : decode cX10_land 84 = .ok (.ireturn, 1) := by decide +kernel
theorem dX10_land_85 : decode cX10_land 85 = .ok (.iconst 0, 1) := by decide +kernel
theorem dX10_land_86 : decode cX10_land 86 = .ok (.istore_n 1, 1) := by decide +kernel
theorem dX10_land_87 : decode cX10_land 87 = .ok (.iload_n 1, 1) := by decide +kernel
theorem dX10_land_88 : decode cX10_land 88 = .ok (.sipush 168, 3) := by decide +kernel
theorem dX10_land_91 : decode cX10_land 91 = .ok (.if_icmp .ge 21, 3) := by decide +kernel
theorem dX10_land_94 : decode cX10_land 94 = .ok (.aload_n 0, 1) := by decide +kernel
theorem dX10_land_95 : decode cX10_land 95 = .ok (.getfield 9, 3) := by decide +kernel
theorem dX10_land_98 : decode cX10_land 98 = .ok (.iload_n 1, 1) := by decide +kernel
theorem dX10_land_99 : decode cX10_land 99 = .ok (.aload_n 0, 1) := by decide +kernel
theorem dX10_land_100 : decode cX10_land 100 = .ok (.getfield 31, 3) := by decide +kernel
theorem dX10_land_103 : decode cX10_land 103 = .ok (.iload_n 1, 1) := by decide +kernel
theorem dX10_land_104 : decode cX10_land 104 = .ok (.iaload, 1) := by decide +kernel
theorem dX10_land_105 : decode cX10_land 105 = .ok (.iastore, 1) := by decide +kernel
theorem dX10_land_106 : decode cX10_land 106 = .ok (.iinc 1 1, 3) := by decide +kernel
theorem dX10_land_109 : decode cX10_land 109 = .ok (.goto (-22), 3) := by decide +kernel
theorem dX10_land_112 : decode cX10_land 112 = .ok (.aload_n 0, 1) := by decide +kernel
theorem dX10_land_113 : decode cX10_land 113 = .ok (.getfield 9, 3) := by decide +kernel
theorem dX10_land_116 : decode cX10_land 116 = .ok (.bipush 6, 2) := by decide +kernel
theorem dX10_land_118 : decode cX10_land 118 = .ok (.iaload, 1) := by decide +kernel
theorem dX10_land_119 : decode cX10_land 119 = .ok (.ireturn, 1) := by decide +kernel
theorem dX10_lasts_0 : decode cX10_lasts 0 = .ok (.aload_n 0, 1) := by decide +kernel
theorem dX10_lasts_1 : decode cX10_lasts 1 = .ok (.iload_n 1, 1) := by decide +kernel
theorem dX10_lasts_2 : decode cX10_lasts 2 = .ok (.invokevirtual 269, 3) := by decide +kernel
theorem dX10_lasts_5 : decode cX10_lasts 5 = .ok (.ifCond .eq 15, 3) := by decide +kernel
theorem dX10_lasts_8 : decode cX10_lasts 8 = .ok (.iload_n 2, 1) := by decide +kernel
theorem dX10_lasts_9 : decode cX10_lasts 9 = .ok (.i2l, 1) := by decide +kernel
theorem dX10_lasts_10 : decode cX10_lasts 10 = .ok (.lconst 1, 1) := by decide +kernel
theorem dX10_lasts_11 : decode cX10_lasts 11 = .ok (.ldc2_w 388, 3) := by decide +kernel
theorem dX10_lasts_14 : decode cX10_lasts 14 = .ok (.invokestatic 85, 3) := by decide +kernel
theorem dX10_lasts_17 : decode cX10_lasts 17 = .ok (.ifCond .ne 6, 3) := by decide +kernel
theorem dX10_lasts_20 : decode cX10_lasts 20 = .ok (.bipush (-2), 2) := by decide +kernel
theorem dX10_lasts_22 : decode cX10_lasts 22 = .ok (.ireturn, 1) := by decide +kernel
theorem dX10_lasts_23 : decode cX10_lasts 23 = .ok (.aload_n 0, 1) := by decide +kernel
theorem dX10_lasts_24 : decode cX10_lasts 24 = .ok (.invokevirtual 273, 3) := by decide +kernel
theorem dX10_lasts_27 : decode cX10_lasts 27 = .ok (.aload_n 0, 1) := by decide +kernel
theorem dX10_lasts_28 : decode cX10_lasts 28 = .ok (.getfield 34, 3) := by decide +kernel
theorem dX10_lasts_31 : decode cX10_lasts 31 = .ok (.iload_n 1, 1) := by decide +kernel
theorem dX10_lasts_32 : decode cX10_lasts 32 = .ok (.iaload, 1) := by decide +kernel
theorem dX10_lasts_33 : decode cX10_lasts 33 = .ok (.iload_n 2, 1) := by decide +kernel
theorem dX10_lasts_34 : decode cX10_lasts 34 = .ok (.idiv, 1) := by decide +kernel
theorem dX10_lasts_35 : decode cX10_lasts 35 = .ok (.iconst 1, 1) := by decide +kernel
theorem dX10_lasts_36 : decode cX10_lasts 36 = .ok (.iadd, 1) := by decide +kernel
theorem dX10_lasts_37 : decode cX10_lasts 37 = .ok (.ireturn, 1) := by decide +kernel
theorem dX10_leaves_0 : decode cX10_leaves 0 = .ok (.aload_n 0, 1) := by decide +kernel
theorem dX10_leaves_1 : decode cX10_leaves 1 = .ok (.iload_n 1, 1) := by decide +kernel
theorem dX10_leaves_2 : decode cX10_leaves 2 = .ok (.invokevirtual 361, 3) := by decide +kernel
theorem dX10_leaves_5 : decode cX10_leaves 5 = .ok (.istore_n 2, 1) := by decide +kernel
theorem dX10_leaves_6 : decode cX10_leaves 6 = .ok (.iload_n 2, 1) := by decide +kernel
theorem dX10_leaves_7 : decode cX10_leaves 7 = .ok (.ifCond .ge 5, 3) := by decide +kernel
theorem dX10_leaves_10 : decode cX10_leaves 10 = .ok (.iload_n 2, 1) := by decide +kernel
theorem dX10_leaves_11 : decode cX10_leaves 11 = .ok (.ireturn, 1) := by decide +kernel
theorem dX10_leaves_12 : decode cX10_leaves 12 = .ok (.aload_n 0, 1) := by decide +kernel
theorem dX10_leaves_13 : decode cX10_leaves 13 = .ok (.iload_n 1, 1) := by decide +kernel
theorem dX10_leaves_14 : decode cX10_leaves 14 = .ok (.invokevirtual 376, 3) := by decide +kernel
theorem dX10_leaves_17 : decode cX10_leaves 17 = .ok (.pop, 1) := by decide +kernel
theorem dX10_leaves_18 : decode cX10_leaves 18 = .ok (.aload_n 0, 1) := by decide +kernel
theorem dX10_leaves_19 : decode cX10_leaves 19 = .ok (.getfield 370, 3) := by decide +kernel
theorem dX10_leaves_22 : decode cX10_leaves 22 = .ok (.ireturn, 1) := by decide +kernel
theorem dX10_likedOf_0 : decode cX10_likedOf 0 = .ok (.iconst 0, 1) := by decide +kernel
theorem dX10_likedOf_1 : decode cX10_likedOf 1 = .ok (.istore_n 2, 1) := by decide +kernel
theorem dX10_likedOf_2 : decode cX10_likedOf 2 = .ok (.iconst 0, 1) := by decide +kernel
theorem dX10_likedOf_3 : decode cX10_likedOf 3 = .ok (.istore_n 3, 1) := by decide +kernel
theorem dX10_likedOf_4 : decode cX10_likedOf 4 = .ok (.iload_n 3, 1) := by decide +kernel
theorem dX10_likedOf_5 : decode cX10_likedOf 5 = .ok (.bipush 8, 2) := by decide +kernel
theorem dX10_likedOf_7 : decode cX10_likedOf 7 = .ok (.if_icmp .ge 23, 3) := by decide +kernel
theorem dX10_likedOf_10 : decode cX10_likedOf 10 = .ok (.iload_n 2, 1) := by decide +kernel
theorem dX10_likedOf_11 : decode cX10_likedOf 11 = .ok (.aload_n 0, 1) := by decide +kernel
theorem dX10_likedOf_12 : decode cX10_likedOf 12 = .ok (.getfield 37, 3) := by decide +kernel
theorem dX10_likedOf_15 : decode cX10_likedOf 15 = .ok (.bipush 8, 2) := by decide +kernel
theorem dX10_likedOf_17 : decode cX10_likedOf 17 = .ok (.iload_n 1, 1) := by decide +kernel
theorem dX10_likedOf_18 : decode cX10_likedOf 18 = .ok (.imul, 1) := by decide +kernel
theorem dX10_likedOf_19 : decode cX10_likedOf 19 = .ok (.iload_n 3, 1) := by decide +kernel
theorem dX10_likedOf_20 : decode cX10_likedOf 20 = .ok (.iadd, 1) := by decide +kernel
theorem dX10_likedOf_21 : decode cX10_likedOf 21 = .ok (.iaload, 1) := by decide +kernel
theorem dX10_likedOf_22 : decode cX10_likedOf 22 = .ok (.iadd, 1) := by decide +kernel
theorem dX10_likedOf_23 : decode cX10_likedOf 23 = .ok (.istore_n 2, 1) := by decide +kernel
theorem dX10_likedOf_24 : decode cX10_likedOf 24 = .ok (.iinc 3 1, 3) := by decide +kernel
theorem dX10_likedOf_27 : decode cX10_likedOf 27 = .ok (.goto (-23), 3) := by decide +kernel
theorem dX10_likedOf_30 : decode cX10_likedOf 30 = .ok (.iload_n 2, 1) := by decide +kernel
theorem dX10_likedOf_31 : decode cX10_likedOf 31 = .ok (.ireturn, 1) := by decide +kernel
theorem dX10_likes_0 : decode cX10_likes 0 = .ok (.aload_n 0, 1) := by decide +kernel
theorem dX10_likes_1 : decode cX10_likes 1 = .ok (.iload_n 1, 1) := by decide +kernel
theorem dX10_likes_2 : decode cX10_likes 2 = .ok (.invokevirtual 269, 3) := by decide +kernel
theorem dX10_likes_5 : decode cX10_likes 5 = .ok (.ifCond .eq 12, 3) := by decide +kernel
theorem dX10_likes_8 : decode cX10_likes 8 = .ok (.aload_n 0, 1) := by decide +kernel
theorem dX10_likes_9 : decode cX10_likes 9 = .ok (.iload_n 2, 1) := by decide +kernel
theorem dX10_likes_10 : decode cX10_likes 10 = .ok (.i2l, 1) := by decide +kernel
theorem dX10_likes_11 : decode cX10_likes 11 = .ok (.invokevirtual 265, 3) := by decide +kernel
theorem dX10_likes_14 : decode cX10_likes 14 = .ok (.ifCond .ne 6, 3) := by decide +kernel
theorem dX10_likes_17 : decode cX10_likes 17 = .ok (.bipush (-2), 2) := by decide +kernel
theorem dX10_likes_19 : decode cX10_likes 19 = .ok (.ireturn, 1) := by decide +kernel
theorem dX10_likes_20 : decode cX10_likes 20 = .ok (.aload_n 0, 1) := by decide +kernel
theorem dX10_likes_21 : decode cX10_likes 21 = .ok (.invokevirtual 273, 3) := by decide +kernel
theorem dX10_likes_24 : decode cX10_likes 24 = .ok (.aload_n 0, 1) := by decide +kernel
theorem dX10_likes_25 : decode cX10_likes 25 = .ok (.getfield 37, 3) := by decide +kernel
theorem dX10_likes_28 : decode cX10_likes 28 = .ok (.bipush 8, 2) := by decide +kernel
theorem dX10_likes_30 : decode cX10_likes 30 = .ok (.iload_n 1, 1) := by decide +kernel
theorem dX10_likes_31 : decode cX10_likes 31 = .ok (.imul, 1) := by decide +kernel
theorem dX10_likes_32 : decode cX10_likes 32 = .ok (.iload_n 2, 1) := by decide +kernel
theorem dX10_likes_33 : decode cX10_likes 33 = .ok (.iadd, 1) := by decide +kernel
theorem dX10_likes_34 : decode cX10_likes 34 = .ok (.iaload, 1) := by decide +kernel
theorem dX10_likes_35 : decode cX10_likes 35 = .ok (.ireturn, 1) := by decide +kernel
theorem dX10_loved_0 : decode cX10_loved 0 = .ok (.aload_n 0, 1) := by decide +kernel
theorem dX10_loved_1 : decode cX10_loved 1 = .ok (.iload_n 1, 1) := by decide +kernel
theorem dX10_loved_2 : decode cX10_loved 2 = .ok (.i2l, 1) := by decide +kernel
theorem dX10_loved_3 : decode cX10_loved 3 = .ok (.invokevirtual 265, 3) := by decide +kernel
theorem dX10_loved_6 : decode cX10_loved 6 = .ok (.ifCond .ne 6, 3) := by decide +kernel
theorem dX10_loved_9 : decode cX10_loved 9 = .ok (.bipush (-2), 2) := by decide +kernel
theorem dX10_loved_11 : decode cX10_loved 11 = .ok (.ireturn, 1) := by decide +kernel
theorem dX10_loved_12 : decode cX10_loved 12 = .ok (.aload_n 0, 1) := by decide +kernel
theorem dX10_loved_13 : decode cX10_loved 13 = .ok (.invokevirtual 273, 3) := by decide +kernel
theorem dX10_loved_16 : decode cX10_loved 16 = .ok (.aload_n 0, 1) := by decide +kernel
theorem dX10_loved_17 : decode cX10_loved 17 = .ok (.iload_n 1, 1) := by decide +kernel
theorem dX10_loved_18 : decode cX10_loved 18 = .ok (.invokevirtual 379, 3) := by decide +kernel
theorem dX10_loved_21 : decode cX10_loved 21 = .ok (.ireturn, 1) := by decide +kernel
theorem dX10_lovedOf_0 : decode cX10_lovedOf 0 = .ok (.iconst 0, 1) := by decide +kernel
theorem dX10_lovedOf_1 : decode cX10_lovedOf 1 = .ok (.istore_n 2, 1) := by decide +kernel
theorem dX10_lovedOf_2 : decode cX10_lovedOf 2 = .ok (.iconst 0, 1) := by decide +kernel
theorem dX10_lovedOf_3 : decode cX10_lovedOf 3 = .ok (.istore_n 3, 1) := by decide +kernel
theorem dX10_lovedOf_4 : decode cX10_lovedOf 4 = .ok (.iload_n 3, 1) := by decide +kernel
theorem dX10_lovedOf_5 : decode cX10_lovedOf 5 = .ok (.aload_n 0, 1) := by decide +kernel
theorem dX10_lovedOf_6 : decode cX10_lovedOf 6 = .ok (.getfield 9, 3) := by decide +kernel
theorem dX10_lovedOf_9 : decode cX10_lovedOf 9 = .ok (.iconst 3, 1) := by decide +kernel
theorem dX10_lovedOf_10 : decode cX10_lovedOf 10 = .ok (.iaload, 1) := by decide +kernel
theorem dX10_lovedOf_11 : decode cX10_lovedOf 11 = .ok (.if_icmp .ge 23, 3) := by decide +kernel
theorem dX10_lovedOf_14 : decode cX10_lovedOf 14 = .ok (.iload_n 2, 1) := by decide +kernel
theorem dX10_lovedOf_15 : decode cX10_lovedOf 15 = .ok (.aload_n 0, 1) := by decide +kernel
theorem dX10_lovedOf_16 : decode cX10_lovedOf 16 = .ok (.getfield 37, 3) := by decide +kernel
theorem dX10_lovedOf_19 : decode cX10_lovedOf 19 = .ok (.bipush 8, 2) := by decide +kernel
theorem dX10_lovedOf_21 : decode cX10_lovedOf 21 = .ok (.iload_n 3, 1) := by decide +kernel
theorem dX10_lovedOf_22 : decode cX10_lovedOf 22 = .ok (.imul, 1) := by decide +kernel
theorem dX10_lovedOf_23 : decode cX10_lovedOf 23 = .ok (.iload_n 1, 1) := by decide +kernel
theorem dX10_lovedOf_24 : decode cX10_lovedOf 24 = .ok (.iadd, 1) := by decide +kernel
theorem dX10_lovedOf_25 : decode cX10_lovedOf 25 = .ok (.iaload, 1) := by decide +kernel
theorem dX10_lovedOf_26 : decode cX10_lovedOf 26 = .ok (.iadd, 1) := by decide +kernel
theorem dX10_lovedOf_27 : decode cX10_lovedOf 27 = .ok (.istore_n 2, 1) := by decide +kernel
theorem dX10_lovedOf_28 : decode cX10_lovedOf 28 = .ok (.iinc 3 1, 3) := by decide +kernel
theorem dX10_lovedOf_31 : decode cX10_lovedOf 31 = .ok (.goto (-27), 3) := by decide +kernel
theorem dX10_lovedOf_34 : decode cX10_lovedOf 34 = .ok (.iload_n 2, 1) := by decide +kernel
theorem dX10_lovedOf_35 : decode cX10_lovedOf 35 = .ok (.ireturn, 1) := by decide +kernel
theorem dX10_luck_0 : decode cX10_luck 0 = .ok (.aload_n 0, 1) := by decide +kernel
theorem dX10_luck_1 : decode cX10_luck 1 = .ok (.iload_n 1, 1) := by decide +kernel
theorem dX10_luck_2 : decode cX10_luck 2 = .ok (.iload_n 3, 1) := by decide +kernel
theorem dX10_luck_3 : decode cX10_luck 3 = .ok (.iload 4, 2) := by decide +kernel
theorem dX10_luck_5 : decode cX10_luck 5 = .ok (.invokevirtual 424, 3) := by decide +kernel
theorem dX10_luck_8 : decode cX10_luck 8 = .ok (.ifCond .eq 25, 3) := by decide +kernel
theorem dX10_luck_11 : decode cX10_luck 11 = .ok (.iload_n 2, 1) := by decide +kernel
theorem dX10_luck_12 : decode cX10_luck 12 = .ok (.i2l, 1) := by decide +kernel
theorem dX10_luck_13 : decode cX10_luck 13 = .ok (.lconst 1, 1) := by decide +kernel
theorem dX10_luck_14 : decode cX10_luck 14 = .ok (.ldc2_w 388, 3) := by decide +kernel
theorem dX10_luck_17 : decode cX10_luck 17 = .ok (.invokestatic 85, 3) := by decide +kernel
theorem dX10_luck_20 : decode cX10_luck 20 = .ok (.ifCond .eq 13, 3) := by decide +kernel
theorem dX10_luck_23 : decode cX10_luck 23 = .ok (.aload_n 0, 1) := by decide +kernel
theorem dX10_luck_24 : decode cX10_luck 24 = .ok (.iload 5, 2) := by decide +kernel
theorem dX10_luck_26 : decode cX10_luck 26 = .ok (.i2l, 1) := by decide +kernel
theorem dX10_luck_27 : decode cX10_luck 27 = .ok (.invokevirtual 282, 3) := by decide +kernel
theorem dX10_luck_30 : decode cX10_luck 30 = .ok (.ifCond .ne 6, 3) := by decide +kernel
theorem dX10_luck_33 : decode cX10_luck 33 = .ok (.bipush (-2), 2) := by decide +kernel
theorem dX10_luck_35 : decode cX10_luck 35 = .ok (.ireturn, 1) := by decide +kernel
theorem dX10_luck_36 : decode cX10_luck 36 = .ok (.iconst 0, 1) := by decide +kernel
theorem dX10_luck_37 : decode cX10_luck 37 = .ok (.istore 6, 2) := by decide +kernel
theorem dX10_luck_39 : decode cX10_luck 39 = .ok (.iconst 0, 1) := by decide +kernel
theorem dX10_luck_40 : decode cX10_luck 40 = .ok (.istore 7, 2) := by decide +kernel
theorem dX10_luck_42 : decode cX10_luck 42 = .ok (.iload 7, 2) := by decide +kernel
theorem dX10_luck_44 : decode cX10_luck 44 = .ok (.iload_n 2, 1) := by decide +kernel
theorem dX10_luck_45 : decode cX10_luck 45 = .ok (.if_icmp .ge 43, 3) := by decide +kernel
theorem dX10_luck_48 : decode cX10_luck 48 = .ok (.aload_n 0, 1) := by decide +kernel
theorem dX10_luck_49 : decode cX10_luck 49 = .ok (.iload_n 1, 1) := by decide +kernel
theorem dX10_luck_50 : decode cX10_luck 50 = .ok (.i2l, 1) := by decide +kernel
theorem dX10_luck_51 : decode cX10_luck 51 = .ok (.iload 7, 2) := by decide +kernel
theorem dX10_luck_53 : decode cX10_luck 53 = .ok (.i2l, 1) := by decide +kernel
theorem dX10_luck_54 : decode cX10_luck 54 = .ok (.ladd, 1) := by decide +kernel
theorem dX10_luck_55 : decode cX10_luck 55 = .ok (.iload_n 3, 1) := by decide +kernel
theorem dX10_luck_56 : decode cX10_luck 56 = .ok (.iload 4, 2) := by decide +kernel
theorem dX10_luck_58 : decode cX10_luck 58 = .ok (.invokevirtual 428, 3) := by decide +kernel
theorem dX10_luck_61 : decode cX10_luck 61 = .ok (.iload 6, 2) := by decide +kernel
theorem dX10_luck_63 : decode cX10_luck 63 = .ok (.aload_n 0, 1) := by decide +kernel
theorem dX10_luck_64 : decode cX10_luck 64 = .ok (.getfield 43, 3) := by decide +kernel
theorem dX10_luck_67 : decode cX10_luck 67 = .ok (.iload_n 3, 1) := by decide +kernel
theorem dX10_luck_68 : decode cX10_luck 68 = .ok (.iaload, 1) := by decide +kernel
theorem dX10_luck_69 : decode cX10_luck 69 = .ok (.iload 5, 2) := by decide +kernel
theorem dX10_luck_71 : decode cX10_luck 71 = .ok (.if_icmp .ne 7, 3) := by decide +kernel
theorem dX10_luck_74 : decode cX10_luck 74 = .ok (.iconst 1, 1) := by decide +kernel
theorem dX10_luck_75 : decode cX10_luck 75 = .ok (.goto 4, 3) := by decide +kernel
theorem dX10_luck_78 : decode cX10_luck 78 = .ok (.iconst 0, 1) := by decide +kernel
theorem dX10_luck_79 : decode cX10_luck 79 = .ok (.iadd, 1) := by decide +kernel
theorem dX10_luck_80 : decode cX10_luck 80 = .ok (.istore 6, 2) := by decide +kernel
theorem dX10_luck_82 : decode cX10_luck 82 = .ok (.iinc 7 1, 3) := by decide +kernel
theorem dX10_luck_85 : decode cX10_luck 85 = .ok (.goto (-43), 3) := by decide +kernel
theorem dX10_luck_88 : decode cX10_luck 88 = .ok (.iload 6, 2) := by decide +kernel
theorem dX10_luck_90 : decode cX10_luck 90 = .ok (.ireturn, 1) := by decide +kernel
theorem dX10_mate_0 : decode cX10_mate 0 = .ok (.aload_n 0, 1) := by decide +kernel
theorem dX10_mate_1 : decode cX10_mate 1 = .ok (.iload_n 1, 1) := by decide +kernel
theorem dX10_mate_2 : decode cX10_mate 2 = .ok (.invokevirtual 269, 3) := by decide +kernel
theorem dX10_mate_5 : decode cX10_mate 5 = .ok (.ifCond .ne 6, 3) := by decide +kernel
theorem dX10_mate_8 : decode cX10_mate 8 = .ok (.bipush (-2), 2) := by decide +kernel
theorem dX10_mate_10 : decode cX10_mate 10 = .ok (.ireturn, 1) := by decide +kernel
theorem dX10_mate_11 : decode cX10_mate 11 = .ok (.aload_n 0, 1) := by decide +kernel
theorem dX10_mate_12 : decode cX10_mate 12 = .ok (.invokevirtual 273, 3) := by decide +kernel
theorem dX10_mate_15 : decode cX10_mate 15 = .ok (.iconst (-1), 1) := by decide +kernel
theorem dX10_mate_16 : decode cX10_mate 16 = .ok (.istore_n 2, 1) := by decide +kernel
theorem dX10_mate_17 : decode cX10_mate 17 = .ok (.iconst 0, 1) := by decide +kernel
theorem dX10_mate_18 : decode cX10_mate 18 = .ok (.istore_n 3, 1) := by decide +kernel
theorem dX10_mate_19 : decode cX10_mate 19 = .ok (.iload_n 3, 1) := by decide +kernel
theorem dX10_mate_20 : decode cX10_mate 20 = .ok (.aload_n 0, 1) := by decide +kernel
theorem dX10_mate_21 : decode cX10_mate 21 = .ok (.getfield 9, 3) := by decide +kernel
theorem dX10_mate_24 : decode cX10_mate 24 = .ok (.iconst 3, 1) := by decide +kernel
theorem dX10_mate_25 : decode cX10_mate 25 = .ok (.iaload, 1) := by decide +kernel
theorem dX10_mate_26 : decode cX10_mate 26 = .ok (.if_icmp .ge 36, 3) := by decide +kernel
theorem dX10_mate_29 : decode cX10_mate 29 = .ok (.iload_n 3, 1) := by decide +kernel
theorem dX10_mate_30 : decode cX10_mate 30 = .ok (.iload_n 1, 1) := by decide +kernel
theorem dX10_mate_31 : decode cX10_mate 31 = .ok (.if_icmp .eq 25, 3) := by decide +kernel
theorem dX10_mate_34 : decode cX10_mate 34 = .ok (.iload_n 2, 1) := by decide +kernel
theorem dX10_mate_35 : decode cX10_mate 35 = .ok (.iconst (-1), 1) := by decide +kernel
theorem dX10_mate_36 : decode cX10_mate 36 = .ok (.if_icmp .eq 18, 3) := by decide +kernel
theorem dX10_mate_39 : decode cX10_mate 39 = .ok (.aload_n 0, 1) := by decide +kernel
theorem dX10_mate_40 : decode cX10_mate 40 = .ok (.iload_n 1, 1) := by decide +kernel
theorem dX10_mate_41 : decode cX10_mate 41 = .ok (.iload_n 3, 1) := by decide +kernel
theorem dX10_mate_42 : decode cX10_mate 42 = .ok (.invokevirtual 382, 3) := by decide +kernel
theorem dX10_mate_45 : decode cX10_mate 45 = .ok (.aload_n 0, 1) := by decide +kernel
theorem dX10_mate_46 : decode cX10_mate 46 = .ok (.iload_n 1, 1) := by decide +kernel
theorem dX10_mate_47 : decode cX10_mate 47 = .ok (.iload_n 2, 1) := by decide +kernel
theorem dX10_mate_48 : decode cX10_mate 48 = .ok (.invokevirtual 382, 3) := by decide +kernel
theorem dX10_mate_51 : decode cX10_mate 51 = .ok (.if_icmp .le 5, 3) := by decide +kernel
theorem dX10_mate_54 : decode cX10_mate 54 = .ok (.iload_n 3, 1) := by decide +kernel
theorem dX10_mate_55 : decode cX10_mate 55 = .ok (.istore_n 2, 1) := by decide +kernel
theorem dX10_mate_56 : decode cX10_mate 56 = .ok (.iinc 3 1, 3) := by decide +kernel
theorem dX10_mate_59 : decode cX10_mate 59 = .ok (.goto (-40), 3) := by decide +kernel
theorem dX10_mate_62 : decode cX10_mate 62 = .ok (.iload_n 2, 1) := by decide +kernel
theorem dX10_mate_63 : decode cX10_mate 63 = .ok (.ireturn, 1) := by decide +kernel
theorem dX10_meet_0 : decode cX10_meet 0 = .ok (.aload_n 0, 1) := by decide +kernel
theorem dX10_meet_1 : decode cX10_meet 1 = .ok (.iload_n 1, 1) := by decide +kernel
theorem dX10_meet_2 : decode cX10_meet 2 = .ok (.invokevirtual 279, 3) := by decide +kernel
theorem dX10_meet_5 : decode cX10_meet 5 = .ok (.ifCond .eq 21, 3) := by decide +kernel
theorem dX10_meet_8 : decode cX10_meet 8 = .ok (.aload_n 0, 1) := by decide +kernel
theorem dX10_meet_9 : decode cX10_meet 9 = .ok (.iload_n 2, 1) := by decide +kernel
theorem dX10_meet_10 : decode cX10_meet 10 = .ok (.i2l, 1) := by decide +kernel
theorem dX10_meet_11 : decode cX10_meet 11 = .ok (.invokevirtual 282, 3) := by decide +kernel
theorem dX10_meet_14 : decode cX10_meet 14 = .ok (.ifCond .eq 12, 3) := by decide +kernel
theorem dX10_meet_17 : decode cX10_meet 17 = .ok (.aload_n 0, 1) := by decide +kernel
theorem dX10_meet_18 : decode cX10_meet 18 = .ok (.iload_n 1, 1) := by decide +kernel
theorem dX10_meet_19 : decode cX10_meet 19 = .ok (.iload_n 2, 1) := by decide +kernel
theorem dX10_meet_20 : decode cX10_meet 20 = .ok (.invokevirtual 355, 3) := by decide +kernel
theorem dX10_meet_23 : decode cX10_meet 23 = .ok (.goto 5, 3) := by decide +kernel
theorem dX10_meet_26 : decode cX10_meet 26 = .ok (.bipush (-2), 2) := by decide +kernel
theorem dX10_meet_28 : decode cX10_meet 28 = .ok (.ireturn, 1) := by decide +kernel
theorem dX10_meetOf_0 : decode cX10_meetOf 0 = .ok (.aload_n 0, 1) := by decide +kernel
theorem dX10_meetOf_1 : decode cX10_meetOf 1 = .ok (.iload_n 1, 1) := by decide +kernel
theorem dX10_meetOf_2 : decode cX10_meetOf 2 = .ok (.invokevirtual 349, 3) := by decide +kernel
theorem dX10_meetOf_5 : decode cX10_meetOf 5 = .ok (.iconst 1, 1) := by decide +kernel
theorem dX10_meetOf_6 : decode cX10_meetOf 6 = .ok (.iload_n 2, 1) := by decide +kernel
theorem dX10_meetOf_7 : decode cX10_meetOf 7 = .ok (.ishl, 1) := by decide +kernel
theorem dX10_meetOf_8 : decode cX10_meetOf 8 = .ok (.istore_n 3, 1) := by decide +kernel
theorem dX10_meetOf_9 : decode cX10_meetOf 9 = .ok (.iconst 0, 1) := by decide +kernel
theorem dX10_meetOf_10 : decode cX10_meetOf 10 = .ok (.istore 4, 2) := by decide +kernel
theorem dX10_meetOf_12 : decode cX10_meetOf 12 = .ok (.iload 4, 2) := by decide +kernel
theorem dX10_meetOf_14 : decode cX10_meetOf 14 = .ok (.bipush 40, 2) := by decide +kernel
theorem dX10_meetOf_16 : decode cX10_meetOf 16 = .ok (.if_icmp .gt 33, 3) := by decide +kernel
theorem dX10_meetOf_19 : decode cX10_meetOf 19 = .ok (.iload_n 3, 1) := by decide +kernel
theorem dX10_meetOf_20 : decode cX10_meetOf 20 = .ok (.aload_n 0, 1) := by decide +kernel
theorem dX10_meetOf_21 : decode cX10_meetOf 21 = .ok (.getfield 61, 3) := by decide +kernel
theorem dX10_meetOf_24 : decode cX10_meetOf 24 = .ok (.iload 4, 2) := by decide +kernel
theorem dX10_meetOf_26 : decode cX10_meetOf 26 = .ok (.iaload, 1) := by decide +kernel
theorem dX10_meetOf_27 : decode cX10_meetOf 27 = .ok (.invokestatic 193, 3) := by decide +kernel
theorem dX10_meetOf_30 : decode cX10_meetOf 30 = .ok (.iconst 1, 1) := by decide +kernel
theorem dX10_meetOf_31 : decode cX10_meetOf 31 = .ok (.if_icmp .ne 6, 3) := by decide +kernel
theorem dX10_meetOf_34 : decode cX10_meetOf 34 = .ok (.iload 4, 2) := by decide +kernel
theorem dX10_meetOf_36 : decode cX10_meetOf 36 = .ok (.ireturn, 1) := by decide +kernel
theorem dX10_meetOf_37 : decode cX10_meetOf 37 = .ok (.aload_n 0, 1) := by decide +kernel
theorem dX10_meetOf_38 : decode cX10_meetOf 38 = .ok (.iload_n 3, 1) := by decide +kernel
theorem dX10_meetOf_39 : decode cX10_meetOf 39 = .ok (.invokevirtual 352, 3) := by decide +kernel
theorem dX10_meetOf_42 : decode cX10_meetOf 42 = .ok (.istore_n 3, 1) := by decide +kernel
theorem dX10_meetOf_43 : decode cX10_meetOf 43 = .ok (.iinc 4 1, 3) := by decide +kernel
theorem dX10_meetOf_46 : decode cX10_meetOf 46 = .ok (.goto (-34), 3) := by decide +kernel
theorem dX10_meetOf_49 : decode cX10_meetOf 49 = .ok (.iconst (-1), 1) := by decide +kernel
theorem dX10_meetOf_50 : decode cX10_meetOf 50 = .ok (.ireturn, 1) := by decide +kernel
theorem dX10_met_0 : decode cX10_met 0 = .ok (.aload_n 0, 1) := by decide +kernel
theorem dX10_met_1 : decode cX10_met 1 = .ok (.iload_n 1, 1) := by decide +kernel
theorem dX10_met_2 : decode cX10_met 2 = .ok (.invokevirtual 279, 3) := by decide +kernel
theorem dX10_met_5 : decode cX10_met 5 = .ok (.ifCond .eq 12, 3) := by decide +kernel
theorem dX10_met_8 : decode cX10_met 8 = .ok (.aload_n 0, 1) := by decide +kernel
theorem dX10_met_9 : decode cX10_met 9 = .ok (.iload_n 2, 1) := by decide +kernel
theorem dX10_met_10 : decode cX10_met 10 = .ok (.i2l, 1) := by decide +kernel
theorem dX10_met_11 : decode cX10_met 11 = .ok (.invokevirtual 282, 3) := by decide +kernel
theorem dX10_met_14 : decode cX10_met 14 = .ok (.ifCond .ne 6, 3) := by decide +kernel
theorem dX10_met_17 : decode cX10_met 17 = .ok (.bipush (-2), 2) := by decide +kernel
theorem dX10_met_19 : decode cX10_met 19 = .ok (.ireturn, 1) := by decide +kernel
theorem dX10_met_20 : decode cX10_met 20 = .ok (.aload_n 0, 1) := by decide +kernel
theorem dX10_met_21 : decode cX10_met 21 = .ok (.iload_n 1, 1) := by decide +kernel
theorem dX10_met_22 : decode cX10_met 22 = .ok (.iload_n 2, 1) := by decide +kernel
theorem dX10_met_23 : decode cX10_met 23 = .ok (.invokevirtual 355, 3) := by decide +kernel
theorem dX10_met_26 : decode cX10_met 26 = .ok (.istore_n 3, 1) := by decide +kernel
theorem dX10_met_27 : decode cX10_met 27 = .ok (.iload_n 3, 1) := by decide +kernel
theorem dX10_met_28 : decode cX10_met 28 = .ok (.iconst (-1), 1) := by decide +kernel
theorem dX10_met_29 : decode cX10_met 29 = .ok (.if_icmp .ne 7, 3) := by decide +kernel
theorem dX10_met_32 : decode cX10_met 32 = .ok (.iconst (-1), 1) := by decide +kernel
theorem dX10_met_33 : decode cX10_met 33 = .ok (.goto 9, 3) := by decide +kernel
theorem dX10_met_36 : decode cX10_met 36 = .ok (.aload_n 0, 1) := by decide +kernel
theorem dX10_met_37 : decode cX10_met 37 = .ok (.getfield 61, 3) := by decide +kernel
theorem dX10_met_40 : decode cX10_met 40 = .ok (.iload_n 3, 1) := by decide +kernel
theorem dX10_met_41 : decode cX10_met 41 = .ok (.iaload, 1) := by decide +kernel
theorem dX10_met_42 : decode cX10_met 42 = .ok (.ireturn, 1) := by decide +kernel
theorem dX10_milesOf_0 : decode cX10_milesOf 0 = .ok (.aload_n 0, 1) := by decide +kernel
theorem dX10_milesOf_1 : decode cX10_milesOf 1 = .ok (.getfield 9, 3) := by decide +kernel
theorem dX10_milesOf_4 : decode cX10_milesOf 4 = .ok (.bipush 8, 2) := by decide +kernel
theorem dX10_milesOf_6 : decode cX10_milesOf 6 = .ok (.iconst 3, 1) := by decide +kernel
theorem dX10_milesOf_7 : decode cX10_milesOf 7 = .ok (.iload_n 1, 1) := by decide +kernel
theorem dX10_milesOf_8 : decode cX10_milesOf 8 = .ok (.imul, 1) := by decide +kernel
theorem dX10_milesOf_9 : decode cX10_milesOf 9 = .ok (.iadd, 1) := by decide +kernel
theorem dX10_milesOf_10 : decode cX10_milesOf 10 = .ok (.iconst 2, 1) := by decide +kernel
theorem dX10_milesOf_11 : decode cX10_milesOf 11 = .ok (.iadd, 1) := by decide +kernel
theorem dX10_milesOf_12 : decode cX10_milesOf 12 = .ok (.iaload, 1) := by decide +kernel
theorem dX10_milesOf_13 : decode cX10_milesOf 13 = .ok (.ireturn, 1) := by decide +kernel
theorem dX10_needs_0 : decode cX10_needs 0 = .ok (.aload_n 0, 1) := by decide +kernel
theorem dX10_needs_1 : decode cX10_needs 1 = .ok (.aload_n 1, 1) := by decide +kernel
theorem dX10_needs_2 : decode cX10_needs 2 = .ok (.invokevirtual 157, 3) := by decide +kernel
theorem dX10_needs_5 : decode cX10_needs 5 = .ok (.ifCond .ne 8, 3) := by decide +kernel
theorem dX10_needs_8 : decode cX10_needs 8 = .ok (.aload_n 0, 1) := by decide +kernel
theorem dX10_needs_9 : decode cX10_needs 9 = .ok (.iconst 1, 1) := by decide +kernel
theorem dX10_needs_10 : decode cX10_needs 10 = .ok (.invokevirtual 160, 3) := by decide +kernel
theorem dX10_needs_13 : decode cX10_needs 13 = .ok (.return_, 1) := by decide +kernel
theorem dX10_number_0 : decode cX10_number 0 = .ok (.aload_n 0, 1) := by decide +kernel
theorem dX10_number_1 : decode cX10_number 1 = .ok (.invokevirtual 136, 3) := by decide +kernel
theorem dX10_number_4 : decode cX10_number 4 = .ok (.ifCond .eq 16, 3) := by decide +kernel
theorem dX10_number_7 : decode cX10_number 7 = .ok (.aload_n 0, 1) := by decide +kernel
theorem dX10_number_8 : decode cX10_number 8 = .ok (.getfield 113, 3) := by decide +kernel
theorem dX10_number_11 : decode cX10_number 11 = .ok (.iconst 2, 1) := by decide +kernel
theorem dX10_number_12 : decode cX10_number 12 = .ok (.if_icmp .eq 8, 3) := by decide +kernel
theorem dX10_number_15 : decode cX10_number 15 = .ok (.aload_n 0, 1) := by decide +kernel
theorem dX10_number_16 : decode cX10_number 16 = .ok (.iconst 1, 1) := by decide +kernel
theorem dX10_number_17 : decode cX10_number 17 = .ok (.invokevirtual 160, 3) := by decide +kernel
theorem dX10_number_20 : decode cX10_number 20 = .ok (.aload_n 0, 1) := by decide +kernel
theorem dX10_number_21 : decode cX10_number 21 = .ok (.invokevirtual 136, 3) := by decide +kernel
theorem dX10_number_24 : decode cX10_number 24 = .ok (.ifCond .eq 23, 3) := by decide +kernel
theorem dX10_number_27 : decode cX10_number 27 = .ok (.aload_n 0, 1) := by decide +kernel
theorem dX10_number_28 : decode cX10_number 28 = .ok (.getfield 124, 3) := by decide +kernel
theorem dX10_number_31 : decode cX10_number 31 = .ok (.i2l, 1) := by decide +kernel
theorem dX10_number_32 : decode cX10_number 32 = .ok (.iload_n 1, 1) := by decide +kernel
theorem dX10_number_33 : decode cX10_number 33 = .ok (.i2l, 1) := by decide +kernel
theorem dX10_number_34 : decode cX10_number 34 = .ok (.iload_n 2, 1) := by decide +kernel
theorem dX10_number_35 : decode cX10_number 35 = .ok (.i2l, 1) := by decide +kernel
theorem dX10_number_36 : decode cX10_number 36 = .ok (.invokestatic 85, 3) := by decide +kernel
theorem dX10_number_39 : decode cX10_number 39 = .ok (.ifCond .ne 8, 3) := by decide +kernel
theorem dX10_number_42 : decode cX10_number 42 = .ok (.aload_n 0, 1) := by decide +kernel
theorem dX10_number_43 : decode cX10_number 43 = .ok (.iconst 2, 1) := by decide +kernel
theorem dX10_number_44 : decode cX10_number 44 = .ok (.invokevirtual 160, 3) := by decide +kernel
theorem dX10_number_47 : decode cX10_number 47 = .ok (.aload_n 0, 1) := by decide +kernel
theorem dX10_number_48 : decode cX10_number 48 = .ok (.invokevirtual 136, 3) := by decide +kernel
theorem dX10_number_51 : decode cX10_number 51 = .ok (.ifCond .ne 5, 3) := by decide +kernel
theorem dX10_number_54 : decode cX10_number 54 = .ok (.iconst 0, 1) := by decide +kernel
theorem dX10_number_55 : decode cX10_number 55 = .ok (.ireturn, 1) := by decide +kernel
theorem dX10_number_56 : decode cX10_number 56 = .ok (.aload_n 0, 1) := by decide +kernel
theorem dX10_number_57 : decode cX10_number 57 = .ok (.getfield 124, 3) := by decide +kernel
theorem dX10_number_60 : decode cX10_number 60 = .ok (.istore_n 3, 1) := by decide +kernel
theorem dX10_number_61 : decode cX10_number 61 = .ok (.aload_n 0, 1) := by decide +kernel
theorem dX10_number_62 : decode cX10_number 62 = .ok (.invokevirtual 154, 3) := by decide +kernel
theorem dX10_number_65 : decode cX10_number 65 = .ok (.iload_n 3, 1) := by decide +kernel
theorem dX10_number_66 : decode cX10_number 66 = .ok (.ireturn, 1) := by decide +kernel
theorem dX10_numberAt_0 : decode cX10_numberAt 0 = .ok (.aload_n 0, 1) := by decide +kernel
theorem dX10_numberAt_1 : decode cX10_numberAt 1 = .ok (.getfield 73, 3) := by decide +kernel
theorem dX10_numberAt_4 : decode cX10_numberAt 4 = .ok (.bipush 60, 2) := by decide +kernel
theorem dX10_numberAt_6 : decode cX10_numberAt 6 = .ok (.iload_n 1, 1) := by decide +kernel
theorem dX10_numberAt_7 : decode cX10_numberAt 7 = .ok (.imul, 1) := by decide +kernel
theorem dX10_numberAt_8 : decode cX10_numberAt 8 = .ok (.iload_n 2, 1) := by decide +kernel
theorem dX10_numberAt_9 : decode cX10_numberAt 9 = .ok (.iadd, 1) := by decide +kernel
theorem dX10_numberAt_10 : decode cX10_numberAt 10 = .ok (.laload, 1) := by decide +kernel
theorem dX10_numberAt_11 : decode cX10_numberAt 11 = .ok (.lreturn, 1) := by decide +kernel
theorem dX10_over_0 : decode cX10_over 0 = .ok (.aload_n 0, 1) := by decide +kernel
theorem dX10_over_1 : decode cX10_over 1 = .ok (.iload_n 1, 1) := by decide +kernel
theorem dX10_over_2 : decode cX10_over 2 = .ok (.iconst 0, 1) := by decide +kernel
theorem dX10_over_3 : decode cX10_over 3 = .ok (.invokevirtual 89, 3) := by decide +kernel
theorem dX10_over_6 : decode cX10_over 6 = .ok (.iload_n 2, 1) := by decide +kernel
theorem dX10_over_7 : decode cX10_over 7 = .ok (.if_icmp .ne 12, 3) := by decide +kernel
theorem dX10_over_10 : decode cX10_over 10 = .ok (.aload_n 0, 1) := by decide +kernel
theorem dX10_over_11 : decode cX10_over 11 = .ok (.iload_n 1, 1) := by decide +kernel
theorem dX10_over_12 : decode cX10_over 12 = .ok (.iconst 1, 1) := by decide +kernel
theorem dX10_over_13 : decode cX10_over 13 = .ok (.invokevirtual 89, 3) := by decide +kernel
theorem dX10_over_16 : decode cX10_over 16 = .ok (.goto 9, 3) := by decide +kernel
theorem dX10_over_19 : decode cX10_over 19 = .ok (.aload_n 0, 1) := by decide +kernel
theorem dX10_over_20 : decode cX10_over 20 = .ok (.iload_n 1, 1) := by decide +kernel
theorem dX10_over_21 : decode cX10_over 21 = .ok (.iconst 0, 1) := by decide +kernel
theorem dX10_over_22 : decode cX10_over 22 = .ok (.invokevirtual 89, 3) := by decide +kernel
theorem dX10_over_25 : decode cX10_over 25 = .ok (.ireturn, 1) := by decide +kernel
theorem dX10_paste_0 : decode cX10_paste 0 = .ok (.iload_n 1, 1) := by decide +kernel
theorem dX10_paste_1 : decode cX10_paste 1 = .ok (.invokestatic 300, 3) := by decide +kernel
theorem dX10_paste_4 : decode cX10_paste 4 = .ok (.ifCond .eq 10, 3) := by decide +kernel
theorem dX10_paste_7 : decode cX10_paste 7 = .ok (.iload_n 3, 1) := by decide +kernel
theorem dX10_paste_8 : decode cX10_paste 8 = .ok (.invokestatic 300, 3) := by decide +kernel
theorem dX10_paste_11 : decode cX10_paste 11 = .ok (.ifCond .ne 6, 3) := by decide +kernel
theorem dX10_paste_14 : decode cX10_paste 14 = .ok (.bipush (-2), 2) := by decide +kernel
theorem dX10_paste_16 : decode cX10_paste 16 = .ok (.ireturn, 1) := by decide +kernel
theorem dX10_paste_17 : decode cX10_paste 17 = .ok (.aload_n 0, 1) := by decide +kernel
theorem dX10_paste_18 : decode cX10_paste 18 = .ok (.getfield 67, 3) := by decide +kernel
theorem dX10_paste_21 : decode cX10_paste 21 = .ok (.iload_n 1, 1) := by decide +kernel
theorem dX10_paste_22 : decode cX10_paste 22 = .ok (.iaload, 1) := by decide +kernel
theorem dX10_paste_23 : decode cX10_paste 23 = .ok (.iconst (-1), 1) := by decide +kernel
theorem dX10_paste_24 : decode cX10_paste 24 = .ok (.if_icmp .eq 13, 3) := by decide +kernel
theorem dX10_paste_27 : decode cX10_paste 27 = .ok (.aload_n 0, 1) := by decide +kernel
theorem dX10_paste_28 : decode cX10_paste 28 = .ok (.getfield 67, 3) := by decide +kernel
theorem dX10_paste_31 : decode cX10_paste 31 = .ok (.iload_n 3, 1) := by decide +kernel
theorem dX10_paste_32 : decode cX10_paste 32 = .ok (.iaload, 1) := by decide +kernel
theorem dX10_paste_33 : decode cX10_paste 33 = .ok (.iconst (-1), 1) := by decide +kernel
theorem dX10_paste_34 : decode cX10_paste 34 = .ok (.if_icmp .ne 6, 3) := by decide +kernel
theorem dX10_paste_37 : decode cX10_paste 37 = .ok (.bipush (-6), 2) := by decide +kernel
theorem dX10_paste_39 : decode cX10_paste 39 = .ok (.ireturn, 1) := by decide +kernel
theorem dX10_paste_40 : decode cX10_paste 40 = .ok (.aload_n 0, 1) := by decide +kernel
theorem dX10_paste_41 : decode cX10_paste 41 = .ok (.getfield 70, 3) := by decide +kernel
theorem dX10_paste_44 : decode cX10_paste 44 = .ok (.iload_n 1, 1) := by decide +kernel
theorem dX10_paste_45 : decode cX10_paste 45 = .ok (.iaload, 1) := by decide +kernel
theorem dX10_paste_46 : decode cX10_paste 46 = .ok (.aload_n 0, 1) := by decide +kernel
theorem dX10_paste_47 : decode cX10_paste 47 = .ok (.getfield 70, 3) := by decide +kernel
theorem dX10_paste_50 : decode cX10_paste 50 = .ok (.iload_n 3, 1) := by decide +kernel
theorem dX10_paste_51 : decode cX10_paste 51 = .ok (.iaload, 1) := by decide +kernel
theorem dX10_paste_52 : decode cX10_paste 52 = .ok (.if_icmp .eq 6, 3) := by decide +kernel
theorem dX10_paste_55 : decode cX10_paste 55 = .ok (.bipush (-8), 2) := by decide +kernel
theorem dX10_paste_57 : decode cX10_paste 57 = .ok (.ireturn, 1) := by decide +kernel
theorem dX10_paste_58 : decode cX10_paste 58 = .ok (.iload_n 2, 1) := by decide +kernel
theorem dX10_paste_59 : decode cX10_paste 59 = .ok (.ifCond .lt 48, 3) := by decide +kernel
theorem dX10_paste_62 : decode cX10_paste 62 = .ok (.iload 4, 2) := by decide +kernel
theorem dX10_paste_64 : decode cX10_paste 64 = .ok (.ifCond .lt 43, 3) := by decide +kernel
theorem dX10_paste_67 : decode cX10_paste 67 = .ok (.iload 5, 2) := by decide +kernel
theorem dX10_paste_69 : decode cX10_paste 69 = .ok (.ifCond .lt 38, 3) := by decide +kernel
theorem dX10_paste_72 : decode cX10_paste 72 = .ok (.iload_n 2, 1) := by decide +kernel
theorem dX10_paste_73 : decode cX10_paste 73 = .ok (.i2l, 1) := by decide +kernel
theorem dX10_paste_74 : decode cX10_paste 74 = .ok (.iload 5, 2) := by decide +kernel
theorem dX10_paste_76 : decode cX10_paste 76 = .ok (.i2l, 1) := by decide +kernel
theorem dX10_paste_77 : decode cX10_paste 77 = .ok (.ladd, 1) := by decide +kernel
theorem dX10_paste_78 : decode cX10_paste 78 = .ok (.aload_n 0, 1) := by decide +kernel
theorem dX10_paste_79 : decode cX10_paste 79 = .ok (.getfield 67, 3) := by decide +kernel
theorem dX10_paste_82 : decode cX10_paste 82 = .ok (.iload_n 1, 1) := by decide +kernel
theorem dX10_paste_83 : decode cX10_paste 83 = .ok (.iaload, 1) := by decide +kernel
theorem dX10_paste_84 : decode cX10_paste 84 = .ok (.i2l, 1) := by decide +kernel
theorem dX10_paste_85 : decode cX10_paste 85 = .ok (.lcmp, 1) := by decide +kernel
theorem dX10_paste_86 : decode cX10_paste 86 = .ok (.ifCond .gt 21, 3) := by decide +kernel
theorem dX10_paste_89 : decode cX10_paste 89 = .ok (.iload 4, 2) := by decide +kernel
theorem dX10_paste_91 : decode cX10_paste 91 = .ok (.i2l, 1) := by decide +kernel
theorem dX10_paste_92 : decode cX10_paste 92 = .ok (.iload 5, 2) := by decide +kernel
theorem dX10_paste_94 : decode cX10_paste 94 = .ok (.i2l, 1) := by decide +kernel
theorem dX10_paste_95 : decode cX10_paste 95 = .ok (.ladd, 1) := by decide +kernel
theorem dX10_paste_96 : decode cX10_paste 96 = .ok (.aload_n 0, 1) := by decide +kernel
theorem dX10_paste_97 : decode cX10_paste 97 = .ok (.getfield 67, 3) := by decide +kernel
theorem dX10_paste_100 : decode cX10_paste 100 = .ok (.iload_n 3, 1) := by decide +kernel
theorem dX10_paste_101 : decode cX10_paste 101 = .ok (.iaload, 1) := by decide +kernel
theorem dX10_paste_102 : decode cX10_paste 102 = .ok (.i2l, 1) := by decide +kernel
theorem dX10_paste_103 : decode cX10_paste 103 = .ok (.lcmp, 1) := by decide +kernel
theorem dX10_paste_104 : decode cX10_paste 104 = .ok (.ifCond .le 6, 3) := by decide +kernel
theorem dX10_paste_107 : decode cX10_paste 107 = .ok (.bipush (-7), 2) := by decide +kernel
theorem dX10_paste_109 : decode cX10_paste 109 = .ok (.ireturn, 1) := by decide +kernel
theorem dX10_paste_110 : decode cX10_paste 110 = .ok (.iconst 0, 1) := by decide +kernel
theorem dX10_paste_111 : decode cX10_paste 111 = .ok (.istore 6, 2) := by decide +kernel
theorem dX10_paste_113 : decode cX10_paste 113 = .ok (.iload 6, 2) := by decide +kernel
theorem dX10_paste_115 : decode cX10_paste 115 = .ok (.iload 5, 2) := by decide +kernel
theorem dX10_paste_117 : decode cX10_paste 117 = .ok (.if_icmp .ge 30, 3) := by decide +kernel
theorem dX10_paste_120 : decode cX10_paste 120 = .ok (.aload_n 0, 1) := by decide +kernel
theorem dX10_paste_121 : decode cX10_paste 121 = .ok (.getfield 77, 3) := by decide +kernel
theorem dX10_paste_124 : decode cX10_paste 124 = .ok (.iload 6, 2) := by decide +kernel
theorem dX10_paste_126 : decode cX10_paste 126 = .ok (.aload_n 0, 1) := by decide +kernel
theorem dX10_paste_127 : decode cX10_paste 127 = .ok (.getfield 73, 3) := by decide +kernel
theorem dX10_paste_130 : decode cX10_paste 130 = .ok (.bipush 60, 2) := by decide +kernel
theorem dX10_paste_132 : decode cX10_paste 132 = .ok (.iload_n 1, 1) := by decide +kernel
theorem dX10_paste_133 : decode cX10_paste 133 = .ok (.imul, 1) := by decide +kernel
theorem dX10_paste_134 : decode cX10_paste 134 = .ok (.iload_n 2, 1) := by decide +kernel
theorem dX10_paste_135 : decode cX10_paste 135 = .ok (.iadd, 1) := by decide +kernel
theorem dX10_paste_136 : decode cX10_paste 136 = .ok (.iload 6, 2) := by decide +kernel
theorem dX10_paste_138 : decode cX10_paste 138 = .ok (.iadd, 1) := by decide +kernel
theorem dX10_paste_139 : decode cX10_paste 139 = .ok (.laload, 1) := by decide +kernel
theorem dX10_paste_140 : decode cX10_paste 140 = .ok (.lastore, 1) := by decide +kernel
theorem dX10_paste_141 : decode cX10_paste 141 = .ok (.iinc 6 1, 3) := by decide +kernel
theorem dX10_paste_144 : decode cX10_paste 144 = .ok (.goto (-31), 3) := by decide +kernel
theorem dX10_paste_147 : decode cX10_paste 147 = .ok (.iconst 0, 1) := by decide +kernel
theorem dX10_paste_148 : decode cX10_paste 148 = .ok (.istore 6, 2) := by decide +kernel
theorem dX10_paste_150 : decode cX10_paste 150 = .ok (.iload 6, 2) := by decide +kernel
theorem dX10_paste_152 : decode cX10_paste 152 = .ok (.iload 5, 2) := by decide +kernel
theorem dX10_paste_154 : decode cX10_paste 154 = .ok (.if_icmp .ge 31, 3) := by decide +kernel
theorem dX10_paste_157 : decode cX10_paste 157 = .ok (.aload_n 0, 1) := by decide +kernel
theorem dX10_paste_158 : decode cX10_paste 158 = .ok (.getfield 73, 3) := by decide +kernel
theorem dX10_paste_161 : decode cX10_paste 161 = .ok (.bipush 60, 2) := by decide +kernel
theorem dX10_paste_163 : decode cX10_paste 163 = .ok (.iload_n 3, 1) := by decide +kernel
theorem dX10_paste_164 : decode cX10_paste 164 = .ok (.imul, 1) := by decide +kernel
theorem dX10_paste_165 : decode cX10_paste 165 = .ok (.iload 4, 2) := by decide +kernel
theorem dX10_paste_167 : decode cX10_paste 167 = .ok (.iadd, 1) := by decide +kernel
theorem dX10_paste_168 : decode cX10_paste 168 = .ok (.iload 6, 2) := by decide +kernel
theorem dX10_paste_170 : decode cX10_paste 170 = .ok (.iadd, 1) := by decide +kernel
theorem dX10_paste_171 : decode cX10_paste 171 = .ok (.aload_n 0, 1) := by decide +kernel
theorem dX10_paste_172 : decode cX10_paste 172 = .ok (.getfield 77, 3) := by decide +kernel
theorem dX10_paste_175 : decode cX10_paste 175 = .ok (.iload 6, 2) := by decide +kernel
theorem dX10_paste_177 : decode cX10_paste 177 = .ok (.laload, 1) := by decide +kernel
theorem dX10_paste_178 : decode cX10_paste 178 = .ok (.lastore, 1) := by decide +kernel
theorem dX10_paste_179 : decode cX10_paste 179 = .ok (.iinc 6 1, 3) := by decide +kernel
theorem dX10_paste_182 : decode cX10_paste 182 = .ok (.goto (-32), 3) := by decide +kernel
theorem dX10_paste_185 : decode cX10_paste 185 = .ok (.iconst 0, 1) := by decide +kernel
theorem dX10_paste_186 : decode cX10_paste 186 = .ok (.ireturn, 1) := by decide +kernel
theorem dX10_picks_0 : decode cX10_picks 0 = .ok (.aload_n 0, 1) := by decide +kernel
theorem dX10_picks_1 : decode cX10_picks 1 = .ok (.invokevirtual 297, 3) := by decide +kernel
theorem dX10_picks_4 : decode cX10_picks 4 = .ok (.ifCond .ne 6, 3) := by decide +kernel
theorem dX10_picks_7 : decode cX10_picks 7 = .ok (.bipush (-2), 2) := by decide +kernel
theorem dX10_picks_9 : decode cX10_picks 9 = .ok (.ireturn, 1) := by decide +kernel
theorem dX10_picks_10 : decode cX10_picks 10 = .ok (.aload_n 0, 1) := by decide +kernel
theorem dX10_picks_11 : decode cX10_picks 11 = .ok (.invokevirtual 273, 3) := by decide +kernel
theorem dX10_picks_14 : decode cX10_picks 14 = .ok (.aload_n 0, 1) := by decide +kernel
theorem dX10_picks_15 : decode cX10_picks 15 = .ok (.iconst (-1), 1) := by decide +kernel
theorem dX10_picks_16 : decode cX10_picks 16 = .ok (.invokevirtual 246, 3) := by decide +kernel
theorem dX10_picks_19 : decode cX10_picks 19 = .ok (.istore_n 1, 1) := by decide +kernel
theorem dX10_picks_20 : decode cX10_picks 20 = .ok (.aload_n 0, 1) := by decide +kernel
theorem dX10_picks_21 : decode cX10_picks 21 = .ok (.iload_n 1, 1) := by decide +kernel
theorem dX10_picks_22 : decode cX10_picks 22 = .ok (.invokevirtual 405, 3) := by decide +kernel
theorem dX10_picks_25 : decode cX10_picks 25 = .ok (.istore_n 2, 1) := by decide +kernel
theorem dX10_picks_26 : decode cX10_picks 26 = .ok (.iconst 0, 1) := by decide +kernel
theorem dX10_picks_27 : decode cX10_picks 27 = .ok (.istore_n 3, 1) := by decide +kernel
theorem dX10_picks_28 : decode cX10_picks 28 = .ok (.iload_n 3, 1) := by decide +kernel
theorem dX10_picks_29 : decode cX10_picks 29 = .ok (.aload_n 0, 1) := by decide +kernel
theorem dX10_picks_30 : decode cX10_picks 30 = .ok (.getfield 9, 3) := by decide +kernel
theorem dX10_picks_33 : decode cX10_picks 33 = .ok (.iconst 3, 1) := by decide +kernel
theorem dX10_picks_34 : decode cX10_picks 34 = .ok (.iaload, 1) := by decide +kernel
theorem dX10_picks_35 : decode cX10_picks 35 = .ok (.if_icmp .ge 31, 3) := by decide +kernel
theorem dX10_picks_38 : decode cX10_picks 38 = .ok (.iload_n 1, 1) := by decide +kernel
theorem dX10_picks_39 : decode cX10_picks 39 = .ok (.iload_n 3, 1) := by decide +kernel
theorem dX10_picks_40 : decode cX10_picks 40 = .ok (.invokestatic 193, 3) := by decide +kernel
theorem dX10_picks_43 : decode cX10_picks 43 = .ok (.iconst 1, 1) := by decide +kernel
theorem dX10_picks_44 : decode cX10_picks 44 = .ok (.if_icmp .ne 16, 3) := by decide +kernel
theorem dX10_picks_47 : decode cX10_picks 47 = .ok (.aload_n 0, 1) := by decide +kernel
theorem dX10_picks_48 : decode cX10_picks 48 = .ok (.iload_n 1, 1) := by decide +kernel
theorem dX10_picks_49 : decode cX10_picks 49 = .ok (.iload_n 3, 1) := by decide +kernel
theorem dX10_picks_50 : decode cX10_picks 50 = .ok (.iconst 1, 1) := by decide +kernel
theorem dX10_picks_51 : decode cX10_picks 51 = .ok (.invokevirtual 400, 3) := by decide +kernel
theorem dX10_picks_54 : decode cX10_picks 54 = .ok (.iload_n 2, 1) := by decide +kernel
theorem dX10_picks_55 : decode cX10_picks 55 = .ok (.if_icmp .ne 5, 3) := by decide +kernel
theorem dX10_picks_58 : decode cX10_picks 58 = .ok (.iload_n 3, 1) := by decide +kernel
theorem dX10_picks_59 : decode cX10_picks 59 = .ok (.ireturn, 1) := by decide +kernel
theorem dX10_picks_60 : decode cX10_picks 60 = .ok (.iinc 3 1, 3) := by decide +kernel
theorem dX10_picks_63 : decode cX10_picks 63 = .ok (.goto (-35), 3) := by decide +kernel
theorem dX10_picks_66 : decode cX10_picks 66 = .ok (.iconst (-1), 1) := by decide +kernel
theorem dX10_picks_67 : decode cX10_picks 67 = .ok (.ireturn, 1) := by decide +kernel
theorem dX10_pull_0 : decode cX10_pull 0 = .ok (.aload_n 0, 1) := by decide +kernel
theorem dX10_pull_1 : decode cX10_pull 1 = .ok (.iload_n 1, 1) := by decide +kernel
theorem dX10_pull_2 : decode cX10_pull 2 = .ok (.invokevirtual 279, 3) := by decide +kernel
theorem dX10_pull_5 : decode cX10_pull 5 = .ok (.ifCond .eq 12, 3) := by decide +kernel
theorem dX10_pull_8 : decode cX10_pull 8 = .ok (.aload_n 0, 1) := by decide +kernel
theorem dX10_pull_9 : decode cX10_pull 9 = .ok (.iload_n 2, 1) := by decide +kernel
theorem dX10_pull_10 : decode cX10_pull 10 = .ok (.i2l, 1) := by decide +kernel
theorem dX10_pull_11 : decode cX10_pull 11 = .ok (.invokevirtual 265, 3) := by decide +kernel
theorem dX10_pull_14 : decode cX10_pull 14 = .ok (.ifCond .ne 6, 3) := by decide +kernel
theorem dX10_pull_17 : decode cX10_pull 17 = .ok (.bipush (-2), 2) := by decide +kernel
theorem dX10_pull_19 : decode cX10_pull 19 = .ok (.ireturn, 1) := by decide +kernel
theorem dX10_pull_20 : decode cX10_pull 20 = .ok (.aload_n 0, 1) := by decide +kernel
theorem dX10_pull_21 : decode cX10_pull 21 = .ok (.invokevirtual 273, 3) := by decide +kernel
theorem dX10_pull_24 : decode cX10_pull 24 = .ok (.aload_n 0, 1) := by decide +kernel
theorem dX10_pull_25 : decode cX10_pull 25 = .ok (.aload_n 0, 1) := by decide +kernel
theorem dX10_pull_26 : decode cX10_pull 26 = .ok (.iload_n 1, 1) := by decide +kernel
theorem dX10_pull_27 : decode cX10_pull 27 = .ok (.invokevirtual 246, 3) := by decide +kernel
theorem dX10_pull_30 : decode cX10_pull 30 = .ok (.iload_n 2, 1) := by decide +kernel
theorem dX10_pull_31 : decode cX10_pull 31 = .ok (.invokevirtual 243, 3) := by decide +kernel
theorem dX10_pull_34 : decode cX10_pull 34 = .ok (.ireturn, 1) := by decide +kernel
theorem dX10_pullOf_0 : decode cX10_pullOf 0 = .ok (.iconst 0, 1) := by decide +kernel
theorem dX10_pullOf_1 : decode cX10_pullOf 1 = .ok (.istore_n 3, 1) := by decide +kernel
theorem dX10_pullOf_2 : decode cX10_pullOf 2 = .ok (.iconst 0, 1) := by decide +kernel
theorem dX10_pullOf_3 : decode cX10_pullOf 3 = .ok (.istore 4, 2) := by decide +kernel
theorem dX10_pullOf_5 : decode cX10_pullOf 5 = .ok (.iload 4, 2) := by decide +kernel
theorem dX10_pullOf_7 : decode cX10_pullOf 7 = .ok (.aload_n 0, 1) := by decide +kernel
theorem dX10_pullOf_8 : decode cX10_pullOf 8 = .ok (.getfield 9, 3) := by decide +kernel
theorem dX10_pullOf_11 : decode cX10_pullOf 11 = .ok (.iconst 3, 1) := by decide +kernel
theorem dX10_pullOf_12 : decode cX10_pullOf 12 = .ok (.iaload, 1) := by decide +kernel
theorem dX10_pullOf_13 : decode cX10_pullOf 13 = .ok (.if_icmp .ge 31, 3) := by decide +kernel
theorem dX10_pullOf_16 : decode cX10_pullOf 16 = .ok (.iload_n 3, 1) := by decide +kernel
theorem dX10_pullOf_17 : decode cX10_pullOf 17 = .ok (.iload_n 1, 1) := by decide +kernel
theorem dX10_pullOf_18 : decode cX10_pullOf 18 = .ok (.iload 4, 2) := by decide +kernel
theorem dX10_pullOf_20 : decode cX10_pullOf 20 = .ok (.invokestatic 193, 3) := by decide +kernel
theorem dX10_pullOf_23 : decode cX10_pullOf 23 = .ok (.aload_n 0, 1) := by decide +kernel
theorem dX10_pullOf_24 : decode cX10_pullOf 24 = .ok (.getfield 37, 3) := by decide +kernel
theorem dX10_pullOf_27 : decode cX10_pullOf 27 = .ok (.bipush 8, 2) := by decide +kernel
theorem dX10_pullOf_29 : decode cX10_pullOf 29 = .ok (.iload 4, 2) := by decide +kernel
theorem dX10_pullOf_31 : decode cX10_pullOf 31 = .ok (.imul, 1) := by decide +kernel
theorem dX10_pullOf_32 : decode cX10_pullOf 32 = .ok (.iload_n 2, 1) := by decide +kernel
theorem dX10_pullOf_33 : decode cX10_pullOf 33 = .ok (.iadd, 1) := by decide +kernel
theorem dX10_pullOf_34 : decode cX10_pullOf 34 = .ok (.iaload, 1) := by decide +kernel
theorem dX10_pullOf_35 : decode cX10_pullOf 35 = .ok (.imul, 1) := by decide +kernel
theorem dX10_pullOf_36 : decode cX10_pullOf 36 = .ok (.iadd, 1) := by decide +kernel
theorem dX10_pullOf_37 : decode cX10_pullOf 37 = .ok (.istore_n 3, 1) := by decide +kernel
theorem dX10_pullOf_38 : decode cX10_pullOf 38 = .ok (.iinc 4 1, 3) := by decide +kernel
theorem dX10_pullOf_41 : decode cX10_pullOf 41 = .ok (.goto (-36), 3) := by decide +kernel
theorem dX10_pullOf_44 : decode cX10_pullOf 44 = .ok (.iload_n 3, 1) := by decide +kernel
theorem dX10_pullOf_45 : decode cX10_pullOf 45 = .ok (.ireturn, 1) := by decide +kernel
theorem dX10_put_0 : decode cX10_put 0 = .ok (.bipush 74, 2) := by decide +kernel
theorem dX10_put_2 : decode cX10_put 2 = .ok (.iload_n 1, 1) := by decide +kernel
theorem dX10_put_3 : decode cX10_put 3 = .ok (.imul, 1) := by decide +kernel
theorem dX10_put_4 : decode cX10_put 4 = .ok (.istore_n 3, 1) := by decide +kernel
theorem dX10_put_5 : decode cX10_put 5 = .ok (.iconst 0, 1) := by decide +kernel
theorem dX10_put_6 : decode cX10_put 6 = .ok (.istore 4, 2) := by decide +kernel
theorem dX10_put_8 : decode cX10_put 8 = .ok (.iload 4, 2) := by decide +kernel
theorem dX10_put_10 : decode cX10_put 10 = .ok (.bipush 8, 2) := by decide +kernel
theorem dX10_put_12 : decode cX10_put 12 = .ok (.if_icmp .ge 25, 3) := by decide +kernel
theorem dX10_put_15 : decode cX10_put 15 = .ok (.aload_n 0, 1) := by decide +kernel
theorem dX10_put_16 : decode cX10_put 16 = .ok (.getfield 49, 3) := by decide +kernel
theorem dX10_put_19 : decode cX10_put 19 = .ok (.iload_n 3, 1) := by decide +kernel
theorem dX10_put_20 : decode cX10_put 20 = .ok (.iload 4, 2) := by decide +kernel
theorem dX10_put_22 : decode cX10_put 22 = .ok (.iadd, 1) := by decide +kernel
theorem dX10_put_23 : decode cX10_put 23 = .ok (.aload_n 0, 1) := by decide +kernel
theorem dX10_put_24 : decode cX10_put 24 = .ok (.getfield 34, 3) := by decide +kernel
theorem dX10_put_27 : decode cX10_put 27 = .ok (.iload 4, 2) := by decide +kernel
theorem dX10_put_29 : decode cX10_put 29 = .ok (.iaload, 1) := by decide +kernel
theorem dX10_put_30 : decode cX10_put 30 = .ok (.iastore, 1) := by decide +kernel
theorem dX10_put_31 : decode cX10_put 31 = .ok (.iinc 4 1, 3) := by decide +kernel
theorem dX10_put_34 : decode cX10_put 34 = .ok (.goto (-26), 3) := by decide +kernel
theorem dX10_put_37 : decode cX10_put 37 = .ok (.iconst 0, 1) := by decide +kernel
theorem dX10_put_38 : decode cX10_put 38 = .ok (.istore 4, 2) := by decide +kernel
theorem dX10_put_40 : decode cX10_put 40 = .ok (.iload 4, 2) := by decide +kernel
theorem dX10_put_42 : decode cX10_put 42 = .ok (.aload_n 0, 1) := by decide +kernel
theorem dX10_put_43 : decode cX10_put 43 = .ok (.getfield 37, 3) := by decide +kernel
theorem dX10_put_46 : decode cX10_put 46 = .ok (.arraylength, 1) := by decide +kernel
theorem dX10_put_47 : decode cX10_put 47 = .ok (.if_icmp .ge 28, 3) := by decide +kernel
theorem dX10_put_50 : decode cX10_put 50 = .ok (.aload_n 0, 1) := by decide +kernel
theorem dX10_put_51 : decode cX10_put 51 = .ok (.getfield 49, 3) := by decide +kernel
theorem dX10_put_54 : decode cX10_put 54 = .ok (.iload_n 3, 1) := by decide +kernel
theorem dX10_put_55 : decode cX10_put 55 = .ok (.bipush 8, 2) := by decide +kernel
theorem dX10_put_57 : decode cX10_put 57 = .ok (.iadd, 1) := by decide +kernel
theorem dX10_put_58 : decode cX10_put 58 = .ok (.iload 4, 2) := by decide +kernel
theorem dX10_put_60 : decode cX10_put 60 = .ok (.iadd, 1) := by decide +kernel
theorem dX10_put_61 : decode cX10_put 61 = .ok (.aload_n 0, 1) := by decide +kernel
theorem dX10_put_62 : decode cX10_put 62 = .ok (.getfield 37, 3) := by decide +kernel
theorem dX10_put_65 : decode cX10_put 65 = .ok (.iload 4, 2) := by decide +kernel
theorem dX10_put_67 : decode cX10_put 67 = .ok (.iaload, 1) := by decide +kernel
theorem dX10_put_68 : decode cX10_put 68 = .ok (.iastore, 1) := by decide +kernel
theorem dX10_put_69 : decode cX10_put 69 = .ok (.iinc 4 1, 3) := by decide +kernel
theorem dX10_put_72 : decode cX10_put 72 = .ok (.goto (-32), 3) := by decide +kernel
theorem dX10_put_75 : decode cX10_put 75 = .ok (.aload_n 0, 1) := by decide +kernel
theorem dX10_put_76 : decode cX10_put 76 = .ok (.getfield 49, 3) := by decide +kernel
theorem dX10_put_79 : decode cX10_put 79 = .ok (.iload_n 3, 1) := by decide +kernel
theorem dX10_put_80 : decode cX10_put 80 = .ok (.bipush 8, 2) := by decide +kernel
theorem dX10_put_82 : decode cX10_put 82 = .ok (.iadd, 1) := by decide +kernel
theorem dX10_put_83 : decode cX10_put 83 = .ok (.aload_n 0, 1) := by decide +kernel
theorem dX10_put_84 : decode cX10_put 84 = .ok (.getfield 37, 3) := by decide +kernel
theorem dX10_put_87 : decode cX10_put 87 = .ok (.arraylength, 1) := by decide +kernel
theorem dX10_put_88 : decode cX10_put 88 = .ok (.iadd, 1) := by decide +kernel
theorem dX10_put_89 : decode cX10_put 89 = .ok (.aload_n 0, 1) := by decide +kernel
theorem dX10_put_90 : decode cX10_put 90 = .ok (.getfield 43, 3) := by decide +kernel
theorem dX10_put_93 : decode cX10_put 93 = .ok (.iload_n 2, 1) := by decide +kernel
theorem dX10_put_94 : decode cX10_put 94 = .ok (.iaload, 1) := by decide +kernel
theorem dX10_put_95 : decode cX10_put 95 = .ok (.iastore, 1) := by decide +kernel
theorem dX10_put_96 : decode cX10_put 96 = .ok (.aload_n 0, 1) := by decide +kernel
theorem dX10_put_97 : decode cX10_put 97 = .ok (.getfield 49, 3) := by decide +kernel
theorem dX10_put_100 : decode cX10_put 100 = .ok (.iload_n 3, 1) := by decide +kernel
theorem dX10_put_101 : decode cX10_put 101 = .ok (.bipush 8, 2) := by decide +kernel
theorem dX10_put_103 : decode cX10_put 103 = .ok (.iadd, 1) := by decide +kernel
theorem dX10_put_104 : decode cX10_put 104 = .ok (.aload_n 0, 1) := by decide +kernel
theorem dX10_put_105 : decode cX10_put 105 = .ok (.getfield 37, 3) := by decide +kernel
theorem dX10_put_108 : decode cX10_put 108 = .ok (.arraylength, 1) := by decide +kernel
theorem dX10_put_109 : decode cX10_put 109 = .ok (.iadd, 1) := by decide +kernel
theorem dX10_put_110 : decode cX10_put 110 = .ok (.iconst 1, 1) := by decide +kernel
theorem dX10_put_111 : decode cX10_put 111 = .ok (.iadd, 1) := by decide +kernel
theorem dX10_put_112 : decode cX10_put 112 = .ok (.aload_n 0, 1) := by decide +kernel
theorem dX10_put_113 : decode cX10_put 113 = .ok (.getfield 46, 3) := by decide +kernel
theorem dX10_put_116 : decode cX10_put 116 = .ok (.iload_n 2, 1) := by decide +kernel
theorem dX10_put_117 : decode cX10_put 117 = .ok (.iaload, 1) := by decide +kernel
theorem dX10_put_118 : decode cX10_put 118 = .ok (.iastore, 1) := by decide +kernel
theorem dX10_put_119 : decode cX10_put 119 = .ok (.return_, 1) := by decide +kernel
theorem dX10_ran_0 : decode cX10_ran 0 = .ok (.aload_n 0, 1) := by decide +kernel
theorem dX10_ran_1 : decode cX10_ran 1 = .ok (.iload_n 1, 1) := by decide +kernel
theorem dX10_ran_2 : decode cX10_ran 2 = .ok (.iload_n 2, 1) := by decide +kernel
theorem dX10_ran_3 : decode cX10_ran 3 = .ok (.invokevirtual 319, 3) := by decide +kernel
theorem dX10_ran_6 : decode cX10_ran 6 = .ok (.istore_n 3, 1) := by decide +kernel
theorem dX10_ran_7 : decode cX10_ran 7 = .ok (.iload_n 3, 1) := by decide +kernel
theorem dX10_ran_8 : decode cX10_ran 8 = .ok (.ifCond .ge 5, 3) := by decide +kernel
theorem dX10_ran_11 : decode cX10_ran 11 = .ok (.iload_n 3, 1) := by decide +kernel
theorem dX10_ran_12 : decode cX10_ran 12 = .ok (.ireturn, 1) := by decide +kernel
theorem dX10_ran_13 : decode cX10_ran 13 = .ok (.aload_n 0, 1) := by decide +kernel
theorem dX10_ran_14 : decode cX10_ran 14 = .ok (.iload_n 1, 1) := by decide +kernel
theorem dX10_ran_15 : decode cX10_ran 15 = .ok (.iload_n 2, 1) := by decide +kernel
theorem dX10_ran_16 : decode cX10_ran 16 = .ok (.invokevirtual 322, 3) := by decide +kernel
theorem dX10_ran_19 : decode cX10_ran 19 = .ok (.aload_n 0, 1) := by decide +kernel
theorem dX10_ran_20 : decode cX10_ran 20 = .ok (.getfield 46, 3) := by decide +kernel
theorem dX10_ran_23 : decode cX10_ran 23 = .ok (.iload_n 2, 1) := by decide +kernel
theorem dX10_ran_24 : decode cX10_ran 24 = .ok (.iaload, 1) := by decide +kernel
theorem dX10_ran_25 : decode cX10_ran 25 = .ok (.ireturn, 1) := by decide +kernel
theorem dX10_reach_0 : decode cX10_reach 0 = .ok (.aload_n 0, 1) := by decide +kernel
theorem dX10_reach_1 : decode cX10_reach 1 = .ok (.iload_n 1, 1) := by decide +kernel
theorem dX10_reach_2 : decode cX10_reach 2 = .ok (.invokevirtual 279, 3) := by decide +kernel
theorem dX10_reach_5 : decode cX10_reach 5 = .ok (.ifCond .ne 6, 3) := by decide +kernel
theorem dX10_reach_8 : decode cX10_reach 8 = .ok (.bipush (-2), 2) := by decide +kernel
theorem dX10_reach_10 : decode cX10_reach 10 = .ok (.ireturn, 1) := by decide +kernel
theorem dX10_reach_11 : decode cX10_reach 11 = .ok (.aload_n 0, 1) := by decide +kernel
theorem dX10_reach_12 : decode cX10_reach 12 = .ok (.invokevirtual 273, 3) := by decide +kernel
theorem dX10_reach_15 : decode cX10_reach 15 = .ok (.aload_n 0, 1) := by decide +kernel
theorem dX10_reach_16 : decode cX10_reach 16 = .ok (.iload_n 1, 1) := by decide +kernel
theorem dX10_reach_17 : decode cX10_reach 17 = .ok (.iconst (-1), 1) := by decide +kernel
theorem dX10_reach_18 : decode cX10_reach 18 = .ok (.invokevirtual 338, 3) := by decide +kernel
theorem dX10_reach_21 : decode cX10_reach 21 = .ok (.pop, 1) := by decide +kernel
theorem dX10_reach_22 : decode cX10_reach 22 = .ok (.aload_n 0, 1) := by decide +kernel
theorem dX10_reach_23 : decode cX10_reach 23 = .ok (.getfield 325, 3) := by decide +kernel
theorem dX10_reach_26 : decode cX10_reach 26 = .ok (.ireturn, 1) := by decide +kernel
theorem dX10_readCart_0 : decode cX10_readCart 0 = .ok (.bipush 104, 2) := by decide +kernel
theorem dX10_readCart_2 : decode cX10_readCart 2 = .ok (.iconst 2, 1) := by decide +kernel
theorem dX10_readCart_3 : decode cX10_readCart 3 = .ok (.aload_n 0, 1) := by decide +kernel
theorem dX10_readCart_4 : decode cX10_readCart 4 = .ok (.getfield 31, 3) := by decide +kernel
theorem dX10_readCart_7 : decode cX10_readCart 7 = .ok (.iconst 4, 1) := by decide +kernel
theorem dX10_readCart_8 : decode cX10_readCart 8 = .ok (.iaload, 1) := by decide +kernel
theorem dX10_readCart_9 : decode cX10_readCart 9 = .ok (.imul, 1) := by decide +kernel
theorem dX10_readCart_10 : decode cX10_readCart 10 = .ok (.iadd, 1) := by decide +kernel
theorem dX10_readCart_11 : decode cX10_readCart 11 = .ok (.istore_n 1, 1) := by decide +kernel
theorem dX10_readCart_12 : decode cX10_readCart 12 = .ok (.aload_n 0, 1) := by decide +kernel
theorem dX10_readCart_13 : decode cX10_readCart 13 = .ok (.ldc 184, 2) := by decide +kernel
theorem dX10_readCart_15 : decode cX10_readCart 15 = .ok (.invokevirtual 164, 3) := by decide +kernel
theorem dX10_readCart_18 : decode cX10_readCart 18 = .ok (.aload_n 0, 1) := by decide +kernel
theorem dX10_readCart_19 : decode cX10_readCart 19 = .ok (.getfield 31, 3) := by decide +kernel
theorem dX10_readCart_22 : decode cX10_readCart 22 = .ok (.iload_n 1, 1) := by decide +kernel
theorem dX10_readCart_23 : decode cX10_readCart 23 = .ok (.aload_n 0, 1) := by decide +kernel
theorem dX10_readCart_24 : decode cX10_readCart 24 = .ok (.invokevirtual 171, 3) := by decide +kernel
theorem dX10_readCart_27 : decode cX10_readCart 27 = .ok (.iastore, 1) := by decide +kernel
theorem dX10_readCart_28 : decode cX10_readCart 28 = .ok (.aload_n 0, 1) := by decide +kernel
theorem dX10_readCart_29 : decode cX10_readCart 29 = .ok (.ldc 185, 2) := by decide +kernel
theorem dX10_readCart_31 : decode cX10_readCart 31 = .ok (.invokevirtual 164, 3) := by decide +kernel
theorem dX10_readCart_34 : decode cX10_readCart 34 = .ok (.iconst 0, 1) := by decide +kernel
theorem dX10_readCart_35 : decode cX10_readCart 35 = .ok (.istore_n 2, 1) := by decide +kernel
theorem dX10_readCart_36 : decode cX10_readCart 36 = .ok (.aload_n 0, 1) := by decide +kernel
theorem dX10_readCart_37 : decode cX10_readCart 37 = .ok (.invokevirtual 187, 3) := by decide +kernel
theorem dX10_readCart_40 : decode cX10_readCart 40 = .ok (.istore_n 3, 1) := by decide +kernel
theorem dX10_readCart_41 : decode cX10_readCart 41 = .ok (.aload_n 0, 1) := by decide +kernel
theorem dX10_readCart_42 : decode cX10_readCart 42 = .ok (.invokevirtual 136, 3) := by decide +kernel
theorem dX10_readCart_45 : decode cX10_readCart 45 = .ok (.ifCond .eq 28, 3) := by decide +kernel
theorem dX10_readCart_48 : decode cX10_readCart 48 = .ok (.aload_n 0, 1) := by decide +kernel
theorem dX10_readCart_49 : decode cX10_readCart 49 = .ok (.getfield 113, 3) := by decide +kernel
theorem dX10_readCart_52 : decode cX10_readCart 52 = .ok (.iconst 2, 1) := by decide +kernel
theorem dX10_readCart_53 : decode cX10_readCart 53 = .ok (.if_icmp .ne 20, 3) := by decide +kernel
theorem dX10_readCart_56 : decode cX10_readCart 56 = .ok (.aload_n 0, 1) := by decide +kernel
theorem dX10_readCart_57 : decode cX10_readCart 57 = .ok (.getfield 124, 3) := by decide +kernel
theorem dX10_readCart_60 : decode cX10_readCart 60 = .ok (.aload_n 0, 1) := by decide +kernel
theorem dX10_readCart_61 : decode cX10_readCart 61 = .ok (.getfield 31, 3) := by decide +kernel
theorem dX10_readCart_64 : decode cX10_readCart 64 = .ok (.iconst 3, 1) := by decide +kernel
theorem dX10_readCart_65 : decode cX10_readCart 65 = .ok (.iaload, 1) := by decide +kernel
theorem dX10_readCart_66 : decode cX10_readCart 66 = .ok (.if_icmp .ge 7, 3) := by decide +kernel
theorem dX10_readCart_69 : decode cX10_readCart 69 = .ok (.iconst 1, 1) := by decide +kernel
theorem dX10_readCart_70 : decode cX10_readCart 70 = .ok (.goto 4, 3) := by decide +kernel
theorem dX10_readCart_73 : decode cX10_readCart 73 = .ok (.iconst 0, 1) := by decide +kernel
theorem dX10_readCart_74 : decode cX10_readCart 74 = .ok (.istore 4, 2) := by decide +kernel
theorem dX10_readCart_76 : decode cX10_readCart 76 = .ok (.iload 4, 2) := by decide +kernel
theorem dX10_readCart_78 : decode cX10_readCart 78 = .ok (.ifCond .eq 16, 3) := by decide +kernel
theorem dX10_readCart_81 : decode cX10_readCart 81 = .ok (.iload_n 2, 1) := by decide +kernel
theorem dX10_readCart_82 : decode cX10_readCart 82 = .ok (.invokestatic 190, 3) := by decide +kernel
theorem dX10_readCart_85 : decode cX10_readCart 85 = .ok (.iconst 4, 1) := by decide +kernel
theorem dX10_readCart_86 : decode cX10_readCart 86 = .ok (.if_icmp .ne 8, 3) := by decide +kernel
theorem dX10_readCart_89 : decode cX10_readCart 89 = .ok (.aload_n 0, 1) := by decide +kernel
theorem dX10_readCart_90 : decode cX10_readCart 90 = .ok (.iconst 3, 1) := by decide +kernel
theorem dX10_readCart_91 : decode cX10_readCart 91 = .ok (.invokevirtual 160, 3) := by decide +kernel
theorem dX10_readCart_94 : decode cX10_readCart 94 = .ok (.iload 4, 2) := by decide +kernel
theorem dX10_readCart_96 : decode cX10_readCart 96 = .ok (.ifCond .eq 22, 3) := by decide +kernel
theorem dX10_readCart_99 : decode cX10_readCart 99 = .ok (.iload_n 2, 1) := by decide +kernel
theorem dX10_readCart_100 : decode cX10_readCart 100 = .ok (.iload_n 3, 1) := by decide +kernel
theorem dX10_readCart_101 : decode cX10_readCart 101 = .ok (.ior, 1) := by decide +kernel
theorem dX10_readCart_102 : decode cX10_readCart 102 = .ok (.aload_n 0, 1) := by decide +kernel
theorem dX10_readCart_103 : decode cX10_readCart 103 = .ok (.getfield 124, 3) := by decide +kernel
theorem dX10_readCart_106 : decode cX10_readCart 106 = .ok (.invokestatic 193, 3) := by decide +kernel
theorem dX10_readCart_109 : decode cX10_readCart 109 = .ok (.iconst 1, 1) := by decide +kernel
theorem dX10_readCart_110 : decode cX10_readCart 110 = .ok (.if_icmp .ne 8, 3) := by decide +kernel
theorem dX10_readCart_113 : decode cX10_readCart 113 = .ok (.aload_n 0, 1) := by decide +kernel
theorem dX10_readCart_114 : decode cX10_readCart 114 = .ok (.iconst 2, 1) := by decide +kernel
theorem dX10_readCart_115 : decode cX10_readCart 115 = .ok (.invokevirtual 160, 3) := by decide +kernel
theorem dX10_readCart_118 : decode cX10_readCart 118 = .ok (.aload_n 0, 1) := by decide +kernel
theorem dX10_readCart_119 : decode cX10_readCart 119 = .ok (.iconst 0, 1) := by decide +kernel
theorem dX10_readCart_120 : decode cX10_readCart 120 = .ok (.aload_n 0, 1) := by decide +kernel
theorem dX10_readCart_121 : decode cX10_readCart 121 = .ok (.getfield 31, 3) := by decide +kernel
theorem dX10_readCart_124 : decode cX10_readCart 124 = .ok (.iconst 3, 1) := by decide +kernel
theorem dX10_readCart_125 : decode cX10_readCart 125 = .ok (.iaload, 1) := by decide +kernel
theorem dX10_readCart_126 : decode cX10_readCart 126 = .ok (.iconst 1, 1) := by decide +kernel
theorem dX10_readCart_127 : decode cX10_readCart 127 = .ok (.isub, 1) := by decide +kernel
theorem dX10_readCart_128 : decode cX10_readCart 128 = .ok (.invokevirtual 168, 3) := by decide +kernel
theorem dX10_readCart_131 : decode cX10_readCart 131 = .ok (.istore 5, 2) := by decide +kernel
theorem dX10_readCart_133 : decode cX10_readCart 133 = .ok (.aload_n 0, 1) := by decide +kernel
theorem dX10_readCart_134 : decode cX10_readCart 134 = .ok (.invokevirtual 136, 3) := by decide +kernel
theorem dX10_readCart_137 : decode cX10_readCart 137 = .ok (.ifCond .ne 4, 3) := by decide +kernel
theorem dX10_readCart_140 : decode cX10_readCart 140 = .ok (.return_, 1) := by decide +kernel
theorem dX10_readCart_141 : decode cX10_readCart 141 = .ok (.iload_n 2, 1) := by decide +kernel
theorem dX10_readCart_142 : decode cX10_readCart 142 = .ok (.iconst 1, 1) := by decide +kernel
theorem dX10_readCart_143 : decode cX10_readCart 143 = .ok (.iload 5, 2) := by decide +kernel
theorem dX10_readCart_145 : decode cX10_readCart 145 = .ok (.ishl, 1) := by decide +kernel
theorem dX10_readCart_146 : decode cX10_readCart 146 = .ok (.ior, 1) := by decide +kernel
theorem dX10_readCart_147 : decode cX10_readCart 147 = .ok (.istore_n 2, 1) := by decide +kernel
theorem dX10_readCart_148 : decode cX10_readCart 148 = .ok (.aload_n 0, 1) := by decide +kernel
theorem dX10_readCart_149 : decode cX10_readCart 149 = .ok (.getfield 113, 3) := by decide +kernel
theorem dX10_readCart_152 : decode cX10_readCart 152 = .ok (.iconst 3, 1) := by decide +kernel
theorem dX10_readCart_153 : decode cX10_readCart 153 = .ok (.if_icmp .ne (-112), 3) := by decide +kernel
theorem dX10_readCart_156 : decode cX10_readCart 156 = .ok (.aload_n 0, 1) := by decide +kernel
theorem dX10_readCart_157 : decode cX10_readCart 157 = .ok (.getfield 31, 3) := by decide +kernel
theorem dX10_readCart_160 : decode cX10_readCart 160 = .ok (.iload_n 1, 1) := by decide +kernel
theorem dX10_readCart_161 : decode cX10_readCart 161 = .ok (.iconst 1, 1) := by decide +kernel
theorem dX10_readCart_162 : decode cX10_readCart 162 = .ok (.iadd, 1) := by decide +kernel
theorem dX10_readCart_163 : decode cX10_readCart 163 = .ok (.iload_n 2, 1) := by decide +kernel
theorem dX10_readCart_164 : decode cX10_readCart 164 = .ok (.iastore, 1) := by decide +kernel
theorem dX10_readCart_165 : decode cX10_readCart 165 = .ok (.aload_n 0, 1) := by decide +kernel
theorem dX10_readCart_166 : decode cX10_readCart 166 = .ok (.getfield 31, 3) := by decide +kernel
theorem dX10_readCart_169 : decode cX10_readCart 169 = .ok (.iconst 4, 1) := by decide +kernel
theorem dX10_readCart_170 : decode cX10_readCart 170 = .ok (.dup2, 1) := by decide +kernel
theorem dX10_readCart_171 : decode cX10_readCart 171 = .ok (.iaload, 1) := by decide +kernel
theorem dX10_readCart_172 : decode cX10_readCart 172 = .ok (.iconst 1, 1) := by decide +kernel
theorem dX10_readCart_173 : decode cX10_readCart 173 = .ok (.iadd, 1) := by decide +kernel
theorem dX10_readCart_174 : decode cX10_readCart 174 = .ok (.iastore, 1) := by decide +kernel
theorem dX10_readCart_175 : decode cX10_readCart 175 = .ok (.return_, 1) := by decide +kernel
theorem dX10_readErrand_0 : decode cX10_readErrand 0 = .ok (.bipush 110, 2) := by decide +kernel
theorem dX10_readErrand_2 : decode cX10_readErrand 2 = .ok (.iconst 3, 1) := by decide +kernel
theorem dX10_readErrand_3 : decode cX10_readErrand 3 = .ok (.aload_n 0, 1) := by decide +kernel
theorem dX10_readErrand_4 : decode cX10_readErrand 4 = .ok (.getfield 31, 3) := by decide +kernel
theorem dX10_readErrand_7 : decode cX10_readErrand 7 = .ok (.iconst 5, 1) := by decide +kernel
theorem dX10_readErrand_8 : decode cX10_readErrand 8 = .ok (.iaload, 1) := by decide +kernel
theorem dX10_readErrand_9 : decode cX10_readErrand 9 = .ok (.imul, 1) := by decide +kernel
theorem dX10_readErrand_10 : decode cX10_readErrand 10 = .ok (.iadd, 1) := by decide +kernel
theorem dX10_readErrand_11 : decode cX10_readErrand 11 = .ok (.istore_n 1, 1) := by decide +kernel
theorem dX10_readErrand_12 : decode cX10_readErrand 12 = .ok (.aload_n 0, 1) := by decide +kernel
theorem dX10_readErrand_13 : decode cX10_readErrand 13 = .ok (.getfield 31, 3) := by decide +kernel
theorem dX10_readErrand_16 : decode cX10_readErrand 16 = .ok (.iload_n 1, 1) := by decide +kernel
theorem dX10_readErrand_17 : decode cX10_readErrand 17 = .ok (.aload_n 0, 1) := by decide +kernel
theorem dX10_readErrand_18 : decode cX10_readErrand 18 = .ok (.iconst 0, 1) := by decide +kernel
