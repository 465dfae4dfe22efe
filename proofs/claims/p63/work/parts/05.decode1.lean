theorem dX10_cart_41 : decode cX10_cart 41 = .ok (.iconst 1, 1) := by decide +kernel
theorem dX10_cart_42 : decode cX10_cart 42 = .ok (.if_icmp .ne 11, 3) := by decide +kernel
theorem dX10_cart_45 : decode cX10_cart 45 = .ok (.aload_n 0, 1) := by decide +kernel
theorem dX10_cart_46 : decode cX10_cart 46 = .ok (.iload_n 1, 1) := by decide +kernel
theorem dX10_cart_47 : decode cX10_cart 47 = .ok (.invokevirtual 246, 3) := by decide +kernel
theorem dX10_cart_50 : decode cX10_cart 50 = .ok (.goto 9, 3) := by decide +kernel
theorem dX10_cart_53 : decode cX10_cart 53 = .ok (.aload_n 0, 1) := by decide +kernel
theorem dX10_cart_54 : decode cX10_cart 54 = .ok (.getfield 46, 3) := by decide +kernel
theorem dX10_cart_57 : decode cX10_cart 57 = .ok (.iload_n 1, 1) := by decide +kernel
theorem dX10_cart_58 : decode cX10_cart 58 = .ok (.iaload, 1) := by decide +kernel
theorem dX10_cart_59 : decode cX10_cart 59 = .ok (.ireturn, 1) := by decide +kernel
theorem dX10_choose_0 : decode cX10_choose 0 = .ok (.aload_n 0, 1) := by decide +kernel
theorem dX10_choose_1 : decode cX10_choose 1 = .ok (.iload_n 1, 1) := by decide +kernel
theorem dX10_choose_2 : decode cX10_choose 2 = .ok (.invokevirtual 279, 3) := by decide +kernel
theorem dX10_choose_5 : decode cX10_choose 5 = .ok (.ifCond .eq 12, 3) := by decide +kernel
theorem dX10_choose_8 : decode cX10_choose 8 = .ok (.aload_n 0, 1) := by decide +kernel
theorem dX10_choose_9 : decode cX10_choose 9 = .ok (.iload_n 2, 1) := by decide +kernel
theorem dX10_choose_10 : decode cX10_choose 10 = .ok (.i2l, 1) := by decide +kernel
theorem dX10_choose_11 : decode cX10_choose 11 = .ok (.invokevirtual 282, 3) := by decide +kernel
theorem dX10_choose_14 : decode cX10_choose 14 = .ok (.ifCond .ne 6, 3) := by decide +kernel
theorem dX10_choose_17 : decode cX10_choose 17 = .ok (.bipush (-2), 2) := by decide +kernel
theorem dX10_choose_19 : decode cX10_choose 19 = .ok (.ireturn, 1) := by decide +kernel
theorem dX10_choose_20 : decode cX10_choose 20 = .ok (.aload_n 0, 1) := by decide +kernel
theorem dX10_choose_21 : decode cX10_choose 21 = .ok (.iload_n 1, 1) := by decide +kernel
theorem dX10_choose_22 : decode cX10_choose 22 = .ok (.iload_n 2, 1) := by decide +kernel
theorem dX10_choose_23 : decode cX10_choose 23 = .ok (.invokevirtual 344, 3) := by decide +kernel
theorem dX10_choose_26 : decode cX10_choose 26 = .ok (.istore_n 3, 1) := by decide +kernel
theorem dX10_choose_27 : decode cX10_choose 27 = .ok (.iload_n 3, 1) := by decide +kernel
theorem dX10_choose_28 : decode cX10_choose 28 = .ok (.ldc_w 331, 3) := by decide +kernel
theorem dX10_choose_31 : decode cX10_choose 31 = .ok (.if_icmp .ne 7, 3) := by decide +kernel
theorem dX10_choose_34 : decode cX10_choose 34 = .ok (.iconst (-1), 1) := by decide +kernel
theorem dX10_choose_35 : decode cX10_choose 35 = .ok (.goto 4, 3) := by decide +kernel
theorem dX10_choose_38 : decode cX10_choose 38 = .ok (.iload_n 3, 1) := by decide +kernel
theorem dX10_choose_39 : decode cX10_choose 39 = .ok (.ireturn, 1) := by decide +kernel
theorem dX10_chooseOf_0 : decode cX10_chooseOf 0 = .ok (.aload_n 0, 1) := by decide +kernel
theorem dX10_chooseOf_1 : decode cX10_chooseOf 1 = .ok (.invokevirtual 273, 3) := by decide +kernel
theorem dX10_chooseOf_4 : decode cX10_chooseOf 4 = .ok (.aload_n 0, 1) := by decide +kernel
theorem dX10_chooseOf_5 : decode cX10_chooseOf 5 = .ok (.iload_n 1, 1) := by decide +kernel
theorem dX10_chooseOf_6 : decode cX10_chooseOf 6 = .ok (.invokevirtual 246, 3) := by decide +kernel
theorem dX10_chooseOf_9 : decode cX10_chooseOf 9 = .ok (.istore_n 3, 1) := by decide +kernel
theorem dX10_chooseOf_10 : decode cX10_chooseOf 10 = .ok (.aload_n 0, 1) := by decide +kernel
theorem dX10_chooseOf_11 : decode cX10_chooseOf 11 = .ok (.iconst (-1), 1) := by decide +kernel
theorem dX10_chooseOf_12 : decode cX10_chooseOf 12 = .ok (.invokevirtual 246, 3) := by decide +kernel
theorem dX10_chooseOf_15 : decode cX10_chooseOf 15 = .ok (.istore 4, 2) := by decide +kernel
theorem dX10_chooseOf_17 : decode cX10_chooseOf 17 = .ok (.ldc_w 331, 3) := by decide +kernel
theorem dX10_chooseOf_20 : decode cX10_chooseOf 20 = .ok (.istore 5, 2) := by decide +kernel
theorem dX10_chooseOf_22 : decode cX10_chooseOf 22 = .ok (.aload_n 0, 1) := by decide +kernel
theorem dX10_chooseOf_23 : decode cX10_chooseOf 23 = .ok (.iconst (-1), 1) := by decide +kernel
theorem dX10_chooseOf_24 : decode cX10_chooseOf 24 = .ok (.putfield 341, 3) := by decide +kernel
theorem dX10_chooseOf_27 : decode cX10_chooseOf 27 = .ok (.iconst 0, 1) := by decide +kernel
theorem dX10_chooseOf_28 : decode cX10_chooseOf 28 = .ok (.istore 6, 2) := by decide +kernel
theorem dX10_chooseOf_30 : decode cX10_chooseOf 30 = .ok (.iload 6, 2) := by decide +kernel
theorem dX10_chooseOf_32 : decode cX10_chooseOf 32 = .ok (.iconst 1, 1) := by decide +kernel
theorem dX10_chooseOf_33 : decode cX10_chooseOf 33 = .ok (.aload_n 0, 1) := by decide +kernel
theorem dX10_chooseOf_34 : decode cX10_chooseOf 34 = .ok (.getfield 9, 3) := by decide +kernel
theorem dX10_chooseOf_37 : decode cX10_chooseOf 37 = .ok (.iconst 3, 1) := by decide +kernel
theorem dX10_chooseOf_38 : decode cX10_chooseOf 38 = .ok (.iaload, 1) := by decide +kernel
theorem dX10_chooseOf_39 : decode cX10_chooseOf 39 = .ok (.ishl, 1) := by decide +kernel
theorem dX10_chooseOf_40 : decode cX10_chooseOf 40 = .ok (.if_icmp .ge 124, 3) := by decide +kernel
theorem dX10_chooseOf_43 : decode cX10_chooseOf 43 = .ok (.iload 6, 2) := by decide +kernel
theorem dX10_chooseOf_45 : decode cX10_chooseOf 45 = .ok (.iload_n 3, 1) := by decide +kernel
theorem dX10_chooseOf_46 : decode cX10_chooseOf 46 = .ok (.iload 4, 2) := by decide +kernel
theorem dX10_chooseOf_48 : decode cX10_chooseOf 48 = .ok (.ior, 1) := by decide +kernel
theorem dX10_chooseOf_49 : decode cX10_chooseOf 49 = .ok (.iconst (-1), 1) := by decide +kernel
theorem dX10_chooseOf_50 : decode cX10_chooseOf 50 = .ok (.ixor, 1) := by decide +kernel
theorem dX10_chooseOf_51 : decode cX10_chooseOf 51 = .ok (.iand, 1) := by decide +kernel
theorem dX10_chooseOf_52 : decode cX10_chooseOf 52 = .ok (.ifCond .ne 106, 3) := by decide +kernel
theorem dX10_chooseOf_55 : decode cX10_chooseOf 55 = .ok (.iload 6, 2) := by decide +kernel
theorem dX10_chooseOf_57 : decode cX10_chooseOf 57 = .ok (.invokestatic 190, 3) := by decide +kernel
theorem dX10_chooseOf_60 : decode cX10_chooseOf 60 = .ok (.iload_n 3, 1) := by decide +kernel
theorem dX10_chooseOf_61 : decode cX10_chooseOf 61 = .ok (.invokestatic 190, 3) := by decide +kernel
theorem dX10_chooseOf_64 : decode cX10_chooseOf 64 = .ok (.if_icmp .eq 6, 3) := by decide +kernel
theorem dX10_chooseOf_67 : decode cX10_chooseOf 67 = .ok (.goto 91, 3) := by decide +kernel
theorem dX10_chooseOf_70 : decode cX10_chooseOf 70 = .ok (.aload_n 0, 1) := by decide +kernel
theorem dX10_chooseOf_71 : decode cX10_chooseOf 71 = .ok (.invokevirtual 273, 3) := by decide +kernel
theorem dX10_chooseOf_74 : decode cX10_chooseOf 74 = .ok (.iconst 0, 1) := by decide +kernel
theorem dX10_chooseOf_75 : decode cX10_chooseOf 75 = .ok (.istore 7, 2) := by decide +kernel
theorem dX10_chooseOf_77 : decode cX10_chooseOf 77 = .ok (.iload 7, 2) := by decide +kernel
theorem dX10_chooseOf_79 : decode cX10_chooseOf 79 = .ok (.aload_n 0, 1) := by decide +kernel
theorem dX10_chooseOf_80 : decode cX10_chooseOf 80 = .ok (.getfield 9, 3) := by decide +kernel
theorem dX10_chooseOf_83 : decode cX10_chooseOf 83 = .ok (.iconst 3, 1) := by decide +kernel
theorem dX10_chooseOf_84 : decode cX10_chooseOf 84 = .ok (.iaload, 1) := by decide +kernel
theorem dX10_chooseOf_85 : decode cX10_chooseOf 85 = .ok (.if_icmp .ge 45, 3) := by decide +kernel
theorem dX10_chooseOf_88 : decode cX10_chooseOf 88 = .ok (.iload_n 3, 1) := by decide +kernel
theorem dX10_chooseOf_89 : decode cX10_chooseOf 89 = .ok (.iload 4, 2) := by decide +kernel
theorem dX10_chooseOf_91 : decode cX10_chooseOf 91 = .ok (.ior, 1) := by decide +kernel
theorem dX10_chooseOf_92 : decode cX10_chooseOf 92 = .ok (.iload 7, 2) := by decide +kernel
theorem dX10_chooseOf_94 : decode cX10_chooseOf 94 = .ok (.invokestatic 193, 3) := by decide +kernel
theorem dX10_chooseOf_97 : decode cX10_chooseOf 97 = .ok (.iconst 1, 1) := by decide +kernel
theorem dX10_chooseOf_98 : decode cX10_chooseOf 98 = .ok (.if_icmp .ne 26, 3) := by decide +kernel
theorem dX10_chooseOf_101 : decode cX10_chooseOf 101 = .ok (.aload_n 0, 1) := by decide +kernel
theorem dX10_chooseOf_102 : decode cX10_chooseOf 102 = .ok (.getfield 40, 3) := by decide +kernel
theorem dX10_chooseOf_105 : decode cX10_chooseOf 105 = .ok (.iload 7, 2) := by decide +kernel
theorem dX10_chooseOf_107 : decode cX10_chooseOf 107 = .ok (.iload 6, 2) := by decide +kernel
theorem dX10_chooseOf_109 : decode cX10_chooseOf 109 = .ok (.iload 7, 2) := by decide +kernel
theorem dX10_chooseOf_111 : decode cX10_chooseOf 111 = .ok (.invokestatic 193, 3) := by decide +kernel
theorem dX10_chooseOf_114 : decode cX10_chooseOf 114 = .ok (.iconst 1, 1) := by decide +kernel
theorem dX10_chooseOf_115 : decode cX10_chooseOf 115 = .ok (.if_icmp .ne 7, 3) := by decide +kernel
theorem dX10_chooseOf_118 : decode cX10_chooseOf 118 = .ok (.iload_n 1, 1) := by decide +kernel
theorem dX10_chooseOf_119 : decode cX10_chooseOf 119 = .ok (.goto 4, 3) := by decide +kernel
theorem dX10_chooseOf_122 : decode cX10_chooseOf 122 = .ok (.iconst (-1), 1) := by decide +kernel
theorem dX10_chooseOf_123 : decode cX10_chooseOf 123 = .ok (.iastore, 1) := by decide +kernel
theorem dX10_chooseOf_124 : decode cX10_chooseOf 124 = .ok (.iinc 7 1, 3) := by decide +kernel
theorem dX10_chooseOf_127 : decode cX10_chooseOf 127 = .ok (.goto (-50), 3) := by decide +kernel
theorem dX10_chooseOf_130 : decode cX10_chooseOf 130 = .ok (.aload_n 0, 1) := by decide +kernel
theorem dX10_chooseOf_131 : decode cX10_chooseOf 131 = .ok (.iload_n 1, 1) := by decide +kernel
theorem dX10_chooseOf_132 : decode cX10_chooseOf 132 = .ok (.iload_n 2, 1) := by decide +kernel
theorem dX10_chooseOf_133 : decode cX10_chooseOf 133 = .ok (.invokevirtual 338, 3) := by decide +kernel
theorem dX10_chooseOf_136 : decode cX10_chooseOf 136 = .ok (.istore 7, 2) := by decide +kernel
theorem dX10_chooseOf_138 : decode cX10_chooseOf 138 = .ok (.iload 7, 2) := by decide +kernel
theorem dX10_chooseOf_140 : decode cX10_chooseOf 140 = .ok (.iload 5, 2) := by decide +kernel
theorem dX10_chooseOf_142 : decode cX10_chooseOf 142 = .ok (.if_icmp .lt 6, 3) := by decide +kernel
theorem dX10_chooseOf_145 : decode cX10_chooseOf 145 = .ok (.goto 13, 3) := by decide +kernel
theorem dX10_chooseOf_148 : decode cX10_chooseOf 148 = .ok (.iload 7, 2) := by decide +kernel
theorem dX10_chooseOf_150 : decode cX10_chooseOf 150 = .ok (.istore 5, 2) := by decide +kernel
theorem dX10_chooseOf_152 : decode cX10_chooseOf 152 = .ok (.aload_n 0, 1) := by decide +kernel
theorem dX10_chooseOf_153 : decode cX10_chooseOf 153 = .ok (.iload 6, 2) := by decide +kernel
theorem dX10_chooseOf_155 : decode cX10_chooseOf 155 = .ok (.putfield 341, 3) := by decide +kernel
theorem dX10_chooseOf_158 : decode cX10_chooseOf 158 = .ok (.iinc 6 1, 3) := by decide +kernel
theorem dX10_chooseOf_161 : decode cX10_chooseOf 161 = .ok (.goto (-131), 3) := by decide +kernel
theorem dX10_chooseOf_164 : decode cX10_chooseOf 164 = .ok (.iload 5, 2) := by decide +kernel
theorem dX10_chooseOf_166 : decode cX10_chooseOf 166 = .ok (.ireturn, 1) := by decide +kernel
theorem dX10_chosen_0 : decode cX10_chosen 0 = .ok (.aload_n 0, 1) := by decide +kernel
theorem dX10_chosen_1 : decode cX10_chosen 1 = .ok (.iload_n 1, 1) := by decide +kernel
theorem dX10_chosen_2 : decode cX10_chosen 2 = .ok (.invokevirtual 279, 3) := by decide +kernel
theorem dX10_chosen_5 : decode cX10_chosen 5 = .ok (.ifCond .eq 12, 3) := by decide +kernel
theorem dX10_chosen_8 : decode cX10_chosen 8 = .ok (.aload_n 0, 1) := by decide +kernel
theorem dX10_chosen_9 : decode cX10_chosen 9 = .ok (.iload_n 2, 1) := by decide +kernel
theorem dX10_chosen_10 : decode cX10_chosen 10 = .ok (.i2l, 1) := by decide +kernel
theorem dX10_chosen_11 : decode cX10_chosen 11 = .ok (.invokevirtual 282, 3) := by decide +kernel
theorem dX10_chosen_14 : decode cX10_chosen 14 = .ok (.ifCond .ne 6, 3) := by decide +kernel
theorem dX10_chosen_17 : decode cX10_chosen 17 = .ok (.bipush (-2), 2) := by decide +kernel
theorem dX10_chosen_19 : decode cX10_chosen 19 = .ok (.ireturn, 1) := by decide +kernel
theorem dX10_chosen_20 : decode cX10_chosen 20 = .ok (.aload_n 0, 1) := by decide +kernel
theorem dX10_chosen_21 : decode cX10_chosen 21 = .ok (.iload_n 1, 1) := by decide +kernel
theorem dX10_chosen_22 : decode cX10_chosen 22 = .ok (.iload_n 2, 1) := by decide +kernel
theorem dX10_chosen_23 : decode cX10_chosen 23 = .ok (.invokevirtual 344, 3) := by decide +kernel
theorem dX10_chosen_26 : decode cX10_chosen 26 = .ok (.pop, 1) := by decide +kernel
theorem dX10_chosen_27 : decode cX10_chosen 27 = .ok (.aload_n 0, 1) := by decide +kernel
theorem dX10_chosen_28 : decode cX10_chosen 28 = .ok (.getfield 341, 3) := by decide +kernel
theorem dX10_chosen_31 : decode cX10_chosen 31 = .ok (.ireturn, 1) := by decide +kernel
theorem dX10_circle_0 : decode cX10_circle 0 = .ok (.aload_n 0, 1) := by decide +kernel
theorem dX10_circle_1 : decode cX10_circle 1 = .ok (.iload_n 1, 1) := by decide +kernel
theorem dX10_circle_2 : decode cX10_circle 2 = .ok (.invokevirtual 279, 3) := by decide +kernel
theorem dX10_circle_5 : decode cX10_circle 5 = .ok (.ifCond .ne 6, 3) := by decide +kernel
theorem dX10_circle_8 : decode cX10_circle 8 = .ok (.bipush (-2), 2) := by decide +kernel
theorem dX10_circle_10 : decode cX10_circle 10 = .ok (.ireturn, 1) := by decide +kernel
theorem dX10_circle_11 : decode cX10_circle 11 = .ok (.aload_n 0, 1) := by decide +kernel
theorem dX10_circle_12 : decode cX10_circle 12 = .ok (.iload_n 1, 1) := by decide +kernel
theorem dX10_circle_13 : decode cX10_circle 13 = .ok (.invokevirtual 349, 3) := by decide +kernel
theorem dX10_circle_16 : decode cX10_circle 16 = .ok (.aload_n 0, 1) := by decide +kernel
theorem dX10_circle_17 : decode cX10_circle 17 = .ok (.aload_n 0, 1) := by decide +kernel
theorem dX10_circle_18 : decode cX10_circle 18 = .ok (.getfield 61, 3) := by decide +kernel
theorem dX10_circle_21 : decode cX10_circle 21 = .ok (.iconst 0, 1) := by decide +kernel
theorem dX10_circle_22 : decode cX10_circle 22 = .ok (.iaload, 1) := by decide +kernel
theorem dX10_circle_23 : decode cX10_circle 23 = .ok (.invokevirtual 285, 3) := by decide +kernel
theorem dX10_circle_26 : decode cX10_circle 26 = .ok (.ifCond .ne 5, 3) := by decide +kernel
theorem dX10_circle_29 : decode cX10_circle 29 = .ok (.iconst (-1), 1) := by decide +kernel
theorem dX10_circle_30 : decode cX10_circle 30 = .ok (.ireturn, 1) := by decide +kernel
theorem dX10_circle_31 : decode cX10_circle 31 = .ok (.iconst 1, 1) := by decide +kernel
theorem dX10_circle_32 : decode cX10_circle 32 = .ok (.aload_n 0, 1) := by decide +kernel
theorem dX10_circle_33 : decode cX10_circle 33 = .ok (.getfield 61, 3) := by decide +kernel
theorem dX10_circle_36 : decode cX10_circle 36 = .ok (.iconst 0, 1) := by decide +kernel
theorem dX10_circle_37 : decode cX10_circle 37 = .ok (.iaload, 1) := by decide +kernel
theorem dX10_circle_38 : decode cX10_circle 38 = .ok (.ishl, 1) := by decide +kernel
theorem dX10_circle_39 : decode cX10_circle 39 = .ok (.istore_n 2, 1) := by decide +kernel
theorem dX10_circle_40 : decode cX10_circle 40 = .ok (.iconst 1, 1) := by decide +kernel
theorem dX10_circle_41 : decode cX10_circle 41 = .ok (.istore_n 3, 1) := by decide +kernel
theorem dX10_circle_42 : decode cX10_circle 42 = .ok (.iload_n 2, 1) := by decide +kernel
theorem dX10_circle_43 : decode cX10_circle 43 = .ok (.aload_n 0, 1) := by decide +kernel
theorem dX10_circle_44 : decode cX10_circle 44 = .ok (.getfield 61, 3) := by decide +kernel
theorem dX10_circle_47 : decode cX10_circle 47 = .ok (.iload_n 3, 1) := by decide +kernel
theorem dX10_circle_48 : decode cX10_circle 48 = .ok (.iaload, 1) := by decide +kernel
theorem dX10_circle_49 : decode cX10_circle 49 = .ok (.invokestatic 193, 3) := by decide +kernel
theorem dX10_circle_52 : decode cX10_circle 52 = .ok (.ifCond .ne 20, 3) := by decide +kernel
theorem dX10_circle_55 : decode cX10_circle 55 = .ok (.iload_n 2, 1) := by decide +kernel
theorem dX10_circle_56 : decode cX10_circle 56 = .ok (.iconst 1, 1) := by decide +kernel
theorem dX10_circle_57 : decode cX10_circle 57 = .ok (.aload_n 0, 1) := by decide +kernel
theorem dX10_circle_58 : decode cX10_circle 58 = .ok (.getfield 61, 3) := by decide +kernel
theorem dX10_circle_61 : decode cX10_circle 61 = .ok (.iload_n 3, 1) := by decide +kernel
theorem dX10_circle_62 : decode cX10_circle 62 = .ok (.iaload, 1) := by decide +kernel
theorem dX10_circle_63 : decode cX10_circle 63 = .ok (.ishl, 1) := by decide +kernel
theorem dX10_circle_64 : decode cX10_circle 64 = .ok (.ior, 1) := by decide +kernel
theorem dX10_circle_65 : decode cX10_circle 65 = .ok (.istore_n 2, 1) := by decide +kernel
theorem dX10_circle_66 : decode cX10_circle 66 = .ok (.iinc 3 1, 3) := by decide +kernel
theorem dX10_circle_69 : decode cX10_circle 69 = .ok (.goto (-27), 3) := by decide +kernel
theorem dX10_circle_72 : decode cX10_circle 72 = .ok (.iload_n 3, 1) := by decide +kernel
theorem dX10_circle_73 : decode cX10_circle 73 = .ok (.ireturn, 1) := by decide +kernel
theorem dX10_count_0 : decode cX10_count 0 = .ok (.iconst 0, 1) := by decide +kernel
theorem dX10_count_1 : decode cX10_count 1 = .ok (.istore_n 2, 1) := by decide +kernel
theorem dX10_count_2 : decode cX10_count 2 = .ok (.iload_n 1, 1) := by decide +kernel
theorem dX10_count_3 : decode cX10_count 3 = .ok (.tableswitch 149 0 9 #[53, 60, 67, 74, 81, 88, 95, 103, 108, 116], 53) := by decide +kernel
theorem dX10_count_56 : decode cX10_count 56 = .ok (.aload_n 0, 1) := by decide +kernel
theorem dX10_count_57 : decode cX10_count 57 = .ok (.getfield 9, 3) := by decide +kernel
theorem dX10_count_60 : decode cX10_count 60 = .ok (.iconst 0, 1) := by decide +kernel
theorem dX10_count_61 : decode cX10_count 61 = .ok (.iaload, 1) := by decide +kernel
theorem dX10_count_62 : decode cX10_count 62 = .ok (.ireturn, 1) := by decide +kernel
theorem dX10_count_63 : decode cX10_count 63 = .ok (.aload_n 0, 1) := by decide +kernel
theorem dX10_count_64 : decode cX10_count 64 = .ok (.getfield 9, 3) := by decide +kernel
theorem dX10_count_67 : decode cX10_count 67 = .ok (.iconst 2, 1) := by decide +kernel
theorem dX10_count_68 : decode cX10_count 68 = .ok (.iaload, 1) := by decide +kernel
theorem dX10_count_69 : decode cX10_count 69 = .ok (.ireturn, 1) := by decide +kernel
theorem dX10_count_70 : decode cX10_count 70 = .ok (.aload_n 0, 1) := by decide +kernel
theorem dX10_count_71 : decode cX10_count 71 = .ok (.getfield 9, 3) := by decide +kernel
theorem dX10_count_74 : decode cX10_count 74 = .ok (.iconst 3, 1) := by decide +kernel
theorem dX10_count_75 : decode cX10_count 75 = .ok (.iaload, 1) := by decide +kernel
theorem dX10_count_76 : decode cX10_count 76 = .ok (.ireturn, 1) := by decide +kernel
theorem dX10_count_77 : decode cX10_count 77 = .ok (.aload_n 0, 1) := by decide +kernel
theorem dX10_count_78 : decode cX10_count 78 = .ok (.getfield 9, 3) := by decide +kernel
theorem dX10_count_81 : decode cX10_count 81 = .ok (.iconst 4, 1) := by decide +kernel
theorem dX10_count_82 : decode cX10_count 82 = .ok (.iaload, 1) := by decide +kernel
theorem dX10_count_83 : decode cX10_count 83 = .ok (.ireturn, 1) := by decide +kernel
theorem dX10_count_84 : decode cX10_count 84 = .ok (.aload_n 0, 1) := by decide +kernel
theorem dX10_count_85 : decode cX10_count 85 = .ok (.getfield 9, 3) := by decide +kernel
theorem dX10_count_88 : decode cX10_count 88 = .ok (.iconst 5, 1) := by decide +kernel
theorem dX10_count_89 : decode cX10_count 89 = .ok (.iaload, 1) := by decide +kernel
theorem dX10_count_90 : decode cX10_count 90 = .ok (.ireturn, 1) := by decide +kernel
theorem dX10_count_91 : decode cX10_count 91 = .ok (.aload_n 0, 1) := by decide +kernel
theorem dX10_count_92 : decode cX10_count 92 = .ok (.getfield 9, 3) := by decide +kernel
theorem dX10_count_95 : decode cX10_count 95 = .ok (.iconst 1, 1) := by decide +kernel
theorem dX10_count_96 : decode cX10_count 96 = .ok (.iaload, 1) := by decide +kernel
theorem dX10_count_97 : decode cX10_count 97 = .ok (.ireturn, 1) := by decide +kernel
theorem dX10_count_98 : decode cX10_count 98 = .ok (.aload_n 0, 1) := by decide +kernel
theorem dX10_count_99 : decode cX10_count 99 = .ok (.getfield 9, 3) := by decide +kernel
theorem dX10_count_102 : decode cX10_count 102 = .ok (.bipush 6, 2) := by decide +kernel
theorem dX10_count_104 : decode cX10_count 104 = .ok (.iaload, 1) := by decide +kernel
theorem dX10_count_105 : decode cX10_count 105 = .ok (.ireturn, 1) := by decide +kernel
theorem dX10_count_106 : decode cX10_count 106 = .ok (.aload_n 0, 1) := by decide +kernel
theorem dX10_count_107 : decode cX10_count 107 = .ok (.getfield 97, 3) := by decide +kernel
theorem dX10_count_110 : decode cX10_count 110 = .ok (.ireturn, 1) := by decide +kernel
theorem dX10_count_111 : decode cX10_count 111 = .ok (.aload_n 0, 1) := by decide +kernel
theorem dX10_count_112 : decode cX10_count 112 = .ok (.getfield 9, 3) := by decide +kernel
theorem dX10_count_115 : decode cX10_count 115 = .ok (.bipush 7, 2) := by decide +kernel
theorem dX10_count_117 : decode cX10_count 117 = .ok (.iaload, 1) := by decide +kernel
theorem dX10_count_118 : decode cX10_count 118 = .ok (.ireturn, 1) := by decide +kernel
theorem dX10_count_119 : decode cX10_count 119 = .ok (.iconst 0, 1) := by decide +kernel
theorem dX10_count_120 : decode cX10_count 120 = .ok (.istore_n 3, 1) := by decide +kernel
theorem dX10_count_121 : decode cX10_count 121 = .ok (.iload_n 3, 1) := by decide +kernel
theorem dX10_count_122 : decode cX10_count 122 = .ok (.iconst 4, 1) := by decide +kernel
theorem dX10_count_123 : decode cX10_count 123 = .ok (.if_icmp .ge 27, 3) := by decide +kernel
theorem dX10_count_126 : decode cX10_count 126 = .ok (.iload_n 2, 1) := by decide +kernel
theorem dX10_count_127 : decode cX10_count 127 = .ok (.aload_n 0, 1) := by decide +kernel
theorem dX10_count_128 : decode cX10_count 128 = .ok (.getfield 67, 3) := by decide +kernel
theorem dX10_count_131 : decode cX10_count 131 = .ok (.iload_n 3, 1) := by decide +kernel
theorem dX10_count_132 : decode cX10_count 132 = .ok (.iaload, 1) := by decide +kernel
theorem dX10_count_133 : decode cX10_count 133 = .ok (.iconst (-1), 1) := by decide +kernel
theorem dX10_count_134 : decode cX10_count 134 = .ok (.if_icmp .ne 7, 3) := by decide +kernel
theorem dX10_count_137 : decode cX10_count 137 = .ok (.iconst 0, 1) := by decide +kernel
theorem dX10_count_138 : decode cX10_count 138 = .ok (.goto 4, 3) := by decide +kernel
theorem dX10_count_141 : decode cX10_count 141 = .ok (.iconst 1, 1) := by decide +kernel
theorem dX10_count_142 : decode cX10_count 142 = .ok (.iadd, 1) := by decide +kernel
theorem dX10_count_143 : decode cX10_count 143 = .ok (.istore_n 2, 1) := by decide +kernel
theorem dX10_count_144 : decode cX10_count 144 = .ok (.iinc 3 1, 3) := by decide +kernel
theorem dX10_count_147 : decode cX10_count 147 = .ok (.goto (-26), 3) := by decide +kernel
theorem dX10_count_150 : decode cX10_count 150 = .ok (.iload_n 2, 1) := by decide +kernel
theorem dX10_count_151 : decode cX10_count 151 = .ok (.ireturn, 1) := by decide +kernel
theorem dX10_count_152 : decode cX10_count 152 = .ok (.iconst (-1), 1) := by decide +kernel
theorem dX10_count_153 : decode cX10_count 153 = .ok (.ireturn, 1) := by decide +kernel
theorem dX10_cut_0 : decode cX10_cut 0 = .ok (.bipush 64, 2) := by decide +kernel
theorem dX10_cut_2 : decode cX10_cut 2 = .ok (.bipush 8, 2) := by decide +kernel
theorem dX10_cut_4 : decode cX10_cut 4 = .ok (.iload_n 2, 1) := by decide +kernel
theorem dX10_cut_5 : decode cX10_cut 5 = .ok (.ishl, 1) := by decide +kernel
theorem dX10_cut_6 : decode cX10_cut 6 = .ok (.isub, 1) := by decide +kernel
theorem dX10_cut_7 : decode cX10_cut 7 = .ok (.istore_n 3, 1) := by decide +kernel
theorem dX10_cut_8 : decode cX10_cut 8 = .ok (.lload_n 0, 1) := by decide +kernel
theorem dX10_cut_9 : decode cX10_cut 9 = .ok (.iload_n 3, 1) := by decide +kernel
theorem dX10_cut_10 : decode cX10_cut 10 = .ok (.lshl, 1) := by decide +kernel
theorem dX10_cut_11 : decode cX10_cut 11 = .ok (.iload_n 3, 1) := by decide +kernel
theorem dX10_cut_12 : decode cX10_cut 12 = .ok (.lshr, 1) := by decide +kernel
theorem dX10_cut_13 : decode cX10_cut 13 = .ok (.lreturn, 1) := by decide +kernel
theorem dX10_dearest_0 : decode cX10_dearest 0 = .ok (.aload_n 0, 1) := by decide +kernel
theorem dX10_dearest_1 : decode cX10_dearest 1 = .ok (.invokevirtual 297, 3) := by decide +kernel
theorem dX10_dearest_4 : decode cX10_dearest 4 = .ok (.ifCond .ne 6, 3) := by decide +kernel
theorem dX10_dearest_7 : decode cX10_dearest 7 = .ok (.bipush (-2), 2) := by decide +kernel
theorem dX10_dearest_9 : decode cX10_dearest 9 = .ok (.ireturn, 1) := by decide +kernel
theorem dX10_dearest_10 : decode cX10_dearest 10 = .ok (.aload_n 0, 1) := by decide +kernel
theorem dX10_dearest_11 : decode cX10_dearest 11 = .ok (.invokevirtual 273, 3) := by decide +kernel
theorem dX10_dearest_14 : decode cX10_dearest 14 = .ok (.iconst (-1), 1) := by decide +kernel
theorem dX10_dearest_15 : decode cX10_dearest 15 = .ok (.istore_n 1, 1) := by decide +kernel
theorem dX10_dearest_16 : decode cX10_dearest 16 = .ok (.iconst 0, 1) := by decide +kernel
theorem dX10_dearest_17 : decode cX10_dearest 17 = .ok (.istore_n 2, 1) := by decide +kernel
theorem dX10_dearest_18 : decode cX10_dearest 18 = .ok (.iload_n 2, 1) := by decide +kernel
theorem dX10_dearest_19 : decode cX10_dearest 19 = .ok (.aload_n 0, 1) := by decide +kernel
theorem dX10_dearest_20 : decode cX10_dearest 20 = .ok (.getfield 9, 3) := by decide +kernel
theorem dX10_dearest_23 : decode cX10_dearest 23 = .ok (.iconst 2, 1) := by decide +kernel
theorem dX10_dearest_24 : decode cX10_dearest 24 = .ok (.iaload, 1) := by decide +kernel
theorem dX10_dearest_25 : decode cX10_dearest 25 = .ok (.if_icmp .ge 33, 3) := by decide +kernel
theorem dX10_dearest_28 : decode cX10_dearest 28 = .ok (.iload_n 1, 1) := by decide +kernel
theorem dX10_dearest_29 : decode cX10_dearest 29 = .ok (.iconst (-1), 1) := by decide +kernel
theorem dX10_dearest_30 : decode cX10_dearest 30 = .ok (.if_icmp .eq 16, 3) := by decide +kernel
theorem dX10_dearest_33 : decode cX10_dearest 33 = .ok (.aload_n 0, 1) := by decide +kernel
theorem dX10_dearest_34 : decode cX10_dearest 34 = .ok (.iload_n 2, 1) := by decide +kernel
theorem dX10_dearest_35 : decode cX10_dearest 35 = .ok (.invokevirtual 379, 3) := by decide +kernel
theorem dX10_dearest_38 : decode cX10_dearest 38 = .ok (.aload_n 0, 1) := by decide +kernel
theorem dX10_dearest_39 : decode cX10_dearest 39 = .ok (.iload_n 1, 1) := by decide +kernel
theorem dX10_dearest_40 : decode cX10_dearest 40 = .ok (.invokevirtual 379, 3) := by decide +kernel
theorem dX10_dearest_43 : decode cX10_dearest 43 = .ok (.if_icmp .le 7, 3) := by decide +kernel
theorem dX10_dearest_46 : decode cX10_dearest 46 = .ok (.iload_n 2, 1) := by decide +kernel
theorem dX10_dearest_47 : decode cX10_dearest 47 = .ok (.goto 4, 3) := by decide +kernel
theorem dX10_dearest_50 : decode cX10_dearest 50 = .ok (.iload_n 1, 1) := by decide +kernel
theorem dX10_dearest_51 : decode cX10_dearest 51 = .ok (.istore_n 1, 1) := by decide +kernel
theorem dX10_dearest_52 : decode cX10_dearest 52 = .ok (.iinc 2 1, 3) := by decide +kernel
theorem dX10_dearest_55 : decode cX10_dearest 55 = .ok (.goto (-37), 3) := by decide +kernel
theorem dX10_dearest_58 : decode cX10_dearest 58 = .ok (.iload_n 1, 1) := by decide +kernel
theorem dX10_dearest_59 : decode cX10_dearest 59 = .ok (.ireturn, 1) := by decide +kernel
theorem dX10_drawn_0 : decode cX10_drawn 0 = .ok (.aload_n 0, 1) := by decide +kernel
theorem dX10_drawn_1 : decode cX10_drawn 1 = .ok (.iload_n 1, 1) := by decide +kernel
theorem dX10_drawn_2 : decode cX10_drawn 2 = .ok (.iload_n 2, 1) := by decide +kernel
theorem dX10_drawn_3 : decode cX10_drawn 3 = .ok (.iload_n 3, 1) := by decide +kernel
theorem dX10_drawn_4 : decode cX10_drawn 4 = .ok (.invokevirtual 424, 3) := by decide +kernel
theorem dX10_drawn_7 : decode cX10_drawn 7 = .ok (.ifCond .eq 16, 3) := by decide +kernel
theorem dX10_drawn_10 : decode cX10_drawn 10 = .ok (.iload 4, 2) := by decide +kernel
theorem dX10_drawn_12 : decode cX10_drawn 12 = .ok (.i2l, 1) := by decide +kernel
theorem dX10_drawn_13 : decode cX10_drawn 13 = .ok (.lconst 0, 1) := by decide +kernel
theorem dX10_drawn_14 : decode cX10_drawn 14 = .ok (.ldc2_w 83, 3) := by decide +kernel
theorem dX10_drawn_17 : decode cX10_drawn 17 = .ok (.invokestatic 85, 3) := by decide +kernel
theorem dX10_drawn_20 : decode cX10_drawn 20 = .ok (.ifCond .ne 6, 3) := by decide +kernel
theorem dX10_drawn_23 : decode cX10_drawn 23 = .ok (.bipush (-2), 2) := by decide +kernel
theorem dX10_drawn_25 : decode cX10_drawn 25 = .ok (.ireturn, 1) := by decide +kernel
theorem dX10_drawn_26 : decode cX10_drawn 26 = .ok (.aload_n 0, 1) := by decide +kernel
theorem dX10_drawn_27 : decode cX10_drawn 27 = .ok (.iload_n 1, 1) := by decide +kernel
theorem dX10_drawn_28 : decode cX10_drawn 28 = .ok (.i2l, 1) := by decide +kernel
theorem dX10_drawn_29 : decode cX10_drawn 29 = .ok (.iload_n 2, 1) := by decide +kernel
theorem dX10_drawn_30 : decode cX10_drawn 30 = .ok (.iload_n 3, 1) := by decide +kernel
theorem dX10_drawn_31 : decode cX10_drawn 31 = .ok (.invokevirtual 428, 3) := by decide +kernel
theorem dX10_drawn_34 : decode cX10_drawn 34 = .ok (.iload 4, 2) := by decide +kernel
theorem dX10_drawn_36 : decode cX10_drawn 36 = .ok (.ifCond .ne 12, 3) := by decide +kernel
theorem dX10_drawn_39 : decode cX10_drawn 39 = .ok (.aload_n 0, 1) := by decide +kernel
theorem dX10_drawn_40 : decode cX10_drawn 40 = .ok (.getfield 43, 3) := by decide +kernel
theorem dX10_drawn_43 : decode cX10_drawn 43 = .ok (.iload_n 2, 1) := by decide +kernel
theorem dX10_drawn_44 : decode cX10_drawn 44 = .ok (.iaload, 1) := by decide +kernel
theorem dX10_drawn_45 : decode cX10_drawn 45 = .ok (.goto 22, 3) := by decide +kernel
theorem dX10_drawn_48 : decode cX10_drawn 48 = .ok (.iload 4, 2) := by decide +kernel
theorem dX10_drawn_50 : decode cX10_drawn 50 = .ok (.iconst 1, 1) := by decide +kernel
theorem dX10_drawn_51 : decode cX10_drawn 51 = .ok (.if_icmp .ne 12, 3) := by decide +kernel
theorem dX10_drawn_54 : decode cX10_drawn 54 = .ok (.aload_n 0, 1) := by decide +kernel
theorem dX10_drawn_55 : decode cX10_drawn 55 = .ok (.getfield 46, 3) := by decide +kernel
theorem dX10_drawn_58 : decode cX10_drawn 58 = .ok (.iload_n 2, 1) := by decide +kernel
theorem dX10_drawn_59 : decode cX10_drawn 59 = .ok (.iaload, 1) := by decide +kernel
theorem dX10_drawn_60 : decode cX10_drawn 60 = .ok (.goto 7, 3) := by decide +kernel
theorem dX10_drawn_63 : decode cX10_drawn 63 = .ok (.aload_n 0, 1) := by decide +kernel
theorem dX10_drawn_64 : decode cX10_drawn 64 = .ok (.getfield 408, 3) := by decide +kernel
theorem dX10_drawn_67 : decode cX10_drawn 67 = .ok (.ireturn, 1) := by decide +kernel
theorem dX10_drive_0 : decode cX10_drive 0 = .ok (.aload_n 0, 1) := by decide +kernel
theorem dX10_drive_1 : decode cX10_drive 1 = .ok (.iload_n 1, 1) := by decide +kernel
theorem dX10_drive_2 : decode cX10_drive 2 = .ok (.iload_n 2, 1) := by decide +kernel
theorem dX10_drive_3 : decode cX10_drive 3 = .ok (.i2l, 1) := by decide +kernel
theorem dX10_drive_4 : decode cX10_drive 4 = .ok (.invokevirtual 290, 3) := by decide +kernel
theorem dX10_drive_7 : decode cX10_drive 7 = .ok (.ifCond .ne 6, 3) := by decide +kernel
theorem dX10_drive_10 : decode cX10_drive 10 = .ok (.bipush (-2), 2) := by decide +kernel
theorem dX10_drive_12 : decode cX10_drive 12 = .ok (.ireturn, 1) := by decide +kernel
theorem dX10_drive_13 : decode cX10_drive 13 = .ok (.aload_n 0, 1) := by decide +kernel
theorem dX10_drive_14 : decode cX10_drive 14 = .ok (.aload_n 0, 1) := by decide +kernel
theorem dX10_drive_15 : decode cX10_drive 15 = .ok (.getfield 43, 3) := by decide +kernel
theorem dX10_drive_18 : decode cX10_drive 18 = .ok (.iload_n 1, 1) := by decide +kernel
theorem dX10_drive_19 : decode cX10_drive 19 = .ok (.iaload, 1) := by decide +kernel
theorem dX10_drive_20 : decode cX10_drive 20 = .ok (.invokevirtual 285, 3) := by decide +kernel
theorem dX10_drive_23 : decode cX10_drive 23 = .ok (.ifCond .eq 15, 3) := by decide +kernel
theorem dX10_drive_26 : decode cX10_drive 26 = .ok (.aload_n 0, 1) := by decide +kernel
theorem dX10_drive_27 : decode cX10_drive 27 = .ok (.getfield 9, 3) := by decide +kernel
theorem dX10_drive_30 : decode cX10_drive 30 = .ok (.bipush 7, 2) := by decide +kernel
theorem dX10_drive_32 : decode cX10_drive 32 = .ok (.iaload, 1) := by decide +kernel
theorem dX10_drive_33 : decode cX10_drive 33 = .ok (.bipush 40, 2) := by decide +kernel
theorem dX10_drive_35 : decode cX10_drive 35 = .ok (.if_icmp .ne 6, 3) := by decide +kernel
theorem dX10_drive_38 : decode cX10_drive 38 = .ok (.bipush (-5), 2) := by decide +kernel
theorem dX10_drive_40 : decode cX10_drive 40 = .ok (.ireturn, 1) := by decide +kernel
theorem dX10_drive_41 : decode cX10_drive 41 = .ok (.aload_n 0, 1) := by decide +kernel
theorem dX10_drive_42 : decode cX10_drive 42 = .ok (.bipush 100, 2) := by decide +kernel
theorem dX10_drive_44 : decode cX10_drive 44 = .ok (.bipush 10, 2) := by decide +kernel
theorem dX10_drive_46 : decode cX10_drive 46 = .ok (.iload_n 1, 1) := by decide +kernel
theorem dX10_drive_47 : decode cX10_drive 47 = .ok (.imul, 1) := by decide +kernel
theorem dX10_drive_48 : decode cX10_drive 48 = .ok (.iadd, 1) := by decide +kernel
theorem dX10_drive_49 : decode cX10_drive 49 = .ok (.iload_n 2, 1) := by decide +kernel
theorem dX10_drive_50 : decode cX10_drive 50 = .ok (.iadd, 1) := by decide +kernel
theorem dX10_drive_51 : decode cX10_drive 51 = .ok (.iconst 1, 1) := by decide +kernel
theorem dX10_drive_52 : decode cX10_drive 52 = .ok (.iadd, 1) := by decide +kernel
theorem dX10_drive_53 : decode cX10_drive 53 = .ok (.invokevirtual 294, 3) := by decide +kernel
theorem dX10_drive_56 : decode cX10_drive 56 = .ok (.aload_n 0, 1) := by decide +kernel
theorem dX10_drive_57 : decode cX10_drive 57 = .ok (.iload_n 1, 1) := by decide +kernel
theorem dX10_drive_58 : decode cX10_drive 58 = .ok (.iload_n 2, 1) := by decide +kernel
theorem dX10_drive_59 : decode cX10_drive 59 = .ok (.invokevirtual 233, 3) := by decide +kernel
theorem dX10_drive_62 : decode cX10_drive 62 = .ok (.pop, 1) := by decide +kernel
theorem dX10_drive_63 : decode cX10_drive 63 = .ok (.aload_n 0, 1) := by decide +kernel
theorem dX10_drive_64 : decode cX10_drive 64 = .ok (.getfield 43, 3) := by decide +kernel
theorem dX10_drive_67 : decode cX10_drive 67 = .ok (.iload_n 1, 1) := by decide +kernel
theorem dX10_drive_68 : decode cX10_drive 68 = .ok (.iaload, 1) := by decide +kernel
theorem dX10_drive_69 : decode cX10_drive 69 = .ok (.ireturn, 1) := by decide +kernel
theorem dX10_driveBy_0 : decode cX10_driveBy 0 = .ok (.aload_n 0, 1) := by decide +kernel
theorem dX10_driveBy_1 : decode cX10_driveBy 1 = .ok (.iload_n 1, 1) := by decide +kernel
theorem dX10_driveBy_2 : decode cX10_driveBy 2 = .ok (.iload_n 2, 1) := by decide +kernel
theorem dX10_driveBy_3 : decode cX10_driveBy 3 = .ok (.invokevirtual 256, 3) := by decide +kernel
theorem dX10_driveBy_6 : decode cX10_driveBy 6 = .ok (.istore_n 3, 1) := by decide +kernel
theorem dX10_driveBy_7 : decode cX10_driveBy 7 = .ok (.iload_n 3, 1) := by decide +kernel
theorem dX10_driveBy_8 : decode cX10_driveBy 8 = .ok (.iconst (-1), 1) := by decide +kernel
theorem dX10_driveBy_9 : decode cX10_driveBy 9 = .ok (.if_icmp .ne 5, 3) := by decide +kernel
theorem dX10_driveBy_12 : decode cX10_driveBy 12 = .ok (.iconst (-1), 1) := by decide +kernel
theorem dX10_driveBy_13 : decode cX10_driveBy 13 = .ok (.ireturn, 1) := by decide +kernel
theorem dX10_driveBy_14 : decode cX10_driveBy 14 = .ok (.iconst 0, 1) := by decide +kernel
theorem dX10_driveBy_15 : decode cX10_driveBy 15 = .ok (.istore 4, 2) := by decide +kernel
theorem dX10_driveBy_17 : decode cX10_driveBy 17 = .ok (.iload 4, 2) := by decide +kernel
theorem dX10_driveBy_19 : decode cX10_driveBy 19 = .ok (.aload_n 0, 1) := by decide +kernel
theorem dX10_driveBy_20 : decode cX10_driveBy 20 = .ok (.getfield 9, 3) := by decide +kernel
theorem dX10_driveBy_23 : decode cX10_driveBy 23 = .ok (.iconst 3, 1) := by decide +kernel
theorem dX10_driveBy_24 : decode cX10_driveBy 24 = .ok (.iaload, 1) := by decide +kernel
theorem dX10_driveBy_25 : decode cX10_driveBy 25 = .ok (.if_icmp .ge 27, 3) := by decide +kernel
theorem dX10_driveBy_28 : decode cX10_driveBy 28 = .ok (.aload_n 0, 1) := by decide +kernel
theorem dX10_driveBy_29 : decode cX10_driveBy 29 = .ok (.getfield 40, 3) := by decide +kernel
theorem dX10_driveBy_32 : decode cX10_driveBy 32 = .ok (.iload 4, 2) := by decide +kernel
theorem dX10_driveBy_34 : decode cX10_driveBy 34 = .ok (.iaload, 1) := by decide +kernel
theorem dX10_driveBy_35 : decode cX10_driveBy 35 = .ok (.iload_n 1, 1) := by decide +kernel
theorem dX10_driveBy_36 : decode cX10_driveBy 36 = .ok (.if_icmp .ne 10, 3) := by decide +kernel
theorem dX10_driveBy_39 : decode cX10_driveBy 39 = .ok (.aload_n 0, 1) := by decide +kernel
theorem dX10_driveBy_40 : decode cX10_driveBy 40 = .ok (.iload 4, 2) := by decide +kernel
theorem dX10_driveBy_42 : decode cX10_driveBy 42 = .ok (.iload_n 3, 1) := by decide +kernel
theorem dX10_driveBy_43 : decode cX10_driveBy 43 = .ok (.invokevirtual 259, 3) := by decide +kernel
theorem dX10_driveBy_46 : decode cX10_driveBy 46 = .ok (.iinc 4 1, 3) := by decide +kernel
theorem dX10_driveBy_49 : decode cX10_driveBy 49 = .ok (.goto (-32), 3) := by decide +kernel
theorem dX10_driveBy_52 : decode cX10_driveBy 52 = .ok (.aload_n 0, 1) := by decide +kernel
theorem dX10_driveBy_53 : decode cX10_driveBy 53 = .ok (.getfield 43, 3) := by decide +kernel
theorem dX10_driveBy_56 : decode cX10_driveBy 56 = .ok (.iload_n 1, 1) := by decide +kernel
theorem dX10_driveBy_57 : decode cX10_driveBy 57 = .ok (.aload_n 0, 1) := by decide +kernel
theorem dX10_driveBy_58 : decode cX10_driveBy 58 = .ok (.iload_n 3, 1) := by decide +kernel
theorem dX10_driveBy_59 : decode cX10_driveBy 59 = .ok (.aload_n 0, 1) := by decide +kernel
theorem dX10_driveBy_60 : decode cX10_driveBy 60 = .ok (.getfield 43, 3) := by decide +kernel
theorem dX10_driveBy_63 : decode cX10_driveBy 63 = .ok (.iload_n 1, 1) := by decide +kernel
theorem dX10_driveBy_64 : decode cX10_driveBy 64 = .ok (.iaload, 1) := by decide +kernel
theorem dX10_driveBy_65 : decode cX10_driveBy 65 = .ok (.invokevirtual 262, 3) := by decide +kernel
theorem dX10_driveBy_68 : decode cX10_driveBy 68 = .ok (.iastore, 1) := by decide +kernel
theorem dX10_driveBy_69 : decode cX10_driveBy 69 = .ok (.aload_n 0, 1) := by decide +kernel
theorem dX10_driveBy_70 : decode cX10_driveBy 70 = .ok (.getfield 46, 3) := by decide +kernel
theorem dX10_driveBy_73 : decode cX10_driveBy 73 = .ok (.iload_n 1, 1) := by decide +kernel
theorem dX10_driveBy_74 : decode cX10_driveBy 74 = .ok (.dup2, 1) := by decide +kernel
theorem dX10_driveBy_75 : decode cX10_driveBy 75 = .ok (.iaload, 1) := by decide +kernel
theorem dX10_driveBy_76 : decode cX10_driveBy 76 = .ok (.aload_n 0, 1) := by decide +kernel
theorem dX10_driveBy_77 : decode cX10_driveBy 77 = .ok (.iload_n 3, 1) := by decide +kernel
theorem dX10_driveBy_78 : decode cX10_driveBy 78 = .ok (.invokevirtual 253, 3) := by decide +kernel
theorem dX10_driveBy_81 : decode cX10_driveBy 81 = .ok (.iadd, 1) := by decide +kernel
theorem dX10_driveBy_82 : decode cX10_driveBy 82 = .ok (.iastore, 1) := by decide +kernel
theorem dX10_driveBy_83 : decode cX10_driveBy 83 = .ok (.iload_n 3, 1) := by decide +kernel
theorem dX10_driveBy_84 : decode cX10_driveBy 84 = .ok (.ireturn, 1) := by decide +kernel
theorem dX10_dues_0 : decode cX10_dues 0 = .ok (.aload_n 0, 1) := by decide +kernel
theorem dX10_dues_1 : decode cX10_dues 1 = .ok (.invokevirtual 297, 3) := by decide +kernel
theorem dX10_dues_4 : decode cX10_dues 4 = .ok (.ifCond .ne 6, 3) := by decide +kernel
theorem dX10_dues_7 : decode cX10_dues 7 = .ok (.bipush (-2), 2) := by decide +kernel
theorem dX10_dues_9 : decode cX10_dues 9 = .ok (.ireturn, 1) := by decide +kernel
theorem dX10_dues_10 : decode cX10_dues 10 = .ok (.iconst 0, 1) := by decide +kernel
theorem dX10_dues_11 : decode cX10_dues 11 = .ok (.istore_n 1, 1) := by decide +kernel
theorem dX10_dues_12 : decode cX10_dues 12 = .ok (.iconst 0, 1) := by decide +kernel
theorem dX10_dues_13 : decode cX10_dues 13 = .ok (.istore_n 2, 1) := by decide +kernel
theorem dX10_dues_14 : decode cX10_dues 14 = .ok (.iload_n 2, 1) := by decide +kernel
theorem dX10_dues_15 : decode cX10_dues 15 = .ok (.aload_n 0, 1) := by decide +kernel
theorem dX10_dues_16 : decode cX10_dues 16 = .ok (.getfield 9, 3) := by decide +kernel
theorem dX10_dues_19 : decode cX10_dues 19 = .ok (.iconst 5, 1) := by decide +kernel
theorem dX10_dues_20 : decode cX10_dues 20 = .ok (.iaload, 1) := by decide +kernel
theorem dX10_dues_21 : decode cX10_dues 21 = .ok (.if_icmp .ge 67, 3) := by decide +kernel
theorem dX10_dues_24 : decode cX10_dues 24 = .ok (.aload_n 0, 1) := by decide +kernel
theorem dX10_dues_25 : decode cX10_dues 25 = .ok (.invokevirtual 273, 3) := by decide +kernel
theorem dX10_dues_28 : decode cX10_dues 28 = .ok (.iload_n 1, 1) := by decide +kernel
theorem dX10_dues_29 : decode cX10_dues 29 = .ok (.aload_n 0, 1) := by decide +kernel
theorem dX10_dues_30 : decode cX10_dues 30 = .ok (.aload_n 0, 1) := by decide +kernel
theorem dX10_dues_31 : decode cX10_dues 31 = .ok (.getfield 9, 3) := by decide +kernel
theorem dX10_dues_34 : decode cX10_dues 34 = .ok (.bipush 110, 2) := by decide +kernel
theorem dX10_dues_36 : decode cX10_dues 36 = .ok (.iconst 3, 1) := by decide +kernel
theorem dX10_dues_37 : decode cX10_dues 37 = .ok (.iload_n 2, 1) := by decide +kernel
theorem dX10_dues_38 : decode cX10_dues 38 = .ok (.imul, 1) := by decide +kernel
theorem dX10_dues_39 : decode cX10_dues 39 = .ok (.iadd, 1) := by decide +kernel
theorem dX10_dues_40 : decode cX10_dues 40 = .ok (.iaload, 1) := by decide +kernel
theorem dX10_dues_41 : decode cX10_dues 41 = .ok (.aload_n 0, 1) := by decide +kernel
theorem dX10_dues_42 : decode cX10_dues 42 = .ok (.getfield 9, 3) := by decide +kernel
theorem dX10_dues_45 : decode cX10_dues 45 = .ok (.bipush 110, 2) := by decide +kernel
theorem dX10_dues_47 : decode cX10_dues 47 = .ok (.iconst 3, 1) := by decide +kernel
theorem dX10_dues_48 : decode cX10_dues 48 = .ok (.iload_n 2, 1) := by decide +kernel
theorem dX10_dues_49 : decode cX10_dues 49 = .ok (.imul, 1) := by decide +kernel
theorem dX10_dues_50 : decode cX10_dues 50 = .ok (.iadd, 1) := by decide +kernel
theorem dX10_dues_51 : decode cX10_dues 51 = .ok (.iconst 1, 1) := by decide +kernel
theorem dX10_dues_52 : decode cX10_dues 52 = .ok (.iadd, 1) := by decide +kernel
theorem dX10_dues_53 : decode cX10_dues 53 = .ok (.iaload, 1) := by decide +kernel
theorem dX10_dues_54 : decode cX10_dues 54 = .ok (.invokevirtual 338, 3) := by decide +kernel
theorem dX10_dues_57 : decode cX10_dues 57 = .ok (.aload_n 0, 1) := by decide +kernel
theorem dX10_dues_58 : decode cX10_dues 58 = .ok (.getfield 9, 3) := by decide +kernel
theorem dX10_dues_61 : decode cX10_dues 61 = .ok (.bipush 110, 2) := by decide +kernel
theorem dX10_dues_63 : decode cX10_dues 63 = .ok (.iconst 3, 1) := by decide +kernel
theorem dX10_dues_64 : decode cX10_dues 64 = .ok (.iload_n 2, 1) := by decide +kernel
theorem dX10_dues_65 : decode cX10_dues 65 = .ok (.imul, 1) := by decide +kernel
theorem dX10_dues_66 : decode cX10_dues 66 = .ok (.iadd, 1) := by decide +kernel
theorem dX10_dues_67 : decode cX10_dues 67 = .ok (.iconst 2, 1) := by decide +kernel
theorem dX10_dues_68 : decode cX10_dues 68 = .ok (.iadd, 1) := by decide +kernel
theorem dX10_dues_69 : decode cX10_dues 69 = .ok (.iaload, 1) := by decide +kernel
theorem dX10_dues_70 : decode cX10_dues 70 = .ok (.if_icmp .gt 9, 3) := by decide +kernel
theorem dX10_dues_73 : decode cX10_dues 73 = .ok (.iconst 1, 1) := by decide +kernel
theorem dX10_dues_74 : decode cX10_dues 74 = .ok (.iload_n 2, 1) := by decide +kernel
theorem dX10_dues_75 : decode cX10_dues 75 = .ok (.ishl, 1) := by decide +kernel
theorem dX10_dues_76 : decode cX10_dues 76 = .ok (.goto 4, 3) := by decide +kernel
theorem dX10_dues_79 : decode cX10_dues 79 = .ok (.iconst 0, 1) := by decide +kernel
theorem dX10_dues_80 : decode cX10_dues 80 = .ok (.ior, 1) := by decide +kernel
theorem dX10_dues_81 : decode cX10_dues 81 = .ok (.istore_n 1, 1) := by decide +kernel
theorem dX10_dues_82 : decode cX10_dues 82 = .ok (.iinc 2 1, 3) := by decide +kernel
theorem dX10_dues_85 : decode cX10_dues 85 = .ok (.goto (-71), 3) := by decide +kernel
theorem dX10_dues_88 : decode cX10_dues 88 = .ok (.iload_n 1, 1) := by decide +kernel
theorem dX10_dues_89 : decode cX10_dues 89 = .ok (.ireturn, 1) := by decide +kernel
theorem dX10_end_0 : decode cX10_end 0 = .ok (.aload_n 0, 1) := by decide +kernel
theorem dX10_end_1 : decode cX10_end 1 = .ok (.getfield 9, 3) := by decide +kernel
theorem dX10_end_4 : decode cX10_end 4 = .ok (.bipush 8, 2) := by decide +kernel
theorem dX10_end_6 : decode cX10_end 6 = .ok (.iconst 3, 1) := by decide +kernel
theorem dX10_end_7 : decode cX10_end 7 = .ok (.iload_n 1, 1) := by decide +kernel
theorem dX10_end_8 : decode cX10_end 8 = .ok (.imul, 1) := by decide +kernel
theorem dX10_end_9 : decode cX10_end 9 = .ok (.iadd, 1) := by decide +kernel
theorem dX10_end_10 : decode cX10_end 10 = .ok (.iload_n 2, 1) := by decide +kernel
theorem dX10_end_11 : decode cX10_end 11 = .ok (.iadd, 1) := by decide +kernel
theorem dX10_end_12 : decode cX10_end 12 = .ok (.iaload, 1) := by decide +kernel
theorem dX10_end_13 : decode cX10_end 13 = .ok (.ireturn, 1) := by decide +kernel
theorem dX10_end__0 : decode cX10_end_ 0 = .ok (.iload_n 1, 1) := by decide +kernel
theorem dX10_end__1 : decode cX10_end_ 1 = .ok (.i2l, 1) := by decide +kernel
theorem dX10_end__2 : decode cX10_end_ 2 = .ok (.lconst 0, 1) := by decide +kernel
theorem dX10_end__3 : decode cX10_end_ 3 = .ok (.aload_n 0, 1) := by decide +kernel
theorem dX10_end__4 : decode cX10_end_ 4 = .ok (.getfield 97, 3) := by decide +kernel
theorem dX10_end__7 : decode cX10_end_ 7 = .ok (.i2l, 1) := by decide +kernel
theorem dX10_end__8 : decode cX10_end_ 8 = .ok (.invokestatic 85, 3) := by decide +kernel
theorem dX10_end__11 : decode cX10_end_ 11 = .ok (.ifCond .ne 5, 3) := by decide +kernel
theorem dX10_end__14 : decode cX10_end_ 14 = .ok (.iconst (-1), 1) := by decide +kernel
theorem dX10_end__15 : decode cX10_end_ 15 = .ok (.ireturn, 1) := by decide +kernel
theorem dX10_end__16 : decode cX10_end_ 16 = .ok (.aload_n 0, 1) := by decide +kernel
theorem dX10_end__17 : decode cX10_end_ 17 = .ok (.iload_n 1, 1) := by decide +kernel
theorem dX10_end__18 : decode cX10_end_ 18 = .ok (.putfield 97, 3) := by decide +kernel
theorem dX10_end__21 : decode cX10_end_ 21 = .ok (.iload_n 1, 1) := by decide +kernel
theorem dX10_end__22 : decode cX10_end_ 22 = .ok (.ireturn, 1) := by decide +kernel
theorem dX10_ends_0 : decode cX10_ends 0 = .ok (.aload_n 0, 1) := by decide +kernel
theorem dX10_ends_1 : decode cX10_ends 1 = .ok (.iload_n 1, 1) := by decide +kernel
theorem dX10_ends_2 : decode cX10_ends 2 = .ok (.iload_n 2, 1) := by decide +kernel
theorem dX10_ends_3 : decode cX10_ends 3 = .ok (.invokevirtual 319, 3) := by decide +kernel
theorem dX10_ends_6 : decode cX10_ends 6 = .ok (.istore_n 3, 1) := by decide +kernel
theorem dX10_ends_7 : decode cX10_ends 7 = .ok (.iload_n 3, 1) := by decide +kernel
theorem dX10_ends_8 : decode cX10_ends 8 = .ok (.ifCond .ge 5, 3) := by decide +kernel
theorem dX10_ends_11 : decode cX10_ends 11 = .ok (.iload_n 3, 1) := by decide +kernel
theorem dX10_ends_12 : decode cX10_ends 12 = .ok (.ireturn, 1) := by decide +kernel
theorem dX10_ends_13 : decode cX10_ends 13 = .ok (.aload_n 0, 1) := by decide +kernel
theorem dX10_ends_14 : decode cX10_ends 14 = .ok (.iload_n 1, 1) := by decide +kernel
theorem dX10_ends_15 : decode cX10_ends 15 = .ok (.iload_n 2, 1) := by decide +kernel
theorem dX10_ends_16 : decode cX10_ends 16 = .ok (.invokevirtual 322, 3) := by decide +kernel
theorem dX10_ends_19 : decode cX10_ends 19 = .ok (.aload_n 0, 1) := by decide +kernel
theorem dX10_ends_20 : decode cX10_ends 20 = .ok (.getfield 43, 3) := by decide +kernel
theorem dX10_ends_23 : decode cX10_ends 23 = .ok (.iload_n 2, 1) := by decide +kernel
theorem dX10_ends_24 : decode cX10_ends 24 = .ok (.iaload, 1) := by decide +kernel
theorem dX10_ends_25 : decode cX10_ends 25 = .ok (.ireturn, 1) := by decide +kernel
theorem dX10_errand_0 : decode cX10_errand 0 = .ok (.iload_n 1, 1) := by decide +kernel
theorem dX10_errand_1 : decode cX10_errand 1 = .ok (.i2l, 1) := by decide +kernel
theorem dX10_errand_2 : decode cX10_errand 2 = .ok (.lconst 0, 1) := by decide +kernel
theorem dX10_errand_3 : decode cX10_errand 3 = .ok (.aload_n 0, 1) := by decide +kernel
theorem dX10_errand_4 : decode cX10_errand 4 = .ok (.getfield 9, 3) := by decide +kernel
theorem dX10_errand_7 : decode cX10_errand 7 = .ok (.iconst 5, 1) := by decide +kernel
theorem dX10_errand_8 : decode cX10_errand 8 = .ok (.iaload, 1) := by decide +kernel
theorem dX10_errand_9 : decode cX10_errand 9 = .ok (.iconst 1, 1) := by decide +kernel
theorem dX10_errand_10 : decode cX10_errand 10 = .ok (.isub, 1) := by decide +kernel
theorem dX10_errand_11 : decode cX10_errand 11 = .ok (.i2l, 1) := by decide +kernel
theorem dX10_errand_12 : decode cX10_errand 12 = .ok (.invokestatic 85, 3) := by decide +kernel
theorem dX10_errand_15 : decode cX10_errand 15 = .ok (.ifCond .eq 31, 3) := by decide +kernel
theorem dX10_errand_18 : decode cX10_errand 18 = .ok (.iload_n 2, 1) := by decide +kernel
theorem dX10_errand_19 : decode cX10_errand 19 = .ok (.i2l, 1) := by decide +kernel
theorem dX10_errand_20 : decode cX10_errand 20 = .ok (.lconst 0, 1) := by decide +kernel
theorem dX10_errand_21 : decode cX10_errand 21 = .ok (.ldc2_w 83, 3) := by decide +kernel
theorem dX10_errand_24 : decode cX10_errand 24 = .ok (.invokestatic 85, 3) := by decide +kernel
theorem dX10_errand_27 : decode cX10_errand 27 = .ok (.ifCond .eq 19, 3) := by decide +kernel
theorem dX10_errand_30 : decode cX10_errand 30 = .ok (.aload_n 0, 1) := by decide +kernel
theorem dX10_errand_31 : decode cX10_errand 31 = .ok (.getfield 9, 3) := by decide +kernel
theorem dX10_errand_34 : decode cX10_errand 34 = .ok (.bipush 110, 2) := by decide +kernel
theorem dX10_errand_36 : decode cX10_errand 36 = .ok (.iconst 3, 1) := by decide +kernel
theorem dX10_errand_37 : decode cX10_errand 37 = .ok (.iload_n 1, 1) := by decide +kernel
theorem dX10_errand_38 : decode cX10_errand 38 = .ok (.imul, 1) := by decide +kernel
theorem dX10_errand_39 : decode cX10_errand 39 = .ok (.iadd, 1) := by decide +kernel
theorem dX10_errand_40 : decode cX10_errand 40 = .ok (.iload_n 2, 1) := by decide +kernel
theorem dX10_errand_41 : decode cX10_errand 41 = .ok (.iadd, 1) := by decide +kernel
theorem dX10_errand_42 : decode cX10_errand 42 = .ok (.iaload, 1) := by decide +kernel
theorem dX10_errand_43 : decode cX10_errand 43 = .ok (.goto 5, 3) := by decide +kernel
theorem dX10_errand_46 : decode cX10_errand 46 = .ok (.bipush (-2), 2) := by decide +kernel
theorem dX10_errand_48 : decode cX10_errand 48 = .ok (.ireturn, 1) := by decide +kernel
theorem dX10_errs_0 : decode cX10_errs 0 = .ok (.aload_n 0, 1) := by decide +kernel
theorem dX10_errs_1 : decode cX10_errs 1 = .ok (.invokevirtual 136, 3) := by decide +kernel
theorem dX10_errs_4 : decode cX10_errs 4 = .ok (.ifCond .ne 4, 3) := by decide +kernel
theorem dX10_errs_7 : decode cX10_errs 7 = .ok (.return_, 1) := by decide +kernel
theorem dX10_errs_8 : decode cX10_errs 8 = .ok (.aload_n 0, 1) := by decide +kernel
theorem dX10_errs_9 : decode cX10_errs 9 = .ok (.iload_n 1, 1) := by decide +kernel
theorem dX10_errs_10 : decode cX10_errs 10 = .ok (.putfield 133, 3) := by decide +kernel
theorem dX10_errs_13 : decode cX10_errs 13 = .ok (.aload_n 0, 1) := by decide +kernel
theorem dX10_errs_14 : decode cX10_errs 14 = .ok (.aload_n 0, 1) := by decide +kernel
theorem dX10_errs_15 : decode cX10_errs 15 = .ok (.getfield 110, 3) := by decide +kernel
theorem dX10_errs_18 : decode cX10_errs 18 = .ok (.putfield 27, 3) := by decide +kernel
theorem dX10_errs_21 : decode cX10_errs 21 = .ok (.return_, 1) := by decide +kernel
theorem dX10_far_0 : decode cX10_far 0 = .ok (.aload_n 0, 1) := by decide +kernel
theorem dX10_far_1 : decode cX10_far 1 = .ok (.iload_n 1, 1) := by decide +kernel
theorem dX10_far_2 : decode cX10_far 2 = .ok (.i2l, 1) := by decide +kernel
theorem dX10_far_3 : decode cX10_far 3 = .ok (.invokevirtual 282, 3) := by decide +kernel
theorem dX10_far_6 : decode cX10_far 6 = .ok (.ifCond .eq 12, 3) := by decide +kernel
theorem dX10_far_9 : decode cX10_far 9 = .ok (.aload_n 0, 1) := by decide +kernel
theorem dX10_far_10 : decode cX10_far 10 = .ok (.iload_n 2, 1) := by decide +kernel
theorem dX10_far_11 : decode cX10_far 11 = .ok (.i2l, 1) := by decide +kernel
theorem dX10_far_12 : decode cX10_far 12 = .ok (.invokevirtual 282, 3) := by decide +kernel
theorem dX10_far_15 : decode cX10_far 15 = .ok (.ifCond .ne 6, 3) := by decide +kernel
theorem dX10_far_18 : decode cX10_far 18 = .ok (.bipush (-2), 2) := by decide +kernel
theorem dX10_far_20 : decode cX10_far 20 = .ok (.ireturn, 1) := by decide +kernel
theorem dX10_far_21 : decode cX10_far 21 = .ok (.iconst 0, 1) := by decide +kernel
theorem dX10_far_22 : decode cX10_far 22 = .ok (.istore_n 3, 1) := by decide +kernel
theorem dX10_far_23 : decode cX10_far 23 = .ok (.iload_n 3, 1) := by decide +kernel
theorem dX10_far_24 : decode cX10_far 24 = .ok (.bipush 6, 2) := by decide +kernel
theorem dX10_far_26 : decode cX10_far 26 = .ok (.if_icmp .ge 27, 3) := by decide +kernel
theorem dX10_far_29 : decode cX10_far 29 = .ok (.aload_n 0, 1) := by decide +kernel
theorem dX10_far_30 : decode cX10_far 30 = .ok (.getfield 58, 3) := by decide +kernel
theorem dX10_far_33 : decode cX10_far 33 = .ok (.iload_n 3, 1) := by decide +kernel
theorem dX10_far_34 : decode cX10_far 34 = .ok (.iload_n 3, 1) := by decide +kernel
theorem dX10_far_35 : decode cX10_far 35 = .ok (.iload_n 1, 1) := by decide +kernel
theorem dX10_far_36 : decode cX10_far 36 = .ok (.if_icmp .ne 7, 3) := by decide +kernel
theorem dX10_far_39 : decode cX10_far 39 = .ok (.iconst 0, 1) := by decide +kernel
theorem dX10_far_40 : decode cX10_far 40 = .ok (.goto 6, 3) := by decide +kernel
theorem dX10_far_43 : decode cX10_far 43 = .ok (.ldc_w 331, 3) := by decide +kernel
theorem dX10_far_46 : decode cX10_far 46 = .ok (.iastore, 1) := by decide +kernel
theorem dX10_far_47 : decode cX10_far 47 = .ok (.iinc 3 1, 3) := by decide +kernel
theorem dX10_far_50 : decode cX10_far 50 = .ok (.goto (-27), 3) := by decide +kernel
theorem dX10_far_53 : decode cX10_far 53 = .ok (.iconst 1, 1) := by decide +kernel
theorem dX10_far_54 : decode cX10_far 54 = .ok (.istore_n 3, 1) := by decide +kernel
theorem dX10_far_55 : decode cX10_far 55 = .ok (.iload_n 3, 1) := by decide +kernel
theorem dX10_far_56 : decode cX10_far 56 = .ok (.ifCond .eq 107, 3) := by decide +kernel
theorem dX10_far_59 : decode cX10_far 59 = .ok (.iconst 0, 1) := by decide +kernel
theorem dX10_far_60 : decode cX10_far 60 = .ok (.istore_n 3, 1) := by decide +kernel
theorem dX10_far_61 : decode cX10_far 61 = .ok (.iconst 0, 1) := by decide +kernel
theorem dX10_far_62 : decode cX10_far 62 = .ok (.istore 4, 2) := by decide +kernel
theorem dX10_far_64 : decode cX10_far 64 = .ok (.iload 4, 2) := by decide +kernel
theorem dX10_far_66 : decode cX10_far 66 = .ok (.aload_n 0, 1) := by decide +kernel
theorem dX10_far_67 : decode cX10_far 67 = .ok (.getfield 9, 3) := by decide +kernel
theorem dX10_far_70 : decode cX10_far 70 = .ok (.iconst 2, 1) := by decide +kernel
theorem dX10_far_71 : decode cX10_far 71 = .ok (.iaload, 1) := by decide +kernel
theorem dX10_far_72 : decode cX10_far 72 = .ok (.if_icmp .ge 88, 3) := by decide +kernel
theorem dX10_far_75 : decode cX10_far 75 = .ok (.iconst 0, 1) := by decide +kernel
theorem dX10_far_76 : decode cX10_far 76 = .ok (.istore 5, 2) := by decide +kernel
theorem dX10_far_78 : decode cX10_far 78 = .ok (.iload 5, 2) := by decide +kernel
theorem dX10_far_80 : decode cX10_far 80 = .ok (.iconst 2, 1) := by decide +kernel
theorem dX10_far_81 : decode cX10_far 81 = .ok (.if_icmp .ge 73, 3) := by decide +kernel
theorem dX10_far_84 : decode cX10_far 84 = .ok (.aload_n 0, 1) := by decide +kernel
theorem dX10_far_85 : decode cX10_far 85 = .ok (.getfield 58, 3) := by decide +kernel
theorem dX10_far_88 : decode cX10_far 88 = .ok (.aload_n 0, 1) := by decide +kernel
theorem dX10_far_89 : decode cX10_far 89 = .ok (.iload 4, 2) := by decide +kernel
theorem dX10_far_91 : decode cX10_far 91 = .ok (.iload 5, 2) := by decide +kernel
theorem dX10_far_93 : decode cX10_far 93 = .ok (.invokevirtual 89, 3) := by decide +kernel
theorem dX10_far_96 : decode cX10_far 96 = .ok (.iaload, 1) := by decide +kernel
theorem dX10_far_97 : decode cX10_far 97 = .ok (.aload_n 0, 1) := by decide +kernel
theorem dX10_far_98 : decode cX10_far 98 = .ok (.iload 4, 2) := by decide +kernel
theorem dX10_far_100 : decode cX10_far 100 = .ok (.invokevirtual 253, 3) := by decide +kernel
theorem dX10_far_103 : decode cX10_far 103 = .ok (.iadd, 1) := by decide +kernel
theorem dX10_far_104 : decode cX10_far 104 = .ok (.istore 6, 2) := by decide +kernel
theorem dX10_far_106 : decode cX10_far 106 = .ok (.iload 6, 2) := by decide +kernel
theorem dX10_far_108 : decode cX10_far 108 = .ok (.aload_n 0, 1) := by decide +kernel
theorem dX10_far_109 : decode cX10_far 109 = .ok (.getfield 58, 3) := by decide +kernel
theorem dX10_far_112 : decode cX10_far 112 = .ok (.aload_n 0, 1) := by decide +kernel
theorem dX10_far_113 : decode cX10_far 113 = .ok (.iload 4, 2) := by decide +kernel
theorem dX10_far_115 : decode cX10_far 115 = .ok (.iconst 1, 1) := by decide +kernel
theorem dX10_far_116 : decode cX10_far 116 = .ok (.iload 5, 2) := by decide +kernel
theorem dX10_far_118 : decode cX10_far 118 = .ok (.isub, 1) := by decide +kernel
theorem dX10_far_119 : decode cX10_far 119 = .ok (.invokevirtual 89, 3) := by decide +kernel
theorem dX10_far_122 : decode cX10_far 122 = .ok (.iaload, 1) := by decide +kernel
theorem dX10_far_123 : decode cX10_far 123 = .ok (.if_icmp .lt 6, 3) := by decide +kernel
theorem dX10_far_126 : decode cX10_far 126 = .ok (.goto 22, 3) := by decide +kernel
theorem dX10_far_129 : decode cX10_far 129 = .ok (.aload_n 0, 1) := by decide +kernel
theorem dX10_far_130 : decode cX10_far 130 = .ok (.getfield 58, 3) := by decide +kernel
theorem dX10_far_133 : decode cX10_far 133 = .ok (.aload_n 0, 1) := by decide +kernel
theorem dX10_far_134 : decode cX10_far 134 = .ok (.iload 4, 2) := by decide +kernel
theorem dX10_far_136 : decode cX10_far 136 = .ok (.iconst 1, 1) := by decide +kernel
theorem dX10_far_137 : decode cX10_far 137 = .ok (.iload 5, 2) := by decide +kernel
theorem dX10_far_139 : decode cX10_far 139 = .ok (.isub, 1) := by decide +kernel
theorem dX10_far_140 : decode cX10_far 140 = .ok (.invokevirtual 89, 3) := by decide +kernel
theorem dX10_far_143 : decode cX10_far 143 = .ok (.iload 6, 2) := by decide +kernel
theorem dX10_far_145 : decode cX10_far 145 = .ok (.iastore, 1) := by decide +kernel
theorem dX10_far_146 : decode cX10_far 146 = .ok (.iconst 1, 1) := by decide +kernel
theorem dX10_far_147 : decode cX10_far 147 = .ok (.istore_n 3, 1) := by decide +kernel
theorem dX10_far_148 : decode cX10_far 148 = .ok (.iinc 5 1, 3) := by decide +kernel
theorem dX10_far_151 : decode cX10_far 151 = .ok (.goto (-73), 3) := by decide +kernel
theorem dX10_far_154 : decode cX10_far 154 = .ok (.iinc 4 1, 3) := by decide +kernel
theorem dX10_far_157 : decode cX10_far 157 = .ok (.goto (-93), 3) := by decide +kernel
theorem dX10_far_160 : decode cX10_far 160 = .ok (.goto (-105), 3) := by decide +kernel
theorem dX10_far_163 : decode cX10_far 163 = .ok (.aload_n 0, 1) := by decide +kernel
theorem dX10_far_164 : decode cX10_far 164 = .ok (.getfield 58, 3) := by decide +kernel
theorem dX10_far_167 : decode cX10_far 167 = .ok (.iload_n 2, 1) := by decide +kernel
theorem dX10_far_168 : decode cX10_far 168 = .ok (.iaload, 1) := by decide +kernel
theorem dX10_far_169 : decode cX10_far 169 = .ok (.ldc_w 331, 3) := by decide +kernel
theorem dX10_far_172 : decode cX10_far 172 = .ok (.if_icmp .lt 7, 3) := by decide +kernel
theorem dX10_far_175 : decode cX10_far 175 = .ok (.iconst (-1), 1) := by decide +kernel
theorem dX10_far_176 : decode cX10_far 176 = .ok (.goto 9, 3) := by decide +kernel
theorem dX10_far_179 : decode cX10_far 179 = .ok (.aload_n 0, 1) := by decide +kernel
theorem dX10_far_180 : decode cX10_far 180 = .ok (.getfield 58, 3) := by decide +kernel
theorem dX10_far_183 : decode cX10_far 183 = .ok (.iload_n 2, 1) := by decide +kernel
theorem dX10_far_184 : decode cX10_far 184 = .ok (.iaload, 1) := by decide +kernel
theorem dX10_far_185 : decode cX10_far 185 = .ok (.ireturn, 1) := by decide +kernel
theorem dX10_fault_0 : decode cX10_fault 0 = .ok (.iload_n 1, 1) := by decide +kernel
theorem dX10_fault_1 : decode cX10_fault 1 = .ok (.ifCond .ne 10, 3) := by decide +kernel
theorem dX10_fault_4 : decode cX10_fault 4 = .ok (.aload_n 0, 1) := by decide +kernel
theorem dX10_fault_5 : decode cX10_fault 5 = .ok (.getfield 133, 3) := by decide +kernel
theorem dX10_fault_8 : decode cX10_fault 8 = .ok (.goto 16, 3) := by decide +kernel
theorem dX10_fault_11 : decode cX10_fault 11 = .ok (.iload_n 1, 1) := by decide +kernel
theorem dX10_fault_12 : decode cX10_fault 12 = .ok (.iconst 1, 1) := by decide +kernel
theorem dX10_fault_13 : decode cX10_fault 13 = .ok (.if_icmp .ne 10, 3) := by decide +kernel
theorem dX10_fault_16 : decode cX10_fault 16 = .ok (.aload_n 0, 1) := by decide +kernel
theorem dX10_fault_17 : decode cX10_fault 17 = .ok (.getfield 27, 3) := by decide +kernel
theorem dX10_fault_20 : decode cX10_fault 20 = .ok (.goto 4, 3) := by decide +kernel
theorem dX10_fault_23 : decode cX10_fault 23 = .ok (.iconst (-1), 1) := by decide +kernel
theorem dX10_fault_24 : decode cX10_fault 24 = .ok (.ireturn, 1) := by decide +kernel
theorem dX10_feed_0 : decode cX10_feed 0 = .ok (.aload_n 0, 1) := by decide +kernel
theorem dX10_feed_1 : decode cX10_feed 1 = .ok (.getfield 97, 3) := by decide +kernel
theorem dX10_feed_4 : decode cX10_feed 4 = .ok (.bipush 20, 2) := by decide +kernel
theorem dX10_feed_6 : decode cX10_feed 6 = .ok (.iadd, 1) := by decide +kernel
theorem dX10_feed_7 : decode cX10_feed 7 = .ok (.sipush 1000, 3) := by decide +kernel
theorem dX10_feed_10 : decode cX10_feed 10 = .ok (.if_icmp .le 5, 3) := by decide +kernel
theorem dX10_feed_13 : decode cX10_feed 13 = .ok (.iconst (-1), 1) := by decide +kernel
theorem dX10_feed_14 : decode cX10_feed 14 = .ok (.ireturn, 1) := by decide +kernel
theorem dX10_feed_15 : decode cX10_feed 15 = .ok (.aload_n 0, 1) := by decide +kernel
theorem dX10_feed_16 : decode cX10_feed 16 = .ok (.getfield 24, 3) := by decide +kernel
theorem dX10_feed_19 : decode cX10_feed 19 = .ok (.iconst 0, 1) := by decide +kernel
theorem dX10_feed_20 : decode cX10_feed 20 = .ok (.iload_n 1, 1) := by decide +kernel
theorem dX10_feed_21 : decode cX10_feed 21 = .ok (.iastore, 1) := by decide +kernel
theorem dX10_feed_22 : decode cX10_feed 22 = .ok (.aload_n 0, 1) := by decide +kernel
theorem dX10_feed_23 : decode cX10_feed 23 = .ok (.getfield 24, 3) := by decide +kernel
theorem dX10_feed_26 : decode cX10_feed 26 = .ok (.iconst 1, 1) := by decide +kernel
theorem dX10_feed_27 : decode cX10_feed 27 = .ok (.iload_n 2, 1) := by decide +kernel
theorem dX10_feed_28 : decode cX10_feed 28 = .ok (.iastore, 1) := by decide +kernel
theorem dX10_feed_29 : decode cX10_feed 29 = .ok (.aload_n 0, 1) := by decide +kernel
theorem dX10_feed_30 : decode cX10_feed 30 = .ok (.getfield 24, 3) := by decide +kernel
theorem dX10_feed_33 : decode cX10_feed 33 = .ok (.iconst 2, 1) := by decide +kernel
theorem dX10_feed_34 : decode cX10_feed 34 = .ok (.iload_n 3, 1) := by decide +kernel
theorem dX10_feed_35 : decode cX10_feed 35 = .ok (.iastore, 1) := by decide +kernel
theorem dX10_feed_36 : decode cX10_feed 36 = .ok (.aload_n 0, 1) := by decide +kernel
theorem dX10_feed_37 : decode cX10_feed 37 = .ok (.getfield 24, 3) := by decide +kernel
theorem dX10_feed_40 : decode cX10_feed 40 = .ok (.iconst 3, 1) := by decide +kernel
theorem dX10_feed_41 : decode cX10_feed 41 = .ok (.iload 4, 2) := by decide +kernel
theorem dX10_feed_43 : decode cX10_feed 43 = .ok (.iastore, 1) := by decide +kernel
theorem dX10_feed_44 : decode cX10_feed 44 = .ok (.aload_n 0, 1) := by decide +kernel
theorem dX10_feed_45 : decode cX10_feed 45 = .ok (.getfield 24, 3) := by decide +kernel
theorem dX10_feed_48 : decode cX10_feed 48 = .ok (.iconst 4, 1) := by decide +kernel
theorem dX10_feed_49 : decode cX10_feed 49 = .ok (.iload 5, 2) := by decide +kernel
theorem dX10_feed_51 : decode cX10_feed 51 = .ok (.iastore, 1) := by decide +kernel
theorem dX10_feed_52 : decode cX10_feed 52 = .ok (.iconst 0, 1) := by decide +kernel
theorem dX10_feed_53 : decode cX10_feed 53 = .ok (.istore 6, 2) := by decide +kernel
theorem dX10_feed_55 : decode cX10_feed 55 = .ok (.iload 6, 2) := by decide +kernel
theorem dX10_feed_57 : decode cX10_feed 57 = .ok (.bipush 20, 2) := by decide +kernel
theorem dX10_feed_59 : decode cX10_feed 59 = .ok (.if_icmp .ge 42, 3) := by decide +kernel
theorem dX10_feed_62 : decode cX10_feed 62 = .ok (.aload_n 0, 1) := by decide +kernel
theorem dX10_feed_63 : decode cX10_feed 63 = .ok (.getfield 20, 3) := by decide +kernel
theorem dX10_feed_66 : decode cX10_feed 66 = .ok (.aload_n 0, 1) := by decide +kernel
theorem dX10_feed_67 : decode cX10_feed 67 = .ok (.getfield 97, 3) := by decide +kernel
theorem dX10_feed_70 : decode cX10_feed 70 = .ok (.iload 6, 2) := by decide +kernel
theorem dX10_feed_72 : decode cX10_feed 72 = .ok (.iadd, 1) := by decide +kernel
theorem dX10_feed_73 : decode cX10_feed 73 = .ok (.aload_n 0, 1) := by decide +kernel
theorem dX10_feed_74 : decode cX10_feed 74 = .ok (.getfield 24, 3) := by decide +kernel
theorem dX10_feed_77 : decode cX10_feed 77 = .ok (.iload 6, 2) := by decide +kernel
theorem dX10_feed_79 : decode cX10_feed 79 = .ok (.iconst 4, 1) := by decide +kernel
theorem dX10_feed_80 : decode cX10_feed 80 = .ok (.idiv, 1) := by decide +kernel
theorem dX10_feed_81 : decode cX10_feed 81 = .ok (.iaload, 1) := by decide +kernel
theorem dX10_feed_82 : decode cX10_feed 82 = .ok (.bipush 24, 2) := by decide +kernel
theorem dX10_feed_84 : decode cX10_feed 84 = .ok (.bipush 8, 2) := by decide +kernel
theorem dX10_feed_86 : decode cX10_feed 86 = .ok (.iload 6, 2) := by decide +kernel
theorem dX10_feed_88 : decode cX10_feed 88 = .ok (.iconst 4, 1) := by decide +kernel
theorem dX10_feed_89 : decode cX10_feed 89 = .ok (.irem, 1) := by decide +kernel
theorem dX10_feed_90 : decode cX10_feed 90 = .ok (.imul, 1) := by decide +kernel
theorem dX10_feed_91 : decode cX10_feed 91 = .ok (.isub, 1) := by decide +kernel
theorem dX10_feed_92 : decode cX10_feed 92 = .ok (.ishr, 1) := by decide +kernel
theorem dX10_feed_93 : decode cX10_feed 93 = .ok (.i2b, 1) := by decide +kernel
theorem dX10_feed_94 : decode cX10_feed 94 = .ok (.bastore, 1) := by decide +kernel
theorem dX10_feed_95 : decode cX10_feed 95 = .ok (.iinc 6 1, 3) := by decide +kernel
theorem dX10_feed_98 : decode cX10_feed 98 = .ok (.goto (-43), 3) := by decide +kernel
theorem dX10_feed_101 : decode cX10_feed 101 = .ok (.aload_n 0, 1) := by decide +kernel
theorem dX10_feed_102 : decode cX10_feed 102 = .ok (.dup, 1) := by decide +kernel
theorem dX10_feed_103 : decode cX10_feed 103 = .ok (.getfield 97, 3) := by decide +kernel
theorem dX10_feed_106 : decode cX10_feed 106 = .ok (.bipush 20, 2) := by decide +kernel
theorem dX10_feed_108 : decode cX10_feed 108 = .ok (.iadd, 1) := by decide +kernel
theorem dX10_feed_109 : decode cX10_feed 109 = .ok (.putfield 97, 3) := by decide +kernel
theorem dX10_feed_112 : decode cX10_feed 112 = .ok (.aload_n 0, 1) := by decide +kernel
theorem dX10_feed_113 : decode cX10_feed 113 = .ok (.getfield 97, 3) := by decide +kernel
theorem dX10_feed_116 : decode cX10_feed 116 = .ok (.ireturn, 1) := by decide +kernel
theorem dX10_fits_0 : decode cX10_fits 0 = .ok (.aload_n 0, 1) := by decide +kernel
theorem dX10_fits_1 : decode cX10_fits 1 = .ok (.iload_n 1, 1) := by decide +kernel
theorem dX10_fits_2 : decode cX10_fits 2 = .ok (.invokevirtual 361, 3) := by decide +kernel
theorem dX10_fits_5 : decode cX10_fits 5 = .ok (.istore_n 2, 1) := by decide +kernel
theorem dX10_fits_6 : decode cX10_fits 6 = .ok (.iload_n 2, 1) := by decide +kernel
theorem dX10_fits_7 : decode cX10_fits 7 = .ok (.ifCond .ge 7, 3) := by decide +kernel
theorem dX10_fits_10 : decode cX10_fits 10 = .ok (.iload_n 2, 1) := by decide +kernel
theorem dX10_fits_11 : decode cX10_fits 11 = .ok (.goto 8, 3) := by decide +kernel
theorem dX10_fits_14 : decode cX10_fits 14 = .ok (.aload_n 0, 1) := by decide +kernel
theorem dX10_fits_15 : decode cX10_fits 15 = .ok (.iload_n 1, 1) := by decide +kernel
theorem dX10_fits_16 : decode cX10_fits 16 = .ok (.invokevirtual 364, 3) := by decide +kernel
theorem dX10_fits_19 : decode cX10_fits 19 = .ok (.ireturn, 1) := by decide +kernel
theorem dX10_fitsOf_0 : decode cX10_fitsOf 0 = .ok (.iconst 0, 1) := by decide +kernel
theorem dX10_fitsOf_1 : decode cX10_fitsOf 1 = .ok (.istore_n 2, 1) := by decide +kernel
theorem dX10_fitsOf_2 : decode cX10_fitsOf 2 = .ok (.iconst 0, 1) := by decide +kernel
theorem dX10_fitsOf_3 : decode cX10_fitsOf 3 = .ok (.istore_n 3, 1) := by decide +kernel
theorem dX10_fitsOf_4 : decode cX10_fitsOf 4 = .ok (.iload_n 3, 1) := by decide +kernel
theorem dX10_fitsOf_5 : decode cX10_fitsOf 5 = .ok (.aload_n 0, 1) := by decide +kernel
theorem dX10_fitsOf_6 : decode cX10_fitsOf 6 = .ok (.getfield 9, 3) := by decide +kernel
theorem dX10_fitsOf_9 : decode cX10_fitsOf 9 = .ok (.iconst 3, 1) := by decide +kernel
theorem dX10_fitsOf_10 : decode cX10_fitsOf 10 = .ok (.iaload, 1) := by decide +kernel
theorem dX10_fitsOf_11 : decode cX10_fitsOf 11 = .ok (.if_icmp .ge 86, 3) := by decide +kernel
theorem dX10_fitsOf_14 : decode cX10_fitsOf 14 = .ok (.iconst 1, 1) := by decide +kernel
theorem dX10_fitsOf_15 : decode cX10_fitsOf 15 = .ok (.istore 4, 2) := by decide +kernel
theorem dX10_fitsOf_17 : decode cX10_fitsOf 17 = .ok (.iconst 0, 1) := by decide +kernel
theorem dX10_fitsOf_18 : decode cX10_fitsOf 18 = .ok (.istore 5, 2) := by decide +kernel
theorem dX10_fitsOf_20 : decode cX10_fitsOf 20 = .ok (.iload 5, 2) := by decide +kernel
theorem dX10_fitsOf_22 : decode cX10_fitsOf 22 = .ok (.aload_n 0, 1) := by decide +kernel
theorem dX10_fitsOf_23 : decode cX10_fitsOf 23 = .ok (.getfield 67, 3) := by decide +kernel
theorem dX10_fitsOf_26 : decode cX10_fitsOf 26 = .ok (.iload_n 1, 1) := by decide +kernel
theorem dX10_fitsOf_27 : decode cX10_fitsOf 27 = .ok (.iaload, 1) := by decide +kernel
theorem dX10_fitsOf_28 : decode cX10_fitsOf 28 = .ok (.if_icmp .ge 48, 3) := by decide +kernel
theorem dX10_fitsOf_31 : decode cX10_fitsOf 31 = .ok (.iload 4, 2) := by decide +kernel
theorem dX10_fitsOf_33 : decode cX10_fitsOf 33 = .ok (.ifCond .eq 43, 3) := by decide +kernel
theorem dX10_fitsOf_36 : decode cX10_fitsOf 36 = .ok (.aload_n 0, 1) := by decide +kernel
theorem dX10_fitsOf_37 : decode cX10_fitsOf 37 = .ok (.iload_n 3, 1) := by decide +kernel
theorem dX10_fitsOf_38 : decode cX10_fitsOf 38 = .ok (.aload_n 0, 1) := by decide +kernel
theorem dX10_fitsOf_39 : decode cX10_fitsOf 39 = .ok (.iload_n 1, 1) := by decide +kernel
theorem dX10_fitsOf_40 : decode cX10_fitsOf 40 = .ok (.iload 5, 2) := by decide +kernel
theorem dX10_fitsOf_42 : decode cX10_fitsOf 42 = .ok (.invokevirtual 303, 3) := by decide +kernel
theorem dX10_fitsOf_45 : decode cX10_fitsOf 45 = .ok (.l2i, 1) := by decide +kernel
theorem dX10_fitsOf_46 : decode cX10_fitsOf 46 = .ok (.invokevirtual 358, 3) := by decide +kernel
theorem dX10_fitsOf_49 : decode cX10_fitsOf 49 = .ok (.i2l, 1) := by decide +kernel
theorem dX10_fitsOf_50 : decode cX10_fitsOf 50 = .ok (.aload_n 0, 1) := by decide +kernel
theorem dX10_fitsOf_51 : decode cX10_fitsOf 51 = .ok (.iload_n 1, 1) := by decide +kernel
theorem dX10_fitsOf_52 : decode cX10_fitsOf 52 = .ok (.iload 5, 2) := by decide +kernel
theorem dX10_fitsOf_54 : decode cX10_fitsOf 54 = .ok (.iconst 1, 1) := by decide +kernel
theorem dX10_fitsOf_55 : decode cX10_fitsOf 55 = .ok (.iadd, 1) := by decide +kernel
theorem dX10_fitsOf_56 : decode cX10_fitsOf 56 = .ok (.invokevirtual 303, 3) := by decide +kernel
theorem dX10_fitsOf_59 : decode cX10_fitsOf 59 = .ok (.lcmp, 1) := by decide +kernel
theorem dX10_fitsOf_60 : decode cX10_fitsOf 60 = .ok (.ifCond .ne 7, 3) := by decide +kernel
theorem dX10_fitsOf_63 : decode cX10_fitsOf 63 = .ok (.iconst 1, 1) := by decide +kernel
theorem dX10_fitsOf_64 : decode cX10_fitsOf 64 = .ok (.goto 4, 3) := by decide +kernel
theorem dX10_fitsOf_67 : decode cX10_fitsOf 67 = .ok (.iconst 0, 1) := by decide +kernel
theorem dX10_fitsOf_68 : decode cX10_fitsOf 68 = .ok (.istore 4, 2) := by decide +kernel
theorem dX10_fitsOf_70 : decode cX10_fitsOf 70 = .ok (.iinc 5 2, 3) := by decide +kernel
theorem dX10_fitsOf_73 : decode cX10_fitsOf 73 = .ok (.goto (-53), 3) := by decide +kernel
theorem dX10_fitsOf_76 : decode cX10_fitsOf 76 = .ok (.iload_n 2, 1) := by decide +kernel
theorem dX10_fitsOf_77 : decode cX10_fitsOf 77 = .ok (.iload 4, 2) := by decide +kernel
theorem dX10_fitsOf_79 : decode cX10_fitsOf 79 = .ok (.ifCond .eq 9, 3) := by decide +kernel
theorem dX10_fitsOf_82 : decode cX10_fitsOf 82 = .ok (.iconst 1, 1) := by decide +kernel
theorem dX10_fitsOf_83 : decode cX10_fitsOf 83 = .ok (.iload_n 3, 1) := by decide +kernel
theorem dX10_fitsOf_84 : decode cX10_fitsOf 84 = .ok (.ishl, 1) := by decide +kernel
theorem dX10_fitsOf_85 : decode cX10_fitsOf 85 = .ok (.goto 4, 3) := by decide +kernel
theorem dX10_fitsOf_88 : decode cX10_fitsOf 88 = .ok (.iconst 0, 1) := by decide +kernel
theorem dX10_fitsOf_89 : decode cX10_fitsOf 89 = .ok (.ior, 1) := by decide +kernel
theorem dX10_fitsOf_90 : decode cX10_fitsOf 90 = .ok (.istore_n 2, 1) := by decide +kernel
theorem dX10_fitsOf_91 : decode cX10_fitsOf 91 = .ok (.iinc 3 1, 3) := by decide +kernel
theorem dX10_fitsOf_94 : decode cX10_fitsOf 94 = .ok (.goto (-90), 3) := by decide +kernel
theorem dX10_fitsOf_97 : decode cX10_fitsOf 97 = .ok (.iload_n 2, 1) := by decide +kernel
theorem dX10_fitsOf_98 : decode cX10_fitsOf 98 = .ok (.ireturn, 1) := by decide +kernel
theorem dX10_forget_0 : decode cX10_forget 0 = .ok (.iconst 0, 1) := by decide +kernel
theorem dX10_forget_1 : decode cX10_forget 1 = .ok (.istore_n 2, 1) := by decide +kernel
theorem dX10_forget_2 : decode cX10_forget 2 = .ok (.iload_n 2, 1) := by decide +kernel
theorem dX10_forget_3 : decode cX10_forget 3 = .ok (.bipush 8, 2) := by decide +kernel
theorem dX10_forget_5 : decode cX10_forget 5 = .ok (.if_icmp .ge 21, 3) := by decide +kernel
theorem dX10_forget_8 : decode cX10_forget 8 = .ok (.aload_n 0, 1) := by decide +kernel
theorem dX10_forget_9 : decode cX10_forget 9 = .ok (.getfield 37, 3) := by decide +kernel
theorem dX10_forget_12 : decode cX10_forget 12 = .ok (.bipush 8, 2) := by decide +kernel
theorem dX10_forget_14 : decode cX10_forget 14 = .ok (.iload_n 1, 1) := by decide +kernel
theorem dX10_forget_15 : decode cX10_forget 15 = .ok (.imul, 1) := by decide +kernel
theorem dX10_forget_16 : decode cX10_forget 16 = .ok (.iload_n 2, 1) := by decide +kernel
theorem dX10_forget_17 : decode cX10_forget 17 = .ok (.iadd, 1) := by decide +kernel
theorem dX10_forget_18 : decode cX10_forget 18 = .ok (.iconst 0, 1) := by decide +kernel
theorem dX10_forget_19 : decode cX10_forget 19 = .ok (.iastore, 1) := by decide +kernel
theorem dX10_forget_20 : decode cX10_forget 20 = .ok (.iinc 2 1, 3) := by decide +kernel
theorem dX10_forget_23 : decode cX10_forget 23 = .ok (.goto (-21), 3) := by decide +kernel
theorem dX10_forget_26 : decode cX10_forget 26 = .ok (.return_, 1) := by decide +kernel
theorem dX10_freshPlace_0 : decode cX10_freshPlace 0 = .ok (.aload_n 0, 1) := by decide +kernel
theorem dX10_freshPlace_1 : decode cX10_freshPlace 1 = .ok (.iconst 0, 1) := by decide +kernel
theorem dX10_freshPlace_2 : decode cX10_freshPlace 2 = .ok (.aload_n 0, 1) := by decide +kernel
theorem dX10_freshPlace_3 : decode cX10_freshPlace 3 = .ok (.getfield 31, 3) := by decide +kernel
theorem dX10_freshPlace_6 : decode cX10_freshPlace 6 = .ok (.iconst 0, 1) := by decide +kernel
theorem dX10_freshPlace_7 : decode cX10_freshPlace 7 = .ok (.iaload, 1) := by decide +kernel
theorem dX10_freshPlace_8 : decode cX10_freshPlace 8 = .ok (.iconst 1, 1) := by decide +kernel
theorem dX10_freshPlace_9 : decode cX10_freshPlace 9 = .ok (.isub, 1) := by decide +kernel
theorem dX10_freshPlace_10 : decode cX10_freshPlace 10 = .ok (.invokevirtual 168, 3) := by decide +kernel
theorem dX10_freshPlace_13 : decode cX10_freshPlace 13 = .ok (.ireturn, 1) := by decide +kernel
theorem dX10_freshSeated_0 : decode cX10_freshSeated 0 = .ok (.iconst 0, 1) := by decide +kernel
theorem dX10_freshSeated_1 : decode cX10_freshSeated 1 = .ok (.istore_n 1, 1) := by decide +kernel
theorem dX10_freshSeated_2 : decode cX10_freshSeated 2 = .ok (.iconst 0, 1) := by decide +kernel
theorem dX10_freshSeated_3 : decode cX10_freshSeated 3 = .ok (.istore_n 2, 1) := by decide +kernel
theorem dX10_freshSeated_4 : decode cX10_freshSeated 4 = .ok (.iload_n 2, 1) := by decide +kernel
theorem dX10_freshSeated_5 : decode cX10_freshSeated 5 = .ok (.aload_n 0, 1) := by decide +kernel
theorem dX10_freshSeated_6 : decode cX10_freshSeated 6 = .ok (.getfield 31, 3) := by decide +kernel
theorem dX10_freshSeated_9 : decode cX10_freshSeated 9 = .ok (.iconst 4, 1) := by decide +kernel
theorem dX10_freshSeated_10 : decode cX10_freshSeated 10 = .ok (.iaload, 1) := by decide +kernel
theorem dX10_freshSeated_11 : decode cX10_freshSeated 11 = .ok (.if_icmp .ge 25, 3) := by decide +kernel
theorem dX10_freshSeated_14 : decode cX10_freshSeated 14 = .ok (.iload_n 1, 1) := by decide +kernel
theorem dX10_freshSeated_15 : decode cX10_freshSeated 15 = .ok (.aload_n 0, 1) := by decide +kernel
theorem dX10_freshSeated_16 : decode cX10_freshSeated 16 = .ok (.getfield 31, 3) := by decide +kernel
theorem dX10_freshSeated_19 : decode cX10_freshSeated 19 = .ok (.bipush 104, 2) := by decide +kernel
theorem dX10_freshSeated_21 : decode cX10_freshSeated 21 = .ok (.iconst 2, 1) := by decide +kernel
theorem dX10_freshSeated_22 : decode cX10_freshSeated 22 = .ok (.iload_n 2, 1) := by decide +kernel
theorem dX10_freshSeated_23 : decode cX10_freshSeated 23 = .ok (.imul, 1) := by decide +kernel
theorem dX10_freshSeated_24 : decode cX10_freshSeated 24 = .ok (.iadd, 1) := by decide +kernel
theorem dX10_freshSeated_25 : decode cX10_freshSeated 25 = .ok (.iconst 1, 1) := by decide +kernel
theorem dX10_freshSeated_26 : decode cX10_freshSeated 26 = .ok (.iadd, 1) := by decide +kernel
theorem dX10_freshSeated_27 : decode cX10_freshSeated 27 = .ok (.iaload, 1) := by decide +kernel
theorem dX10_freshSeated_28 : decode cX10_freshSeated 28 = .ok (.ior, 1) := by decide +kernel
theorem dX10_freshSeated_29 : decode cX10_freshSeated 29 = .ok (.istore_n 1, 1) := by decide +kernel
theorem dX10_freshSeated_30 : decode cX10_freshSeated 30 = .ok (.iinc 2 1, 3) := by decide +kernel
theorem dX10_freshSeated_33 : decode cX10_freshSeated 33 = .ok (.goto (-29), 3) := by decide +kernel
theorem dX10_freshSeated_36 : decode cX10_freshSeated 36 = .ok (.iload_n 1, 1) := by decide +kernel
theorem dX10_freshSeated_37 : decode cX10_freshSeated 37 = .ok (.ireturn, 1) := by decide +kernel
theorem dX10_gainBy_0 : decode cX10_gainBy 0 = .ok (.aload_n 0, 1) := by decide +kernel
theorem dX10_gainBy_1 : decode cX10_gainBy 1 = .ok (.getfield 64, 3) := by decide +kernel
theorem dX10_gainBy_4 : decode cX10_gainBy 4 = .ok (.iload_n 1, 1) := by decide +kernel
theorem dX10_gainBy_5 : decode cX10_gainBy 5 = .ok (.iconst 1, 1) := by decide +kernel
theorem dX10_gainBy_6 : decode cX10_gainBy 6 = .ok (.iload_n 2, 1) := by decide +kernel
theorem dX10_gainBy_7 : decode cX10_gainBy 7 = .ok (.ishl, 1) := by decide +kernel
theorem dX10_gainBy_8 : decode cX10_gainBy 8 = .ok (.iconst (-1), 1) := by decide +kernel
theorem dX10_gainBy_9 : decode cX10_gainBy 9 = .ok (.ixor, 1) := by decide +kernel
theorem dX10_gainBy_10 : decode cX10_gainBy 10 = .ok (.iand, 1) := by decide +kernel
theorem dX10_gainBy_11 : decode cX10_gainBy 11 = .ok (.iaload, 1) := by decide +kernel
theorem dX10_gainBy_12 : decode cX10_gainBy 12 = .ok (.iload_n 3, 1) := by decide +kernel
theorem dX10_gainBy_13 : decode cX10_gainBy 13 = .ok (.ifCond .eq 11, 3) := by decide +kernel
theorem dX10_gainBy_16 : decode cX10_gainBy 16 = .ok (.aload_n 0, 1) := by decide +kernel
theorem dX10_gainBy_17 : decode cX10_gainBy 17 = .ok (.iload_n 2, 1) := by decide +kernel
theorem dX10_gainBy_18 : decode cX10_gainBy 18 = .ok (.invokevirtual 396, 3) := by decide +kernel
theorem dX10_gainBy_21 : decode cX10_gainBy 21 = .ok (.goto 10, 3) := by decide +kernel
theorem dX10_gainBy_24 : decode cX10_gainBy 24 = .ok (.aload_n 0, 1) := by decide +kernel
theorem dX10_gainBy_25 : decode cX10_gainBy 25 = .ok (.getfield 34, 3) := by decide +kernel
theorem dX10_gainBy_28 : decode cX10_gainBy 28 = .ok (.iload_n 2, 1) := by decide +kernel
theorem dX10_gainBy_29 : decode cX10_gainBy 29 = .ok (.iaload, 1) := by decide +kernel
theorem dX10_gainBy_30 : decode cX10_gainBy 30 = .ok (.ineg, 1) := by decide +kernel
theorem dX10_gainBy_31 : decode cX10_gainBy 31 = .ok (.iadd, 1) := by decide +kernel
theorem dX10_gainBy_32 : decode cX10_gainBy 32 = .ok (.ireturn, 1) := by decide +kernel
theorem dX10_get_0 : decode cX10_get 0 = .ok (.bipush 74, 2) := by decide +kernel
theorem dX10_get_2 : decode cX10_get 2 = .ok (.iload_n 1, 1) := by decide +kernel
theorem dX10_get_3 : decode cX10_get 3 = .ok (.imul, 1) := by decide +kernel
theorem dX10_get_4 : decode cX10_get 4 = .ok (.istore_n 3, 1) := by decide +kernel
theorem dX10_get_5 : decode cX10_get 5 = .ok (.iconst 0, 1) := by decide +kernel
theorem dX10_get_6 : decode cX10_get 6 = .ok (.istore 4, 2) := by decide +kernel
theorem dX10_get_8 : decode cX10_get 8 = .ok (.iload 4, 2) := by decide +kernel
theorem dX10_get_10 : decode cX10_get 10 = .ok (.bipush 8, 2) := by decide +kernel
theorem dX10_get_12 : decode cX10_get 12 = .ok (.if_icmp .ge 25, 3) := by decide +kernel
theorem dX10_get_15 : decode cX10_get 15 = .ok (.aload_n 0, 1) := by decide +kernel
theorem dX10_get_16 : decode cX10_get 16 = .ok (.getfield 34, 3) := by decide +kernel
theorem dX10_get_19 : decode cX10_get 19 = .ok (.iload 4, 2) := by decide +kernel
theorem dX10_get_21 : decode cX10_get 21 = .ok (.aload_n 0, 1) := by decide +kernel
theorem dX10_get_22 : decode cX10_get 22 = .ok (.getfield 49, 3) := by decide +kernel
theorem dX10_get_25 : decode cX10_get 25 = .ok (.iload_n 3, 1) := by decide +kernel
theorem dX10_get_26 : decode cX10_get 26 = .ok (.iload 4, 2) := by decide +kernel
theorem dX10_get_28 : decode cX10_get 28 = .ok (.iadd, 1) := by decide +kernel
theorem dX10_get_29 : decode cX10_get 29 = .ok (.iaload, 1) := by decide +kernel
theorem dX10_get_30 : decode cX10_get 30 = .ok (.iastore, 1) := by decide +kernel
theorem dX10_get_31 : decode cX10_get 31 = .ok (.iinc 4 1, 3) := by decide +kernel
theorem dX10_get_34 : decode cX10_get 34 = .ok (.goto (-26), 3) := by decide +kernel
theorem dX10_get_37 : decode cX10_get 37 = .ok (.iconst 0, 1) := by decide +kernel
theorem dX10_get_38 : decode cX10_get 38 = .ok (.istore 4, 2) := by decide +kernel
theorem dX10_get_40 : decode cX10_get 40 = .ok (.iload 4, 2) := by decide +kernel
theorem dX10_get_42 : decode cX10_get 42 = .ok (.aload_n 0, 1) := by decide +kernel
theorem dX10_get_43 : decode cX10_get 43 = .ok (.getfield 37, 3) := by decide +kernel
theorem dX10_get_46 : decode cX10_get 46 = .ok (.arraylength, 1) := by decide +kernel
theorem dX10_get_47 : decode cX10_get 47 = .ok (.if_icmp .ge 28, 3) := by decide +kernel
theorem dX10_get_50 : decode cX10_get 50 = .ok (.aload_n 0, 1) := by decide +kernel
theorem dX10_get_51 : decode cX10_get 51 = .ok (.getfield 37, 3) := by decide +kernel
theorem dX10_get_54 : decode cX10_get 54 = .ok (.iload 4, 2) := by decide +kernel
theorem dX10_get_56 : decode cX10_get 56 = .ok (.aload_n 0, 1) := by decide +kernel
theorem dX10_get_57 : decode cX10_get 57 = .ok (.getfield 49, 3) := by decide +kernel
theorem dX10_get_60 : decode cX10_get 60 = .ok (.iload_n 3, 1) := by decide +kernel
theorem dX10_get_61 : decode cX10_get 61 = .ok (.bipush 8, 2) := by decide +kernel
theorem dX10_get_63 : decode cX10_get 63 = .ok (.iadd, 1) := by decide +kernel
theorem dX10_get_64 : decode cX10_get 64 = .ok (.iload 4, 2) := by decide +kernel
theorem dX10_get_66 : decode cX10_get 66 = .ok (.iadd, 1) := by decide +kernel
theorem dX10_get_67 : decode cX10_get 67 = .ok (.iaload, 1) := by decide +kernel
theorem dX10_get_68 : decode cX10_get 68 = .ok (.iastore, 1) := by decide +kernel
theorem dX10_get_69 : decode cX10_get 69 = .ok (.iinc 4 1, 3) := by decide +kernel
theorem dX10_get_72 : decode cX10_get 72 = .ok (.goto (-32), 3) := by decide +kernel
theorem dX10_get_75 : decode cX10_get 75 = .ok (.aload_n 0, 1) := by decide +kernel
theorem dX10_get_76 : decode cX10_get 76 = .ok (.getfield 43, 3) := by decide +kernel
theorem dX10_get_79 : decode cX10_get 79 = .ok (.iload_n 2, 1) := by decide +kernel
theorem dX10_get_80 : decode cX10_get 80 = .ok (.aload_n 0, 1) := by decide +kernel
theorem dX10_get_81 : decode cX10_get 81 = .ok (.getfield 49, 3) := by decide +kernel
theorem dX10_get_84 : decode cX10_get 84 = .ok (.iload_n 3, 1) := by decide +kernel
theorem dX10_get_85 : decode cX10_get 85 = .ok (.bipush 8, 2) := by decide +kernel
theorem dX10_get_87 : decode cX10_get 87 = .ok (.iadd, 1) := by decide +kernel
theorem dX10_get_88 : decode cX10_get 88 = .ok (.aload_n 0, 1) := by decide +kernel
theorem dX10_get_89 : decode cX10_get 89 = .ok (.getfield 37, 3) := by decide +kernel
theorem dX10_get_92 : decode cX10_get 92 = .ok (.arraylength, 1) := by decide +kernel
theorem dX10_get_93 : decode cX10_get 93 = .ok (.iadd, 1) := by decide +kernel
theorem dX10_get_94 : decode cX10_get 94 = .ok (.iaload, 1) := by decide +kernel
theorem dX10_get_95 : decode cX10_get 95 = .ok (.iastore, 1) := by decide +kernel
theorem dX10_get_96 : decode cX10_get 96 = .ok (.aload_n 0, 1) := by decide +kernel
theorem dX10_get_97 : decode cX10_get 97 = .ok (.getfield 46, 3) := by decide +kernel
theorem dX10_get_100 : decode cX10_get 100 = .ok (.iload_n 2, 1) := by decide +kernel
theorem dX10_get_101 : decode cX10_get 101 = .ok (.aload_n 0, 1) := by decide +kernel
theorem dX10_get_102 : decode cX10_get 102 = .ok (.getfield 49, 3) := by decide +kernel
theorem dX10_get_105 : decode cX10_get 105 = .ok (.iload_n 3, 1) := by decide +kernel
theorem dX10_get_106 : decode cX10_get 106 = .ok (.bipush 8, 2) := by decide +kernel
theorem dX10_get_108 : decode cX10_get 108 = .ok (.iadd, 1) := by decide +kernel
theorem dX10_get_109 : decode cX10_get 109 = .ok (.aload_n 0, 1) := by decide +kernel
theorem dX10_get_110 : decode cX10_get 110 = .ok (.getfield 37, 3) := by decide +kernel
theorem dX10_get_113 : decode cX10_get 113 = .ok (.arraylength, 1) := by decide +kernel
theorem dX10_get_114 : decode cX10_get 114 = .ok (.iadd, 1) := by decide +kernel
theorem dX10_get_115 : decode cX10_get 115 = .ok (.iconst 1, 1) := by decide +kernel
theorem dX10_get_116 : decode cX10_get 116 = .ok (.iadd, 1) := by decide +kernel
theorem dX10_get_117 : decode cX10_get 117 = .ok (.iaload, 1) := by decide +kernel
theorem dX10_get_118 : decode cX10_get 118 = .ok (.iastore, 1) := by decide +kernel
theorem dX10_get_119 : decode cX10_get 119 = .ok (.return_, 1) := by decide +kernel
theorem dX10_goDrawn_0 : decode cX10_goDrawn 0 = .ok (.aload_n 0, 1) := by decide +kernel
theorem dX10_goDrawn_1 : decode cX10_goDrawn 1 = .ok (.invokevirtual 273, 3) := by decide +kernel
theorem dX10_goDrawn_4 : decode cX10_goDrawn 4 = .ok (.aload_n 0, 1) := by decide +kernel
theorem dX10_goDrawn_5 : decode cX10_goDrawn 5 = .ok (.getfield 46, 3) := by decide +kernel
theorem dX10_goDrawn_8 : decode cX10_goDrawn 8 = .ok (.iload_n 3, 1) := by decide +kernel
theorem dX10_goDrawn_9 : decode cX10_goDrawn 9 = .ok (.iconst 0, 1) := by decide +kernel
theorem dX10_goDrawn_10 : decode cX10_goDrawn 10 = .ok (.iastore, 1) := by decide +kernel
theorem dX10_goDrawn_11 : decode cX10_goDrawn 11 = .ok (.aload_n 0, 1) := by decide +kernel
theorem dX10_goDrawn_12 : decode cX10_goDrawn 12 = .ok (.iconst 0, 1) := by decide +kernel
theorem dX10_goDrawn_13 : decode cX10_goDrawn 13 = .ok (.putfield 408, 3) := by decide +kernel
theorem dX10_goDrawn_16 : decode cX10_goDrawn 16 = .ok (.lload_n 1, 1) := by decide +kernel
theorem dX10_goDrawn_17 : decode cX10_goDrawn 17 = .ok (.lstore 5, 2) := by decide +kernel
theorem dX10_goDrawn_19 : decode cX10_goDrawn 19 = .ok (.iconst 0, 1) := by decide +kernel
theorem dX10_goDrawn_20 : decode cX10_goDrawn 20 = .ok (.istore 7, 2) := by decide +kernel
theorem dX10_goDrawn_22 : decode cX10_goDrawn 22 = .ok (.iload 7, 2) := by decide +kernel
theorem dX10_goDrawn_24 : decode cX10_goDrawn 24 = .ok (.iload 4, 2) := by decide +kernel
theorem dX10_goDrawn_26 : decode cX10_goDrawn 26 = .ok (.if_icmp .ge 98, 3) := by decide +kernel
theorem dX10_goDrawn_29 : decode cX10_goDrawn 29 = .ok (.aload_n 0, 1) := by decide +kernel
theorem dX10_goDrawn_30 : decode cX10_goDrawn 30 = .ok (.aload_n 0, 1) := by decide +kernel
theorem dX10_goDrawn_31 : decode cX10_goDrawn 31 = .ok (.getfield 43, 3) := by decide +kernel
theorem dX10_goDrawn_34 : decode cX10_goDrawn 34 = .ok (.iload_n 3, 1) := by decide +kernel
theorem dX10_goDrawn_35 : decode cX10_goDrawn 35 = .ok (.iaload, 1) := by decide +kernel
theorem dX10_goDrawn_36 : decode cX10_goDrawn 36 = .ok (.invokevirtual 285, 3) := by decide +kernel
theorem dX10_goDrawn_39 : decode cX10_goDrawn 39 = .ok (.ifCond .eq 85, 3) := by decide +kernel
theorem dX10_goDrawn_42 : decode cX10_goDrawn 42 = .ok (.ldc2_w 411, 3) := by decide +kernel
theorem dX10_goDrawn_45 : decode cX10_goDrawn 45 = .ok (.lload 5, 2) := by decide +kernel
theorem dX10_goDrawn_47 : decode cX10_goDrawn 47 = .ok (.lmul, 1) := by decide +kernel
theorem dX10_goDrawn_48 : decode cX10_goDrawn 48 = .ok (.ldc2_w 413, 3) := by decide +kernel
theorem dX10_goDrawn_51 : decode cX10_goDrawn 51 = .ok (.ladd, 1) := by decide +kernel
theorem dX10_goDrawn_52 : decode cX10_goDrawn 52 = .ok (.ldc2_w 415, 3) := by decide +kernel
theorem dX10_goDrawn_55 : decode cX10_goDrawn 55 = .ok (.lrem, 1) := by decide +kernel
theorem dX10_goDrawn_56 : decode cX10_goDrawn 56 = .ok (.lstore 5, 2) := by decide +kernel
theorem dX10_goDrawn_58 : decode cX10_goDrawn 58 = .ok (.aload_n 0, 1) := by decide +kernel
theorem dX10_goDrawn_59 : decode cX10_goDrawn 59 = .ok (.aload_n 0, 1) := by decide +kernel
theorem dX10_goDrawn_60 : decode cX10_goDrawn 60 = .ok (.getfield 43, 3) := by decide +kernel
theorem dX10_goDrawn_63 : decode cX10_goDrawn 63 = .ok (.iload_n 3, 1) := by decide +kernel
theorem dX10_goDrawn_64 : decode cX10_goDrawn 64 = .ok (.iaload, 1) := by decide +kernel
theorem dX10_goDrawn_65 : decode cX10_goDrawn 65 = .ok (.lload 5, 2) := by decide +kernel
theorem dX10_goDrawn_67 : decode cX10_goDrawn 67 = .ok (.ldc2_w 417, 3) := by decide +kernel
theorem dX10_goDrawn_70 : decode cX10_goDrawn 70 = .ok (.ldiv, 1) := by decide +kernel
theorem dX10_goDrawn_71 : decode cX10_goDrawn 71 = .ok (.aload_n 0, 1) := by decide +kernel
theorem dX10_goDrawn_72 : decode cX10_goDrawn 72 = .ok (.aload_n 0, 1) := by decide +kernel
theorem dX10_goDrawn_73 : decode cX10_goDrawn 73 = .ok (.getfield 43, 3) := by decide +kernel
theorem dX10_goDrawn_76 : decode cX10_goDrawn 76 = .ok (.iload_n 3, 1) := by decide +kernel
theorem dX10_goDrawn_77 : decode cX10_goDrawn 77 = .ok (.iaload, 1) := by decide +kernel
theorem dX10_goDrawn_78 : decode cX10_goDrawn 78 = .ok (.invokevirtual 285, 3) := by decide +kernel
theorem dX10_goDrawn_81 : decode cX10_goDrawn 81 = .ok (.invokestatic 190, 3) := by decide +kernel
theorem dX10_goDrawn_84 : decode cX10_goDrawn 84 = .ok (.i2l, 1) := by decide +kernel
theorem dX10_goDrawn_85 : decode cX10_goDrawn 85 = .ok (.lrem, 1) := by decide +kernel
theorem dX10_goDrawn_86 : decode cX10_goDrawn 86 = .ok (.l2i, 1) := by decide +kernel
theorem dX10_goDrawn_87 : decode cX10_goDrawn 87 = .ok (.invokevirtual 419, 3) := by decide +kernel
theorem dX10_goDrawn_90 : decode cX10_goDrawn 90 = .ok (.istore 8, 2) := by decide +kernel
theorem dX10_goDrawn_92 : decode cX10_goDrawn 92 = .ok (.aload_n 0, 1) := by decide +kernel
theorem dX10_goDrawn_93 : decode cX10_goDrawn 93 = .ok (.dup, 1) := by decide +kernel
theorem dX10_goDrawn_94 : decode cX10_goDrawn 94 = .ok (.getfield 408, 3) := by decide +kernel
theorem dX10_goDrawn_97 : decode cX10_goDrawn 97 = .ok (.aload_n 0, 1) := by decide +kernel
theorem dX10_goDrawn_98 : decode cX10_goDrawn 98 = .ok (.iload_n 3, 1) := by decide +kernel
theorem dX10_goDrawn_99 : decode cX10_goDrawn 99 = .ok (.iload 8, 2) := by decide +kernel
theorem dX10_goDrawn_101 : decode cX10_goDrawn 101 = .ok (.invokevirtual 233, 3) := by decide +kernel
theorem dX10_goDrawn_104 : decode cX10_goDrawn 104 = .ok (.iload 8, 2) := by decide +kernel
theorem dX10_goDrawn_106 : decode cX10_goDrawn 106 = .ok (.if_icmp .ne 7, 3) := by decide +kernel
theorem dX10_goDrawn_109 : decode cX10_goDrawn 109 = .ok (.iconst 0, 1) := by decide +kernel
theorem dX10_goDrawn_110 : decode cX10_goDrawn 110 = .ok (.goto 4, 3) := by decide +kernel
theorem dX10_goDrawn_113 : decode cX10_goDrawn 113 = .ok (.iconst 1, 1) := by decide +kernel
theorem dX10_goDrawn_114 : decode cX10_goDrawn 114 = .ok (.iadd, 1) := by decide +kernel
theorem dX10_goDrawn_115 : decode cX10_goDrawn 115 = .ok (.putfield 408, 3) := by decide +kernel
theorem dX10_goDrawn_118 : decode cX10_goDrawn 118 = .ok (.iinc 7 1, 3) := by decide +kernel
theorem dX10_goDrawn_121 : decode cX10_goDrawn 121 = .ok (.goto (-99), 3) := by decide +kernel
theorem dX10_goDrawn_124 : decode cX10_goDrawn 124 = .ok (.return_, 1) := by decide +kernel
theorem dX10_goRoam_0 : decode cX10_goRoam 0 = .ok (.aload_n 0, 1) := by decide +kernel
theorem dX10_goRoam_1 : decode cX10_goRoam 1 = .ok (.invokevirtual 273, 3) := by decide +kernel
theorem dX10_goRoam_4 : decode cX10_goRoam 4 = .ok (.aload_n 0, 1) := by decide +kernel
theorem dX10_goRoam_5 : decode cX10_goRoam 5 = .ok (.getfield 61, 3) := by decide +kernel
theorem dX10_goRoam_8 : decode cX10_goRoam 8 = .ok (.iconst 0, 1) := by decide +kernel
theorem dX10_goRoam_9 : decode cX10_goRoam 9 = .ok (.aload_n 0, 1) := by decide +kernel
theorem dX10_goRoam_10 : decode cX10_goRoam 10 = .ok (.getfield 43, 3) := by decide +kernel
theorem dX10_goRoam_13 : decode cX10_goRoam 13 = .ok (.iload_n 1, 1) := by decide +kernel
theorem dX10_goRoam_14 : decode cX10_goRoam 14 = .ok (.iaload, 1) := by decide +kernel
theorem dX10_goRoam_15 : decode cX10_goRoam 15 = .ok (.iastore, 1) := by decide +kernel
theorem dX10_goRoam_16 : decode cX10_goRoam 16 = .ok (.iconst 1, 1) := by decide +kernel
theorem dX10_goRoam_17 : decode cX10_goRoam 17 = .ok (.istore_n 2, 1) := by decide +kernel
theorem dX10_goRoam_18 : decode cX10_goRoam 18 = .ok (.iload_n 2, 1) := by decide +kernel
theorem dX10_goRoam_19 : decode cX10_goRoam 19 = .ok (.bipush 40, 2) := by decide +kernel
theorem dX10_goRoam_21 : decode cX10_goRoam 21 = .ok (.if_icmp .gt 28, 3) := by decide +kernel
theorem dX10_goRoam_24 : decode cX10_goRoam 24 = .ok (.aload_n 0, 1) := by decide +kernel
theorem dX10_goRoam_25 : decode cX10_goRoam 25 = .ok (.iload_n 1, 1) := by decide +kernel
theorem dX10_goRoam_26 : decode cX10_goRoam 26 = .ok (.iconst (-1), 1) := by decide +kernel
theorem dX10_goRoam_27 : decode cX10_goRoam 27 = .ok (.invokevirtual 233, 3) := by decide +kernel
theorem dX10_goRoam_30 : decode cX10_goRoam 30 = .ok (.pop, 1) := by decide +kernel
theorem dX10_goRoam_31 : decode cX10_goRoam 31 = .ok (.aload_n 0, 1) := by decide +kernel
theorem dX10_goRoam_32 : decode cX10_goRoam 32 = .ok (.getfield 61, 3) := by decide +kernel
theorem dX10_goRoam_35 : decode cX10_goRoam 35 = .ok (.iload_n 2, 1) := by decide +kernel
theorem dX10_goRoam_36 : decode cX10_goRoam 36 = .ok (.aload_n 0, 1) := by decide +kernel
theorem dX10_goRoam_37 : decode cX10_goRoam 37 = .ok (.getfield 43, 3) := by decide +kernel
theorem dX10_goRoam_40 : decode cX10_goRoam 40 = .ok (.iload_n 1, 1) := by decide +kernel
theorem dX10_goRoam_41 : decode cX10_goRoam 41 = .ok (.iaload, 1) := by decide +kernel
theorem dX10_goRoam_42 : decode cX10_goRoam 42 = .ok (.iastore, 1) := by decide +kernel
theorem dX10_goRoam_43 : decode cX10_goRoam 43 = .ok (.iinc 2 1, 3) := by decide +kernel
theorem dX10_goRoam_46 : decode cX10_goRoam 46 = .ok (.goto (-28), 3) := by decide +kernel
theorem dX10_goRoam_49 : decode cX10_goRoam 49 = .ok (.return_, 1) := by decide +kernel
theorem dX10_goRow_0 : decode cX10_goRow 0 = .ok (.aload_n 0, 1) := by decide +kernel
theorem dX10_goRow_1 : decode cX10_goRow 1 = .ok (.invokevirtual 273, 3) := by decide +kernel
theorem dX10_goRow_4 : decode cX10_goRow 4 = .ok (.aload_n 0, 1) := by decide +kernel
theorem dX10_goRow_5 : decode cX10_goRow 5 = .ok (.getfield 46, 3) := by decide +kernel
theorem dX10_goRow_8 : decode cX10_goRow 8 = .ok (.iload_n 2, 1) := by decide +kernel
theorem dX10_goRow_9 : decode cX10_goRow 9 = .ok (.iconst 0, 1) := by decide +kernel
theorem dX10_goRow_10 : decode cX10_goRow 10 = .ok (.iastore, 1) := by decide +kernel
theorem dX10_goRow_11 : decode cX10_goRow 11 = .ok (.aload_n 0, 1) := by decide +kernel
theorem dX10_goRow_12 : decode cX10_goRow 12 = .ok (.iconst 0, 1) := by decide +kernel
theorem dX10_goRow_13 : decode cX10_goRow 13 = .ok (.putfield 307, 3) := by decide +kernel
theorem dX10_goRow_16 : decode cX10_goRow 16 = .ok (.aload_n 0, 1) := by decide +kernel
theorem dX10_goRow_17 : decode cX10_goRow 17 = .ok (.iconst (-1), 1) := by decide +kernel
theorem dX10_goRow_18 : decode cX10_goRow 18 = .ok (.putfield 310, 3) := by decide +kernel
theorem dX10_goRow_21 : decode cX10_goRow 21 = .ok (.aload_n 0, 1) := by decide +kernel
theorem dX10_goRow_22 : decode cX10_goRow 22 = .ok (.iconst (-1), 1) := by decide +kernel
theorem dX10_goRow_23 : decode cX10_goRow 23 = .ok (.putfield 313, 3) := by decide +kernel
theorem dX10_goRow_26 : decode cX10_goRow 26 = .ok (.aload_n 0, 1) := by decide +kernel
theorem dX10_goRow_27 : decode cX10_goRow 27 = .ok (.getfield 307, 3) := by decide +kernel
theorem dX10_goRow_30 : decode cX10_goRow 30 = .ok (.aload_n 0, 1) := by decide +kernel
theorem dX10_goRow_31 : decode cX10_goRow 31 = .ok (.getfield 67, 3) := by decide +kernel
theorem dX10_goRow_34 : decode cX10_goRow 34 = .ok (.iload_n 1, 1) := by decide +kernel
theorem dX10_goRow_35 : decode cX10_goRow 35 = .ok (.iaload, 1) := by decide +kernel
theorem dX10_goRow_36 : decode cX10_goRow 36 = .ok (.if_icmp .ge 119, 3) := by decide +kernel
theorem dX10_goRow_39 : decode cX10_goRow 39 = .ok (.aload_n 0, 1) := by decide +kernel
theorem dX10_goRow_40 : decode cX10_goRow 40 = .ok (.iload_n 1, 1) := by decide +kernel
theorem dX10_goRow_41 : decode cX10_goRow 41 = .ok (.aload_n 0, 1) := by decide +kernel
theorem dX10_goRow_42 : decode cX10_goRow 42 = .ok (.getfield 307, 3) := by decide +kernel
theorem dX10_goRow_45 : decode cX10_goRow 45 = .ok (.invokevirtual 303, 3) := by decide +kernel
theorem dX10_goRow_48 : decode cX10_goRow 48 = .ok (.l2i, 1) := by decide +kernel
theorem dX10_goRow_49 : decode cX10_goRow 49 = .ok (.istore_n 3, 1) := by decide +kernel
theorem dX10_goRow_50 : decode cX10_goRow 50 = .ok (.aload_n 0, 1) := by decide +kernel
theorem dX10_goRow_51 : decode cX10_goRow 51 = .ok (.aload_n 0, 1) := by decide +kernel
theorem dX10_goRow_52 : decode cX10_goRow 52 = .ok (.getfield 43, 3) := by decide +kernel
theorem dX10_goRow_55 : decode cX10_goRow 55 = .ok (.iload_n 2, 1) := by decide +kernel
theorem dX10_goRow_56 : decode cX10_goRow 56 = .ok (.iaload, 1) := by decide +kernel
theorem dX10_goRow_57 : decode cX10_goRow 57 = .ok (.invokevirtual 285, 3) := by decide +kernel
theorem dX10_goRow_60 : decode cX10_goRow 60 = .ok (.ifCond .eq 22, 3) := by decide +kernel
theorem dX10_goRow_63 : decode cX10_goRow 63 = .ok (.iload_n 3, 1) := by decide +kernel
theorem dX10_goRow_64 : decode cX10_goRow 64 = .ok (.iconst (-1), 1) := by decide +kernel
theorem dX10_goRow_65 : decode cX10_goRow 65 = .ok (.if_icmp .eq 18, 3) := by decide +kernel
theorem dX10_goRow_68 : decode cX10_goRow 68 = .ok (.aload_n 0, 1) := by decide +kernel
theorem dX10_goRow_69 : decode cX10_goRow 69 = .ok (.iload_n 3, 1) := by decide +kernel
theorem dX10_goRow_70 : decode cX10_goRow 70 = .ok (.aload_n 0, 1) := by decide +kernel
theorem dX10_goRow_71 : decode cX10_goRow 71 = .ok (.getfield 43, 3) := by decide +kernel
theorem dX10_goRow_74 : decode cX10_goRow 74 = .ok (.iload_n 2, 1) := by decide +kernel
theorem dX10_goRow_75 : decode cX10_goRow 75 = .ok (.iaload, 1) := by decide +kernel
theorem dX10_goRow_76 : decode cX10_goRow 76 = .ok (.invokevirtual 93, 3) := by decide +kernel
theorem dX10_goRow_79 : decode cX10_goRow 79 = .ok (.ifCond .ne 4, 3) := by decide +kernel
theorem dX10_goRow_82 : decode cX10_goRow 82 = .ok (.return_, 1) := by decide +kernel
theorem dX10_goRow_83 : decode cX10_goRow 83 = .ok (.aload_n 0, 1) := by decide +kernel
theorem dX10_goRow_84 : decode cX10_goRow 84 = .ok (.iload_n 2, 1) := by decide +kernel
theorem dX10_goRow_85 : decode cX10_goRow 85 = .ok (.iload_n 3, 1) := by decide +kernel
theorem dX10_goRow_86 : decode cX10_goRow 86 = .ok (.invokevirtual 233, 3) := by decide +kernel
theorem dX10_goRow_89 : decode cX10_goRow 89 = .ok (.istore 4, 2) := by decide +kernel
theorem dX10_goRow_91 : decode cX10_goRow 91 = .ok (.aload_n 0, 1) := by decide +kernel
theorem dX10_goRow_92 : decode cX10_goRow 92 = .ok (.getfield 310, 3) := by decide +kernel
theorem dX10_goRow_95 : decode cX10_goRow 95 = .ok (.iconst (-1), 1) := by decide +kernel
theorem dX10_goRow_96 : decode cX10_goRow 96 = .ok (.if_icmp .ne 22, 3) := by decide +kernel
theorem dX10_goRow_99 : decode cX10_goRow 99 = .ok (.iload_n 3, 1) := by decide +kernel
theorem dX10_goRow_100 : decode cX10_goRow 100 = .ok (.iconst (-1), 1) := by decide +kernel
theorem dX10_goRow_101 : decode cX10_goRow 101 = .ok (.if_icmp .eq 17, 3) := by decide +kernel
theorem dX10_goRow_104 : decode cX10_goRow 104 = .ok (.iload 4, 2) := by decide +kernel
theorem dX10_goRow_106 : decode cX10_goRow 106 = .ok (.iload_n 3, 1) := by decide +kernel
theorem dX10_goRow_107 : decode cX10_goRow 107 = .ok (.if_icmp .eq 11, 3) := by decide +kernel
theorem dX10_goRow_110 : decode cX10_goRow 110 = .ok (.aload_n 0, 1) := by decide +kernel
theorem dX10_goRow_111 : decode cX10_goRow 111 = .ok (.aload_n 0, 1) := by decide +kernel
theorem dX10_goRow_112 : decode cX10_goRow 112 = .ok (.getfield 307, 3) := by decide +kernel
theorem dX10_goRow_115 : decode cX10_goRow 115 = .ok (.putfield 310, 3) := by decide +kernel
theorem dX10_goRow_118 : decode cX10_goRow 118 = .ok (.aload_n 0, 1) := by decide +kernel
theorem dX10_goRow_119 : decode cX10_goRow 119 = .ok (.getfield 313, 3) := by decide +kernel
theorem dX10_goRow_122 : decode cX10_goRow 122 = .ok (.iconst (-1), 1) := by decide +kernel
theorem dX10_goRow_123 : decode cX10_goRow 123 = .ok (.if_icmp .ne 19, 3) := by decide +kernel
theorem dX10_goRow_126 : decode cX10_goRow 126 = .ok (.aload_n 0, 1) := by decide +kernel
theorem dX10_goRow_127 : decode cX10_goRow 127 = .ok (.iload_n 2, 1) := by decide +kernel
theorem dX10_goRow_128 : decode cX10_goRow 128 = .ok (.invokevirtual 316, 3) := by decide +kernel
theorem dX10_goRow_131 : decode cX10_goRow 131 = .ok (.ifCond .eq 11, 3) := by decide +kernel
theorem dX10_goRow_134 : decode cX10_goRow 134 = .ok (.aload_n 0, 1) := by decide +kernel
theorem dX10_goRow_135 : decode cX10_goRow 135 = .ok (.aload_n 0, 1) := by decide +kernel
theorem dX10_goRow_136 : decode cX10_goRow 136 = .ok (.getfield 307, 3) := by decide +kernel
theorem dX10_goRow_139 : decode cX10_goRow 139 = .ok (.putfield 313, 3) := by decide +kernel
theorem dX10_goRow_142 : decode cX10_goRow 142 = .ok (.aload_n 0, 1) := by decide +kernel
theorem dX10_goRow_143 : decode cX10_goRow 143 = .ok (.dup, 1) := by decide +kernel
theorem dX10_goRow_144 : decode cX10_goRow 144 = .ok (.getfield 307, 3) := by decide +kernel
theorem dX10_goRow_147 : decode cX10_goRow 147 = .ok (.iconst 1, 1) := by decide +kernel
theorem dX10_goRow_148 : decode cX10_goRow 148 = .ok (.iadd, 1) := by decide +kernel
theorem dX10_goRow_149 : decode cX10_goRow 149 = .ok (.putfield 307, 3) := by decide +kernel
theorem dX10_goRow_152 : decode cX10_goRow 152 = .ok (.goto (-126), 3) := by decide +kernel
theorem dX10_goRow_155 : decode cX10_goRow 155 = .ok (.return_, 1) := by decide +kernel
theorem dX10_goes_0 : decode cX10_goes 0 = .ok (.aload_n 0, 1) := by decide +kernel
theorem dX10_goes_1 : decode cX10_goes 1 = .ok (.iload_n 1, 1) := by decide +kernel
theorem dX10_goes_2 : decode cX10_goes 2 = .ok (.iload_n 2, 1) := by decide +kernel
theorem dX10_goes_3 : decode cX10_goes 3 = .ok (.invokevirtual 319, 3) := by decide +kernel
theorem dX10_goes_6 : decode cX10_goes 6 = .ok (.istore_n 3, 1) := by decide +kernel
theorem dX10_goes_7 : decode cX10_goes 7 = .ok (.iload_n 3, 1) := by decide +kernel
theorem dX10_goes_8 : decode cX10_goes 8 = .ok (.ifCond .ge 5, 3) := by decide +kernel
theorem dX10_goes_11 : decode cX10_goes 11 = .ok (.iload_n 3, 1) := by decide +kernel
theorem dX10_goes_12 : decode cX10_goes 12 = .ok (.ireturn, 1) := by decide +kernel
theorem dX10_goes_13 : decode cX10_goes 13 = .ok (.aload_n 0, 1) := by decide +kernel
theorem dX10_goes_14 : decode cX10_goes 14 = .ok (.iload_n 1, 1) := by decide +kernel
theorem dX10_goes_15 : decode cX10_goes 15 = .ok (.iload_n 2, 1) := by decide +kernel
theorem dX10_goes_16 : decode cX10_goes 16 = .ok (.invokevirtual 322, 3) := by decide +kernel
theorem dX10_goes_19 : decode cX10_goes 19 = .ok (.aload_n 0, 1) := by decide +kernel
theorem dX10_goes_20 : decode cX10_goes 20 = .ok (.getfield 307, 3) := by decide +kernel
theorem dX10_goes_23 : decode cX10_goes 23 = .ok (.ireturn, 1) := by decide +kernel
theorem dX10_good_0 : decode cX10_good 0 = .ok (.aload_n 0, 1) := by decide +kernel
theorem dX10_good_1 : decode cX10_good 1 = .ok (.getfield 133, 3) := by decide +kernel
