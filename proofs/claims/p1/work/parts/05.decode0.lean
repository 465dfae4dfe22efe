theorem dX10_agree_0 : decode cX10_agree 0 = .ok (.aload_n 0, 1) := by decide +kernel
theorem dX10_agree_1 : decode cX10_agree 1 = .ok (.iload_n 1, 1) := by decide +kernel
theorem dX10_agree_2 : decode cX10_agree 2 = .ok (.invokevirtual 269, 3) := by decide +kernel
theorem dX10_agree_5 : decode cX10_agree 5 = .ok (.ifCond .eq 11, 3) := by decide +kernel
theorem dX10_agree_16 : decode cX10_agree 16 = .ok (.bipush (-2), 2) := by decide +kernel
theorem dX10_agree_18 : decode cX10_agree 18 = .ok (.ireturn, 1) := by decide +kernel
theorem dX10_anew_0 : decode cX10_anew 0 = .ok (.aload_n 0, 1) := by decide +kernel
theorem dX10_anew_1 : decode cX10_anew 1 = .ok (.invokevirtual 297, 3) := by decide +kernel
theorem dX10_anew_4 : decode cX10_anew 4 = .ok (.ifCond .ne 6, 3) := by decide +kernel
theorem dX10_anew_7 : decode cX10_anew 7 = .ok (.bipush (-2), 2) := by decide +kernel
theorem dX10_anew_9 : decode cX10_anew 9 = .ok (.ireturn, 1) := by decide +kernel
theorem dX10_argue_0 : decode cX10_argue 0 = .ok (.iload_n 2, 1) := by decide +kernel
theorem dX10_argue_1 : decode cX10_argue 1 = .ok (.iconst (-1), 1) := by decide +kernel
theorem dX10_argue_2 : decode cX10_argue 2 = .ok (.if_icmp .eq 13, 3) := by decide +kernel
theorem dX10_argue_5 : decode cX10_argue 5 = .ok (.aload_n 0, 1) := by decide +kernel
theorem dX10_argue_6 : decode cX10_argue 6 = .ok (.iload_n 1, 1) := by decide +kernel
theorem dX10_argue_7 : decode cX10_argue 7 = .ok (.iload_n 2, 1) := by decide +kernel
theorem dX10_argue_8 : decode cX10_argue 8 = .ok (.i2l, 1) := by decide +kernel
theorem dX10_argue_9 : decode cX10_argue 9 = .ok (.invokevirtual 290, 3) := by decide +kernel
theorem dX10_argue_12 : decode cX10_argue 12 = .ok (.ifCond .ne 6, 3) := by decide +kernel
theorem dX10_argue_15 : decode cX10_argue 15 = .ok (.bipush (-2), 2) := by decide +kernel
theorem dX10_argue_17 : decode cX10_argue 17 = .ok (.ireturn, 1) := by decide +kernel
theorem dX10_aside_0 : decode cX10_aside 0 = .ok (.aload_n 0, 1) := by decide +kernel
theorem dX10_aside_1 : decode cX10_aside 1 = .ok (.iload_n 1, 1) := by decide +kernel
theorem dX10_aside_2 : decode cX10_aside 2 = .ok (.invokevirtual 279, 3) := by decide +kernel
theorem dX10_aside_5 : decode cX10_aside 5 = .ok (.ifCond .ne 6, 3) := by decide +kernel
theorem dX10_aside_8 : decode cX10_aside 8 = .ok (.bipush (-2), 2) := by decide +kernel
theorem dX10_aside_10 : decode cX10_aside 10 = .ok (.ireturn, 1) := by decide +kernel
theorem dX10_ask_0 : decode cX10_ask 0 = .ok (.aload_n 0, 1) := by decide +kernel
theorem dX10_ask_1 : decode cX10_ask 1 = .ok (.iload_n 1, 1) := by decide +kernel
theorem dX10_ask_2 : decode cX10_ask 2 = .ok (.invokevirtual 361, 3) := by decide +kernel
theorem dX10_ask_5 : decode cX10_ask 5 = .ok (.istore_n 2, 1) := by decide +kernel
theorem dX10_ask_6 : decode cX10_ask 6 = .ok (.iload_n 2, 1) := by decide +kernel
theorem dX10_ask_7 : decode cX10_ask 7 = .ok (.ifCond .ge 7, 3) := by decide +kernel
theorem dX10_ask_10 : decode cX10_ask 10 = .ok (.iload_n 2, 1) := by decide +kernel
theorem dX10_ask_11 : decode cX10_ask 11 = .ok (.goto 8, 3) := by decide +kernel
theorem dX10_ask_19 : decode cX10_ask 19 = .ok (.ireturn, 1) := by decide +kernel
theorem dX10_asksRow_0 : decode cX10_asksRow 0 = .ok (.iload_n 1, 1) := by decide +kernel
theorem dX10_asksRow_1 : decode cX10_asksRow 1 = .ok (.invokestatic 300, 3) := by decide +kernel
theorem dX10_asksRow_4 : decode cX10_asksRow 4 = .ok (.ifCond .eq 11, 3) := by decide +kernel
theorem dX10_asksRow_7 : decode cX10_asksRow 7 = .ok (.aload_n 0, 1) := by decide +kernel
theorem dX10_asksRow_8 : decode cX10_asksRow 8 = .ok (.iload_n 2, 1) := by decide +kernel
theorem dX10_asksRow_9 : decode cX10_asksRow 9 = .ok (.invokevirtual 279, 3) := by decide +kernel
theorem dX10_asksRow_12 : decode cX10_asksRow 12 = .ok (.ifCond .ne 6, 3) := by decide +kernel
theorem dX10_asksRow_15 : decode cX10_asksRow 15 = .ok (.bipush (-2), 2) := by decide +kernel
theorem dX10_asksRow_17 : decode cX10_asksRow 17 = .ok (.ireturn, 1) := by decide +kernel
theorem dX10_asksSeen_0 : decode cX10_asksSeen 0 = .ok (.iload_n 1, 1) := by decide +kernel
theorem dX10_asksSeen_1 : decode cX10_asksSeen 1 = .ok (.invokestatic 300, 3) := by decide +kernel
theorem dX10_asksSeen_4 : decode cX10_asksSeen 4 = .ok (.ifCond .eq 10, 3) := by decide +kernel
theorem dX10_asksSeen_7 : decode cX10_asksSeen 7 = .ok (.aload_n 0, 1) := by decide +kernel
theorem dX10_asksSeen_8 : decode cX10_asksSeen 8 = .ok (.invokevirtual 297, 3) := by decide +kernel
theorem dX10_asksSeen_11 : decode cX10_asksSeen 11 = .ok (.ifCond .ne 6, 3) := by decide +kernel
theorem dX10_asksSeen_14 : decode cX10_asksSeen 14 = .ok (.bipush (-2), 2) := by decide +kernel
theorem dX10_asksSeen_16 : decode cX10_asksSeen 16 = .ok (.ireturn, 1) := by decide +kernel
theorem dX10_astray_0 : decode cX10_astray 0 = .ok (.aload_n 0, 1) := by decide +kernel
theorem dX10_astray_1 : decode cX10_astray 1 = .ok (.iload_n 1, 1) := by decide +kernel
theorem dX10_astray_2 : decode cX10_astray 2 = .ok (.iload_n 2, 1) := by decide +kernel
theorem dX10_astray_3 : decode cX10_astray 3 = .ok (.invokevirtual 319, 3) := by decide +kernel
theorem dX10_astray_6 : decode cX10_astray 6 = .ok (.istore_n 3, 1) := by decide +kernel
theorem dX10_astray_7 : decode cX10_astray 7 = .ok (.iload_n 3, 1) := by decide +kernel
theorem dX10_astray_8 : decode cX10_astray 8 = .ok (.ifCond .ge 5, 3) := by decide +kernel
theorem dX10_astray_11 : decode cX10_astray 11 = .ok (.iload_n 3, 1) := by decide +kernel
theorem dX10_astray_12 : decode cX10_astray 12 = .ok (.ireturn, 1) := by decide +kernel
theorem dX10_back_0 : decode cX10_back 0 = .ok (.iload_n 1, 1) := by decide +kernel
theorem dX10_back_1 : decode cX10_back 1 = .ok (.i2l, 1) := by decide +kernel
theorem dX10_back_2 : decode cX10_back 2 = .ok (.lconst 0, 1) := by decide +kernel
theorem dX10_back_3 : decode cX10_back 3 = .ok (.ldc2_w 83, 3) := by decide +kernel
theorem dX10_back_6 : decode cX10_back 6 = .ok (.invokestatic 85, 3) := by decide +kernel
theorem dX10_back_9 : decode cX10_back 9 = .ok (.ifCond .ne 6, 3) := by decide +kernel
theorem dX10_back_12 : decode cX10_back 12 = .ok (.bipush (-2), 2) := by decide +kernel
theorem dX10_back_14 : decode cX10_back 14 = .ok (.ireturn, 1) := by decide +kernel
theorem dX10_back_15 : decode cX10_back 15 = .ok (.aload_n 0, 1) := by decide +kernel
theorem dX10_back_16 : decode cX10_back 16 = .ok (.getfield 16, 3) := by decide +kernel
theorem dX10_back_19 : decode cX10_back 19 = .ok (.iload_n 1, 1) := by decide +kernel
theorem dX10_back_20 : decode cX10_back 20 = .ok (.baload, 1) := by decide +kernel
theorem dX10_back_21 : decode cX10_back 21 = .ok (.ifCond .ne 6, 3) := by decide +kernel
theorem dX10_back_24 : decode cX10_back 24 = .ok (.bipush (-6), 2) := by decide +kernel
theorem dX10_back_26 : decode cX10_back 26 = .ok (.ireturn, 1) := by decide +kernel
theorem dX10_blind_0 : decode cX10_blind 0 = .ok (.iload_n 2, 1) := by decide +kernel
theorem dX10_blind_1 : decode cX10_blind 1 = .ok (.iconst (-1), 1) := by decide +kernel
theorem dX10_blind_2 : decode cX10_blind 2 = .ok (.if_icmp .eq 13, 3) := by decide +kernel
theorem dX10_blind_5 : decode cX10_blind 5 = .ok (.aload_n 0, 1) := by decide +kernel
theorem dX10_blind_6 : decode cX10_blind 6 = .ok (.iload_n 1, 1) := by decide +kernel
theorem dX10_blind_7 : decode cX10_blind 7 = .ok (.iload_n 2, 1) := by decide +kernel
theorem dX10_blind_8 : decode cX10_blind 8 = .ok (.i2l, 1) := by decide +kernel
theorem dX10_blind_9 : decode cX10_blind 9 = .ok (.invokevirtual 290, 3) := by decide +kernel
theorem dX10_blind_12 : decode cX10_blind 12 = .ok (.ifCond .ne 6, 3) := by decide +kernel
theorem dX10_blind_15 : decode cX10_blind 15 = .ok (.bipush (-2), 2) := by decide +kernel
theorem dX10_blind_17 : decode cX10_blind 17 = .ok (.ireturn, 1) := by decide +kernel
theorem dX10_blinds_0 : decode cX10_blinds 0 = .ok (.iload_n 2, 1) := by decide +kernel
theorem dX10_blinds_1 : decode cX10_blinds 1 = .ok (.iconst (-1), 1) := by decide +kernel
theorem dX10_blinds_2 : decode cX10_blinds 2 = .ok (.if_icmp .eq 13, 3) := by decide +kernel
theorem dX10_blinds_5 : decode cX10_blinds 5 = .ok (.aload_n 0, 1) := by decide +kernel
theorem dX10_blinds_6 : decode cX10_blinds 6 = .ok (.iload_n 1, 1) := by decide +kernel
theorem dX10_blinds_7 : decode cX10_blinds 7 = .ok (.iload_n 2, 1) := by decide +kernel
theorem dX10_blinds_8 : decode cX10_blinds 8 = .ok (.i2l, 1) := by decide +kernel
theorem dX10_blinds_9 : decode cX10_blinds 9 = .ok (.invokevirtual 290, 3) := by decide +kernel
theorem dX10_blinds_12 : decode cX10_blinds 12 = .ok (.ifCond .ne 8, 3) := by decide +kernel
theorem dX10_blinds_15 : decode cX10_blinds 15 = .ok (.bipush (-2), 2) := by decide +kernel
theorem dX10_blinds_17 : decode cX10_blinds 17 = .ok (.goto 9, 3) := by decide +kernel
theorem dX10_blinds_26 : decode cX10_blinds 26 = .ok (.ireturn, 1) := by decide +kernel
theorem dX10_canWant_0 : decode cX10_canWant 0 = .ok (.aload_n 0, 1) := by decide +kernel
theorem dX10_canWant_1 : decode cX10_canWant 1 = .ok (.iload_n 1, 1) := by decide +kernel
theorem dX10_canWant_2 : decode cX10_canWant 2 = .ok (.invokevirtual 279, 3) := by decide +kernel
theorem dX10_canWant_5 : decode cX10_canWant 5 = .ok (.ifCond .eq 19, 3) := by decide +kernel
theorem dX10_canWant_24 : decode cX10_canWant 24 = .ok (.iconst 0, 1) := by decide +kernel
theorem dX10_canWant_25 : decode cX10_canWant 25 = .ok (.ireturn, 1) := by decide +kernel
theorem dX10_cart_0 : decode cX10_cart 0 = .ok (.aload_n 0, 1) := by decide +kernel
theorem dX10_cart_1 : decode cX10_cart 1 = .ok (.iload_n 1, 1) := by decide +kernel
theorem dX10_cart_2 : decode cX10_cart 2 = .ok (.invokevirtual 279, 3) := by decide +kernel
theorem dX10_cart_5 : decode cX10_cart 5 = .ok (.ifCond .eq 15, 3) := by decide +kernel
theorem dX10_cart_20 : decode cX10_cart 20 = .ok (.bipush (-2), 2) := by decide +kernel
theorem dX10_cart_22 : decode cX10_cart 22 = .ok (.ireturn, 1) := by decide +kernel
theorem dX10_choose_0 : decode cX10_choose 0 = .ok (.aload_n 0, 1) := by decide +kernel
theorem dX10_choose_1 : decode cX10_choose 1 = .ok (.iload_n 1, 1) := by decide +kernel
theorem dX10_choose_2 : decode cX10_choose 2 = .ok (.invokevirtual 279, 3) := by decide +kernel
theorem dX10_choose_5 : decode cX10_choose 5 = .ok (.ifCond .eq 12, 3) := by decide +kernel
theorem dX10_choose_17 : decode cX10_choose 17 = .ok (.bipush (-2), 2) := by decide +kernel
theorem dX10_choose_19 : decode cX10_choose 19 = .ok (.ireturn, 1) := by decide +kernel
theorem dX10_chosen_0 : decode cX10_chosen 0 = .ok (.aload_n 0, 1) := by decide +kernel
theorem dX10_chosen_1 : decode cX10_chosen 1 = .ok (.iload_n 1, 1) := by decide +kernel
theorem dX10_chosen_2 : decode cX10_chosen 2 = .ok (.invokevirtual 279, 3) := by decide +kernel
theorem dX10_chosen_5 : decode cX10_chosen 5 = .ok (.ifCond .eq 12, 3) := by decide +kernel
theorem dX10_chosen_17 : decode cX10_chosen 17 = .ok (.bipush (-2), 2) := by decide +kernel
theorem dX10_chosen_19 : decode cX10_chosen 19 = .ok (.ireturn, 1) := by decide +kernel
theorem dX10_circle_0 : decode cX10_circle 0 = .ok (.aload_n 0, 1) := by decide +kernel
theorem dX10_circle_1 : decode cX10_circle 1 = .ok (.iload_n 1, 1) := by decide +kernel
theorem dX10_circle_2 : decode cX10_circle 2 = .ok (.invokevirtual 279, 3) := by decide +kernel
theorem dX10_circle_5 : decode cX10_circle 5 = .ok (.ifCond .ne 6, 3) := by decide +kernel
theorem dX10_circle_8 : decode cX10_circle 8 = .ok (.bipush (-2), 2) := by decide +kernel
theorem dX10_circle_10 : decode cX10_circle 10 = .ok (.ireturn, 1) := by decide +kernel
theorem dX10_count_0 : decode cX10_count 0 = .ok (.iconst 0, 1) := by decide +kernel
theorem dX10_count_1 : decode cX10_count 1 = .ok (.istore_n 2, 1) := by decide +kernel
theorem dX10_count_2 : decode cX10_count 2 = .ok (.iload_n 1, 1) := by decide +kernel
theorem dX10_count_3 : decode cX10_count 3 = .ok (.tableswitch 149 0 9 #[53, 60, 67, 74, 81, 88, 95, 103, 108, 116], 53) := by decide +kernel
theorem dX10_count_56 : decode cX10_count 56 = .ok (.aload_n 0, 1) := by decide +kernel
theorem dX10_count_57 : decode cX10_count 57 = .ok (.getfield 9, 3) := by decide +kernel
theorem dX10_count_60 : decode cX10_count 60 = .ok (.iconst 0, 1) := by decide +kernel
theorem dX10_count_61 : decode cX10_count 61 = .ok (.iaload, 1) := by decide +kernel
theorem dX10_count_62 : decode cX10_count 62 = .ok (.ireturn, 1) := by decide +kernel
theorem dX10_count_63 : decode cX10_count 63 = .ok (.aload_n 0, 1) := by decide +kernel
theorem dX10_count_64 : decode cX10_count 64 = .ok (.getfield 9, 3) := by decide +kernel
theorem dX10_count_67 : decode cX10_count 67 = .ok (.iconst 2, 1) := by decide +kernel
theorem dX10_count_68 : decode cX10_count 68 = .ok (.iaload, 1) := by decide +kernel
theorem dX10_count_69 : decode cX10_count 69 = .ok (.ireturn, 1) := by decide +kernel
theorem dX10_count_70 : decode cX10_count 70 = .ok (.aload_n 0, 1) := by decide +kernel
theorem dX10_count_71 : decode cX10_count 71 = .ok (.getfield 9, 3) := by decide +kernel
theorem dX10_count_74 : decode cX10_count 74 = .ok (.iconst 3, 1) := by decide +kernel
theorem dX10_count_75 : decode cX10_count 75 = .ok (.iaload, 1) := by decide +kernel
theorem dX10_count_76 : decode cX10_count 76 = .ok (.ireturn, 1) := by decide +kernel
theorem dX10_count_77 : decode cX10_count 77 = .ok (.aload_n 0, 1) := by decide +kernel
theorem dX10_count_78 : decode cX10_count 78 = .ok (.getfield 9, 3) := by decide +kernel
theorem dX10_count_81 : decode cX10_count 81 = .ok (.iconst 4, 1) := by decide +kernel
theorem dX10_count_82 : decode cX10_count 82 = .ok (.iaload, 1) := by decide +kernel
theorem dX10_count_83 : decode cX10_count 83 = .ok (.ireturn, 1) := by decide +kernel
theorem dX10_count_84 : decode cX10_count 84 = .ok (.aload_n 0, 1) := by decide +kernel
theorem dX10_count_85 : decode cX10_count 85 = .ok (.getfield 9, 3) := by decide +kernel
theorem dX10_count_88 : decode cX10_count 88 = .ok (.iconst 5, 1) := by decide +kernel
theorem dX10_count_89 : decode cX10_count 89 = .ok (.iaload, 1) := by decide +kernel
theorem dX10_count_90 : decode cX10_count 90 = .ok (.ireturn, 1) := by decide +kernel
theorem dX10_count_91 : decode cX10_count 91 = .ok (.aload_n 0, 1) := by decide +kernel
theorem dX10_count_92 : decode cX10_count 92 = .ok (.getfield 9, 3) := by decide +kernel
theorem dX10_count_95 : decode cX10_count 95 = .ok (.iconst 1, 1) := by decide +kernel
theorem dX10_count_96 : decode cX10_count 96 = .ok (.iaload, 1) := by decide +kernel
theorem dX10_count_97 : decode cX10_count 97 = .ok (.ireturn, 1) := by decide +kernel
theorem dX10_count_98 : decode cX10_count 98 = .ok (.aload_n 0, 1) := by decide +kernel
theorem dX10_count_99 : decode cX10_count 99 = .ok (.getfield 9, 3) := by decide +kernel
theorem dX10_count_102 : decode cX10_count 102 = .ok (.bipush 6, 2) := by decide +kernel
theorem dX10_count_104 : decode cX10_count 104 = .ok (.iaload, 1) := by decide +kernel
theorem dX10_count_105 : decode cX10_count 105 = .ok (.ireturn, 1) := by decide +kernel
theorem dX10_count_106 : decode cX10_count 106 = .ok (.aload_n 0, 1) := by decide +kernel
theorem dX10_count_107 : decode cX10_count 107 = .ok (.getfield 97, 3) := by decide +kernel
theorem dX10_count_110 : decode cX10_count 110 = .ok (.ireturn, 1) := by decide +kernel
theorem dX10_count_111 : decode cX10_count 111 = .ok (.aload_n 0, 1) := by decide +kernel
theorem dX10_count_112 : decode cX10_count 112 = .ok (.getfield 9, 3) := by decide +kernel
theorem dX10_count_115 : decode cX10_count 115 = .ok (.bipush 7, 2) := by decide +kernel
theorem dX10_count_117 : decode cX10_count 117 = .ok (.iaload, 1) := by decide +kernel
theorem dX10_count_118 : decode cX10_count 118 = .ok (.ireturn, 1) := by decide +kernel
theorem dX10_count_119 : decode cX10_count 119 = .ok (.iconst 0, 1) := by decide +kernel
theorem dX10_count_120 : decode cX10_count 120 = .ok (.istore_n 3, 1) := by decide +kernel
theorem dX10_count_121 : decode cX10_count 121 = .ok (.iload_n 3, 1) := by decide +kernel
theorem dX10_count_122 : decode cX10_count 122 = .ok (.iconst 4, 1) := by decide +kernel
theorem dX10_count_123 : decode cX10_count 123 = .ok (.if_icmp .ge 27, 3) := by decide +kernel
theorem dX10_count_126 : decode cX10_count 126 = .ok (.iload_n 2, 1) := by decide +kernel
theorem dX10_count_127 : decode cX10_count 127 = .ok (.aload_n 0, 1) := by decide +kernel
theorem dX10_count_128 : decode cX10_count 128 = .ok (.getfield 67, 3) := by decide +kernel
theorem dX10_count_131 : decode cX10_count 131 = .ok (.iload_n 3, 1) := by decide +kernel
theorem dX10_count_132 : decode cX10_count 132 = .ok (.iaload, 1) := by decide +kernel
theorem dX10_count_133 : decode cX10_count 133 = .ok (.iconst (-1), 1) := by decide +kernel
theorem dX10_count_134 : decode cX10_count 134 = .ok (.if_icmp .ne 7, 3) := by decide +kernel
theorem dX10_count_137 : decode cX10_count 137 = .ok (.iconst 0, 1) := by decide +kernel
theorem dX10_count_138 : decode cX10_count 138 = .ok (.goto 4, 3) := by decide +kernel
theorem dX10_count_142 : decode cX10_count 142 = .ok (.iadd, 1) := by decide +kernel
theorem dX10_count_143 : decode cX10_count 143 = .ok (.istore_n 2, 1) := by decide +kernel
theorem dX10_count_144 : decode cX10_count 144 = .ok (.iinc 3 1, 3) := by decide +kernel
theorem dX10_count_147 : decode cX10_count 147 = .ok (.goto (-26), 3) := by decide +kernel
theorem dX10_count_150 : decode cX10_count 150 = .ok (.iload_n 2, 1) := by decide +kernel
theorem dX10_count_151 : decode cX10_count 151 = .ok (.ireturn, 1) := by decide +kernel
theorem dX10_count_152 : decode cX10_count 152 = .ok (.iconst (-1), 1) := by decide +kernel
theorem dX10_count_153 : decode cX10_count 153 = .ok (.ireturn, 1) := by decide +kernel
theorem dX10_dearest_0 : decode cX10_dearest 0 = .ok (.aload_n 0, 1) := by decide +kernel
theorem dX10_dearest_1 : decode cX10_dearest 1 = .ok (.invokevirtual 297, 3) := by decide +kernel
theorem dX10_dearest_4 : decode cX10_dearest 4 = .ok (.ifCond .ne 6, 3) := by decide +kernel
theorem dX10_dearest_7 : decode cX10_dearest 7 = .ok (.bipush (-2), 2) := by decide +kernel
theorem dX10_dearest_9 : decode cX10_dearest 9 = .ok (.ireturn, 1) := by decide +kernel
theorem dX10_drawn_0 : decode cX10_drawn 0 = .ok (.aload_n 0, 1) := by decide +kernel
theorem dX10_drawn_1 : decode cX10_drawn 1 = .ok (.iload_n 1, 1) := by decide +kernel
theorem dX10_drawn_2 : decode cX10_drawn 2 = .ok (.iload_n 2, 1) := by decide +kernel
theorem dX10_drawn_3 : decode cX10_drawn 3 = .ok (.iload_n 3, 1) := by decide +kernel
theorem dX10_drawn_4 : decode cX10_drawn 4 = .ok (.invokevirtual 424, 3) := by decide +kernel
theorem dX10_drawn_7 : decode cX10_drawn 7 = .ok (.ifCond .eq 16, 3) := by decide +kernel
theorem dX10_drawn_23 : decode cX10_drawn 23 = .ok (.bipush (-2), 2) := by decide +kernel
theorem dX10_drawn_25 : decode cX10_drawn 25 = .ok (.ireturn, 1) := by decide +kernel
theorem dX10_drive_0 : decode cX10_drive 0 = .ok (.aload_n 0, 1) := by decide +kernel
theorem dX10_drive_1 : decode cX10_drive 1 = .ok (.iload_n 1, 1) := by decide +kernel
theorem dX10_drive_2 : decode cX10_drive 2 = .ok (.iload_n 2, 1) := by decide +kernel
theorem dX10_drive_3 : decode cX10_drive 3 = .ok (.i2l, 1) := by decide +kernel
theorem dX10_drive_4 : decode cX10_drive 4 = .ok (.invokevirtual 290, 3) := by decide +kernel
theorem dX10_drive_7 : decode cX10_drive 7 = .ok (.ifCond .ne 6, 3) := by decide +kernel
theorem dX10_drive_10 : decode cX10_drive 10 = .ok (.bipush (-2), 2) := by decide +kernel
theorem dX10_drive_12 : decode cX10_drive 12 = .ok (.ireturn, 1) := by decide +kernel
theorem dX10_dues_0 : decode cX10_dues 0 = .ok (.aload_n 0, 1) := by decide +kernel
theorem dX10_dues_1 : decode cX10_dues 1 = .ok (.invokevirtual 297, 3) := by decide +kernel
theorem dX10_dues_4 : decode cX10_dues 4 = .ok (.ifCond .ne 6, 3) := by decide +kernel
theorem dX10_dues_7 : decode cX10_dues 7 = .ok (.bipush (-2), 2) := by decide +kernel
theorem dX10_dues_9 : decode cX10_dues 9 = .ok (.ireturn, 1) := by decide +kernel
theorem dX10_ends_0 : decode cX10_ends 0 = .ok (.aload_n 0, 1) := by decide +kernel
theorem dX10_ends_1 : decode cX10_ends 1 = .ok (.iload_n 1, 1) := by decide +kernel
theorem dX10_ends_2 : decode cX10_ends 2 = .ok (.iload_n 2, 1) := by decide +kernel
theorem dX10_ends_3 : decode cX10_ends 3 = .ok (.invokevirtual 319, 3) := by decide +kernel
theorem dX10_ends_6 : decode cX10_ends 6 = .ok (.istore_n 3, 1) := by decide +kernel
theorem dX10_ends_7 : decode cX10_ends 7 = .ok (.iload_n 3, 1) := by decide +kernel
theorem dX10_ends_8 : decode cX10_ends 8 = .ok (.ifCond .ge 5, 3) := by decide +kernel
theorem dX10_ends_11 : decode cX10_ends 11 = .ok (.iload_n 3, 1) := by decide +kernel
theorem dX10_ends_12 : decode cX10_ends 12 = .ok (.ireturn, 1) := by decide +kernel
theorem dX10_errand_0 : decode cX10_errand 0 = .ok (.iload_n 1, 1) := by decide +kernel
theorem dX10_errand_1 : decode cX10_errand 1 = .ok (.i2l, 1) := by decide +kernel
theorem dX10_errand_2 : decode cX10_errand 2 = .ok (.lconst 0, 1) := by decide +kernel
theorem dX10_errand_3 : decode cX10_errand 3 = .ok (.aload_n 0, 1) := by decide +kernel
theorem dX10_errand_4 : decode cX10_errand 4 = .ok (.getfield 9, 3) := by decide +kernel
theorem dX10_errand_7 : decode cX10_errand 7 = .ok (.iconst 5, 1) := by decide +kernel
theorem dX10_errand_8 : decode cX10_errand 8 = .ok (.iaload, 1) := by decide +kernel
theorem dX10_errand_9 : decode cX10_errand 9 = .ok (.iconst 1, 1) := by decide +kernel
theorem dX10_errand_10 : decode cX10_errand 10 = .ok (.isub, 1) := by decide +kernel
theorem dX10_errand_11 : decode cX10_errand 11 = .ok (.i2l, 1) := by decide +kernel
theorem dX10_errand_12 : decode cX10_errand 12 = .ok (.invokestatic 85, 3) := by decide +kernel
theorem dX10_errand_15 : decode cX10_errand 15 = .ok (.ifCond .eq 31, 3) := by decide +kernel
theorem dX10_errand_46 : decode cX10_errand 46 = .ok (.bipush (-2), 2) := by decide +kernel
theorem dX10_errand_48 : decode cX10_errand 48 = .ok (.ireturn, 1) := by decide +kernel
theorem dX10_far_0 : decode cX10_far 0 = .ok (.aload_n 0, 1) := by decide +kernel
theorem dX10_far_1 : decode cX10_far 1 = .ok (.iload_n 1, 1) := by decide +kernel
theorem dX10_far_2 : decode cX10_far 2 = .ok (.i2l, 1) := by decide +kernel
theorem dX10_far_3 : decode cX10_far 3 = .ok (.invokevirtual 282, 3) := by decide +kernel
theorem dX10_far_6 : decode cX10_far 6 = .ok (.ifCond .eq 12, 3) := by decide +kernel
theorem dX10_far_18 : decode cX10_far 18 = .ok (.bipush (-2), 2) := by decide +kernel
theorem dX10_far_20 : decode cX10_far 20 = .ok (.ireturn, 1) := by decide +kernel
theorem dX10_fault_0 : decode cX10_fault 0 = .ok (.iload_n 1, 1) := by decide +kernel
theorem dX10_fault_1 : decode cX10_fault 1 = .ok (.ifCond .ne 10, 3) := by decide +kernel
theorem dX10_fault_4 : decode cX10_fault 4 = .ok (.aload_n 0, 1) := by decide +kernel
theorem dX10_fault_5 : decode cX10_fault 5 = .ok (.getfield 133, 3) := by decide +kernel
theorem dX10_fault_8 : decode cX10_fault 8 = .ok (.goto 16, 3) := by decide +kernel
theorem dX10_fault_11 : decode cX10_fault 11 = .ok (.iload_n 1, 1) := by decide +kernel
theorem dX10_fault_12 : decode cX10_fault 12 = .ok (.iconst 1, 1) := by decide +kernel
theorem dX10_fault_13 : decode cX10_fault 13 = .ok (.if_icmp .ne 10, 3) := by decide +kernel
theorem dX10_fault_16 : decode cX10_fault 16 = .ok (.aload_n 0, 1) := by decide +kernel
theorem dX10_fault_17 : decode cX10_fault 17 = .ok (.getfield 27, 3) := by decide +kernel
theorem dX10_fault_20 : decode cX10_fault 20 = .ok (.goto 4, 3) := by decide +kernel
theorem dX10_fault_23 : decode cX10_fault 23 = .ok (.iconst (-1), 1) := by decide +kernel
theorem dX10_fault_24 : decode cX10_fault 24 = .ok (.ireturn, 1) := by decide +kernel
theorem dX10_fits_0 : decode cX10_fits 0 = .ok (.aload_n 0, 1) := by decide +kernel
theorem dX10_fits_1 : decode cX10_fits 1 = .ok (.iload_n 1, 1) := by decide +kernel
theorem dX10_fits_2 : decode cX10_fits 2 = .ok (.invokevirtual 361, 3) := by decide +kernel
theorem dX10_fits_5 : decode cX10_fits 5 = .ok (.istore_n 2, 1) := by decide +kernel
theorem dX10_fits_6 : decode cX10_fits 6 = .ok (.iload_n 2, 1) := by decide +kernel
theorem dX10_fits_7 : decode cX10_fits 7 = .ok (.ifCond .ge 7, 3) := by decide +kernel
theorem dX10_fits_10 : decode cX10_fits 10 = .ok (.iload_n 2, 1) := by decide +kernel
theorem dX10_fits_11 : decode cX10_fits 11 = .ok (.goto 8, 3) := by decide +kernel
theorem dX10_fits_19 : decode cX10_fits 19 = .ok (.ireturn, 1) := by decide +kernel
theorem dX10_goes_0 : decode cX10_goes 0 = .ok (.aload_n 0, 1) := by decide +kernel
theorem dX10_goes_1 : decode cX10_goes 1 = .ok (.iload_n 1, 1) := by decide +kernel
theorem dX10_goes_2 : decode cX10_goes 2 = .ok (.iload_n 2, 1) := by decide +kernel
theorem dX10_goes_3 : decode cX10_goes 3 = .ok (.invokevirtual 319, 3) := by decide +kernel
theorem dX10_goes_6 : decode cX10_goes 6 = .ok (.istore_n 3, 1) := by decide +kernel
theorem dX10_goes_7 : decode cX10_goes 7 = .ok (.iload_n 3, 1) := by decide +kernel
theorem dX10_goes_8 : decode cX10_goes 8 = .ok (.ifCond .ge 5, 3) := by decide +kernel
theorem dX10_goes_11 : decode cX10_goes 11 = .ok (.iload_n 3, 1) := by decide +kernel
theorem dX10_goes_12 : decode cX10_goes 12 = .ok (.ireturn, 1) := by decide +kernel
theorem dX10_grease_0 : decode cX10_grease 0 = .ok (.aload_n 0, 1) := by decide +kernel
theorem dX10_grease_1 : decode cX10_grease 1 = .ok (.iload_n 1, 1) := by decide +kernel
theorem dX10_grease_2 : decode cX10_grease 2 = .ok (.invokevirtual 269, 3) := by decide +kernel
theorem dX10_grease_5 : decode cX10_grease 5 = .ok (.ifCond .ne 6, 3) := by decide +kernel
theorem dX10_grease_8 : decode cX10_grease 8 = .ok (.bipush (-2), 2) := by decide +kernel
theorem dX10_grease_10 : decode cX10_grease 10 = .ok (.ireturn, 1) := by decide +kernel
theorem dX10_hand_0 : decode cX10_hand 0 = .ok (.aload_n 0, 1) := by decide +kernel
theorem dX10_hand_1 : decode cX10_hand 1 = .ok (.invokevirtual 297, 3) := by decide +kernel
theorem dX10_hand_4 : decode cX10_hand 4 = .ok (.ifCond .eq 15, 3) := by decide +kernel
theorem dX10_hand_19 : decode cX10_hand 19 = .ok (.bipush (-2), 2) := by decide +kernel
theorem dX10_hand_21 : decode cX10_hand 21 = .ok (.ireturn, 1) := by decide +kernel
theorem dX10_haunts_0 : decode cX10_haunts 0 = .ok (.aload_n 0, 1) := by decide +kernel
theorem dX10_haunts_1 : decode cX10_haunts 1 = .ok (.iload_n 1, 1) := by decide +kernel
theorem dX10_haunts_2 : decode cX10_haunts 2 = .ok (.invokevirtual 279, 3) := by decide +kernel
theorem dX10_haunts_5 : decode cX10_haunts 5 = .ok (.ifCond .ne 6, 3) := by decide +kernel
theorem dX10_haunts_8 : decode cX10_haunts 8 = .ok (.bipush (-2), 2) := by decide +kernel
theorem dX10_haunts_10 : decode cX10_haunts 10 = .ok (.ireturn, 1) := by decide +kernel
theorem dX10_in_0 : decode cX10_in 0 = .ok (.lload_n 0, 1) := by decide +kernel
theorem dX10_in_1 : decode cX10_in 1 = .ok (.lload_n 2, 1) := by decide +kernel
theorem dX10_in_2 : decode cX10_in 2 = .ok (.lcmp, 1) := by decide +kernel
theorem dX10_in_3 : decode cX10_in 3 = .ok (.ifCond .lt 14, 3) := by decide +kernel
theorem dX10_in_6 : decode cX10_in 6 = .ok (.lload_n 0, 1) := by decide +kernel
theorem dX10_in_7 : decode cX10_in 7 = .ok (.lload 4, 2) := by decide +kernel
theorem dX10_in_9 : decode cX10_in 9 = .ok (.lcmp, 1) := by decide +kernel
theorem dX10_in_10 : decode cX10_in 10 = .ok (.ifCond .gt 7, 3) := by decide +kernel
theorem dX10_in_13 : decode cX10_in 13 = .ok (.iconst 1, 1) := by decide +kernel
theorem dX10_in_14 : decode cX10_in 14 = .ok (.goto 4, 3) := by decide +kernel
theorem dX10_in_17 : decode cX10_in 17 = .ok (.iconst 0, 1) := by decide +kernel
theorem dX10_in_18 : decode cX10_in 18 = .ok (.ireturn, 1) := by decide +kernel
theorem dX10_isCart_0 : decode cX10_isCart 0 = .ok (.iload_n 1, 1) := by decide +kernel
theorem dX10_isCart_1 : decode cX10_isCart 1 = .ok (.i2l, 1) := by decide +kernel
theorem dX10_isCart_2 : decode cX10_isCart 2 = .ok (.lconst 0, 1) := by decide +kernel
theorem dX10_isCart_3 : decode cX10_isCart 3 = .ok (.aload_n 0, 1) := by decide +kernel
theorem dX10_isCart_4 : decode cX10_isCart 4 = .ok (.getfield 9, 3) := by decide +kernel
theorem dX10_isCart_7 : decode cX10_isCart 7 = .ok (.iconst 4, 1) := by decide +kernel
theorem dX10_isCart_8 : decode cX10_isCart 8 = .ok (.iaload, 1) := by decide +kernel
theorem dX10_isCart_9 : decode cX10_isCart 9 = .ok (.iconst 1, 1) := by decide +kernel
theorem dX10_isCart_10 : decode cX10_isCart 10 = .ok (.isub, 1) := by decide +kernel
theorem dX10_isCart_11 : decode cX10_isCart 11 = .ok (.i2l, 1) := by decide +kernel
theorem dX10_isCart_12 : decode cX10_isCart 12 = .ok (.invokestatic 85, 3) := by decide +kernel
theorem dX10_isCart_15 : decode cX10_isCart 15 = .ok (.ireturn, 1) := by decide +kernel
theorem dX10_isDrawn_0 : decode cX10_isDrawn 0 = .ok (.iload_n 1, 1) := by decide +kernel
theorem dX10_isDrawn_1 : decode cX10_isDrawn 1 = .ok (.i2l, 1) := by decide +kernel
theorem dX10_isDrawn_2 : decode cX10_isDrawn 2 = .ok (.lconst 0, 1) := by decide +kernel
theorem dX10_isDrawn_3 : decode cX10_isDrawn 3 = .ok (.ldc2_w 422, 3) := by decide +kernel
theorem dX10_isDrawn_6 : decode cX10_isDrawn 6 = .ok (.invokestatic 85, 3) := by decide +kernel
theorem dX10_isDrawn_9 : decode cX10_isDrawn 9 = .ok (.ifCond .eq 27, 3) := by decide +kernel
theorem dX10_isDrawn_12 : decode cX10_isDrawn 12 = .ok (.aload_n 0, 1) := by decide +kernel
theorem dX10_isDrawn_13 : decode cX10_isDrawn 13 = .ok (.iload_n 2, 1) := by decide +kernel
theorem dX10_isDrawn_14 : decode cX10_isDrawn 14 = .ok (.invokevirtual 279, 3) := by decide +kernel
theorem dX10_isDrawn_17 : decode cX10_isDrawn 17 = .ok (.ifCond .eq 19, 3) := by decide +kernel
theorem dX10_isDrawn_36 : decode cX10_isDrawn 36 = .ok (.iconst 0, 1) := by decide +kernel
theorem dX10_isDrawn_37 : decode cX10_isDrawn 37 = .ok (.ireturn, 1) := by decide +kernel
theorem dX10_isLand_0 : decode cX10_isLand 0 = .ok (.aload_n 0, 1) := by decide +kernel
theorem dX10_isLand_1 : decode cX10_isLand 1 = .ok (.getfield 9, 3) := by decide +kernel
theorem dX10_isLand_4 : decode cX10_isLand 4 = .ok (.bipush 6, 2) := by decide +kernel
theorem dX10_isLand_6 : decode cX10_isLand 6 = .ok (.iaload, 1) := by decide +kernel
theorem dX10_isLand_7 : decode cX10_isLand 7 = .ok (.ifCond .le 7, 3) := by decide +kernel
theorem dX10_isLand_14 : decode cX10_isLand 14 = .ok (.iconst 0, 1) := by decide +kernel
theorem dX10_isLand_15 : decode cX10_isLand 15 = .ok (.ireturn, 1) := by decide +kernel
theorem dX10_isPlace_0 : decode cX10_isPlace 0 = .ok (.lload_n 1, 1) := by decide +kernel
theorem dX10_isPlace_1 : decode cX10_isPlace 1 = .ok (.lconst 0, 1) := by decide +kernel
theorem dX10_isPlace_2 : decode cX10_isPlace 2 = .ok (.aload_n 0, 1) := by decide +kernel
theorem dX10_isPlace_3 : decode cX10_isPlace 3 = .ok (.getfield 9, 3) := by decide +kernel
theorem dX10_isPlace_6 : decode cX10_isPlace 6 = .ok (.iconst 0, 1) := by decide +kernel
theorem dX10_isPlace_7 : decode cX10_isPlace 7 = .ok (.iaload, 1) := by decide +kernel
theorem dX10_isPlace_8 : decode cX10_isPlace 8 = .ok (.iconst 1, 1) := by decide +kernel
theorem dX10_isPlace_9 : decode cX10_isPlace 9 = .ok (.isub, 1) := by decide +kernel
theorem dX10_isPlace_10 : decode cX10_isPlace 10 = .ok (.i2l, 1) := by decide +kernel
theorem dX10_isPlace_11 : decode cX10_isPlace 11 = .ok (.invokestatic 85, 3) := by decide +kernel
theorem dX10_isPlace_14 : decode cX10_isPlace 14 = .ok (.ireturn, 1) := by decide +kernel
theorem dX10_isRoad_0 : decode cX10_isRoad 0 = .ok (.lload_n 1, 1) := by decide +kernel
theorem dX10_isRoad_1 : decode cX10_isRoad 1 = .ok (.lconst 0, 1) := by decide +kernel
theorem dX10_isRoad_2 : decode cX10_isRoad 2 = .ok (.aload_n 0, 1) := by decide +kernel
theorem dX10_isRoad_3 : decode cX10_isRoad 3 = .ok (.getfield 9, 3) := by decide +kernel
theorem dX10_isRoad_6 : decode cX10_isRoad 6 = .ok (.iconst 2, 1) := by decide +kernel
theorem dX10_isRoad_7 : decode cX10_isRoad 7 = .ok (.iaload, 1) := by decide +kernel
theorem dX10_isRoad_8 : decode cX10_isRoad 8 = .ok (.iconst 1, 1) := by decide +kernel
theorem dX10_isRoad_9 : decode cX10_isRoad 9 = .ok (.isub, 1) := by decide +kernel
theorem dX10_isRoad_10 : decode cX10_isRoad 10 = .ok (.i2l, 1) := by decide +kernel
theorem dX10_isRoad_11 : decode cX10_isRoad 11 = .ok (.invokestatic 85, 3) := by decide +kernel
theorem dX10_isRoad_14 : decode cX10_isRoad 14 = .ok (.ireturn, 1) := by decide +kernel
theorem dX10_isSlot_0 : decode cX10_isSlot 0 = .ok (.iload_n 0, 1) := by decide +kernel
theorem dX10_isSlot_1 : decode cX10_isSlot 1 = .ok (.i2l, 1) := by decide +kernel
theorem dX10_isSlot_2 : decode cX10_isSlot 2 = .ok (.lconst 0, 1) := by decide +kernel
theorem dX10_isSlot_3 : decode cX10_isSlot 3 = .ok (.ldc2_w 434, 3) := by decide +kernel
theorem dX10_isSlot_6 : decode cX10_isSlot 6 = .ok (.invokestatic 85, 3) := by decide +kernel
theorem dX10_isSlot_9 : decode cX10_isSlot 9 = .ok (.ireturn, 1) := by decide +kernel
theorem dX10_isWheel_0 : decode cX10_isWheel 0 = .ok (.iload_n 1, 1) := by decide +kernel
theorem dX10_isWheel_1 : decode cX10_isWheel 1 = .ok (.i2l, 1) := by decide +kernel
theorem dX10_isWheel_2 : decode cX10_isWheel 2 = .ok (.lconst 0, 1) := by decide +kernel
theorem dX10_isWheel_3 : decode cX10_isWheel 3 = .ok (.aload_n 0, 1) := by decide +kernel
theorem dX10_isWheel_4 : decode cX10_isWheel 4 = .ok (.getfield 9, 3) := by decide +kernel
theorem dX10_isWheel_7 : decode cX10_isWheel 7 = .ok (.iconst 3, 1) := by decide +kernel
theorem dX10_isWheel_8 : decode cX10_isWheel 8 = .ok (.iaload, 1) := by decide +kernel
theorem dX10_isWheel_9 : decode cX10_isWheel 9 = .ok (.iconst 1, 1) := by decide +kernel
theorem dX10_isWheel_10 : decode cX10_isWheel 10 = .ok (.isub, 1) := by decide +kernel
theorem dX10_isWheel_11 : decode cX10_isWheel 11 = .ok (.i2l, 1) := by decide +kernel
theorem dX10_isWheel_12 : decode cX10_isWheel 12 = .ok (.invokestatic 85, 3) := by decide +kernel
theorem dX10_isWheel_15 : decode cX10_isWheel 15 = .ok (.ireturn, 1) := by decide +kernel
theorem dX10_lasts_0 : decode cX10_lasts 0 = .ok (.aload_n 0, 1) := by decide +kernel
theorem dX10_lasts_1 : decode cX10_lasts 1 = .ok (.iload_n 1, 1) := by decide +kernel
theorem dX10_lasts_2 : decode cX10_lasts 2 = .ok (.invokevirtual 269, 3) := by decide +kernel
theorem dX10_lasts_5 : decode cX10_lasts 5 = .ok (.ifCond .eq 15, 3) := by decide +kernel
theorem dX10_lasts_20 : decode cX10_lasts 20 = .ok (.bipush (-2), 2) := by decide +kernel
theorem dX10_lasts_22 : decode cX10_lasts 22 = .ok (.ireturn, 1) := by decide +kernel
theorem dX10_leaves_0 : decode cX10_leaves 0 = .ok (.aload_n 0, 1) := by decide +kernel
theorem dX10_leaves_1 : decode cX10_leaves 1 = .ok (.iload_n 1, 1) := by decide +kernel
theorem dX10_leaves_2 : decode cX10_leaves 2 = .ok (.invokevirtual 361, 3) := by decide +kernel
theorem dX10_leaves_5 : decode cX10_leaves 5 = .ok (.istore_n 2, 1) := by decide +kernel
theorem dX10_leaves_6 : decode cX10_leaves 6 = .ok (.iload_n 2, 1) := by decide +kernel
theorem dX10_leaves_7 : decode cX10_leaves 7 = .ok (.ifCond .ge 5, 3) := by decide +kernel
theorem dX10_leaves_10 : decode cX10_leaves 10 = .ok (.iload_n 2, 1) := by decide +kernel
theorem dX10_leaves_11 : decode cX10_leaves 11 = .ok (.ireturn, 1) := by decide +kernel
theorem dX10_likes_0 : decode cX10_likes 0 = .ok (.aload_n 0, 1) := by decide +kernel
theorem dX10_likes_1 : decode cX10_likes 1 = .ok (.iload_n 1, 1) := by decide +kernel
theorem dX10_likes_2 : decode cX10_likes 2 = .ok (.invokevirtual 269, 3) := by decide +kernel
theorem dX10_likes_5 : decode cX10_likes 5 = .ok (.ifCond .eq 12, 3) := by decide +kernel
theorem dX10_likes_17 : decode cX10_likes 17 = .ok (.bipush (-2), 2) := by decide +kernel
theorem dX10_likes_19 : decode cX10_likes 19 = .ok (.ireturn, 1) := by decide +kernel
theorem dX10_loved_0 : decode cX10_loved 0 = .ok (.aload_n 0, 1) := by decide +kernel
theorem dX10_loved_1 : decode cX10_loved 1 = .ok (.iload_n 1, 1) := by decide +kernel
theorem dX10_loved_2 : decode cX10_loved 2 = .ok (.i2l, 1) := by decide +kernel
theorem dX10_loved_3 : decode cX10_loved 3 = .ok (.invokevirtual 265, 3) := by decide +kernel
theorem dX10_loved_6 : decode cX10_loved 6 = .ok (.ifCond .ne 6, 3) := by decide +kernel
theorem dX10_loved_9 : decode cX10_loved 9 = .ok (.bipush (-2), 2) := by decide +kernel
theorem dX10_loved_11 : decode cX10_loved 11 = .ok (.ireturn, 1) := by decide +kernel
theorem dX10_luck_0 : decode cX10_luck 0 = .ok (.aload_n 0, 1) := by decide +kernel
theorem dX10_luck_1 : decode cX10_luck 1 = .ok (.iload_n 1, 1) := by decide +kernel
theorem dX10_luck_2 : decode cX10_luck 2 = .ok (.iload_n 3, 1) := by decide +kernel
theorem dX10_luck_3 : decode cX10_luck 3 = .ok (.iload 4, 2) := by decide +kernel
theorem dX10_luck_5 : decode cX10_luck 5 = .ok (.invokevirtual 424, 3) := by decide +kernel
theorem dX10_luck_8 : decode cX10_luck 8 = .ok (.ifCond .eq 25, 3) := by decide +kernel
theorem dX10_luck_33 : decode cX10_luck 33 = .ok (.bipush (-2), 2) := by decide +kernel
theorem dX10_luck_35 : decode cX10_luck 35 = .ok (.ireturn, 1) := by decide +kernel
theorem dX10_mate_0 : decode cX10_mate 0 = .ok (.aload_n 0, 1) := by decide +kernel
theorem dX10_mate_1 : decode cX10_mate 1 = .ok (.iload_n 1, 1) := by decide +kernel
theorem dX10_mate_2 : decode cX10_mate 2 = .ok (.invokevirtual 269, 3) := by decide +kernel
theorem dX10_mate_5 : decode cX10_mate 5 = .ok (.ifCond .ne 6, 3) := by decide +kernel
theorem dX10_mate_8 : decode cX10_mate 8 = .ok (.bipush (-2), 2) := by decide +kernel
theorem dX10_mate_10 : decode cX10_mate 10 = .ok (.ireturn, 1) := by decide +kernel
theorem dX10_meet_0 : decode cX10_meet 0 = .ok (.aload_n 0, 1) := by decide +kernel
theorem dX10_meet_1 : decode cX10_meet 1 = .ok (.iload_n 1, 1) := by decide +kernel
theorem dX10_meet_2 : decode cX10_meet 2 = .ok (.invokevirtual 279, 3) := by decide +kernel
theorem dX10_meet_5 : decode cX10_meet 5 = .ok (.ifCond .eq 21, 3) := by decide +kernel
theorem dX10_meet_26 : decode cX10_meet 26 = .ok (.bipush (-2), 2) := by decide +kernel
theorem dX10_meet_28 : decode cX10_meet 28 = .ok (.ireturn, 1) := by decide +kernel
theorem dX10_met_0 : decode cX10_met 0 = .ok (.aload_n 0, 1) := by decide +kernel
theorem dX10_met_1 : decode cX10_met 1 = .ok (.iload_n 1, 1) := by decide +kernel
theorem dX10_met_2 : decode cX10_met 2 = .ok (.invokevirtual 279, 3) := by decide +kernel
theorem dX10_met_5 : decode cX10_met 5 = .ok (.ifCond .eq 12, 3) := by decide +kernel
theorem dX10_met_17 : decode cX10_met 17 = .ok (.bipush (-2), 2) := by decide +kernel
theorem dX10_met_19 : decode cX10_met 19 = .ok (.ireturn, 1) := by decide +kernel
theorem dX10_paste_0 : decode cX10_paste 0 = .ok (.iload_n 1, 1) := by decide +kernel
theorem dX10_paste_1 : decode cX10_paste 1 = .ok (.invokestatic 300, 3) := by decide +kernel
theorem dX10_paste_4 : decode cX10_paste 4 = .ok (.ifCond .eq 10, 3) := by decide +kernel
theorem dX10_paste_7 : decode cX10_paste 7 = .ok (.iload_n 3, 1) := by decide +kernel
theorem dX10_paste_8 : decode cX10_paste 8 = .ok (.invokestatic 300, 3) := by decide +kernel
theorem dX10_paste_11 : decode cX10_paste 11 = .ok (.ifCond .ne 6, 3) := by decide +kernel
theorem dX10_paste_14 : decode cX10_paste 14 = .ok (.bipush (-2), 2) := by decide +kernel
theorem dX10_paste_16 : decode cX10_paste 16 = .ok (.ireturn, 1) := by decide +kernel
theorem dX10_paste_17 : decode cX10_paste 17 = .ok (.aload_n 0, 1) := by decide +kernel
theorem dX10_paste_18 : decode cX10_paste 18 = .ok (.getfield 67, 3) := by decide +kernel
theorem dX10_paste_21 : decode cX10_paste 21 = .ok (.iload_n 1, 1) := by decide +kernel
theorem dX10_paste_22 : decode cX10_paste 22 = .ok (.iaload, 1) := by decide +kernel
theorem dX10_paste_23 : decode cX10_paste 23 = .ok (.iconst (-1), 1) := by decide +kernel
theorem dX10_paste_24 : decode cX10_paste 24 = .ok (.if_icmp .eq 13, 3) := by decide +kernel
theorem dX10_paste_37 : decode cX10_paste 37 = .ok (.bipush (-6), 2) := by decide +kernel
theorem dX10_paste_39 : decode cX10_paste 39 = .ok (.ireturn, 1) := by decide +kernel
theorem dX10_picks_0 : decode cX10_picks 0 = .ok (.aload_n 0, 1) := by decide +kernel
theorem dX10_picks_1 : decode cX10_picks 1 = .ok (.invokevirtual 297, 3) := by decide +kernel
theorem dX10_picks_4 : decode cX10_picks 4 = .ok (.ifCond .ne 6, 3) := by decide +kernel
theorem dX10_picks_7 : decode cX10_picks 7 = .ok (.bipush (-2), 2) := by decide +kernel
theorem dX10_picks_9 : decode cX10_picks 9 = .ok (.ireturn, 1) := by decide +kernel
theorem dX10_pull_0 : decode cX10_pull 0 = .ok (.aload_n 0, 1) := by decide +kernel
theorem dX10_pull_1 : decode cX10_pull 1 = .ok (.iload_n 1, 1) := by decide +kernel
theorem dX10_pull_2 : decode cX10_pull 2 = .ok (.invokevirtual 279, 3) := by decide +kernel
theorem dX10_pull_5 : decode cX10_pull 5 = .ok (.ifCond .eq 12, 3) := by decide +kernel
theorem dX10_pull_17 : decode cX10_pull 17 = .ok (.bipush (-2), 2) := by decide +kernel
theorem dX10_pull_19 : decode cX10_pull 19 = .ok (.ireturn, 1) := by decide +kernel
theorem dX10_ran_0 : decode cX10_ran 0 = .ok (.aload_n 0, 1) := by decide +kernel
theorem dX10_ran_1 : decode cX10_ran 1 = .ok (.iload_n 1, 1) := by decide +kernel
theorem dX10_ran_2 : decode cX10_ran 2 = .ok (.iload_n 2, 1) := by decide +kernel
theorem dX10_ran_3 : decode cX10_ran 3 = .ok (.invokevirtual 319, 3) := by decide +kernel
theorem dX10_ran_6 : decode cX10_ran 6 = .ok (.istore_n 3, 1) := by decide +kernel
theorem dX10_ran_7 : decode cX10_ran 7 = .ok (.iload_n 3, 1) := by decide +kernel
theorem dX10_ran_8 : decode cX10_ran 8 = .ok (.ifCond .ge 5, 3) := by decide +kernel
theorem dX10_ran_11 : decode cX10_ran 11 = .ok (.iload_n 3, 1) := by decide +kernel
theorem dX10_ran_12 : decode cX10_ran 12 = .ok (.ireturn, 1) := by decide +kernel
theorem dX10_reach_0 : decode cX10_reach 0 = .ok (.aload_n 0, 1) := by decide +kernel
theorem dX10_reach_1 : decode cX10_reach 1 = .ok (.iload_n 1, 1) := by decide +kernel
theorem dX10_reach_2 : decode cX10_reach 2 = .ok (.invokevirtual 279, 3) := by decide +kernel
theorem dX10_reach_5 : decode cX10_reach 5 = .ok (.ifCond .ne 6, 3) := by decide +kernel
theorem dX10_reach_8 : decode cX10_reach 8 = .ok (.bipush (-2), 2) := by decide +kernel
theorem dX10_reach_10 : decode cX10_reach 10 = .ok (.ireturn, 1) := by decide +kernel
theorem dX10_road_0 : decode cX10_road 0 = .ok (.aload_n 0, 1) := by decide +kernel
theorem dX10_road_1 : decode cX10_road 1 = .ok (.iload_n 1, 1) := by decide +kernel
theorem dX10_road_2 : decode cX10_road 2 = .ok (.i2l, 1) := by decide +kernel
theorem dX10_road_3 : decode cX10_road 3 = .ok (.invokevirtual 265, 3) := by decide +kernel
theorem dX10_road_6 : decode cX10_road 6 = .ok (.ifCond .eq 24, 3) := by decide +kernel
theorem dX10_road_30 : decode cX10_road 30 = .ok (.bipush (-2), 2) := by decide +kernel
theorem dX10_road_32 : decode cX10_road 32 = .ok (.ireturn, 1) := by decide +kernel
theorem dX10_roads_0 : decode cX10_roads 0 = .ok (.aload_n 0, 1) := by decide +kernel
theorem dX10_roads_1 : decode cX10_roads 1 = .ok (.iload_n 1, 1) := by decide +kernel
theorem dX10_roads_2 : decode cX10_roads 2 = .ok (.i2l, 1) := by decide +kernel
theorem dX10_roads_3 : decode cX10_roads 3 = .ok (.invokevirtual 282, 3) := by decide +kernel
theorem dX10_roads_6 : decode cX10_roads 6 = .ok (.ifCond .eq 11, 3) := by decide +kernel
theorem dX10_roads_17 : decode cX10_roads 17 = .ok (.bipush (-2), 2) := by decide +kernel
theorem dX10_roads_19 : decode cX10_roads 19 = .ok (.ireturn, 1) := by decide +kernel
theorem dX10_roams_0 : decode cX10_roams 0 = .ok (.aload_n 0, 1) := by decide +kernel
theorem dX10_roams_1 : decode cX10_roams 1 = .ok (.iload_n 1, 1) := by decide +kernel
theorem dX10_roams_2 : decode cX10_roams 2 = .ok (.invokevirtual 279, 3) := by decide +kernel
theorem dX10_roams_5 : decode cX10_roams 5 = .ok (.ifCond .eq 15, 3) := by decide +kernel
theorem dX10_roams_20 : decode cX10_roams 20 = .ok (.bipush (-2), 2) := by decide +kernel
theorem dX10_roams_22 : decode cX10_roams 22 = .ok (.ireturn, 1) := by decide +kernel
theorem dX10_share_0 : decode cX10_share 0 = .ok (.aload_n 0, 1) := by decide +kernel
theorem dX10_share_1 : decode cX10_share 1 = .ok (.iload_n 1, 1) := by decide +kernel
theorem dX10_share_2 : decode cX10_share 2 = .ok (.invokevirtual 279, 3) := by decide +kernel
theorem dX10_share_5 : decode cX10_share 5 = .ok (.ifCond .eq 23, 3) := by decide +kernel
theorem dX10_share_28 : decode cX10_share 28 = .ok (.bipush (-2), 2) := by decide +kernel
theorem dX10_share_30 : decode cX10_share 30 = .ok (.ireturn, 1) := by decide +kernel
theorem dX10_smiths_0 : decode cX10_smiths 0 = .ok (.aload_n 0, 1) := by decide +kernel
theorem dX10_smiths_1 : decode cX10_smiths 1 = .ok (.invokevirtual 297, 3) := by decide +kernel
theorem dX10_smiths_4 : decode cX10_smiths 4 = .ok (.ifCond .ne 7, 3) := by decide +kernel
theorem dX10_smiths_7 : decode cX10_smiths 7 = .ok (.ldc_w 404, 3) := by decide +kernel
theorem dX10_smiths_10 : decode cX10_smiths 10 = .ok (.ireturn, 1) := by decide +kernel
theorem dX10_swap_0 : decode cX10_swap 0 = .ok (.aload_n 0, 1) := by decide +kernel
theorem dX10_swap_1 : decode cX10_swap 1 = .ok (.iload_n 1, 1) := by decide +kernel
theorem dX10_swap_2 : decode cX10_swap 2 = .ok (.invokevirtual 269, 3) := by decide +kernel
theorem dX10_swap_5 : decode cX10_swap 5 = .ok (.ifCond .eq 16, 3) := by decide +kernel
theorem dX10_swap_21 : decode cX10_swap 21 = .ok (.bipush (-2), 2) := by decide +kernel
theorem dX10_swap_23 : decode cX10_swap 23 = .ok (.ireturn, 1) := by decide +kernel
theorem dX10_takes__0 : decode cX10_takes_ 0 = .ok (.aload_n 0, 1) := by decide +kernel
theorem dX10_takes__1 : decode cX10_takes_ 1 = .ok (.iload_n 1, 1) := by decide +kernel
theorem dX10_takes__2 : decode cX10_takes_ 2 = .ok (.iload_n 2, 1) := by decide +kernel
theorem dX10_takes__3 : decode cX10_takes_ 3 = .ok (.i2l, 1) := by decide +kernel
theorem dX10_takes__4 : decode cX10_takes_ 4 = .ok (.invokevirtual 290, 3) := by decide +kernel
theorem dX10_takes__7 : decode cX10_takes_ 7 = .ok (.ifCond .eq 12, 3) := by decide +kernel
theorem dX10_takes__19 : decode cX10_takes_ 19 = .ok (.bipush (-2), 2) := by decide +kernel
theorem dX10_takes__21 : decode cX10_takes_ 21 = .ok (.ireturn, 1) := by decide +kernel
theorem dX10_teach_0 : decode cX10_teach 0 = .ok (.aload_n 0, 1) := by decide +kernel
theorem dX10_teach_1 : decode cX10_teach 1 = .ok (.iload_n 1, 1) := by decide +kernel
theorem dX10_teach_2 : decode cX10_teach 2 = .ok (.invokevirtual 269, 3) := by decide +kernel
theorem dX10_teach_5 : decode cX10_teach 5 = .ok (.ifCond .eq 12, 3) := by decide +kernel
theorem dX10_teach_17 : decode cX10_teach 17 = .ok (.bipush (-2), 2) := by decide +kernel
theorem dX10_teach_19 : decode cX10_teach 19 = .ok (.ireturn, 1) := by decide +kernel
theorem dX10_tell_0 : decode cX10_tell 0 = .ok (.aload_n 0, 1) := by decide +kernel
theorem dX10_tell_1 : decode cX10_tell 1 = .ok (.iload_n 1, 1) := by decide +kernel
theorem dX10_tell_2 : decode cX10_tell 2 = .ok (.invokevirtual 269, 3) := by decide +kernel
theorem dX10_tell_5 : decode cX10_tell 5 = .ok (.ifCond .eq 24, 3) := by decide +kernel
theorem dX10_tell_29 : decode cX10_tell 29 = .ok (.bipush (-2), 2) := by decide +kernel
theorem dX10_tell_31 : decode cX10_tell 31 = .ok (.ireturn, 1) := by decide +kernel
theorem dX10_undo_0 : decode cX10_undo 0 = .ok (.aload_n 0, 1) := by decide +kernel
theorem dX10_undo_1 : decode cX10_undo 1 = .ok (.invokevirtual 297, 3) := by decide +kernel
theorem dX10_undo_4 : decode cX10_undo 4 = .ok (.ifCond .ne 6, 3) := by decide +kernel
theorem dX10_undo_7 : decode cX10_undo 7 = .ok (.bipush (-2), 2) := by decide +kernel
theorem dX10_undo_9 : decode cX10_undo 9 = .ok (.ireturn, 1) := by decide +kernel
theorem dX10_votes_0 : decode cX10_votes 0 = .ok (.aload_n 0, 1) := by decide +kernel
theorem dX10_votes_1 : decode cX10_votes 1 = .ok (.iload_n 1, 1) := by decide +kernel
theorem dX10_votes_2 : decode cX10_votes 2 = .ok (.i2l, 1) := by decide +kernel
theorem dX10_votes_3 : decode cX10_votes 3 = .ok (.invokevirtual 282, 3) := by decide +kernel
theorem dX10_votes_6 : decode cX10_votes 6 = .ok (.ifCond .eq 21, 3) := by decide +kernel
theorem dX10_votes_27 : decode cX10_votes 27 = .ok (.bipush (-2), 2) := by decide +kernel
theorem dX10_votes_29 : decode cX10_votes 29 = .ok (.ireturn, 1) := by decide +kernel
theorem dX10_wants_0 : decode cX10_wants 0 = .ok (.aload_n 0, 1) := by decide +kernel
theorem dX10_wants_1 : decode cX10_wants 1 = .ok (.iload_n 1, 1) := by decide +kernel
theorem dX10_wants_2 : decode cX10_wants 2 = .ok (.invokevirtual 279, 3) := by decide +kernel
theorem dX10_wants_5 : decode cX10_wants 5 = .ok (.ifCond .eq 12, 3) := by decide +kernel
theorem dX10_wants_17 : decode cX10_wants 17 = .ok (.bipush (-2), 2) := by decide +kernel
theorem dX10_wants_19 : decode cX10_wants 19 = .ok (.ireturn, 1) := by decide +kernel
theorem dX10_way_0 : decode cX10_way 0 = .ok (.aload_n 0, 1) := by decide +kernel
theorem dX10_way_1 : decode cX10_way 1 = .ok (.iload_n 1, 1) := by decide +kernel
theorem dX10_way_2 : decode cX10_way 2 = .ok (.invokevirtual 279, 3) := by decide +kernel
theorem dX10_way_5 : decode cX10_way 5 = .ok (.ifCond .eq 12, 3) := by decide +kernel
theorem dX10_way_17 : decode cX10_way 17 = .ok (.bipush (-2), 2) := by decide +kernel
theorem dX10_way_19 : decode cX10_way 19 = .ok (.ireturn, 1) := by decide +kernel
theorem dX10_wheel_0 : decode cX10_wheel 0 = .ok (.aload_n 0, 1) := by decide +kernel
theorem dX10_wheel_1 : decode cX10_wheel 1 = .ok (.iload_n 1, 1) := by decide +kernel
theorem dX10_wheel_2 : decode cX10_wheel 2 = .ok (.invokevirtual 269, 3) := by decide +kernel
theorem dX10_wheel_5 : decode cX10_wheel 5 = .ok (.ifCond .eq 15, 3) := by decide +kernel
theorem dX10_wheel_20 : decode cX10_wheel 20 = .ok (.bipush (-2), 2) := by decide +kernel
theorem dX10_wheel_22 : decode cX10_wheel 22 = .ok (.ireturn, 1) := by decide +kernel
theorem dX10_worn_0 : decode cX10_worn 0 = .ok (.aload_n 0, 1) := by decide +kernel
theorem dX10_worn_1 : decode cX10_worn 1 = .ok (.iload_n 1, 1) := by decide +kernel
theorem dX10_worn_2 : decode cX10_worn 2 = .ok (.iload_n 2, 1) := by decide +kernel
theorem dX10_worn_3 : decode cX10_worn 3 = .ok (.invokevirtual 319, 3) := by decide +kernel
theorem dX10_worn_6 : decode cX10_worn 6 = .ok (.istore_n 3, 1) := by decide +kernel
theorem dX10_worn_7 : decode cX10_worn 7 = .ok (.iload_n 3, 1) := by decide +kernel
theorem dX10_worn_8 : decode cX10_worn 8 = .ok (.ifCond .ge 5, 3) := by decide +kernel
theorem dX10_worn_11 : decode cX10_worn 11 = .ok (.iload_n 3, 1) := by decide +kernel
theorem dX10_worn_12 : decode cX10_worn 12 = .ok (.ireturn, 1) := by decide +kernel
theorem dX10_worth_0 : decode cX10_worth 0 = .ok (.aload_n 0, 1) := by decide +kernel
theorem dX10_worth_1 : decode cX10_worth 1 = .ok (.iload_n 1, 1) := by decide +kernel
theorem dX10_worth_2 : decode cX10_worth 2 = .ok (.invokevirtual 269, 3) := by decide +kernel
theorem dX10_worth_5 : decode cX10_worth 5 = .ok (.ifCond .ne 6, 3) := by decide +kernel
theorem dX10_worth_8 : decode cX10_worth 8 = .ok (.bipush (-2), 2) := by decide +kernel
theorem dX10_worth_10 : decode cX10_worth 10 = .ok (.ireturn, 1) := by decide +kernel
theorem dX10_write_0 : decode cX10_write 0 = .ok (.iload_n 1, 1) := by decide +kernel
theorem dX10_write_1 : decode cX10_write 1 = .ok (.invokestatic 300, 3) := by decide +kernel
theorem dX10_write_4 : decode cX10_write 4 = .ok (.ifCond .ne 6, 3) := by decide +kernel
theorem dX10_write_7 : decode cX10_write 7 = .ok (.bipush (-2), 2) := by decide +kernel
theorem dX10_write_9 : decode cX10_write 9 = .ok (.ireturn, 1) := by decide +kernel
theorem dX10_write_10 : decode cX10_write 10 = .ok (.aload_n 0, 1) := by decide +kernel
theorem dX10_write_11 : decode cX10_write 11 = .ok (.getfield 67, 3) := by decide +kernel
theorem dX10_write_14 : decode cX10_write 14 = .ok (.iload_n 1, 1) := by decide +kernel
theorem dX10_write_15 : decode cX10_write 15 = .ok (.iaload, 1) := by decide +kernel
theorem dX10_write_16 : decode cX10_write 16 = .ok (.iconst (-1), 1) := by decide +kernel
theorem dX10_write_17 : decode cX10_write 17 = .ok (.if_icmp .ne 6, 3) := by decide +kernel
theorem dX10_write_20 : decode cX10_write 20 = .ok (.bipush (-6), 2) := by decide +kernel
theorem dX10_write_22 : decode cX10_write 22 = .ok (.ireturn, 1) := by decide +kernel
theorem dX1_isCart_0 : decode cX1_isCart 0 = .ok (.iload_n 1, 1) := by decide +kernel
theorem dX1_isCart_1 : decode cX1_isCart 1 = .ok (.ifCond .lt 15, 3) := by decide +kernel
theorem dX1_isCart_4 : decode cX1_isCart 4 = .ok (.iload_n 1, 1) := by decide +kernel
theorem dX1_isCart_5 : decode cX1_isCart 5 = .ok (.aload_n 0, 1) := by decide +kernel
theorem dX1_isCart_6 : decode cX1_isCart 6 = .ok (.getfield 53, 3) := by decide +kernel
theorem dX1_isCart_9 : decode cX1_isCart 9 = .ok (.if_icmp .ge 7, 3) := by decide +kernel
theorem dX1_isCart_16 : decode cX1_isCart 16 = .ok (.iconst 0, 1) := by decide +kernel
theorem dX1_isCart_17 : decode cX1_isCart 17 = .ok (.ireturn, 1) := by decide +kernel
theorem dX1_isErrand_0 : decode cX1_isErrand 0 = .ok (.iload_n 1, 1) := by decide +kernel
theorem dX1_isErrand_1 : decode cX1_isErrand 1 = .ok (.ifCond .lt 15, 3) := by decide +kernel
theorem dX1_isErrand_4 : decode cX1_isErrand 4 = .ok (.iload_n 1, 1) := by decide +kernel
theorem dX1_isErrand_5 : decode cX1_isErrand 5 = .ok (.aload_n 0, 1) := by decide +kernel
theorem dX1_isErrand_6 : decode cX1_isErrand 6 = .ok (.getfield 56, 3) := by decide +kernel
theorem dX1_isErrand_9 : decode cX1_isErrand 9 = .ok (.if_icmp .ge 7, 3) := by decide +kernel
theorem dX1_isErrand_16 : decode cX1_isErrand 16 = .ok (.iconst 0, 1) := by decide +kernel
theorem dX1_isErrand_17 : decode cX1_isErrand 17 = .ok (.ireturn, 1) := by decide +kernel
theorem dX1_isPlace_0 : decode cX1_isPlace 0 = .ok (.iload_n 1, 1) := by decide +kernel
theorem dX1_isPlace_1 : decode cX1_isPlace 1 = .ok (.ifCond .lt 15, 3) := by decide +kernel
theorem dX1_isPlace_4 : decode cX1_isPlace 4 = .ok (.iload_n 1, 1) := by decide +kernel
theorem dX1_isPlace_5 : decode cX1_isPlace 5 = .ok (.aload_n 0, 1) := by decide +kernel
theorem dX1_isPlace_6 : decode cX1_isPlace 6 = .ok (.getfield 41, 3) := by decide +kernel
theorem dX1_isPlace_9 : decode cX1_isPlace 9 = .ok (.if_icmp .ge 7, 3) := by decide +kernel
theorem dX1_isPlace_16 : decode cX1_isPlace 16 = .ok (.iconst 0, 1) := by decide +kernel
theorem dX1_isPlace_17 : decode cX1_isPlace 17 = .ok (.ireturn, 1) := by decide +kernel
theorem dX1_isRoad_0 : decode cX1_isRoad 0 = .ok (.iload_n 1, 1) := by decide +kernel
theorem dX1_isRoad_1 : decode cX1_isRoad 1 = .ok (.ifCond .lt 15, 3) := by decide +kernel
theorem dX1_isRoad_4 : decode cX1_isRoad 4 = .ok (.iload_n 1, 1) := by decide +kernel
theorem dX1_isRoad_5 : decode cX1_isRoad 5 = .ok (.aload_n 0, 1) := by decide +kernel
theorem dX1_isRoad_6 : decode cX1_isRoad 6 = .ok (.getfield 47, 3) := by decide +kernel
theorem dX1_isRoad_9 : decode cX1_isRoad 9 = .ok (.if_icmp .ge 7, 3) := by decide +kernel
theorem dX1_isRoad_16 : decode cX1_isRoad 16 = .ok (.iconst 0, 1) := by decide +kernel
theorem dX1_isRoad_17 : decode cX1_isRoad 17 = .ok (.ireturn, 1) := by decide +kernel
theorem dX1_isTold_0 : decode cX1_isTold 0 = .ok (.aload_n 0, 1) := by decide +kernel
theorem dX1_isTold_1 : decode cX1_isTold 1 = .ok (.getfield 37, 3) := by decide +kernel
theorem dX1_isTold_4 : decode cX1_isTold 4 = .ok (.ifCond .le 7, 3) := by decide +kernel
theorem dX1_isTold_11 : decode cX1_isTold 11 = .ok (.iconst 0, 1) := by decide +kernel
theorem dX1_isTold_12 : decode cX1_isTold 12 = .ok (.ireturn, 1) := by decide +kernel
theorem dX1_isWheel_0 : decode cX1_isWheel 0 = .ok (.iload_n 1, 1) := by decide +kernel
theorem dX1_isWheel_1 : decode cX1_isWheel 1 = .ok (.ifCond .lt 15, 3) := by decide +kernel
theorem dX1_isWheel_4 : decode cX1_isWheel 4 = .ok (.iload_n 1, 1) := by decide +kernel
theorem dX1_isWheel_5 : decode cX1_isWheel 5 = .ok (.aload_n 0, 1) := by decide +kernel
theorem dX1_isWheel_6 : decode cX1_isWheel 6 = .ok (.getfield 50, 3) := by decide +kernel
theorem dX1_isWheel_9 : decode cX1_isWheel 9 = .ok (.if_icmp .ge 7, 3) := by decide +kernel
theorem dX1_isWheel_16 : decode cX1_isWheel 16 = .ok (.iconst 0, 1) := by decide +kernel
theorem dX1_isWheel_17 : decode cX1_isWheel 17 = .ok (.ireturn, 1) := by decide +kernel
theorem dX4_hasRow_0 : decode cX4_hasRow 0 = .ok (.aload_n 0, 1) := by decide +kernel
theorem dX4_hasRow_1 : decode cX4_hasRow 1 = .ok (.getfield 11, 3) := by decide +kernel
theorem dX4_hasRow_4 : decode cX4_hasRow 4 = .ok (.iload_n 1, 1) := by decide +kernel
theorem dX4_hasRow_5 : decode cX4_hasRow 5 = .ok (.iaload, 1) := by decide +kernel
theorem dX4_hasRow_6 : decode cX4_hasRow 6 = .ok (.iconst (-1), 1) := by decide +kernel
theorem dX4_hasRow_7 : decode cX4_hasRow 7 = .ok (.if_icmp .eq 7, 3) := by decide +kernel
theorem dX4_hasRow_14 : decode cX4_hasRow 14 = .ok (.iconst 0, 1) := by decide +kernel
theorem dX4_hasRow_15 : decode cX4_hasRow 15 = .ok (.ireturn, 1) := by decide +kernel
theorem dX4_isSlot_0 : decode cX4_isSlot 0 = .ok (.iload_n 1, 1) := by decide +kernel
theorem dX4_isSlot_1 : decode cX4_isSlot 1 = .ok (.ifCond .lt 12, 3) := by decide +kernel
theorem dX4_isSlot_4 : decode cX4_isSlot 4 = .ok (.iload_n 1, 1) := by decide +kernel
theorem dX4_isSlot_5 : decode cX4_isSlot 5 = .ok (.iconst 4, 1) := by decide +kernel
theorem dX4_isSlot_6 : decode cX4_isSlot 6 = .ok (.if_icmp .ge 7, 3) := by decide +kernel
theorem dX4_isSlot_9 : decode cX4_isSlot 9 = .ok (.iconst 1, 1) := by decide +kernel
theorem dX4_isSlot_10 : decode cX4_isSlot 10 = .ok (.goto 4, 3) := by decide +kernel
theorem dX4_isSlot_13 : decode cX4_isSlot 13 = .ok (.iconst 0, 1) := by decide +kernel
theorem dX4_isSlot_14 : decode cX4_isSlot 14 = .ok (.ireturn, 1) := by decide +kernel
theorem dX4_rowCount_0 : decode cX4_rowCount 0 = .ok (.iconst 0, 1) := by decide +kernel
theorem dX4_rowCount_1 : decode cX4_rowCount 1 = .ok (.istore_n 1, 1) := by decide +kernel
theorem dX4_rowCount_2 : decode cX4_rowCount 2 = .ok (.iconst 0, 1) := by decide +kernel
theorem dX4_rowCount_3 : decode cX4_rowCount 3 = .ok (.istore_n 2, 1) := by decide +kernel
theorem dX4_rowCount_4 : decode cX4_rowCount 4 = .ok (.iload_n 2, 1) := by decide +kernel
theorem dX4_rowCount_5 : decode cX4_rowCount 5 = .ok (.iconst 4, 1) := by decide +kernel
theorem dX4_rowCount_6 : decode cX4_rowCount 6 = .ok (.if_icmp .ge 20, 3) := by decide +kernel
theorem dX4_rowCount_9 : decode cX4_rowCount 9 = .ok (.aload_n 0, 1) := by decide +kernel
theorem dX4_rowCount_10 : decode cX4_rowCount 10 = .ok (.iload_n 2, 1) := by decide +kernel
theorem dX4_rowCount_11 : decode cX4_rowCount 11 = .ok (.invokevirtual 29, 3) := by decide +kernel
theorem dX4_rowCount_14 : decode cX4_rowCount 14 = .ok (.ifCond .eq 6, 3) := by decide +kernel
theorem dX4_rowCount_20 : decode cX4_rowCount 20 = .ok (.iinc 2 1, 3) := by decide +kernel
theorem dX4_rowCount_23 : decode cX4_rowCount 23 = .ok (.goto (-19), 3) := by decide +kernel
theorem dX4_rowCount_26 : decode cX4_rowCount 26 = .ok (.iload_n 1, 1) := by decide +kernel
theorem dX4_rowCount_27 : decode cX4_rowCount 27 = .ok (.ireturn, 1) := by decide +kernel
theorem dX9_agree_0 : decode cX9_agree 0 = .ok (.aload_n 0, 1) := by decide +kernel
theorem dX9_agree_1 : decode cX9_agree 1 = .ok (.getfield 24, 3) := by decide +kernel
theorem dX9_agree_4 : decode cX9_agree 4 = .ok (.getfield 100, 3) := by decide +kernel
theorem dX9_agree_7 : decode cX9_agree 7 = .ok (.iload_n 1, 1) := by decide +kernel
theorem dX9_agree_8 : decode cX9_agree 8 = .ok (.invokevirtual 127, 3) := by decide +kernel
theorem dX9_agree_11 : decode cX9_agree 11 = .ok (.ifCond .eq 17, 3) := by decide +kernel
theorem dX9_agree_28 : decode cX9_agree 28 = .ok (.bipush (-2), 2) := by decide +kernel
theorem dX9_agree_30 : decode cX9_agree 30 = .ok (.ireturn, 1) := by decide +kernel
theorem dX9_anew_0 : decode cX9_anew 0 = .ok (.aload_n 0, 1) := by decide +kernel
theorem dX9_anew_1 : decode cX9_anew 1 = .ok (.getfield 24, 3) := by decide +kernel
theorem dX9_anew_4 : decode cX9_anew 4 = .ok (.getfield 100, 3) := by decide +kernel
theorem dX9_anew_7 : decode cX9_anew 7 = .ok (.invokevirtual 211, 3) := by decide +kernel
theorem dX9_anew_10 : decode cX9_anew 10 = .ok (.ifCond .ne 6, 3) := by decide +kernel
theorem dX9_anew_13 : decode cX9_anew 13 = .ok (.bipush (-2), 2) := by decide +kernel
theorem dX9_anew_15 : decode cX9_anew 15 = .ok (.ireturn, 1) := by decide +kernel
theorem dX9_argue_0 : decode cX9_argue 0 = .ok (.aload_n 0, 1) := by decide +kernel
theorem dX9_argue_1 : decode cX9_argue 1 = .ok (.iload_n 1, 1) := by decide +kernel
theorem dX9_argue_2 : decode cX9_argue 2 = .ok (.iload_n 2, 1) := by decide +kernel
theorem dX9_argue_3 : decode cX9_argue 3 = .ok (.invokevirtual 191, 3) := by decide +kernel
theorem dX9_argue_6 : decode cX9_argue 6 = .ok (.ifCond .ne 6, 3) := by decide +kernel
theorem dX9_argue_9 : decode cX9_argue 9 = .ok (.bipush (-2), 2) := by decide +kernel
theorem dX9_argue_11 : decode cX9_argue 11 = .ok (.ireturn, 1) := by decide +kernel
theorem dX9_aside_0 : decode cX9_aside 0 = .ok (.aload_n 0, 1) := by decide +kernel
theorem dX9_aside_1 : decode cX9_aside 1 = .ok (.getfield 24, 3) := by decide +kernel
theorem dX9_aside_4 : decode cX9_aside 4 = .ok (.getfield 100, 3) := by decide +kernel
theorem dX9_aside_7 : decode cX9_aside 7 = .ok (.iload_n 1, 1) := by decide +kernel
theorem dX9_aside_8 : decode cX9_aside 8 = .ok (.invokevirtual 147, 3) := by decide +kernel
theorem dX9_aside_11 : decode cX9_aside 11 = .ok (.ifCond .ne 6, 3) := by decide +kernel
theorem dX9_aside_14 : decode cX9_aside 14 = .ok (.bipush (-2), 2) := by decide +kernel
theorem dX9_aside_16 : decode cX9_aside 16 = .ok (.ireturn, 1) := by decide +kernel
theorem dX9_ask_0 : decode cX9_ask 0 = .ok (.aload_n 0, 1) := by decide +kernel
theorem dX9_ask_1 : decode cX9_ask 1 = .ok (.iload_n 1, 1) := by decide +kernel
theorem dX9_ask_2 : decode cX9_ask 2 = .ok (.invokevirtual 332, 3) := by decide +kernel
theorem dX9_ask_5 : decode cX9_ask 5 = .ok (.istore_n 2, 1) := by decide +kernel
theorem dX9_ask_6 : decode cX9_ask 6 = .ok (.iload_n 2, 1) := by decide +kernel
theorem dX9_ask_7 : decode cX9_ask 7 = .ok (.ifCond .ge 7, 3) := by decide +kernel
theorem dX9_ask_10 : decode cX9_ask 10 = .ok (.iload_n 2, 1) := by decide +kernel
theorem dX9_ask_11 : decode cX9_ask 11 = .ok (.goto 8, 3) := by decide +kernel
theorem dX9_ask_19 : decode cX9_ask 19 = .ok (.ireturn, 1) := by decide +kernel
theorem dX9_astray_0 : decode cX9_astray 0 = .ok (.aload_n 0, 1) := by decide +kernel
theorem dX9_astray_1 : decode cX9_astray 1 = .ok (.iload_n 1, 1) := by decide +kernel
theorem dX9_astray_2 : decode cX9_astray 2 = .ok (.iload_n 2, 1) := by decide +kernel
theorem dX9_astray_3 : decode cX9_astray 3 = .ok (.invokevirtual 220, 3) := by decide +kernel
theorem dX9_astray_6 : decode cX9_astray 6 = .ok (.istore_n 3, 1) := by decide +kernel
theorem dX9_astray_7 : decode cX9_astray 7 = .ok (.iload_n 3, 1) := by decide +kernel
theorem dX9_astray_8 : decode cX9_astray 8 = .ok (.ifCond .eq 7, 3) := by decide +kernel
theorem dX9_astray_11 : decode cX9_astray 11 = .ok (.iload_n 3, 1) := by decide +kernel
theorem dX9_astray_12 : decode cX9_astray 12 = .ok (.goto 10, 3) := by decide +kernel
theorem dX9_astray_22 : decode cX9_astray 22 = .ok (.ireturn, 1) := by decide +kernel
theorem dX9_back_0 : decode cX9_back 0 = .ok (.iload_n 1, 1) := by decide +kernel
theorem dX9_back_1 : decode cX9_back 1 = .ok (.ifCond .lt 8, 3) := by decide +kernel
theorem dX9_back_4 : decode cX9_back 4 = .ok (.iload_n 1, 1) := by decide +kernel
theorem dX9_back_5 : decode cX9_back 5 = .ok (.iconst 3, 1) := by decide +kernel
theorem dX9_back_6 : decode cX9_back 6 = .ok (.if_icmp .lt 6, 3) := by decide +kernel
theorem dX9_back_9 : decode cX9_back 9 = .ok (.bipush (-2), 2) := by decide +kernel
theorem dX9_back_11 : decode cX9_back 11 = .ok (.ireturn, 1) := by decide +kernel
theorem dX9_back_12 : decode cX9_back 12 = .ok (.aload_n 0, 1) := by decide +kernel
theorem dX9_back_13 : decode cX9_back 13 = .ok (.getfield 32, 3) := by decide +kernel
theorem dX9_back_16 : decode cX9_back 16 = .ok (.iload_n 1, 1) := by decide +kernel
theorem dX9_back_17 : decode cX9_back 17 = .ok (.baload, 1) := by decide +kernel
theorem dX9_back_18 : decode cX9_back 18 = .ok (.ifCond .ne 6, 3) := by decide +kernel
theorem dX9_back_21 : decode cX9_back 21 = .ok (.bipush (-6), 2) := by decide +kernel
theorem dX9_back_23 : decode cX9_back 23 = .ok (.ireturn, 1) := by decide +kernel
theorem dX9_blind_0 : decode cX9_blind 0 = .ok (.aload_n 0, 1) := by decide +kernel
theorem dX9_blind_1 : decode cX9_blind 1 = .ok (.iload_n 1, 1) := by decide +kernel
theorem dX9_blind_2 : decode cX9_blind 2 = .ok (.iload_n 2, 1) := by decide +kernel
theorem dX9_blind_3 : decode cX9_blind 3 = .ok (.invokevirtual 191, 3) := by decide +kernel
theorem dX9_blind_6 : decode cX9_blind 6 = .ok (.ifCond .ne 6, 3) := by decide +kernel
theorem dX9_blind_9 : decode cX9_blind 9 = .ok (.bipush (-2), 2) := by decide +kernel
theorem dX9_blind_11 : decode cX9_blind 11 = .ok (.ireturn, 1) := by decide +kernel
theorem dX9_blinds_0 : decode cX9_blinds 0 = .ok (.aload_n 0, 1) := by decide +kernel
theorem dX9_blinds_1 : decode cX9_blinds 1 = .ok (.iload_n 1, 1) := by decide +kernel
theorem dX9_blinds_2 : decode cX9_blinds 2 = .ok (.iload_n 2, 1) := by decide +kernel
theorem dX9_blinds_3 : decode cX9_blinds 3 = .ok (.invokevirtual 191, 3) := by decide +kernel
theorem dX9_blinds_6 : decode cX9_blinds 6 = .ok (.ifCond .eq 12, 3) := by decide +kernel
theorem dX9_blinds_18 : decode cX9_blinds 18 = .ok (.bipush (-2), 2) := by decide +kernel
theorem dX9_blinds_20 : decode cX9_blinds 20 = .ok (.ireturn, 1) := by decide +kernel
theorem dX9_canDraw_0 : decode cX9_canDraw 0 = .ok (.iload_n 1, 1) := by decide +kernel
theorem dX9_canDraw_1 : decode cX9_canDraw 1 = .ok (.ifCond .lt 38, 3) := by decide +kernel
theorem dX9_canDraw_4 : decode cX9_canDraw 4 = .ok (.iload_n 1, 1) := by decide +kernel
theorem dX9_canDraw_5 : decode cX9_canDraw 5 = .ok (.ldc_w 386, 3) := by decide +kernel
theorem dX9_canDraw_8 : decode cX9_canDraw 8 = .ok (.if_icmp .gt 31, 3) := by decide +kernel
theorem dX9_canDraw_11 : decode cX9_canDraw 11 = .ok (.aload_n 0, 1) := by decide +kernel
theorem dX9_canDraw_12 : decode cX9_canDraw 12 = .ok (.getfield 24, 3) := by decide +kernel
theorem dX9_canDraw_15 : decode cX9_canDraw 15 = .ok (.getfield 100, 3) := by decide +kernel
theorem dX9_canDraw_18 : decode cX9_canDraw 18 = .ok (.iload_n 2, 1) := by decide +kernel
theorem dX9_canDraw_19 : decode cX9_canDraw 19 = .ok (.invokevirtual 147, 3) := by decide +kernel
theorem dX9_canDraw_22 : decode cX9_canDraw 22 = .ok (.ifCond .eq 17, 3) := by decide +kernel
theorem dX9_canDraw_39 : decode cX9_canDraw 39 = .ok (.iconst 0, 1) := by decide +kernel
theorem dX9_canDraw_40 : decode cX9_canDraw 40 = .ok (.ireturn, 1) := by decide +kernel
theorem dX9_canWant_0 : decode cX9_canWant 0 = .ok (.aload_n 0, 1) := by decide +kernel
theorem dX9_canWant_1 : decode cX9_canWant 1 = .ok (.getfield 24, 3) := by decide +kernel
theorem dX9_canWant_4 : decode cX9_canWant 4 = .ok (.getfield 100, 3) := by decide +kernel
theorem dX9_canWant_7 : decode cX9_canWant 7 = .ok (.iload_n 1, 1) := by decide +kernel
theorem dX9_canWant_8 : decode cX9_canWant 8 = .ok (.invokevirtual 147, 3) := by decide +kernel
theorem dX9_canWant_11 : decode cX9_canWant 11 = .ok (.ifCond .eq 21, 3) := by decide +kernel
theorem dX9_canWant_32 : decode cX9_canWant 32 = .ok (.iconst 0, 1) := by decide +kernel
theorem dX9_canWant_33 : decode cX9_canWant 33 = .ok (.ireturn, 1) := by decide +kernel
theorem dX9_cart_0 : decode cX9_cart 0 = .ok (.aload_n 0, 1) := by decide +kernel
theorem dX9_cart_1 : decode cX9_cart 1 = .ok (.getfield 24, 3) := by decide +kernel
theorem dX9_cart_4 : decode cX9_cart 4 = .ok (.getfield 100, 3) := by decide +kernel
theorem dX9_cart_7 : decode cX9_cart 7 = .ok (.iload_n 1, 1) := by decide +kernel
theorem dX9_cart_8 : decode cX9_cart 8 = .ok (.invokevirtual 147, 3) := by decide +kernel
theorem dX9_cart_11 : decode cX9_cart 11 = .ok (.ifCond .ne 6, 3) := by decide +kernel
theorem dX9_cart_14 : decode cX9_cart 14 = .ok (.bipush (-2), 2) := by decide +kernel
theorem dX9_cart_16 : decode cX9_cart 16 = .ok (.ireturn, 1) := by decide +kernel
theorem dX9_choose_0 : decode cX9_choose 0 = .ok (.aload_n 0, 1) := by decide +kernel
theorem dX9_choose_1 : decode cX9_choose 1 = .ok (.getfield 24, 3) := by decide +kernel
theorem dX9_choose_4 : decode cX9_choose 4 = .ok (.getfield 100, 3) := by decide +kernel
theorem dX9_choose_7 : decode cX9_choose 7 = .ok (.iload_n 1, 1) := by decide +kernel
theorem dX9_choose_8 : decode cX9_choose 8 = .ok (.invokevirtual 147, 3) := by decide +kernel
theorem dX9_choose_11 : decode cX9_choose 11 = .ok (.ifCond .eq 17, 3) := by decide +kernel
theorem dX9_choose_28 : decode cX9_choose 28 = .ok (.bipush (-2), 2) := by decide +kernel
theorem dX9_choose_30 : decode cX9_choose 30 = .ok (.ireturn, 1) := by decide +kernel
theorem dX9_chosen_0 : decode cX9_chosen 0 = .ok (.aload_n 0, 1) := by decide +kernel
theorem dX9_chosen_1 : decode cX9_chosen 1 = .ok (.getfield 24, 3) := by decide +kernel
theorem dX9_chosen_4 : decode cX9_chosen 4 = .ok (.getfield 100, 3) := by decide +kernel
theorem dX9_chosen_7 : decode cX9_chosen 7 = .ok (.iload_n 1, 1) := by decide +kernel
theorem dX9_chosen_8 : decode cX9_chosen 8 = .ok (.invokevirtual 147, 3) := by decide +kernel
theorem dX9_chosen_11 : decode cX9_chosen 11 = .ok (.ifCond .eq 17, 3) := by decide +kernel
theorem dX9_chosen_28 : decode cX9_chosen 28 = .ok (.bipush (-2), 2) := by decide +kernel
theorem dX9_chosen_30 : decode cX9_chosen 30 = .ok (.ireturn, 1) := by decide +kernel
theorem dX9_circle_0 : decode cX9_circle 0 = .ok (.aload_n 0, 1) := by decide +kernel
theorem dX9_circle_1 : decode cX9_circle 1 = .ok (.getfield 24, 3) := by decide +kernel
theorem dX9_circle_4 : decode cX9_circle 4 = .ok (.getfield 100, 3) := by decide +kernel
theorem dX9_circle_7 : decode cX9_circle 7 = .ok (.iload_n 1, 1) := by decide +kernel
theorem dX9_circle_8 : decode cX9_circle 8 = .ok (.invokevirtual 147, 3) := by decide +kernel
theorem dX9_circle_11 : decode cX9_circle 11 = .ok (.ifCond .ne 6, 3) := by decide +kernel
theorem dX9_circle_14 : decode cX9_circle 14 = .ok (.bipush (-2), 2) := by decide +kernel
theorem dX9_circle_16 : decode cX9_circle 16 = .ok (.ireturn, 1) := by decide +kernel
theorem dX9_count_0 : decode cX9_count 0 = .ok (.iload_n 1, 1) := by decide +kernel
theorem dX9_count_1 : decode cX9_count 1 = .ok (.tableswitch 156 0 9 #[55, 66, 77, 88, 99, 110, 121, 132, 140, 148], 55) := by decide +kernel
theorem dX9_count_56 : decode cX9_count 56 = .ok (.aload_n 0, 1) := by decide +kernel
theorem dX9_count_57 : decode cX9_count 57 = .ok (.getfield 24, 3) := by decide +kernel
theorem dX9_count_60 : decode cX9_count 60 = .ok (.getfield 100, 3) := by decide +kernel
theorem dX9_count_63 : decode cX9_count 63 = .ok (.getfield 273, 3) := by decide +kernel
theorem dX9_count_66 : decode cX9_count 66 = .ok (.ireturn, 1) := by decide +kernel
theorem dX9_count_67 : decode cX9_count 67 = .ok (.aload_n 0, 1) := by decide +kernel
theorem dX9_count_68 : decode cX9_count 68 = .ok (.getfield 24, 3) := by decide +kernel
theorem dX9_count_71 : decode cX9_count 71 = .ok (.getfield 100, 3) := by decide +kernel
theorem dX9_count_74 : decode cX9_count 74 = .ok (.getfield 188, 3) := by decide +kernel
theorem dX9_count_77 : decode cX9_count 77 = .ok (.ireturn, 1) := by decide +kernel
theorem dX9_count_78 : decode cX9_count 78 = .ok (.aload_n 0, 1) := by decide +kernel
theorem dX9_count_79 : decode cX9_count 79 = .ok (.getfield 24, 3) := by decide +kernel
theorem dX9_count_82 : decode cX9_count 82 = .ok (.getfield 100, 3) := by decide +kernel
theorem dX9_count_85 : decode cX9_count 85 = .ok (.getfield 314, 3) := by decide +kernel
theorem dX9_count_88 : decode cX9_count 88 = .ok (.ireturn, 1) := by decide +kernel
theorem dX9_count_89 : decode cX9_count 89 = .ok (.aload_n 0, 1) := by decide +kernel
theorem dX9_count_90 : decode cX9_count 90 = .ok (.getfield 24, 3) := by decide +kernel
theorem dX9_count_93 : decode cX9_count 93 = .ok (.getfield 100, 3) := by decide +kernel
theorem dX9_count_96 : decode cX9_count 96 = .ok (.getfield 407, 3) := by decide +kernel
theorem dX9_count_99 : decode cX9_count 99 = .ok (.ireturn, 1) := by decide +kernel
theorem dX9_count_100 : decode cX9_count 100 = .ok (.aload_n 0, 1) := by decide +kernel
theorem dX9_count_101 : decode cX9_count 101 = .ok (.getfield 24, 3) := by decide +kernel
theorem dX9_count_104 : decode cX9_count 104 = .ok (.getfield 100, 3) := by decide +kernel
theorem dX9_count_107 : decode cX9_count 107 = .ok (.getfield 284, 3) := by decide +kernel
theorem dX9_count_110 : decode cX9_count 110 = .ok (.ireturn, 1) := by decide +kernel
theorem dX9_count_111 : decode cX9_count 111 = .ok (.aload_n 0, 1) := by decide +kernel
theorem dX9_count_112 : decode cX9_count 112 = .ok (.getfield 24, 3) := by decide +kernel
theorem dX9_count_115 : decode cX9_count 115 = .ok (.getfield 100, 3) := by decide +kernel
theorem dX9_count_118 : decode cX9_count 118 = .ok (.getfield 404, 3) := by decide +kernel
theorem dX9_count_121 : decode cX9_count 121 = .ok (.ireturn, 1) := by decide +kernel
theorem dX9_count_122 : decode cX9_count 122 = .ok (.aload_n 0, 1) := by decide +kernel
theorem dX9_count_123 : decode cX9_count 123 = .ok (.getfield 24, 3) := by decide +kernel
theorem dX9_count_126 : decode cX9_count 126 = .ok (.getfield 100, 3) := by decide +kernel
theorem dX9_count_129 : decode cX9_count 129 = .ok (.getfield 103, 3) := by decide +kernel
theorem dX9_count_132 : decode cX9_count 132 = .ok (.ireturn, 1) := by decide +kernel
theorem dX9_count_133 : decode cX9_count 133 = .ok (.aload_n 0, 1) := by decide +kernel
theorem dX9_count_134 : decode cX9_count 134 = .ok (.getfield 20, 3) := by decide +kernel
theorem dX9_count_137 : decode cX9_count 137 = .ok (.getfield 85, 3) := by decide +kernel
theorem dX9_count_140 : decode cX9_count 140 = .ok (.ireturn, 1) := by decide +kernel
theorem dX9_count_141 : decode cX9_count 141 = .ok (.aload_n 0, 1) := by decide +kernel
theorem dX9_count_142 : decode cX9_count 142 = .ok (.getfield 24, 3) := by decide +kernel
theorem dX9_count_145 : decode cX9_count 145 = .ok (.getfield 214, 3) := by decide +kernel
theorem dX9_count_148 : decode cX9_count 148 = .ok (.ireturn, 1) := by decide +kernel
theorem dX9_count_149 : decode cX9_count 149 = .ok (.aload_n 0, 1) := by decide +kernel
theorem dX9_count_150 : decode cX9_count 150 = .ok (.getfield 39, 3) := by decide +kernel
theorem dX9_count_153 : decode cX9_count 153 = .ok (.invokevirtual 410, 3) := by decide +kernel
theorem dX9_count_156 : decode cX9_count 156 = .ok (.ireturn, 1) := by decide +kernel
theorem dX9_count_157 : decode cX9_count 157 = .ok (.iconst (-1), 1) := by decide +kernel
theorem dX9_count_158 : decode cX9_count 158 = .ok (.ireturn, 1) := by decide +kernel
theorem dX9_dearest_0 : decode cX9_dearest 0 = .ok (.aload_n 0, 1) := by decide +kernel
theorem dX9_dearest_1 : decode cX9_dearest 1 = .ok (.getfield 24, 3) := by decide +kernel
theorem dX9_dearest_4 : decode cX9_dearest 4 = .ok (.getfield 100, 3) := by decide +kernel
theorem dX9_dearest_7 : decode cX9_dearest 7 = .ok (.invokevirtual 211, 3) := by decide +kernel
theorem dX9_dearest_10 : decode cX9_dearest 10 = .ok (.ifCond .ne 6, 3) := by decide +kernel
theorem dX9_dearest_13 : decode cX9_dearest 13 = .ok (.bipush (-2), 2) := by decide +kernel
theorem dX9_dearest_15 : decode cX9_dearest 15 = .ok (.ireturn, 1) := by decide +kernel
theorem dX9_drawn_0 : decode cX9_drawn 0 = .ok (.aload_n 0, 1) := by decide +kernel
theorem dX9_drawn_1 : decode cX9_drawn 1 = .ok (.iload_n 1, 1) := by decide +kernel
theorem dX9_drawn_2 : decode cX9_drawn 2 = .ok (.iload_n 2, 1) := by decide +kernel
theorem dX9_drawn_3 : decode cX9_drawn 3 = .ok (.iload_n 3, 1) := by decide +kernel
theorem dX9_drawn_4 : decode cX9_drawn 4 = .ok (.invokevirtual 376, 3) := by decide +kernel
theorem dX9_drawn_7 : decode cX9_drawn 7 = .ok (.ifCond .ne 6, 3) := by decide +kernel
theorem dX9_drawn_10 : decode cX9_drawn 10 = .ok (.bipush (-2), 2) := by decide +kernel
theorem dX9_drawn_12 : decode cX9_drawn 12 = .ok (.ireturn, 1) := by decide +kernel
theorem dX9_drive_0 : decode cX9_drive 0 = .ok (.aload_n 0, 1) := by decide +kernel
theorem dX9_drive_1 : decode cX9_drive 1 = .ok (.iload_n 1, 1) := by decide +kernel
theorem dX9_drive_2 : decode cX9_drive 2 = .ok (.iload_n 2, 1) := by decide +kernel
theorem dX9_drive_3 : decode cX9_drive 3 = .ok (.invokevirtual 180, 3) := by decide +kernel
theorem dX9_drive_6 : decode cX9_drive 6 = .ok (.ifCond .ne 6, 3) := by decide +kernel
theorem dX9_drive_9 : decode cX9_drive 9 = .ok (.bipush (-2), 2) := by decide +kernel
theorem dX9_drive_11 : decode cX9_drive 11 = .ok (.ireturn, 1) := by decide +kernel
theorem dX9_dues_0 : decode cX9_dues 0 = .ok (.aload_n 0, 1) := by decide +kernel
theorem dX9_dues_1 : decode cX9_dues 1 = .ok (.getfield 24, 3) := by decide +kernel
theorem dX9_dues_4 : decode cX9_dues 4 = .ok (.getfield 100, 3) := by decide +kernel
theorem dX9_dues_7 : decode cX9_dues 7 = .ok (.invokevirtual 211, 3) := by decide +kernel
theorem dX9_dues_10 : decode cX9_dues 10 = .ok (.ifCond .ne 6, 3) := by decide +kernel
theorem dX9_dues_13 : decode cX9_dues 13 = .ok (.bipush (-2), 2) := by decide +kernel
theorem dX9_dues_15 : decode cX9_dues 15 = .ok (.ireturn, 1) := by decide +kernel
theorem dX9_ends_0 : decode cX9_ends 0 = .ok (.aload_n 0, 1) := by decide +kernel
theorem dX9_ends_1 : decode cX9_ends 1 = .ok (.iload_n 1, 1) := by decide +kernel
theorem dX9_ends_2 : decode cX9_ends 2 = .ok (.iload_n 2, 1) := by decide +kernel
theorem dX9_ends_3 : decode cX9_ends 3 = .ok (.invokevirtual 220, 3) := by decide +kernel
theorem dX9_ends_6 : decode cX9_ends 6 = .ok (.istore_n 3, 1) := by decide +kernel
theorem dX9_ends_7 : decode cX9_ends 7 = .ok (.iload_n 3, 1) := by decide +kernel
theorem dX9_ends_8 : decode cX9_ends 8 = .ok (.ifCond .eq 7, 3) := by decide +kernel
theorem dX9_ends_11 : decode cX9_ends 11 = .ok (.iload_n 3, 1) := by decide +kernel
theorem dX9_ends_12 : decode cX9_ends 12 = .ok (.goto 10, 3) := by decide +kernel
theorem dX9_ends_22 : decode cX9_ends 22 = .ok (.ireturn, 1) := by decide +kernel
theorem dX9_errand_0 : decode cX9_errand 0 = .ok (.aload_n 0, 1) := by decide +kernel
theorem dX9_errand_1 : decode cX9_errand 1 = .ok (.getfield 24, 3) := by decide +kernel
theorem dX9_errand_4 : decode cX9_errand 4 = .ok (.getfield 100, 3) := by decide +kernel
theorem dX9_errand_7 : decode cX9_errand 7 = .ok (.iload_n 1, 1) := by decide +kernel
theorem dX9_errand_8 : decode cX9_errand 8 = .ok (.invokevirtual 159, 3) := by decide +kernel
theorem dX9_errand_11 : decode cX9_errand 11 = .ok (.ifCond .ne 6, 3) := by decide +kernel
theorem dX9_errand_14 : decode cX9_errand 14 = .ok (.bipush (-2), 2) := by decide +kernel
theorem dX9_errand_16 : decode cX9_errand 16 = .ok (.ireturn, 1) := by decide +kernel
theorem dX9_far_0 : decode cX9_far 0 = .ok (.aload_n 0, 1) := by decide +kernel
theorem dX9_far_1 : decode cX9_far 1 = .ok (.getfield 24, 3) := by decide +kernel
theorem dX9_far_4 : decode cX9_far 4 = .ok (.getfield 100, 3) := by decide +kernel
theorem dX9_far_7 : decode cX9_far 7 = .ok (.iload_n 1, 1) := by decide +kernel
theorem dX9_far_8 : decode cX9_far 8 = .ok (.invokevirtual 171, 3) := by decide +kernel
theorem dX9_far_11 : decode cX9_far 11 = .ok (.ifCond .eq 17, 3) := by decide +kernel
theorem dX9_far_28 : decode cX9_far 28 = .ok (.bipush (-2), 2) := by decide +kernel
theorem dX9_far_30 : decode cX9_far 30 = .ok (.ireturn, 1) := by decide +kernel
theorem dX9_fault_0 : decode cX9_fault 0 = .ok (.iload_n 1, 1) := by decide +kernel
theorem dX9_fault_1 : decode cX9_fault 1 = .ok (.ifCond .ne 11, 3) := by decide +kernel
theorem dX9_fault_4 : decode cX9_fault 4 = .ok (.aload_n 0, 1) := by decide +kernel
theorem dX9_fault_5 : decode cX9_fault 5 = .ok (.getfield 10, 3) := by decide +kernel
theorem dX9_fault_8 : decode cX9_fault 8 = .ok (.getfield 108, 3) := by decide +kernel
theorem dX9_fault_11 : decode cX9_fault 11 = .ok (.ireturn, 1) := by decide +kernel
theorem dX9_fault_12 : decode cX9_fault 12 = .ok (.iload_n 1, 1) := by decide +kernel
theorem dX9_fault_13 : decode cX9_fault 13 = .ok (.iconst 1, 1) := by decide +kernel
theorem dX9_fault_14 : decode cX9_fault 14 = .ok (.if_icmp .ne 13, 3) := by decide +kernel
theorem dX9_fault_17 : decode cX9_fault 17 = .ok (.aload_n 0, 1) := by decide +kernel
theorem dX9_fault_18 : decode cX9_fault 18 = .ok (.getfield 10, 3) := by decide +kernel
theorem dX9_fault_21 : decode cX9_fault 21 = .ok (.getfield 111, 3) := by decide +kernel
theorem dX9_fault_24 : decode cX9_fault 24 = .ok (.goto 4, 3) := by decide +kernel
theorem dX9_fault_27 : decode cX9_fault 27 = .ok (.iconst (-1), 1) := by decide +kernel
theorem dX9_fault_28 : decode cX9_fault 28 = .ok (.ireturn, 1) := by decide +kernel
theorem dX9_fits_0 : decode cX9_fits 0 = .ok (.aload_n 0, 1) := by decide +kernel
theorem dX9_fits_1 : decode cX9_fits 1 = .ok (.iload_n 1, 1) := by decide +kernel
theorem dX9_fits_2 : decode cX9_fits 2 = .ok (.invokevirtual 332, 3) := by decide +kernel
theorem dX9_fits_5 : decode cX9_fits 5 = .ok (.ireturn, 1) := by decide +kernel
theorem dX9_fitting_0 : decode cX9_fitting 0 = .ok (.aload_n 0, 1) := by decide +kernel
theorem dX9_fitting_1 : decode cX9_fitting 1 = .ok (.getfield 39, 3) := by decide +kernel
theorem dX9_fitting_4 : decode cX9_fitting 4 = .ok (.iload_n 1, 1) := by decide +kernel
theorem dX9_fitting_5 : decode cX9_fitting 5 = .ok (.invokevirtual 238, 3) := by decide +kernel
theorem dX9_fitting_8 : decode cX9_fitting 8 = .ok (.ifCond .eq 16, 3) := by decide +kernel
theorem dX9_fitting_11 : decode cX9_fitting 11 = .ok (.aload_n 0, 1) := by decide +kernel
theorem dX9_fitting_12 : decode cX9_fitting 12 = .ok (.getfield 24, 3) := by decide +kernel
theorem dX9_fitting_15 : decode cX9_fitting 15 = .ok (.getfield 100, 3) := by decide +kernel
theorem dX9_fitting_18 : decode cX9_fitting 18 = .ok (.invokevirtual 211, 3) := by decide +kernel
theorem dX9_fitting_21 : decode cX9_fitting 21 = .ok (.ifCond .ne 6, 3) := by decide +kernel
theorem dX9_fitting_24 : decode cX9_fitting 24 = .ok (.bipush (-2), 2) := by decide +kernel
theorem dX9_fitting_26 : decode cX9_fitting 26 = .ok (.ireturn, 1) := by decide +kernel
theorem dX9_follow_0 : decode cX9_follow 0 = .ok (.aload_n 0, 1) := by decide +kernel
theorem dX9_follow_1 : decode cX9_follow 1 = .ok (.getfield 39, 3) := by decide +kernel
theorem dX9_follow_4 : decode cX9_follow 4 = .ok (.iload_n 1, 1) := by decide +kernel
theorem dX9_follow_5 : decode cX9_follow 5 = .ok (.invokevirtual 238, 3) := by decide +kernel
theorem dX9_follow_8 : decode cX9_follow 8 = .ok (.ifCond .eq 17, 3) := by decide +kernel
theorem dX9_follow_11 : decode cX9_follow 11 = .ok (.aload_n 0, 1) := by decide +kernel
theorem dX9_follow_12 : decode cX9_follow 12 = .ok (.getfield 24, 3) := by decide +kernel
theorem dX9_follow_15 : decode cX9_follow 15 = .ok (.getfield 100, 3) := by decide +kernel
theorem dX9_follow_18 : decode cX9_follow 18 = .ok (.iload_n 2, 1) := by decide +kernel
theorem dX9_follow_19 : decode cX9_follow 19 = .ok (.invokevirtual 147, 3) := by decide +kernel
theorem dX9_follow_22 : decode cX9_follow 22 = .ok (.ifCond .ne 6, 3) := by decide +kernel
theorem dX9_follow_25 : decode cX9_follow 25 = .ok (.bipush (-2), 2) := by decide +kernel
theorem dX9_follow_27 : decode cX9_follow 27 = .ok (.ireturn, 1) := by decide +kernel
theorem dX9_goes_0 : decode cX9_goes 0 = .ok (.aload_n 0, 1) := by decide +kernel
theorem dX9_goes_1 : decode cX9_goes 1 = .ok (.iload_n 1, 1) := by decide +kernel
theorem dX9_goes_2 : decode cX9_goes 2 = .ok (.iload_n 2, 1) := by decide +kernel
theorem dX9_goes_3 : decode cX9_goes 3 = .ok (.invokevirtual 220, 3) := by decide +kernel
theorem dX9_goes_6 : decode cX9_goes 6 = .ok (.istore_n 3, 1) := by decide +kernel
theorem dX9_goes_7 : decode cX9_goes 7 = .ok (.iload_n 3, 1) := by decide +kernel
theorem dX9_goes_8 : decode cX9_goes 8 = .ok (.ifCond .eq 7, 3) := by decide +kernel
theorem dX9_goes_11 : decode cX9_goes 11 = .ok (.iload_n 3, 1) := by decide +kernel
theorem dX9_goes_12 : decode cX9_goes 12 = .ok (.goto 10, 3) := by decide +kernel
theorem dX9_goes_22 : decode cX9_goes 22 = .ok (.ireturn, 1) := by decide +kernel
theorem dX9_grease_0 : decode cX9_grease 0 = .ok (.aload_n 0, 1) := by decide +kernel
theorem dX9_grease_1 : decode cX9_grease 1 = .ok (.getfield 24, 3) := by decide +kernel
theorem dX9_grease_4 : decode cX9_grease 4 = .ok (.getfield 100, 3) := by decide +kernel
theorem dX9_grease_7 : decode cX9_grease 7 = .ok (.iload_n 1, 1) := by decide +kernel
theorem dX9_grease_8 : decode cX9_grease 8 = .ok (.invokevirtual 127, 3) := by decide +kernel
theorem dX9_grease_11 : decode cX9_grease 11 = .ok (.ifCond .ne 6, 3) := by decide +kernel
theorem dX9_grease_14 : decode cX9_grease 14 = .ok (.bipush (-2), 2) := by decide +kernel
theorem dX9_grease_16 : decode cX9_grease 16 = .ok (.ireturn, 1) := by decide +kernel
theorem dX9_hand_0 : decode cX9_hand 0 = .ok (.iload_n 1, 1) := by decide +kernel
theorem dX9_hand_1 : decode cX9_hand 1 = .ok (.ifCond .lt 22, 3) := by decide +kernel
theorem dX9_hand_4 : decode cX9_hand 4 = .ok (.iload_n 1, 1) := by decide +kernel
theorem dX9_hand_5 : decode cX9_hand 5 = .ok (.bipush 40, 2) := by decide +kernel
theorem dX9_hand_7 : decode cX9_hand 7 = .ok (.if_icmp .gt 16, 3) := by decide +kernel
theorem dX9_hand_10 : decode cX9_hand 10 = .ok (.aload_n 0, 1) := by decide +kernel
theorem dX9_hand_11 : decode cX9_hand 11 = .ok (.getfield 24, 3) := by decide +kernel
theorem dX9_hand_14 : decode cX9_hand 14 = .ok (.getfield 100, 3) := by decide +kernel
theorem dX9_hand_17 : decode cX9_hand 17 = .ok (.invokevirtual 211, 3) := by decide +kernel
theorem dX9_hand_20 : decode cX9_hand 20 = .ok (.ifCond .ne 6, 3) := by decide +kernel
theorem dX9_hand_23 : decode cX9_hand 23 = .ok (.bipush (-2), 2) := by decide +kernel
theorem dX9_hand_25 : decode cX9_hand 25 = .ok (.ireturn, 1) := by decide +kernel
theorem dX9_haunts_0 : decode cX9_haunts 0 = .ok (.aload_n 0, 1) := by decide +kernel
theorem dX9_haunts_1 : decode cX9_haunts 1 = .ok (.getfield 24, 3) := by decide +kernel
theorem dX9_haunts_4 : decode cX9_haunts 4 = .ok (.getfield 100, 3) := by decide +kernel
theorem dX9_haunts_7 : decode cX9_haunts 7 = .ok (.iload_n 1, 1) := by decide +kernel
theorem dX9_haunts_8 : decode cX9_haunts 8 = .ok (.invokevirtual 147, 3) := by decide +kernel
theorem dX9_haunts_11 : decode cX9_haunts 11 = .ok (.ifCond .ne 6, 3) := by decide +kernel
theorem dX9_haunts_14 : decode cX9_haunts 14 = .ok (.bipush (-2), 2) := by decide +kernel
theorem dX9_haunts_16 : decode cX9_haunts 16 = .ok (.ireturn, 1) := by decide +kernel
theorem dX9_isByCart_0 : decode cX9_isByCart 0 = .ok (.aload_n 0, 1) := by decide +kernel
theorem dX9_isByCart_1 : decode cX9_isByCart 1 = .ok (.getfield 24, 3) := by decide +kernel
theorem dX9_isByCart_4 : decode cX9_isByCart 4 = .ok (.getfield 100, 3) := by decide +kernel
theorem dX9_isByCart_7 : decode cX9_isByCart 7 = .ok (.iload_n 1, 1) := by decide +kernel
theorem dX9_isByCart_8 : decode cX9_isByCart 8 = .ok (.invokevirtual 147, 3) := by decide +kernel
theorem dX9_isByCart_11 : decode cX9_isByCart 11 = .ok (.ifCond .eq 33, 3) := by decide +kernel
theorem dX9_isByCart_44 : decode cX9_isByCart 44 = .ok (.iconst 0, 1) := by decide +kernel
theorem dX9_isByCart_45 : decode cX9_isByCart 45 = .ok (.ireturn, 1) := by decide +kernel
theorem dX9_lasts_0 : decode cX9_lasts 0 = .ok (.aload_n 0, 1) := by decide +kernel
theorem dX9_lasts_1 : decode cX9_lasts 1 = .ok (.getfield 24, 3) := by decide +kernel
theorem dX9_lasts_4 : decode cX9_lasts 4 = .ok (.getfield 100, 3) := by decide +kernel
theorem dX9_lasts_7 : decode cX9_lasts 7 = .ok (.iload_n 1, 1) := by decide +kernel
theorem dX9_lasts_8 : decode cX9_lasts 8 = .ok (.invokevirtual 127, 3) := by decide +kernel
theorem dX9_lasts_11 : decode cX9_lasts 11 = .ok (.ifCond .eq 14, 3) := by decide +kernel
theorem dX9_lasts_25 : decode cX9_lasts 25 = .ok (.bipush (-2), 2) := by decide +kernel
theorem dX9_lasts_27 : decode cX9_lasts 27 = .ok (.ireturn, 1) := by decide +kernel
theorem dX9_leaves_0 : decode cX9_leaves 0 = .ok (.aload_n 0, 1) := by decide +kernel
theorem dX9_leaves_1 : decode cX9_leaves 1 = .ok (.iload_n 1, 1) := by decide +kernel
theorem dX9_leaves_2 : decode cX9_leaves 2 = .ok (.invokevirtual 332, 3) := by decide +kernel
theorem dX9_leaves_5 : decode cX9_leaves 5 = .ok (.istore_n 2, 1) := by decide +kernel
theorem dX9_leaves_6 : decode cX9_leaves 6 = .ok (.iload_n 2, 1) := by decide +kernel
theorem dX9_leaves_7 : decode cX9_leaves 7 = .ok (.ifCond .ge 5, 3) := by decide +kernel
theorem dX9_leaves_10 : decode cX9_leaves 10 = .ok (.iload_n 2, 1) := by decide +kernel
theorem dX9_leaves_11 : decode cX9_leaves 11 = .ok (.ireturn, 1) := by decide +kernel
theorem dX9_likes_0 : decode cX9_likes 0 = .ok (.aload_n 0, 1) := by decide +kernel
theorem dX9_likes_1 : decode cX9_likes 1 = .ok (.getfield 24, 3) := by decide +kernel
theorem dX9_likes_4 : decode cX9_likes 4 = .ok (.getfield 100, 3) := by decide +kernel
theorem dX9_likes_7 : decode cX9_likes 7 = .ok (.iload_n 1, 1) := by decide +kernel
theorem dX9_likes_8 : decode cX9_likes 8 = .ok (.invokevirtual 127, 3) := by decide +kernel
theorem dX9_likes_11 : decode cX9_likes 11 = .ok (.ifCond .eq 17, 3) := by decide +kernel
theorem dX9_likes_28 : decode cX9_likes 28 = .ok (.bipush (-2), 2) := by decide +kernel
theorem dX9_likes_30 : decode cX9_likes 30 = .ok (.ireturn, 1) := by decide +kernel
theorem dX9_loved_0 : decode cX9_loved 0 = .ok (.aload_n 0, 1) := by decide +kernel
theorem dX9_loved_1 : decode cX9_loved 1 = .ok (.getfield 24, 3) := by decide +kernel
theorem dX9_loved_4 : decode cX9_loved 4 = .ok (.getfield 100, 3) := by decide +kernel
theorem dX9_loved_7 : decode cX9_loved 7 = .ok (.iload_n 1, 1) := by decide +kernel
theorem dX9_loved_8 : decode cX9_loved 8 = .ok (.invokevirtual 114, 3) := by decide +kernel
theorem dX9_loved_11 : decode cX9_loved 11 = .ok (.ifCond .eq 20, 3) := by decide +kernel
theorem dX9_loved_31 : decode cX9_loved 31 = .ok (.bipush (-2), 2) := by decide +kernel
theorem dX9_loved_33 : decode cX9_loved 33 = .ok (.ireturn, 1) := by decide +kernel
theorem dX9_luck_0 : decode cX9_luck 0 = .ok (.aload_n 0, 1) := by decide +kernel
theorem dX9_luck_1 : decode cX9_luck 1 = .ok (.iload_n 1, 1) := by decide +kernel
theorem dX9_luck_2 : decode cX9_luck 2 = .ok (.iload_n 3, 1) := by decide +kernel
theorem dX9_luck_3 : decode cX9_luck 3 = .ok (.iload 4, 2) := by decide +kernel
theorem dX9_luck_5 : decode cX9_luck 5 = .ok (.invokevirtual 376, 3) := by decide +kernel
theorem dX9_luck_8 : decode cX9_luck 8 = .ok (.ifCond .eq 29, 3) := by decide +kernel
theorem dX9_luck_37 : decode cX9_luck 37 = .ok (.bipush (-2), 2) := by decide +kernel
theorem dX9_luck_39 : decode cX9_luck 39 = .ok (.ireturn, 1) := by decide +kernel
theorem dX9_mate_0 : decode cX9_mate 0 = .ok (.aload_n 0, 1) := by decide +kernel
theorem dX9_mate_1 : decode cX9_mate 1 = .ok (.getfield 24, 3) := by decide +kernel
theorem dX9_mate_4 : decode cX9_mate 4 = .ok (.getfield 100, 3) := by decide +kernel
theorem dX9_mate_7 : decode cX9_mate 7 = .ok (.iload_n 1, 1) := by decide +kernel
theorem dX9_mate_8 : decode cX9_mate 8 = .ok (.invokevirtual 127, 3) := by decide +kernel
theorem dX9_mate_11 : decode cX9_mate 11 = .ok (.ifCond .ne 6, 3) := by decide +kernel
theorem dX9_mate_14 : decode cX9_mate 14 = .ok (.bipush (-2), 2) := by decide +kernel
theorem dX9_mate_16 : decode cX9_mate 16 = .ok (.ireturn, 1) := by decide +kernel
theorem dX9_meet_0 : decode cX9_meet 0 = .ok (.aload_n 0, 1) := by decide +kernel
theorem dX9_meet_1 : decode cX9_meet 1 = .ok (.getfield 24, 3) := by decide +kernel
theorem dX9_meet_4 : decode cX9_meet 4 = .ok (.getfield 100, 3) := by decide +kernel
theorem dX9_meet_7 : decode cX9_meet 7 = .ok (.iload_n 1, 1) := by decide +kernel
theorem dX9_meet_8 : decode cX9_meet 8 = .ok (.invokevirtual 147, 3) := by decide +kernel
theorem dX9_meet_11 : decode cX9_meet 11 = .ok (.ifCond .eq 17, 3) := by decide +kernel
theorem dX9_meet_28 : decode cX9_meet 28 = .ok (.bipush (-2), 2) := by decide +kernel
theorem dX9_meet_30 : decode cX9_meet 30 = .ok (.ireturn, 1) := by decide +kernel
theorem dX9_met_0 : decode cX9_met 0 = .ok (.aload_n 0, 1) := by decide +kernel
theorem dX9_met_1 : decode cX9_met 1 = .ok (.getfield 24, 3) := by decide +kernel
theorem dX9_met_4 : decode cX9_met 4 = .ok (.getfield 100, 3) := by decide +kernel
theorem dX9_met_7 : decode cX9_met 7 = .ok (.iload_n 1, 1) := by decide +kernel
theorem dX9_met_8 : decode cX9_met 8 = .ok (.invokevirtual 147, 3) := by decide +kernel
theorem dX9_met_11 : decode cX9_met 11 = .ok (.ifCond .eq 17, 3) := by decide +kernel
theorem dX9_met_28 : decode cX9_met 28 = .ok (.bipush (-2), 2) := by decide +kernel
theorem dX9_met_30 : decode cX9_met 30 = .ok (.ireturn, 1) := by decide +kernel
theorem dX9_paste_0 : decode cX9_paste 0 = .ok (.aload_n 0, 1) := by decide +kernel
theorem dX9_paste_1 : decode cX9_paste 1 = .ok (.getfield 39, 3) := by decide +kernel
theorem dX9_paste_4 : decode cX9_paste 4 = .ok (.iload_n 1, 1) := by decide +kernel
theorem dX9_paste_5 : decode cX9_paste 5 = .ok (.invokevirtual 238, 3) := by decide +kernel
theorem dX9_paste_8 : decode cX9_paste 8 = .ok (.ifCond .eq 14, 3) := by decide +kernel
theorem dX9_paste_11 : decode cX9_paste 11 = .ok (.aload_n 0, 1) := by decide +kernel
theorem dX9_paste_12 : decode cX9_paste 12 = .ok (.getfield 39, 3) := by decide +kernel
theorem dX9_paste_15 : decode cX9_paste 15 = .ok (.iload_n 3, 1) := by decide +kernel
theorem dX9_paste_16 : decode cX9_paste 16 = .ok (.invokevirtual 238, 3) := by decide +kernel
theorem dX9_paste_19 : decode cX9_paste 19 = .ok (.ifCond .ne 6, 3) := by decide +kernel
theorem dX9_paste_22 : decode cX9_paste 22 = .ok (.bipush (-2), 2) := by decide +kernel
theorem dX9_paste_24 : decode cX9_paste 24 = .ok (.ireturn, 1) := by decide +kernel
theorem dX9_paste_25 : decode cX9_paste 25 = .ok (.aload_n 0, 1) := by decide +kernel
theorem dX9_paste_26 : decode cX9_paste 26 = .ok (.getfield 39, 3) := by decide +kernel
theorem dX9_paste_29 : decode cX9_paste 29 = .ok (.iload_n 1, 1) := by decide +kernel
theorem dX9_paste_30 : decode cX9_paste 30 = .ok (.invokevirtual 241, 3) := by decide +kernel
theorem dX9_paste_33 : decode cX9_paste 33 = .ok (.ifCond .eq 14, 3) := by decide +kernel
theorem dX9_paste_47 : decode cX9_paste 47 = .ok (.bipush (-6), 2) := by decide +kernel
theorem dX9_paste_49 : decode cX9_paste 49 = .ok (.ireturn, 1) := by decide +kernel
theorem dX9_picks_0 : decode cX9_picks 0 = .ok (.aload_n 0, 1) := by decide +kernel
theorem dX9_picks_1 : decode cX9_picks 1 = .ok (.getfield 24, 3) := by decide +kernel
theorem dX9_picks_4 : decode cX9_picks 4 = .ok (.getfield 100, 3) := by decide +kernel
theorem dX9_picks_7 : decode cX9_picks 7 = .ok (.invokevirtual 211, 3) := by decide +kernel
theorem dX9_picks_10 : decode cX9_picks 10 = .ok (.ifCond .ne 6, 3) := by decide +kernel
theorem dX9_picks_13 : decode cX9_picks 13 = .ok (.bipush (-2), 2) := by decide +kernel
theorem dX9_picks_15 : decode cX9_picks 15 = .ok (.ireturn, 1) := by decide +kernel
theorem dX9_pull_0 : decode cX9_pull 0 = .ok (.aload_n 0, 1) := by decide +kernel
theorem dX9_pull_1 : decode cX9_pull 1 = .ok (.getfield 24, 3) := by decide +kernel
theorem dX9_pull_4 : decode cX9_pull 4 = .ok (.getfield 100, 3) := by decide +kernel
theorem dX9_pull_7 : decode cX9_pull 7 = .ok (.iload_n 1, 1) := by decide +kernel
theorem dX9_pull_8 : decode cX9_pull 8 = .ok (.invokevirtual 147, 3) := by decide +kernel
theorem dX9_pull_11 : decode cX9_pull 11 = .ok (.ifCond .eq 17, 3) := by decide +kernel
theorem dX9_pull_28 : decode cX9_pull 28 = .ok (.bipush (-2), 2) := by decide +kernel
theorem dX9_pull_30 : decode cX9_pull 30 = .ok (.ireturn, 1) := by decide +kernel
theorem dX9_ran_0 : decode cX9_ran 0 = .ok (.aload_n 0, 1) := by decide +kernel
theorem dX9_ran_1 : decode cX9_ran 1 = .ok (.iload_n 1, 1) := by decide +kernel
theorem dX9_ran_2 : decode cX9_ran 2 = .ok (.iload_n 2, 1) := by decide +kernel
theorem dX9_ran_3 : decode cX9_ran 3 = .ok (.invokevirtual 220, 3) := by decide +kernel
theorem dX9_ran_6 : decode cX9_ran 6 = .ok (.istore_n 3, 1) := by decide +kernel
theorem dX9_ran_7 : decode cX9_ran 7 = .ok (.iload_n 3, 1) := by decide +kernel
theorem dX9_ran_8 : decode cX9_ran 8 = .ok (.ifCond .eq 7, 3) := by decide +kernel
theorem dX9_ran_11 : decode cX9_ran 11 = .ok (.iload_n 3, 1) := by decide +kernel
theorem dX9_ran_12 : decode cX9_ran 12 = .ok (.goto 10, 3) := by decide +kernel
theorem dX9_ran_22 : decode cX9_ran 22 = .ok (.ireturn, 1) := by decide +kernel
theorem dX9_reach_0 : decode cX9_reach 0 = .ok (.aload_n 0, 1) := by decide +kernel
theorem dX9_reach_1 : decode cX9_reach 1 = .ok (.getfield 24, 3) := by decide +kernel
theorem dX9_reach_4 : decode cX9_reach 4 = .ok (.getfield 100, 3) := by decide +kernel
theorem dX9_reach_7 : decode cX9_reach 7 = .ok (.iload_n 1, 1) := by decide +kernel
theorem dX9_reach_8 : decode cX9_reach 8 = .ok (.invokevirtual 147, 3) := by decide +kernel
theorem dX9_reach_11 : decode cX9_reach 11 = .ok (.ifCond .ne 6, 3) := by decide +kernel
theorem dX9_reach_14 : decode cX9_reach 14 = .ok (.bipush (-2), 2) := by decide +kernel
theorem dX9_reach_16 : decode cX9_reach 16 = .ok (.ireturn, 1) := by decide +kernel
theorem dX9_road_0 : decode cX9_road 0 = .ok (.aload_n 0, 1) := by decide +kernel
theorem dX9_road_1 : decode cX9_road 1 = .ok (.getfield 24, 3) := by decide +kernel
theorem dX9_road_4 : decode cX9_road 4 = .ok (.getfield 100, 3) := by decide +kernel
theorem dX9_road_7 : decode cX9_road 7 = .ok (.iload_n 1, 1) := by decide +kernel
theorem dX9_road_8 : decode cX9_road 8 = .ok (.invokevirtual 114, 3) := by decide +kernel
theorem dX9_road_11 : decode cX9_road 11 = .ok (.ifCond .ne 6, 3) := by decide +kernel
theorem dX9_road_14 : decode cX9_road 14 = .ok (.bipush (-2), 2) := by decide +kernel
theorem dX9_road_16 : decode cX9_road 16 = .ok (.ireturn, 1) := by decide +kernel
theorem dX9_roads_0 : decode cX9_roads 0 = .ok (.aload_n 0, 1) := by decide +kernel
theorem dX9_roads_1 : decode cX9_roads 1 = .ok (.getfield 24, 3) := by decide +kernel
theorem dX9_roads_4 : decode cX9_roads 4 = .ok (.getfield 100, 3) := by decide +kernel
theorem dX9_roads_7 : decode cX9_roads 7 = .ok (.iload_n 1, 1) := by decide +kernel
theorem dX9_roads_8 : decode cX9_roads 8 = .ok (.invokevirtual 171, 3) := by decide +kernel
theorem dX9_roads_11 : decode cX9_roads 11 = .ok (.ifCond .eq 17, 3) := by decide +kernel
theorem dX9_roads_28 : decode cX9_roads 28 = .ok (.bipush (-2), 2) := by decide +kernel
theorem dX9_roads_30 : decode cX9_roads 30 = .ok (.ireturn, 1) := by decide +kernel
theorem dX9_roams_0 : decode cX9_roams 0 = .ok (.aload_n 0, 1) := by decide +kernel
theorem dX9_roams_1 : decode cX9_roams 1 = .ok (.getfield 24, 3) := by decide +kernel
theorem dX9_roams_4 : decode cX9_roams 4 = .ok (.getfield 100, 3) := by decide +kernel
theorem dX9_roams_7 : decode cX9_roams 7 = .ok (.iload_n 1, 1) := by decide +kernel
theorem dX9_roams_8 : decode cX9_roams 8 = .ok (.invokevirtual 147, 3) := by decide +kernel
theorem dX9_roams_11 : decode cX9_roams 11 = .ok (.ifCond .eq 13, 3) := by decide +kernel
theorem dX9_roams_24 : decode cX9_roams 24 = .ok (.bipush (-2), 2) := by decide +kernel
theorem dX9_roams_26 : decode cX9_roams 26 = .ok (.ireturn, 1) := by decide +kernel
theorem dX9_share_0 : decode cX9_share 0 = .ok (.aload_n 0, 1) := by decide +kernel
theorem dX9_share_1 : decode cX9_share 1 = .ok (.getfield 24, 3) := by decide +kernel
theorem dX9_share_4 : decode cX9_share 4 = .ok (.getfield 100, 3) := by decide +kernel
theorem dX9_share_7 : decode cX9_share 7 = .ok (.iload_n 1, 1) := by decide +kernel
theorem dX9_share_8 : decode cX9_share 8 = .ok (.invokevirtual 147, 3) := by decide +kernel
theorem dX9_share_11 : decode cX9_share 11 = .ok (.ifCond .eq 44, 3) := by decide +kernel
theorem dX9_share_55 : decode cX9_share 55 = .ok (.bipush (-2), 2) := by decide +kernel
theorem dX9_share_57 : decode cX9_share 57 = .ok (.ireturn, 1) := by decide +kernel
theorem dX9_smiths_0 : decode cX9_smiths 0 = .ok (.aload_n 0, 1) := by decide +kernel
theorem dX9_smiths_1 : decode cX9_smiths 1 = .ok (.getfield 24, 3) := by decide +kernel
theorem dX9_smiths_4 : decode cX9_smiths 4 = .ok (.getfield 100, 3) := by decide +kernel
theorem dX9_smiths_7 : decode cX9_smiths 7 = .ok (.invokevirtual 211, 3) := by decide +kernel
theorem dX9_smiths_10 : decode cX9_smiths 10 = .ok (.ifCond .ne 7, 3) := by decide +kernel
theorem dX9_smiths_13 : decode cX9_smiths 13 = .ok (.ldc_w 368, 3) := by decide +kernel
theorem dX9_smiths_16 : decode cX9_smiths 16 = .ok (.ireturn, 1) := by decide +kernel
theorem dX9_swap_0 : decode cX9_swap 0 = .ok (.aload_n 0, 1) := by decide +kernel
theorem dX9_swap_1 : decode cX9_swap 1 = .ok (.getfield 24, 3) := by decide +kernel
theorem dX9_swap_4 : decode cX9_swap 4 = .ok (.getfield 100, 3) := by decide +kernel
theorem dX9_swap_7 : decode cX9_swap 7 = .ok (.iload_n 1, 1) := by decide +kernel
theorem dX9_swap_8 : decode cX9_swap 8 = .ok (.invokevirtual 127, 3) := by decide +kernel
theorem dX9_swap_11 : decode cX9_swap 11 = .ok (.ifCond .eq 22, 3) := by decide +kernel
theorem dX9_swap_33 : decode cX9_swap 33 = .ok (.bipush (-2), 2) := by decide +kernel
theorem dX9_swap_35 : decode cX9_swap 35 = .ok (.ireturn, 1) := by decide +kernel
theorem dX9_takes_0 : decode cX9_takes 0 = .ok (.aload_n 0, 1) := by decide +kernel
theorem dX9_takes_1 : decode cX9_takes 1 = .ok (.iload_n 1, 1) := by decide +kernel
theorem dX9_takes_2 : decode cX9_takes 2 = .ok (.iload_n 2, 1) := by decide +kernel
theorem dX9_takes_3 : decode cX9_takes 3 = .ok (.invokevirtual 180, 3) := by decide +kernel
theorem dX9_takes_6 : decode cX9_takes 6 = .ok (.ifCond .ne 6, 3) := by decide +kernel
theorem dX9_takes_9 : decode cX9_takes 9 = .ok (.bipush (-2), 2) := by decide +kernel
theorem dX9_takes_11 : decode cX9_takes 11 = .ok (.ireturn, 1) := by decide +kernel
theorem dX9_teach_0 : decode cX9_teach 0 = .ok (.aload_n 0, 1) := by decide +kernel
theorem dX9_teach_1 : decode cX9_teach 1 = .ok (.getfield 24, 3) := by decide +kernel
theorem dX9_teach_4 : decode cX9_teach 4 = .ok (.getfield 100, 3) := by decide +kernel
theorem dX9_teach_7 : decode cX9_teach 7 = .ok (.iload_n 1, 1) := by decide +kernel
theorem dX9_teach_8 : decode cX9_teach 8 = .ok (.invokevirtual 127, 3) := by decide +kernel
theorem dX9_teach_11 : decode cX9_teach 11 = .ok (.ifCond .eq 17, 3) := by decide +kernel
theorem dX9_teach_28 : decode cX9_teach 28 = .ok (.bipush (-2), 2) := by decide +kernel
theorem dX9_teach_30 : decode cX9_teach 30 = .ok (.ireturn, 1) := by decide +kernel
theorem dX9_tell_0 : decode cX9_tell 0 = .ok (.aload_n 0, 1) := by decide +kernel
theorem dX9_tell_1 : decode cX9_tell 1 = .ok (.getfield 24, 3) := by decide +kernel
theorem dX9_tell_4 : decode cX9_tell 4 = .ok (.getfield 100, 3) := by decide +kernel
theorem dX9_tell_7 : decode cX9_tell 7 = .ok (.iload_n 1, 1) := by decide +kernel
theorem dX9_tell_8 : decode cX9_tell 8 = .ok (.invokevirtual 127, 3) := by decide +kernel
theorem dX9_tell_11 : decode cX9_tell 11 = .ok (.ifCond .eq 27, 3) := by decide +kernel
theorem dX9_tell_38 : decode cX9_tell 38 = .ok (.bipush (-2), 2) := by decide +kernel
theorem dX9_tell_40 : decode cX9_tell 40 = .ok (.ireturn, 1) := by decide +kernel
theorem dX9_undo_0 : decode cX9_undo 0 = .ok (.aload_n 0, 1) := by decide +kernel
theorem dX9_undo_1 : decode cX9_undo 1 = .ok (.getfield 24, 3) := by decide +kernel
theorem dX9_undo_4 : decode cX9_undo 4 = .ok (.getfield 100, 3) := by decide +kernel
theorem dX9_undo_7 : decode cX9_undo 7 = .ok (.invokevirtual 211, 3) := by decide +kernel
theorem dX9_undo_10 : decode cX9_undo 10 = .ok (.ifCond .ne 6, 3) := by decide +kernel
theorem dX9_undo_13 : decode cX9_undo 13 = .ok (.bipush (-2), 2) := by decide +kernel
theorem dX9_undo_15 : decode cX9_undo 15 = .ok (.ireturn, 1) := by decide +kernel
theorem dX9_votes_0 : decode cX9_votes 0 = .ok (.aload_n 0, 1) := by decide +kernel
theorem dX9_votes_1 : decode cX9_votes 1 = .ok (.getfield 24, 3) := by decide +kernel
theorem dX9_votes_4 : decode cX9_votes 4 = .ok (.getfield 100, 3) := by decide +kernel
theorem dX9_votes_7 : decode cX9_votes 7 = .ok (.iload_n 1, 1) := by decide +kernel
theorem dX9_votes_8 : decode cX9_votes 8 = .ok (.invokevirtual 171, 3) := by decide +kernel
theorem dX9_votes_11 : decode cX9_votes 11 = .ok (.ifCond .eq 18, 3) := by decide +kernel
theorem dX9_votes_29 : decode cX9_votes 29 = .ok (.bipush (-2), 2) := by decide +kernel
theorem dX9_votes_31 : decode cX9_votes 31 = .ok (.ireturn, 1) := by decide +kernel
theorem dX9_wants_0 : decode cX9_wants 0 = .ok (.aload_n 0, 1) := by decide +kernel
theorem dX9_wants_1 : decode cX9_wants 1 = .ok (.getfield 24, 3) := by decide +kernel
theorem dX9_wants_4 : decode cX9_wants 4 = .ok (.getfield 100, 3) := by decide +kernel
theorem dX9_wants_7 : decode cX9_wants 7 = .ok (.iload_n 1, 1) := by decide +kernel
theorem dX9_wants_8 : decode cX9_wants 8 = .ok (.invokevirtual 147, 3) := by decide +kernel
theorem dX9_wants_11 : decode cX9_wants 11 = .ok (.ifCond .eq 17, 3) := by decide +kernel
theorem dX9_wants_28 : decode cX9_wants 28 = .ok (.bipush (-2), 2) := by decide +kernel
theorem dX9_wants_30 : decode cX9_wants 30 = .ok (.ireturn, 1) := by decide +kernel
theorem dX9_way_0 : decode cX9_way 0 = .ok (.aload_n 0, 1) := by decide +kernel
theorem dX9_way_1 : decode cX9_way 1 = .ok (.getfield 24, 3) := by decide +kernel
theorem dX9_way_4 : decode cX9_way 4 = .ok (.getfield 100, 3) := by decide +kernel
theorem dX9_way_7 : decode cX9_way 7 = .ok (.iload_n 1, 1) := by decide +kernel
theorem dX9_way_8 : decode cX9_way 8 = .ok (.invokevirtual 147, 3) := by decide +kernel
theorem dX9_way_11 : decode cX9_way 11 = .ok (.ifCond .eq 17, 3) := by decide +kernel
theorem dX9_way_28 : decode cX9_way 28 = .ok (.bipush (-2), 2) := by decide +kernel
theorem dX9_way_30 : decode cX9_way 30 = .ok (.ireturn, 1) := by decide +kernel
theorem dX9_wheel_0 : decode cX9_wheel 0 = .ok (.aload_n 0, 1) := by decide +kernel
theorem dX9_wheel_1 : decode cX9_wheel 1 = .ok (.getfield 24, 3) := by decide +kernel
theorem dX9_wheel_4 : decode cX9_wheel 4 = .ok (.getfield 100, 3) := by decide +kernel
theorem dX9_wheel_7 : decode cX9_wheel 7 = .ok (.iload_n 1, 1) := by decide +kernel
theorem dX9_wheel_8 : decode cX9_wheel 8 = .ok (.invokevirtual 127, 3) := by decide +kernel
theorem dX9_wheel_11 : decode cX9_wheel 11 = .ok (.ifCond .ne 6, 3) := by decide +kernel
theorem dX9_wheel_14 : decode cX9_wheel 14 = .ok (.bipush (-2), 2) := by decide +kernel
theorem dX9_wheel_16 : decode cX9_wheel 16 = .ok (.ireturn, 1) := by decide +kernel
theorem dX9_worn_0 : decode cX9_worn 0 = .ok (.aload_n 0, 1) := by decide +kernel
theorem dX9_worn_1 : decode cX9_worn 1 = .ok (.iload_n 1, 1) := by decide +kernel
theorem dX9_worn_2 : decode cX9_worn 2 = .ok (.iload_n 2, 1) := by decide +kernel
theorem dX9_worn_3 : decode cX9_worn 3 = .ok (.invokevirtual 220, 3) := by decide +kernel
theorem dX9_worn_6 : decode cX9_worn 6 = .ok (.istore_n 3, 1) := by decide +kernel
theorem dX9_worn_7 : decode cX9_worn 7 = .ok (.iload_n 3, 1) := by decide +kernel
theorem dX9_worn_8 : decode cX9_worn 8 = .ok (.ifCond .eq 7, 3) := by decide +kernel
theorem dX9_worn_11 : decode cX9_worn 11 = .ok (.iload_n 3, 1) := by decide +kernel
theorem dX9_worn_12 : decode cX9_worn 12 = .ok (.goto 10, 3) := by decide +kernel
theorem dX9_worn_22 : decode cX9_worn 22 = .ok (.ireturn, 1) := by decide +kernel
theorem dX9_worth_0 : decode cX9_worth 0 = .ok (.aload_n 0, 1) := by decide +kernel
theorem dX9_worth_1 : decode cX9_worth 1 = .ok (.getfield 24, 3) := by decide +kernel
theorem dX9_worth_4 : decode cX9_worth 4 = .ok (.getfield 100, 3) := by decide +kernel
theorem dX9_worth_7 : decode cX9_worth 7 = .ok (.iload_n 1, 1) := by decide +kernel
theorem dX9_worth_8 : decode cX9_worth 8 = .ok (.invokevirtual 127, 3) := by decide +kernel
theorem dX9_worth_11 : decode cX9_worth 11 = .ok (.ifCond .eq 24, 3) := by decide +kernel
theorem dX9_worth_35 : decode cX9_worth 35 = .ok (.bipush (-2), 2) := by decide +kernel
theorem dX9_worth_37 : decode cX9_worth 37 = .ok (.ireturn, 1) := by decide +kernel
theorem dX9_write_0 : decode cX9_write 0 = .ok (.aload_n 0, 1) := by decide +kernel
theorem dX9_write_1 : decode cX9_write 1 = .ok (.getfield 39, 3) := by decide +kernel
theorem dX9_write_4 : decode cX9_write 4 = .ok (.iload_n 1, 1) := by decide +kernel
theorem dX9_write_5 : decode cX9_write 5 = .ok (.invokevirtual 238, 3) := by decide +kernel
theorem dX9_write_8 : decode cX9_write 8 = .ok (.ifCond .ne 6, 3) := by decide +kernel
theorem dX9_write_11 : decode cX9_write 11 = .ok (.bipush (-2), 2) := by decide +kernel
theorem dX9_write_13 : decode cX9_write 13 = .ok (.ireturn, 1) := by decide +kernel
theorem dX9_write_14 : decode cX9_write 14 = .ok (.aload_n 0, 1) := by decide +kernel
theorem dX9_write_15 : decode cX9_write 15 = .ok (.getfield 39, 3) := by decide +kernel
theorem dX9_write_18 : decode cX9_write 18 = .ok (.iload_n 1, 1) := by decide +kernel
theorem dX9_write_19 : decode cX9_write 19 = .ok (.invokevirtual 241, 3) := by decide +kernel
theorem dX9_write_22 : decode cX9_write 22 = .ok (.ifCond .ne 6, 3) := by decide +kernel
theorem dX9_write_25 : decode cX9_write 25 = .ok (.bipush (-6), 2) := by decide +kernel
theorem dX9_write_27 : decode cX9_write 27 = .ok (.ireturn, 1) := by decide +kernel
