theorem dX10_readErrand_19 : decode cX10_readErrand 19 = .ok (.aload_n 0, 1) := by decide +kernel
theorem dX10_readErrand_20 : decode cX10_readErrand 20 = .ok (.getfield 31, 3) := by decide +kernel
theorem dX10_readErrand_23 : decode cX10_readErrand 23 = .ok (.iconst 4, 1) := by decide +kernel
theorem dX10_readErrand_24 : decode cX10_readErrand 24 = .ok (.iaload, 1) := by decide +kernel
theorem dX10_readErrand_25 : decode cX10_readErrand 25 = .ok (.iconst 1, 1) := by decide +kernel
theorem dX10_readErrand_26 : decode cX10_readErrand 26 = .ok (.isub, 1) := by decide +kernel
theorem dX10_readErrand_27 : decode cX10_readErrand 27 = .ok (.invokevirtual 168, 3) := by decide +kernel
theorem dX10_readErrand_30 : decode cX10_readErrand 30 = .ok (.iastore, 1) := by decide +kernel
theorem dX10_readErrand_31 : decode cX10_readErrand 31 = .ok (.aload_n 0, 1) := by decide +kernel
theorem dX10_readErrand_32 : decode cX10_readErrand 32 = .ok (.ldc 174, 2) := by decide +kernel
theorem dX10_readErrand_34 : decode cX10_readErrand 34 = .ok (.invokevirtual 164, 3) := by decide +kernel
theorem dX10_readErrand_37 : decode cX10_readErrand 37 = .ok (.aload_n 0, 1) := by decide +kernel
theorem dX10_readErrand_38 : decode cX10_readErrand 38 = .ok (.getfield 31, 3) := by decide +kernel
theorem dX10_readErrand_41 : decode cX10_readErrand 41 = .ok (.iload_n 1, 1) := by decide +kernel
theorem dX10_readErrand_42 : decode cX10_readErrand 42 = .ok (.iconst 1, 1) := by decide +kernel
theorem dX10_readErrand_43 : decode cX10_readErrand 43 = .ok (.iadd, 1) := by decide +kernel
theorem dX10_readErrand_44 : decode cX10_readErrand 44 = .ok (.aload_n 0, 1) := by decide +kernel
theorem dX10_readErrand_45 : decode cX10_readErrand 45 = .ok (.invokevirtual 171, 3) := by decide +kernel
theorem dX10_readErrand_48 : decode cX10_readErrand 48 = .ok (.iastore, 1) := by decide +kernel
theorem dX10_readErrand_49 : decode cX10_readErrand 49 = .ok (.aload_n 0, 1) := by decide +kernel
theorem dX10_readErrand_50 : decode cX10_readErrand 50 = .ok (.getfield 31, 3) := by decide +kernel
theorem dX10_readErrand_53 : decode cX10_readErrand 53 = .ok (.iload_n 1, 1) := by decide +kernel
theorem dX10_readErrand_54 : decode cX10_readErrand 54 = .ok (.iconst 2, 1) := by decide +kernel
theorem dX10_readErrand_55 : decode cX10_readErrand 55 = .ok (.iadd, 1) := by decide +kernel
theorem dX10_readErrand_56 : decode cX10_readErrand 56 = .ok (.aload_n 0, 1) := by decide +kernel
theorem dX10_readErrand_57 : decode cX10_readErrand 57 = .ok (.ldc 196, 2) := by decide +kernel
theorem dX10_readErrand_59 : decode cX10_readErrand 59 = .ok (.iconst 1, 1) := by decide +kernel
theorem dX10_readErrand_60 : decode cX10_readErrand 60 = .ok (.sipush 200, 3) := by decide +kernel
theorem dX10_readErrand_63 : decode cX10_readErrand 63 = .ok (.invokevirtual 177, 3) := by decide +kernel
theorem dX10_readErrand_66 : decode cX10_readErrand 66 = .ok (.iastore, 1) := by decide +kernel
theorem dX10_readErrand_67 : decode cX10_readErrand 67 = .ok (.aload_n 0, 1) := by decide +kernel
theorem dX10_readErrand_68 : decode cX10_readErrand 68 = .ok (.getfield 31, 3) := by decide +kernel
theorem dX10_readErrand_71 : decode cX10_readErrand 71 = .ok (.iconst 5, 1) := by decide +kernel
theorem dX10_readErrand_72 : decode cX10_readErrand 72 = .ok (.dup2, 1) := by decide +kernel
theorem dX10_readErrand_73 : decode cX10_readErrand 73 = .ok (.iaload, 1) := by decide +kernel
theorem dX10_readErrand_74 : decode cX10_readErrand 74 = .ok (.iconst 1, 1) := by decide +kernel
theorem dX10_readErrand_75 : decode cX10_readErrand 75 = .ok (.iadd, 1) := by decide +kernel
theorem dX10_readErrand_76 : decode cX10_readErrand 76 = .ok (.iastore, 1) := by decide +kernel
theorem dX10_readErrand_77 : decode cX10_readErrand 77 = .ok (.return_, 1) := by decide +kernel
theorem dX10_readLine_0 : decode cX10_readLine 0 = .ok (.aload_n 0, 1) := by decide +kernel
theorem dX10_readLine_1 : decode cX10_readLine 1 = .ok (.getfield 31, 3) := by decide +kernel
theorem dX10_readLine_4 : decode cX10_readLine 4 = .ok (.bipush 6, 2) := by decide +kernel
theorem dX10_readLine_6 : decode cX10_readLine 6 = .ok (.iaload, 1) := by decide +kernel
theorem dX10_readLine_7 : decode cX10_readLine 7 = .ok (.ifCond .ne 42, 3) := by decide +kernel
theorem dX10_readLine_10 : decode cX10_readLine 10 = .ok (.aload_n 0, 1) := by decide +kernel
theorem dX10_readLine_11 : decode cX10_readLine 11 = .ok (.ldc 218, 2) := by decide +kernel
theorem dX10_readLine_13 : decode cX10_readLine 13 = .ok (.invokevirtual 164, 3) := by decide +kernel
theorem dX10_readLine_16 : decode cX10_readLine 16 = .ok (.aload_n 0, 1) := by decide +kernel
theorem dX10_readLine_17 : decode cX10_readLine 17 = .ok (.getfield 31, 3) := by decide +kernel
theorem dX10_readLine_20 : decode cX10_readLine 20 = .ok (.iconst 0, 1) := by decide +kernel
theorem dX10_readLine_21 : decode cX10_readLine 21 = .ok (.aload_n 0, 1) := by decide +kernel
theorem dX10_readLine_22 : decode cX10_readLine 22 = .ok (.ldc 220, 2) := by decide +kernel
theorem dX10_readLine_24 : decode cX10_readLine 24 = .ok (.iconst 2, 1) := by decide +kernel
theorem dX10_readLine_25 : decode cX10_readLine 25 = .ok (.bipush 6, 2) := by decide +kernel
theorem dX10_readLine_27 : decode cX10_readLine 27 = .ok (.invokevirtual 177, 3) := by decide +kernel
theorem dX10_readLine_30 : decode cX10_readLine 30 = .ok (.iastore, 1) := by decide +kernel
theorem dX10_readLine_31 : decode cX10_readLine 31 = .ok (.aload_n 0, 1) := by decide +kernel
theorem dX10_readLine_32 : decode cX10_readLine 32 = .ok (.getfield 31, 3) := by decide +kernel
theorem dX10_readLine_35 : decode cX10_readLine 35 = .ok (.iconst 1, 1) := by decide +kernel
theorem dX10_readLine_36 : decode cX10_readLine 36 = .ok (.aload_n 0, 1) := by decide +kernel
theorem dX10_readLine_37 : decode cX10_readLine 37 = .ok (.ldc 222, 2) := by decide +kernel
theorem dX10_readLine_39 : decode cX10_readLine 39 = .ok (.iconst 0, 1) := by decide +kernel
theorem dX10_readLine_40 : decode cX10_readLine 40 = .ok (.bipush 40, 2) := by decide +kernel
theorem dX10_readLine_42 : decode cX10_readLine 42 = .ok (.invokevirtual 177, 3) := by decide +kernel
theorem dX10_readLine_45 : decode cX10_readLine 45 = .ok (.iastore, 1) := by decide +kernel
theorem dX10_readLine_46 : decode cX10_readLine 46 = .ok (.goto 7, 3) := by decide +kernel
theorem dX10_readLine_49 : decode cX10_readLine 49 = .ok (.aload_n 0, 1) := by decide +kernel
theorem dX10_readLine_50 : decode cX10_readLine 50 = .ok (.invokevirtual 224, 3) := by decide +kernel
theorem dX10_readLine_53 : decode cX10_readLine 53 = .ok (.aload_n 0, 1) := by decide +kernel
theorem dX10_readLine_54 : decode cX10_readLine 54 = .ok (.invokevirtual 136, 3) := by decide +kernel
theorem dX10_readLine_57 : decode cX10_readLine 57 = .ok (.ifCond .eq 16, 3) := by decide +kernel
theorem dX10_readLine_60 : decode cX10_readLine 60 = .ok (.aload_n 0, 1) := by decide +kernel
theorem dX10_readLine_61 : decode cX10_readLine 61 = .ok (.getfield 113, 3) := by decide +kernel
theorem dX10_readLine_64 : decode cX10_readLine 64 = .ok (.iconst 3, 1) := by decide +kernel
theorem dX10_readLine_65 : decode cX10_readLine 65 = .ok (.if_icmp .eq 8, 3) := by decide +kernel
theorem dX10_readLine_68 : decode cX10_readLine 68 = .ok (.aload_n 0, 1) := by decide +kernel
theorem dX10_readLine_69 : decode cX10_readLine 69 = .ok (.iconst 1, 1) := by decide +kernel
theorem dX10_readLine_70 : decode cX10_readLine 70 = .ok (.invokevirtual 160, 3) := by decide +kernel
theorem dX10_readLine_73 : decode cX10_readLine 73 = .ok (.aload_n 0, 1) := by decide +kernel
theorem dX10_readLine_74 : decode cX10_readLine 74 = .ok (.invokevirtual 136, 3) := by decide +kernel
theorem dX10_readLine_77 : decode cX10_readLine 77 = .ok (.ifCond .eq 7, 3) := by decide +kernel
theorem dX10_readLine_80 : decode cX10_readLine 80 = .ok (.aload_n 0, 1) := by decide +kernel
theorem dX10_readLine_81 : decode cX10_readLine 81 = .ok (.invokevirtual 154, 3) := by decide +kernel
theorem dX10_readLine_84 : decode cX10_readLine 84 = .ok (.aload_n 0, 1) := by decide +kernel
theorem dX10_readLine_85 : decode cX10_readLine 85 = .ok (.getfield 31, 3) := by decide +kernel
theorem dX10_readLine_88 : decode cX10_readLine 88 = .ok (.bipush 6, 2) := by decide +kernel
theorem dX10_readLine_90 : decode cX10_readLine 90 = .ok (.dup2, 1) := by decide +kernel
theorem dX10_readLine_91 : decode cX10_readLine 91 = .ok (.iaload, 1) := by decide +kernel
theorem dX10_readLine_92 : decode cX10_readLine 92 = .ok (.iconst 1, 1) := by decide +kernel
theorem dX10_readLine_93 : decode cX10_readLine 93 = .ok (.iadd, 1) := by decide +kernel
theorem dX10_readLine_94 : decode cX10_readLine 94 = .ok (.iastore, 1) := by decide +kernel
theorem dX10_readLine_95 : decode cX10_readLine 95 = .ok (.return_, 1) := by decide +kernel
theorem dX10_readNext_0 : decode cX10_readNext 0 = .ok (.aload_n 0, 1) := by decide +kernel
theorem dX10_readNext_1 : decode cX10_readNext 1 = .ok (.ldc 198, 2) := by decide +kernel
theorem dX10_readNext_3 : decode cX10_readNext 3 = .ok (.invokevirtual 150, 3) := by decide +kernel
theorem dX10_readNext_6 : decode cX10_readNext 6 = .ok (.ifCond .ne 30, 3) := by decide +kernel
theorem dX10_readNext_9 : decode cX10_readNext 9 = .ok (.aload_n 0, 1) := by decide +kernel
theorem dX10_readNext_10 : decode cX10_readNext 10 = .ok (.ldc 200, 2) := by decide +kernel
theorem dX10_readNext_12 : decode cX10_readNext 12 = .ok (.invokevirtual 150, 3) := by decide +kernel
theorem dX10_readNext_15 : decode cX10_readNext 15 = .ok (.ifCond .ne 21, 3) := by decide +kernel
theorem dX10_readNext_18 : decode cX10_readNext 18 = .ok (.aload_n 0, 1) := by decide +kernel
theorem dX10_readNext_19 : decode cX10_readNext 19 = .ok (.ldc 202, 2) := by decide +kernel
theorem dX10_readNext_21 : decode cX10_readNext 21 = .ok (.invokevirtual 150, 3) := by decide +kernel
theorem dX10_readNext_24 : decode cX10_readNext 24 = .ok (.ifCond .ne 12, 3) := by decide +kernel
theorem dX10_readNext_27 : decode cX10_readNext 27 = .ok (.aload_n 0, 1) := by decide +kernel
theorem dX10_readNext_28 : decode cX10_readNext 28 = .ok (.ldc 204, 2) := by decide +kernel
theorem dX10_readNext_30 : decode cX10_readNext 30 = .ok (.invokevirtual 150, 3) := by decide +kernel
theorem dX10_readNext_33 : decode cX10_readNext 33 = .ok (.ifCond .eq 7, 3) := by decide +kernel
theorem dX10_readNext_36 : decode cX10_readNext 36 = .ok (.iconst 1, 1) := by decide +kernel
theorem dX10_readNext_37 : decode cX10_readNext 37 = .ok (.goto 4, 3) := by decide +kernel
theorem dX10_readNext_40 : decode cX10_readNext 40 = .ok (.iconst 0, 1) := by decide +kernel
theorem dX10_readNext_41 : decode cX10_readNext 41 = .ok (.istore_n 1, 1) := by decide +kernel
theorem dX10_readNext_42 : decode cX10_readNext 42 = .ok (.iload_n 1, 1) := by decide +kernel
theorem dX10_readNext_43 : decode cX10_readNext 43 = .ok (.ifCond .ne 8, 3) := by decide +kernel
theorem dX10_readNext_46 : decode cX10_readNext 46 = .ok (.aload_n 0, 1) := by decide +kernel
theorem dX10_readNext_47 : decode cX10_readNext 47 = .ok (.iconst 1, 1) := by decide +kernel
theorem dX10_readNext_48 : decode cX10_readNext 48 = .ok (.invokevirtual 160, 3) := by decide +kernel
theorem dX10_readNext_51 : decode cX10_readNext 51 = .ok (.aload_n 0, 1) := by decide +kernel
theorem dX10_readNext_52 : decode cX10_readNext 52 = .ok (.ldc 198, 2) := by decide +kernel
theorem dX10_readNext_54 : decode cX10_readNext 54 = .ok (.invokevirtual 150, 3) := by decide +kernel
theorem dX10_readNext_57 : decode cX10_readNext 57 = .ok (.ifCond .eq 14, 3) := by decide +kernel
theorem dX10_readNext_60 : decode cX10_readNext 60 = .ok (.aload_n 0, 1) := by decide +kernel
theorem dX10_readNext_61 : decode cX10_readNext 61 = .ok (.getfield 31, 3) := by decide +kernel
theorem dX10_readNext_64 : decode cX10_readNext 64 = .ok (.iconst 2, 1) := by decide +kernel
theorem dX10_readNext_65 : decode cX10_readNext 65 = .ok (.iaload, 1) := by decide +kernel
theorem dX10_readNext_66 : decode cX10_readNext 66 = .ok (.bipush 8, 2) := by decide +kernel
theorem dX10_readNext_68 : decode cX10_readNext 68 = .ok (.if_icmp .eq 23, 3) := by decide +kernel
theorem dX10_readNext_71 : decode cX10_readNext 71 = .ok (.aload_n 0, 1) := by decide +kernel
theorem dX10_readNext_72 : decode cX10_readNext 72 = .ok (.ldc 200, 2) := by decide +kernel
theorem dX10_readNext_74 : decode cX10_readNext 74 = .ok (.invokevirtual 150, 3) := by decide +kernel
theorem dX10_readNext_77 : decode cX10_readNext 77 = .ok (.ifCond .eq 19, 3) := by decide +kernel
theorem dX10_readNext_80 : decode cX10_readNext 80 = .ok (.aload_n 0, 1) := by decide +kernel
theorem dX10_readNext_81 : decode cX10_readNext 81 = .ok (.getfield 31, 3) := by decide +kernel
theorem dX10_readNext_84 : decode cX10_readNext 84 = .ok (.iconst 3, 1) := by decide +kernel
theorem dX10_readNext_85 : decode cX10_readNext 85 = .ok (.iaload, 1) := by decide +kernel
theorem dX10_readNext_86 : decode cX10_readNext 86 = .ok (.bipush 8, 2) := by decide +kernel
theorem dX10_readNext_88 : decode cX10_readNext 88 = .ok (.if_icmp .ne 8, 3) := by decide +kernel
theorem dX10_readNext_91 : decode cX10_readNext 91 = .ok (.aload_n 0, 1) := by decide +kernel
theorem dX10_readNext_92 : decode cX10_readNext 92 = .ok (.iconst 3, 1) := by decide +kernel
theorem dX10_readNext_93 : decode cX10_readNext 93 = .ok (.invokevirtual 160, 3) := by decide +kernel
theorem dX10_readNext_96 : decode cX10_readNext 96 = .ok (.aload_n 0, 1) := by decide +kernel
theorem dX10_readNext_97 : decode cX10_readNext 97 = .ok (.ldc 202, 2) := by decide +kernel
theorem dX10_readNext_99 : decode cX10_readNext 99 = .ok (.invokevirtual 150, 3) := by decide +kernel
theorem dX10_readNext_102 : decode cX10_readNext 102 = .ok (.ifCond .eq 13, 3) := by decide +kernel
theorem dX10_readNext_105 : decode cX10_readNext 105 = .ok (.aload_n 0, 1) := by decide +kernel
theorem dX10_readNext_106 : decode cX10_readNext 106 = .ok (.getfield 31, 3) := by decide +kernel
theorem dX10_readNext_109 : decode cX10_readNext 109 = .ok (.iconst 4, 1) := by decide +kernel
theorem dX10_readNext_110 : decode cX10_readNext 110 = .ok (.iaload, 1) := by decide +kernel
theorem dX10_readNext_111 : decode cX10_readNext 111 = .ok (.iconst 3, 1) := by decide +kernel
theorem dX10_readNext_112 : decode cX10_readNext 112 = .ok (.if_icmp .eq 23, 3) := by decide +kernel
theorem dX10_readNext_115 : decode cX10_readNext 115 = .ok (.aload_n 0, 1) := by decide +kernel
theorem dX10_readNext_116 : decode cX10_readNext 116 = .ok (.ldc 204, 2) := by decide +kernel
theorem dX10_readNext_118 : decode cX10_readNext 118 = .ok (.invokevirtual 150, 3) := by decide +kernel
theorem dX10_readNext_121 : decode cX10_readNext 121 = .ok (.ifCond .eq 19, 3) := by decide +kernel
theorem dX10_readNext_124 : decode cX10_readNext 124 = .ok (.aload_n 0, 1) := by decide +kernel
theorem dX10_readNext_125 : decode cX10_readNext 125 = .ok (.getfield 31, 3) := by decide +kernel
theorem dX10_readNext_128 : decode cX10_readNext 128 = .ok (.iconst 5, 1) := by decide +kernel
theorem dX10_readNext_129 : decode cX10_readNext 129 = .ok (.iaload, 1) := by decide +kernel
theorem dX10_readNext_130 : decode cX10_readNext 130 = .ok (.bipush 6, 2) := by decide +kernel
theorem dX10_readNext_132 : decode cX10_readNext 132 = .ok (.if_icmp .ne 8, 3) := by decide +kernel
theorem dX10_readNext_135 : decode cX10_readNext 135 = .ok (.aload_n 0, 1) := by decide +kernel
theorem dX10_readNext_136 : decode cX10_readNext 136 = .ok (.iconst 3, 1) := by decide +kernel
theorem dX10_readNext_137 : decode cX10_readNext 137 = .ok (.invokevirtual 160, 3) := by decide +kernel
theorem dX10_readNext_140 : decode cX10_readNext 140 = .ok (.aload_n 0, 1) := by decide +kernel
theorem dX10_readNext_141 : decode cX10_readNext 141 = .ok (.invokevirtual 136, 3) := by decide +kernel
theorem dX10_readNext_144 : decode cX10_readNext 144 = .ok (.ifCond .ne 4, 3) := by decide +kernel
theorem dX10_readNext_147 : decode cX10_readNext 147 = .ok (.return_, 1) := by decide +kernel
theorem dX10_readNext_148 : decode cX10_readNext 148 = .ok (.aload_n 0, 1) := by decide +kernel
theorem dX10_readNext_149 : decode cX10_readNext 149 = .ok (.ldc 198, 2) := by decide +kernel
theorem dX10_readNext_151 : decode cX10_readNext 151 = .ok (.invokevirtual 157, 3) := by decide +kernel
theorem dX10_readNext_154 : decode cX10_readNext 154 = .ok (.ifCond .eq 10, 3) := by decide +kernel
theorem dX10_readNext_157 : decode cX10_readNext 157 = .ok (.aload_n 0, 1) := by decide +kernel
theorem dX10_readNext_158 : decode cX10_readNext 158 = .ok (.invokevirtual 206, 3) := by decide +kernel
theorem dX10_readNext_161 : decode cX10_readNext 161 = .ok (.goto 43, 3) := by decide +kernel
theorem dX10_readNext_164 : decode cX10_readNext 164 = .ok (.aload_n 0, 1) := by decide +kernel
theorem dX10_readNext_165 : decode cX10_readNext 165 = .ok (.ldc 200, 2) := by decide +kernel
theorem dX10_readNext_167 : decode cX10_readNext 167 = .ok (.invokevirtual 157, 3) := by decide +kernel
theorem dX10_readNext_170 : decode cX10_readNext 170 = .ok (.ifCond .eq 10, 3) := by decide +kernel
theorem dX10_readNext_173 : decode cX10_readNext 173 = .ok (.aload_n 0, 1) := by decide +kernel
theorem dX10_readNext_174 : decode cX10_readNext 174 = .ok (.invokevirtual 209, 3) := by decide +kernel
theorem dX10_readNext_177 : decode cX10_readNext 177 = .ok (.goto 27, 3) := by decide +kernel
theorem dX10_readNext_180 : decode cX10_readNext 180 = .ok (.aload_n 0, 1) := by decide +kernel
theorem dX10_readNext_181 : decode cX10_readNext 181 = .ok (.ldc 202, 2) := by decide +kernel
theorem dX10_readNext_183 : decode cX10_readNext 183 = .ok (.invokevirtual 157, 3) := by decide +kernel
theorem dX10_readNext_186 : decode cX10_readNext 186 = .ok (.ifCond .eq 10, 3) := by decide +kernel
theorem dX10_readNext_189 : decode cX10_readNext 189 = .ok (.aload_n 0, 1) := by decide +kernel
theorem dX10_readNext_190 : decode cX10_readNext 190 = .ok (.invokevirtual 212, 3) := by decide +kernel
theorem dX10_readNext_193 : decode cX10_readNext 193 = .ok (.goto 11, 3) := by decide +kernel
theorem dX10_readNext_196 : decode cX10_readNext 196 = .ok (.aload_n 0, 1) := by decide +kernel
theorem dX10_readNext_197 : decode cX10_readNext 197 = .ok (.invokevirtual 154, 3) := by decide +kernel
theorem dX10_readNext_200 : decode cX10_readNext 200 = .ok (.aload_n 0, 1) := by decide +kernel
theorem dX10_readNext_201 : decode cX10_readNext 201 = .ok (.invokevirtual 215, 3) := by decide +kernel
theorem dX10_readNext_204 : decode cX10_readNext 204 = .ok (.return_, 1) := by decide +kernel
theorem dX10_readRoad_0 : decode cX10_readRoad 0 = .ok (.bipush 8, 2) := by decide +kernel
theorem dX10_readRoad_2 : decode cX10_readRoad 2 = .ok (.iconst 3, 1) := by decide +kernel
theorem dX10_readRoad_3 : decode cX10_readRoad 3 = .ok (.aload_n 0, 1) := by decide +kernel
theorem dX10_readRoad_4 : decode cX10_readRoad 4 = .ok (.getfield 31, 3) := by decide +kernel
theorem dX10_readRoad_7 : decode cX10_readRoad 7 = .ok (.iconst 2, 1) := by decide +kernel
theorem dX10_readRoad_8 : decode cX10_readRoad 8 = .ok (.iaload, 1) := by decide +kernel
theorem dX10_readRoad_9 : decode cX10_readRoad 9 = .ok (.imul, 1) := by decide +kernel
theorem dX10_readRoad_10 : decode cX10_readRoad 10 = .ok (.iadd, 1) := by decide +kernel
theorem dX10_readRoad_11 : decode cX10_readRoad 11 = .ok (.istore_n 1, 1) := by decide +kernel
theorem dX10_readRoad_12 : decode cX10_readRoad 12 = .ok (.aload_n 0, 1) := by decide +kernel
theorem dX10_readRoad_13 : decode cX10_readRoad 13 = .ok (.getfield 31, 3) := by decide +kernel
theorem dX10_readRoad_16 : decode cX10_readRoad 16 = .ok (.iload_n 1, 1) := by decide +kernel
theorem dX10_readRoad_17 : decode cX10_readRoad 17 = .ok (.aload_n 0, 1) := by decide +kernel
theorem dX10_readRoad_18 : decode cX10_readRoad 18 = .ok (.invokevirtual 171, 3) := by decide +kernel
theorem dX10_readRoad_21 : decode cX10_readRoad 21 = .ok (.iastore, 1) := by decide +kernel
theorem dX10_readRoad_22 : decode cX10_readRoad 22 = .ok (.aload_n 0, 1) := by decide +kernel
theorem dX10_readRoad_23 : decode cX10_readRoad 23 = .ok (.ldc 174, 2) := by decide +kernel
theorem dX10_readRoad_25 : decode cX10_readRoad 25 = .ok (.invokevirtual 164, 3) := by decide +kernel
theorem dX10_readRoad_28 : decode cX10_readRoad 28 = .ok (.aload_n 0, 1) := by decide +kernel
theorem dX10_readRoad_29 : decode cX10_readRoad 29 = .ok (.invokevirtual 136, 3) := by decide +kernel
theorem dX10_readRoad_32 : decode cX10_readRoad 32 = .ok (.ifCond .eq 29, 3) := by decide +kernel
theorem dX10_readRoad_35 : decode cX10_readRoad 35 = .ok (.aload_n 0, 1) := by decide +kernel
theorem dX10_readRoad_36 : decode cX10_readRoad 36 = .ok (.getfield 113, 3) := by decide +kernel
theorem dX10_readRoad_39 : decode cX10_readRoad 39 = .ok (.iconst 2, 1) := by decide +kernel
theorem dX10_readRoad_40 : decode cX10_readRoad 40 = .ok (.if_icmp .ne 21, 3) := by decide +kernel
theorem dX10_readRoad_43 : decode cX10_readRoad 43 = .ok (.aload_n 0, 1) := by decide +kernel
theorem dX10_readRoad_44 : decode cX10_readRoad 44 = .ok (.getfield 124, 3) := by decide +kernel
theorem dX10_readRoad_47 : decode cX10_readRoad 47 = .ok (.aload_n 0, 1) := by decide +kernel
theorem dX10_readRoad_48 : decode cX10_readRoad 48 = .ok (.getfield 31, 3) := by decide +kernel
theorem dX10_readRoad_51 : decode cX10_readRoad 51 = .ok (.iload_n 1, 1) := by decide +kernel
theorem dX10_readRoad_52 : decode cX10_readRoad 52 = .ok (.iaload, 1) := by decide +kernel
theorem dX10_readRoad_53 : decode cX10_readRoad 53 = .ok (.if_icmp .ne 8, 3) := by decide +kernel
theorem dX10_readRoad_56 : decode cX10_readRoad 56 = .ok (.aload_n 0, 1) := by decide +kernel
theorem dX10_readRoad_57 : decode cX10_readRoad 57 = .ok (.iconst 2, 1) := by decide +kernel
theorem dX10_readRoad_58 : decode cX10_readRoad 58 = .ok (.invokevirtual 160, 3) := by decide +kernel
theorem dX10_readRoad_61 : decode cX10_readRoad 61 = .ok (.aload_n 0, 1) := by decide +kernel
theorem dX10_readRoad_62 : decode cX10_readRoad 62 = .ok (.getfield 31, 3) := by decide +kernel
theorem dX10_readRoad_65 : decode cX10_readRoad 65 = .ok (.iload_n 1, 1) := by decide +kernel
theorem dX10_readRoad_66 : decode cX10_readRoad 66 = .ok (.iconst 1, 1) := by decide +kernel
theorem dX10_readRoad_67 : decode cX10_readRoad 67 = .ok (.iadd, 1) := by decide +kernel
theorem dX10_readRoad_68 : decode cX10_readRoad 68 = .ok (.aload_n 0, 1) := by decide +kernel
theorem dX10_readRoad_69 : decode cX10_readRoad 69 = .ok (.invokevirtual 171, 3) := by decide +kernel
theorem dX10_readRoad_72 : decode cX10_readRoad 72 = .ok (.iastore, 1) := by decide +kernel
theorem dX10_readRoad_73 : decode cX10_readRoad 73 = .ok (.aload_n 0, 1) := by decide +kernel
theorem dX10_readRoad_74 : decode cX10_readRoad 74 = .ok (.getfield 31, 3) := by decide +kernel
theorem dX10_readRoad_77 : decode cX10_readRoad 77 = .ok (.iload_n 1, 1) := by decide +kernel
theorem dX10_readRoad_78 : decode cX10_readRoad 78 = .ok (.iconst 2, 1) := by decide +kernel
theorem dX10_readRoad_79 : decode cX10_readRoad 79 = .ok (.iadd, 1) := by decide +kernel
theorem dX10_readRoad_80 : decode cX10_readRoad 80 = .ok (.aload_n 0, 1) := by decide +kernel
theorem dX10_readRoad_81 : decode cX10_readRoad 81 = .ok (.ldc 176, 2) := by decide +kernel
theorem dX10_readRoad_83 : decode cX10_readRoad 83 = .ok (.iconst 1, 1) := by decide +kernel
theorem dX10_readRoad_84 : decode cX10_readRoad 84 = .ok (.bipush 20, 2) := by decide +kernel
theorem dX10_readRoad_86 : decode cX10_readRoad 86 = .ok (.invokevirtual 177, 3) := by decide +kernel
theorem dX10_readRoad_89 : decode cX10_readRoad 89 = .ok (.iastore, 1) := by decide +kernel
theorem dX10_readRoad_90 : decode cX10_readRoad 90 = .ok (.aload_n 0, 1) := by decide +kernel
theorem dX10_readRoad_91 : decode cX10_readRoad 91 = .ok (.getfield 31, 3) := by decide +kernel
theorem dX10_readRoad_94 : decode cX10_readRoad 94 = .ok (.iconst 2, 1) := by decide +kernel
theorem dX10_readRoad_95 : decode cX10_readRoad 95 = .ok (.dup2, 1) := by decide +kernel
theorem dX10_readRoad_96 : decode cX10_readRoad 96 = .ok (.iaload, 1) := by decide +kernel
theorem dX10_readRoad_97 : decode cX10_readRoad 97 = .ok (.iconst 1, 1) := by decide +kernel
theorem dX10_readRoad_98 : decode cX10_readRoad 98 = .ok (.iadd, 1) := by decide +kernel
theorem dX10_readRoad_99 : decode cX10_readRoad 99 = .ok (.iastore, 1) := by decide +kernel
theorem dX10_readRoad_100 : decode cX10_readRoad 100 = .ok (.return_, 1) := by decide +kernel
theorem dX10_readWheel_0 : decode cX10_readWheel 0 = .ok (.bipush 32, 2) := by decide +kernel
theorem dX10_readWheel_2 : decode cX10_readWheel 2 = .ok (.bipush 9, 2) := by decide +kernel
theorem dX10_readWheel_4 : decode cX10_readWheel 4 = .ok (.aload_n 0, 1) := by decide +kernel
theorem dX10_readWheel_5 : decode cX10_readWheel 5 = .ok (.getfield 31, 3) := by decide +kernel
theorem dX10_readWheel_8 : decode cX10_readWheel 8 = .ok (.iconst 3, 1) := by decide +kernel
theorem dX10_readWheel_9 : decode cX10_readWheel 9 = .ok (.iaload, 1) := by decide +kernel
theorem dX10_readWheel_10 : decode cX10_readWheel 10 = .ok (.imul, 1) := by decide +kernel
theorem dX10_readWheel_11 : decode cX10_readWheel 11 = .ok (.iadd, 1) := by decide +kernel
theorem dX10_readWheel_12 : decode cX10_readWheel 12 = .ok (.istore_n 1, 1) := by decide +kernel
theorem dX10_readWheel_13 : decode cX10_readWheel 13 = .ok (.aload_n 0, 1) := by decide +kernel
theorem dX10_readWheel_14 : decode cX10_readWheel 14 = .ok (.getfield 31, 3) := by decide +kernel
theorem dX10_readWheel_17 : decode cX10_readWheel 17 = .ok (.iload_n 1, 1) := by decide +kernel
theorem dX10_readWheel_18 : decode cX10_readWheel 18 = .ok (.aload_n 0, 1) := by decide +kernel
theorem dX10_readWheel_19 : decode cX10_readWheel 19 = .ok (.ldc 181, 2) := by decide +kernel
theorem dX10_readWheel_21 : decode cX10_readWheel 21 = .ok (.iconst 0, 1) := by decide +kernel
theorem dX10_readWheel_22 : decode cX10_readWheel 22 = .ok (.sipush 999, 3) := by decide +kernel
theorem dX10_readWheel_25 : decode cX10_readWheel 25 = .ok (.invokevirtual 177, 3) := by decide +kernel
theorem dX10_readWheel_28 : decode cX10_readWheel 28 = .ok (.iastore, 1) := by decide +kernel
theorem dX10_readWheel_29 : decode cX10_readWheel 29 = .ok (.iconst 0, 1) := by decide +kernel
theorem dX10_readWheel_30 : decode cX10_readWheel 30 = .ok (.istore_n 2, 1) := by decide +kernel
theorem dX10_readWheel_31 : decode cX10_readWheel 31 = .ok (.iload_n 2, 1) := by decide +kernel
theorem dX10_readWheel_32 : decode cX10_readWheel 32 = .ok (.bipush 8, 2) := by decide +kernel
theorem dX10_readWheel_34 : decode cX10_readWheel 34 = .ok (.if_icmp .ge 20, 3) := by decide +kernel
theorem dX10_readWheel_37 : decode cX10_readWheel 37 = .ok (.aload_n 0, 1) := by decide +kernel
theorem dX10_readWheel_38 : decode cX10_readWheel 38 = .ok (.getfield 31, 3) := by decide +kernel
theorem dX10_readWheel_41 : decode cX10_readWheel 41 = .ok (.iload_n 1, 1) := by decide +kernel
theorem dX10_readWheel_42 : decode cX10_readWheel 42 = .ok (.iconst 1, 1) := by decide +kernel
theorem dX10_readWheel_43 : decode cX10_readWheel 43 = .ok (.iadd, 1) := by decide +kernel
theorem dX10_readWheel_44 : decode cX10_readWheel 44 = .ok (.iload_n 2, 1) := by decide +kernel
theorem dX10_readWheel_45 : decode cX10_readWheel 45 = .ok (.iadd, 1) := by decide +kernel
theorem dX10_readWheel_46 : decode cX10_readWheel 46 = .ok (.iconst 0, 1) := by decide +kernel
theorem dX10_readWheel_47 : decode cX10_readWheel 47 = .ok (.iastore, 1) := by decide +kernel
theorem dX10_readWheel_48 : decode cX10_readWheel 48 = .ok (.iinc 2 1, 3) := by decide +kernel
theorem dX10_readWheel_51 : decode cX10_readWheel 51 = .ok (.goto (-20), 3) := by decide +kernel
theorem dX10_readWheel_54 : decode cX10_readWheel 54 = .ok (.aload_n 0, 1) := by decide +kernel
theorem dX10_readWheel_55 : decode cX10_readWheel 55 = .ok (.ldc 182, 2) := by decide +kernel
theorem dX10_readWheel_57 : decode cX10_readWheel 57 = .ok (.invokevirtual 157, 3) := by decide +kernel
theorem dX10_readWheel_60 : decode cX10_readWheel 60 = .ok (.ifCond .eq 47, 3) := by decide +kernel
theorem dX10_readWheel_63 : decode cX10_readWheel 63 = .ok (.aload_n 0, 1) := by decide +kernel
theorem dX10_readWheel_64 : decode cX10_readWheel 64 = .ok (.iconst 0, 1) := by decide +kernel
theorem dX10_readWheel_65 : decode cX10_readWheel 65 = .ok (.aload_n 0, 1) := by decide +kernel
theorem dX10_readWheel_66 : decode cX10_readWheel 66 = .ok (.getfield 31, 3) := by decide +kernel
theorem dX10_readWheel_69 : decode cX10_readWheel 69 = .ok (.iconst 2, 1) := by decide +kernel
theorem dX10_readWheel_70 : decode cX10_readWheel 70 = .ok (.iaload, 1) := by decide +kernel
theorem dX10_readWheel_71 : decode cX10_readWheel 71 = .ok (.iconst 1, 1) := by decide +kernel
theorem dX10_readWheel_72 : decode cX10_readWheel 72 = .ok (.isub, 1) := by decide +kernel
theorem dX10_readWheel_73 : decode cX10_readWheel 73 = .ok (.invokevirtual 168, 3) := by decide +kernel
theorem dX10_readWheel_76 : decode cX10_readWheel 76 = .ok (.istore_n 2, 1) := by decide +kernel
theorem dX10_readWheel_77 : decode cX10_readWheel 77 = .ok (.aload_n 0, 1) := by decide +kernel
theorem dX10_readWheel_78 : decode cX10_readWheel 78 = .ok (.iconst 0, 1) := by decide +kernel
theorem dX10_readWheel_79 : decode cX10_readWheel 79 = .ok (.bipush 9, 2) := by decide +kernel
theorem dX10_readWheel_81 : decode cX10_readWheel 81 = .ok (.invokevirtual 168, 3) := by decide +kernel
theorem dX10_readWheel_84 : decode cX10_readWheel 84 = .ok (.istore_n 3, 1) := by decide +kernel
theorem dX10_readWheel_85 : decode cX10_readWheel 85 = .ok (.aload_n 0, 1) := by decide +kernel
theorem dX10_readWheel_86 : decode cX10_readWheel 86 = .ok (.invokevirtual 136, 3) := by decide +kernel
theorem dX10_readWheel_89 : decode cX10_readWheel 89 = .ok (.ifCond .ne 4, 3) := by decide +kernel
theorem dX10_readWheel_92 : decode cX10_readWheel 92 = .ok (.return_, 1) := by decide +kernel
theorem dX10_readWheel_93 : decode cX10_readWheel 93 = .ok (.aload_n 0, 1) := by decide +kernel
theorem dX10_readWheel_94 : decode cX10_readWheel 94 = .ok (.getfield 31, 3) := by decide +kernel
theorem dX10_readWheel_97 : decode cX10_readWheel 97 = .ok (.iload_n 1, 1) := by decide +kernel
theorem dX10_readWheel_98 : decode cX10_readWheel 98 = .ok (.iconst 1, 1) := by decide +kernel
theorem dX10_readWheel_99 : decode cX10_readWheel 99 = .ok (.iadd, 1) := by decide +kernel
theorem dX10_readWheel_100 : decode cX10_readWheel 100 = .ok (.iload_n 2, 1) := by decide +kernel
theorem dX10_readWheel_101 : decode cX10_readWheel 101 = .ok (.iadd, 1) := by decide +kernel
theorem dX10_readWheel_102 : decode cX10_readWheel 102 = .ok (.iload_n 3, 1) := by decide +kernel
theorem dX10_readWheel_103 : decode cX10_readWheel 103 = .ok (.iastore, 1) := by decide +kernel
theorem dX10_readWheel_104 : decode cX10_readWheel 104 = .ok (.goto (-50), 3) := by decide +kernel
theorem dX10_readWheel_107 : decode cX10_readWheel 107 = .ok (.aload_n 0, 1) := by decide +kernel
theorem dX10_readWheel_108 : decode cX10_readWheel 108 = .ok (.getfield 31, 3) := by decide +kernel
theorem dX10_readWheel_111 : decode cX10_readWheel 111 = .ok (.iconst 3, 1) := by decide +kernel
theorem dX10_readWheel_112 : decode cX10_readWheel 112 = .ok (.dup2, 1) := by decide +kernel
theorem dX10_readWheel_113 : decode cX10_readWheel 113 = .ok (.iaload, 1) := by decide +kernel
theorem dX10_readWheel_114 : decode cX10_readWheel 114 = .ok (.iconst 1, 1) := by decide +kernel
theorem dX10_readWheel_115 : decode cX10_readWheel 115 = .ok (.iadd, 1) := by decide +kernel
theorem dX10_readWheel_116 : decode cX10_readWheel 116 = .ok (.iastore, 1) := by decide +kernel
theorem dX10_readWheel_117 : decode cX10_readWheel 117 = .ok (.return_, 1) := by decide +kernel
theorem dX10_road_0 : decode cX10_road 0 = .ok (.aload_n 0, 1) := by decide +kernel
theorem dX10_road_1 : decode cX10_road 1 = .ok (.iload_n 1, 1) := by decide +kernel
theorem dX10_road_2 : decode cX10_road 2 = .ok (.i2l, 1) := by decide +kernel
theorem dX10_road_3 : decode cX10_road 3 = .ok (.invokevirtual 265, 3) := by decide +kernel
theorem dX10_road_6 : decode cX10_road 6 = .ok (.ifCond .eq 24, 3) := by decide +kernel
theorem dX10_road_9 : decode cX10_road 9 = .ok (.iload_n 2, 1) := by decide +kernel
theorem dX10_road_10 : decode cX10_road 10 = .ok (.i2l, 1) := by decide +kernel
theorem dX10_road_11 : decode cX10_road 11 = .ok (.lconst 0, 1) := by decide +kernel
theorem dX10_road_12 : decode cX10_road 12 = .ok (.ldc2_w 83, 3) := by decide +kernel
theorem dX10_road_15 : decode cX10_road 15 = .ok (.invokestatic 85, 3) := by decide +kernel
theorem dX10_road_18 : decode cX10_road 18 = .ok (.ifCond .eq 12, 3) := by decide +kernel
theorem dX10_road_21 : decode cX10_road 21 = .ok (.aload_n 0, 1) := by decide +kernel
theorem dX10_road_22 : decode cX10_road 22 = .ok (.iload_n 1, 1) := by decide +kernel
theorem dX10_road_23 : decode cX10_road 23 = .ok (.iload_n 2, 1) := by decide +kernel
theorem dX10_road_24 : decode cX10_road 24 = .ok (.invokevirtual 89, 3) := by decide +kernel
theorem dX10_road_27 : decode cX10_road 27 = .ok (.goto 5, 3) := by decide +kernel
theorem dX10_road_30 : decode cX10_road 30 = .ok (.bipush (-2), 2) := by decide +kernel
theorem dX10_road_32 : decode cX10_road 32 = .ok (.ireturn, 1) := by decide +kernel
theorem dX10_roadAt_0 : decode cX10_roadAt 0 = .ok (.iload_n 2, 1) := by decide +kernel
theorem dX10_roadAt_1 : decode cX10_roadAt 1 = .ok (.istore_n 3, 1) := by decide +kernel
theorem dX10_roadAt_2 : decode cX10_roadAt 2 = .ok (.iconst 0, 1) := by decide +kernel
theorem dX10_roadAt_3 : decode cX10_roadAt 3 = .ok (.istore 4, 2) := by decide +kernel
theorem dX10_roadAt_5 : decode cX10_roadAt 5 = .ok (.iload 4, 2) := by decide +kernel
theorem dX10_roadAt_7 : decode cX10_roadAt 7 = .ok (.aload_n 0, 1) := by decide +kernel
theorem dX10_roadAt_8 : decode cX10_roadAt 8 = .ok (.getfield 9, 3) := by decide +kernel
theorem dX10_roadAt_11 : decode cX10_roadAt 11 = .ok (.iconst 2, 1) := by decide +kernel
theorem dX10_roadAt_12 : decode cX10_roadAt 12 = .ok (.iaload, 1) := by decide +kernel
theorem dX10_roadAt_13 : decode cX10_roadAt 13 = .ok (.if_icmp .ge 32, 3) := by decide +kernel
theorem dX10_roadAt_16 : decode cX10_roadAt 16 = .ok (.aload_n 0, 1) := by decide +kernel
theorem dX10_roadAt_17 : decode cX10_roadAt 17 = .ok (.iload 4, 2) := by decide +kernel
theorem dX10_roadAt_19 : decode cX10_roadAt 19 = .ok (.iload_n 1, 1) := by decide +kernel
theorem dX10_roadAt_20 : decode cX10_roadAt 20 = .ok (.invokevirtual 93, 3) := by decide +kernel
theorem dX10_roadAt_23 : decode cX10_roadAt 23 = .ok (.ifCond .ne 6, 3) := by decide +kernel
theorem dX10_roadAt_26 : decode cX10_roadAt 26 = .ok (.goto 13, 3) := by decide +kernel
theorem dX10_roadAt_29 : decode cX10_roadAt 29 = .ok (.iload_n 3, 1) := by decide +kernel
theorem dX10_roadAt_30 : decode cX10_roadAt 30 = .ok (.ifCond .ne 6, 3) := by decide +kernel
theorem dX10_roadAt_33 : decode cX10_roadAt 33 = .ok (.iload 4, 2) := by decide +kernel
theorem dX10_roadAt_35 : decode cX10_roadAt 35 = .ok (.ireturn, 1) := by decide +kernel
theorem dX10_roadAt_36 : decode cX10_roadAt 36 = .ok (.iinc 3 (-1), 3) := by decide +kernel
theorem dX10_roadAt_39 : decode cX10_roadAt 39 = .ok (.iinc 4 1, 3) := by decide +kernel
theorem dX10_roadAt_42 : decode cX10_roadAt 42 = .ok (.goto (-37), 3) := by decide +kernel
theorem dX10_roadAt_45 : decode cX10_roadAt 45 = .ok (.iconst (-1), 1) := by decide +kernel
theorem dX10_roadAt_46 : decode cX10_roadAt 46 = .ok (.ireturn, 1) := by decide +kernel
theorem dX10_roads_0 : decode cX10_roads 0 = .ok (.aload_n 0, 1) := by decide +kernel
theorem dX10_roads_1 : decode cX10_roads 1 = .ok (.iload_n 1, 1) := by decide +kernel
theorem dX10_roads_2 : decode cX10_roads 2 = .ok (.i2l, 1) := by decide +kernel
theorem dX10_roads_3 : decode cX10_roads 3 = .ok (.invokevirtual 282, 3) := by decide +kernel
theorem dX10_roads_6 : decode cX10_roads 6 = .ok (.ifCond .eq 11, 3) := by decide +kernel
theorem dX10_roads_9 : decode cX10_roads 9 = .ok (.aload_n 0, 1) := by decide +kernel
theorem dX10_roads_10 : decode cX10_roads 10 = .ok (.iload_n 1, 1) := by decide +kernel
theorem dX10_roads_11 : decode cX10_roads 11 = .ok (.invokevirtual 285, 3) := by decide +kernel
theorem dX10_roads_14 : decode cX10_roads 14 = .ok (.goto 5, 3) := by decide +kernel
theorem dX10_roads_17 : decode cX10_roads 17 = .ok (.bipush (-2), 2) := by decide +kernel
theorem dX10_roads_19 : decode cX10_roads 19 = .ok (.ireturn, 1) := by decide +kernel
theorem dX10_roadsOf_0 : decode cX10_roadsOf 0 = .ok (.iconst 0, 1) := by decide +kernel
theorem dX10_roadsOf_1 : decode cX10_roadsOf 1 = .ok (.istore_n 2, 1) := by decide +kernel
theorem dX10_roadsOf_2 : decode cX10_roadsOf 2 = .ok (.iconst 0, 1) := by decide +kernel
theorem dX10_roadsOf_3 : decode cX10_roadsOf 3 = .ok (.istore_n 3, 1) := by decide +kernel
theorem dX10_roadsOf_4 : decode cX10_roadsOf 4 = .ok (.iload_n 3, 1) := by decide +kernel
theorem dX10_roadsOf_5 : decode cX10_roadsOf 5 = .ok (.aload_n 0, 1) := by decide +kernel
theorem dX10_roadsOf_6 : decode cX10_roadsOf 6 = .ok (.getfield 9, 3) := by decide +kernel
theorem dX10_roadsOf_9 : decode cX10_roadsOf 9 = .ok (.iconst 2, 1) := by decide +kernel
theorem dX10_roadsOf_10 : decode cX10_roadsOf 10 = .ok (.iaload, 1) := by decide +kernel
theorem dX10_roadsOf_11 : decode cX10_roadsOf 11 = .ok (.if_icmp .ge 28, 3) := by decide +kernel
theorem dX10_roadsOf_14 : decode cX10_roadsOf 14 = .ok (.iload_n 2, 1) := by decide +kernel
theorem dX10_roadsOf_15 : decode cX10_roadsOf 15 = .ok (.aload_n 0, 1) := by decide +kernel
theorem dX10_roadsOf_16 : decode cX10_roadsOf 16 = .ok (.iload_n 3, 1) := by decide +kernel
theorem dX10_roadsOf_17 : decode cX10_roadsOf 17 = .ok (.iload_n 1, 1) := by decide +kernel
theorem dX10_roadsOf_18 : decode cX10_roadsOf 18 = .ok (.invokevirtual 93, 3) := by decide +kernel
theorem dX10_roadsOf_21 : decode cX10_roadsOf 21 = .ok (.ifCond .eq 9, 3) := by decide +kernel
theorem dX10_roadsOf_24 : decode cX10_roadsOf 24 = .ok (.iconst 1, 1) := by decide +kernel
theorem dX10_roadsOf_25 : decode cX10_roadsOf 25 = .ok (.iload_n 3, 1) := by decide +kernel
theorem dX10_roadsOf_26 : decode cX10_roadsOf 26 = .ok (.ishl, 1) := by decide +kernel
theorem dX10_roadsOf_27 : decode cX10_roadsOf 27 = .ok (.goto 4, 3) := by decide +kernel
theorem dX10_roadsOf_30 : decode cX10_roadsOf 30 = .ok (.iconst 0, 1) := by decide +kernel
theorem dX10_roadsOf_31 : decode cX10_roadsOf 31 = .ok (.ior, 1) := by decide +kernel
theorem dX10_roadsOf_32 : decode cX10_roadsOf 32 = .ok (.istore_n 2, 1) := by decide +kernel
theorem dX10_roadsOf_33 : decode cX10_roadsOf 33 = .ok (.iinc 3 1, 3) := by decide +kernel
theorem dX10_roadsOf_36 : decode cX10_roadsOf 36 = .ok (.goto (-32), 3) := by decide +kernel
theorem dX10_roadsOf_39 : decode cX10_roadsOf 39 = .ok (.iload_n 2, 1) := by decide +kernel
theorem dX10_roadsOf_40 : decode cX10_roadsOf 40 = .ok (.ireturn, 1) := by decide +kernel
theorem dX10_roams_0 : decode cX10_roams 0 = .ok (.aload_n 0, 1) := by decide +kernel
theorem dX10_roams_1 : decode cX10_roams 1 = .ok (.iload_n 1, 1) := by decide +kernel
theorem dX10_roams_2 : decode cX10_roams 2 = .ok (.invokevirtual 279, 3) := by decide +kernel
theorem dX10_roams_5 : decode cX10_roams 5 = .ok (.ifCond .eq 15, 3) := by decide +kernel
theorem dX10_roams_8 : decode cX10_roams 8 = .ok (.iload_n 2, 1) := by decide +kernel
theorem dX10_roams_9 : decode cX10_roams 9 = .ok (.i2l, 1) := by decide +kernel
theorem dX10_roams_10 : decode cX10_roams 10 = .ok (.lconst 0, 1) := by decide +kernel
theorem dX10_roams_11 : decode cX10_roams 11 = .ok (.ldc2_w 347, 3) := by decide +kernel
theorem dX10_roams_14 : decode cX10_roams 14 = .ok (.invokestatic 85, 3) := by decide +kernel
theorem dX10_roams_17 : decode cX10_roams 17 = .ok (.ifCond .ne 6, 3) := by decide +kernel
theorem dX10_roams_20 : decode cX10_roams 20 = .ok (.bipush (-2), 2) := by decide +kernel
theorem dX10_roams_22 : decode cX10_roams 22 = .ok (.ireturn, 1) := by decide +kernel
theorem dX10_roams_23 : decode cX10_roams 23 = .ok (.aload_n 0, 1) := by decide +kernel
theorem dX10_roams_24 : decode cX10_roams 24 = .ok (.iload_n 1, 1) := by decide +kernel
theorem dX10_roams_25 : decode cX10_roams 25 = .ok (.invokevirtual 349, 3) := by decide +kernel
theorem dX10_roams_28 : decode cX10_roams 28 = .ok (.aload_n 0, 1) := by decide +kernel
theorem dX10_roams_29 : decode cX10_roams 29 = .ok (.getfield 61, 3) := by decide +kernel
theorem dX10_roams_32 : decode cX10_roams 32 = .ok (.iload_n 2, 1) := by decide +kernel
theorem dX10_roams_33 : decode cX10_roams 33 = .ok (.iaload, 1) := by decide +kernel
theorem dX10_roams_34 : decode cX10_roams 34 = .ok (.ireturn, 1) := by decide +kernel
theorem dX10_row_0 : decode cX10_row 0 = .ok (.iload_n 1, 1) := by decide +kernel
theorem dX10_row_1 : decode cX10_row 1 = .ok (.invokestatic 300, 3) := by decide +kernel
theorem dX10_row_4 : decode cX10_row 4 = .ok (.ifCond .eq 21, 3) := by decide +kernel
theorem dX10_row_7 : decode cX10_row 7 = .ok (.iload_n 2, 1) := by decide +kernel
theorem dX10_row_8 : decode cX10_row 8 = .ok (.i2l, 1) := by decide +kernel
theorem dX10_row_9 : decode cX10_row 9 = .ok (.lconst 0, 1) := by decide +kernel
theorem dX10_row_10 : decode cX10_row 10 = .ok (.ldc2_w 434, 3) := by decide +kernel
theorem dX10_row_13 : decode cX10_row 13 = .ok (.invokestatic 85, 3) := by decide +kernel
theorem dX10_row_16 : decode cX10_row 16 = .ok (.ifCond .eq 9, 3) := by decide +kernel
theorem dX10_row_19 : decode cX10_row 19 = .ok (.iload_n 3, 1) := by decide +kernel
theorem dX10_row_20 : decode cX10_row 20 = .ok (.bipush 60, 2) := by decide +kernel
theorem dX10_row_22 : decode cX10_row 22 = .ok (.if_icmp .le 6, 3) := by decide +kernel
theorem dX10_row_25 : decode cX10_row 25 = .ok (.bipush (-2), 2) := by decide +kernel
theorem dX10_row_27 : decode cX10_row 27 = .ok (.ireturn, 1) := by decide +kernel
theorem dX10_row_28 : decode cX10_row 28 = .ok (.iload_n 3, 1) := by decide +kernel
theorem dX10_row_29 : decode cX10_row 29 = .ok (.ifCond .ge 6, 3) := by decide +kernel
theorem dX10_row_32 : decode cX10_row 32 = .ok (.bipush (-3), 2) := by decide +kernel
theorem dX10_row_34 : decode cX10_row 34 = .ok (.ireturn, 1) := by decide +kernel
theorem dX10_row_35 : decode cX10_row 35 = .ok (.aload_n 0, 1) := by decide +kernel
theorem dX10_row_36 : decode cX10_row 36 = .ok (.getfield 67, 3) := by decide +kernel
theorem dX10_row_39 : decode cX10_row 39 = .ok (.iload_n 1, 1) := by decide +kernel
theorem dX10_row_40 : decode cX10_row 40 = .ok (.iload_n 3, 1) := by decide +kernel
theorem dX10_row_41 : decode cX10_row 41 = .ok (.iastore, 1) := by decide +kernel
theorem dX10_row_42 : decode cX10_row 42 = .ok (.aload_n 0, 1) := by decide +kernel
theorem dX10_row_43 : decode cX10_row 43 = .ok (.getfield 70, 3) := by decide +kernel
theorem dX10_row_46 : decode cX10_row 46 = .ok (.iload_n 1, 1) := by decide +kernel
theorem dX10_row_47 : decode cX10_row 47 = .ok (.iload_n 2, 1) := by decide +kernel
theorem dX10_row_48 : decode cX10_row 48 = .ok (.iastore, 1) := by decide +kernel
theorem dX10_row_49 : decode cX10_row 49 = .ok (.iconst 0, 1) := by decide +kernel
theorem dX10_row_50 : decode cX10_row 50 = .ok (.istore 4, 2) := by decide +kernel
theorem dX10_row_52 : decode cX10_row 52 = .ok (.iload 4, 2) := by decide +kernel
theorem dX10_row_54 : decode cX10_row 54 = .ok (.bipush 60, 2) := by decide +kernel
theorem dX10_row_56 : decode cX10_row 56 = .ok (.if_icmp .ge 22, 3) := by decide +kernel
theorem dX10_row_59 : decode cX10_row 59 = .ok (.aload_n 0, 1) := by decide +kernel
theorem dX10_row_60 : decode cX10_row 60 = .ok (.getfield 73, 3) := by decide +kernel
theorem dX10_row_63 : decode cX10_row 63 = .ok (.bipush 60, 2) := by decide +kernel
theorem dX10_row_65 : decode cX10_row 65 = .ok (.iload_n 1, 1) := by decide +kernel
theorem dX10_row_66 : decode cX10_row 66 = .ok (.imul, 1) := by decide +kernel
theorem dX10_row_67 : decode cX10_row 67 = .ok (.iload 4, 2) := by decide +kernel
theorem dX10_row_69 : decode cX10_row 69 = .ok (.iadd, 1) := by decide +kernel
theorem dX10_row_70 : decode cX10_row 70 = .ok (.lconst 0, 1) := by decide +kernel
theorem dX10_row_71 : decode cX10_row 71 = .ok (.lastore, 1) := by decide +kernel
theorem dX10_row_72 : decode cX10_row 72 = .ok (.iinc 4 1, 3) := by decide +kernel
theorem dX10_row_75 : decode cX10_row 75 = .ok (.goto (-23), 3) := by decide +kernel
theorem dX10_row_78 : decode cX10_row 78 = .ok (.iconst 0, 1) := by decide +kernel
theorem dX10_row_79 : decode cX10_row 79 = .ok (.ireturn, 1) := by decide +kernel
theorem dX10_run_0 : decode cX10_run 0 = .ok (.aload_n 0, 1) := by decide +kernel
theorem dX10_run_1 : decode cX10_run 1 = .ok (.getfield 37, 3) := by decide +kernel
theorem dX10_run_4 : decode cX10_run 4 = .ok (.bipush 8, 2) := by decide +kernel
theorem dX10_run_6 : decode cX10_run 6 = .ok (.iload_n 1, 1) := by decide +kernel
theorem dX10_run_7 : decode cX10_run 7 = .ok (.imul, 1) := by decide +kernel
theorem dX10_run_8 : decode cX10_run 8 = .ok (.iload_n 2, 1) := by decide +kernel
theorem dX10_run_9 : decode cX10_run 9 = .ok (.iadd, 1) := by decide +kernel
theorem dX10_run_10 : decode cX10_run 10 = .ok (.bipush 9, 2) := by decide +kernel
theorem dX10_run_12 : decode cX10_run 12 = .ok (.aload_n 0, 1) := by decide +kernel
theorem dX10_run_13 : decode cX10_run 13 = .ok (.getfield 37, 3) := by decide +kernel
theorem dX10_run_16 : decode cX10_run 16 = .ok (.bipush 8, 2) := by decide +kernel
theorem dX10_run_18 : decode cX10_run 18 = .ok (.iload_n 1, 1) := by decide +kernel
theorem dX10_run_19 : decode cX10_run 19 = .ok (.imul, 1) := by decide +kernel
theorem dX10_run_20 : decode cX10_run 20 = .ok (.iload_n 2, 1) := by decide +kernel
theorem dX10_run_21 : decode cX10_run 21 = .ok (.iadd, 1) := by decide +kernel
theorem dX10_run_22 : decode cX10_run 22 = .ok (.iaload, 1) := by decide +kernel
theorem dX10_run_23 : decode cX10_run 23 = .ok (.iconst 1, 1) := by decide +kernel
theorem dX10_run_24 : decode cX10_run 24 = .ok (.iadd, 1) := by decide +kernel
theorem dX10_run_25 : decode cX10_run 25 = .ok (.invokestatic 128, 3) := by decide +kernel
theorem dX10_run_28 : decode cX10_run 28 = .ok (.iastore, 1) := by decide +kernel
theorem dX10_run_29 : decode cX10_run 29 = .ok (.aload_n 0, 1) := by decide +kernel
theorem dX10_run_30 : decode cX10_run 30 = .ok (.getfield 34, 3) := by decide +kernel
theorem dX10_run_33 : decode cX10_run 33 = .ok (.iload_n 1, 1) := by decide +kernel
theorem dX10_run_34 : decode cX10_run 34 = .ok (.dup2, 1) := by decide +kernel
theorem dX10_run_35 : decode cX10_run 35 = .ok (.iaload, 1) := by decide +kernel
theorem dX10_run_36 : decode cX10_run 36 = .ok (.aload_n 0, 1) := by decide +kernel
theorem dX10_run_37 : decode cX10_run 37 = .ok (.iload_n 2, 1) := by decide +kernel
theorem dX10_run_38 : decode cX10_run 38 = .ok (.invokevirtual 253, 3) := by decide +kernel
theorem dX10_run_41 : decode cX10_run 41 = .ok (.isub, 1) := by decide +kernel
theorem dX10_run_42 : decode cX10_run 42 = .ok (.iastore, 1) := by decide +kernel
theorem dX10_run_43 : decode cX10_run 43 = .ok (.aload_n 0, 1) := by decide +kernel
theorem dX10_run_44 : decode cX10_run 44 = .ok (.getfield 34, 3) := by decide +kernel
theorem dX10_run_47 : decode cX10_run 47 = .ok (.iload_n 1, 1) := by decide +kernel
theorem dX10_run_48 : decode cX10_run 48 = .ok (.iaload, 1) := by decide +kernel
theorem dX10_run_49 : decode cX10_run 49 = .ok (.ifCond .lt 4, 3) := by decide +kernel
theorem dX10_run_52 : decode cX10_run 52 = .ok (.return_, 1) := by decide +kernel
theorem dX10_run_53 : decode cX10_run 53 = .ok (.aload_n 0, 1) := by decide +kernel
theorem dX10_run_54 : decode cX10_run 54 = .ok (.getfield 34, 3) := by decide +kernel
theorem dX10_run_57 : decode cX10_run 57 = .ok (.iload_n 1, 1) := by decide +kernel
theorem dX10_run_58 : decode cX10_run 58 = .ok (.iconst 0, 1) := by decide +kernel
theorem dX10_run_59 : decode cX10_run 59 = .ok (.iastore, 1) := by decide +kernel
theorem dX10_run_60 : decode cX10_run 60 = .ok (.aload_n 0, 1) := by decide +kernel
theorem dX10_run_61 : decode cX10_run 61 = .ok (.iload_n 1, 1) := by decide +kernel
theorem dX10_run_62 : decode cX10_run 62 = .ok (.invokevirtual 240, 3) := by decide +kernel
theorem dX10_run_65 : decode cX10_run 65 = .ok (.return_, 1) := by decide +kernel
theorem dX10_see_0 : decode cX10_see 0 = .ok (.iload_n 1, 1) := by decide +kernel
theorem dX10_see_1 : decode cX10_see 1 = .ok (.aload_n 0, 1) := by decide +kernel
theorem dX10_see_2 : decode cX10_see 2 = .ok (.getfield 100, 3) := by decide +kernel
theorem dX10_see_5 : decode cX10_see 5 = .ok (.if_icmp .ge 16, 3) := by decide +kernel
theorem dX10_see_8 : decode cX10_see 8 = .ok (.aload_n 0, 1) := by decide +kernel
theorem dX10_see_9 : decode cX10_see 9 = .ok (.getfield 20, 3) := by decide +kernel
theorem dX10_see_12 : decode cX10_see 12 = .ok (.iload_n 1, 1) := by decide +kernel
theorem dX10_see_13 : decode cX10_see 13 = .ok (.baload, 1) := by decide +kernel
theorem dX10_see_14 : decode cX10_see 14 = .ok (.sipush 255, 3) := by decide +kernel
theorem dX10_see_17 : decode cX10_see 17 = .ok (.iand, 1) := by decide +kernel
theorem dX10_see_18 : decode cX10_see 18 = .ok (.goto 4, 3) := by decide +kernel
theorem dX10_see_21 : decode cX10_see 21 = .ok (.iconst (-1), 1) := by decide +kernel
theorem dX10_see_22 : decode cX10_see 22 = .ok (.ireturn, 1) := by decide +kernel
theorem dX10_share_0 : decode cX10_share 0 = .ok (.aload_n 0, 1) := by decide +kernel
theorem dX10_share_1 : decode cX10_share 1 = .ok (.iload_n 1, 1) := by decide +kernel
theorem dX10_share_2 : decode cX10_share 2 = .ok (.invokevirtual 279, 3) := by decide +kernel
theorem dX10_share_5 : decode cX10_share 5 = .ok (.ifCond .eq 23, 3) := by decide +kernel
theorem dX10_share_8 : decode cX10_share 8 = .ok (.iload_n 2, 1) := by decide +kernel
theorem dX10_share_9 : decode cX10_share 9 = .ok (.i2l, 1) := by decide +kernel
theorem dX10_share_10 : decode cX10_share 10 = .ok (.lconst 0, 1) := by decide +kernel
theorem dX10_share_11 : decode cX10_share 11 = .ok (.ldc2_w 390, 3) := by decide +kernel
theorem dX10_share_14 : decode cX10_share 14 = .ok (.invokestatic 85, 3) := by decide +kernel
theorem dX10_share_17 : decode cX10_share 17 = .ok (.ifCond .eq 11, 3) := by decide +kernel
theorem dX10_share_20 : decode cX10_share 20 = .ok (.aload_n 0, 1) := by decide +kernel
theorem dX10_share_21 : decode cX10_share 21 = .ok (.iload_n 3, 1) := by decide +kernel
theorem dX10_share_22 : decode cX10_share 22 = .ok (.invokevirtual 269, 3) := by decide +kernel
theorem dX10_share_25 : decode cX10_share 25 = .ok (.ifCond .ne 6, 3) := by decide +kernel
theorem dX10_share_28 : decode cX10_share 28 = .ok (.bipush (-2), 2) := by decide +kernel
theorem dX10_share_30 : decode cX10_share 30 = .ok (.ireturn, 1) := by decide +kernel
theorem dX10_share_31 : decode cX10_share 31 = .ok (.aload_n 0, 1) := by decide +kernel
theorem dX10_share_32 : decode cX10_share 32 = .ok (.invokevirtual 273, 3) := by decide +kernel
theorem dX10_share_35 : decode cX10_share 35 = .ok (.aload_n 0, 1) := by decide +kernel
theorem dX10_share_36 : decode cX10_share 36 = .ok (.getfield 40, 3) := by decide +kernel
theorem dX10_share_39 : decode cX10_share 39 = .ok (.iload_n 3, 1) := by decide +kernel
theorem dX10_share_40 : decode cX10_share 40 = .ok (.iaload, 1) := by decide +kernel
theorem dX10_share_41 : decode cX10_share 41 = .ok (.iload_n 1, 1) := by decide +kernel
theorem dX10_share_42 : decode cX10_share 42 = .ok (.if_icmp .eq 6, 3) := by decide +kernel
theorem dX10_share_45 : decode cX10_share 45 = .ok (.bipush (-2), 2) := by decide +kernel
theorem dX10_share_47 : decode cX10_share 47 = .ok (.ireturn, 1) := by decide +kernel
theorem dX10_share_48 : decode cX10_share 48 = .ok (.aload_n 0, 1) := by decide +kernel
theorem dX10_share_49 : decode cX10_share 49 = .ok (.iload_n 1, 1) := by decide +kernel
theorem dX10_share_50 : decode cX10_share 50 = .ok (.invokevirtual 246, 3) := by decide +kernel
theorem dX10_share_53 : decode cX10_share 53 = .ok (.istore 4, 2) := by decide +kernel
theorem dX10_share_55 : decode cX10_share 55 = .ok (.iconst 0, 1) := by decide +kernel
theorem dX10_share_56 : decode cX10_share 56 = .ok (.istore 5, 2) := by decide +kernel
theorem dX10_share_58 : decode cX10_share 58 = .ok (.iconst 0, 1) := by decide +kernel
theorem dX10_share_59 : decode cX10_share 59 = .ok (.istore 6, 2) := by decide +kernel
theorem dX10_share_61 : decode cX10_share 61 = .ok (.iload 6, 2) := by decide +kernel
theorem dX10_share_63 : decode cX10_share 63 = .ok (.aload_n 0, 1) := by decide +kernel
theorem dX10_share_64 : decode cX10_share 64 = .ok (.getfield 9, 3) := by decide +kernel
theorem dX10_share_67 : decode cX10_share 67 = .ok (.iconst 3, 1) := by decide +kernel
theorem dX10_share_68 : decode cX10_share 68 = .ok (.iaload, 1) := by decide +kernel
theorem dX10_share_69 : decode cX10_share 69 = .ok (.if_icmp .ge 28, 3) := by decide +kernel
theorem dX10_share_72 : decode cX10_share 72 = .ok (.iload 5, 2) := by decide +kernel
theorem dX10_share_74 : decode cX10_share 74 = .ok (.iload 4, 2) := by decide +kernel
theorem dX10_share_76 : decode cX10_share 76 = .ok (.iload 6, 2) := by decide +kernel
theorem dX10_share_78 : decode cX10_share 78 = .ok (.invokestatic 193, 3) := by decide +kernel
theorem dX10_share_81 : decode cX10_share 81 = .ok (.aload_n 0, 1) := by decide +kernel
theorem dX10_share_82 : decode cX10_share 82 = .ok (.iload 6, 2) := by decide +kernel
theorem dX10_share_84 : decode cX10_share 84 = .ok (.invokevirtual 276, 3) := by decide +kernel
theorem dX10_share_87 : decode cX10_share 87 = .ok (.imul, 1) := by decide +kernel
theorem dX10_share_88 : decode cX10_share 88 = .ok (.iadd, 1) := by decide +kernel
theorem dX10_share_89 : decode cX10_share 89 = .ok (.istore 5, 2) := by decide +kernel
theorem dX10_share_91 : decode cX10_share 91 = .ok (.iinc 6 1, 3) := by decide +kernel
theorem dX10_share_94 : decode cX10_share 94 = .ok (.goto (-33), 3) := by decide +kernel
theorem dX10_share_97 : decode cX10_share 97 = .ok (.iload 5, 2) := by decide +kernel
theorem dX10_share_99 : decode cX10_share 99 = .ok (.ifCond .ne 7, 3) := by decide +kernel
theorem dX10_share_102 : decode cX10_share 102 = .ok (.iconst 1, 1) := by decide +kernel
theorem dX10_share_103 : decode cX10_share 103 = .ok (.goto 4, 3) := by decide +kernel
theorem dX10_share_106 : decode cX10_share 106 = .ok (.iconst 0, 1) := by decide +kernel
theorem dX10_share_107 : decode cX10_share 107 = .ok (.istore 6, 2) := by decide +kernel
theorem dX10_share_109 : decode cX10_share 109 = .ok (.iload 6, 2) := by decide +kernel
theorem dX10_share_111 : decode cX10_share 111 = .ok (.ifCond .eq 10, 3) := by decide +kernel
theorem dX10_share_114 : decode cX10_share 114 = .ok (.iload 4, 2) := by decide +kernel
theorem dX10_share_116 : decode cX10_share 116 = .ok (.invokestatic 190, 3) := by decide +kernel
theorem dX10_share_119 : decode cX10_share 119 = .ok (.istore 5, 2) := by decide +kernel
theorem dX10_share_121 : decode cX10_share 121 = .ok (.iload_n 2, 1) := by decide +kernel
theorem dX10_share_122 : decode cX10_share 122 = .ok (.istore 7, 2) := by decide +kernel
theorem dX10_share_124 : decode cX10_share 124 = .ok (.iconst 0, 1) := by decide +kernel
theorem dX10_share_125 : decode cX10_share 125 = .ok (.istore 8, 2) := by decide +kernel
theorem dX10_share_127 : decode cX10_share 127 = .ok (.iload 8, 2) := by decide +kernel
theorem dX10_share_129 : decode cX10_share 129 = .ok (.aload_n 0, 1) := by decide +kernel
theorem dX10_share_130 : decode cX10_share 130 = .ok (.getfield 9, 3) := by decide +kernel
theorem dX10_share_133 : decode cX10_share 133 = .ok (.iconst 3, 1) := by decide +kernel
theorem dX10_share_134 : decode cX10_share 134 = .ok (.iaload, 1) := by decide +kernel
theorem dX10_share_135 : decode cX10_share 135 = .ok (.if_icmp .ge 42, 3) := by decide +kernel
theorem dX10_share_138 : decode cX10_share 138 = .ok (.iload 7, 2) := by decide +kernel
theorem dX10_share_140 : decode cX10_share 140 = .ok (.iload 4, 2) := by decide +kernel
theorem dX10_share_142 : decode cX10_share 142 = .ok (.iload 8, 2) := by decide +kernel
theorem dX10_share_144 : decode cX10_share 144 = .ok (.invokestatic 193, 3) := by decide +kernel
theorem dX10_share_147 : decode cX10_share 147 = .ok (.iconst 1, 1) := by decide +kernel
theorem dX10_share_148 : decode cX10_share 148 = .ok (.if_icmp .ne 19, 3) := by decide +kernel
theorem dX10_share_151 : decode cX10_share 151 = .ok (.iload_n 2, 1) := by decide +kernel
theorem dX10_share_152 : decode cX10_share 152 = .ok (.aload_n 0, 1) := by decide +kernel
theorem dX10_share_153 : decode cX10_share 153 = .ok (.iload 8, 2) := by decide +kernel
theorem dX10_share_155 : decode cX10_share 155 = .ok (.iload 6, 2) := by decide +kernel
theorem dX10_share_157 : decode cX10_share 157 = .ok (.invokevirtual 392, 3) := by decide +kernel
theorem dX10_share_160 : decode cX10_share 160 = .ok (.imul, 1) := by decide +kernel
theorem dX10_share_161 : decode cX10_share 161 = .ok (.iload 5, 2) := by decide +kernel
theorem dX10_share_163 : decode cX10_share 163 = .ok (.idiv, 1) := by decide +kernel
theorem dX10_share_164 : decode cX10_share 164 = .ok (.goto 4, 3) := by decide +kernel
theorem dX10_share_167 : decode cX10_share 167 = .ok (.iconst 0, 1) := by decide +kernel
theorem dX10_share_168 : decode cX10_share 168 = .ok (.isub, 1) := by decide +kernel
theorem dX10_share_169 : decode cX10_share 169 = .ok (.istore 7, 2) := by decide +kernel
theorem dX10_share_171 : decode cX10_share 171 = .ok (.iinc 8 1, 3) := by decide +kernel
theorem dX10_share_174 : decode cX10_share 174 = .ok (.goto (-47), 3) := by decide +kernel
theorem dX10_share_177 : decode cX10_share 177 = .ok (.iload 4, 2) := by decide +kernel
theorem dX10_share_179 : decode cX10_share 179 = .ok (.iconst 1, 1) := by decide +kernel
theorem dX10_share_180 : decode cX10_share 180 = .ok (.iload_n 3, 1) := by decide +kernel
theorem dX10_share_181 : decode cX10_share 181 = .ok (.ishl, 1) := by decide +kernel
theorem dX10_share_182 : decode cX10_share 182 = .ok (.iconst 1, 1) := by decide +kernel
theorem dX10_share_183 : decode cX10_share 183 = .ok (.isub, 1) := by decide +kernel
theorem dX10_share_184 : decode cX10_share 184 = .ok (.iand, 1) := by decide +kernel
theorem dX10_share_185 : decode cX10_share 185 = .ok (.invokestatic 190, 3) := by decide +kernel
theorem dX10_share_188 : decode cX10_share 188 = .ok (.istore 8, 2) := by decide +kernel
theorem dX10_share_190 : decode cX10_share 190 = .ok (.iload_n 2, 1) := by decide +kernel
theorem dX10_share_191 : decode cX10_share 191 = .ok (.aload_n 0, 1) := by decide +kernel
theorem dX10_share_192 : decode cX10_share 192 = .ok (.iload_n 3, 1) := by decide +kernel
theorem dX10_share_193 : decode cX10_share 193 = .ok (.iload 6, 2) := by decide +kernel
theorem dX10_share_195 : decode cX10_share 195 = .ok (.invokevirtual 392, 3) := by decide +kernel
theorem dX10_share_198 : decode cX10_share 198 = .ok (.imul, 1) := by decide +kernel
theorem dX10_share_199 : decode cX10_share 199 = .ok (.iload 5, 2) := by decide +kernel
theorem dX10_share_201 : decode cX10_share 201 = .ok (.idiv, 1) := by decide +kernel
theorem dX10_share_202 : decode cX10_share 202 = .ok (.iload 8, 2) := by decide +kernel
theorem dX10_share_204 : decode cX10_share 204 = .ok (.iload 7, 2) := by decide +kernel
theorem dX10_share_206 : decode cX10_share 206 = .ok (.if_icmp .ge 7, 3) := by decide +kernel
theorem dX10_share_209 : decode cX10_share 209 = .ok (.iconst 1, 1) := by decide +kernel
theorem dX10_share_210 : decode cX10_share 210 = .ok (.goto 4, 3) := by decide +kernel
theorem dX10_share_213 : decode cX10_share 213 = .ok (.iconst 0, 1) := by decide +kernel
theorem dX10_share_214 : decode cX10_share 214 = .ok (.iadd, 1) := by decide +kernel
theorem dX10_share_215 : decode cX10_share 215 = .ok (.ireturn, 1) := by decide +kernel
theorem dX10_shareOf_0 : decode cX10_shareOf 0 = .ok (.iload_n 2, 1) := by decide +kernel
theorem dX10_shareOf_1 : decode cX10_shareOf 1 = .ok (.ifCond .eq 7, 3) := by decide +kernel
theorem dX10_shareOf_4 : decode cX10_shareOf 4 = .ok (.iconst 1, 1) := by decide +kernel
theorem dX10_shareOf_5 : decode cX10_shareOf 5 = .ok (.goto 8, 3) := by decide +kernel
theorem dX10_shareOf_8 : decode cX10_shareOf 8 = .ok (.aload_n 0, 1) := by decide +kernel
theorem dX10_shareOf_9 : decode cX10_shareOf 9 = .ok (.iload_n 1, 1) := by decide +kernel
theorem dX10_shareOf_10 : decode cX10_shareOf 10 = .ok (.invokevirtual 276, 3) := by decide +kernel
theorem dX10_shareOf_13 : decode cX10_shareOf 13 = .ok (.ireturn, 1) := by decide +kernel
theorem dX10_smiths_0 : decode cX10_smiths 0 = .ok (.aload_n 0, 1) := by decide +kernel
theorem dX10_smiths_1 : decode cX10_smiths 1 = .ok (.invokevirtual 297, 3) := by decide +kernel
theorem dX10_smiths_4 : decode cX10_smiths 4 = .ok (.ifCond .ne 7, 3) := by decide +kernel
theorem dX10_smiths_7 : decode cX10_smiths 7 = .ok (.ldc_w 404, 3) := by decide +kernel
theorem dX10_smiths_10 : decode cX10_smiths 10 = .ok (.ireturn, 1) := by decide +kernel
theorem dX10_smiths_11 : decode cX10_smiths 11 = .ok (.aload_n 0, 1) := by decide +kernel
theorem dX10_smiths_12 : decode cX10_smiths 12 = .ok (.invokevirtual 273, 3) := by decide +kernel
theorem dX10_smiths_15 : decode cX10_smiths 15 = .ok (.aload_n 0, 1) := by decide +kernel
theorem dX10_smiths_16 : decode cX10_smiths 16 = .ok (.aload_n 0, 1) := by decide +kernel
theorem dX10_smiths_17 : decode cX10_smiths 17 = .ok (.iconst (-1), 1) := by decide +kernel
theorem dX10_smiths_18 : decode cX10_smiths 18 = .ok (.invokevirtual 246, 3) := by decide +kernel
theorem dX10_smiths_21 : decode cX10_smiths 21 = .ok (.invokevirtual 405, 3) := by decide +kernel
theorem dX10_smiths_24 : decode cX10_smiths 24 = .ok (.ireturn, 1) := by decide +kernel
theorem dX10_smithsOf_0 : decode cX10_smithsOf 0 = .ok (.iconst 0, 1) := by decide +kernel
theorem dX10_smithsOf_1 : decode cX10_smithsOf 1 = .ok (.istore_n 2, 1) := by decide +kernel
theorem dX10_smithsOf_2 : decode cX10_smithsOf 2 = .ok (.iload_n 2, 1) := by decide +kernel
theorem dX10_smithsOf_3 : decode cX10_smithsOf 3 = .ok (.iload_n 1, 1) := by decide +kernel
theorem dX10_smithsOf_4 : decode cX10_smithsOf 4 = .ok (.if_icmp .gt 135, 3) := by decide +kernel
theorem dX10_smithsOf_7 : decode cX10_smithsOf 7 = .ok (.iload_n 1, 1) := by decide +kernel
theorem dX10_smithsOf_8 : decode cX10_smithsOf 8 = .ok (.invokestatic 190, 3) := by decide +kernel
theorem dX10_smithsOf_11 : decode cX10_smithsOf 11 = .ok (.iload_n 2, 1) := by decide +kernel
theorem dX10_smithsOf_12 : decode cX10_smithsOf 12 = .ok (.invokestatic 190, 3) := by decide +kernel
theorem dX10_smithsOf_15 : decode cX10_smithsOf 15 = .ok (.isub, 1) := by decide +kernel
theorem dX10_smithsOf_16 : decode cX10_smithsOf 16 = .ok (.iconst 2, 1) := by decide +kernel
theorem dX10_smithsOf_17 : decode cX10_smithsOf 17 = .ok (.irem, 1) := by decide +kernel
theorem dX10_smithsOf_18 : decode cX10_smithsOf 18 = .ok (.ifCond .ne 7, 3) := by decide +kernel
theorem dX10_smithsOf_21 : decode cX10_smithsOf 21 = .ok (.iconst 1, 1) := by decide +kernel
theorem dX10_smithsOf_22 : decode cX10_smithsOf 22 = .ok (.goto 4, 3) := by decide +kernel
theorem dX10_smithsOf_25 : decode cX10_smithsOf 25 = .ok (.iconst 0, 1) := by decide +kernel
theorem dX10_smithsOf_26 : decode cX10_smithsOf 26 = .ok (.istore_n 3, 1) := by decide +kernel
theorem dX10_smithsOf_27 : decode cX10_smithsOf 27 = .ok (.iload_n 2, 1) := by decide +kernel
theorem dX10_smithsOf_28 : decode cX10_smithsOf 28 = .ok (.ifCond .ne 7, 3) := by decide +kernel
theorem dX10_smithsOf_31 : decode cX10_smithsOf 31 = .ok (.iconst 0, 1) := by decide +kernel
theorem dX10_smithsOf_32 : decode cX10_smithsOf 32 = .ok (.goto 16, 3) := by decide +kernel
theorem dX10_smithsOf_35 : decode cX10_smithsOf 35 = .ok (.iload_n 3, 1) := by decide +kernel
theorem dX10_smithsOf_36 : decode cX10_smithsOf 36 = .ok (.ifCond .eq 9, 3) := by decide +kernel
theorem dX10_smithsOf_39 : decode cX10_smithsOf 39 = .ok (.ldc_w 399, 3) := by decide +kernel
theorem dX10_smithsOf_42 : decode cX10_smithsOf 42 = .ok (.goto 6, 3) := by decide +kernel
theorem dX10_smithsOf_45 : decode cX10_smithsOf 45 = .ok (.ldc_w 331, 3) := by decide +kernel
theorem dX10_smithsOf_48 : decode cX10_smithsOf 48 = .ok (.istore 4, 2) := by decide +kernel
theorem dX10_smithsOf_50 : decode cX10_smithsOf 50 = .ok (.iconst 0, 1) := by decide +kernel
theorem dX10_smithsOf_51 : decode cX10_smithsOf 51 = .ok (.istore 5, 2) := by decide +kernel
theorem dX10_smithsOf_53 : decode cX10_smithsOf 53 = .ok (.iload 5, 2) := by decide +kernel
theorem dX10_smithsOf_55 : decode cX10_smithsOf 55 = .ok (.aload_n 0, 1) := by decide +kernel
theorem dX10_smithsOf_56 : decode cX10_smithsOf 56 = .ok (.getfield 9, 3) := by decide +kernel
theorem dX10_smithsOf_59 : decode cX10_smithsOf 59 = .ok (.iconst 3, 1) := by decide +kernel
theorem dX10_smithsOf_60 : decode cX10_smithsOf 60 = .ok (.iaload, 1) := by decide +kernel
theorem dX10_smithsOf_61 : decode cX10_smithsOf 61 = .ok (.if_icmp .ge 64, 3) := by decide +kernel
theorem dX10_smithsOf_64 : decode cX10_smithsOf 64 = .ok (.iload_n 2, 1) := by decide +kernel
theorem dX10_smithsOf_65 : decode cX10_smithsOf 65 = .ok (.iload_n 1, 1) := by decide +kernel
theorem dX10_smithsOf_66 : decode cX10_smithsOf 66 = .ok (.iconst (-1), 1) := by decide +kernel
theorem dX10_smithsOf_67 : decode cX10_smithsOf 67 = .ok (.ixor, 1) := by decide +kernel
theorem dX10_smithsOf_68 : decode cX10_smithsOf 68 = .ok (.iand, 1) := by decide +kernel
theorem dX10_smithsOf_69 : decode cX10_smithsOf 69 = .ok (.ifCond .ne 50, 3) := by decide +kernel
theorem dX10_smithsOf_72 : decode cX10_smithsOf 72 = .ok (.iload_n 2, 1) := by decide +kernel
theorem dX10_smithsOf_73 : decode cX10_smithsOf 73 = .ok (.iload 5, 2) := by decide +kernel
theorem dX10_smithsOf_75 : decode cX10_smithsOf 75 = .ok (.invokestatic 193, 3) := by decide +kernel
theorem dX10_smithsOf_78 : decode cX10_smithsOf 78 = .ok (.ifCond .ne 6, 3) := by decide +kernel
theorem dX10_smithsOf_81 : decode cX10_smithsOf 81 = .ok (.goto 38, 3) := by decide +kernel
theorem dX10_smithsOf_84 : decode cX10_smithsOf 84 = .ok (.iload_n 3, 1) := by decide +kernel
theorem dX10_smithsOf_85 : decode cX10_smithsOf 85 = .ok (.ifCond .eq 19, 3) := by decide +kernel
theorem dX10_smithsOf_88 : decode cX10_smithsOf 88 = .ok (.iload 4, 2) := by decide +kernel
theorem dX10_smithsOf_90 : decode cX10_smithsOf 90 = .ok (.aload_n 0, 1) := by decide +kernel
theorem dX10_smithsOf_91 : decode cX10_smithsOf 91 = .ok (.iload_n 2, 1) := by decide +kernel
theorem dX10_smithsOf_92 : decode cX10_smithsOf 92 = .ok (.iload 5, 2) := by decide +kernel
theorem dX10_smithsOf_94 : decode cX10_smithsOf 94 = .ok (.iconst 1, 1) := by decide +kernel
theorem dX10_smithsOf_95 : decode cX10_smithsOf 95 = .ok (.invokevirtual 400, 3) := by decide +kernel
theorem dX10_smithsOf_98 : decode cX10_smithsOf 98 = .ok (.invokestatic 367, 3) := by decide +kernel
theorem dX10_smithsOf_101 : decode cX10_smithsOf 101 = .ok (.goto 16, 3) := by decide +kernel
theorem dX10_smithsOf_104 : decode cX10_smithsOf 104 = .ok (.iload 4, 2) := by decide +kernel
theorem dX10_smithsOf_106 : decode cX10_smithsOf 106 = .ok (.aload_n 0, 1) := by decide +kernel
theorem dX10_smithsOf_107 : decode cX10_smithsOf 107 = .ok (.iload_n 2, 1) := by decide +kernel
theorem dX10_smithsOf_108 : decode cX10_smithsOf 108 = .ok (.iload 5, 2) := by decide +kernel
theorem dX10_smithsOf_110 : decode cX10_smithsOf 110 = .ok (.iconst 0, 1) := by decide +kernel
theorem dX10_smithsOf_111 : decode cX10_smithsOf 111 = .ok (.invokevirtual 400, 3) := by decide +kernel
theorem dX10_smithsOf_114 : decode cX10_smithsOf 114 = .ok (.invokestatic 128, 3) := by decide +kernel
theorem dX10_smithsOf_117 : decode cX10_smithsOf 117 = .ok (.istore 4, 2) := by decide +kernel
theorem dX10_smithsOf_119 : decode cX10_smithsOf 119 = .ok (.iinc 5 1, 3) := by decide +kernel
theorem dX10_smithsOf_122 : decode cX10_smithsOf 122 = .ok (.goto (-69), 3) := by decide +kernel
theorem dX10_smithsOf_125 : decode cX10_smithsOf 125 = .ok (.aload_n 0, 1) := by decide +kernel
theorem dX10_smithsOf_126 : decode cX10_smithsOf 126 = .ok (.getfield 64, 3) := by decide +kernel
theorem dX10_smithsOf_129 : decode cX10_smithsOf 129 = .ok (.iload_n 2, 1) := by decide +kernel
theorem dX10_smithsOf_130 : decode cX10_smithsOf 130 = .ok (.iload 4, 2) := by decide +kernel
theorem dX10_smithsOf_132 : decode cX10_smithsOf 132 = .ok (.iastore, 1) := by decide +kernel
theorem dX10_smithsOf_133 : decode cX10_smithsOf 133 = .ok (.iinc 2 1, 3) := by decide +kernel
theorem dX10_smithsOf_136 : decode cX10_smithsOf 136 = .ok (.goto (-134), 3) := by decide +kernel
theorem dX10_smithsOf_139 : decode cX10_smithsOf 139 = .ok (.aload_n 0, 1) := by decide +kernel
theorem dX10_smithsOf_140 : decode cX10_smithsOf 140 = .ok (.getfield 64, 3) := by decide +kernel
theorem dX10_smithsOf_143 : decode cX10_smithsOf 143 = .ok (.iload_n 1, 1) := by decide +kernel
theorem dX10_smithsOf_144 : decode cX10_smithsOf 144 = .ok (.iaload, 1) := by decide +kernel
theorem dX10_smithsOf_145 : decode cX10_smithsOf 145 = .ok (.ireturn, 1) := by decide +kernel
theorem dX10_swap_0 : decode cX10_swap 0 = .ok (.aload_n 0, 1) := by decide +kernel
theorem dX10_swap_1 : decode cX10_swap 1 = .ok (.iload_n 1, 1) := by decide +kernel
theorem dX10_swap_2 : decode cX10_swap 2 = .ok (.invokevirtual 269, 3) := by decide +kernel
theorem dX10_swap_5 : decode cX10_swap 5 = .ok (.ifCond .eq 16, 3) := by decide +kernel
theorem dX10_swap_8 : decode cX10_swap 8 = .ok (.aload_n 0, 1) := by decide +kernel
theorem dX10_swap_9 : decode cX10_swap 9 = .ok (.iload_n 2, 1) := by decide +kernel
theorem dX10_swap_10 : decode cX10_swap 10 = .ok (.invokevirtual 269, 3) := by decide +kernel
theorem dX10_swap_13 : decode cX10_swap 13 = .ok (.ifCond .eq 8, 3) := by decide +kernel
theorem dX10_swap_16 : decode cX10_swap 16 = .ok (.iload_n 1, 1) := by decide +kernel
theorem dX10_swap_17 : decode cX10_swap 17 = .ok (.iload_n 2, 1) := by decide +kernel
theorem dX10_swap_18 : decode cX10_swap 18 = .ok (.if_icmp .ne 6, 3) := by decide +kernel
theorem dX10_swap_21 : decode cX10_swap 21 = .ok (.bipush (-2), 2) := by decide +kernel
theorem dX10_swap_23 : decode cX10_swap 23 = .ok (.ireturn, 1) := by decide +kernel
theorem dX10_swap_24 : decode cX10_swap 24 = .ok (.aload_n 0, 1) := by decide +kernel
theorem dX10_swap_25 : decode cX10_swap 25 = .ok (.getfield 9, 3) := by decide +kernel
theorem dX10_swap_28 : decode cX10_swap 28 = .ok (.bipush 7, 2) := by decide +kernel
theorem dX10_swap_30 : decode cX10_swap 30 = .ok (.iaload, 1) := by decide +kernel
theorem dX10_swap_31 : decode cX10_swap 31 = .ok (.bipush 40, 2) := by decide +kernel
theorem dX10_swap_33 : decode cX10_swap 33 = .ok (.if_icmp .ne 6, 3) := by decide +kernel
theorem dX10_swap_36 : decode cX10_swap 36 = .ok (.bipush (-5), 2) := by decide +kernel
theorem dX10_swap_38 : decode cX10_swap 38 = .ok (.ireturn, 1) := by decide +kernel
theorem dX10_swap_39 : decode cX10_swap 39 = .ok (.aload_n 0, 1) := by decide +kernel
theorem dX10_swap_40 : decode cX10_swap 40 = .ok (.sipush 200, 3) := by decide +kernel
theorem dX10_swap_43 : decode cX10_swap 43 = .ok (.bipush 10, 2) := by decide +kernel
theorem dX10_swap_45 : decode cX10_swap 45 = .ok (.iload_n 1, 1) := by decide +kernel
theorem dX10_swap_46 : decode cX10_swap 46 = .ok (.imul, 1) := by decide +kernel
theorem dX10_swap_47 : decode cX10_swap 47 = .ok (.iadd, 1) := by decide +kernel
theorem dX10_swap_48 : decode cX10_swap 48 = .ok (.iload_n 2, 1) := by decide +kernel
theorem dX10_swap_49 : decode cX10_swap 49 = .ok (.iadd, 1) := by decide +kernel
theorem dX10_swap_50 : decode cX10_swap 50 = .ok (.invokevirtual 294, 3) := by decide +kernel
theorem dX10_swap_53 : decode cX10_swap 53 = .ok (.iconst 0, 1) := by decide +kernel
theorem dX10_swap_54 : decode cX10_swap 54 = .ok (.ireturn, 1) := by decide +kernel
theorem dX10_swapSeats_0 : decode cX10_swapSeats 0 = .ok (.aload_n 0, 1) := by decide +kernel
theorem dX10_swapSeats_1 : decode cX10_swapSeats 1 = .ok (.getfield 40, 3) := by decide +kernel
theorem dX10_swapSeats_4 : decode cX10_swapSeats 4 = .ok (.iload_n 1, 1) := by decide +kernel
theorem dX10_swapSeats_5 : decode cX10_swapSeats 5 = .ok (.iaload, 1) := by decide +kernel
theorem dX10_swapSeats_6 : decode cX10_swapSeats 6 = .ok (.istore_n 3, 1) := by decide +kernel
theorem dX10_swapSeats_7 : decode cX10_swapSeats 7 = .ok (.aload_n 0, 1) := by decide +kernel
theorem dX10_swapSeats_8 : decode cX10_swapSeats 8 = .ok (.getfield 40, 3) := by decide +kernel
theorem dX10_swapSeats_11 : decode cX10_swapSeats 11 = .ok (.iload_n 1, 1) := by decide +kernel
theorem dX10_swapSeats_12 : decode cX10_swapSeats 12 = .ok (.aload_n 0, 1) := by decide +kernel
theorem dX10_swapSeats_13 : decode cX10_swapSeats 13 = .ok (.getfield 40, 3) := by decide +kernel
theorem dX10_swapSeats_16 : decode cX10_swapSeats 16 = .ok (.iload_n 2, 1) := by decide +kernel
theorem dX10_swapSeats_17 : decode cX10_swapSeats 17 = .ok (.iaload, 1) := by decide +kernel
theorem dX10_swapSeats_18 : decode cX10_swapSeats 18 = .ok (.iastore, 1) := by decide +kernel
theorem dX10_swapSeats_19 : decode cX10_swapSeats 19 = .ok (.aload_n 0, 1) := by decide +kernel
theorem dX10_swapSeats_20 : decode cX10_swapSeats 20 = .ok (.getfield 40, 3) := by decide +kernel
theorem dX10_swapSeats_23 : decode cX10_swapSeats 23 = .ok (.iload_n 2, 1) := by decide +kernel
theorem dX10_swapSeats_24 : decode cX10_swapSeats 24 = .ok (.iload_n 3, 1) := by decide +kernel
theorem dX10_swapSeats_25 : decode cX10_swapSeats 25 = .ok (.iastore, 1) := by decide +kernel
theorem dX10_swapSeats_26 : decode cX10_swapSeats 26 = .ok (.return_, 1) := by decide +kernel
theorem dX10_takes_0 : decode cX10_takes 0 = .ok (.aload_n 0, 1) := by decide +kernel
theorem dX10_takes_1 : decode cX10_takes 1 = .ok (.aload_n 1, 1) := by decide +kernel
theorem dX10_takes_2 : decode cX10_takes 2 = .ok (.invokevirtual 150, 3) := by decide +kernel
theorem dX10_takes_5 : decode cX10_takes 5 = .ok (.istore_n 2, 1) := by decide +kernel
theorem dX10_takes_6 : decode cX10_takes 6 = .ok (.iload_n 2, 1) := by decide +kernel
theorem dX10_takes_7 : decode cX10_takes 7 = .ok (.ifCond .eq 7, 3) := by decide +kernel
theorem dX10_takes_10 : decode cX10_takes 10 = .ok (.aload_n 0, 1) := by decide +kernel
theorem dX10_takes_11 : decode cX10_takes 11 = .ok (.invokevirtual 154, 3) := by decide +kernel
theorem dX10_takes_14 : decode cX10_takes 14 = .ok (.iload_n 2, 1) := by decide +kernel
theorem dX10_takes_15 : decode cX10_takes 15 = .ok (.ireturn, 1) := by decide +kernel
theorem dX10_takes__0 : decode cX10_takes_ 0 = .ok (.aload_n 0, 1) := by decide +kernel
theorem dX10_takes__1 : decode cX10_takes_ 1 = .ok (.iload_n 1, 1) := by decide +kernel
theorem dX10_takes__2 : decode cX10_takes_ 2 = .ok (.iload_n 2, 1) := by decide +kernel
theorem dX10_takes__3 : decode cX10_takes_ 3 = .ok (.i2l, 1) := by decide +kernel
theorem dX10_takes__4 : decode cX10_takes_ 4 = .ok (.invokevirtual 290, 3) := by decide +kernel
theorem dX10_takes__7 : decode cX10_takes_ 7 = .ok (.ifCond .eq 12, 3) := by decide +kernel
theorem dX10_takes__10 : decode cX10_takes_ 10 = .ok (.aload_n 0, 1) := by decide +kernel
theorem dX10_takes__11 : decode cX10_takes_ 11 = .ok (.iload_n 1, 1) := by decide +kernel
theorem dX10_takes__12 : decode cX10_takes_ 12 = .ok (.iload_n 2, 1) := by decide +kernel
theorem dX10_takes__13 : decode cX10_takes_ 13 = .ok (.invokevirtual 256, 3) := by decide +kernel
theorem dX10_takes__16 : decode cX10_takes_ 16 = .ok (.goto 5, 3) := by decide +kernel
theorem dX10_takes__19 : decode cX10_takes_ 19 = .ok (.bipush (-2), 2) := by decide +kernel
theorem dX10_takes__21 : decode cX10_takes_ 21 = .ok (.ireturn, 1) := by decide +kernel
theorem dX10_teach_0 : decode cX10_teach 0 = .ok (.aload_n 0, 1) := by decide +kernel
theorem dX10_teach_1 : decode cX10_teach 1 = .ok (.iload_n 1, 1) := by decide +kernel
theorem dX10_teach_2 : decode cX10_teach 2 = .ok (.invokevirtual 269, 3) := by decide +kernel
theorem dX10_teach_5 : decode cX10_teach 5 = .ok (.ifCond .eq 12, 3) := by decide +kernel
theorem dX10_teach_8 : decode cX10_teach 8 = .ok (.aload_n 0, 1) := by decide +kernel
theorem dX10_teach_9 : decode cX10_teach 9 = .ok (.iload_n 2, 1) := by decide +kernel
theorem dX10_teach_10 : decode cX10_teach 10 = .ok (.i2l, 1) := by decide +kernel
theorem dX10_teach_11 : decode cX10_teach 11 = .ok (.invokevirtual 265, 3) := by decide +kernel
theorem dX10_teach_14 : decode cX10_teach 14 = .ok (.ifCond .ne 6, 3) := by decide +kernel
theorem dX10_teach_17 : decode cX10_teach 17 = .ok (.bipush (-2), 2) := by decide +kernel
theorem dX10_teach_19 : decode cX10_teach 19 = .ok (.ireturn, 1) := by decide +kernel
theorem dX10_teach_20 : decode cX10_teach 20 = .ok (.aload_n 0, 1) := by decide +kernel
theorem dX10_teach_21 : decode cX10_teach 21 = .ok (.invokevirtual 273, 3) := by decide +kernel
theorem dX10_teach_24 : decode cX10_teach 24 = .ok (.iconst 0, 1) := by decide +kernel
theorem dX10_teach_25 : decode cX10_teach 25 = .ok (.istore_n 3, 1) := by decide +kernel
theorem dX10_teach_26 : decode cX10_teach 26 = .ok (.iload_n 3, 1) := by decide +kernel
theorem dX10_teach_27 : decode cX10_teach 27 = .ok (.bipush 60, 2) := by decide +kernel
theorem dX10_teach_29 : decode cX10_teach 29 = .ok (.if_icmp .gt 47, 3) := by decide +kernel
theorem dX10_teach_32 : decode cX10_teach 32 = .ok (.aload_n 0, 1) := by decide +kernel
theorem dX10_teach_33 : decode cX10_teach 33 = .ok (.iload_n 1, 1) := by decide +kernel
theorem dX10_teach_34 : decode cX10_teach 34 = .ok (.aload_n 0, 1) := by decide +kernel
theorem dX10_teach_35 : decode cX10_teach 35 = .ok (.iload_n 2, 1) := by decide +kernel
theorem dX10_teach_36 : decode cX10_teach 36 = .ok (.iconst 0, 1) := by decide +kernel
theorem dX10_teach_37 : decode cX10_teach 37 = .ok (.invokevirtual 89, 3) := by decide +kernel
theorem dX10_teach_40 : decode cX10_teach 40 = .ok (.invokevirtual 358, 3) := by decide +kernel
theorem dX10_teach_43 : decode cX10_teach 43 = .ok (.iload_n 2, 1) := by decide +kernel
theorem dX10_teach_44 : decode cX10_teach 44 = .ok (.if_icmp .ne 20, 3) := by decide +kernel
theorem dX10_teach_47 : decode cX10_teach 47 = .ok (.aload_n 0, 1) := by decide +kernel
theorem dX10_teach_48 : decode cX10_teach 48 = .ok (.iload_n 1, 1) := by decide +kernel
theorem dX10_teach_49 : decode cX10_teach 49 = .ok (.aload_n 0, 1) := by decide +kernel
theorem dX10_teach_50 : decode cX10_teach 50 = .ok (.iload_n 2, 1) := by decide +kernel
theorem dX10_teach_51 : decode cX10_teach 51 = .ok (.iconst 1, 1) := by decide +kernel
theorem dX10_teach_52 : decode cX10_teach 52 = .ok (.invokevirtual 89, 3) := by decide +kernel
theorem dX10_teach_55 : decode cX10_teach 55 = .ok (.invokevirtual 358, 3) := by decide +kernel
theorem dX10_teach_58 : decode cX10_teach 58 = .ok (.iload_n 2, 1) := by decide +kernel
theorem dX10_teach_59 : decode cX10_teach 59 = .ok (.if_icmp .ne 5, 3) := by decide +kernel
theorem dX10_teach_62 : decode cX10_teach 62 = .ok (.iload_n 3, 1) := by decide +kernel
theorem dX10_teach_63 : decode cX10_teach 63 = .ok (.ireturn, 1) := by decide +kernel
theorem dX10_teach_64 : decode cX10_teach 64 = .ok (.aload_n 0, 1) := by decide +kernel
theorem dX10_teach_65 : decode cX10_teach 65 = .ok (.iload_n 1, 1) := by decide +kernel
theorem dX10_teach_66 : decode cX10_teach 66 = .ok (.iload_n 2, 1) := by decide +kernel
theorem dX10_teach_67 : decode cX10_teach 67 = .ok (.invokevirtual 259, 3) := by decide +kernel
theorem dX10_teach_70 : decode cX10_teach 70 = .ok (.iinc 3 1, 3) := by decide +kernel
theorem dX10_teach_73 : decode cX10_teach 73 = .ok (.goto (-47), 3) := by decide +kernel
theorem dX10_teach_76 : decode cX10_teach 76 = .ok (.iconst (-1), 1) := by decide +kernel
theorem dX10_teach_77 : decode cX10_teach 77 = .ok (.ireturn, 1) := by decide +kernel
theorem dX10_tell_0 : decode cX10_tell 0 = .ok (.aload_n 0, 1) := by decide +kernel
theorem dX10_tell_1 : decode cX10_tell 1 = .ok (.iload_n 1, 1) := by decide +kernel
theorem dX10_tell_2 : decode cX10_tell 2 = .ok (.invokevirtual 269, 3) := by decide +kernel
theorem dX10_tell_5 : decode cX10_tell 5 = .ok (.ifCond .eq 24, 3) := by decide +kernel
theorem dX10_tell_8 : decode cX10_tell 8 = .ok (.aload_n 0, 1) := by decide +kernel
theorem dX10_tell_9 : decode cX10_tell 9 = .ok (.iload_n 2, 1) := by decide +kernel
theorem dX10_tell_10 : decode cX10_tell 10 = .ok (.i2l, 1) := by decide +kernel
theorem dX10_tell_11 : decode cX10_tell 11 = .ok (.invokevirtual 265, 3) := by decide +kernel
theorem dX10_tell_14 : decode cX10_tell 14 = .ok (.ifCond .eq 15, 3) := by decide +kernel
theorem dX10_tell_17 : decode cX10_tell 17 = .ok (.iload_n 3, 1) := by decide +kernel
theorem dX10_tell_18 : decode cX10_tell 18 = .ok (.i2l, 1) := by decide +kernel
theorem dX10_tell_19 : decode cX10_tell 19 = .ok (.lconst 0, 1) := by decide +kernel
theorem dX10_tell_20 : decode cX10_tell 20 = .ok (.ldc2_w 432, 3) := by decide +kernel
theorem dX10_tell_23 : decode cX10_tell 23 = .ok (.invokestatic 85, 3) := by decide +kernel
theorem dX10_tell_26 : decode cX10_tell 26 = .ok (.ifCond .ne 6, 3) := by decide +kernel
theorem dX10_tell_29 : decode cX10_tell 29 = .ok (.bipush (-2), 2) := by decide +kernel
theorem dX10_tell_31 : decode cX10_tell 31 = .ok (.ireturn, 1) := by decide +kernel
theorem dX10_tell_32 : decode cX10_tell 32 = .ok (.aload_n 0, 1) := by decide +kernel
theorem dX10_tell_33 : decode cX10_tell 33 = .ok (.getfield 9, 3) := by decide +kernel
theorem dX10_tell_36 : decode cX10_tell 36 = .ok (.bipush 7, 2) := by decide +kernel
theorem dX10_tell_38 : decode cX10_tell 38 = .ok (.iaload, 1) := by decide +kernel
theorem dX10_tell_39 : decode cX10_tell 39 = .ok (.ifCond .le 6, 3) := by decide +kernel
theorem dX10_tell_42 : decode cX10_tell 42 = .ok (.bipush (-5), 2) := by decide +kernel
theorem dX10_tell_44 : decode cX10_tell 44 = .ok (.ireturn, 1) := by decide +kernel
theorem dX10_tell_45 : decode cX10_tell 45 = .ok (.bipush 32, 2) := by decide +kernel
theorem dX10_tell_47 : decode cX10_tell 47 = .ok (.bipush 9, 2) := by decide +kernel
theorem dX10_tell_49 : decode cX10_tell 49 = .ok (.iload_n 1, 1) := by decide +kernel
theorem dX10_tell_50 : decode cX10_tell 50 = .ok (.imul, 1) := by decide +kernel
theorem dX10_tell_51 : decode cX10_tell 51 = .ok (.iadd, 1) := by decide +kernel
theorem dX10_tell_52 : decode cX10_tell 52 = .ok (.iconst 1, 1) := by decide +kernel
theorem dX10_tell_53 : decode cX10_tell 53 = .ok (.iadd, 1) := by decide +kernel
theorem dX10_tell_54 : decode cX10_tell 54 = .ok (.iload_n 2, 1) := by decide +kernel
theorem dX10_tell_55 : decode cX10_tell 55 = .ok (.iadd, 1) := by decide +kernel
theorem dX10_tell_56 : decode cX10_tell 56 = .ok (.istore 4, 2) := by decide +kernel
theorem dX10_tell_58 : decode cX10_tell 58 = .ok (.aload_n 0, 1) := by decide +kernel
theorem dX10_tell_59 : decode cX10_tell 59 = .ok (.getfield 9, 3) := by decide +kernel
theorem dX10_tell_62 : decode cX10_tell 62 = .ok (.iload 4, 2) := by decide +kernel
theorem dX10_tell_64 : decode cX10_tell 64 = .ok (.iaload, 1) := by decide +kernel
theorem dX10_tell_65 : decode cX10_tell 65 = .ok (.istore 5, 2) := by decide +kernel
theorem dX10_tell_67 : decode cX10_tell 67 = .ok (.aload_n 0, 1) := by decide +kernel
theorem dX10_tell_68 : decode cX10_tell 68 = .ok (.getfield 9, 3) := by decide +kernel
theorem dX10_tell_71 : decode cX10_tell 71 = .ok (.iload 4, 2) := by decide +kernel
theorem dX10_tell_73 : decode cX10_tell 73 = .ok (.iload_n 3, 1) := by decide +kernel
theorem dX10_tell_74 : decode cX10_tell 74 = .ok (.iastore, 1) := by decide +kernel
theorem dX10_tell_75 : decode cX10_tell 75 = .ok (.iload 5, 2) := by decide +kernel
theorem dX10_tell_77 : decode cX10_tell 77 = .ok (.ireturn, 1) := by decide +kernel
theorem dX10_told_0 : decode cX10_told 0 = .ok (.aload_n 0, 1) := by decide +kernel
theorem dX10_told_1 : decode cX10_told 1 = .ok (.aload_n 1, 1) := by decide +kernel
theorem dX10_told_2 : decode cX10_told 2 = .ok (.invokevirtual 164, 3) := by decide +kernel
theorem dX10_told_5 : decode cX10_told 5 = .ok (.aload_n 0, 1) := by decide +kernel
theorem dX10_told_6 : decode cX10_told 6 = .ok (.iload_n 2, 1) := by decide +kernel
theorem dX10_told_7 : decode cX10_told 7 = .ok (.iload_n 3, 1) := by decide +kernel
theorem dX10_told_8 : decode cX10_told 8 = .ok (.invokevirtual 168, 3) := by decide +kernel
theorem dX10_told_11 : decode cX10_told 11 = .ok (.ireturn, 1) := by decide +kernel
theorem dX10_turnBy_0 : decode cX10_turnBy 0 = .ok (.iconst (-1), 1) := by decide +kernel
theorem dX10_turnBy_1 : decode cX10_turnBy 1 = .ok (.istore 5, 2) := by decide +kernel
theorem dX10_turnBy_3 : decode cX10_turnBy 3 = .ok (.iconst (-1), 1) := by decide +kernel
theorem dX10_turnBy_4 : decode cX10_turnBy 4 = .ok (.istore 6, 2) := by decide +kernel
theorem dX10_turnBy_6 : decode cX10_turnBy 6 = .ok (.iconst 0, 1) := by decide +kernel
theorem dX10_turnBy_7 : decode cX10_turnBy 7 = .ok (.istore 7, 2) := by decide +kernel
theorem dX10_turnBy_9 : decode cX10_turnBy 9 = .ok (.iload 7, 2) := by decide +kernel
theorem dX10_turnBy_11 : decode cX10_turnBy 11 = .ok (.aload_n 0, 1) := by decide +kernel
theorem dX10_turnBy_12 : decode cX10_turnBy 12 = .ok (.getfield 9, 3) := by decide +kernel
theorem dX10_turnBy_15 : decode cX10_turnBy 15 = .ok (.iconst 2, 1) := by decide +kernel
theorem dX10_turnBy_16 : decode cX10_turnBy 16 = .ok (.iaload, 1) := by decide +kernel
theorem dX10_turnBy_17 : decode cX10_turnBy 17 = .ok (.if_icmp .ge 75, 3) := by decide +kernel
theorem dX10_turnBy_20 : decode cX10_turnBy 20 = .ok (.aload_n 0, 1) := by decide +kernel
theorem dX10_turnBy_21 : decode cX10_turnBy 21 = .ok (.iload 7, 2) := by decide +kernel
theorem dX10_turnBy_23 : decode cX10_turnBy 23 = .ok (.iload_n 2, 1) := by decide +kernel
theorem dX10_turnBy_24 : decode cX10_turnBy 24 = .ok (.invokevirtual 93, 3) := by decide +kernel
theorem dX10_turnBy_27 : decode cX10_turnBy 27 = .ok (.ifCond .ne 6, 3) := by decide +kernel
theorem dX10_turnBy_30 : decode cX10_turnBy 30 = .ok (.goto 56, 3) := by decide +kernel
theorem dX10_turnBy_33 : decode cX10_turnBy 33 = .ok (.aload_n 0, 1) := by decide +kernel
theorem dX10_turnBy_34 : decode cX10_turnBy 34 = .ok (.iload_n 1, 1) := by decide +kernel
theorem dX10_turnBy_35 : decode cX10_turnBy 35 = .ok (.iload 7, 2) := by decide +kernel
theorem dX10_turnBy_37 : decode cX10_turnBy 37 = .ok (.invokevirtual 243, 3) := by decide +kernel
theorem dX10_turnBy_40 : decode cX10_turnBy 40 = .ok (.iload 7, 2) := by decide +kernel
theorem dX10_turnBy_42 : decode cX10_turnBy 42 = .ok (.iload_n 3, 1) := by decide +kernel
theorem dX10_turnBy_43 : decode cX10_turnBy 43 = .ok (.if_icmp .ne 8, 3) := by decide +kernel
theorem dX10_turnBy_46 : decode cX10_turnBy 46 = .ok (.iload 4, 2) := by decide +kernel
theorem dX10_turnBy_48 : decode cX10_turnBy 48 = .ok (.goto 4, 3) := by decide +kernel
theorem dX10_turnBy_51 : decode cX10_turnBy 51 = .ok (.iconst 0, 1) := by decide +kernel
theorem dX10_turnBy_52 : decode cX10_turnBy 52 = .ok (.iadd, 1) := by decide +kernel
theorem dX10_turnBy_53 : decode cX10_turnBy 53 = .ok (.istore 8, 2) := by decide +kernel
theorem dX10_turnBy_55 : decode cX10_turnBy 55 = .ok (.iload 8, 2) := by decide +kernel
theorem dX10_turnBy_57 : decode cX10_turnBy 57 = .ok (.iload 6, 2) := by decide +kernel
theorem dX10_turnBy_59 : decode cX10_turnBy 59 = .ok (.if_icmp .lt 27, 3) := by decide +kernel
theorem dX10_turnBy_62 : decode cX10_turnBy 62 = .ok (.iload 8, 2) := by decide +kernel
theorem dX10_turnBy_64 : decode cX10_turnBy 64 = .ok (.iload 6, 2) := by decide +kernel
theorem dX10_turnBy_66 : decode cX10_turnBy 66 = .ok (.if_icmp .ne 12, 3) := by decide +kernel
theorem dX10_turnBy_69 : decode cX10_turnBy 69 = .ok (.iload 7, 2) := by decide +kernel
theorem dX10_turnBy_71 : decode cX10_turnBy 71 = .ok (.iload_n 3, 1) := by decide +kernel
theorem dX10_turnBy_72 : decode cX10_turnBy 72 = .ok (.if_icmp .eq 6, 3) := by decide +kernel
theorem dX10_turnBy_75 : decode cX10_turnBy 75 = .ok (.goto 11, 3) := by decide +kernel
theorem dX10_turnBy_78 : decode cX10_turnBy 78 = .ok (.iload 8, 2) := by decide +kernel
theorem dX10_turnBy_80 : decode cX10_turnBy 80 = .ok (.istore 6, 2) := by decide +kernel
theorem dX10_turnBy_82 : decode cX10_turnBy 82 = .ok (.iload 7, 2) := by decide +kernel
theorem dX10_turnBy_84 : decode cX10_turnBy 84 = .ok (.istore 5, 2) := by decide +kernel
theorem dX10_turnBy_86 : decode cX10_turnBy 86 = .ok (.iinc 7 1, 3) := by decide +kernel
theorem dX10_turnBy_89 : decode cX10_turnBy 89 = .ok (.goto (-80), 3) := by decide +kernel
theorem dX10_turnBy_92 : decode cX10_turnBy 92 = .ok (.iload 5, 2) := by decide +kernel
theorem dX10_turnBy_94 : decode cX10_turnBy 94 = .ok (.ireturn, 1) := by decide +kernel
theorem dX10_turnOf_0 : decode cX10_turnOf 0 = .ok (.aload_n 0, 1) := by decide +kernel
theorem dX10_turnOf_1 : decode cX10_turnOf 1 = .ok (.aload_n 0, 1) := by decide +kernel
theorem dX10_turnOf_2 : decode cX10_turnOf 2 = .ok (.iload_n 1, 1) := by decide +kernel
theorem dX10_turnOf_3 : decode cX10_turnOf 3 = .ok (.invokevirtual 246, 3) := by decide +kernel
theorem dX10_turnOf_6 : decode cX10_turnOf 6 = .ok (.aload_n 0, 1) := by decide +kernel
theorem dX10_turnOf_7 : decode cX10_turnOf 7 = .ok (.getfield 43, 3) := by decide +kernel
theorem dX10_turnOf_10 : decode cX10_turnOf 10 = .ok (.iload_n 1, 1) := by decide +kernel
theorem dX10_turnOf_11 : decode cX10_turnOf 11 = .ok (.iaload, 1) := by decide +kernel
theorem dX10_turnOf_12 : decode cX10_turnOf 12 = .ok (.iload_n 2, 1) := by decide +kernel
theorem dX10_turnOf_13 : decode cX10_turnOf 13 = .ok (.aload_n 0, 1) := by decide +kernel
theorem dX10_turnOf_14 : decode cX10_turnOf 14 = .ok (.getfield 9, 3) := by decide +kernel
theorem dX10_turnOf_17 : decode cX10_turnOf 17 = .ok (.iconst 1, 1) := by decide +kernel
theorem dX10_turnOf_18 : decode cX10_turnOf 18 = .ok (.iaload, 1) := by decide +kernel
theorem dX10_turnOf_19 : decode cX10_turnOf 19 = .ok (.invokevirtual 249, 3) := by decide +kernel
theorem dX10_turnOf_22 : decode cX10_turnOf 22 = .ok (.ireturn, 1) := by decide +kernel
theorem dX10_undo_0 : decode cX10_undo 0 = .ok (.aload_n 0, 1) := by decide +kernel
theorem dX10_undo_1 : decode cX10_undo 1 = .ok (.invokevirtual 297, 3) := by decide +kernel
theorem dX10_undo_4 : decode cX10_undo 4 = .ok (.ifCond .ne 6, 3) := by decide +kernel
theorem dX10_undo_7 : decode cX10_undo 7 = .ok (.bipush (-2), 2) := by decide +kernel
theorem dX10_undo_9 : decode cX10_undo 9 = .ok (.ireturn, 1) := by decide +kernel
theorem dX10_undo_10 : decode cX10_undo 10 = .ok (.aload_n 0, 1) := by decide +kernel
theorem dX10_undo_11 : decode cX10_undo 11 = .ok (.getfield 9, 3) := by decide +kernel
theorem dX10_undo_14 : decode cX10_undo 14 = .ok (.bipush 7, 2) := by decide +kernel
theorem dX10_undo_16 : decode cX10_undo 16 = .ok (.iaload, 1) := by decide +kernel
theorem dX10_undo_17 : decode cX10_undo 17 = .ok (.ifCond .ne 6, 3) := by decide +kernel
theorem dX10_undo_20 : decode cX10_undo 20 = .ok (.bipush (-5), 2) := by decide +kernel
theorem dX10_undo_22 : decode cX10_undo 22 = .ok (.ireturn, 1) := by decide +kernel
theorem dX10_undo_23 : decode cX10_undo 23 = .ok (.aload_n 0, 1) := by decide +kernel
theorem dX10_undo_24 : decode cX10_undo 24 = .ok (.getfield 9, 3) := by decide +kernel
theorem dX10_undo_27 : decode cX10_undo 27 = .ok (.bipush 7, 2) := by decide +kernel
theorem dX10_undo_29 : decode cX10_undo 29 = .ok (.dup2, 1) := by decide +kernel
theorem dX10_undo_30 : decode cX10_undo 30 = .ok (.iaload, 1) := by decide +kernel
theorem dX10_undo_31 : decode cX10_undo 31 = .ok (.iconst 1, 1) := by decide +kernel
theorem dX10_undo_32 : decode cX10_undo 32 = .ok (.isub, 1) := by decide +kernel
theorem dX10_undo_33 : decode cX10_undo 33 = .ok (.iastore, 1) := by decide +kernel
theorem dX10_undo_34 : decode cX10_undo 34 = .ok (.aload_n 0, 1) := by decide +kernel
theorem dX10_undo_35 : decode cX10_undo 35 = .ok (.getfield 9, 3) := by decide +kernel
theorem dX10_undo_38 : decode cX10_undo 38 = .ok (.bipush 7, 2) := by decide +kernel
theorem dX10_undo_40 : decode cX10_undo 40 = .ok (.iaload, 1) := by decide +kernel
theorem dX10_undo_41 : decode cX10_undo 41 = .ok (.ireturn, 1) := by decide +kernel
theorem dX10_votes_0 : decode cX10_votes 0 = .ok (.aload_n 0, 1) := by decide +kernel
theorem dX10_votes_1 : decode cX10_votes 1 = .ok (.iload_n 1, 1) := by decide +kernel
theorem dX10_votes_2 : decode cX10_votes 2 = .ok (.i2l, 1) := by decide +kernel
theorem dX10_votes_3 : decode cX10_votes 3 = .ok (.invokevirtual 282, 3) := by decide +kernel
theorem dX10_votes_6 : decode cX10_votes 6 = .ok (.ifCond .eq 21, 3) := by decide +kernel
theorem dX10_votes_9 : decode cX10_votes 9 = .ok (.aload_n 0, 1) := by decide +kernel
theorem dX10_votes_10 : decode cX10_votes 10 = .ok (.iload_n 2, 1) := by decide +kernel
theorem dX10_votes_11 : decode cX10_votes 11 = .ok (.i2l, 1) := by decide +kernel
theorem dX10_votes_12 : decode cX10_votes 12 = .ok (.invokevirtual 265, 3) := by decide +kernel
theorem dX10_votes_15 : decode cX10_votes 15 = .ok (.ifCond .eq 12, 3) := by decide +kernel
theorem dX10_votes_18 : decode cX10_votes 18 = .ok (.aload_n 0, 1) := by decide +kernel
theorem dX10_votes_19 : decode cX10_votes 19 = .ok (.iload_n 2, 1) := by decide +kernel
theorem dX10_votes_20 : decode cX10_votes 20 = .ok (.iload_n 1, 1) := by decide +kernel
theorem dX10_votes_21 : decode cX10_votes 21 = .ok (.invokevirtual 93, 3) := by decide +kernel
theorem dX10_votes_24 : decode cX10_votes 24 = .ok (.ifCond .ne 6, 3) := by decide +kernel
theorem dX10_votes_27 : decode cX10_votes 27 = .ok (.bipush (-2), 2) := by decide +kernel
theorem dX10_votes_29 : decode cX10_votes 29 = .ok (.ireturn, 1) := by decide +kernel
theorem dX10_votes_30 : decode cX10_votes 30 = .ok (.aload_n 0, 1) := by decide +kernel
theorem dX10_votes_31 : decode cX10_votes 31 = .ok (.invokevirtual 273, 3) := by decide +kernel
theorem dX10_votes_34 : decode cX10_votes 34 = .ok (.iconst 0, 1) := by decide +kernel
theorem dX10_votes_35 : decode cX10_votes 35 = .ok (.istore_n 3, 1) := by decide +kernel
theorem dX10_votes_36 : decode cX10_votes 36 = .ok (.iconst 0, 1) := by decide +kernel
theorem dX10_votes_37 : decode cX10_votes 37 = .ok (.istore 4, 2) := by decide +kernel
theorem dX10_votes_39 : decode cX10_votes 39 = .ok (.iload 4, 2) := by decide +kernel
theorem dX10_votes_41 : decode cX10_votes 41 = .ok (.aload_n 0, 1) := by decide +kernel
theorem dX10_votes_42 : decode cX10_votes 42 = .ok (.getfield 9, 3) := by decide +kernel
theorem dX10_votes_45 : decode cX10_votes 45 = .ok (.iconst 3, 1) := by decide +kernel
theorem dX10_votes_46 : decode cX10_votes 46 = .ok (.iaload, 1) := by decide +kernel
theorem dX10_votes_47 : decode cX10_votes 47 = .ok (.if_icmp .ge 31, 3) := by decide +kernel
theorem dX10_votes_50 : decode cX10_votes 50 = .ok (.iload_n 3, 1) := by decide +kernel
theorem dX10_votes_51 : decode cX10_votes 51 = .ok (.aload_n 0, 1) := by decide +kernel
theorem dX10_votes_52 : decode cX10_votes 52 = .ok (.iload 4, 2) := by decide +kernel
theorem dX10_votes_54 : decode cX10_votes 54 = .ok (.iload_n 1, 1) := by decide +kernel
theorem dX10_votes_55 : decode cX10_votes 55 = .ok (.invokevirtual 358, 3) := by decide +kernel
theorem dX10_votes_58 : decode cX10_votes 58 = .ok (.iload_n 2, 1) := by decide +kernel
theorem dX10_votes_59 : decode cX10_votes 59 = .ok (.if_icmp .ne 10, 3) := by decide +kernel
theorem dX10_votes_62 : decode cX10_votes 62 = .ok (.iconst 1, 1) := by decide +kernel
theorem dX10_votes_63 : decode cX10_votes 63 = .ok (.iload 4, 2) := by decide +kernel
theorem dX10_votes_65 : decode cX10_votes 65 = .ok (.ishl, 1) := by decide +kernel
theorem dX10_votes_66 : decode cX10_votes 66 = .ok (.goto 4, 3) := by decide +kernel
theorem dX10_votes_69 : decode cX10_votes 69 = .ok (.iconst 0, 1) := by decide +kernel
theorem dX10_votes_70 : decode cX10_votes 70 = .ok (.ior, 1) := by decide +kernel
theorem dX10_votes_71 : decode cX10_votes 71 = .ok (.istore_n 3, 1) := by decide +kernel
theorem dX10_votes_72 : decode cX10_votes 72 = .ok (.iinc 4 1, 3) := by decide +kernel
theorem dX10_votes_75 : decode cX10_votes 75 = .ok (.goto (-36), 3) := by decide +kernel
theorem dX10_votes_78 : decode cX10_votes 78 = .ok (.iload_n 3, 1) := by decide +kernel
theorem dX10_votes_79 : decode cX10_votes 79 = .ok (.ireturn, 1) := by decide +kernel
theorem dX10_wants_0 : decode cX10_wants 0 = .ok (.aload_n 0, 1) := by decide +kernel
theorem dX10_wants_1 : decode cX10_wants 1 = .ok (.iload_n 1, 1) := by decide +kernel
theorem dX10_wants_2 : decode cX10_wants 2 = .ok (.invokevirtual 279, 3) := by decide +kernel
theorem dX10_wants_5 : decode cX10_wants 5 = .ok (.ifCond .eq 12, 3) := by decide +kernel
theorem dX10_wants_8 : decode cX10_wants 8 = .ok (.aload_n 0, 1) := by decide +kernel
theorem dX10_wants_9 : decode cX10_wants 9 = .ok (.iload_n 2, 1) := by decide +kernel
theorem dX10_wants_10 : decode cX10_wants 10 = .ok (.i2l, 1) := by decide +kernel
theorem dX10_wants_11 : decode cX10_wants 11 = .ok (.invokevirtual 282, 3) := by decide +kernel
theorem dX10_wants_14 : decode cX10_wants 14 = .ok (.ifCond .ne 6, 3) := by decide +kernel
theorem dX10_wants_17 : decode cX10_wants 17 = .ok (.bipush (-2), 2) := by decide +kernel
theorem dX10_wants_19 : decode cX10_wants 19 = .ok (.ireturn, 1) := by decide +kernel
theorem dX10_wants_20 : decode cX10_wants 20 = .ok (.aload_n 0, 1) := by decide +kernel
theorem dX10_wants_21 : decode cX10_wants 21 = .ok (.invokevirtual 273, 3) := by decide +kernel
theorem dX10_wants_24 : decode cX10_wants 24 = .ok (.aload_n 0, 1) := by decide +kernel
theorem dX10_wants_25 : decode cX10_wants 25 = .ok (.iload_n 1, 1) := by decide +kernel
theorem dX10_wants_26 : decode cX10_wants 26 = .ok (.iload_n 2, 1) := by decide +kernel
theorem dX10_wants_27 : decode cX10_wants 27 = .ok (.invokevirtual 338, 3) := by decide +kernel
theorem dX10_wants_30 : decode cX10_wants 30 = .ok (.pop, 1) := by decide +kernel
theorem dX10_wants_31 : decode cX10_wants 31 = .ok (.iload_n 3, 1) := by decide +kernel
theorem dX10_wants_32 : decode cX10_wants 32 = .ok (.i2l, 1) := by decide +kernel
theorem dX10_wants_33 : decode cX10_wants 33 = .ok (.lconst 0, 1) := by decide +kernel
theorem dX10_wants_34 : decode cX10_wants 34 = .ok (.aload_n 0, 1) := by decide +kernel
theorem dX10_wants_35 : decode cX10_wants 35 = .ok (.getfield 328, 3) := by decide +kernel
theorem dX10_wants_38 : decode cX10_wants 38 = .ok (.iconst 1, 1) := by decide +kernel
theorem dX10_wants_39 : decode cX10_wants 39 = .ok (.isub, 1) := by decide +kernel
theorem dX10_wants_40 : decode cX10_wants 40 = .ok (.i2l, 1) := by decide +kernel
theorem dX10_wants_41 : decode cX10_wants 41 = .ok (.invokestatic 85, 3) := by decide +kernel
theorem dX10_wants_44 : decode cX10_wants 44 = .ok (.ifCond .eq 12, 3) := by decide +kernel
theorem dX10_wants_47 : decode cX10_wants 47 = .ok (.aload_n 0, 1) := by decide +kernel
theorem dX10_wants_48 : decode cX10_wants 48 = .ok (.getfield 55, 3) := by decide +kernel
theorem dX10_wants_51 : decode cX10_wants 51 = .ok (.iload_n 3, 1) := by decide +kernel
theorem dX10_wants_52 : decode cX10_wants 52 = .ok (.iaload, 1) := by decide +kernel
theorem dX10_wants_53 : decode cX10_wants 53 = .ok (.goto 4, 3) := by decide +kernel
theorem dX10_wants_56 : decode cX10_wants 56 = .ok (.iconst (-1), 1) := by decide +kernel
theorem dX10_wants_57 : decode cX10_wants 57 = .ok (.ireturn, 1) := by decide +kernel
theorem dX10_way_0 : decode cX10_way 0 = .ok (.aload_n 0, 1) := by decide +kernel
theorem dX10_way_1 : decode cX10_way 1 = .ok (.iload_n 1, 1) := by decide +kernel
theorem dX10_way_2 : decode cX10_way 2 = .ok (.invokevirtual 279, 3) := by decide +kernel
theorem dX10_way_5 : decode cX10_way 5 = .ok (.ifCond .eq 12, 3) := by decide +kernel
theorem dX10_way_8 : decode cX10_way 8 = .ok (.aload_n 0, 1) := by decide +kernel
theorem dX10_way_9 : decode cX10_way 9 = .ok (.iload_n 2, 1) := by decide +kernel
theorem dX10_way_10 : decode cX10_way 10 = .ok (.i2l, 1) := by decide +kernel
theorem dX10_way_11 : decode cX10_way 11 = .ok (.invokevirtual 282, 3) := by decide +kernel
theorem dX10_way_14 : decode cX10_way 14 = .ok (.ifCond .ne 6, 3) := by decide +kernel
theorem dX10_way_17 : decode cX10_way 17 = .ok (.bipush (-2), 2) := by decide +kernel
theorem dX10_way_19 : decode cX10_way 19 = .ok (.ireturn, 1) := by decide +kernel
theorem dX10_way_20 : decode cX10_way 20 = .ok (.aload_n 0, 1) := by decide +kernel
theorem dX10_way_21 : decode cX10_way 21 = .ok (.invokevirtual 273, 3) := by decide +kernel
theorem dX10_way_24 : decode cX10_way 24 = .ok (.aload_n 0, 1) := by decide +kernel
theorem dX10_way_25 : decode cX10_way 25 = .ok (.iload_n 1, 1) := by decide +kernel
theorem dX10_way_26 : decode cX10_way 26 = .ok (.iload_n 2, 1) := by decide +kernel
theorem dX10_way_27 : decode cX10_way 27 = .ok (.invokevirtual 338, 3) := by decide +kernel
theorem dX10_way_30 : decode cX10_way 30 = .ok (.istore_n 3, 1) := by decide +kernel
theorem dX10_way_31 : decode cX10_way 31 = .ok (.iload_n 3, 1) := by decide +kernel
theorem dX10_way_32 : decode cX10_way 32 = .ok (.ldc_w 331, 3) := by decide +kernel
theorem dX10_way_35 : decode cX10_way 35 = .ok (.if_icmp .ne 7, 3) := by decide +kernel
theorem dX10_way_38 : decode cX10_way 38 = .ok (.iconst (-1), 1) := by decide +kernel
theorem dX10_way_39 : decode cX10_way 39 = .ok (.goto 4, 3) := by decide +kernel
theorem dX10_way_42 : decode cX10_way 42 = .ok (.iload_n 3, 1) := by decide +kernel
theorem dX10_way_43 : decode cX10_way 43 = .ok (.ireturn, 1) := by decide +kernel
theorem dX10_wayOf_0 : decode cX10_wayOf 0 = .ok (.aload_n 0, 1) := by decide +kernel
theorem dX10_wayOf_1 : decode cX10_wayOf 1 = .ok (.getfield 46, 3) := by decide +kernel
theorem dX10_wayOf_4 : decode cX10_wayOf 4 = .ok (.iload_n 1, 1) := by decide +kernel
theorem dX10_wayOf_5 : decode cX10_wayOf 5 = .ok (.iconst 0, 1) := by decide +kernel
theorem dX10_wayOf_6 : decode cX10_wayOf 6 = .ok (.iastore, 1) := by decide +kernel
theorem dX10_wayOf_7 : decode cX10_wayOf 7 = .ok (.aload_n 0, 1) := by decide +kernel
theorem dX10_wayOf_8 : decode cX10_wayOf 8 = .ok (.iconst 0, 1) := by decide +kernel
theorem dX10_wayOf_9 : decode cX10_wayOf 9 = .ok (.putfield 325, 3) := by decide +kernel
theorem dX10_wayOf_12 : decode cX10_wayOf 12 = .ok (.aload_n 0, 1) := by decide +kernel
theorem dX10_wayOf_13 : decode cX10_wayOf 13 = .ok (.iconst (-1), 1) := by decide +kernel
theorem dX10_wayOf_14 : decode cX10_wayOf 14 = .ok (.putfield 328, 3) := by decide +kernel
theorem dX10_wayOf_17 : decode cX10_wayOf 17 = .ok (.ldc_w 331, 3) := by decide +kernel
theorem dX10_wayOf_20 : decode cX10_wayOf 20 = .ok (.istore_n 3, 1) := by decide +kernel
theorem dX10_wayOf_21 : decode cX10_wayOf 21 = .ok (.iconst 0, 1) := by decide +kernel
theorem dX10_wayOf_22 : decode cX10_wayOf 22 = .ok (.istore 4, 2) := by decide +kernel
theorem dX10_wayOf_24 : decode cX10_wayOf 24 = .ok (.aload_n 0, 1) := by decide +kernel
theorem dX10_wayOf_25 : decode cX10_wayOf 25 = .ok (.iconst 0, 1) := by decide +kernel
theorem dX10_wayOf_26 : decode cX10_wayOf 26 = .ok (.iload_n 1, 1) := by decide +kernel
theorem dX10_wayOf_27 : decode cX10_wayOf 27 = .ok (.invokevirtual 332, 3) := by decide +kernel
theorem dX10_wayOf_30 : decode cX10_wayOf 30 = .ok (.aload_n 0, 1) := by decide +kernel
theorem dX10_wayOf_31 : decode cX10_wayOf 31 = .ok (.getfield 52, 3) := by decide +kernel
theorem dX10_wayOf_34 : decode cX10_wayOf 34 = .ok (.iconst 0, 1) := by decide +kernel
theorem dX10_wayOf_35 : decode cX10_wayOf 35 = .ok (.iconst (-1), 1) := by decide +kernel
theorem dX10_wayOf_36 : decode cX10_wayOf 36 = .ok (.iastore, 1) := by decide +kernel
theorem dX10_wayOf_37 : decode cX10_wayOf 37 = .ok (.iload 4, 2) := by decide +kernel
theorem dX10_wayOf_39 : decode cX10_wayOf 39 = .ok (.ifCond .lt 216, 3) := by decide +kernel
theorem dX10_wayOf_42 : decode cX10_wayOf 42 = .ok (.aload_n 0, 1) := by decide +kernel
theorem dX10_wayOf_43 : decode cX10_wayOf 43 = .ok (.iload 4, 2) := by decide +kernel
theorem dX10_wayOf_45 : decode cX10_wayOf 45 = .ok (.iload_n 1, 1) := by decide +kernel
theorem dX10_wayOf_46 : decode cX10_wayOf 46 = .ok (.invokevirtual 335, 3) := by decide +kernel
theorem dX10_wayOf_49 : decode cX10_wayOf 49 = .ok (.aload_n 0, 1) := by decide +kernel
theorem dX10_wayOf_50 : decode cX10_wayOf 50 = .ok (.getfield 52, 3) := by decide +kernel
theorem dX10_wayOf_53 : decode cX10_wayOf 53 = .ok (.iload 4, 2) := by decide +kernel
theorem dX10_wayOf_55 : decode cX10_wayOf 55 = .ok (.iaload, 1) := by decide +kernel
theorem dX10_wayOf_56 : decode cX10_wayOf 56 = .ok (.iconst (-1), 1) := by decide +kernel
theorem dX10_wayOf_57 : decode cX10_wayOf 57 = .ok (.if_icmp .ne 102, 3) := by decide +kernel
theorem dX10_wayOf_60 : decode cX10_wayOf 60 = .ok (.aload_n 0, 1) := by decide +kernel
theorem dX10_wayOf_61 : decode cX10_wayOf 61 = .ok (.dup, 1) := by decide +kernel
theorem dX10_wayOf_62 : decode cX10_wayOf 62 = .ok (.getfield 325, 3) := by decide +kernel
theorem dX10_wayOf_65 : decode cX10_wayOf 65 = .ok (.iconst 1, 1) := by decide +kernel
theorem dX10_wayOf_66 : decode cX10_wayOf 66 = .ok (.aload_n 0, 1) := by decide +kernel
theorem dX10_wayOf_67 : decode cX10_wayOf 67 = .ok (.getfield 43, 3) := by decide +kernel
theorem dX10_wayOf_70 : decode cX10_wayOf 70 = .ok (.iload_n 1, 1) := by decide +kernel
theorem dX10_wayOf_71 : decode cX10_wayOf 71 = .ok (.iaload, 1) := by decide +kernel
theorem dX10_wayOf_72 : decode cX10_wayOf 72 = .ok (.ishl, 1) := by decide +kernel
theorem dX10_wayOf_73 : decode cX10_wayOf 73 = .ok (.ior, 1) := by decide +kernel
theorem dX10_wayOf_74 : decode cX10_wayOf 74 = .ok (.putfield 325, 3) := by decide +kernel
theorem dX10_wayOf_77 : decode cX10_wayOf 77 = .ok (.aload_n 0, 1) := by decide +kernel
theorem dX10_wayOf_78 : decode cX10_wayOf 78 = .ok (.getfield 43, 3) := by decide +kernel
theorem dX10_wayOf_81 : decode cX10_wayOf 81 = .ok (.iload_n 1, 1) := by decide +kernel
theorem dX10_wayOf_82 : decode cX10_wayOf 82 = .ok (.iaload, 1) := by decide +kernel
theorem dX10_wayOf_83 : decode cX10_wayOf 83 = .ok (.iload_n 2, 1) := by decide +kernel
theorem dX10_wayOf_84 : decode cX10_wayOf 84 = .ok (.if_icmp .ne 75, 3) := by decide +kernel
theorem dX10_wayOf_87 : decode cX10_wayOf 87 = .ok (.aload_n 0, 1) := by decide +kernel
theorem dX10_wayOf_88 : decode cX10_wayOf 88 = .ok (.getfield 46, 3) := by decide +kernel
theorem dX10_wayOf_91 : decode cX10_wayOf 91 = .ok (.iload_n 1, 1) := by decide +kernel
theorem dX10_wayOf_92 : decode cX10_wayOf 92 = .ok (.iaload, 1) := by decide +kernel
theorem dX10_wayOf_93 : decode cX10_wayOf 93 = .ok (.iload_n 3, 1) := by decide +kernel
theorem dX10_wayOf_94 : decode cX10_wayOf 94 = .ok (.if_icmp .lt 22, 3) := by decide +kernel
theorem dX10_wayOf_97 : decode cX10_wayOf 97 = .ok (.aload_n 0, 1) := by decide +kernel
theorem dX10_wayOf_98 : decode cX10_wayOf 98 = .ok (.getfield 46, 3) := by decide +kernel
theorem dX10_wayOf_101 : decode cX10_wayOf 101 = .ok (.iload_n 1, 1) := by decide +kernel
theorem dX10_wayOf_102 : decode cX10_wayOf 102 = .ok (.iaload, 1) := by decide +kernel
theorem dX10_wayOf_103 : decode cX10_wayOf 103 = .ok (.iload_n 3, 1) := by decide +kernel
theorem dX10_wayOf_104 : decode cX10_wayOf 104 = .ok (.if_icmp .ne 55, 3) := by decide +kernel
theorem dX10_wayOf_107 : decode cX10_wayOf 107 = .ok (.iload 4, 2) := by decide +kernel
theorem dX10_wayOf_109 : decode cX10_wayOf 109 = .ok (.aload_n 0, 1) := by decide +kernel
theorem dX10_wayOf_110 : decode cX10_wayOf 110 = .ok (.getfield 328, 3) := by decide +kernel
theorem dX10_wayOf_113 : decode cX10_wayOf 113 = .ok (.if_icmp .ge 46, 3) := by decide +kernel
theorem dX10_wayOf_116 : decode cX10_wayOf 116 = .ok (.aload_n 0, 1) := by decide +kernel
theorem dX10_wayOf_117 : decode cX10_wayOf 117 = .ok (.getfield 46, 3) := by decide +kernel
theorem dX10_wayOf_120 : decode cX10_wayOf 120 = .ok (.iload_n 1, 1) := by decide +kernel
theorem dX10_wayOf_121 : decode cX10_wayOf 121 = .ok (.iaload, 1) := by decide +kernel
theorem dX10_wayOf_122 : decode cX10_wayOf 122 = .ok (.istore_n 3, 1) := by decide +kernel
theorem dX10_wayOf_123 : decode cX10_wayOf 123 = .ok (.aload_n 0, 1) := by decide +kernel
theorem dX10_wayOf_124 : decode cX10_wayOf 124 = .ok (.iload 4, 2) := by decide +kernel
theorem dX10_wayOf_126 : decode cX10_wayOf 126 = .ok (.putfield 328, 3) := by decide +kernel
