theorem dX9_follow_29 : decode cX9_follow 29 = .ok (.getfield 39, 3) := by decide +kernel
theorem dX9_follow_32 : decode cX9_follow 32 = .ok (.iload_n 1, 1) := by decide +kernel
theorem dX9_follow_33 : decode cX9_follow 33 = .ok (.invokevirtual 241, 3) := by decide +kernel
theorem dX9_follow_36 : decode cX9_follow 36 = .ok (.ifCond .ne 6, 3) := by decide +kernel
theorem dX9_follow_39 : decode cX9_follow 39 = .ok (.bipush (-6), 2) := by decide +kernel
theorem dX9_follow_41 : decode cX9_follow 41 = .ok (.ireturn, 1) := by decide +kernel
theorem dX9_follow_42 : decode cX9_follow 42 = .ok (.aload_n 0, 1) := by decide +kernel
theorem dX9_follow_43 : decode cX9_follow 43 = .ok (.getfield 39, 3) := by decide +kernel
theorem dX9_follow_46 : decode cX9_follow 46 = .ok (.getfield 244, 3) := by decide +kernel
theorem dX9_follow_49 : decode cX9_follow 49 = .ok (.iload_n 1, 1) := by decide +kernel
theorem dX9_follow_50 : decode cX9_follow 50 = .ok (.iaload, 1) := by decide +kernel
theorem dX9_follow_51 : decode cX9_follow 51 = .ok (.istore_n 3, 1) := by decide +kernel
theorem dX9_follow_52 : decode cX9_follow 52 = .ok (.iconst 0, 1) := by decide +kernel
theorem dX9_follow_53 : decode cX9_follow 53 = .ok (.istore 4, 2) := by decide +kernel
theorem dX9_follow_55 : decode cX9_follow 55 = .ok (.iload 4, 2) := by decide +kernel
theorem dX9_follow_57 : decode cX9_follow 57 = .ok (.iload_n 3, 1) := by decide +kernel
theorem dX9_follow_58 : decode cX9_follow 58 = .ok (.if_icmp .ge 52, 3) := by decide +kernel
theorem dX9_follow_61 : decode cX9_follow 61 = .ok (.aload_n 0, 1) := by decide +kernel
theorem dX9_follow_62 : decode cX9_follow 62 = .ok (.getfield 39, 3) := by decide +kernel
theorem dX9_follow_65 : decode cX9_follow 65 = .ok (.getfield 247, 3) := by decide +kernel
theorem dX9_follow_68 : decode cX9_follow 68 = .ok (.iload_n 1, 1) := by decide +kernel
theorem dX9_follow_69 : decode cX9_follow 69 = .ok (.aaload, 1) := by decide +kernel
theorem dX9_follow_70 : decode cX9_follow 70 = .ok (.iload 4, 2) := by decide +kernel
theorem dX9_follow_72 : decode cX9_follow 72 = .ok (.laload, 1) := by decide +kernel
theorem dX9_follow_73 : decode cX9_follow 73 = .ok (.lstore 5, 2) := by decide +kernel
theorem dX9_follow_75 : decode cX9_follow 75 = .ok (.lload 5, 2) := by decide +kernel
theorem dX9_follow_77 : decode cX9_follow 77 = .ok (.ldc2_w 251, 3) := by decide +kernel
theorem dX9_follow_80 : decode cX9_follow 80 = .ok (.lcmp, 1) := by decide +kernel
theorem dX9_follow_81 : decode cX9_follow 81 = .ok (.ifCond .lt 20, 3) := by decide +kernel
theorem dX9_follow_84 : decode cX9_follow 84 = .ok (.lload 5, 2) := by decide +kernel
theorem dX9_follow_86 : decode cX9_follow 86 = .ok (.aload_n 0, 1) := by decide +kernel
theorem dX9_follow_87 : decode cX9_follow 87 = .ok (.getfield 24, 3) := by decide +kernel
theorem dX9_follow_90 : decode cX9_follow 90 = .ok (.getfield 100, 3) := by decide +kernel
theorem dX9_follow_93 : decode cX9_follow 93 = .ok (.getfield 188, 3) := by decide +kernel
theorem dX9_follow_96 : decode cX9_follow 96 = .ok (.i2l, 1) := by decide +kernel
theorem dX9_follow_97 : decode cX9_follow 97 = .ok (.lcmp, 1) := by decide +kernel
theorem dX9_follow_98 : decode cX9_follow 98 = .ok (.ifCond .lt 6, 3) := by decide +kernel
theorem dX9_follow_101 : decode cX9_follow 101 = .ok (.bipush (-2), 2) := by decide +kernel
theorem dX9_follow_103 : decode cX9_follow 103 = .ok (.ireturn, 1) := by decide +kernel
theorem dX9_follow_104 : decode cX9_follow 104 = .ok (.iinc 4 1, 3) := by decide +kernel
theorem dX9_follow_107 : decode cX9_follow 107 = .ok (.goto (-52), 3) := by decide +kernel
theorem dX9_follow_110 : decode cX9_follow 110 = .ok (.aload_n 0, 1) := by decide +kernel
theorem dX9_follow_111 : decode cX9_follow 111 = .ok (.getfield 46, 3) := by decide +kernel
theorem dX9_follow_114 : decode cX9_follow 114 = .ok (.aload_n 0, 1) := by decide +kernel
theorem dX9_follow_115 : decode cX9_follow 115 = .ok (.getfield 24, 3) := by decide +kernel
theorem dX9_follow_118 : decode cX9_follow 118 = .ok (.getfield 130, 3) := by decide +kernel
theorem dX9_follow_121 : decode cX9_follow 121 = .ok (.invokevirtual 253, 3) := by decide +kernel
theorem dX9_follow_124 : decode cX9_follow 124 = .ok (.aload_n 0, 1) := by decide +kernel
theorem dX9_follow_125 : decode cX9_follow 125 = .ok (.getfield 53, 3) := by decide +kernel
theorem dX9_follow_128 : decode cX9_follow 128 = .ok (.aload_n 0, 1) := by decide +kernel
theorem dX9_follow_129 : decode cX9_follow 129 = .ok (.getfield 46, 3) := by decide +kernel
theorem dX9_follow_132 : decode cX9_follow 132 = .ok (.iload_n 2, 1) := by decide +kernel
theorem dX9_follow_133 : decode cX9_follow 133 = .ok (.invokevirtual 257, 3) := by decide +kernel
theorem dX9_follow_136 : decode cX9_follow 136 = .ok (.iconst 1, 1) := by decide +kernel
theorem dX9_follow_137 : decode cX9_follow 137 = .ok (.istore 4, 2) := by decide +kernel
theorem dX9_follow_139 : decode cX9_follow 139 = .ok (.iconst 0, 1) := by decide +kernel
theorem dX9_follow_140 : decode cX9_follow 140 = .ok (.istore 5, 2) := by decide +kernel
theorem dX9_follow_142 : decode cX9_follow 142 = .ok (.iload 5, 2) := by decide +kernel
theorem dX9_follow_144 : decode cX9_follow 144 = .ok (.iload_n 3, 1) := by decide +kernel
theorem dX9_follow_145 : decode cX9_follow 145 = .ok (.if_icmp .ge 48, 3) := by decide +kernel
theorem dX9_follow_148 : decode cX9_follow 148 = .ok (.iload 4, 2) := by decide +kernel
theorem dX9_follow_150 : decode cX9_follow 150 = .ok (.ifCond .eq 43, 3) := by decide +kernel
theorem dX9_follow_153 : decode cX9_follow 153 = .ok (.aload_n 0, 1) := by decide +kernel
theorem dX9_follow_154 : decode cX9_follow 154 = .ok (.getfield 53, 3) := by decide +kernel
theorem dX9_follow_157 : decode cX9_follow 157 = .ok (.aload_n 0, 1) := by decide +kernel
theorem dX9_follow_158 : decode cX9_follow 158 = .ok (.getfield 24, 3) := by decide +kernel
theorem dX9_follow_161 : decode cX9_follow 161 = .ok (.getfield 100, 3) := by decide +kernel
theorem dX9_follow_164 : decode cX9_follow 164 = .ok (.aload_n 0, 1) := by decide +kernel
theorem dX9_follow_165 : decode cX9_follow 165 = .ok (.getfield 46, 3) := by decide +kernel
theorem dX9_follow_168 : decode cX9_follow 168 = .ok (.iload_n 2, 1) := by decide +kernel
theorem dX9_follow_169 : decode cX9_follow 169 = .ok (.aload_n 0, 1) := by decide +kernel
theorem dX9_follow_170 : decode cX9_follow 170 = .ok (.getfield 39, 3) := by decide +kernel
theorem dX9_follow_173 : decode cX9_follow 173 = .ok (.getfield 247, 3) := by decide +kernel
theorem dX9_follow_176 : decode cX9_follow 176 = .ok (.iload_n 1, 1) := by decide +kernel
theorem dX9_follow_177 : decode cX9_follow 177 = .ok (.aaload, 1) := by decide +kernel
theorem dX9_follow_178 : decode cX9_follow 178 = .ok (.iload 5, 2) := by decide +kernel
theorem dX9_follow_180 : decode cX9_follow 180 = .ok (.laload, 1) := by decide +kernel
theorem dX9_follow_181 : decode cX9_follow 181 = .ok (.l2i, 1) := by decide +kernel
theorem dX9_follow_182 : decode cX9_follow 182 = .ok (.invokevirtual 260, 3) := by decide +kernel
theorem dX9_follow_185 : decode cX9_follow 185 = .ok (.istore 4, 2) := by decide +kernel
theorem dX9_follow_187 : decode cX9_follow 187 = .ok (.iinc 5 1, 3) := by decide +kernel
theorem dX9_follow_190 : decode cX9_follow 190 = .ok (.goto (-48), 3) := by decide +kernel
theorem dX9_follow_193 : decode cX9_follow 193 = .ok (.iconst 0, 1) := by decide +kernel
theorem dX9_follow_194 : decode cX9_follow 194 = .ok (.ireturn, 1) := by decide +kernel
theorem dX9_freeWheels_0 : decode cX9_freeWheels 0 = .ok (.iconst 0, 1) := by decide +kernel
theorem dX9_freeWheels_1 : decode cX9_freeWheels 1 = .ok (.istore_n 1, 1) := by decide +kernel
theorem dX9_freeWheels_2 : decode cX9_freeWheels 2 = .ok (.iconst 0, 1) := by decide +kernel
theorem dX9_freeWheels_3 : decode cX9_freeWheels 3 = .ok (.istore_n 2, 1) := by decide +kernel
theorem dX9_freeWheels_4 : decode cX9_freeWheels 4 = .ok (.iload_n 2, 1) := by decide +kernel
theorem dX9_freeWheels_5 : decode cX9_freeWheels 5 = .ok (.aload_n 0, 1) := by decide +kernel
theorem dX9_freeWheels_6 : decode cX9_freeWheels 6 = .ok (.getfield 24, 3) := by decide +kernel
theorem dX9_freeWheels_9 : decode cX9_freeWheels 9 = .ok (.getfield 100, 3) := by decide +kernel
theorem dX9_freeWheels_12 : decode cX9_freeWheels 12 = .ok (.getfield 314, 3) := by decide +kernel
theorem dX9_freeWheels_15 : decode cX9_freeWheels 15 = .ok (.if_icmp .ge 31, 3) := by decide +kernel
theorem dX9_freeWheels_18 : decode cX9_freeWheels 18 = .ok (.aload_n 0, 1) := by decide +kernel
theorem dX9_freeWheels_19 : decode cX9_freeWheels 19 = .ok (.getfield 24, 3) := by decide +kernel
theorem dX9_freeWheels_22 : decode cX9_freeWheels 22 = .ok (.getfield 130, 3) := by decide +kernel
theorem dX9_freeWheels_25 : decode cX9_freeWheels 25 = .ok (.getfield 140, 3) := by decide +kernel
theorem dX9_freeWheels_28 : decode cX9_freeWheels 28 = .ok (.iload_n 2, 1) := by decide +kernel
theorem dX9_freeWheels_29 : decode cX9_freeWheels 29 = .ok (.iaload, 1) := by decide +kernel
theorem dX9_freeWheels_30 : decode cX9_freeWheels 30 = .ok (.iconst (-1), 1) := by decide +kernel
theorem dX9_freeWheels_31 : decode cX9_freeWheels 31 = .ok (.if_icmp .ne 9, 3) := by decide +kernel
theorem dX9_freeWheels_34 : decode cX9_freeWheels 34 = .ok (.iload_n 1, 1) := by decide +kernel
theorem dX9_freeWheels_35 : decode cX9_freeWheels 35 = .ok (.iconst 1, 1) := by decide +kernel
theorem dX9_freeWheels_36 : decode cX9_freeWheels 36 = .ok (.iload_n 2, 1) := by decide +kernel
theorem dX9_freeWheels_37 : decode cX9_freeWheels 37 = .ok (.ishl, 1) := by decide +kernel
theorem dX9_freeWheels_38 : decode cX9_freeWheels 38 = .ok (.ior, 1) := by decide +kernel
theorem dX9_freeWheels_39 : decode cX9_freeWheels 39 = .ok (.istore_n 1, 1) := by decide +kernel
theorem dX9_freeWheels_40 : decode cX9_freeWheels 40 = .ok (.iinc 2 1, 3) := by decide +kernel
theorem dX9_freeWheels_43 : decode cX9_freeWheels 43 = .ok (.goto (-39), 3) := by decide +kernel
theorem dX9_freeWheels_46 : decode cX9_freeWheels 46 = .ok (.iload_n 1, 1) := by decide +kernel
theorem dX9_freeWheels_47 : decode cX9_freeWheels 47 = .ok (.ireturn, 1) := by decide +kernel
theorem dX9_goes_0 : decode cX9_goes 0 = .ok (.aload_n 0, 1) := by decide +kernel
theorem dX9_goes_1 : decode cX9_goes 1 = .ok (.iload_n 1, 1) := by decide +kernel
theorem dX9_goes_2 : decode cX9_goes 2 = .ok (.iload_n 2, 1) := by decide +kernel
theorem dX9_goes_3 : decode cX9_goes 3 = .ok (.invokevirtual 220, 3) := by decide +kernel
theorem dX9_goes_6 : decode cX9_goes 6 = .ok (.istore_n 3, 1) := by decide +kernel
theorem dX9_goes_7 : decode cX9_goes 7 = .ok (.iload_n 3, 1) := by decide +kernel
theorem dX9_goes_8 : decode cX9_goes 8 = .ok (.ifCond .eq 7, 3) := by decide +kernel
theorem dX9_goes_11 : decode cX9_goes 11 = .ok (.iload_n 3, 1) := by decide +kernel
theorem dX9_goes_12 : decode cX9_goes 12 = .ok (.goto 10, 3) := by decide +kernel
theorem dX9_goes_15 : decode cX9_goes 15 = .ok (.aload_n 0, 1) := by decide +kernel
theorem dX9_goes_16 : decode cX9_goes 16 = .ok (.getfield 53, 3) := by decide +kernel
theorem dX9_goes_19 : decode cX9_goes 19 = .ok (.getfield 223, 3) := by decide +kernel
theorem dX9_goes_22 : decode cX9_goes 22 = .ok (.ireturn, 1) := by decide +kernel
theorem dX9_grease_0 : decode cX9_grease 0 = .ok (.aload_n 0, 1) := by decide +kernel
theorem dX9_grease_1 : decode cX9_grease 1 = .ok (.getfield 24, 3) := by decide +kernel
theorem dX9_grease_4 : decode cX9_grease 4 = .ok (.getfield 100, 3) := by decide +kernel
theorem dX9_grease_7 : decode cX9_grease 7 = .ok (.iload_n 1, 1) := by decide +kernel
theorem dX9_grease_8 : decode cX9_grease 8 = .ok (.invokevirtual 127, 3) := by decide +kernel
theorem dX9_grease_11 : decode cX9_grease 11 = .ok (.ifCond .ne 6, 3) := by decide +kernel
theorem dX9_grease_14 : decode cX9_grease 14 = .ok (.bipush (-2), 2) := by decide +kernel
theorem dX9_grease_16 : decode cX9_grease 16 = .ok (.ireturn, 1) := by decide +kernel
theorem dX9_grease_17 : decode cX9_grease 17 = .ok (.aload_n 0, 1) := by decide +kernel
theorem dX9_grease_18 : decode cX9_grease 18 = .ok (.getfield 24, 3) := by decide +kernel
theorem dX9_grease_21 : decode cX9_grease 21 = .ok (.invokevirtual 204, 3) := by decide +kernel
theorem dX9_grease_24 : decode cX9_grease 24 = .ok (.ifCond .eq 6, 3) := by decide +kernel
theorem dX9_grease_27 : decode cX9_grease 27 = .ok (.bipush (-5), 2) := by decide +kernel
theorem dX9_grease_29 : decode cX9_grease 29 = .ok (.ireturn, 1) := by decide +kernel
theorem dX9_grease_30 : decode cX9_grease 30 = .ok (.aload_n 0, 1) := by decide +kernel
theorem dX9_grease_31 : decode cX9_grease 31 = .ok (.getfield 24, 3) := by decide +kernel
theorem dX9_grease_34 : decode cX9_grease 34 = .ok (.getfield 130, 3) := by decide +kernel
theorem dX9_grease_37 : decode cX9_grease 37 = .ok (.iload_n 1, 1) := by decide +kernel
theorem dX9_grease_38 : decode cX9_grease 38 = .ok (.invokevirtual 143, 3) := by decide +kernel
theorem dX9_grease_41 : decode cX9_grease 41 = .ok (.istore_n 2, 1) := by decide +kernel
theorem dX9_grease_42 : decode cX9_grease 42 = .ok (.aload_n 0, 1) := by decide +kernel
theorem dX9_grease_43 : decode cX9_grease 43 = .ok (.getfield 24, 3) := by decide +kernel
theorem dX9_grease_46 : decode cX9_grease 46 = .ok (.iconst 2, 1) := by decide +kernel
theorem dX9_grease_47 : decode cX9_grease 47 = .ok (.iload_n 1, 1) := by decide +kernel
theorem dX9_grease_48 : decode cX9_grease 48 = .ok (.iconst (-1), 1) := by decide +kernel
theorem dX9_grease_49 : decode cX9_grease 49 = .ok (.invokevirtual 207, 3) := by decide +kernel
theorem dX9_grease_52 : decode cX9_grease 52 = .ok (.iload_n 2, 1) := by decide +kernel
theorem dX9_grease_53 : decode cX9_grease 53 = .ok (.ireturn, 1) := by decide +kernel
theorem dX9_greasedSet_0 : decode cX9_greasedSet 0 = .ok (.aload_n 0, 1) := by decide +kernel
theorem dX9_greasedSet_1 : decode cX9_greasedSet 1 = .ok (.getfield 24, 3) := by decide +kernel
theorem dX9_greasedSet_4 : decode cX9_greasedSet 4 = .ok (.getfield 130, 3) := by decide +kernel
theorem dX9_greasedSet_7 : decode cX9_greasedSet 7 = .ok (.iload_n 1, 1) := by decide +kernel
theorem dX9_greasedSet_8 : decode cX9_greasedSet 8 = .ok (.invokevirtual 153, 3) := by decide +kernel
theorem dX9_greasedSet_11 : decode cX9_greasedSet 11 = .ok (.istore_n 3, 1) := by decide +kernel
theorem dX9_greasedSet_12 : decode cX9_greasedSet 12 = .ok (.aload_n 0, 1) := by decide +kernel
theorem dX9_greasedSet_13 : decode cX9_greasedSet 13 = .ok (.getfield 24, 3) := by decide +kernel
theorem dX9_greasedSet_16 : decode cX9_greasedSet 16 = .ok (.getfield 130, 3) := by decide +kernel
theorem dX9_greasedSet_19 : decode cX9_greasedSet 19 = .ok (.getfield 150, 3) := by decide +kernel
theorem dX9_greasedSet_22 : decode cX9_greasedSet 22 = .ok (.iload_n 1, 1) := by decide +kernel
theorem dX9_greasedSet_23 : decode cX9_greasedSet 23 = .ok (.iaload, 1) := by decide +kernel
theorem dX9_greasedSet_24 : decode cX9_greasedSet 24 = .ok (.istore 4, 2) := by decide +kernel
theorem dX9_greasedSet_26 : decode cX9_greasedSet 26 = .ok (.iconst (-1), 1) := by decide +kernel
theorem dX9_greasedSet_27 : decode cX9_greasedSet 27 = .ok (.istore 5, 2) := by decide +kernel
theorem dX9_greasedSet_29 : decode cX9_greasedSet 29 = .ok (.bipush 9, 2) := by decide +kernel
theorem dX9_greasedSet_31 : decode cX9_greasedSet 31 = .ok (.istore 6, 2) := by decide +kernel
theorem dX9_greasedSet_33 : decode cX9_greasedSet 33 = .ok (.iconst 0, 1) := by decide +kernel
theorem dX9_greasedSet_34 : decode cX9_greasedSet 34 = .ok (.istore 7, 2) := by decide +kernel
theorem dX9_greasedSet_36 : decode cX9_greasedSet 36 = .ok (.iload 7, 2) := by decide +kernel
theorem dX9_greasedSet_38 : decode cX9_greasedSet 38 = .ok (.sipush 256, 3) := by decide +kernel
theorem dX9_greasedSet_41 : decode cX9_greasedSet 41 = .ok (.if_icmp .ge 68, 3) := by decide +kernel
theorem dX9_greasedSet_44 : decode cX9_greasedSet 44 = .ok (.iload 7, 2) := by decide +kernel
theorem dX9_greasedSet_46 : decode cX9_greasedSet 46 = .ok (.iload_n 3, 1) := by decide +kernel
theorem dX9_greasedSet_47 : decode cX9_greasedSet 47 = .ok (.iconst (-1), 1) := by decide +kernel
theorem dX9_greasedSet_48 : decode cX9_greasedSet 48 = .ok (.ixor, 1) := by decide +kernel
theorem dX9_greasedSet_49 : decode cX9_greasedSet 49 = .ok (.iand, 1) := by decide +kernel
theorem dX9_greasedSet_50 : decode cX9_greasedSet 50 = .ok (.ifCond .ne 53, 3) := by decide +kernel
theorem dX9_greasedSet_53 : decode cX9_greasedSet 53 = .ok (.iload 7, 2) := by decide +kernel
theorem dX9_greasedSet_55 : decode cX9_greasedSet 55 = .ok (.invokestatic 303, 3) := by decide +kernel
theorem dX9_greasedSet_58 : decode cX9_greasedSet 58 = .ok (.iload 6, 2) := by decide +kernel
theorem dX9_greasedSet_60 : decode cX9_greasedSet 60 = .ok (.if_icmp .ge 43, 3) := by decide +kernel
theorem dX9_greasedSet_63 : decode cX9_greasedSet 63 = .ok (.aload_n 0, 1) := by decide +kernel
theorem dX9_greasedSet_64 : decode cX9_greasedSet 64 = .ok (.getfield 24, 3) := by decide +kernel
theorem dX9_greasedSet_67 : decode cX9_greasedSet 67 = .ok (.getfield 130, 3) := by decide +kernel
theorem dX9_greasedSet_70 : decode cX9_greasedSet 70 = .ok (.aload_n 0, 1) := by decide +kernel
theorem dX9_greasedSet_71 : decode cX9_greasedSet 71 = .ok (.getfield 24, 3) := by decide +kernel
theorem dX9_greasedSet_74 : decode cX9_greasedSet 74 = .ok (.getfield 100, 3) := by decide +kernel
theorem dX9_greasedSet_77 : decode cX9_greasedSet 77 = .ok (.iload_n 3, 1) := by decide +kernel
theorem dX9_greasedSet_78 : decode cX9_greasedSet 78 = .ok (.iload 7, 2) := by decide +kernel
theorem dX9_greasedSet_80 : decode cX9_greasedSet 80 = .ok (.iconst (-1), 1) := by decide +kernel
theorem dX9_greasedSet_81 : decode cX9_greasedSet 81 = .ok (.ixor, 1) := by decide +kernel
theorem dX9_greasedSet_82 : decode cX9_greasedSet 82 = .ok (.iand, 1) := by decide +kernel
theorem dX9_greasedSet_83 : decode cX9_greasedSet 83 = .ok (.iload 4, 2) := by decide +kernel
theorem dX9_greasedSet_85 : decode cX9_greasedSet 85 = .ok (.invokevirtual 194, 3) := by decide +kernel
theorem dX9_greasedSet_88 : decode cX9_greasedSet 88 = .ok (.iload_n 2, 1) := by decide +kernel
theorem dX9_greasedSet_89 : decode cX9_greasedSet 89 = .ok (.if_icmp .ne 14, 3) := by decide +kernel
theorem dX9_greasedSet_92 : decode cX9_greasedSet 92 = .ok (.iload 7, 2) := by decide +kernel
theorem dX9_greasedSet_94 : decode cX9_greasedSet 94 = .ok (.invokestatic 303, 3) := by decide +kernel
theorem dX9_greasedSet_97 : decode cX9_greasedSet 97 = .ok (.istore 6, 2) := by decide +kernel
theorem dX9_greasedSet_99 : decode cX9_greasedSet 99 = .ok (.iload 7, 2) := by decide +kernel
theorem dX9_greasedSet_101 : decode cX9_greasedSet 101 = .ok (.istore 5, 2) := by decide +kernel
theorem dX9_greasedSet_103 : decode cX9_greasedSet 103 = .ok (.iinc 7 1, 3) := by decide +kernel
theorem dX9_greasedSet_106 : decode cX9_greasedSet 106 = .ok (.goto (-70), 3) := by decide +kernel
theorem dX9_greasedSet_109 : decode cX9_greasedSet 109 = .ok (.iload 5, 2) := by decide +kernel
theorem dX9_greasedSet_111 : decode cX9_greasedSet 111 = .ok (.ireturn, 1) := by decide +kernel
theorem dX9_hand_0 : decode cX9_hand 0 = .ok (.iload_n 1, 1) := by decide +kernel
theorem dX9_hand_1 : decode cX9_hand 1 = .ok (.ifCond .lt 22, 3) := by decide +kernel
theorem dX9_hand_4 : decode cX9_hand 4 = .ok (.iload_n 1, 1) := by decide +kernel
theorem dX9_hand_5 : decode cX9_hand 5 = .ok (.bipush 40, 2) := by decide +kernel
theorem dX9_hand_7 : decode cX9_hand 7 = .ok (.if_icmp .gt 16, 3) := by decide +kernel
theorem dX9_hand_10 : decode cX9_hand 10 = .ok (.aload_n 0, 1) := by decide +kernel
theorem dX9_hand_11 : decode cX9_hand 11 = .ok (.getfield 24, 3) := by decide +kernel
theorem dX9_hand_14 : decode cX9_hand 14 = .ok (.getfield 100, 3) := by decide +kernel
theorem dX9_hand_17 : decode cX9_hand 17 = .ok (.invokevirtual 211, 3) := by decide +kernel
theorem dX9_hand_20 : decode cX9_hand 20 = .ok (.ifCond .ne 6, 3) := by decide +kernel
theorem dX9_hand_23 : decode cX9_hand 23 = .ok (.bipush (-2), 2) := by decide +kernel
theorem dX9_hand_25 : decode cX9_hand 25 = .ok (.ireturn, 1) := by decide +kernel
theorem dX9_hand_26 : decode cX9_hand 26 = .ok (.aload_n 0, 1) := by decide +kernel
theorem dX9_hand_27 : decode cX9_hand 27 = .ok (.getfield 24, 3) := by decide +kernel
theorem dX9_hand_30 : decode cX9_hand 30 = .ok (.getfield 214, 3) := by decide +kernel
theorem dX9_hand_33 : decode cX9_hand 33 = .ok (.ifCond .le 6, 3) := by decide +kernel
theorem dX9_hand_36 : decode cX9_hand 36 = .ok (.bipush (-5), 2) := by decide +kernel
theorem dX9_hand_38 : decode cX9_hand 38 = .ok (.ireturn, 1) := by decide +kernel
theorem dX9_hand_39 : decode cX9_hand 39 = .ok (.aload_n 0, 1) := by decide +kernel
theorem dX9_hand_40 : decode cX9_hand 40 = .ok (.getfield 24, 3) := by decide +kernel
theorem dX9_hand_43 : decode cX9_hand 43 = .ok (.getfield 100, 3) := by decide +kernel
theorem dX9_hand_46 : decode cX9_hand 46 = .ok (.getfield 404, 3) := by decide +kernel
theorem dX9_hand_49 : decode cX9_hand 49 = .ok (.istore_n 2, 1) := by decide +kernel
theorem dX9_hand_50 : decode cX9_hand 50 = .ok (.aload_n 0, 1) := by decide +kernel
theorem dX9_hand_51 : decode cX9_hand 51 = .ok (.getfield 24, 3) := by decide +kernel
theorem dX9_hand_54 : decode cX9_hand 54 = .ok (.getfield 100, 3) := by decide +kernel
theorem dX9_hand_57 : decode cX9_hand 57 = .ok (.iload_n 1, 1) := by decide +kernel
theorem dX9_hand_58 : decode cX9_hand 58 = .ok (.putfield 404, 3) := by decide +kernel
theorem dX9_hand_61 : decode cX9_hand 61 = .ok (.iload_n 2, 1) := by decide +kernel
theorem dX9_hand_62 : decode cX9_hand 62 = .ok (.ireturn, 1) := by decide +kernel
theorem dX9_haunts_0 : decode cX9_haunts 0 = .ok (.aload_n 0, 1) := by decide +kernel
theorem dX9_haunts_1 : decode cX9_haunts 1 = .ok (.getfield 24, 3) := by decide +kernel
theorem dX9_haunts_4 : decode cX9_haunts 4 = .ok (.getfield 100, 3) := by decide +kernel
theorem dX9_haunts_7 : decode cX9_haunts 7 = .ok (.iload_n 1, 1) := by decide +kernel
theorem dX9_haunts_8 : decode cX9_haunts 8 = .ok (.invokevirtual 147, 3) := by decide +kernel
theorem dX9_haunts_11 : decode cX9_haunts 11 = .ok (.ifCond .ne 6, 3) := by decide +kernel
theorem dX9_haunts_14 : decode cX9_haunts 14 = .ok (.bipush (-2), 2) := by decide +kernel
theorem dX9_haunts_16 : decode cX9_haunts 16 = .ok (.ireturn, 1) := by decide +kernel
theorem dX9_haunts_17 : decode cX9_haunts 17 = .ok (.aload_n 0, 1) := by decide +kernel
theorem dX9_haunts_18 : decode cX9_haunts 18 = .ok (.getfield 71, 3) := by decide +kernel
theorem dX9_haunts_21 : decode cX9_haunts 21 = .ok (.iconst 0, 1) := by decide +kernel
theorem dX9_haunts_22 : decode cX9_haunts 22 = .ok (.invokestatic 320, 3) := by decide +kernel
theorem dX9_haunts_25 : decode cX9_haunts 25 = .ok (.aload_n 0, 1) := by decide +kernel
theorem dX9_haunts_26 : decode cX9_haunts 26 = .ok (.getfield 46, 3) := by decide +kernel
theorem dX9_haunts_29 : decode cX9_haunts 29 = .ok (.aload_n 0, 1) := by decide +kernel
theorem dX9_haunts_30 : decode cX9_haunts 30 = .ok (.getfield 24, 3) := by decide +kernel
theorem dX9_haunts_33 : decode cX9_haunts 33 = .ok (.getfield 130, 3) := by decide +kernel
theorem dX9_haunts_36 : decode cX9_haunts 36 = .ok (.invokevirtual 253, 3) := by decide +kernel
theorem dX9_haunts_39 : decode cX9_haunts 39 = .ok (.aload_n 0, 1) := by decide +kernel
theorem dX9_haunts_40 : decode cX9_haunts 40 = .ok (.getfield 71, 3) := by decide +kernel
theorem dX9_haunts_43 : decode cX9_haunts 43 = .ok (.aload_n 0, 1) := by decide +kernel
theorem dX9_haunts_44 : decode cX9_haunts 44 = .ok (.getfield 46, 3) := by decide +kernel
theorem dX9_haunts_47 : decode cX9_haunts 47 = .ok (.getfield 150, 3) := by decide +kernel
theorem dX9_haunts_50 : decode cX9_haunts 50 = .ok (.iload_n 1, 1) := by decide +kernel
theorem dX9_haunts_51 : decode cX9_haunts 51 = .ok (.iaload, 1) := by decide +kernel
theorem dX9_haunts_52 : decode cX9_haunts 52 = .ok (.dup2, 1) := by decide +kernel
theorem dX9_haunts_53 : decode cX9_haunts 53 = .ok (.iaload, 1) := by decide +kernel
theorem dX9_haunts_54 : decode cX9_haunts 54 = .ok (.iconst 1, 1) := by decide +kernel
theorem dX9_haunts_55 : decode cX9_haunts 55 = .ok (.iadd, 1) := by decide +kernel
theorem dX9_haunts_56 : decode cX9_haunts 56 = .ok (.iastore, 1) := by decide +kernel
theorem dX9_haunts_57 : decode cX9_haunts 57 = .ok (.iconst 0, 1) := by decide +kernel
theorem dX9_haunts_58 : decode cX9_haunts 58 = .ok (.istore_n 2, 1) := by decide +kernel
theorem dX9_haunts_59 : decode cX9_haunts 59 = .ok (.iload_n 2, 1) := by decide +kernel
theorem dX9_haunts_60 : decode cX9_haunts 60 = .ok (.bipush 40, 2) := by decide +kernel
theorem dX9_haunts_62 : decode cX9_haunts 62 = .ok (.if_icmp .ge 44, 3) := by decide +kernel
theorem dX9_haunts_65 : decode cX9_haunts 65 = .ok (.aload_n 0, 1) := by decide +kernel
theorem dX9_haunts_66 : decode cX9_haunts 66 = .ok (.getfield 46, 3) := by decide +kernel
theorem dX9_haunts_69 : decode cX9_haunts 69 = .ok (.aload_n 0, 1) := by decide +kernel
theorem dX9_haunts_70 : decode cX9_haunts 70 = .ok (.getfield 24, 3) := by decide +kernel
theorem dX9_haunts_73 : decode cX9_haunts 73 = .ok (.getfield 100, 3) := by decide +kernel
theorem dX9_haunts_76 : decode cX9_haunts 76 = .ok (.iload_n 1, 1) := by decide +kernel
theorem dX9_haunts_77 : decode cX9_haunts 77 = .ok (.iconst (-1), 1) := by decide +kernel
theorem dX9_haunts_78 : decode cX9_haunts 78 = .ok (.invokevirtual 317, 3) := by decide +kernel
theorem dX9_haunts_81 : decode cX9_haunts 81 = .ok (.pop, 1) := by decide +kernel
theorem dX9_haunts_82 : decode cX9_haunts 82 = .ok (.aload_n 0, 1) := by decide +kernel
theorem dX9_haunts_83 : decode cX9_haunts 83 = .ok (.getfield 71, 3) := by decide +kernel
theorem dX9_haunts_86 : decode cX9_haunts 86 = .ok (.aload_n 0, 1) := by decide +kernel
theorem dX9_haunts_87 : decode cX9_haunts 87 = .ok (.getfield 46, 3) := by decide +kernel
theorem dX9_haunts_90 : decode cX9_haunts 90 = .ok (.getfield 150, 3) := by decide +kernel
theorem dX9_haunts_93 : decode cX9_haunts 93 = .ok (.iload_n 1, 1) := by decide +kernel
theorem dX9_haunts_94 : decode cX9_haunts 94 = .ok (.iaload, 1) := by decide +kernel
theorem dX9_haunts_95 : decode cX9_haunts 95 = .ok (.dup2, 1) := by decide +kernel
theorem dX9_haunts_96 : decode cX9_haunts 96 = .ok (.iaload, 1) := by decide +kernel
theorem dX9_haunts_97 : decode cX9_haunts 97 = .ok (.iconst 1, 1) := by decide +kernel
theorem dX9_haunts_98 : decode cX9_haunts 98 = .ok (.iadd, 1) := by decide +kernel
theorem dX9_haunts_99 : decode cX9_haunts 99 = .ok (.iastore, 1) := by decide +kernel
theorem dX9_haunts_100 : decode cX9_haunts 100 = .ok (.iinc 2 1, 3) := by decide +kernel
theorem dX9_haunts_103 : decode cX9_haunts 103 = .ok (.goto (-44), 3) := by decide +kernel
theorem dX9_haunts_106 : decode cX9_haunts 106 = .ok (.iconst 0, 1) := by decide +kernel
theorem dX9_haunts_107 : decode cX9_haunts 107 = .ok (.istore_n 2, 1) := by decide +kernel
theorem dX9_haunts_108 : decode cX9_haunts 108 = .ok (.iconst 1, 1) := by decide +kernel
theorem dX9_haunts_109 : decode cX9_haunts 109 = .ok (.istore_n 3, 1) := by decide +kernel
theorem dX9_haunts_110 : decode cX9_haunts 110 = .ok (.iload_n 3, 1) := by decide +kernel
theorem dX9_haunts_111 : decode cX9_haunts 111 = .ok (.aload_n 0, 1) := by decide +kernel
theorem dX9_haunts_112 : decode cX9_haunts 112 = .ok (.getfield 24, 3) := by decide +kernel
theorem dX9_haunts_115 : decode cX9_haunts 115 = .ok (.getfield 100, 3) := by decide +kernel
theorem dX9_haunts_118 : decode cX9_haunts 118 = .ok (.getfield 273, 3) := by decide +kernel
theorem dX9_haunts_121 : decode cX9_haunts 121 = .ok (.if_icmp .ge 26, 3) := by decide +kernel
theorem dX9_haunts_124 : decode cX9_haunts 124 = .ok (.aload_n 0, 1) := by decide +kernel
theorem dX9_haunts_125 : decode cX9_haunts 125 = .ok (.getfield 71, 3) := by decide +kernel
theorem dX9_haunts_128 : decode cX9_haunts 128 = .ok (.iload_n 3, 1) := by decide +kernel
theorem dX9_haunts_129 : decode cX9_haunts 129 = .ok (.iaload, 1) := by decide +kernel
theorem dX9_haunts_130 : decode cX9_haunts 130 = .ok (.aload_n 0, 1) := by decide +kernel
theorem dX9_haunts_131 : decode cX9_haunts 131 = .ok (.getfield 71, 3) := by decide +kernel
theorem dX9_haunts_134 : decode cX9_haunts 134 = .ok (.iload_n 2, 1) := by decide +kernel
theorem dX9_haunts_135 : decode cX9_haunts 135 = .ok (.iaload, 1) := by decide +kernel
theorem dX9_haunts_136 : decode cX9_haunts 136 = .ok (.if_icmp .le 5, 3) := by decide +kernel
theorem dX9_haunts_139 : decode cX9_haunts 139 = .ok (.iload_n 3, 1) := by decide +kernel
theorem dX9_haunts_140 : decode cX9_haunts 140 = .ok (.istore_n 2, 1) := by decide +kernel
theorem dX9_haunts_141 : decode cX9_haunts 141 = .ok (.iinc 3 1, 3) := by decide +kernel
theorem dX9_haunts_144 : decode cX9_haunts 144 = .ok (.goto (-34), 3) := by decide +kernel
theorem dX9_haunts_147 : decode cX9_haunts 147 = .ok (.iload_n 2, 1) := by decide +kernel
theorem dX9_haunts_148 : decode cX9_haunts 148 = .ok (.ireturn, 1) := by decide +kernel
theorem dX9_image_0 : decode cX9_image 0 = .ok (.iload_n 1, 1) := by decide +kernel
theorem dX9_image_1 : decode cX9_image 1 = .ok (.ifCond .lt 8, 3) := by decide +kernel
theorem dX9_image_4 : decode cX9_image 4 = .ok (.iload_n 1, 1) := by decide +kernel
theorem dX9_image_5 : decode cX9_image 5 = .ok (.iconst 3, 1) := by decide +kernel
theorem dX9_image_6 : decode cX9_image 6 = .ok (.if_icmp .lt 6, 3) := by decide +kernel
theorem dX9_image_9 : decode cX9_image 9 = .ok (.bipush (-2), 2) := by decide +kernel
theorem dX9_image_11 : decode cX9_image 11 = .ok (.ireturn, 1) := by decide +kernel
theorem dX9_image_12 : decode cX9_image 12 = .ok (.aload_n 0, 1) := by decide +kernel
theorem dX9_image_13 : decode cX9_image 13 = .ok (.getfield 28, 3) := by decide +kernel
theorem dX9_image_16 : decode cX9_image 16 = .ok (.iload_n 1, 1) := by decide +kernel
theorem dX9_image_17 : decode cX9_image 17 = .ok (.aaload, 1) := by decide +kernel
theorem dX9_image_18 : decode cX9_image 18 = .ok (.aload_n 0, 1) := by decide +kernel
theorem dX9_image_19 : decode cX9_image 19 = .ok (.getfield 24, 3) := by decide +kernel
theorem dX9_image_22 : decode cX9_image 22 = .ok (.invokevirtual 413, 3) := by decide +kernel
theorem dX9_image_25 : decode cX9_image 25 = .ok (.aload_n 0, 1) := by decide +kernel
theorem dX9_image_26 : decode cX9_image 26 = .ok (.getfield 32, 3) := by decide +kernel
theorem dX9_image_29 : decode cX9_image 29 = .ok (.iload_n 1, 1) := by decide +kernel
theorem dX9_image_30 : decode cX9_image 30 = .ok (.iconst 1, 1) := by decide +kernel
theorem dX9_image_31 : decode cX9_image 31 = .ok (.bastore, 1) := by decide +kernel
theorem dX9_image_32 : decode cX9_image 32 = .ok (.iconst 0, 1) := by decide +kernel
theorem dX9_image_33 : decode cX9_image 33 = .ok (.ireturn, 1) := by decide +kernel
theorem dX9_isByCart_0 : decode cX9_isByCart 0 = .ok (.aload_n 0, 1) := by decide +kernel
theorem dX9_isByCart_1 : decode cX9_isByCart 1 = .ok (.getfield 24, 3) := by decide +kernel
theorem dX9_isByCart_4 : decode cX9_isByCart 4 = .ok (.getfield 100, 3) := by decide +kernel
theorem dX9_isByCart_7 : decode cX9_isByCart 7 = .ok (.iload_n 1, 1) := by decide +kernel
theorem dX9_isByCart_8 : decode cX9_isByCart 8 = .ok (.invokevirtual 147, 3) := by decide +kernel
theorem dX9_isByCart_11 : decode cX9_isByCart 11 = .ok (.ifCond .eq 33, 3) := by decide +kernel
theorem dX9_isByCart_14 : decode cX9_isByCart 14 = .ok (.aload_n 0, 1) := by decide +kernel
theorem dX9_isByCart_15 : decode cX9_isByCart 15 = .ok (.getfield 24, 3) := by decide +kernel
theorem dX9_isByCart_18 : decode cX9_isByCart 18 = .ok (.getfield 100, 3) := by decide +kernel
theorem dX9_isByCart_21 : decode cX9_isByCart 21 = .ok (.iload_n 2, 1) := by decide +kernel
theorem dX9_isByCart_22 : decode cX9_isByCart 22 = .ok (.aload_n 0, 1) := by decide +kernel
theorem dX9_isByCart_23 : decode cX9_isByCart 23 = .ok (.getfield 24, 3) := by decide +kernel
theorem dX9_isByCart_26 : decode cX9_isByCart 26 = .ok (.getfield 130, 3) := by decide +kernel
theorem dX9_isByCart_29 : decode cX9_isByCart 29 = .ok (.getfield 150, 3) := by decide +kernel
theorem dX9_isByCart_32 : decode cX9_isByCart 32 = .ok (.iload_n 1, 1) := by decide +kernel
theorem dX9_isByCart_33 : decode cX9_isByCart 33 = .ok (.iaload, 1) := by decide +kernel
theorem dX9_isByCart_34 : decode cX9_isByCart 34 = .ok (.invokevirtual 201, 3) := by decide +kernel
theorem dX9_isByCart_37 : decode cX9_isByCart 37 = .ok (.ifCond .eq 7, 3) := by decide +kernel
theorem dX9_isByCart_40 : decode cX9_isByCart 40 = .ok (.iconst 1, 1) := by decide +kernel
theorem dX9_isByCart_41 : decode cX9_isByCart 41 = .ok (.goto 4, 3) := by decide +kernel
theorem dX9_isByCart_44 : decode cX9_isByCart 44 = .ok (.iconst 0, 1) := by decide +kernel
theorem dX9_isByCart_45 : decode cX9_isByCart 45 = .ok (.ireturn, 1) := by decide +kernel
theorem dX9_land_0 : decode cX9_land 0 = .ok (.aload_n 0, 1) := by decide +kernel
theorem dX9_land_1 : decode cX9_land 1 = .ok (.getfield 10, 3) := by decide +kernel
theorem dX9_land_4 : decode cX9_land 4 = .ok (.invokevirtual 89, 3) := by decide +kernel
theorem dX9_land_7 : decode cX9_land 7 = .ok (.ifCond .ne 6, 3) := by decide +kernel
theorem dX9_land_10 : decode cX9_land 10 = .ok (.bipush (-4), 2) := by decide +kernel
theorem dX9_land_12 : decode cX9_land 12 = .ok (.ireturn, 1) := by decide +kernel
theorem dX9_land_13 : decode cX9_land 13 = .ok (.aload_n 0, 1) := by decide +kernel
theorem dX9_land_14 : decode cX9_land 14 = .ok (.getfield 24, 3) := by decide +kernel
theorem dX9_land_17 : decode cX9_land 17 = .ok (.aload_n 0, 1) := by decide +kernel
theorem dX9_land_18 : decode cX9_land 18 = .ok (.getfield 10, 3) := by decide +kernel
theorem dX9_land_21 : decode cX9_land 21 = .ok (.getfield 92, 3) := by decide +kernel
theorem dX9_land_24 : decode cX9_land 24 = .ok (.invokevirtual 96, 3) := by decide +kernel
theorem dX9_land_27 : decode cX9_land 27 = .ok (.aload_n 0, 1) := by decide +kernel
theorem dX9_land_28 : decode cX9_land 28 = .ok (.getfield 20, 3) := by decide +kernel
theorem dX9_land_31 : decode cX9_land 31 = .ok (.iconst 0, 1) := by decide +kernel
theorem dX9_land_32 : decode cX9_land 32 = .ok (.putfield 85, 3) := by decide +kernel
theorem dX9_land_35 : decode cX9_land 35 = .ok (.aload_n 0, 1) := by decide +kernel
theorem dX9_land_36 : decode cX9_land 36 = .ok (.getfield 24, 3) := by decide +kernel
theorem dX9_land_39 : decode cX9_land 39 = .ok (.getfield 100, 3) := by decide +kernel
theorem dX9_land_42 : decode cX9_land 42 = .ok (.getfield 103, 3) := by decide +kernel
theorem dX9_land_45 : decode cX9_land 45 = .ok (.ireturn, 1) := by decide +kernel
theorem dX9_lasts_0 : decode cX9_lasts 0 = .ok (.aload_n 0, 1) := by decide +kernel
theorem dX9_lasts_1 : decode cX9_lasts 1 = .ok (.getfield 24, 3) := by decide +kernel
theorem dX9_lasts_4 : decode cX9_lasts 4 = .ok (.getfield 100, 3) := by decide +kernel
theorem dX9_lasts_7 : decode cX9_lasts 7 = .ok (.iload_n 1, 1) := by decide +kernel
theorem dX9_lasts_8 : decode cX9_lasts 8 = .ok (.invokevirtual 127, 3) := by decide +kernel
theorem dX9_lasts_11 : decode cX9_lasts 11 = .ok (.ifCond .eq 14, 3) := by decide +kernel
theorem dX9_lasts_14 : decode cX9_lasts 14 = .ok (.iload_n 2, 1) := by decide +kernel
theorem dX9_lasts_15 : decode cX9_lasts 15 = .ok (.iconst 1, 1) := by decide +kernel
theorem dX9_lasts_16 : decode cX9_lasts 16 = .ok (.if_icmp .lt 9, 3) := by decide +kernel
theorem dX9_lasts_19 : decode cX9_lasts 19 = .ok (.iload_n 2, 1) := by decide +kernel
theorem dX9_lasts_20 : decode cX9_lasts 20 = .ok (.bipush 20, 2) := by decide +kernel
theorem dX9_lasts_22 : decode cX9_lasts 22 = .ok (.if_icmp .le 6, 3) := by decide +kernel
theorem dX9_lasts_25 : decode cX9_lasts 25 = .ok (.bipush (-2), 2) := by decide +kernel
theorem dX9_lasts_27 : decode cX9_lasts 27 = .ok (.ireturn, 1) := by decide +kernel
theorem dX9_lasts_28 : decode cX9_lasts 28 = .ok (.aload_n 0, 1) := by decide +kernel
theorem dX9_lasts_29 : decode cX9_lasts 29 = .ok (.getfield 24, 3) := by decide +kernel
theorem dX9_lasts_32 : decode cX9_lasts 32 = .ok (.getfield 130, 3) := by decide +kernel
theorem dX9_lasts_35 : decode cX9_lasts 35 = .ok (.getfield 137, 3) := by decide +kernel
theorem dX9_lasts_38 : decode cX9_lasts 38 = .ok (.iload_n 1, 1) := by decide +kernel
theorem dX9_lasts_39 : decode cX9_lasts 39 = .ok (.iaload, 1) := by decide +kernel
theorem dX9_lasts_40 : decode cX9_lasts 40 = .ok (.iload_n 2, 1) := by decide +kernel
theorem dX9_lasts_41 : decode cX9_lasts 41 = .ok (.idiv, 1) := by decide +kernel
theorem dX9_lasts_42 : decode cX9_lasts 42 = .ok (.iconst 1, 1) := by decide +kernel
theorem dX9_lasts_43 : decode cX9_lasts 43 = .ok (.iadd, 1) := by decide +kernel
theorem dX9_lasts_44 : decode cX9_lasts 44 = .ok (.ireturn, 1) := by decide +kernel
theorem dX9_leastMiles_0 : decode cX9_leastMiles 0 = .ok (.aload_n 0, 1) := by decide +kernel
theorem dX9_leastMiles_1 : decode cX9_leastMiles 1 = .ok (.getfield 60, 3) := by decide +kernel
theorem dX9_leastMiles_4 : decode cX9_leastMiles 4 = .ok (.aload_n 0, 1) := by decide +kernel
theorem dX9_leastMiles_5 : decode cX9_leastMiles 5 = .ok (.getfield 24, 3) := by decide +kernel
theorem dX9_leastMiles_8 : decode cX9_leastMiles 8 = .ok (.getfield 100, 3) := by decide +kernel
theorem dX9_leastMiles_11 : decode cX9_leastMiles 11 = .ok (.iload_n 1, 1) := by decide +kernel
theorem dX9_leastMiles_12 : decode cX9_leastMiles 12 = .ok (.iload_n 2, 1) := by decide +kernel
theorem dX9_leastMiles_13 : decode cX9_leastMiles 13 = .ok (.invokevirtual 276, 3) := by decide +kernel
theorem dX9_leastMiles_16 : decode cX9_leastMiles 16 = .ok (.aload_n 0, 1) := by decide +kernel
theorem dX9_leastMiles_17 : decode cX9_leastMiles 17 = .ok (.getfield 60, 3) := by decide +kernel
theorem dX9_leastMiles_20 : decode cX9_leastMiles 20 = .ok (.invokevirtual 293, 3) := by decide +kernel
theorem dX9_leastMiles_23 : decode cX9_leastMiles 23 = .ok (.aload_n 0, 1) := by decide +kernel
theorem dX9_leastMiles_24 : decode cX9_leastMiles 24 = .ok (.getfield 24, 3) := by decide +kernel
theorem dX9_leastMiles_27 : decode cX9_leastMiles 27 = .ok (.getfield 130, 3) := by decide +kernel
theorem dX9_leastMiles_30 : decode cX9_leastMiles 30 = .ok (.invokevirtual 253, 3) := by decide +kernel
theorem dX9_leastMiles_33 : decode cX9_leastMiles 33 = .ok (.aload_n 0, 1) := by decide +kernel
theorem dX9_leastMiles_34 : decode cX9_leastMiles 34 = .ok (.getfield 60, 3) := by decide +kernel
theorem dX9_leastMiles_37 : decode cX9_leastMiles 37 = .ok (.aload_n 0, 1) := by decide +kernel
theorem dX9_leastMiles_38 : decode cX9_leastMiles 38 = .ok (.getfield 24, 3) := by decide +kernel
theorem dX9_leastMiles_41 : decode cX9_leastMiles 41 = .ok (.getfield 100, 3) := by decide +kernel
theorem dX9_leastMiles_44 : decode cX9_leastMiles 44 = .ok (.invokevirtual 297, 3) := by decide +kernel
theorem dX9_leastMiles_47 : decode cX9_leastMiles 47 = .ok (.aload_n 0, 1) := by decide +kernel
theorem dX9_leastMiles_48 : decode cX9_leastMiles 48 = .ok (.getfield 60, 3) := by decide +kernel
theorem dX9_leastMiles_51 : decode cX9_leastMiles 51 = .ok (.invokevirtual 290, 3) := by decide +kernel
theorem dX9_leastMiles_54 : decode cX9_leastMiles 54 = .ok (.ireturn, 1) := by decide +kernel
theorem dX9_leaves_0 : decode cX9_leaves 0 = .ok (.aload_n 0, 1) := by decide +kernel
theorem dX9_leaves_1 : decode cX9_leaves 1 = .ok (.iload_n 1, 1) := by decide +kernel
theorem dX9_leaves_2 : decode cX9_leaves 2 = .ok (.invokevirtual 332, 3) := by decide +kernel
theorem dX9_leaves_5 : decode cX9_leaves 5 = .ok (.istore_n 2, 1) := by decide +kernel
theorem dX9_leaves_6 : decode cX9_leaves 6 = .ok (.iload_n 2, 1) := by decide +kernel
theorem dX9_leaves_7 : decode cX9_leaves 7 = .ok (.ifCond .ge 5, 3) := by decide +kernel
theorem dX9_leaves_10 : decode cX9_leaves 10 = .ok (.iload_n 2, 1) := by decide +kernel
theorem dX9_leaves_11 : decode cX9_leaves 11 = .ok (.ireturn, 1) := by decide +kernel
theorem dX9_leaves_12 : decode cX9_leaves 12 = .ok (.aload_n 0, 1) := by decide +kernel
theorem dX9_leaves_13 : decode cX9_leaves 13 = .ok (.iload_n 2, 1) := by decide +kernel
theorem dX9_leaves_14 : decode cX9_leaves 14 = .ok (.invokevirtual 335, 3) := by decide +kernel
theorem dX9_leaves_17 : decode cX9_leaves 17 = .ok (.istore_n 3, 1) := by decide +kernel
theorem dX9_leaves_18 : decode cX9_leaves 18 = .ok (.iload_n 3, 1) := by decide +kernel
theorem dX9_leaves_19 : decode cX9_leaves 19 = .ok (.iconst (-1), 1) := by decide +kernel
theorem dX9_leaves_20 : decode cX9_leaves 20 = .ok (.if_icmp .ne 10, 3) := by decide +kernel
theorem dX9_leaves_23 : decode cX9_leaves 23 = .ok (.iload_n 2, 1) := by decide +kernel
theorem dX9_leaves_24 : decode cX9_leaves 24 = .ok (.invokestatic 303, 3) := by decide +kernel
theorem dX9_leaves_27 : decode cX9_leaves 27 = .ok (.goto 9, 3) := by decide +kernel
theorem dX9_leaves_30 : decode cX9_leaves 30 = .ok (.aload_n 0, 1) := by decide +kernel
theorem dX9_leaves_31 : decode cX9_leaves 31 = .ok (.iload_n 3, 1) := by decide +kernel
theorem dX9_leaves_32 : decode cX9_leaves 32 = .ok (.iload_n 2, 1) := by decide +kernel
theorem dX9_leaves_33 : decode cX9_leaves 33 = .ok (.invokevirtual 338, 3) := by decide +kernel
theorem dX9_leaves_36 : decode cX9_leaves 36 = .ok (.ireturn, 1) := by decide +kernel
theorem dX9_likes_0 : decode cX9_likes 0 = .ok (.aload_n 0, 1) := by decide +kernel
theorem dX9_likes_1 : decode cX9_likes 1 = .ok (.getfield 24, 3) := by decide +kernel
theorem dX9_likes_4 : decode cX9_likes 4 = .ok (.getfield 100, 3) := by decide +kernel
theorem dX9_likes_7 : decode cX9_likes 7 = .ok (.iload_n 1, 1) := by decide +kernel
theorem dX9_likes_8 : decode cX9_likes 8 = .ok (.invokevirtual 127, 3) := by decide +kernel
theorem dX9_likes_11 : decode cX9_likes 11 = .ok (.ifCond .eq 17, 3) := by decide +kernel
theorem dX9_likes_14 : decode cX9_likes 14 = .ok (.aload_n 0, 1) := by decide +kernel
theorem dX9_likes_15 : decode cX9_likes 15 = .ok (.getfield 24, 3) := by decide +kernel
theorem dX9_likes_18 : decode cX9_likes 18 = .ok (.getfield 100, 3) := by decide +kernel
theorem dX9_likes_21 : decode cX9_likes 21 = .ok (.iload_n 2, 1) := by decide +kernel
theorem dX9_likes_22 : decode cX9_likes 22 = .ok (.invokevirtual 114, 3) := by decide +kernel
theorem dX9_likes_25 : decode cX9_likes 25 = .ok (.ifCond .ne 6, 3) := by decide +kernel
theorem dX9_likes_28 : decode cX9_likes 28 = .ok (.bipush (-2), 2) := by decide +kernel
theorem dX9_likes_30 : decode cX9_likes 30 = .ok (.ireturn, 1) := by decide +kernel
theorem dX9_likes_31 : decode cX9_likes 31 = .ok (.aload_n 0, 1) := by decide +kernel
theorem dX9_likes_32 : decode cX9_likes 32 = .ok (.getfield 24, 3) := by decide +kernel
theorem dX9_likes_35 : decode cX9_likes 35 = .ok (.getfield 130, 3) := by decide +kernel
theorem dX9_likes_38 : decode cX9_likes 38 = .ok (.iload_n 1, 1) := by decide +kernel
theorem dX9_likes_39 : decode cX9_likes 39 = .ok (.iload_n 2, 1) := by decide +kernel
theorem dX9_likes_40 : decode cX9_likes 40 = .ok (.invokevirtual 133, 3) := by decide +kernel
theorem dX9_likes_43 : decode cX9_likes 43 = .ok (.ireturn, 1) := by decide +kernel
theorem dX9_loved_0 : decode cX9_loved 0 = .ok (.aload_n 0, 1) := by decide +kernel
theorem dX9_loved_1 : decode cX9_loved 1 = .ok (.getfield 24, 3) := by decide +kernel
theorem dX9_loved_4 : decode cX9_loved 4 = .ok (.getfield 100, 3) := by decide +kernel
theorem dX9_loved_7 : decode cX9_loved 7 = .ok (.iload_n 1, 1) := by decide +kernel
theorem dX9_loved_8 : decode cX9_loved 8 = .ok (.invokevirtual 114, 3) := by decide +kernel
theorem dX9_loved_11 : decode cX9_loved 11 = .ok (.ifCond .eq 20, 3) := by decide +kernel
theorem dX9_loved_14 : decode cX9_loved 14 = .ok (.aload_n 0, 1) := by decide +kernel
theorem dX9_loved_15 : decode cX9_loved 15 = .ok (.getfield 24, 3) := by decide +kernel
theorem dX9_loved_18 : decode cX9_loved 18 = .ok (.getfield 130, 3) := by decide +kernel
theorem dX9_loved_21 : decode cX9_loved 21 = .ok (.sipush 255, 3) := by decide +kernel
theorem dX9_loved_24 : decode cX9_loved 24 = .ok (.iload_n 1, 1) := by decide +kernel
theorem dX9_loved_25 : decode cX9_loved 25 = .ok (.invokevirtual 177, 3) := by decide +kernel
theorem dX9_loved_28 : decode cX9_loved 28 = .ok (.goto 5, 3) := by decide +kernel
theorem dX9_loved_31 : decode cX9_loved 31 = .ok (.bipush (-2), 2) := by decide +kernel
theorem dX9_loved_33 : decode cX9_loved 33 = .ok (.ireturn, 1) := by decide +kernel
theorem dX9_luck_0 : decode cX9_luck 0 = .ok (.aload_n 0, 1) := by decide +kernel
theorem dX9_luck_1 : decode cX9_luck 1 = .ok (.iload_n 1, 1) := by decide +kernel
theorem dX9_luck_2 : decode cX9_luck 2 = .ok (.iload_n 3, 1) := by decide +kernel
theorem dX9_luck_3 : decode cX9_luck 3 = .ok (.iload 4, 2) := by decide +kernel
theorem dX9_luck_5 : decode cX9_luck 5 = .ok (.invokevirtual 376, 3) := by decide +kernel
theorem dX9_luck_8 : decode cX9_luck 8 = .ok (.ifCond .eq 29, 3) := by decide +kernel
theorem dX9_luck_11 : decode cX9_luck 11 = .ok (.iload_n 2, 1) := by decide +kernel
theorem dX9_luck_12 : decode cX9_luck 12 = .ok (.iconst 1, 1) := by decide +kernel
theorem dX9_luck_13 : decode cX9_luck 13 = .ok (.if_icmp .lt 24, 3) := by decide +kernel
theorem dX9_luck_16 : decode cX9_luck 16 = .ok (.iload_n 2, 1) := by decide +kernel
theorem dX9_luck_17 : decode cX9_luck 17 = .ok (.bipush 20, 2) := by decide +kernel
theorem dX9_luck_19 : decode cX9_luck 19 = .ok (.if_icmp .gt 18, 3) := by decide +kernel
theorem dX9_luck_22 : decode cX9_luck 22 = .ok (.aload_n 0, 1) := by decide +kernel
theorem dX9_luck_23 : decode cX9_luck 23 = .ok (.getfield 24, 3) := by decide +kernel
theorem dX9_luck_26 : decode cX9_luck 26 = .ok (.getfield 100, 3) := by decide +kernel
theorem dX9_luck_29 : decode cX9_luck 29 = .ok (.iload 5, 2) := by decide +kernel
theorem dX9_luck_31 : decode cX9_luck 31 = .ok (.invokevirtual 171, 3) := by decide +kernel
theorem dX9_luck_34 : decode cX9_luck 34 = .ok (.ifCond .ne 6, 3) := by decide +kernel
theorem dX9_luck_37 : decode cX9_luck 37 = .ok (.bipush (-2), 2) := by decide +kernel
theorem dX9_luck_39 : decode cX9_luck 39 = .ok (.ireturn, 1) := by decide +kernel
theorem dX9_luck_40 : decode cX9_luck 40 = .ok (.iconst 0, 1) := by decide +kernel
theorem dX9_luck_41 : decode cX9_luck 41 = .ok (.istore 6, 2) := by decide +kernel
theorem dX9_luck_43 : decode cX9_luck 43 = .ok (.iconst 0, 1) := by decide +kernel
theorem dX9_luck_44 : decode cX9_luck 44 = .ok (.istore 7, 2) := by decide +kernel
theorem dX9_luck_46 : decode cX9_luck 46 = .ok (.iload 7, 2) := by decide +kernel
theorem dX9_luck_48 : decode cX9_luck 48 = .ok (.iload_n 2, 1) := by decide +kernel
theorem dX9_luck_49 : decode cX9_luck 49 = .ok (.if_icmp .ge 35, 3) := by decide +kernel
theorem dX9_luck_52 : decode cX9_luck 52 = .ok (.aload_n 0, 1) := by decide +kernel
theorem dX9_luck_53 : decode cX9_luck 53 = .ok (.iload_n 1, 1) := by decide +kernel
theorem dX9_luck_54 : decode cX9_luck 54 = .ok (.iload 7, 2) := by decide +kernel
theorem dX9_luck_56 : decode cX9_luck 56 = .ok (.iadd, 1) := by decide +kernel
theorem dX9_luck_57 : decode cX9_luck 57 = .ok (.iload_n 3, 1) := by decide +kernel
theorem dX9_luck_58 : decode cX9_luck 58 = .ok (.iload 4, 2) := by decide +kernel
theorem dX9_luck_60 : decode cX9_luck 60 = .ok (.invokevirtual 380, 3) := by decide +kernel
theorem dX9_luck_63 : decode cX9_luck 63 = .ok (.aload_n 0, 1) := by decide +kernel
theorem dX9_luck_64 : decode cX9_luck 64 = .ok (.getfield 53, 3) := by decide +kernel
theorem dX9_luck_67 : decode cX9_luck 67 = .ok (.getfield 226, 3) := by decide +kernel
theorem dX9_luck_70 : decode cX9_luck 70 = .ok (.iload 5, 2) := by decide +kernel
theorem dX9_luck_72 : decode cX9_luck 72 = .ok (.if_icmp .ne 6, 3) := by decide +kernel
theorem dX9_luck_75 : decode cX9_luck 75 = .ok (.iinc 6 1, 3) := by decide +kernel
theorem dX9_luck_78 : decode cX9_luck 78 = .ok (.iinc 7 1, 3) := by decide +kernel
theorem dX9_luck_81 : decode cX9_luck 81 = .ok (.goto (-35), 3) := by decide +kernel
theorem dX9_luck_84 : decode cX9_luck 84 = .ok (.iload 6, 2) := by decide +kernel
theorem dX9_luck_86 : decode cX9_luck 86 = .ok (.ireturn, 1) := by decide +kernel
theorem dX9_mate_0 : decode cX9_mate 0 = .ok (.aload_n 0, 1) := by decide +kernel
theorem dX9_mate_1 : decode cX9_mate 1 = .ok (.getfield 24, 3) := by decide +kernel
theorem dX9_mate_4 : decode cX9_mate 4 = .ok (.getfield 100, 3) := by decide +kernel
theorem dX9_mate_7 : decode cX9_mate 7 = .ok (.iload_n 1, 1) := by decide +kernel
theorem dX9_mate_8 : decode cX9_mate 8 = .ok (.invokevirtual 127, 3) := by decide +kernel
theorem dX9_mate_11 : decode cX9_mate 11 = .ok (.ifCond .ne 6, 3) := by decide +kernel
theorem dX9_mate_14 : decode cX9_mate 14 = .ok (.bipush (-2), 2) := by decide +kernel
theorem dX9_mate_16 : decode cX9_mate 16 = .ok (.ireturn, 1) := by decide +kernel
theorem dX9_mate_17 : decode cX9_mate 17 = .ok (.iconst (-1), 1) := by decide +kernel
theorem dX9_mate_18 : decode cX9_mate 18 = .ok (.istore_n 2, 1) := by decide +kernel
theorem dX9_mate_19 : decode cX9_mate 19 = .ok (.iconst (-1), 1) := by decide +kernel
theorem dX9_mate_20 : decode cX9_mate 20 = .ok (.istore_n 3, 1) := by decide +kernel
theorem dX9_mate_21 : decode cX9_mate 21 = .ok (.iconst 0, 1) := by decide +kernel
theorem dX9_mate_22 : decode cX9_mate 22 = .ok (.istore 4, 2) := by decide +kernel
theorem dX9_mate_24 : decode cX9_mate 24 = .ok (.iload 4, 2) := by decide +kernel
theorem dX9_mate_26 : decode cX9_mate 26 = .ok (.aload_n 0, 1) := by decide +kernel
theorem dX9_mate_27 : decode cX9_mate 27 = .ok (.getfield 24, 3) := by decide +kernel
theorem dX9_mate_30 : decode cX9_mate 30 = .ok (.getfield 100, 3) := by decide +kernel
theorem dX9_mate_33 : decode cX9_mate 33 = .ok (.getfield 314, 3) := by decide +kernel
theorem dX9_mate_36 : decode cX9_mate 36 = .ok (.if_icmp .ge 36, 3) := by decide +kernel
theorem dX9_mate_39 : decode cX9_mate 39 = .ok (.iload 4, 2) := by decide +kernel
theorem dX9_mate_41 : decode cX9_mate 41 = .ok (.iload_n 1, 1) := by decide +kernel
theorem dX9_mate_42 : decode cX9_mate 42 = .ok (.if_icmp .eq 24, 3) := by decide +kernel
theorem dX9_mate_45 : decode cX9_mate 45 = .ok (.aload_n 0, 1) := by decide +kernel
theorem dX9_mate_46 : decode cX9_mate 46 = .ok (.iload_n 1, 1) := by decide +kernel
theorem dX9_mate_47 : decode cX9_mate 47 = .ok (.iload 4, 2) := by decide +kernel
theorem dX9_mate_49 : decode cX9_mate 49 = .ok (.invokevirtual 352, 3) := by decide +kernel
theorem dX9_mate_52 : decode cX9_mate 52 = .ok (.istore 5, 2) := by decide +kernel
theorem dX9_mate_54 : decode cX9_mate 54 = .ok (.iload 5, 2) := by decide +kernel
theorem dX9_mate_56 : decode cX9_mate 56 = .ok (.iload_n 3, 1) := by decide +kernel
theorem dX9_mate_57 : decode cX9_mate 57 = .ok (.if_icmp .le 9, 3) := by decide +kernel
theorem dX9_mate_60 : decode cX9_mate 60 = .ok (.iload 5, 2) := by decide +kernel
theorem dX9_mate_62 : decode cX9_mate 62 = .ok (.istore_n 3, 1) := by decide +kernel
theorem dX9_mate_63 : decode cX9_mate 63 = .ok (.iload 4, 2) := by decide +kernel
theorem dX9_mate_65 : decode cX9_mate 65 = .ok (.istore_n 2, 1) := by decide +kernel
theorem dX9_mate_66 : decode cX9_mate 66 = .ok (.iinc 4 1, 3) := by decide +kernel
theorem dX9_mate_69 : decode cX9_mate 69 = .ok (.goto (-45), 3) := by decide +kernel
theorem dX9_mate_72 : decode cX9_mate 72 = .ok (.iload_n 2, 1) := by decide +kernel
theorem dX9_mate_73 : decode cX9_mate 73 = .ok (.ireturn, 1) := by decide +kernel
theorem dX9_meet_0 : decode cX9_meet 0 = .ok (.aload_n 0, 1) := by decide +kernel
theorem dX9_meet_1 : decode cX9_meet 1 = .ok (.getfield 24, 3) := by decide +kernel
theorem dX9_meet_4 : decode cX9_meet 4 = .ok (.getfield 100, 3) := by decide +kernel
theorem dX9_meet_7 : decode cX9_meet 7 = .ok (.iload_n 1, 1) := by decide +kernel
theorem dX9_meet_8 : decode cX9_meet 8 = .ok (.invokevirtual 147, 3) := by decide +kernel
theorem dX9_meet_11 : decode cX9_meet 11 = .ok (.ifCond .eq 17, 3) := by decide +kernel
theorem dX9_meet_14 : decode cX9_meet 14 = .ok (.aload_n 0, 1) := by decide +kernel
theorem dX9_meet_15 : decode cX9_meet 15 = .ok (.getfield 24, 3) := by decide +kernel
theorem dX9_meet_18 : decode cX9_meet 18 = .ok (.getfield 100, 3) := by decide +kernel
theorem dX9_meet_21 : decode cX9_meet 21 = .ok (.iload_n 2, 1) := by decide +kernel
theorem dX9_meet_22 : decode cX9_meet 22 = .ok (.invokevirtual 171, 3) := by decide +kernel
theorem dX9_meet_25 : decode cX9_meet 25 = .ok (.ifCond .ne 6, 3) := by decide +kernel
theorem dX9_meet_28 : decode cX9_meet 28 = .ok (.bipush (-2), 2) := by decide +kernel
theorem dX9_meet_30 : decode cX9_meet 30 = .ok (.ireturn, 1) := by decide +kernel
theorem dX9_meet_31 : decode cX9_meet 31 = .ok (.aload_n 0, 1) := by decide +kernel
theorem dX9_meet_32 : decode cX9_meet 32 = .ok (.iload_n 1, 1) := by decide +kernel
theorem dX9_meet_33 : decode cX9_meet 33 = .ok (.iload_n 2, 1) := by decide +kernel
theorem dX9_meet_34 : decode cX9_meet 34 = .ok (.invokevirtual 326, 3) := by decide +kernel
theorem dX9_meet_37 : decode cX9_meet 37 = .ok (.ireturn, 1) := by decide +kernel
theorem dX9_meetIn_0 : decode cX9_meetIn 0 = .ok (.aload_n 0, 1) := by decide +kernel
theorem dX9_meetIn_1 : decode cX9_meetIn 1 = .ok (.getfield 46, 3) := by decide +kernel
theorem dX9_meetIn_4 : decode cX9_meetIn 4 = .ok (.aload_n 0, 1) := by decide +kernel
theorem dX9_meetIn_5 : decode cX9_meetIn 5 = .ok (.getfield 24, 3) := by decide +kernel
theorem dX9_meetIn_8 : decode cX9_meetIn 8 = .ok (.getfield 130, 3) := by decide +kernel
theorem dX9_meetIn_11 : decode cX9_meetIn 11 = .ok (.invokevirtual 253, 3) := by decide +kernel
theorem dX9_meetIn_14 : decode cX9_meetIn 14 = .ok (.iconst 1, 1) := by decide +kernel
theorem dX9_meetIn_15 : decode cX9_meetIn 15 = .ok (.iload_n 2, 1) := by decide +kernel
theorem dX9_meetIn_16 : decode cX9_meetIn 16 = .ok (.ishl, 1) := by decide +kernel
theorem dX9_meetIn_17 : decode cX9_meetIn 17 = .ok (.istore_n 3, 1) := by decide +kernel
theorem dX9_meetIn_18 : decode cX9_meetIn 18 = .ok (.iconst 0, 1) := by decide +kernel
theorem dX9_meetIn_19 : decode cX9_meetIn 19 = .ok (.istore 4, 2) := by decide +kernel
theorem dX9_meetIn_21 : decode cX9_meetIn 21 = .ok (.iload 4, 2) := by decide +kernel
theorem dX9_meetIn_23 : decode cX9_meetIn 23 = .ok (.bipush 40, 2) := by decide +kernel
theorem dX9_meetIn_25 : decode cX9_meetIn 25 = .ok (.if_icmp .gt 57, 3) := by decide +kernel
theorem dX9_meetIn_28 : decode cX9_meetIn 28 = .ok (.iload_n 3, 1) := by decide +kernel
theorem dX9_meetIn_29 : decode cX9_meetIn 29 = .ok (.aload_n 0, 1) := by decide +kernel
theorem dX9_meetIn_30 : decode cX9_meetIn 30 = .ok (.getfield 46, 3) := by decide +kernel
theorem dX9_meetIn_33 : decode cX9_meetIn 33 = .ok (.getfield 150, 3) := by decide +kernel
theorem dX9_meetIn_36 : decode cX9_meetIn 36 = .ok (.iload_n 1, 1) := by decide +kernel
theorem dX9_meetIn_37 : decode cX9_meetIn 37 = .ok (.iaload, 1) := by decide +kernel
theorem dX9_meetIn_38 : decode cX9_meetIn 38 = .ok (.ishr, 1) := by decide +kernel
theorem dX9_meetIn_39 : decode cX9_meetIn 39 = .ok (.iconst 1, 1) := by decide +kernel
theorem dX9_meetIn_40 : decode cX9_meetIn 40 = .ok (.iand, 1) := by decide +kernel
theorem dX9_meetIn_41 : decode cX9_meetIn 41 = .ok (.ifCond .eq 6, 3) := by decide +kernel
theorem dX9_meetIn_44 : decode cX9_meetIn 44 = .ok (.iload 4, 2) := by decide +kernel
theorem dX9_meetIn_46 : decode cX9_meetIn 46 = .ok (.ireturn, 1) := by decide +kernel
theorem dX9_meetIn_47 : decode cX9_meetIn 47 = .ok (.aload_n 0, 1) := by decide +kernel
theorem dX9_meetIn_48 : decode cX9_meetIn 48 = .ok (.getfield 24, 3) := by decide +kernel
theorem dX9_meetIn_51 : decode cX9_meetIn 51 = .ok (.getfield 100, 3) := by decide +kernel
theorem dX9_meetIn_54 : decode cX9_meetIn 54 = .ok (.iload_n 3, 1) := by decide +kernel
theorem dX9_meetIn_55 : decode cX9_meetIn 55 = .ok (.invokevirtual 329, 3) := by decide +kernel
theorem dX9_meetIn_58 : decode cX9_meetIn 58 = .ok (.istore_n 3, 1) := by decide +kernel
theorem dX9_meetIn_59 : decode cX9_meetIn 59 = .ok (.aload_n 0, 1) := by decide +kernel
theorem dX9_meetIn_60 : decode cX9_meetIn 60 = .ok (.getfield 46, 3) := by decide +kernel
theorem dX9_meetIn_63 : decode cX9_meetIn 63 = .ok (.aload_n 0, 1) := by decide +kernel
theorem dX9_meetIn_64 : decode cX9_meetIn 64 = .ok (.getfield 24, 3) := by decide +kernel
theorem dX9_meetIn_67 : decode cX9_meetIn 67 = .ok (.getfield 100, 3) := by decide +kernel
theorem dX9_meetIn_70 : decode cX9_meetIn 70 = .ok (.iload_n 1, 1) := by decide +kernel
theorem dX9_meetIn_71 : decode cX9_meetIn 71 = .ok (.iconst (-1), 1) := by decide +kernel
theorem dX9_meetIn_72 : decode cX9_meetIn 72 = .ok (.invokevirtual 317, 3) := by decide +kernel
theorem dX9_meetIn_75 : decode cX9_meetIn 75 = .ok (.pop, 1) := by decide +kernel
theorem dX9_meetIn_76 : decode cX9_meetIn 76 = .ok (.iinc 4 1, 3) := by decide +kernel
theorem dX9_meetIn_79 : decode cX9_meetIn 79 = .ok (.goto (-58), 3) := by decide +kernel
theorem dX9_meetIn_82 : decode cX9_meetIn 82 = .ok (.iconst (-1), 1) := by decide +kernel
theorem dX9_meetIn_83 : decode cX9_meetIn 83 = .ok (.ireturn, 1) := by decide +kernel
theorem dX9_met_0 : decode cX9_met 0 = .ok (.aload_n 0, 1) := by decide +kernel
theorem dX9_met_1 : decode cX9_met 1 = .ok (.getfield 24, 3) := by decide +kernel
theorem dX9_met_4 : decode cX9_met 4 = .ok (.getfield 100, 3) := by decide +kernel
theorem dX9_met_7 : decode cX9_met 7 = .ok (.iload_n 1, 1) := by decide +kernel
theorem dX9_met_8 : decode cX9_met 8 = .ok (.invokevirtual 147, 3) := by decide +kernel
theorem dX9_met_11 : decode cX9_met 11 = .ok (.ifCond .eq 17, 3) := by decide +kernel
theorem dX9_met_14 : decode cX9_met 14 = .ok (.aload_n 0, 1) := by decide +kernel
theorem dX9_met_15 : decode cX9_met 15 = .ok (.getfield 24, 3) := by decide +kernel
theorem dX9_met_18 : decode cX9_met 18 = .ok (.getfield 100, 3) := by decide +kernel
theorem dX9_met_21 : decode cX9_met 21 = .ok (.iload_n 2, 1) := by decide +kernel
theorem dX9_met_22 : decode cX9_met 22 = .ok (.invokevirtual 171, 3) := by decide +kernel
theorem dX9_met_25 : decode cX9_met 25 = .ok (.ifCond .ne 6, 3) := by decide +kernel
theorem dX9_met_28 : decode cX9_met 28 = .ok (.bipush (-2), 2) := by decide +kernel
theorem dX9_met_30 : decode cX9_met 30 = .ok (.ireturn, 1) := by decide +kernel
theorem dX9_met_31 : decode cX9_met 31 = .ok (.aload_n 0, 1) := by decide +kernel
theorem dX9_met_32 : decode cX9_met 32 = .ok (.iload_n 1, 1) := by decide +kernel
theorem dX9_met_33 : decode cX9_met 33 = .ok (.iload_n 2, 1) := by decide +kernel
theorem dX9_met_34 : decode cX9_met 34 = .ok (.invokevirtual 326, 3) := by decide +kernel
theorem dX9_met_37 : decode cX9_met 37 = .ok (.iconst (-1), 1) := by decide +kernel
theorem dX9_met_38 : decode cX9_met 38 = .ok (.if_icmp .ne 7, 3) := by decide +kernel
theorem dX9_met_41 : decode cX9_met 41 = .ok (.iconst (-1), 1) := by decide +kernel
theorem dX9_met_42 : decode cX9_met 42 = .ok (.goto 12, 3) := by decide +kernel
theorem dX9_met_45 : decode cX9_met 45 = .ok (.aload_n 0, 1) := by decide +kernel
theorem dX9_met_46 : decode cX9_met 46 = .ok (.getfield 46, 3) := by decide +kernel
theorem dX9_met_49 : decode cX9_met 49 = .ok (.getfield 150, 3) := by decide +kernel
theorem dX9_met_52 : decode cX9_met 52 = .ok (.iload_n 1, 1) := by decide +kernel
theorem dX9_met_53 : decode cX9_met 53 = .ok (.iaload, 1) := by decide +kernel
theorem dX9_met_54 : decode cX9_met 54 = .ok (.ireturn, 1) := by decide +kernel
theorem dX9_nthBit_0 : decode cX9_nthBit 0 = .ok (.iload_n 1, 1) := by decide +kernel
theorem dX9_nthBit_1 : decode cX9_nthBit 1 = .ok (.istore_n 2, 1) := by decide +kernel
theorem dX9_nthBit_2 : decode cX9_nthBit 2 = .ok (.iconst 0, 1) := by decide +kernel
theorem dX9_nthBit_3 : decode cX9_nthBit 3 = .ok (.istore_n 3, 1) := by decide +kernel
theorem dX9_nthBit_4 : decode cX9_nthBit 4 = .ok (.iload_n 3, 1) := by decide +kernel
theorem dX9_nthBit_5 : decode cX9_nthBit 5 = .ok (.bipush 8, 2) := by decide +kernel
theorem dX9_nthBit_7 : decode cX9_nthBit 7 = .ok (.if_icmp .ge 26, 3) := by decide +kernel
theorem dX9_nthBit_10 : decode cX9_nthBit 10 = .ok (.iload_n 0, 1) := by decide +kernel
theorem dX9_nthBit_11 : decode cX9_nthBit 11 = .ok (.iload_n 3, 1) := by decide +kernel
theorem dX9_nthBit_12 : decode cX9_nthBit 12 = .ok (.ishr, 1) := by decide +kernel
theorem dX9_nthBit_13 : decode cX9_nthBit 13 = .ok (.iconst 1, 1) := by decide +kernel
theorem dX9_nthBit_14 : decode cX9_nthBit 14 = .ok (.iand, 1) := by decide +kernel
theorem dX9_nthBit_15 : decode cX9_nthBit 15 = .ok (.ifCond .eq 12, 3) := by decide +kernel
theorem dX9_nthBit_18 : decode cX9_nthBit 18 = .ok (.iload_n 2, 1) := by decide +kernel
theorem dX9_nthBit_19 : decode cX9_nthBit 19 = .ok (.ifCond .ne 5, 3) := by decide +kernel
theorem dX9_nthBit_22 : decode cX9_nthBit 22 = .ok (.iload_n 3, 1) := by decide +kernel
theorem dX9_nthBit_23 : decode cX9_nthBit 23 = .ok (.ireturn, 1) := by decide +kernel
theorem dX9_nthBit_24 : decode cX9_nthBit 24 = .ok (.iinc 2 (-1), 3) := by decide +kernel
theorem dX9_nthBit_27 : decode cX9_nthBit 27 = .ok (.iinc 3 1, 3) := by decide +kernel
theorem dX9_nthBit_30 : decode cX9_nthBit 30 = .ok (.goto (-26), 3) := by decide +kernel
theorem dX9_nthBit_33 : decode cX9_nthBit 33 = .ok (.iconst (-1), 1) := by decide +kernel
theorem dX9_nthBit_34 : decode cX9_nthBit 34 = .ok (.ireturn, 1) := by decide +kernel
theorem dX9_paste_0 : decode cX9_paste 0 = .ok (.aload_n 0, 1) := by decide +kernel
theorem dX9_paste_1 : decode cX9_paste 1 = .ok (.getfield 39, 3) := by decide +kernel
theorem dX9_paste_4 : decode cX9_paste 4 = .ok (.iload_n 1, 1) := by decide +kernel
theorem dX9_paste_5 : decode cX9_paste 5 = .ok (.invokevirtual 238, 3) := by decide +kernel
theorem dX9_paste_8 : decode cX9_paste 8 = .ok (.ifCond .eq 14, 3) := by decide +kernel
theorem dX9_paste_11 : decode cX9_paste 11 = .ok (.aload_n 0, 1) := by decide +kernel
theorem dX9_paste_12 : decode cX9_paste 12 = .ok (.getfield 39, 3) := by decide +kernel
theorem dX9_paste_15 : decode cX9_paste 15 = .ok (.iload_n 3, 1) := by decide +kernel
theorem dX9_paste_16 : decode cX9_paste 16 = .ok (.invokevirtual 238, 3) := by decide +kernel
theorem dX9_paste_19 : decode cX9_paste 19 = .ok (.ifCond .ne 6, 3) := by decide +kernel
theorem dX9_paste_22 : decode cX9_paste 22 = .ok (.bipush (-2), 2) := by decide +kernel
theorem dX9_paste_24 : decode cX9_paste 24 = .ok (.ireturn, 1) := by decide +kernel
theorem dX9_paste_25 : decode cX9_paste 25 = .ok (.aload_n 0, 1) := by decide +kernel
theorem dX9_paste_26 : decode cX9_paste 26 = .ok (.getfield 39, 3) := by decide +kernel
theorem dX9_paste_29 : decode cX9_paste 29 = .ok (.iload_n 1, 1) := by decide +kernel
theorem dX9_paste_30 : decode cX9_paste 30 = .ok (.invokevirtual 241, 3) := by decide +kernel
theorem dX9_paste_33 : decode cX9_paste 33 = .ok (.ifCond .eq 14, 3) := by decide +kernel
theorem dX9_paste_36 : decode cX9_paste 36 = .ok (.aload_n 0, 1) := by decide +kernel
theorem dX9_paste_37 : decode cX9_paste 37 = .ok (.getfield 39, 3) := by decide +kernel
theorem dX9_paste_40 : decode cX9_paste 40 = .ok (.iload_n 3, 1) := by decide +kernel
theorem dX9_paste_41 : decode cX9_paste 41 = .ok (.invokevirtual 241, 3) := by decide +kernel
theorem dX9_paste_44 : decode cX9_paste 44 = .ok (.ifCond .ne 6, 3) := by decide +kernel
theorem dX9_paste_47 : decode cX9_paste 47 = .ok (.bipush (-6), 2) := by decide +kernel
theorem dX9_paste_49 : decode cX9_paste 49 = .ok (.ireturn, 1) := by decide +kernel
theorem dX9_paste_50 : decode cX9_paste 50 = .ok (.aload_n 0, 1) := by decide +kernel
theorem dX9_paste_51 : decode cX9_paste 51 = .ok (.getfield 39, 3) := by decide +kernel
theorem dX9_paste_54 : decode cX9_paste 54 = .ok (.getfield 425, 3) := by decide +kernel
theorem dX9_paste_57 : decode cX9_paste 57 = .ok (.iload_n 1, 1) := by decide +kernel
theorem dX9_paste_58 : decode cX9_paste 58 = .ok (.iaload, 1) := by decide +kernel
theorem dX9_paste_59 : decode cX9_paste 59 = .ok (.aload_n 0, 1) := by decide +kernel
theorem dX9_paste_60 : decode cX9_paste 60 = .ok (.getfield 39, 3) := by decide +kernel
theorem dX9_paste_63 : decode cX9_paste 63 = .ok (.getfield 425, 3) := by decide +kernel
theorem dX9_paste_66 : decode cX9_paste 66 = .ok (.iload_n 3, 1) := by decide +kernel
theorem dX9_paste_67 : decode cX9_paste 67 = .ok (.iaload, 1) := by decide +kernel
theorem dX9_paste_68 : decode cX9_paste 68 = .ok (.if_icmp .eq 6, 3) := by decide +kernel
theorem dX9_paste_71 : decode cX9_paste 71 = .ok (.bipush (-8), 2) := by decide +kernel
theorem dX9_paste_73 : decode cX9_paste 73 = .ok (.ireturn, 1) := by decide +kernel
theorem dX9_paste_74 : decode cX9_paste 74 = .ok (.aload_n 0, 1) := by decide +kernel
theorem dX9_paste_75 : decode cX9_paste 75 = .ok (.getfield 39, 3) := by decide +kernel
theorem dX9_paste_78 : decode cX9_paste 78 = .ok (.iload_n 1, 1) := by decide +kernel
theorem dX9_paste_79 : decode cX9_paste 79 = .ok (.iload_n 2, 1) := by decide +kernel
theorem dX9_paste_80 : decode cX9_paste 80 = .ok (.iload 5, 2) := by decide +kernel
theorem dX9_paste_82 : decode cX9_paste 82 = .ok (.invokevirtual 428, 3) := by decide +kernel
theorem dX9_paste_85 : decode cX9_paste 85 = .ok (.ifCond .eq 18, 3) := by decide +kernel
theorem dX9_paste_88 : decode cX9_paste 88 = .ok (.aload_n 0, 1) := by decide +kernel
theorem dX9_paste_89 : decode cX9_paste 89 = .ok (.getfield 39, 3) := by decide +kernel
theorem dX9_paste_92 : decode cX9_paste 92 = .ok (.iload_n 3, 1) := by decide +kernel
theorem dX9_paste_93 : decode cX9_paste 93 = .ok (.iload 4, 2) := by decide +kernel
theorem dX9_paste_95 : decode cX9_paste 95 = .ok (.iload 5, 2) := by decide +kernel
theorem dX9_paste_97 : decode cX9_paste 97 = .ok (.invokevirtual 428, 3) := by decide +kernel
theorem dX9_paste_100 : decode cX9_paste 100 = .ok (.ifCond .ne 6, 3) := by decide +kernel
theorem dX9_paste_103 : decode cX9_paste 103 = .ok (.bipush (-7), 2) := by decide +kernel
theorem dX9_paste_105 : decode cX9_paste 105 = .ok (.ireturn, 1) := by decide +kernel
theorem dX9_paste_106 : decode cX9_paste 106 = .ok (.aload_n 0, 1) := by decide +kernel
theorem dX9_paste_107 : decode cX9_paste 107 = .ok (.getfield 39, 3) := by decide +kernel
theorem dX9_paste_110 : decode cX9_paste 110 = .ok (.getfield 247, 3) := by decide +kernel
theorem dX9_paste_113 : decode cX9_paste 113 = .ok (.iload_n 1, 1) := by decide +kernel
theorem dX9_paste_114 : decode cX9_paste 114 = .ok (.aaload, 1) := by decide +kernel
theorem dX9_paste_115 : decode cX9_paste 115 = .ok (.iload_n 2, 1) := by decide +kernel
theorem dX9_paste_116 : decode cX9_paste 116 = .ok (.aload_n 0, 1) := by decide +kernel
theorem dX9_paste_117 : decode cX9_paste 117 = .ok (.getfield 39, 3) := by decide +kernel
theorem dX9_paste_120 : decode cX9_paste 120 = .ok (.getfield 247, 3) := by decide +kernel
theorem dX9_paste_123 : decode cX9_paste 123 = .ok (.iload_n 3, 1) := by decide +kernel
theorem dX9_paste_124 : decode cX9_paste 124 = .ok (.aaload, 1) := by decide +kernel
theorem dX9_paste_125 : decode cX9_paste 125 = .ok (.iload 4, 2) := by decide +kernel
theorem dX9_paste_127 : decode cX9_paste 127 = .ok (.iload 5, 2) := by decide +kernel
theorem dX9_paste_129 : decode cX9_paste 129 = .ok (.invokestatic 431, 3) := by decide +kernel
theorem dX9_paste_132 : decode cX9_paste 132 = .ok (.iconst 0, 1) := by decide +kernel
theorem dX9_paste_133 : decode cX9_paste 133 = .ok (.ireturn, 1) := by decide +kernel
theorem dX9_picks_0 : decode cX9_picks 0 = .ok (.aload_n 0, 1) := by decide +kernel
theorem dX9_picks_1 : decode cX9_picks 1 = .ok (.getfield 24, 3) := by decide +kernel
theorem dX9_picks_4 : decode cX9_picks 4 = .ok (.getfield 100, 3) := by decide +kernel
theorem dX9_picks_7 : decode cX9_picks 7 = .ok (.invokevirtual 211, 3) := by decide +kernel
theorem dX9_picks_10 : decode cX9_picks 10 = .ok (.ifCond .ne 6, 3) := by decide +kernel
theorem dX9_picks_13 : decode cX9_picks 13 = .ok (.bipush (-2), 2) := by decide +kernel
theorem dX9_picks_15 : decode cX9_picks 15 = .ok (.ireturn, 1) := by decide +kernel
theorem dX9_picks_16 : decode cX9_picks 16 = .ok (.aload_n 0, 1) := by decide +kernel
theorem dX9_picks_17 : decode cX9_picks 17 = .ok (.getfield 67, 3) := by decide +kernel
theorem dX9_picks_20 : decode cX9_picks 20 = .ok (.aload_n 0, 1) := by decide +kernel
theorem dX9_picks_21 : decode cX9_picks 21 = .ok (.getfield 24, 3) := by decide +kernel
theorem dX9_picks_24 : decode cX9_picks 24 = .ok (.getfield 100, 3) := by decide +kernel
theorem dX9_picks_27 : decode cX9_picks 27 = .ok (.aload_n 0, 1) := by decide +kernel
theorem dX9_picks_28 : decode cX9_picks 28 = .ok (.getfield 24, 3) := by decide +kernel
theorem dX9_picks_31 : decode cX9_picks 31 = .ok (.getfield 130, 3) := by decide +kernel
theorem dX9_picks_34 : decode cX9_picks 34 = .ok (.aload_n 0, 1) := by decide +kernel
theorem dX9_picks_35 : decode cX9_picks 35 = .ok (.invokevirtual 300, 3) := by decide +kernel
theorem dX9_picks_38 : decode cX9_picks 38 = .ok (.invokevirtual 373, 3) := by decide +kernel
theorem dX9_picks_41 : decode cX9_picks 41 = .ok (.ireturn, 1) := by decide +kernel
theorem dX9_placeToAsk_0 : decode cX9_placeToAsk 0 = .ok (.iconst (-1), 1) := by decide +kernel
theorem dX9_placeToAsk_1 : decode cX9_placeToAsk 1 = .ok (.istore_n 2, 1) := by decide +kernel
theorem dX9_placeToAsk_2 : decode cX9_placeToAsk 2 = .ok (.iload_n 1, 1) := by decide +kernel
theorem dX9_placeToAsk_3 : decode cX9_placeToAsk 3 = .ok (.invokestatic 303, 3) := by decide +kernel
theorem dX9_placeToAsk_6 : decode cX9_placeToAsk 6 = .ok (.istore_n 3, 1) := by decide +kernel
theorem dX9_placeToAsk_7 : decode cX9_placeToAsk 7 = .ok (.iconst 0, 1) := by decide +kernel
theorem dX9_placeToAsk_8 : decode cX9_placeToAsk 8 = .ok (.istore 4, 2) := by decide +kernel
theorem dX9_placeToAsk_10 : decode cX9_placeToAsk 10 = .ok (.iload 4, 2) := by decide +kernel
theorem dX9_placeToAsk_12 : decode cX9_placeToAsk 12 = .ok (.aload_n 0, 1) := by decide +kernel
theorem dX9_placeToAsk_13 : decode cX9_placeToAsk 13 = .ok (.getfield 24, 3) := by decide +kernel
theorem dX9_placeToAsk_16 : decode cX9_placeToAsk 16 = .ok (.getfield 100, 3) := by decide +kernel
theorem dX9_placeToAsk_19 : decode cX9_placeToAsk 19 = .ok (.getfield 273, 3) := by decide +kernel
theorem dX9_placeToAsk_22 : decode cX9_placeToAsk 22 = .ok (.if_icmp .ge 30, 3) := by decide +kernel
theorem dX9_placeToAsk_25 : decode cX9_placeToAsk 25 = .ok (.aload_n 0, 1) := by decide +kernel
theorem dX9_placeToAsk_26 : decode cX9_placeToAsk 26 = .ok (.iload 4, 2) := by decide +kernel
theorem dX9_placeToAsk_28 : decode cX9_placeToAsk 28 = .ok (.iload_n 1, 1) := by decide +kernel
theorem dX9_placeToAsk_29 : decode cX9_placeToAsk 29 = .ok (.invokevirtual 338, 3) := by decide +kernel
theorem dX9_placeToAsk_32 : decode cX9_placeToAsk 32 = .ok (.istore 5, 2) := by decide +kernel
theorem dX9_placeToAsk_34 : decode cX9_placeToAsk 34 = .ok (.iload 5, 2) := by decide +kernel
theorem dX9_placeToAsk_36 : decode cX9_placeToAsk 36 = .ok (.iload_n 3, 1) := by decide +kernel
theorem dX9_placeToAsk_37 : decode cX9_placeToAsk 37 = .ok (.if_icmp .ge 9, 3) := by decide +kernel
theorem dX9_placeToAsk_40 : decode cX9_placeToAsk 40 = .ok (.iload 5, 2) := by decide +kernel
theorem dX9_placeToAsk_42 : decode cX9_placeToAsk 42 = .ok (.istore_n 3, 1) := by decide +kernel
theorem dX9_placeToAsk_43 : decode cX9_placeToAsk 43 = .ok (.iload 4, 2) := by decide +kernel
theorem dX9_placeToAsk_45 : decode cX9_placeToAsk 45 = .ok (.istore_n 2, 1) := by decide +kernel
theorem dX9_placeToAsk_46 : decode cX9_placeToAsk 46 = .ok (.iinc 4 1, 3) := by decide +kernel
theorem dX9_placeToAsk_49 : decode cX9_placeToAsk 49 = .ok (.goto (-39), 3) := by decide +kernel
theorem dX9_placeToAsk_52 : decode cX9_placeToAsk 52 = .ok (.iload_n 2, 1) := by decide +kernel
theorem dX9_placeToAsk_53 : decode cX9_placeToAsk 53 = .ok (.ireturn, 1) := by decide +kernel
theorem dX9_pull_0 : decode cX9_pull 0 = .ok (.aload_n 0, 1) := by decide +kernel
theorem dX9_pull_1 : decode cX9_pull 1 = .ok (.getfield 24, 3) := by decide +kernel
theorem dX9_pull_4 : decode cX9_pull 4 = .ok (.getfield 100, 3) := by decide +kernel
theorem dX9_pull_7 : decode cX9_pull 7 = .ok (.iload_n 1, 1) := by decide +kernel
theorem dX9_pull_8 : decode cX9_pull 8 = .ok (.invokevirtual 147, 3) := by decide +kernel
theorem dX9_pull_11 : decode cX9_pull 11 = .ok (.ifCond .eq 17, 3) := by decide +kernel
theorem dX9_pull_14 : decode cX9_pull 14 = .ok (.aload_n 0, 1) := by decide +kernel
theorem dX9_pull_15 : decode cX9_pull 15 = .ok (.getfield 24, 3) := by decide +kernel
theorem dX9_pull_18 : decode cX9_pull 18 = .ok (.getfield 100, 3) := by decide +kernel
theorem dX9_pull_21 : decode cX9_pull 21 = .ok (.iload_n 2, 1) := by decide +kernel
theorem dX9_pull_22 : decode cX9_pull 22 = .ok (.invokevirtual 114, 3) := by decide +kernel
theorem dX9_pull_25 : decode cX9_pull 25 = .ok (.ifCond .ne 6, 3) := by decide +kernel
theorem dX9_pull_28 : decode cX9_pull 28 = .ok (.bipush (-2), 2) := by decide +kernel
theorem dX9_pull_30 : decode cX9_pull 30 = .ok (.ireturn, 1) := by decide +kernel
theorem dX9_pull_31 : decode cX9_pull 31 = .ok (.aload_n 0, 1) := by decide +kernel
theorem dX9_pull_32 : decode cX9_pull 32 = .ok (.getfield 24, 3) := by decide +kernel
theorem dX9_pull_35 : decode cX9_pull 35 = .ok (.getfield 130, 3) := by decide +kernel
theorem dX9_pull_38 : decode cX9_pull 38 = .ok (.aload_n 0, 1) := by decide +kernel
theorem dX9_pull_39 : decode cX9_pull 39 = .ok (.getfield 24, 3) := by decide +kernel
theorem dX9_pull_42 : decode cX9_pull 42 = .ok (.getfield 130, 3) := by decide +kernel
theorem dX9_pull_45 : decode cX9_pull 45 = .ok (.iload_n 1, 1) := by decide +kernel
theorem dX9_pull_46 : decode cX9_pull 46 = .ok (.invokevirtual 153, 3) := by decide +kernel
theorem dX9_pull_49 : decode cX9_pull 49 = .ok (.iload_n 2, 1) := by decide +kernel
theorem dX9_pull_50 : decode cX9_pull 50 = .ok (.invokevirtual 177, 3) := by decide +kernel
theorem dX9_pull_53 : decode cX9_pull 53 = .ok (.ireturn, 1) := by decide +kernel
theorem dX9_ran_0 : decode cX9_ran 0 = .ok (.aload_n 0, 1) := by decide +kernel
theorem dX9_ran_1 : decode cX9_ran 1 = .ok (.iload_n 1, 1) := by decide +kernel
theorem dX9_ran_2 : decode cX9_ran 2 = .ok (.iload_n 2, 1) := by decide +kernel
theorem dX9_ran_3 : decode cX9_ran 3 = .ok (.invokevirtual 220, 3) := by decide +kernel
theorem dX9_ran_6 : decode cX9_ran 6 = .ok (.istore_n 3, 1) := by decide +kernel
theorem dX9_ran_7 : decode cX9_ran 7 = .ok (.iload_n 3, 1) := by decide +kernel
theorem dX9_ran_8 : decode cX9_ran 8 = .ok (.ifCond .eq 7, 3) := by decide +kernel
theorem dX9_ran_11 : decode cX9_ran 11 = .ok (.iload_n 3, 1) := by decide +kernel
theorem dX9_ran_12 : decode cX9_ran 12 = .ok (.goto 10, 3) := by decide +kernel
theorem dX9_ran_15 : decode cX9_ran 15 = .ok (.aload_n 0, 1) := by decide +kernel
theorem dX9_ran_16 : decode cX9_ran 16 = .ok (.getfield 53, 3) := by decide +kernel
theorem dX9_ran_19 : decode cX9_ran 19 = .ok (.getfield 229, 3) := by decide +kernel
theorem dX9_ran_22 : decode cX9_ran 22 = .ok (.ireturn, 1) := by decide +kernel
theorem dX9_reach_0 : decode cX9_reach 0 = .ok (.aload_n 0, 1) := by decide +kernel
theorem dX9_reach_1 : decode cX9_reach 1 = .ok (.getfield 24, 3) := by decide +kernel
theorem dX9_reach_4 : decode cX9_reach 4 = .ok (.getfield 100, 3) := by decide +kernel
theorem dX9_reach_7 : decode cX9_reach 7 = .ok (.iload_n 1, 1) := by decide +kernel
theorem dX9_reach_8 : decode cX9_reach 8 = .ok (.invokevirtual 147, 3) := by decide +kernel
theorem dX9_reach_11 : decode cX9_reach 11 = .ok (.ifCond .ne 6, 3) := by decide +kernel
theorem dX9_reach_14 : decode cX9_reach 14 = .ok (.bipush (-2), 2) := by decide +kernel
theorem dX9_reach_16 : decode cX9_reach 16 = .ok (.ireturn, 1) := by decide +kernel
theorem dX9_reach_17 : decode cX9_reach 17 = .ok (.iconst 0, 1) := by decide +kernel
theorem dX9_reach_18 : decode cX9_reach 18 = .ok (.istore_n 2, 1) := by decide +kernel
theorem dX9_reach_19 : decode cX9_reach 19 = .ok (.iconst 0, 1) := by decide +kernel
theorem dX9_reach_20 : decode cX9_reach 20 = .ok (.istore_n 3, 1) := by decide +kernel
theorem dX9_reach_21 : decode cX9_reach 21 = .ok (.iload_n 3, 1) := by decide +kernel
theorem dX9_reach_22 : decode cX9_reach 22 = .ok (.aload_n 0, 1) := by decide +kernel
theorem dX9_reach_23 : decode cX9_reach 23 = .ok (.getfield 24, 3) := by decide +kernel
theorem dX9_reach_26 : decode cX9_reach 26 = .ok (.getfield 100, 3) := by decide +kernel
theorem dX9_reach_29 : decode cX9_reach 29 = .ok (.getfield 273, 3) := by decide +kernel
theorem dX9_reach_32 : decode cX9_reach 32 = .ok (.if_icmp .ge 25, 3) := by decide +kernel
theorem dX9_reach_35 : decode cX9_reach 35 = .ok (.aload_n 0, 1) := by decide +kernel
theorem dX9_reach_36 : decode cX9_reach 36 = .ok (.iload_n 1, 1) := by decide +kernel
theorem dX9_reach_37 : decode cX9_reach 37 = .ok (.iload_n 3, 1) := by decide +kernel
theorem dX9_reach_38 : decode cX9_reach 38 = .ok (.invokevirtual 264, 3) := by decide +kernel
theorem dX9_reach_41 : decode cX9_reach 41 = .ok (.iconst (-1), 1) := by decide +kernel
theorem dX9_reach_42 : decode cX9_reach 42 = .ok (.if_icmp .eq 9, 3) := by decide +kernel
theorem dX9_reach_45 : decode cX9_reach 45 = .ok (.iload_n 2, 1) := by decide +kernel
theorem dX9_reach_46 : decode cX9_reach 46 = .ok (.iconst 1, 1) := by decide +kernel
theorem dX9_reach_47 : decode cX9_reach 47 = .ok (.iload_n 3, 1) := by decide +kernel
theorem dX9_reach_48 : decode cX9_reach 48 = .ok (.ishl, 1) := by decide +kernel
theorem dX9_reach_49 : decode cX9_reach 49 = .ok (.ior, 1) := by decide +kernel
theorem dX9_reach_50 : decode cX9_reach 50 = .ok (.istore_n 2, 1) := by decide +kernel
theorem dX9_reach_51 : decode cX9_reach 51 = .ok (.iinc 3 1, 3) := by decide +kernel
theorem dX9_reach_54 : decode cX9_reach 54 = .ok (.goto (-33), 3) := by decide +kernel
theorem dX9_reach_57 : decode cX9_reach 57 = .ok (.iload_n 2, 1) := by decide +kernel
theorem dX9_reach_58 : decode cX9_reach 58 = .ok (.ireturn, 1) := by decide +kernel
theorem dX9_road_0 : decode cX9_road 0 = .ok (.aload_n 0, 1) := by decide +kernel
theorem dX9_road_1 : decode cX9_road 1 = .ok (.getfield 24, 3) := by decide +kernel
theorem dX9_road_4 : decode cX9_road 4 = .ok (.getfield 100, 3) := by decide +kernel
theorem dX9_road_7 : decode cX9_road 7 = .ok (.iload_n 1, 1) := by decide +kernel
theorem dX9_road_8 : decode cX9_road 8 = .ok (.invokevirtual 114, 3) := by decide +kernel
theorem dX9_road_11 : decode cX9_road 11 = .ok (.ifCond .ne 6, 3) := by decide +kernel
theorem dX9_road_14 : decode cX9_road 14 = .ok (.bipush (-2), 2) := by decide +kernel
theorem dX9_road_16 : decode cX9_road 16 = .ok (.ireturn, 1) := by decide +kernel
theorem dX9_road_17 : decode cX9_road 17 = .ok (.iload_n 2, 1) := by decide +kernel
theorem dX9_road_18 : decode cX9_road 18 = .ok (.tableswitch 65 0 2 #[26, 39, 52], 26) := by decide +kernel
theorem dX9_road_44 : decode cX9_road 44 = .ok (.aload_n 0, 1) := by decide +kernel
theorem dX9_road_45 : decode cX9_road 45 = .ok (.getfield 24, 3) := by decide +kernel
theorem dX9_road_48 : decode cX9_road 48 = .ok (.getfield 100, 3) := by decide +kernel
theorem dX9_road_51 : decode cX9_road 51 = .ok (.getfield 118, 3) := by decide +kernel
theorem dX9_road_54 : decode cX9_road 54 = .ok (.iload_n 1, 1) := by decide +kernel
theorem dX9_road_55 : decode cX9_road 55 = .ok (.iaload, 1) := by decide +kernel
theorem dX9_road_56 : decode cX9_road 56 = .ok (.ireturn, 1) := by decide +kernel
theorem dX9_road_57 : decode cX9_road 57 = .ok (.aload_n 0, 1) := by decide +kernel
theorem dX9_road_58 : decode cX9_road 58 = .ok (.getfield 24, 3) := by decide +kernel
theorem dX9_road_61 : decode cX9_road 61 = .ok (.getfield 100, 3) := by decide +kernel
theorem dX9_road_64 : decode cX9_road 64 = .ok (.getfield 121, 3) := by decide +kernel
theorem dX9_road_67 : decode cX9_road 67 = .ok (.iload_n 1, 1) := by decide +kernel
theorem dX9_road_68 : decode cX9_road 68 = .ok (.iaload, 1) := by decide +kernel
theorem dX9_road_69 : decode cX9_road 69 = .ok (.ireturn, 1) := by decide +kernel
theorem dX9_road_70 : decode cX9_road 70 = .ok (.aload_n 0, 1) := by decide +kernel
theorem dX9_road_71 : decode cX9_road 71 = .ok (.getfield 24, 3) := by decide +kernel
theorem dX9_road_74 : decode cX9_road 74 = .ok (.getfield 100, 3) := by decide +kernel
theorem dX9_road_77 : decode cX9_road 77 = .ok (.getfield 124, 3) := by decide +kernel
theorem dX9_road_80 : decode cX9_road 80 = .ok (.iload_n 1, 1) := by decide +kernel
theorem dX9_road_81 : decode cX9_road 81 = .ok (.iaload, 1) := by decide +kernel
theorem dX9_road_82 : decode cX9_road 82 = .ok (.ireturn, 1) := by decide +kernel
theorem dX9_road_83 : decode cX9_road 83 = .ok (.bipush (-2), 2) := by decide +kernel
theorem dX9_road_85 : decode cX9_road 85 = .ok (.ireturn, 1) := by decide +kernel
theorem dX9_roads_0 : decode cX9_roads 0 = .ok (.aload_n 0, 1) := by decide +kernel
theorem dX9_roads_1 : decode cX9_roads 1 = .ok (.getfield 24, 3) := by decide +kernel
theorem dX9_roads_4 : decode cX9_roads 4 = .ok (.getfield 100, 3) := by decide +kernel
theorem dX9_roads_7 : decode cX9_roads 7 = .ok (.iload_n 1, 1) := by decide +kernel
theorem dX9_roads_8 : decode cX9_roads 8 = .ok (.invokevirtual 171, 3) := by decide +kernel
theorem dX9_roads_11 : decode cX9_roads 11 = .ok (.ifCond .eq 17, 3) := by decide +kernel
theorem dX9_roads_14 : decode cX9_roads 14 = .ok (.aload_n 0, 1) := by decide +kernel
theorem dX9_roads_15 : decode cX9_roads 15 = .ok (.getfield 24, 3) := by decide +kernel
theorem dX9_roads_18 : decode cX9_roads 18 = .ok (.getfield 100, 3) := by decide +kernel
theorem dX9_roads_21 : decode cX9_roads 21 = .ok (.iload_n 1, 1) := by decide +kernel
theorem dX9_roads_22 : decode cX9_roads 22 = .ok (.invokevirtual 174, 3) := by decide +kernel
theorem dX9_roads_25 : decode cX9_roads 25 = .ok (.goto 5, 3) := by decide +kernel
theorem dX9_roads_28 : decode cX9_roads 28 = .ok (.bipush (-2), 2) := by decide +kernel
theorem dX9_roads_30 : decode cX9_roads 30 = .ok (.ireturn, 1) := by decide +kernel
theorem dX9_roams_0 : decode cX9_roams 0 = .ok (.aload_n 0, 1) := by decide +kernel
theorem dX9_roams_1 : decode cX9_roams 1 = .ok (.getfield 24, 3) := by decide +kernel
theorem dX9_roams_4 : decode cX9_roams 4 = .ok (.getfield 100, 3) := by decide +kernel
theorem dX9_roams_7 : decode cX9_roams 7 = .ok (.iload_n 1, 1) := by decide +kernel
theorem dX9_roams_8 : decode cX9_roams 8 = .ok (.invokevirtual 147, 3) := by decide +kernel
theorem dX9_roams_11 : decode cX9_roams 11 = .ok (.ifCond .eq 13, 3) := by decide +kernel
theorem dX9_roams_14 : decode cX9_roams 14 = .ok (.iload_n 2, 1) := by decide +kernel
theorem dX9_roams_15 : decode cX9_roams 15 = .ok (.ifCond .lt 9, 3) := by decide +kernel
theorem dX9_roams_18 : decode cX9_roams 18 = .ok (.iload_n 2, 1) := by decide +kernel
theorem dX9_roams_19 : decode cX9_roams 19 = .ok (.bipush 40, 2) := by decide +kernel
theorem dX9_roams_21 : decode cX9_roams 21 = .ok (.if_icmp .le 6, 3) := by decide +kernel
theorem dX9_roams_24 : decode cX9_roams 24 = .ok (.bipush (-2), 2) := by decide +kernel
theorem dX9_roams_26 : decode cX9_roams 26 = .ok (.ireturn, 1) := by decide +kernel
theorem dX9_roams_27 : decode cX9_roams 27 = .ok (.aload_n 0, 1) := by decide +kernel
theorem dX9_roams_28 : decode cX9_roams 28 = .ok (.getfield 46, 3) := by decide +kernel
theorem dX9_roams_31 : decode cX9_roams 31 = .ok (.aload_n 0, 1) := by decide +kernel
theorem dX9_roams_32 : decode cX9_roams 32 = .ok (.getfield 24, 3) := by decide +kernel
theorem dX9_roams_35 : decode cX9_roams 35 = .ok (.getfield 130, 3) := by decide +kernel
theorem dX9_roams_38 : decode cX9_roams 38 = .ok (.invokevirtual 253, 3) := by decide +kernel
theorem dX9_roams_41 : decode cX9_roams 41 = .ok (.iconst 0, 1) := by decide +kernel
theorem dX9_roams_42 : decode cX9_roams 42 = .ok (.istore_n 3, 1) := by decide +kernel
theorem dX9_roams_43 : decode cX9_roams 43 = .ok (.iload_n 3, 1) := by decide +kernel
theorem dX9_roams_44 : decode cX9_roams 44 = .ok (.iload_n 2, 1) := by decide +kernel
theorem dX9_roams_45 : decode cX9_roams 45 = .ok (.if_icmp .ge 26, 3) := by decide +kernel
theorem dX9_roams_48 : decode cX9_roams 48 = .ok (.aload_n 0, 1) := by decide +kernel
theorem dX9_roams_49 : decode cX9_roams 49 = .ok (.getfield 46, 3) := by decide +kernel
theorem dX9_roams_52 : decode cX9_roams 52 = .ok (.aload_n 0, 1) := by decide +kernel
theorem dX9_roams_53 : decode cX9_roams 53 = .ok (.getfield 24, 3) := by decide +kernel
theorem dX9_roams_56 : decode cX9_roams 56 = .ok (.getfield 100, 3) := by decide +kernel
theorem dX9_roams_59 : decode cX9_roams 59 = .ok (.iload_n 1, 1) := by decide +kernel
theorem dX9_roams_60 : decode cX9_roams 60 = .ok (.iconst (-1), 1) := by decide +kernel
theorem dX9_roams_61 : decode cX9_roams 61 = .ok (.invokevirtual 317, 3) := by decide +kernel
theorem dX9_roams_64 : decode cX9_roams 64 = .ok (.pop, 1) := by decide +kernel
theorem dX9_roams_65 : decode cX9_roams 65 = .ok (.iinc 3 1, 3) := by decide +kernel
theorem dX9_roams_68 : decode cX9_roams 68 = .ok (.goto (-25), 3) := by decide +kernel
theorem dX9_roams_71 : decode cX9_roams 71 = .ok (.aload_n 0, 1) := by decide +kernel
theorem dX9_roams_72 : decode cX9_roams 72 = .ok (.getfield 46, 3) := by decide +kernel
theorem dX9_roams_75 : decode cX9_roams 75 = .ok (.getfield 150, 3) := by decide +kernel
theorem dX9_roams_78 : decode cX9_roams 78 = .ok (.iload_n 1, 1) := by decide +kernel
theorem dX9_roams_79 : decode cX9_roams 79 = .ok (.iaload, 1) := by decide +kernel
theorem dX9_roams_80 : decode cX9_roams 80 = .ok (.ireturn, 1) := by decide +kernel
theorem dX9_row_0 : decode cX9_row 0 = .ok (.aload_n 0, 1) := by decide +kernel
theorem dX9_row_1 : decode cX9_row 1 = .ok (.getfield 39, 3) := by decide +kernel
theorem dX9_row_4 : decode cX9_row 4 = .ok (.iload_n 1, 1) := by decide +kernel
theorem dX9_row_5 : decode cX9_row 5 = .ok (.invokevirtual 238, 3) := by decide +kernel
theorem dX9_row_8 : decode cX9_row 8 = .ok (.ifCond .eq 16, 3) := by decide +kernel
theorem dX9_row_11 : decode cX9_row 11 = .ok (.iload_n 2, 1) := by decide +kernel
theorem dX9_row_12 : decode cX9_row 12 = .ok (.invokestatic 416, 3) := by decide +kernel
theorem dX9_row_15 : decode cX9_row 15 = .ok (.ifCond .eq 9, 3) := by decide +kernel
theorem dX9_row_18 : decode cX9_row 18 = .ok (.iload_n 3, 1) := by decide +kernel
theorem dX9_row_19 : decode cX9_row 19 = .ok (.bipush 60, 2) := by decide +kernel
theorem dX9_row_21 : decode cX9_row 21 = .ok (.if_icmp .le 6, 3) := by decide +kernel
theorem dX9_row_24 : decode cX9_row 24 = .ok (.bipush (-2), 2) := by decide +kernel
theorem dX9_row_26 : decode cX9_row 26 = .ok (.ireturn, 1) := by decide +kernel
theorem dX9_row_27 : decode cX9_row 27 = .ok (.iload_n 3, 1) := by decide +kernel
theorem dX9_row_28 : decode cX9_row 28 = .ok (.ifCond .ge 6, 3) := by decide +kernel
theorem dX9_row_31 : decode cX9_row 31 = .ok (.bipush (-3), 2) := by decide +kernel
theorem dX9_row_33 : decode cX9_row 33 = .ok (.ireturn, 1) := by decide +kernel
theorem dX9_row_34 : decode cX9_row 34 = .ok (.aload_n 0, 1) := by decide +kernel
theorem dX9_row_35 : decode cX9_row 35 = .ok (.getfield 39, 3) := by decide +kernel
theorem dX9_row_38 : decode cX9_row 38 = .ok (.iload_n 1, 1) := by decide +kernel
theorem dX9_row_39 : decode cX9_row 39 = .ok (.iload_n 2, 1) := by decide +kernel
theorem dX9_row_40 : decode cX9_row 40 = .ok (.iload_n 3, 1) := by decide +kernel
theorem dX9_row_41 : decode cX9_row 41 = .ok (.invokevirtual 419, 3) := by decide +kernel
theorem dX9_row_44 : decode cX9_row 44 = .ok (.iconst 0, 1) := by decide +kernel
theorem dX9_row_45 : decode cX9_row 45 = .ok (.ireturn, 1) := by decide +kernel
theorem dX9_share_0 : decode cX9_share 0 = .ok (.aload_n 0, 1) := by decide +kernel
theorem dX9_share_1 : decode cX9_share 1 = .ok (.getfield 24, 3) := by decide +kernel
theorem dX9_share_4 : decode cX9_share 4 = .ok (.getfield 100, 3) := by decide +kernel
theorem dX9_share_7 : decode cX9_share 7 = .ok (.iload_n 1, 1) := by decide +kernel
theorem dX9_share_8 : decode cX9_share 8 = .ok (.invokevirtual 147, 3) := by decide +kernel
theorem dX9_share_11 : decode cX9_share 11 = .ok (.ifCond .eq 44, 3) := by decide +kernel
theorem dX9_share_14 : decode cX9_share 14 = .ok (.iload_n 2, 1) := by decide +kernel
theorem dX9_share_15 : decode cX9_share 15 = .ok (.ifCond .lt 40, 3) := by decide +kernel
theorem dX9_share_18 : decode cX9_share 18 = .ok (.iload_n 2, 1) := by decide +kernel
theorem dX9_share_19 : decode cX9_share 19 = .ok (.sipush 10000, 3) := by decide +kernel
theorem dX9_share_22 : decode cX9_share 22 = .ok (.if_icmp .gt 33, 3) := by decide +kernel
theorem dX9_share_25 : decode cX9_share 25 = .ok (.aload_n 0, 1) := by decide +kernel
theorem dX9_share_26 : decode cX9_share 26 = .ok (.getfield 24, 3) := by decide +kernel
theorem dX9_share_29 : decode cX9_share 29 = .ok (.getfield 100, 3) := by decide +kernel
theorem dX9_share_32 : decode cX9_share 32 = .ok (.iload_n 3, 1) := by decide +kernel
theorem dX9_share_33 : decode cX9_share 33 = .ok (.invokevirtual 127, 3) := by decide +kernel
theorem dX9_share_36 : decode cX9_share 36 = .ok (.ifCond .eq 19, 3) := by decide +kernel
theorem dX9_share_39 : decode cX9_share 39 = .ok (.aload_n 0, 1) := by decide +kernel
theorem dX9_share_40 : decode cX9_share 40 = .ok (.getfield 24, 3) := by decide +kernel
theorem dX9_share_43 : decode cX9_share 43 = .ok (.getfield 130, 3) := by decide +kernel
theorem dX9_share_46 : decode cX9_share 46 = .ok (.getfield 140, 3) := by decide +kernel
theorem dX9_share_49 : decode cX9_share 49 = .ok (.iload_n 3, 1) := by decide +kernel
theorem dX9_share_50 : decode cX9_share 50 = .ok (.iaload, 1) := by decide +kernel
theorem dX9_share_51 : decode cX9_share 51 = .ok (.iload_n 1, 1) := by decide +kernel
theorem dX9_share_52 : decode cX9_share 52 = .ok (.if_icmp .eq 6, 3) := by decide +kernel
theorem dX9_share_55 : decode cX9_share 55 = .ok (.bipush (-2), 2) := by decide +kernel
theorem dX9_share_57 : decode cX9_share 57 = .ok (.ireturn, 1) := by decide +kernel
theorem dX9_share_58 : decode cX9_share 58 = .ok (.aload_n 0, 1) := by decide +kernel
theorem dX9_share_59 : decode cX9_share 59 = .ok (.getfield 24, 3) := by decide +kernel
theorem dX9_share_62 : decode cX9_share 62 = .ok (.getfield 130, 3) := by decide +kernel
theorem dX9_share_65 : decode cX9_share 65 = .ok (.iload_n 1, 1) := by decide +kernel
theorem dX9_share_66 : decode cX9_share 66 = .ok (.invokevirtual 153, 3) := by decide +kernel
theorem dX9_share_69 : decode cX9_share 69 = .ok (.istore 4, 2) := by decide +kernel
theorem dX9_share_71 : decode cX9_share 71 = .ok (.iconst 0, 1) := by decide +kernel
theorem dX9_share_72 : decode cX9_share 72 = .ok (.istore 5, 2) := by decide +kernel
theorem dX9_share_74 : decode cX9_share 74 = .ok (.iconst 0, 1) := by decide +kernel
theorem dX9_share_75 : decode cX9_share 75 = .ok (.istore 6, 2) := by decide +kernel
theorem dX9_share_77 : decode cX9_share 77 = .ok (.iload 6, 2) := by decide +kernel
theorem dX9_share_79 : decode cX9_share 79 = .ok (.bipush 8, 2) := by decide +kernel
theorem dX9_share_81 : decode cX9_share 81 = .ok (.if_icmp .ge 34, 3) := by decide +kernel
theorem dX9_share_84 : decode cX9_share 84 = .ok (.iload 5, 2) := by decide +kernel
theorem dX9_share_86 : decode cX9_share 86 = .ok (.iload 4, 2) := by decide +kernel
theorem dX9_share_88 : decode cX9_share 88 = .ok (.iload 6, 2) := by decide +kernel
theorem dX9_share_90 : decode cX9_share 90 = .ok (.ishr, 1) := by decide +kernel
theorem dX9_share_91 : decode cX9_share 91 = .ok (.iconst 1, 1) := by decide +kernel
theorem dX9_share_92 : decode cX9_share 92 = .ok (.iand, 1) := by decide +kernel
theorem dX9_share_93 : decode cX9_share 93 = .ok (.aload_n 0, 1) := by decide +kernel
theorem dX9_share_94 : decode cX9_share 94 = .ok (.getfield 24, 3) := by decide +kernel
theorem dX9_share_97 : decode cX9_share 97 = .ok (.getfield 130, 3) := by decide +kernel
theorem dX9_share_100 : decode cX9_share 100 = .ok (.iload 6, 2) := by decide +kernel
theorem dX9_share_102 : decode cX9_share 102 = .ok (.invokevirtual 143, 3) := by decide +kernel
theorem dX9_share_105 : decode cX9_share 105 = .ok (.imul, 1) := by decide +kernel
theorem dX9_share_106 : decode cX9_share 106 = .ok (.iadd, 1) := by decide +kernel
theorem dX9_share_107 : decode cX9_share 107 = .ok (.istore 5, 2) := by decide +kernel
theorem dX9_share_109 : decode cX9_share 109 = .ok (.iinc 6 1, 3) := by decide +kernel
theorem dX9_share_112 : decode cX9_share 112 = .ok (.goto (-35), 3) := by decide +kernel
theorem dX9_share_115 : decode cX9_share 115 = .ok (.iload_n 2, 1) := by decide +kernel
theorem dX9_share_116 : decode cX9_share 116 = .ok (.istore 6, 2) := by decide +kernel
theorem dX9_share_118 : decode cX9_share 118 = .ok (.iconst 0, 1) := by decide +kernel
theorem dX9_share_119 : decode cX9_share 119 = .ok (.istore 7, 2) := by decide +kernel
theorem dX9_share_121 : decode cX9_share 121 = .ok (.iconst 0, 1) := by decide +kernel
theorem dX9_share_122 : decode cX9_share 122 = .ok (.istore 8, 2) := by decide +kernel
theorem dX9_share_124 : decode cX9_share 124 = .ok (.iload 8, 2) := by decide +kernel
theorem dX9_share_126 : decode cX9_share 126 = .ok (.bipush 8, 2) := by decide +kernel
theorem dX9_share_128 : decode cX9_share 128 = .ok (.if_icmp .ge 51, 3) := by decide +kernel
theorem dX9_share_131 : decode cX9_share 131 = .ok (.iload 4, 2) := by decide +kernel
theorem dX9_share_133 : decode cX9_share 133 = .ok (.iload 8, 2) := by decide +kernel
theorem dX9_share_135 : decode cX9_share 135 = .ok (.ishr, 1) := by decide +kernel
theorem dX9_share_136 : decode cX9_share 136 = .ok (.iconst 1, 1) := by decide +kernel
theorem dX9_share_137 : decode cX9_share 137 = .ok (.iand, 1) := by decide +kernel
theorem dX9_share_138 : decode cX9_share 138 = .ok (.ifCond .eq 35, 3) := by decide +kernel
theorem dX9_share_141 : decode cX9_share 141 = .ok (.iload 6, 2) := by decide +kernel
theorem dX9_share_143 : decode cX9_share 143 = .ok (.aload_n 0, 1) := by decide +kernel
theorem dX9_share_144 : decode cX9_share 144 = .ok (.iload_n 2, 1) := by decide +kernel
theorem dX9_share_145 : decode cX9_share 145 = .ok (.iload 8, 2) := by decide +kernel
theorem dX9_share_147 : decode cX9_share 147 = .ok (.iload 5, 2) := by decide +kernel
theorem dX9_share_149 : decode cX9_share 149 = .ok (.iload 4, 2) := by decide +kernel
theorem dX9_share_151 : decode cX9_share 151 = .ok (.invokevirtual 361, 3) := by decide +kernel
theorem dX9_share_154 : decode cX9_share 154 = .ok (.isub, 1) := by decide +kernel
theorem dX9_share_155 : decode cX9_share 155 = .ok (.istore 6, 2) := by decide +kernel
theorem dX9_share_157 : decode cX9_share 157 = .ok (.iload 7, 2) := by decide +kernel
theorem dX9_share_159 : decode cX9_share 159 = .ok (.iload 8, 2) := by decide +kernel
theorem dX9_share_161 : decode cX9_share 161 = .ok (.iload_n 3, 1) := by decide +kernel
theorem dX9_share_162 : decode cX9_share 162 = .ok (.if_icmp .ge 7, 3) := by decide +kernel
theorem dX9_share_165 : decode cX9_share 165 = .ok (.iconst 1, 1) := by decide +kernel
theorem dX9_share_166 : decode cX9_share 166 = .ok (.goto 4, 3) := by decide +kernel
theorem dX9_share_169 : decode cX9_share 169 = .ok (.iconst 0, 1) := by decide +kernel
theorem dX9_share_170 : decode cX9_share 170 = .ok (.iadd, 1) := by decide +kernel
theorem dX9_share_171 : decode cX9_share 171 = .ok (.istore 7, 2) := by decide +kernel
theorem dX9_share_173 : decode cX9_share 173 = .ok (.iinc 8 1, 3) := by decide +kernel
theorem dX9_share_176 : decode cX9_share 176 = .ok (.goto (-52), 3) := by decide +kernel
theorem dX9_share_179 : decode cX9_share 179 = .ok (.aload_n 0, 1) := by decide +kernel
theorem dX9_share_180 : decode cX9_share 180 = .ok (.iload_n 2, 1) := by decide +kernel
theorem dX9_share_181 : decode cX9_share 181 = .ok (.iload_n 3, 1) := by decide +kernel
theorem dX9_share_182 : decode cX9_share 182 = .ok (.iload 5, 2) := by decide +kernel
theorem dX9_share_184 : decode cX9_share 184 = .ok (.iload 4, 2) := by decide +kernel
theorem dX9_share_186 : decode cX9_share 186 = .ok (.invokevirtual 361, 3) := by decide +kernel
theorem dX9_share_189 : decode cX9_share 189 = .ok (.iload 7, 2) := by decide +kernel
theorem dX9_share_191 : decode cX9_share 191 = .ok (.iload 6, 2) := by decide +kernel
theorem dX9_share_193 : decode cX9_share 193 = .ok (.if_icmp .ge 7, 3) := by decide +kernel
theorem dX9_share_196 : decode cX9_share 196 = .ok (.iconst 1, 1) := by decide +kernel
theorem dX9_share_197 : decode cX9_share 197 = .ok (.goto 4, 3) := by decide +kernel
theorem dX9_share_200 : decode cX9_share 200 = .ok (.iconst 0, 1) := by decide +kernel
theorem dX9_share_201 : decode cX9_share 201 = .ok (.iadd, 1) := by decide +kernel
theorem dX9_share_202 : decode cX9_share 202 = .ok (.ireturn, 1) := by decide +kernel
theorem dX9_smiths_0 : decode cX9_smiths 0 = .ok (.aload_n 0, 1) := by decide +kernel
theorem dX9_smiths_1 : decode cX9_smiths 1 = .ok (.getfield 24, 3) := by decide +kernel
theorem dX9_smiths_4 : decode cX9_smiths 4 = .ok (.getfield 100, 3) := by decide +kernel
theorem dX9_smiths_7 : decode cX9_smiths 7 = .ok (.invokevirtual 211, 3) := by decide +kernel
theorem dX9_smiths_10 : decode cX9_smiths 10 = .ok (.ifCond .ne 7, 3) := by decide +kernel
theorem dX9_smiths_13 : decode cX9_smiths 13 = .ok (.ldc_w 368, 3) := by decide +kernel
theorem dX9_smiths_16 : decode cX9_smiths 16 = .ok (.ireturn, 1) := by decide +kernel
theorem dX9_smiths_17 : decode cX9_smiths 17 = .ok (.aload_n 0, 1) := by decide +kernel
theorem dX9_smiths_18 : decode cX9_smiths 18 = .ok (.getfield 67, 3) := by decide +kernel
theorem dX9_smiths_21 : decode cX9_smiths 21 = .ok (.aload_n 0, 1) := by decide +kernel
theorem dX9_smiths_22 : decode cX9_smiths 22 = .ok (.getfield 24, 3) := by decide +kernel
theorem dX9_smiths_25 : decode cX9_smiths 25 = .ok (.getfield 100, 3) := by decide +kernel
theorem dX9_smiths_28 : decode cX9_smiths 28 = .ok (.aload_n 0, 1) := by decide +kernel
theorem dX9_smiths_29 : decode cX9_smiths 29 = .ok (.getfield 24, 3) := by decide +kernel
theorem dX9_smiths_32 : decode cX9_smiths 32 = .ok (.getfield 130, 3) := by decide +kernel
theorem dX9_smiths_35 : decode cX9_smiths 35 = .ok (.aload_n 0, 1) := by decide +kernel
theorem dX9_smiths_36 : decode cX9_smiths 36 = .ok (.invokevirtual 300, 3) := by decide +kernel
theorem dX9_smiths_39 : decode cX9_smiths 39 = .ok (.invokevirtual 369, 3) := by decide +kernel
theorem dX9_smiths_42 : decode cX9_smiths 42 = .ok (.ireturn, 1) := by decide +kernel
theorem dX9_swap_0 : decode cX9_swap 0 = .ok (.aload_n 0, 1) := by decide +kernel
theorem dX9_swap_1 : decode cX9_swap 1 = .ok (.getfield 24, 3) := by decide +kernel
theorem dX9_swap_4 : decode cX9_swap 4 = .ok (.getfield 100, 3) := by decide +kernel
theorem dX9_swap_7 : decode cX9_swap 7 = .ok (.iload_n 1, 1) := by decide +kernel
theorem dX9_swap_8 : decode cX9_swap 8 = .ok (.invokevirtual 127, 3) := by decide +kernel
theorem dX9_swap_11 : decode cX9_swap 11 = .ok (.ifCond .eq 22, 3) := by decide +kernel
theorem dX9_swap_14 : decode cX9_swap 14 = .ok (.aload_n 0, 1) := by decide +kernel
theorem dX9_swap_15 : decode cX9_swap 15 = .ok (.getfield 24, 3) := by decide +kernel
theorem dX9_swap_18 : decode cX9_swap 18 = .ok (.getfield 100, 3) := by decide +kernel
theorem dX9_swap_21 : decode cX9_swap 21 = .ok (.iload_n 2, 1) := by decide +kernel
theorem dX9_swap_22 : decode cX9_swap 22 = .ok (.invokevirtual 127, 3) := by decide +kernel
theorem dX9_swap_25 : decode cX9_swap 25 = .ok (.ifCond .eq 8, 3) := by decide +kernel
theorem dX9_swap_28 : decode cX9_swap 28 = .ok (.iload_n 1, 1) := by decide +kernel
theorem dX9_swap_29 : decode cX9_swap 29 = .ok (.iload_n 2, 1) := by decide +kernel
theorem dX9_swap_30 : decode cX9_swap 30 = .ok (.if_icmp .ne 6, 3) := by decide +kernel
theorem dX9_swap_33 : decode cX9_swap 33 = .ok (.bipush (-2), 2) := by decide +kernel
theorem dX9_swap_35 : decode cX9_swap 35 = .ok (.ireturn, 1) := by decide +kernel
theorem dX9_swap_36 : decode cX9_swap 36 = .ok (.aload_n 0, 1) := by decide +kernel
theorem dX9_swap_37 : decode cX9_swap 37 = .ok (.getfield 24, 3) := by decide +kernel
theorem dX9_swap_40 : decode cX9_swap 40 = .ok (.invokevirtual 204, 3) := by decide +kernel
theorem dX9_swap_43 : decode cX9_swap 43 = .ok (.ifCond .eq 6, 3) := by decide +kernel
theorem dX9_swap_46 : decode cX9_swap 46 = .ok (.bipush (-5), 2) := by decide +kernel
theorem dX9_swap_48 : decode cX9_swap 48 = .ok (.ireturn, 1) := by decide +kernel
theorem dX9_swap_49 : decode cX9_swap 49 = .ok (.aload_n 0, 1) := by decide +kernel
theorem dX9_swap_50 : decode cX9_swap 50 = .ok (.getfield 24, 3) := by decide +kernel
theorem dX9_swap_53 : decode cX9_swap 53 = .ok (.iconst 1, 1) := by decide +kernel
theorem dX9_swap_54 : decode cX9_swap 54 = .ok (.iload_n 1, 1) := by decide +kernel
theorem dX9_swap_55 : decode cX9_swap 55 = .ok (.iload_n 2, 1) := by decide +kernel
theorem dX9_swap_56 : decode cX9_swap 56 = .ok (.invokevirtual 207, 3) := by decide +kernel
theorem dX9_swap_59 : decode cX9_swap 59 = .ok (.iconst 0, 1) := by decide +kernel
theorem dX9_swap_60 : decode cX9_swap 60 = .ok (.ireturn, 1) := by decide +kernel
theorem dX9_takes_0 : decode cX9_takes 0 = .ok (.aload_n 0, 1) := by decide +kernel
theorem dX9_takes_1 : decode cX9_takes 1 = .ok (.iload_n 1, 1) := by decide +kernel
theorem dX9_takes_2 : decode cX9_takes 2 = .ok (.iload_n 2, 1) := by decide +kernel
theorem dX9_takes_3 : decode cX9_takes 3 = .ok (.invokevirtual 180, 3) := by decide +kernel
theorem dX9_takes_6 : decode cX9_takes 6 = .ok (.ifCond .ne 6, 3) := by decide +kernel
theorem dX9_takes_9 : decode cX9_takes 9 = .ok (.bipush (-2), 2) := by decide +kernel
theorem dX9_takes_11 : decode cX9_takes 11 = .ok (.ireturn, 1) := by decide +kernel
theorem dX9_takes_12 : decode cX9_takes 12 = .ok (.aload_n 0, 1) := by decide +kernel
theorem dX9_takes_13 : decode cX9_takes 13 = .ok (.getfield 24, 3) := by decide +kernel
theorem dX9_takes_16 : decode cX9_takes 16 = .ok (.getfield 130, 3) := by decide +kernel
theorem dX9_takes_19 : decode cX9_takes 19 = .ok (.aload_n 0, 1) := by decide +kernel
theorem dX9_takes_20 : decode cX9_takes 20 = .ok (.getfield 24, 3) := by decide +kernel
theorem dX9_takes_23 : decode cX9_takes 23 = .ok (.getfield 100, 3) := by decide +kernel
theorem dX9_takes_26 : decode cX9_takes 26 = .ok (.iload_n 1, 1) := by decide +kernel
theorem dX9_takes_27 : decode cX9_takes 27 = .ok (.iload_n 2, 1) := by decide +kernel
theorem dX9_takes_28 : decode cX9_takes 28 = .ok (.invokevirtual 184, 3) := by decide +kernel
theorem dX9_takes_31 : decode cX9_takes 31 = .ok (.ireturn, 1) := by decide +kernel
theorem dX9_teach_0 : decode cX9_teach 0 = .ok (.aload_n 0, 1) := by decide +kernel
theorem dX9_teach_1 : decode cX9_teach 1 = .ok (.getfield 24, 3) := by decide +kernel
theorem dX9_teach_4 : decode cX9_teach 4 = .ok (.getfield 100, 3) := by decide +kernel
theorem dX9_teach_7 : decode cX9_teach 7 = .ok (.iload_n 1, 1) := by decide +kernel
theorem dX9_teach_8 : decode cX9_teach 8 = .ok (.invokevirtual 127, 3) := by decide +kernel
theorem dX9_teach_11 : decode cX9_teach 11 = .ok (.ifCond .eq 17, 3) := by decide +kernel
theorem dX9_teach_14 : decode cX9_teach 14 = .ok (.aload_n 0, 1) := by decide +kernel
theorem dX9_teach_15 : decode cX9_teach 15 = .ok (.getfield 24, 3) := by decide +kernel
theorem dX9_teach_18 : decode cX9_teach 18 = .ok (.getfield 100, 3) := by decide +kernel
theorem dX9_teach_21 : decode cX9_teach 21 = .ok (.iload_n 2, 1) := by decide +kernel
theorem dX9_teach_22 : decode cX9_teach 22 = .ok (.invokevirtual 114, 3) := by decide +kernel
theorem dX9_teach_25 : decode cX9_teach 25 = .ok (.ifCond .ne 6, 3) := by decide +kernel
theorem dX9_teach_28 : decode cX9_teach 28 = .ok (.bipush (-2), 2) := by decide +kernel
theorem dX9_teach_30 : decode cX9_teach 30 = .ok (.ireturn, 1) := by decide +kernel
theorem dX9_teach_31 : decode cX9_teach 31 = .ok (.aload_n 0, 1) := by decide +kernel
theorem dX9_teach_32 : decode cX9_teach 32 = .ok (.getfield 46, 3) := by decide +kernel
theorem dX9_teach_35 : decode cX9_teach 35 = .ok (.aload_n 0, 1) := by decide +kernel
theorem dX9_teach_36 : decode cX9_teach 36 = .ok (.getfield 24, 3) := by decide +kernel
theorem dX9_teach_39 : decode cX9_teach 39 = .ok (.getfield 130, 3) := by decide +kernel
theorem dX9_teach_42 : decode cX9_teach 42 = .ok (.invokevirtual 253, 3) := by decide +kernel
theorem dX9_teach_45 : decode cX9_teach 45 = .ok (.iconst 0, 1) := by decide +kernel
theorem dX9_teach_46 : decode cX9_teach 46 = .ok (.istore_n 3, 1) := by decide +kernel
theorem dX9_teach_47 : decode cX9_teach 47 = .ok (.iload_n 3, 1) := by decide +kernel
theorem dX9_teach_48 : decode cX9_teach 48 = .ok (.bipush 60, 2) := by decide +kernel
theorem dX9_teach_50 : decode cX9_teach 50 = .ok (.if_icmp .gt 94, 3) := by decide +kernel
theorem dX9_teach_53 : decode cX9_teach 53 = .ok (.aload_n 0, 1) := by decide +kernel
theorem dX9_teach_54 : decode cX9_teach 54 = .ok (.getfield 46, 3) := by decide +kernel
theorem dX9_teach_57 : decode cX9_teach 57 = .ok (.aload_n 0, 1) := by decide +kernel
theorem dX9_teach_58 : decode cX9_teach 58 = .ok (.getfield 24, 3) := by decide +kernel
theorem dX9_teach_61 : decode cX9_teach 61 = .ok (.getfield 100, 3) := by decide +kernel
theorem dX9_teach_64 : decode cX9_teach 64 = .ok (.iload_n 1, 1) := by decide +kernel
theorem dX9_teach_65 : decode cX9_teach 65 = .ok (.aload_n 0, 1) := by decide +kernel
theorem dX9_teach_66 : decode cX9_teach 66 = .ok (.getfield 24, 3) := by decide +kernel
