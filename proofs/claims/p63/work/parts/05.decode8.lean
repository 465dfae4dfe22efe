theorem dX9_teach_69 : decode cX9_teach 69 = .ok (.getfield 100, 3) := by decide +kernel
theorem dX9_teach_72 : decode cX9_teach 72 = .ok (.getfield 118, 3) := by decide +kernel
theorem dX9_teach_75 : decode cX9_teach 75 = .ok (.iload_n 2, 1) := by decide +kernel
theorem dX9_teach_76 : decode cX9_teach 76 = .ok (.iaload, 1) := by decide +kernel
theorem dX9_teach_77 : decode cX9_teach 77 = .ok (.invokevirtual 344, 3) := by decide +kernel
theorem dX9_teach_80 : decode cX9_teach 80 = .ok (.iload_n 2, 1) := by decide +kernel
theorem dX9_teach_81 : decode cX9_teach 81 = .ok (.if_icmp .ne 36, 3) := by decide +kernel
theorem dX9_teach_84 : decode cX9_teach 84 = .ok (.aload_n 0, 1) := by decide +kernel
theorem dX9_teach_85 : decode cX9_teach 85 = .ok (.getfield 46, 3) := by decide +kernel
theorem dX9_teach_88 : decode cX9_teach 88 = .ok (.aload_n 0, 1) := by decide +kernel
theorem dX9_teach_89 : decode cX9_teach 89 = .ok (.getfield 24, 3) := by decide +kernel
theorem dX9_teach_92 : decode cX9_teach 92 = .ok (.getfield 100, 3) := by decide +kernel
theorem dX9_teach_95 : decode cX9_teach 95 = .ok (.iload_n 1, 1) := by decide +kernel
theorem dX9_teach_96 : decode cX9_teach 96 = .ok (.aload_n 0, 1) := by decide +kernel
theorem dX9_teach_97 : decode cX9_teach 97 = .ok (.getfield 24, 3) := by decide +kernel
theorem dX9_teach_100 : decode cX9_teach 100 = .ok (.getfield 100, 3) := by decide +kernel
theorem dX9_teach_103 : decode cX9_teach 103 = .ok (.getfield 121, 3) := by decide +kernel
theorem dX9_teach_106 : decode cX9_teach 106 = .ok (.iload_n 2, 1) := by decide +kernel
theorem dX9_teach_107 : decode cX9_teach 107 = .ok (.iaload, 1) := by decide +kernel
theorem dX9_teach_108 : decode cX9_teach 108 = .ok (.invokevirtual 344, 3) := by decide +kernel
theorem dX9_teach_111 : decode cX9_teach 111 = .ok (.iload_n 2, 1) := by decide +kernel
theorem dX9_teach_112 : decode cX9_teach 112 = .ok (.if_icmp .ne 5, 3) := by decide +kernel
theorem dX9_teach_115 : decode cX9_teach 115 = .ok (.iload_n 3, 1) := by decide +kernel
theorem dX9_teach_116 : decode cX9_teach 116 = .ok (.ireturn, 1) := by decide +kernel
theorem dX9_teach_117 : decode cX9_teach 117 = .ok (.aload_n 0, 1) := by decide +kernel
theorem dX9_teach_118 : decode cX9_teach 118 = .ok (.getfield 46, 3) := by decide +kernel
theorem dX9_teach_121 : decode cX9_teach 121 = .ok (.iload_n 1, 1) := by decide +kernel
theorem dX9_teach_122 : decode cX9_teach 122 = .ok (.iload_n 2, 1) := by decide +kernel
theorem dX9_teach_123 : decode cX9_teach 123 = .ok (.aload_n 0, 1) := by decide +kernel
theorem dX9_teach_124 : decode cX9_teach 124 = .ok (.getfield 24, 3) := by decide +kernel
theorem dX9_teach_127 : decode cX9_teach 127 = .ok (.getfield 100, 3) := by decide +kernel
theorem dX9_teach_130 : decode cX9_teach 130 = .ok (.getfield 124, 3) := by decide +kernel
theorem dX9_teach_133 : decode cX9_teach 133 = .ok (.iload_n 2, 1) := by decide +kernel
theorem dX9_teach_134 : decode cX9_teach 134 = .ok (.iaload, 1) := by decide +kernel
theorem dX9_teach_135 : decode cX9_teach 135 = .ok (.invokevirtual 355, 3) := by decide +kernel
theorem dX9_teach_138 : decode cX9_teach 138 = .ok (.iinc 3 1, 3) := by decide +kernel
theorem dX9_teach_141 : decode cX9_teach 141 = .ok (.goto (-94), 3) := by decide +kernel
theorem dX9_teach_144 : decode cX9_teach 144 = .ok (.iconst (-1), 1) := by decide +kernel
theorem dX9_teach_145 : decode cX9_teach 145 = .ok (.ireturn, 1) := by decide +kernel
theorem dX9_tell_0 : decode cX9_tell 0 = .ok (.aload_n 0, 1) := by decide +kernel
theorem dX9_tell_1 : decode cX9_tell 1 = .ok (.getfield 24, 3) := by decide +kernel
theorem dX9_tell_4 : decode cX9_tell 4 = .ok (.getfield 100, 3) := by decide +kernel
theorem dX9_tell_7 : decode cX9_tell 7 = .ok (.iload_n 1, 1) := by decide +kernel
theorem dX9_tell_8 : decode cX9_tell 8 = .ok (.invokevirtual 127, 3) := by decide +kernel
theorem dX9_tell_11 : decode cX9_tell 11 = .ok (.ifCond .eq 27, 3) := by decide +kernel
theorem dX9_tell_14 : decode cX9_tell 14 = .ok (.aload_n 0, 1) := by decide +kernel
theorem dX9_tell_15 : decode cX9_tell 15 = .ok (.getfield 24, 3) := by decide +kernel
theorem dX9_tell_18 : decode cX9_tell 18 = .ok (.getfield 100, 3) := by decide +kernel
theorem dX9_tell_21 : decode cX9_tell 21 = .ok (.iload_n 2, 1) := by decide +kernel
theorem dX9_tell_22 : decode cX9_tell 22 = .ok (.invokevirtual 114, 3) := by decide +kernel
theorem dX9_tell_25 : decode cX9_tell 25 = .ok (.ifCond .eq 13, 3) := by decide +kernel
theorem dX9_tell_28 : decode cX9_tell 28 = .ok (.iload_n 3, 1) := by decide +kernel
theorem dX9_tell_29 : decode cX9_tell 29 = .ok (.ifCond .lt 9, 3) := by decide +kernel
theorem dX9_tell_32 : decode cX9_tell 32 = .ok (.iload_n 3, 1) := by decide +kernel
theorem dX9_tell_33 : decode cX9_tell 33 = .ok (.bipush 9, 2) := by decide +kernel
theorem dX9_tell_35 : decode cX9_tell 35 = .ok (.if_icmp .le 6, 3) := by decide +kernel
theorem dX9_tell_38 : decode cX9_tell 38 = .ok (.bipush (-2), 2) := by decide +kernel
theorem dX9_tell_40 : decode cX9_tell 40 = .ok (.ireturn, 1) := by decide +kernel
theorem dX9_tell_41 : decode cX9_tell 41 = .ok (.aload_n 0, 1) := by decide +kernel
theorem dX9_tell_42 : decode cX9_tell 42 = .ok (.getfield 24, 3) := by decide +kernel
theorem dX9_tell_45 : decode cX9_tell 45 = .ok (.getfield 214, 3) := by decide +kernel
theorem dX9_tell_48 : decode cX9_tell 48 = .ok (.ifCond .le 6, 3) := by decide +kernel
theorem dX9_tell_51 : decode cX9_tell 51 = .ok (.bipush (-5), 2) := by decide +kernel
theorem dX9_tell_53 : decode cX9_tell 53 = .ok (.ireturn, 1) := by decide +kernel
theorem dX9_tell_54 : decode cX9_tell 54 = .ok (.aload_n 0, 1) := by decide +kernel
theorem dX9_tell_55 : decode cX9_tell 55 = .ok (.getfield 24, 3) := by decide +kernel
theorem dX9_tell_58 : decode cX9_tell 58 = .ok (.getfield 100, 3) := by decide +kernel
theorem dX9_tell_61 : decode cX9_tell 61 = .ok (.getfield 398, 3) := by decide +kernel
theorem dX9_tell_64 : decode cX9_tell 64 = .ok (.iload_n 1, 1) := by decide +kernel
theorem dX9_tell_65 : decode cX9_tell 65 = .ok (.iload_n 2, 1) := by decide +kernel
theorem dX9_tell_66 : decode cX9_tell 66 = .ok (.invokevirtual 133, 3) := by decide +kernel
theorem dX9_tell_69 : decode cX9_tell 69 = .ok (.istore 4, 2) := by decide +kernel
theorem dX9_tell_71 : decode cX9_tell 71 = .ok (.aload_n 0, 1) := by decide +kernel
theorem dX9_tell_72 : decode cX9_tell 72 = .ok (.getfield 24, 3) := by decide +kernel
theorem dX9_tell_75 : decode cX9_tell 75 = .ok (.getfield 100, 3) := by decide +kernel
theorem dX9_tell_78 : decode cX9_tell 78 = .ok (.getfield 398, 3) := by decide +kernel
theorem dX9_tell_81 : decode cX9_tell 81 = .ok (.iload_n 1, 1) := by decide +kernel
theorem dX9_tell_82 : decode cX9_tell 82 = .ok (.iload_n 2, 1) := by decide +kernel
theorem dX9_tell_83 : decode cX9_tell 83 = .ok (.iload_n 3, 1) := by decide +kernel
theorem dX9_tell_84 : decode cX9_tell 84 = .ok (.invokevirtual 401, 3) := by decide +kernel
theorem dX9_tell_87 : decode cX9_tell 87 = .ok (.aload_n 0, 1) := by decide +kernel
theorem dX9_tell_88 : decode cX9_tell 88 = .ok (.getfield 24, 3) := by decide +kernel
theorem dX9_tell_91 : decode cX9_tell 91 = .ok (.getfield 130, 3) := by decide +kernel
theorem dX9_tell_94 : decode cX9_tell 94 = .ok (.iload_n 1, 1) := by decide +kernel
theorem dX9_tell_95 : decode cX9_tell 95 = .ok (.iload_n 2, 1) := by decide +kernel
theorem dX9_tell_96 : decode cX9_tell 96 = .ok (.iload_n 3, 1) := by decide +kernel
theorem dX9_tell_97 : decode cX9_tell 97 = .ok (.invokevirtual 401, 3) := by decide +kernel
theorem dX9_tell_100 : decode cX9_tell 100 = .ok (.iload 4, 2) := by decide +kernel
theorem dX9_tell_102 : decode cX9_tell 102 = .ok (.ireturn, 1) := by decide +kernel
theorem dX9_undo_0 : decode cX9_undo 0 = .ok (.aload_n 0, 1) := by decide +kernel
theorem dX9_undo_1 : decode cX9_undo 1 = .ok (.getfield 24, 3) := by decide +kernel
theorem dX9_undo_4 : decode cX9_undo 4 = .ok (.getfield 100, 3) := by decide +kernel
theorem dX9_undo_7 : decode cX9_undo 7 = .ok (.invokevirtual 211, 3) := by decide +kernel
theorem dX9_undo_10 : decode cX9_undo 10 = .ok (.ifCond .ne 6, 3) := by decide +kernel
theorem dX9_undo_13 : decode cX9_undo 13 = .ok (.bipush (-2), 2) := by decide +kernel
theorem dX9_undo_15 : decode cX9_undo 15 = .ok (.ireturn, 1) := by decide +kernel
theorem dX9_undo_16 : decode cX9_undo 16 = .ok (.aload_n 0, 1) := by decide +kernel
theorem dX9_undo_17 : decode cX9_undo 17 = .ok (.getfield 24, 3) := by decide +kernel
theorem dX9_undo_20 : decode cX9_undo 20 = .ok (.getfield 214, 3) := by decide +kernel
theorem dX9_undo_23 : decode cX9_undo 23 = .ok (.ifCond .gt 6, 3) := by decide +kernel
theorem dX9_undo_26 : decode cX9_undo 26 = .ok (.bipush (-5), 2) := by decide +kernel
theorem dX9_undo_28 : decode cX9_undo 28 = .ok (.ireturn, 1) := by decide +kernel
theorem dX9_undo_29 : decode cX9_undo 29 = .ok (.aload_n 0, 1) := by decide +kernel
theorem dX9_undo_30 : decode cX9_undo 30 = .ok (.getfield 24, 3) := by decide +kernel
theorem dX9_undo_33 : decode cX9_undo 33 = .ok (.aload_n 0, 1) := by decide +kernel
theorem dX9_undo_34 : decode cX9_undo 34 = .ok (.getfield 24, 3) := by decide +kernel
theorem dX9_undo_37 : decode cX9_undo 37 = .ok (.getfield 214, 3) := by decide +kernel
theorem dX9_undo_40 : decode cX9_undo 40 = .ok (.iconst 1, 1) := by decide +kernel
theorem dX9_undo_41 : decode cX9_undo 41 = .ok (.isub, 1) := by decide +kernel
theorem dX9_undo_42 : decode cX9_undo 42 = .ok (.invokevirtual 217, 3) := by decide +kernel
theorem dX9_undo_45 : decode cX9_undo 45 = .ok (.aload_n 0, 1) := by decide +kernel
theorem dX9_undo_46 : decode cX9_undo 46 = .ok (.getfield 24, 3) := by decide +kernel
theorem dX9_undo_49 : decode cX9_undo 49 = .ok (.getfield 214, 3) := by decide +kernel
theorem dX9_undo_52 : decode cX9_undo 52 = .ok (.ireturn, 1) := by decide +kernel
theorem dX9_votersOf_0 : decode cX9_votersOf 0 = .ok (.iconst 0, 1) := by decide +kernel
theorem dX9_votersOf_1 : decode cX9_votersOf 1 = .ok (.istore_n 3, 1) := by decide +kernel
theorem dX9_votersOf_2 : decode cX9_votersOf 2 = .ok (.iconst 0, 1) := by decide +kernel
theorem dX9_votersOf_3 : decode cX9_votersOf 3 = .ok (.istore 4, 2) := by decide +kernel
theorem dX9_votersOf_5 : decode cX9_votersOf 5 = .ok (.iload 4, 2) := by decide +kernel
theorem dX9_votersOf_7 : decode cX9_votersOf 7 = .ok (.aload_n 0, 1) := by decide +kernel
theorem dX9_votersOf_8 : decode cX9_votersOf 8 = .ok (.getfield 24, 3) := by decide +kernel
theorem dX9_votersOf_11 : decode cX9_votersOf 11 = .ok (.getfield 100, 3) := by decide +kernel
theorem dX9_votersOf_14 : decode cX9_votersOf 14 = .ok (.getfield 314, 3) := by decide +kernel
theorem dX9_votersOf_17 : decode cX9_votersOf 17 = .ok (.if_icmp .ge 40, 3) := by decide +kernel
theorem dX9_votersOf_20 : decode cX9_votersOf 20 = .ok (.aload_n 0, 1) := by decide +kernel
theorem dX9_votersOf_21 : decode cX9_votersOf 21 = .ok (.getfield 24, 3) := by decide +kernel
theorem dX9_votersOf_24 : decode cX9_votersOf 24 = .ok (.getfield 130, 3) := by decide +kernel
theorem dX9_votersOf_27 : decode cX9_votersOf 27 = .ok (.aload_n 0, 1) := by decide +kernel
theorem dX9_votersOf_28 : decode cX9_votersOf 28 = .ok (.getfield 24, 3) := by decide +kernel
theorem dX9_votersOf_31 : decode cX9_votersOf 31 = .ok (.getfield 100, 3) := by decide +kernel
theorem dX9_votersOf_34 : decode cX9_votersOf 34 = .ok (.iload 4, 2) := by decide +kernel
theorem dX9_votersOf_36 : decode cX9_votersOf 36 = .ok (.iload_n 1, 1) := by decide +kernel
theorem dX9_votersOf_37 : decode cX9_votersOf 37 = .ok (.invokevirtual 344, 3) := by decide +kernel
theorem dX9_votersOf_40 : decode cX9_votersOf 40 = .ok (.iload_n 2, 1) := by decide +kernel
theorem dX9_votersOf_41 : decode cX9_votersOf 41 = .ok (.if_icmp .ne 10, 3) := by decide +kernel
theorem dX9_votersOf_44 : decode cX9_votersOf 44 = .ok (.iload_n 3, 1) := by decide +kernel
theorem dX9_votersOf_45 : decode cX9_votersOf 45 = .ok (.iconst 1, 1) := by decide +kernel
theorem dX9_votersOf_46 : decode cX9_votersOf 46 = .ok (.iload 4, 2) := by decide +kernel
theorem dX9_votersOf_48 : decode cX9_votersOf 48 = .ok (.ishl, 1) := by decide +kernel
theorem dX9_votersOf_49 : decode cX9_votersOf 49 = .ok (.ior, 1) := by decide +kernel
theorem dX9_votersOf_50 : decode cX9_votersOf 50 = .ok (.istore_n 3, 1) := by decide +kernel
theorem dX9_votersOf_51 : decode cX9_votersOf 51 = .ok (.iinc 4 1, 3) := by decide +kernel
theorem dX9_votersOf_54 : decode cX9_votersOf 54 = .ok (.goto (-49), 3) := by decide +kernel
theorem dX9_votersOf_57 : decode cX9_votersOf 57 = .ok (.iload_n 3, 1) := by decide +kernel
theorem dX9_votersOf_58 : decode cX9_votersOf 58 = .ok (.ireturn, 1) := by decide +kernel
theorem dX9_votes_0 : decode cX9_votes 0 = .ok (.aload_n 0, 1) := by decide +kernel
theorem dX9_votes_1 : decode cX9_votes 1 = .ok (.getfield 24, 3) := by decide +kernel
theorem dX9_votes_4 : decode cX9_votes 4 = .ok (.getfield 100, 3) := by decide +kernel
theorem dX9_votes_7 : decode cX9_votes 7 = .ok (.iload_n 1, 1) := by decide +kernel
theorem dX9_votes_8 : decode cX9_votes 8 = .ok (.invokevirtual 171, 3) := by decide +kernel
theorem dX9_votes_11 : decode cX9_votes 11 = .ok (.ifCond .eq 18, 3) := by decide +kernel
theorem dX9_votes_14 : decode cX9_votes 14 = .ok (.aload_n 0, 1) := by decide +kernel
theorem dX9_votes_15 : decode cX9_votes 15 = .ok (.getfield 24, 3) := by decide +kernel
theorem dX9_votes_18 : decode cX9_votes 18 = .ok (.getfield 100, 3) := by decide +kernel
theorem dX9_votes_21 : decode cX9_votes 21 = .ok (.iload_n 2, 1) := by decide +kernel
theorem dX9_votes_22 : decode cX9_votes 22 = .ok (.iload_n 1, 1) := by decide +kernel
theorem dX9_votes_23 : decode cX9_votes 23 = .ok (.invokevirtual 201, 3) := by decide +kernel
theorem dX9_votes_26 : decode cX9_votes 26 = .ok (.ifCond .ne 6, 3) := by decide +kernel
theorem dX9_votes_29 : decode cX9_votes 29 = .ok (.bipush (-2), 2) := by decide +kernel
theorem dX9_votes_31 : decode cX9_votes 31 = .ok (.ireturn, 1) := by decide +kernel
theorem dX9_votes_32 : decode cX9_votes 32 = .ok (.aload_n 0, 1) := by decide +kernel
theorem dX9_votes_33 : decode cX9_votes 33 = .ok (.iload_n 1, 1) := by decide +kernel
theorem dX9_votes_34 : decode cX9_votes 34 = .ok (.iload_n 2, 1) := by decide +kernel
theorem dX9_votes_35 : decode cX9_votes 35 = .ok (.invokevirtual 341, 3) := by decide +kernel
theorem dX9_votes_38 : decode cX9_votes 38 = .ok (.ireturn, 1) := by decide +kernel
theorem dX9_wants_0 : decode cX9_wants 0 = .ok (.aload_n 0, 1) := by decide +kernel
theorem dX9_wants_1 : decode cX9_wants 1 = .ok (.getfield 24, 3) := by decide +kernel
theorem dX9_wants_4 : decode cX9_wants 4 = .ok (.getfield 100, 3) := by decide +kernel
theorem dX9_wants_7 : decode cX9_wants 7 = .ok (.iload_n 1, 1) := by decide +kernel
theorem dX9_wants_8 : decode cX9_wants 8 = .ok (.invokevirtual 147, 3) := by decide +kernel
theorem dX9_wants_11 : decode cX9_wants 11 = .ok (.ifCond .eq 17, 3) := by decide +kernel
theorem dX9_wants_14 : decode cX9_wants 14 = .ok (.aload_n 0, 1) := by decide +kernel
theorem dX9_wants_15 : decode cX9_wants 15 = .ok (.getfield 24, 3) := by decide +kernel
theorem dX9_wants_18 : decode cX9_wants 18 = .ok (.getfield 100, 3) := by decide +kernel
theorem dX9_wants_21 : decode cX9_wants 21 = .ok (.iload_n 2, 1) := by decide +kernel
theorem dX9_wants_22 : decode cX9_wants 22 = .ok (.invokevirtual 171, 3) := by decide +kernel
theorem dX9_wants_25 : decode cX9_wants 25 = .ok (.ifCond .ne 6, 3) := by decide +kernel
theorem dX9_wants_28 : decode cX9_wants 28 = .ok (.bipush (-2), 2) := by decide +kernel
theorem dX9_wants_30 : decode cX9_wants 30 = .ok (.ireturn, 1) := by decide +kernel
theorem dX9_wants_31 : decode cX9_wants 31 = .ok (.aload_n 0, 1) := by decide +kernel
theorem dX9_wants_32 : decode cX9_wants 32 = .ok (.iload_n 1, 1) := by decide +kernel
theorem dX9_wants_33 : decode cX9_wants 33 = .ok (.iload_n 2, 1) := by decide +kernel
theorem dX9_wants_34 : decode cX9_wants 34 = .ok (.invokevirtual 264, 3) := by decide +kernel
theorem dX9_wants_37 : decode cX9_wants 37 = .ok (.iconst (-1), 1) := by decide +kernel
theorem dX9_wants_38 : decode cX9_wants 38 = .ok (.if_icmp .eq 18, 3) := by decide +kernel
theorem dX9_wants_41 : decode cX9_wants 41 = .ok (.iload_n 3, 1) := by decide +kernel
theorem dX9_wants_42 : decode cX9_wants 42 = .ok (.ifCond .lt 14, 3) := by decide +kernel
theorem dX9_wants_45 : decode cX9_wants 45 = .ok (.iload_n 3, 1) := by decide +kernel
theorem dX9_wants_46 : decode cX9_wants 46 = .ok (.aload_n 0, 1) := by decide +kernel
theorem dX9_wants_47 : decode cX9_wants 47 = .ok (.getfield 60, 3) := by decide +kernel
theorem dX9_wants_50 : decode cX9_wants 50 = .ok (.getfield 267, 3) := by decide +kernel
theorem dX9_wants_53 : decode cX9_wants 53 = .ok (.if_icmp .lt 5, 3) := by decide +kernel
theorem dX9_wants_56 : decode cX9_wants 56 = .ok (.iconst (-1), 1) := by decide +kernel
theorem dX9_wants_57 : decode cX9_wants 57 = .ok (.ireturn, 1) := by decide +kernel
theorem dX9_wants_58 : decode cX9_wants 58 = .ok (.aload_n 0, 1) := by decide +kernel
theorem dX9_wants_59 : decode cX9_wants 59 = .ok (.getfield 60, 3) := by decide +kernel
theorem dX9_wants_62 : decode cX9_wants 62 = .ok (.getfield 270, 3) := by decide +kernel
theorem dX9_wants_65 : decode cX9_wants 65 = .ok (.iload_n 3, 1) := by decide +kernel
theorem dX9_wants_66 : decode cX9_wants 66 = .ok (.iaload, 1) := by decide +kernel
theorem dX9_wants_67 : decode cX9_wants 67 = .ok (.ireturn, 1) := by decide +kernel
theorem dX9_way_0 : decode cX9_way 0 = .ok (.aload_n 0, 1) := by decide +kernel
theorem dX9_way_1 : decode cX9_way 1 = .ok (.getfield 24, 3) := by decide +kernel
theorem dX9_way_4 : decode cX9_way 4 = .ok (.getfield 100, 3) := by decide +kernel
theorem dX9_way_7 : decode cX9_way 7 = .ok (.iload_n 1, 1) := by decide +kernel
theorem dX9_way_8 : decode cX9_way 8 = .ok (.invokevirtual 147, 3) := by decide +kernel
theorem dX9_way_11 : decode cX9_way 11 = .ok (.ifCond .eq 17, 3) := by decide +kernel
theorem dX9_way_14 : decode cX9_way 14 = .ok (.aload_n 0, 1) := by decide +kernel
theorem dX9_way_15 : decode cX9_way 15 = .ok (.getfield 24, 3) := by decide +kernel
theorem dX9_way_18 : decode cX9_way 18 = .ok (.getfield 100, 3) := by decide +kernel
theorem dX9_way_21 : decode cX9_way 21 = .ok (.iload_n 2, 1) := by decide +kernel
theorem dX9_way_22 : decode cX9_way 22 = .ok (.invokevirtual 171, 3) := by decide +kernel
theorem dX9_way_25 : decode cX9_way 25 = .ok (.ifCond .ne 6, 3) := by decide +kernel
theorem dX9_way_28 : decode cX9_way 28 = .ok (.bipush (-2), 2) := by decide +kernel
theorem dX9_way_30 : decode cX9_way 30 = .ok (.ireturn, 1) := by decide +kernel
theorem dX9_way_31 : decode cX9_way 31 = .ok (.aload_n 0, 1) := by decide +kernel
theorem dX9_way_32 : decode cX9_way 32 = .ok (.iload_n 1, 1) := by decide +kernel
theorem dX9_way_33 : decode cX9_way 33 = .ok (.iload_n 2, 1) := by decide +kernel
theorem dX9_way_34 : decode cX9_way 34 = .ok (.invokevirtual 264, 3) := by decide +kernel
theorem dX9_way_37 : decode cX9_way 37 = .ok (.ireturn, 1) := by decide +kernel
theorem dX9_wheel_0 : decode cX9_wheel 0 = .ok (.aload_n 0, 1) := by decide +kernel
theorem dX9_wheel_1 : decode cX9_wheel 1 = .ok (.getfield 24, 3) := by decide +kernel
theorem dX9_wheel_4 : decode cX9_wheel 4 = .ok (.getfield 100, 3) := by decide +kernel
theorem dX9_wheel_7 : decode cX9_wheel 7 = .ok (.iload_n 1, 1) := by decide +kernel
theorem dX9_wheel_8 : decode cX9_wheel 8 = .ok (.invokevirtual 127, 3) := by decide +kernel
theorem dX9_wheel_11 : decode cX9_wheel 11 = .ok (.ifCond .ne 6, 3) := by decide +kernel
theorem dX9_wheel_14 : decode cX9_wheel 14 = .ok (.bipush (-2), 2) := by decide +kernel
theorem dX9_wheel_16 : decode cX9_wheel 16 = .ok (.ireturn, 1) := by decide +kernel
theorem dX9_wheel_17 : decode cX9_wheel 17 = .ok (.iload_n 2, 1) := by decide +kernel
theorem dX9_wheel_18 : decode cX9_wheel 18 = .ok (.tableswitch 64 0 2 #[26, 39, 52], 26) := by decide +kernel
theorem dX9_wheel_44 : decode cX9_wheel 44 = .ok (.aload_n 0, 1) := by decide +kernel
theorem dX9_wheel_45 : decode cX9_wheel 45 = .ok (.getfield 24, 3) := by decide +kernel
theorem dX9_wheel_48 : decode cX9_wheel 48 = .ok (.getfield 130, 3) := by decide +kernel
theorem dX9_wheel_51 : decode cX9_wheel 51 = .ok (.getfield 137, 3) := by decide +kernel
theorem dX9_wheel_54 : decode cX9_wheel 54 = .ok (.iload_n 1, 1) := by decide +kernel
theorem dX9_wheel_55 : decode cX9_wheel 55 = .ok (.iaload, 1) := by decide +kernel
theorem dX9_wheel_56 : decode cX9_wheel 56 = .ok (.ireturn, 1) := by decide +kernel
theorem dX9_wheel_57 : decode cX9_wheel 57 = .ok (.aload_n 0, 1) := by decide +kernel
theorem dX9_wheel_58 : decode cX9_wheel 58 = .ok (.getfield 24, 3) := by decide +kernel
theorem dX9_wheel_61 : decode cX9_wheel 61 = .ok (.getfield 130, 3) := by decide +kernel
theorem dX9_wheel_64 : decode cX9_wheel 64 = .ok (.getfield 140, 3) := by decide +kernel
theorem dX9_wheel_67 : decode cX9_wheel 67 = .ok (.iload_n 1, 1) := by decide +kernel
theorem dX9_wheel_68 : decode cX9_wheel 68 = .ok (.iaload, 1) := by decide +kernel
theorem dX9_wheel_69 : decode cX9_wheel 69 = .ok (.ireturn, 1) := by decide +kernel
theorem dX9_wheel_70 : decode cX9_wheel 70 = .ok (.aload_n 0, 1) := by decide +kernel
theorem dX9_wheel_71 : decode cX9_wheel 71 = .ok (.getfield 24, 3) := by decide +kernel
theorem dX9_wheel_74 : decode cX9_wheel 74 = .ok (.getfield 130, 3) := by decide +kernel
theorem dX9_wheel_77 : decode cX9_wheel 77 = .ok (.iload_n 1, 1) := by decide +kernel
theorem dX9_wheel_78 : decode cX9_wheel 78 = .ok (.invokevirtual 143, 3) := by decide +kernel
theorem dX9_wheel_81 : decode cX9_wheel 81 = .ok (.ireturn, 1) := by decide +kernel
theorem dX9_wheel_82 : decode cX9_wheel 82 = .ok (.bipush (-2), 2) := by decide +kernel
theorem dX9_wheel_84 : decode cX9_wheel 84 = .ok (.ireturn, 1) := by decide +kernel
theorem dX9_worn_0 : decode cX9_worn 0 = .ok (.aload_n 0, 1) := by decide +kernel
theorem dX9_worn_1 : decode cX9_worn 1 = .ok (.iload_n 1, 1) := by decide +kernel
theorem dX9_worn_2 : decode cX9_worn 2 = .ok (.iload_n 2, 1) := by decide +kernel
theorem dX9_worn_3 : decode cX9_worn 3 = .ok (.invokevirtual 220, 3) := by decide +kernel
theorem dX9_worn_6 : decode cX9_worn 6 = .ok (.istore_n 3, 1) := by decide +kernel
theorem dX9_worn_7 : decode cX9_worn 7 = .ok (.iload_n 3, 1) := by decide +kernel
theorem dX9_worn_8 : decode cX9_worn 8 = .ok (.ifCond .eq 7, 3) := by decide +kernel
theorem dX9_worn_11 : decode cX9_worn 11 = .ok (.iload_n 3, 1) := by decide +kernel
theorem dX9_worn_12 : decode cX9_worn 12 = .ok (.goto 10, 3) := by decide +kernel
theorem dX9_worn_15 : decode cX9_worn 15 = .ok (.aload_n 0, 1) := by decide +kernel
theorem dX9_worn_16 : decode cX9_worn 16 = .ok (.getfield 53, 3) := by decide +kernel
theorem dX9_worn_19 : decode cX9_worn 19 = .ok (.getfield 235, 3) := by decide +kernel
theorem dX9_worn_22 : decode cX9_worn 22 = .ok (.ireturn, 1) := by decide +kernel
theorem dX9_worstAt_0 : decode cX9_worstAt 0 = .ok (.aload_n 0, 1) := by decide +kernel
theorem dX9_worstAt_1 : decode cX9_worstAt 1 = .ok (.getfield 24, 3) := by decide +kernel
theorem dX9_worstAt_4 : decode cX9_worstAt 4 = .ok (.getfield 100, 3) := by decide +kernel
theorem dX9_worstAt_7 : decode cX9_worstAt 7 = .ok (.iload_n 1, 1) := by decide +kernel
theorem dX9_worstAt_8 : decode cX9_worstAt 8 = .ok (.invokevirtual 174, 3) := by decide +kernel
theorem dX9_worstAt_11 : decode cX9_worstAt 11 = .ok (.ifCond .ne 8, 3) := by decide +kernel
theorem dX9_worstAt_14 : decode cX9_worstAt 14 = .ok (.iload_n 2, 1) := by decide +kernel
theorem dX9_worstAt_15 : decode cX9_worstAt 15 = .ok (.invokestatic 303, 3) := by decide +kernel
theorem dX9_worstAt_18 : decode cX9_worstAt 18 = .ok (.ireturn, 1) := by decide +kernel
theorem dX9_worstAt_19 : decode cX9_worstAt 19 = .ok (.aload_n 0, 1) := by decide +kernel
theorem dX9_worstAt_20 : decode cX9_worstAt 20 = .ok (.getfield 71, 3) := by decide +kernel
theorem dX9_worstAt_23 : decode cX9_worstAt 23 = .ok (.iconst 0, 1) := by decide +kernel
theorem dX9_worstAt_24 : decode cX9_worstAt 24 = .ok (.invokestatic 320, 3) := by decide +kernel
theorem dX9_worstAt_27 : decode cX9_worstAt 27 = .ok (.iconst 0, 1) := by decide +kernel
theorem dX9_worstAt_28 : decode cX9_worstAt 28 = .ok (.istore_n 3, 1) := by decide +kernel
theorem dX9_worstAt_29 : decode cX9_worstAt 29 = .ok (.iconst 0, 1) := by decide +kernel
theorem dX9_worstAt_30 : decode cX9_worstAt 30 = .ok (.istore 4, 2) := by decide +kernel
theorem dX9_worstAt_32 : decode cX9_worstAt 32 = .ok (.iload 4, 2) := by decide +kernel
theorem dX9_worstAt_34 : decode cX9_worstAt 34 = .ok (.aload_n 0, 1) := by decide +kernel
theorem dX9_worstAt_35 : decode cX9_worstAt 35 = .ok (.getfield 24, 3) := by decide +kernel
theorem dX9_worstAt_38 : decode cX9_worstAt 38 = .ok (.getfield 100, 3) := by decide +kernel
theorem dX9_worstAt_41 : decode cX9_worstAt 41 = .ok (.getfield 314, 3) := by decide +kernel
theorem dX9_worstAt_44 : decode cX9_worstAt 44 = .ok (.if_icmp .ge 69, 3) := by decide +kernel
theorem dX9_worstAt_47 : decode cX9_worstAt 47 = .ok (.aload_n 0, 1) := by decide +kernel
theorem dX9_worstAt_48 : decode cX9_worstAt 48 = .ok (.getfield 24, 3) := by decide +kernel
theorem dX9_worstAt_51 : decode cX9_worstAt 51 = .ok (.getfield 130, 3) := by decide +kernel
theorem dX9_worstAt_54 : decode cX9_worstAt 54 = .ok (.aload_n 0, 1) := by decide +kernel
theorem dX9_worstAt_55 : decode cX9_worstAt 55 = .ok (.getfield 24, 3) := by decide +kernel
theorem dX9_worstAt_58 : decode cX9_worstAt 58 = .ok (.getfield 100, 3) := by decide +kernel
theorem dX9_worstAt_61 : decode cX9_worstAt 61 = .ok (.iload 4, 2) := by decide +kernel
theorem dX9_worstAt_63 : decode cX9_worstAt 63 = .ok (.iload_n 1, 1) := by decide +kernel
theorem dX9_worstAt_64 : decode cX9_worstAt 64 = .ok (.invokevirtual 344, 3) := by decide +kernel
theorem dX9_worstAt_67 : decode cX9_worstAt 67 = .ok (.istore 5, 2) := by decide +kernel
theorem dX9_worstAt_69 : decode cX9_worstAt 69 = .ok (.iload_n 2, 1) := by decide +kernel
theorem dX9_worstAt_70 : decode cX9_worstAt 70 = .ok (.iload 4, 2) := by decide +kernel
theorem dX9_worstAt_72 : decode cX9_worstAt 72 = .ok (.ishr, 1) := by decide +kernel
theorem dX9_worstAt_73 : decode cX9_worstAt 73 = .ok (.iconst 1, 1) := by decide +kernel
theorem dX9_worstAt_74 : decode cX9_worstAt 74 = .ok (.iand, 1) := by decide +kernel
theorem dX9_worstAt_75 : decode cX9_worstAt 75 = .ok (.ifCond .eq 32, 3) := by decide +kernel
theorem dX9_worstAt_78 : decode cX9_worstAt 78 = .ok (.iload 5, 2) := by decide +kernel
theorem dX9_worstAt_80 : decode cX9_worstAt 80 = .ok (.iconst (-1), 1) := by decide +kernel
theorem dX9_worstAt_81 : decode cX9_worstAt 81 = .ok (.if_icmp .eq 26, 3) := by decide +kernel
theorem dX9_worstAt_84 : decode cX9_worstAt 84 = .ok (.aload_n 0, 1) := by decide +kernel
theorem dX9_worstAt_85 : decode cX9_worstAt 85 = .ok (.getfield 71, 3) := by decide +kernel
theorem dX9_worstAt_88 : decode cX9_worstAt 88 = .ok (.iload 5, 2) := by decide +kernel
theorem dX9_worstAt_90 : decode cX9_worstAt 90 = .ok (.dup2, 1) := by decide +kernel
theorem dX9_worstAt_91 : decode cX9_worstAt 91 = .ok (.iaload, 1) := by decide +kernel
theorem dX9_worstAt_92 : decode cX9_worstAt 92 = .ok (.iconst 1, 1) := by decide +kernel
theorem dX9_worstAt_93 : decode cX9_worstAt 93 = .ok (.iadd, 1) := by decide +kernel
theorem dX9_worstAt_94 : decode cX9_worstAt 94 = .ok (.iastore, 1) := by decide +kernel
theorem dX9_worstAt_95 : decode cX9_worstAt 95 = .ok (.iload_n 3, 1) := by decide +kernel
theorem dX9_worstAt_96 : decode cX9_worstAt 96 = .ok (.aload_n 0, 1) := by decide +kernel
theorem dX9_worstAt_97 : decode cX9_worstAt 97 = .ok (.getfield 71, 3) := by decide +kernel
theorem dX9_worstAt_100 : decode cX9_worstAt 100 = .ok (.iload 5, 2) := by decide +kernel
theorem dX9_worstAt_102 : decode cX9_worstAt 102 = .ok (.iaload, 1) := by decide +kernel
theorem dX9_worstAt_103 : decode cX9_worstAt 103 = .ok (.invokestatic 347, 3) := by decide +kernel
theorem dX9_worstAt_106 : decode cX9_worstAt 106 = .ok (.istore_n 3, 1) := by decide +kernel
theorem dX9_worstAt_107 : decode cX9_worstAt 107 = .ok (.iinc 4 1, 3) := by decide +kernel
theorem dX9_worstAt_110 : decode cX9_worstAt 110 = .ok (.goto (-78), 3) := by decide +kernel
theorem dX9_worstAt_113 : decode cX9_worstAt 113 = .ok (.iload_n 3, 1) := by decide +kernel
theorem dX9_worstAt_114 : decode cX9_worstAt 114 = .ok (.ireturn, 1) := by decide +kernel
theorem dX9_worth_0 : decode cX9_worth 0 = .ok (.aload_n 0, 1) := by decide +kernel
theorem dX9_worth_1 : decode cX9_worth 1 = .ok (.getfield 24, 3) := by decide +kernel
theorem dX9_worth_4 : decode cX9_worth 4 = .ok (.getfield 100, 3) := by decide +kernel
theorem dX9_worth_7 : decode cX9_worth 7 = .ok (.iload_n 1, 1) := by decide +kernel
theorem dX9_worth_8 : decode cX9_worth 8 = .ok (.invokevirtual 127, 3) := by decide +kernel
theorem dX9_worth_11 : decode cX9_worth 11 = .ok (.ifCond .eq 24, 3) := by decide +kernel
theorem dX9_worth_14 : decode cX9_worth 14 = .ok (.aload_n 0, 1) := by decide +kernel
theorem dX9_worth_15 : decode cX9_worth 15 = .ok (.getfield 24, 3) := by decide +kernel
theorem dX9_worth_18 : decode cX9_worth 18 = .ok (.getfield 130, 3) := by decide +kernel
theorem dX9_worth_21 : decode cX9_worth 21 = .ok (.aload_n 0, 1) := by decide +kernel
theorem dX9_worth_22 : decode cX9_worth 22 = .ok (.getfield 24, 3) := by decide +kernel
theorem dX9_worth_25 : decode cX9_worth 25 = .ok (.getfield 100, 3) := by decide +kernel
theorem dX9_worth_28 : decode cX9_worth 28 = .ok (.iload_n 1, 1) := by decide +kernel
theorem dX9_worth_29 : decode cX9_worth 29 = .ok (.invokevirtual 364, 3) := by decide +kernel
theorem dX9_worth_32 : decode cX9_worth 32 = .ok (.goto 5, 3) := by decide +kernel
theorem dX9_worth_35 : decode cX9_worth 35 = .ok (.bipush (-2), 2) := by decide +kernel
theorem dX9_worth_37 : decode cX9_worth 37 = .ok (.ireturn, 1) := by decide +kernel
theorem dX9_write_0 : decode cX9_write 0 = .ok (.aload_n 0, 1) := by decide +kernel
theorem dX9_write_1 : decode cX9_write 1 = .ok (.getfield 39, 3) := by decide +kernel
theorem dX9_write_4 : decode cX9_write 4 = .ok (.iload_n 1, 1) := by decide +kernel
theorem dX9_write_5 : decode cX9_write 5 = .ok (.invokevirtual 238, 3) := by decide +kernel
theorem dX9_write_8 : decode cX9_write 8 = .ok (.ifCond .ne 6, 3) := by decide +kernel
theorem dX9_write_11 : decode cX9_write 11 = .ok (.bipush (-2), 2) := by decide +kernel
theorem dX9_write_13 : decode cX9_write 13 = .ok (.ireturn, 1) := by decide +kernel
theorem dX9_write_14 : decode cX9_write 14 = .ok (.aload_n 0, 1) := by decide +kernel
theorem dX9_write_15 : decode cX9_write 15 = .ok (.getfield 39, 3) := by decide +kernel
theorem dX9_write_18 : decode cX9_write 18 = .ok (.iload_n 1, 1) := by decide +kernel
theorem dX9_write_19 : decode cX9_write 19 = .ok (.invokevirtual 241, 3) := by decide +kernel
theorem dX9_write_22 : decode cX9_write 22 = .ok (.ifCond .ne 6, 3) := by decide +kernel
theorem dX9_write_25 : decode cX9_write 25 = .ok (.bipush (-6), 2) := by decide +kernel
theorem dX9_write_27 : decode cX9_write 27 = .ok (.ireturn, 1) := by decide +kernel
theorem dX9_write_28 : decode cX9_write 28 = .ok (.iload_n 2, 1) := by decide +kernel
theorem dX9_write_29 : decode cX9_write 29 = .ok (.ifCond .lt 16, 3) := by decide +kernel
theorem dX9_write_32 : decode cX9_write 32 = .ok (.iload_n 2, 1) := by decide +kernel
theorem dX9_write_33 : decode cX9_write 33 = .ok (.aload_n 0, 1) := by decide +kernel
theorem dX9_write_34 : decode cX9_write 34 = .ok (.getfield 39, 3) := by decide +kernel
theorem dX9_write_37 : decode cX9_write 37 = .ok (.getfield 244, 3) := by decide +kernel
theorem dX9_write_40 : decode cX9_write 40 = .ok (.iload_n 1, 1) := by decide +kernel
theorem dX9_write_41 : decode cX9_write 41 = .ok (.iaload, 1) := by decide +kernel
theorem dX9_write_42 : decode cX9_write 42 = .ok (.if_icmp .lt 6, 3) := by decide +kernel
theorem dX9_write_45 : decode cX9_write 45 = .ok (.bipush (-7), 2) := by decide +kernel
theorem dX9_write_47 : decode cX9_write 47 = .ok (.ireturn, 1) := by decide +kernel
theorem dX9_write_48 : decode cX9_write 48 = .ok (.aload_n 0, 1) := by decide +kernel
theorem dX9_write_49 : decode cX9_write 49 = .ok (.getfield 39, 3) := by decide +kernel
theorem dX9_write_52 : decode cX9_write 52 = .ok (.iload_n 1, 1) := by decide +kernel
theorem dX9_write_53 : decode cX9_write 53 = .ok (.iload_n 2, 1) := by decide +kernel
theorem dX9_write_54 : decode cX9_write 54 = .ok (.lload_n 3, 1) := by decide +kernel
theorem dX9_write_55 : decode cX9_write 55 = .ok (.invokevirtual 421, 3) := by decide +kernel
theorem dX9_write_58 : decode cX9_write 58 = .ok (.iconst 0, 1) := by decide +kernel
theorem dX9_write_59 : decode cX9_write 59 = .ok (.ireturn, 1) := by decide +kernel
