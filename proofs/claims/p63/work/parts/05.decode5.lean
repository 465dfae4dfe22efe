theorem dX2_readRoad_38 : decode cX2_readRoad 38 = .ok (.aload_n 0, 1) := by decide +kernel
theorem dX2_readRoad_39 : decode cX2_readRoad 39 = .ok (.ldc 103, 2) := by decide +kernel
theorem dX2_readRoad_41 : decode cX2_readRoad 41 = .ok (.invokevirtual 83, 3) := by decide +kernel
theorem dX2_readRoad_44 : decode cX2_readRoad 44 = .ok (.aload_n 0, 1) := by decide +kernel
theorem dX2_readRoad_45 : decode cX2_readRoad 45 = .ok (.getfield 41, 3) := by decide +kernel
theorem dX2_readRoad_48 : decode cX2_readRoad 48 = .ok (.iconst 2, 1) := by decide +kernel
theorem dX2_readRoad_49 : decode cX2_readRoad 49 = .ok (.if_icmp .ne 16, 3) := by decide +kernel
theorem dX2_readRoad_52 : decode cX2_readRoad 52 = .ok (.aload_n 0, 1) := by decide +kernel
theorem dX2_readRoad_53 : decode cX2_readRoad 53 = .ok (.getfield 105, 3) := by decide +kernel
theorem dX2_readRoad_56 : decode cX2_readRoad 56 = .ok (.iload_n 1, 1) := by decide +kernel
theorem dX2_readRoad_57 : decode cX2_readRoad 57 = .ok (.if_icmp .ne 8, 3) := by decide +kernel
theorem dX2_readRoad_60 : decode cX2_readRoad 60 = .ok (.aload_n 0, 1) := by decide +kernel
theorem dX2_readRoad_61 : decode cX2_readRoad 61 = .ok (.iconst 2, 1) := by decide +kernel
theorem dX2_readRoad_62 : decode cX2_readRoad 62 = .ok (.invokevirtual 77, 3) := by decide +kernel
theorem dX2_readRoad_65 : decode cX2_readRoad 65 = .ok (.aload_n 0, 1) := by decide +kernel
theorem dX2_readRoad_66 : decode cX2_readRoad 66 = .ok (.iconst 0, 1) := by decide +kernel
theorem dX2_readRoad_67 : decode cX2_readRoad 67 = .ok (.aload_n 0, 1) := by decide +kernel
theorem dX2_readRoad_68 : decode cX2_readRoad 68 = .ok (.getfield 21, 3) := by decide +kernel
theorem dX2_readRoad_71 : decode cX2_readRoad 71 = .ok (.getfield 95, 3) := by decide +kernel
theorem dX2_readRoad_74 : decode cX2_readRoad 74 = .ok (.iconst 1, 1) := by decide +kernel
theorem dX2_readRoad_75 : decode cX2_readRoad 75 = .ok (.isub, 1) := by decide +kernel
theorem dX2_readRoad_76 : decode cX2_readRoad 76 = .ok (.invokevirtual 89, 3) := by decide +kernel
theorem dX2_readRoad_79 : decode cX2_readRoad 79 = .ok (.istore_n 2, 1) := by decide +kernel
theorem dX2_readRoad_80 : decode cX2_readRoad 80 = .ok (.aload_n 0, 1) := by decide +kernel
theorem dX2_readRoad_81 : decode cX2_readRoad 81 = .ok (.ldc 108, 2) := by decide +kernel
theorem dX2_readRoad_83 : decode cX2_readRoad 83 = .ok (.invokevirtual 83, 3) := by decide +kernel
theorem dX2_readRoad_86 : decode cX2_readRoad 86 = .ok (.aload_n 0, 1) := by decide +kernel
theorem dX2_readRoad_87 : decode cX2_readRoad 87 = .ok (.iconst 1, 1) := by decide +kernel
theorem dX2_readRoad_88 : decode cX2_readRoad 88 = .ok (.bipush 20, 2) := by decide +kernel
theorem dX2_readRoad_90 : decode cX2_readRoad 90 = .ok (.invokevirtual 89, 3) := by decide +kernel
theorem dX2_readRoad_93 : decode cX2_readRoad 93 = .ok (.istore_n 3, 1) := by decide +kernel
theorem dX2_readRoad_94 : decode cX2_readRoad 94 = .ok (.aload_n 0, 1) := by decide +kernel
theorem dX2_readRoad_95 : decode cX2_readRoad 95 = .ok (.getfield 32, 3) := by decide +kernel
theorem dX2_readRoad_98 : decode cX2_readRoad 98 = .ok (.ifCond .ne 13, 3) := by decide +kernel
theorem dX2_readRoad_101 : decode cX2_readRoad 101 = .ok (.aload_n 0, 1) := by decide +kernel
theorem dX2_readRoad_102 : decode cX2_readRoad 102 = .ok (.getfield 21, 3) := by decide +kernel
theorem dX2_readRoad_105 : decode cX2_readRoad 105 = .ok (.iload_n 1, 1) := by decide +kernel
theorem dX2_readRoad_106 : decode cX2_readRoad 106 = .ok (.iload_n 2, 1) := by decide +kernel
theorem dX2_readRoad_107 : decode cX2_readRoad 107 = .ok (.iload_n 3, 1) := by decide +kernel
theorem dX2_readRoad_108 : decode cX2_readRoad 108 = .ok (.invokevirtual 110, 3) := by decide +kernel
theorem dX2_readRoad_111 : decode cX2_readRoad 111 = .ok (.return_, 1) := by decide +kernel
theorem dX2_readSeat_0 : decode cX2_readSeat 0 = .ok (.aload_n 0, 1) := by decide +kernel
theorem dX2_readSeat_1 : decode cX2_readSeat 1 = .ok (.getfield 21, 3) := by decide +kernel
theorem dX2_readSeat_4 : decode cX2_readSeat 4 = .ok (.aload_n 0, 1) := by decide +kernel
theorem dX2_readSeat_5 : decode cX2_readSeat 5 = .ok (.getfield 105, 3) := by decide +kernel
theorem dX2_readSeat_8 : decode cX2_readSeat 8 = .ok (.invokevirtual 146, 3) := by decide +kernel
theorem dX2_readSeat_11 : decode cX2_readSeat 11 = .ok (.ifCond .ne 11, 3) := by decide +kernel
theorem dX2_readSeat_14 : decode cX2_readSeat 14 = .ok (.aload_n 0, 1) := by decide +kernel
theorem dX2_readSeat_15 : decode cX2_readSeat 15 = .ok (.iconst 2, 1) := by decide +kernel
theorem dX2_readSeat_16 : decode cX2_readSeat 16 = .ok (.invokevirtual 77, 3) := by decide +kernel
theorem dX2_readSeat_19 : decode cX2_readSeat 19 = .ok (.goto 71, 3) := by decide +kernel
theorem dX2_readSeat_22 : decode cX2_readSeat 22 = .ok (.iload_n 1, 1) := by decide +kernel
theorem dX2_readSeat_23 : decode cX2_readSeat 23 = .ok (.iconst 4, 1) := by decide +kernel
theorem dX2_readSeat_24 : decode cX2_readSeat 24 = .ok (.if_icmp .lt 11, 3) := by decide +kernel
theorem dX2_readSeat_27 : decode cX2_readSeat 27 = .ok (.aload_n 0, 1) := by decide +kernel
theorem dX2_readSeat_28 : decode cX2_readSeat 28 = .ok (.iconst 3, 1) := by decide +kernel
theorem dX2_readSeat_29 : decode cX2_readSeat 29 = .ok (.invokevirtual 77, 3) := by decide +kernel
theorem dX2_readSeat_32 : decode cX2_readSeat 32 = .ok (.goto 58, 3) := by decide +kernel
theorem dX2_readSeat_35 : decode cX2_readSeat 35 = .ok (.aload_n 0, 1) := by decide +kernel
theorem dX2_readSeat_36 : decode cX2_readSeat 36 = .ok (.getfield 21, 3) := by decide +kernel
theorem dX2_readSeat_39 : decode cX2_readSeat 39 = .ok (.getfield 124, 3) := by decide +kernel
theorem dX2_readSeat_42 : decode cX2_readSeat 42 = .ok (.getfield 150, 3) := by decide +kernel
theorem dX2_readSeat_45 : decode cX2_readSeat 45 = .ok (.aload_n 0, 1) := by decide +kernel
theorem dX2_readSeat_46 : decode cX2_readSeat 46 = .ok (.getfield 105, 3) := by decide +kernel
theorem dX2_readSeat_49 : decode cX2_readSeat 49 = .ok (.iaload, 1) := by decide +kernel
theorem dX2_readSeat_50 : decode cX2_readSeat 50 = .ok (.iconst (-1), 1) := by decide +kernel
theorem dX2_readSeat_51 : decode cX2_readSeat 51 = .ok (.if_icmp .eq 11, 3) := by decide +kernel
theorem dX2_readSeat_54 : decode cX2_readSeat 54 = .ok (.aload_n 0, 1) := by decide +kernel
theorem dX2_readSeat_55 : decode cX2_readSeat 55 = .ok (.iconst 2, 1) := by decide +kernel
theorem dX2_readSeat_56 : decode cX2_readSeat 56 = .ok (.invokevirtual 77, 3) := by decide +kernel
theorem dX2_readSeat_59 : decode cX2_readSeat 59 = .ok (.goto 31, 3) := by decide +kernel
theorem dX2_readSeat_62 : decode cX2_readSeat 62 = .ok (.aload_n 0, 1) := by decide +kernel
theorem dX2_readSeat_63 : decode cX2_readSeat 63 = .ok (.getfield 21, 3) := by decide +kernel
theorem dX2_readSeat_66 : decode cX2_readSeat 66 = .ok (.getfield 124, 3) := by decide +kernel
theorem dX2_readSeat_69 : decode cX2_readSeat 69 = .ok (.getfield 150, 3) := by decide +kernel
theorem dX2_readSeat_72 : decode cX2_readSeat 72 = .ok (.aload_n 0, 1) := by decide +kernel
theorem dX2_readSeat_73 : decode cX2_readSeat 73 = .ok (.getfield 105, 3) := by decide +kernel
theorem dX2_readSeat_76 : decode cX2_readSeat 76 = .ok (.aload_n 0, 1) := by decide +kernel
theorem dX2_readSeat_77 : decode cX2_readSeat 77 = .ok (.getfield 21, 3) := by decide +kernel
theorem dX2_readSeat_80 : decode cX2_readSeat 80 = .ok (.getfield 133, 3) := by decide +kernel
theorem dX2_readSeat_83 : decode cX2_readSeat 83 = .ok (.iconst 1, 1) := by decide +kernel
theorem dX2_readSeat_84 : decode cX2_readSeat 84 = .ok (.isub, 1) := by decide +kernel
theorem dX2_readSeat_85 : decode cX2_readSeat 85 = .ok (.iastore, 1) := by decide +kernel
theorem dX2_readSeat_86 : decode cX2_readSeat 86 = .ok (.aload_n 0, 1) := by decide +kernel
theorem dX2_readSeat_87 : decode cX2_readSeat 87 = .ok (.invokevirtual 38, 3) := by decide +kernel
theorem dX2_readSeat_90 : decode cX2_readSeat 90 = .ok (.return_, 1) := by decide +kernel
theorem dX2_readWheel_0 : decode cX2_readWheel 0 = .ok (.aload_n 0, 1) := by decide +kernel
theorem dX2_readWheel_1 : decode cX2_readWheel 1 = .ok (.getfield 21, 3) := by decide +kernel
theorem dX2_readWheel_4 : decode cX2_readWheel 4 = .ok (.getfield 114, 3) := by decide +kernel
theorem dX2_readWheel_7 : decode cX2_readWheel 7 = .ok (.bipush 8, 2) := by decide +kernel
theorem dX2_readWheel_9 : decode cX2_readWheel 9 = .ok (.if_icmp .lt 8, 3) := by decide +kernel
theorem dX2_readWheel_12 : decode cX2_readWheel 12 = .ok (.aload_n 0, 1) := by decide +kernel
theorem dX2_readWheel_13 : decode cX2_readWheel 13 = .ok (.iconst 3, 1) := by decide +kernel
theorem dX2_readWheel_14 : decode cX2_readWheel 14 = .ok (.invokevirtual 77, 3) := by decide +kernel
theorem dX2_readWheel_17 : decode cX2_readWheel 17 = .ok (.aload_n 0, 1) := by decide +kernel
theorem dX2_readWheel_18 : decode cX2_readWheel 18 = .ok (.ldc 62, 2) := by decide +kernel
theorem dX2_readWheel_20 : decode cX2_readWheel 20 = .ok (.invokevirtual 83, 3) := by decide +kernel
theorem dX2_readWheel_23 : decode cX2_readWheel 23 = .ok (.aload_n 0, 1) := by decide +kernel
theorem dX2_readWheel_24 : decode cX2_readWheel 24 = .ok (.ldc 117, 2) := by decide +kernel
theorem dX2_readWheel_26 : decode cX2_readWheel 26 = .ok (.invokevirtual 83, 3) := by decide +kernel
theorem dX2_readWheel_29 : decode cX2_readWheel 29 = .ok (.aload_n 0, 1) := by decide +kernel
theorem dX2_readWheel_30 : decode cX2_readWheel 30 = .ok (.iconst 0, 1) := by decide +kernel
theorem dX2_readWheel_31 : decode cX2_readWheel 31 = .ok (.sipush 999, 3) := by decide +kernel
theorem dX2_readWheel_34 : decode cX2_readWheel 34 = .ok (.invokevirtual 89, 3) := by decide +kernel
theorem dX2_readWheel_37 : decode cX2_readWheel 37 = .ok (.istore_n 1, 1) := by decide +kernel
theorem dX2_readWheel_38 : decode cX2_readWheel 38 = .ok (.aload_n 0, 1) := by decide +kernel
theorem dX2_readWheel_39 : decode cX2_readWheel 39 = .ok (.getfield 32, 3) := by decide +kernel
theorem dX2_readWheel_42 : decode cX2_readWheel 42 = .ok (.ifCond .ne 11, 3) := by decide +kernel
theorem dX2_readWheel_45 : decode cX2_readWheel 45 = .ok (.aload_n 0, 1) := by decide +kernel
theorem dX2_readWheel_46 : decode cX2_readWheel 46 = .ok (.getfield 21, 3) := by decide +kernel
theorem dX2_readWheel_49 : decode cX2_readWheel 49 = .ok (.iload_n 1, 1) := by decide +kernel
theorem dX2_readWheel_50 : decode cX2_readWheel 50 = .ok (.invokevirtual 119, 3) := by decide +kernel
theorem dX2_readWheel_53 : decode cX2_readWheel 53 = .ok (.iconst 0, 1) := by decide +kernel
theorem dX2_readWheel_54 : decode cX2_readWheel 54 = .ok (.istore_n 2, 1) := by decide +kernel
theorem dX2_readWheel_55 : decode cX2_readWheel 55 = .ok (.iload_n 2, 1) := by decide +kernel
theorem dX2_readWheel_56 : decode cX2_readWheel 56 = .ok (.sipush 1000, 3) := by decide +kernel
theorem dX2_readWheel_59 : decode cX2_readWheel 59 = .ok (.if_icmp .ge 82, 3) := by decide +kernel
theorem dX2_readWheel_62 : decode cX2_readWheel 62 = .ok (.aload_n 0, 1) := by decide +kernel
theorem dX2_readWheel_63 : decode cX2_readWheel 63 = .ok (.getfield 32, 3) := by decide +kernel
theorem dX2_readWheel_66 : decode cX2_readWheel 66 = .ok (.ifCond .ne 75, 3) := by decide +kernel
theorem dX2_readWheel_69 : decode cX2_readWheel 69 = .ok (.aload_n 0, 1) := by decide +kernel
theorem dX2_readWheel_70 : decode cX2_readWheel 70 = .ok (.ldc 122, 2) := by decide +kernel
theorem dX2_readWheel_72 : decode cX2_readWheel 72 = .ok (.invokevirtual 55, 3) := by decide +kernel
theorem dX2_readWheel_75 : decode cX2_readWheel 75 = .ok (.ifCond .eq 66, 3) := by decide +kernel
theorem dX2_readWheel_78 : decode cX2_readWheel 78 = .ok (.aload_n 0, 1) := by decide +kernel
theorem dX2_readWheel_79 : decode cX2_readWheel 79 = .ok (.invokevirtual 38, 3) := by decide +kernel
theorem dX2_readWheel_82 : decode cX2_readWheel 82 = .ok (.aload_n 0, 1) := by decide +kernel
theorem dX2_readWheel_83 : decode cX2_readWheel 83 = .ok (.iconst 0, 1) := by decide +kernel
theorem dX2_readWheel_84 : decode cX2_readWheel 84 = .ok (.aload_n 0, 1) := by decide +kernel
theorem dX2_readWheel_85 : decode cX2_readWheel 85 = .ok (.getfield 21, 3) := by decide +kernel
theorem dX2_readWheel_88 : decode cX2_readWheel 88 = .ok (.getfield 100, 3) := by decide +kernel
theorem dX2_readWheel_91 : decode cX2_readWheel 91 = .ok (.iconst 1, 1) := by decide +kernel
theorem dX2_readWheel_92 : decode cX2_readWheel 92 = .ok (.isub, 1) := by decide +kernel
theorem dX2_readWheel_93 : decode cX2_readWheel 93 = .ok (.invokevirtual 89, 3) := by decide +kernel
theorem dX2_readWheel_96 : decode cX2_readWheel 96 = .ok (.istore_n 3, 1) := by decide +kernel
theorem dX2_readWheel_97 : decode cX2_readWheel 97 = .ok (.aload_n 0, 1) := by decide +kernel
theorem dX2_readWheel_98 : decode cX2_readWheel 98 = .ok (.iconst 0, 1) := by decide +kernel
theorem dX2_readWheel_99 : decode cX2_readWheel 99 = .ok (.bipush 9, 2) := by decide +kernel
theorem dX2_readWheel_101 : decode cX2_readWheel 101 = .ok (.invokevirtual 89, 3) := by decide +kernel
theorem dX2_readWheel_104 : decode cX2_readWheel 104 = .ok (.istore 4, 2) := by decide +kernel
theorem dX2_readWheel_106 : decode cX2_readWheel 106 = .ok (.aload_n 0, 1) := by decide +kernel
theorem dX2_readWheel_107 : decode cX2_readWheel 107 = .ok (.getfield 32, 3) := by decide +kernel
theorem dX2_readWheel_110 : decode cX2_readWheel 110 = .ok (.ifCond .ne 25, 3) := by decide +kernel
theorem dX2_readWheel_113 : decode cX2_readWheel 113 = .ok (.aload_n 0, 1) := by decide +kernel
theorem dX2_readWheel_114 : decode cX2_readWheel 114 = .ok (.getfield 21, 3) := by decide +kernel
theorem dX2_readWheel_117 : decode cX2_readWheel 117 = .ok (.getfield 124, 3) := by decide +kernel
theorem dX2_readWheel_120 : decode cX2_readWheel 120 = .ok (.aload_n 0, 1) := by decide +kernel
theorem dX2_readWheel_121 : decode cX2_readWheel 121 = .ok (.getfield 21, 3) := by decide +kernel
theorem dX2_readWheel_124 : decode cX2_readWheel 124 = .ok (.getfield 114, 3) := by decide +kernel
theorem dX2_readWheel_127 : decode cX2_readWheel 127 = .ok (.iconst 1, 1) := by decide +kernel
theorem dX2_readWheel_128 : decode cX2_readWheel 128 = .ok (.isub, 1) := by decide +kernel
theorem dX2_readWheel_129 : decode cX2_readWheel 129 = .ok (.iload_n 3, 1) := by decide +kernel
theorem dX2_readWheel_130 : decode cX2_readWheel 130 = .ok (.iload 4, 2) := by decide +kernel
theorem dX2_readWheel_132 : decode cX2_readWheel 132 = .ok (.invokevirtual 128, 3) := by decide +kernel
theorem dX2_readWheel_135 : decode cX2_readWheel 135 = .ok (.iinc 2 1, 3) := by decide +kernel
theorem dX2_readWheel_138 : decode cX2_readWheel 138 = .ok (.goto (-83), 3) := by decide +kernel
theorem dX2_readWheel_141 : decode cX2_readWheel 141 = .ok (.return_, 1) := by decide +kernel
theorem dX3_aim_0 : decode cX3_aim 0 = .ok (.aload_n 0, 1) := by decide +kernel
theorem dX3_aim_1 : decode cX3_aim 1 = .ok (.iload_n 2, 1) := by decide +kernel
theorem dX3_aim_2 : decode cX3_aim 2 = .ok (.putfield 31, 3) := by decide +kernel
theorem dX3_aim_5 : decode cX3_aim 5 = .ok (.aload_n 0, 1) := by decide +kernel
theorem dX3_aim_6 : decode cX3_aim 6 = .ok (.iload_n 3, 1) := by decide +kernel
theorem dX3_aim_7 : decode cX3_aim 7 = .ok (.putfield 35, 3) := by decide +kernel
theorem dX3_aim_10 : decode cX3_aim 10 = .ok (.aload_n 0, 1) := by decide +kernel
theorem dX3_aim_11 : decode cX3_aim 11 = .ok (.iconst 0, 1) := by decide +kernel
theorem dX3_aim_12 : decode cX3_aim 12 = .ok (.putfield 38, 3) := by decide +kernel
theorem dX3_aim_15 : decode cX3_aim 15 = .ok (.aload_n 0, 1) := by decide +kernel
theorem dX3_aim_16 : decode cX3_aim 16 = .ok (.ldc 41, 2) := by decide +kernel
theorem dX3_aim_18 : decode cX3_aim 18 = .ok (.putfield 42, 3) := by decide +kernel
theorem dX3_aim_21 : decode cX3_aim 21 = .ok (.aload_n 0, 1) := by decide +kernel
theorem dX3_aim_22 : decode cX3_aim 22 = .ok (.getfield 9, 3) := by decide +kernel
theorem dX3_aim_25 : decode cX3_aim 25 = .ok (.ldc 41, 2) := by decide +kernel
theorem dX3_aim_27 : decode cX3_aim 27 = .ok (.invokestatic 45, 3) := by decide +kernel
theorem dX3_aim_30 : decode cX3_aim 30 = .ok (.aload_n 0, 1) := by decide +kernel
theorem dX3_aim_31 : decode cX3_aim 31 = .ok (.getfield 15, 3) := by decide +kernel
theorem dX3_aim_34 : decode cX3_aim 34 = .ok (.ldc 41, 2) := by decide +kernel
theorem dX3_aim_36 : decode cX3_aim 36 = .ok (.invokestatic 45, 3) := by decide +kernel
theorem dX3_aim_39 : decode cX3_aim 39 = .ok (.iload_n 3, 1) := by decide +kernel
theorem dX3_aim_40 : decode cX3_aim 40 = .ok (.ifCond .lt 23, 3) := by decide +kernel
theorem dX3_aim_43 : decode cX3_aim 43 = .ok (.iload_n 3, 1) := by decide +kernel
theorem dX3_aim_44 : decode cX3_aim 44 = .ok (.bipush 6, 2) := by decide +kernel
theorem dX3_aim_46 : decode cX3_aim 46 = .ok (.if_icmp .ge 17, 3) := by decide +kernel
theorem dX3_aim_49 : decode cX3_aim 49 = .ok (.aload_n 0, 1) := by decide +kernel
theorem dX3_aim_50 : decode cX3_aim 50 = .ok (.getfield 9, 3) := by decide +kernel
theorem dX3_aim_53 : decode cX3_aim 53 = .ok (.iload_n 3, 1) := by decide +kernel
theorem dX3_aim_54 : decode cX3_aim 54 = .ok (.iconst 0, 1) := by decide +kernel
theorem dX3_aim_55 : decode cX3_aim 55 = .ok (.iastore, 1) := by decide +kernel
theorem dX3_aim_56 : decode cX3_aim 56 = .ok (.aload_n 0, 1) := by decide +kernel
theorem dX3_aim_57 : decode cX3_aim 57 = .ok (.getfield 15, 3) := by decide +kernel
theorem dX3_aim_60 : decode cX3_aim 60 = .ok (.iload_n 3, 1) := by decide +kernel
theorem dX3_aim_61 : decode cX3_aim 61 = .ok (.iconst 0, 1) := by decide +kernel
theorem dX3_aim_62 : decode cX3_aim 62 = .ok (.iastore, 1) := by decide +kernel
theorem dX3_aim_63 : decode cX3_aim 63 = .ok (.iconst 1, 1) := by decide +kernel
theorem dX3_aim_64 : decode cX3_aim 64 = .ok (.istore 4, 2) := by decide +kernel
theorem dX3_aim_66 : decode cX3_aim 66 = .ok (.iload 4, 2) := by decide +kernel
theorem dX3_aim_68 : decode cX3_aim 68 = .ok (.aload_n 1, 1) := by decide +kernel
theorem dX3_aim_69 : decode cX3_aim 69 = .ok (.getfield 51, 3) := by decide +kernel
theorem dX3_aim_72 : decode cX3_aim 72 = .ok (.if_icmp .ge 77, 3) := by decide +kernel
theorem dX3_aim_75 : decode cX3_aim 75 = .ok (.iconst 0, 1) := by decide +kernel
theorem dX3_aim_76 : decode cX3_aim 76 = .ok (.istore 5, 2) := by decide +kernel
theorem dX3_aim_78 : decode cX3_aim 78 = .ok (.iload 5, 2) := by decide +kernel
theorem dX3_aim_80 : decode cX3_aim 80 = .ok (.aload_n 1, 1) := by decide +kernel
theorem dX3_aim_81 : decode cX3_aim 81 = .ok (.getfield 56, 3) := by decide +kernel
theorem dX3_aim_84 : decode cX3_aim 84 = .ok (.if_icmp .ge 59, 3) := by decide +kernel
theorem dX3_aim_87 : decode cX3_aim 87 = .ok (.aload_n 0, 1) := by decide +kernel
theorem dX3_aim_88 : decode cX3_aim 88 = .ok (.aload_n 1, 1) := by decide +kernel
theorem dX3_aim_89 : decode cX3_aim 89 = .ok (.getfield 59, 3) := by decide +kernel
theorem dX3_aim_92 : decode cX3_aim 92 = .ok (.iload 5, 2) := by decide +kernel
theorem dX3_aim_94 : decode cX3_aim 94 = .ok (.iaload, 1) := by decide +kernel
theorem dX3_aim_95 : decode cX3_aim 95 = .ok (.aload_n 1, 1) := by decide +kernel
theorem dX3_aim_96 : decode cX3_aim 96 = .ok (.getfield 62, 3) := by decide +kernel
theorem dX3_aim_99 : decode cX3_aim 99 = .ok (.iload 5, 2) := by decide +kernel
theorem dX3_aim_101 : decode cX3_aim 101 = .ok (.iaload, 1) := by decide +kernel
theorem dX3_aim_102 : decode cX3_aim 102 = .ok (.aload_n 1, 1) := by decide +kernel
theorem dX3_aim_103 : decode cX3_aim 103 = .ok (.getfield 65, 3) := by decide +kernel
theorem dX3_aim_106 : decode cX3_aim 106 = .ok (.iload 5, 2) := by decide +kernel
theorem dX3_aim_108 : decode cX3_aim 108 = .ok (.iaload, 1) := by decide +kernel
theorem dX3_aim_109 : decode cX3_aim 109 = .ok (.invokevirtual 68, 3) := by decide +kernel
theorem dX3_aim_112 : decode cX3_aim 112 = .ok (.aload_n 0, 1) := by decide +kernel
theorem dX3_aim_113 : decode cX3_aim 113 = .ok (.aload_n 1, 1) := by decide +kernel
theorem dX3_aim_114 : decode cX3_aim 114 = .ok (.getfield 62, 3) := by decide +kernel
theorem dX3_aim_117 : decode cX3_aim 117 = .ok (.iload 5, 2) := by decide +kernel
theorem dX3_aim_119 : decode cX3_aim 119 = .ok (.iaload, 1) := by decide +kernel
theorem dX3_aim_120 : decode cX3_aim 120 = .ok (.aload_n 1, 1) := by decide +kernel
theorem dX3_aim_121 : decode cX3_aim 121 = .ok (.getfield 59, 3) := by decide +kernel
theorem dX3_aim_124 : decode cX3_aim 124 = .ok (.iload 5, 2) := by decide +kernel
theorem dX3_aim_126 : decode cX3_aim 126 = .ok (.iaload, 1) := by decide +kernel
theorem dX3_aim_127 : decode cX3_aim 127 = .ok (.aload_n 1, 1) := by decide +kernel
theorem dX3_aim_128 : decode cX3_aim 128 = .ok (.getfield 65, 3) := by decide +kernel
theorem dX3_aim_131 : decode cX3_aim 131 = .ok (.iload 5, 2) := by decide +kernel
theorem dX3_aim_133 : decode cX3_aim 133 = .ok (.iaload, 1) := by decide +kernel
theorem dX3_aim_134 : decode cX3_aim 134 = .ok (.invokevirtual 68, 3) := by decide +kernel
theorem dX3_aim_137 : decode cX3_aim 137 = .ok (.iinc 5 1, 3) := by decide +kernel
theorem dX3_aim_140 : decode cX3_aim 140 = .ok (.goto (-62), 3) := by decide +kernel
theorem dX3_aim_143 : decode cX3_aim 143 = .ok (.iinc 4 1, 3) := by decide +kernel
theorem dX3_aim_146 : decode cX3_aim 146 = .ok (.goto (-80), 3) := by decide +kernel
theorem dX3_aim_149 : decode cX3_aim 149 = .ok (.return_, 1) := by decide +kernel
theorem dX3_from_0 : decode cX3_from 0 = .ok (.aload_n 0, 1) := by decide +kernel
theorem dX3_from_1 : decode cX3_from 1 = .ok (.getfield 26, 3) := by decide +kernel
theorem dX3_from_4 : decode cX3_from 4 = .ok (.iconst 0, 1) := by decide +kernel
theorem dX3_from_5 : decode cX3_from 5 = .ok (.aaload, 1) := by decide +kernel
theorem dX3_from_6 : decode cX3_from 6 = .ok (.areturn, 1) := by decide +kernel
theorem dX3_keepIfBetter_0 : decode cX3_keepIfBetter 0 = .ok (.iload_n 2, 1) := by decide +kernel
theorem dX3_keepIfBetter_1 : decode cX3_keepIfBetter 1 = .ok (.aload_n 0, 1) := by decide +kernel
theorem dX3_keepIfBetter_2 : decode cX3_keepIfBetter 2 = .ok (.getfield 42, 3) := by decide +kernel
theorem dX3_keepIfBetter_5 : decode cX3_keepIfBetter 5 = .ok (.if_icmp .lt 19, 3) := by decide +kernel
theorem dX3_keepIfBetter_8 : decode cX3_keepIfBetter 8 = .ok (.iload_n 2, 1) := by decide +kernel
theorem dX3_keepIfBetter_9 : decode cX3_keepIfBetter 9 = .ok (.aload_n 0, 1) := by decide +kernel
theorem dX3_keepIfBetter_10 : decode cX3_keepIfBetter 10 = .ok (.getfield 42, 3) := by decide +kernel
theorem dX3_keepIfBetter_13 : decode cX3_keepIfBetter 13 = .ok (.if_icmp .ne 35, 3) := by decide +kernel
theorem dX3_keepIfBetter_16 : decode cX3_keepIfBetter 16 = .ok (.iload_n 1, 1) := by decide +kernel
theorem dX3_keepIfBetter_17 : decode cX3_keepIfBetter 17 = .ok (.aload_n 0, 1) := by decide +kernel
theorem dX3_keepIfBetter_18 : decode cX3_keepIfBetter 18 = .ok (.getfield 38, 3) := by decide +kernel
theorem dX3_keepIfBetter_21 : decode cX3_keepIfBetter 21 = .ok (.if_icmp .ge 27, 3) := by decide +kernel
theorem dX3_keepIfBetter_24 : decode cX3_keepIfBetter 24 = .ok (.aload_n 0, 1) := by decide +kernel
theorem dX3_keepIfBetter_25 : decode cX3_keepIfBetter 25 = .ok (.iload_n 2, 1) := by decide +kernel
theorem dX3_keepIfBetter_26 : decode cX3_keepIfBetter 26 = .ok (.putfield 42, 3) := by decide +kernel
theorem dX3_keepIfBetter_29 : decode cX3_keepIfBetter 29 = .ok (.aload_n 0, 1) := by decide +kernel
theorem dX3_keepIfBetter_30 : decode cX3_keepIfBetter 30 = .ok (.iload_n 1, 1) := by decide +kernel
theorem dX3_keepIfBetter_31 : decode cX3_keepIfBetter 31 = .ok (.putfield 38, 3) := by decide +kernel
theorem dX3_keepIfBetter_34 : decode cX3_keepIfBetter 34 = .ok (.aload_n 0, 1) := by decide +kernel
theorem dX3_keepIfBetter_35 : decode cX3_keepIfBetter 35 = .ok (.getfield 18, 3) := by decide +kernel
theorem dX3_keepIfBetter_38 : decode cX3_keepIfBetter 38 = .ok (.iconst 0, 1) := by decide +kernel
theorem dX3_keepIfBetter_39 : decode cX3_keepIfBetter 39 = .ok (.aload_n 0, 1) := by decide +kernel
theorem dX3_keepIfBetter_40 : decode cX3_keepIfBetter 40 = .ok (.getfield 21, 3) := by decide +kernel
theorem dX3_keepIfBetter_43 : decode cX3_keepIfBetter 43 = .ok (.iconst 0, 1) := by decide +kernel
theorem dX3_keepIfBetter_44 : decode cX3_keepIfBetter 44 = .ok (.iconst 4, 1) := by decide +kernel
theorem dX3_keepIfBetter_45 : decode cX3_keepIfBetter 45 = .ok (.invokestatic 125, 3) := by decide +kernel
theorem dX3_keepIfBetter_48 : decode cX3_keepIfBetter 48 = .ok (.return_, 1) := by decide +kernel
theorem dX3_look_0 : decode cX3_look 0 = .ok (.aload_n 0, 1) := by decide +kernel
theorem dX3_look_1 : decode cX3_look 1 = .ok (.aload_n 0, 1) := by decide +kernel
theorem dX3_look_2 : decode cX3_look 2 = .ok (.getfield 26, 3) := by decide +kernel
theorem dX3_look_5 : decode cX3_look 5 = .ok (.iconst 0, 1) := by decide +kernel
theorem dX3_look_6 : decode cX3_look 6 = .ok (.aaload, 1) := by decide +kernel
theorem dX3_look_7 : decode cX3_look 7 = .ok (.aload_n 0, 1) := by decide +kernel
theorem dX3_look_8 : decode cX3_look 8 = .ok (.getfield 31, 3) := by decide +kernel
theorem dX3_look_11 : decode cX3_look 11 = .ok (.invokevirtual 78, 3) := by decide +kernel
theorem dX3_look_14 : decode cX3_look 14 = .ok (.putfield 82, 3) := by decide +kernel
theorem dX3_look_17 : decode cX3_look 17 = .ok (.aload_n 0, 1) := by decide +kernel
theorem dX3_look_18 : decode cX3_look 18 = .ok (.aload_n 1, 1) := by decide +kernel
theorem dX3_look_19 : decode cX3_look 19 = .ok (.iconst 0, 1) := by decide +kernel
theorem dX3_look_20 : decode cX3_look 20 = .ok (.iconst 0, 1) := by decide +kernel
theorem dX3_look_21 : decode cX3_look 21 = .ok (.invokevirtual 85, 3) := by decide +kernel
theorem dX3_look_24 : decode cX3_look 24 = .ok (.return_, 1) := by decide +kernel
theorem dX3_lookBy_0 : decode cX3_lookBy 0 = .ok (.aload_n 0, 1) := by decide +kernel
theorem dX3_lookBy_1 : decode cX3_lookBy 1 = .ok (.getfield 26, 3) := by decide +kernel
theorem dX3_lookBy_4 : decode cX3_lookBy 4 = .ok (.iload_n 3, 1) := by decide +kernel
theorem dX3_lookBy_5 : decode cX3_lookBy 5 = .ok (.aaload, 1) := by decide +kernel
theorem dX3_lookBy_6 : decode cX3_lookBy 6 = .ok (.astore 5, 2) := by decide +kernel
theorem dX3_lookBy_8 : decode cX3_lookBy 8 = .ok (.iload 4, 2) := by decide +kernel
theorem dX3_lookBy_10 : decode cX3_lookBy 10 = .ok (.aload_n 1, 1) := by decide +kernel
theorem dX3_lookBy_11 : decode cX3_lookBy 11 = .ok (.getfield 65, 3) := by decide +kernel
theorem dX3_lookBy_14 : decode cX3_lookBy 14 = .ok (.iload_n 2, 1) := by decide +kernel
theorem dX3_lookBy_15 : decode cX3_lookBy 15 = .ok (.iaload, 1) := by decide +kernel
theorem dX3_lookBy_16 : decode cX3_lookBy 16 = .ok (.iadd, 1) := by decide +kernel
theorem dX3_lookBy_17 : decode cX3_lookBy 17 = .ok (.istore 6, 2) := by decide +kernel
theorem dX3_lookBy_19 : decode cX3_lookBy 19 = .ok (.aload_n 1, 1) := by decide +kernel
theorem dX3_lookBy_20 : decode cX3_lookBy 20 = .ok (.iload_n 2, 1) := by decide +kernel
theorem dX3_lookBy_21 : decode cX3_lookBy 21 = .ok (.aload 5, 2) := by decide +kernel
theorem dX3_lookBy_23 : decode cX3_lookBy 23 = .ok (.getfield 89, 3) := by decide +kernel
theorem dX3_lookBy_26 : decode cX3_lookBy 26 = .ok (.aload_n 0, 1) := by decide +kernel
theorem dX3_lookBy_27 : decode cX3_lookBy 27 = .ok (.getfield 31, 3) := by decide +kernel
theorem dX3_lookBy_30 : decode cX3_lookBy 30 = .ok (.iaload, 1) := by decide +kernel
theorem dX3_lookBy_31 : decode cX3_lookBy 31 = .ok (.invokevirtual 115, 3) := by decide +kernel
theorem dX3_lookBy_34 : decode cX3_lookBy 34 = .ok (.istore 7, 2) := by decide +kernel
theorem dX3_lookBy_36 : decode cX3_lookBy 36 = .ok (.iload 6, 2) := by decide +kernel
theorem dX3_lookBy_38 : decode cX3_lookBy 38 = .ok (.aload_n 0, 1) := by decide +kernel
theorem dX3_lookBy_39 : decode cX3_lookBy 39 = .ok (.getfield 9, 3) := by decide +kernel
theorem dX3_lookBy_42 : decode cX3_lookBy 42 = .ok (.iload 7, 2) := by decide +kernel
theorem dX3_lookBy_44 : decode cX3_lookBy 44 = .ok (.iaload, 1) := by decide +kernel
theorem dX3_lookBy_45 : decode cX3_lookBy 45 = .ok (.iadd, 1) := by decide +kernel
theorem dX3_lookBy_46 : decode cX3_lookBy 46 = .ok (.aload_n 0, 1) := by decide +kernel
theorem dX3_lookBy_47 : decode cX3_lookBy 47 = .ok (.getfield 42, 3) := by decide +kernel
theorem dX3_lookBy_50 : decode cX3_lookBy 50 = .ok (.if_icmp .gt 58, 3) := by decide +kernel
theorem dX3_lookBy_53 : decode cX3_lookBy 53 = .ok (.iload_n 3, 1) := by decide +kernel
theorem dX3_lookBy_54 : decode cX3_lookBy 54 = .ok (.iconst 1, 1) := by decide +kernel
theorem dX3_lookBy_55 : decode cX3_lookBy 55 = .ok (.iadd, 1) := by decide +kernel
theorem dX3_lookBy_56 : decode cX3_lookBy 56 = .ok (.aload_n 0, 1) := by decide +kernel
theorem dX3_lookBy_57 : decode cX3_lookBy 57 = .ok (.getfield 15, 3) := by decide +kernel
theorem dX3_lookBy_60 : decode cX3_lookBy 60 = .ok (.iload 7, 2) := by decide +kernel
theorem dX3_lookBy_62 : decode cX3_lookBy 62 = .ok (.iaload, 1) := by decide +kernel
theorem dX3_lookBy_63 : decode cX3_lookBy 63 = .ok (.iadd, 1) := by decide +kernel
theorem dX3_lookBy_64 : decode cX3_lookBy 64 = .ok (.iconst 4, 1) := by decide +kernel
theorem dX3_lookBy_65 : decode cX3_lookBy 65 = .ok (.if_icmp .gt 43, 3) := by decide +kernel
theorem dX3_lookBy_68 : decode cX3_lookBy 68 = .ok (.aload_n 0, 1) := by decide +kernel
theorem dX3_lookBy_69 : decode cX3_lookBy 69 = .ok (.getfield 26, 3) := by decide +kernel
theorem dX3_lookBy_72 : decode cX3_lookBy 72 = .ok (.iload_n 3, 1) := by decide +kernel
theorem dX3_lookBy_73 : decode cX3_lookBy 73 = .ok (.iconst 1, 1) := by decide +kernel
theorem dX3_lookBy_74 : decode cX3_lookBy 74 = .ok (.iadd, 1) := by decide +kernel
theorem dX3_lookBy_75 : decode cX3_lookBy 75 = .ok (.aaload, 1) := by decide +kernel
theorem dX3_lookBy_76 : decode cX3_lookBy 76 = .ok (.aload 5, 2) := by decide +kernel
theorem dX3_lookBy_78 : decode cX3_lookBy 78 = .ok (.invokevirtual 118, 3) := by decide +kernel
theorem dX3_lookBy_81 : decode cX3_lookBy 81 = .ok (.aload_n 0, 1) := by decide +kernel
theorem dX3_lookBy_82 : decode cX3_lookBy 82 = .ok (.getfield 26, 3) := by decide +kernel
theorem dX3_lookBy_85 : decode cX3_lookBy 85 = .ok (.iload_n 3, 1) := by decide +kernel
theorem dX3_lookBy_86 : decode cX3_lookBy 86 = .ok (.iconst 1, 1) := by decide +kernel
theorem dX3_lookBy_87 : decode cX3_lookBy 87 = .ok (.iadd, 1) := by decide +kernel
theorem dX3_lookBy_88 : decode cX3_lookBy 88 = .ok (.aaload, 1) := by decide +kernel
theorem dX3_lookBy_89 : decode cX3_lookBy 89 = .ok (.aload_n 1, 1) := by decide +kernel
theorem dX3_lookBy_90 : decode cX3_lookBy 90 = .ok (.aload_n 0, 1) := by decide +kernel
theorem dX3_lookBy_91 : decode cX3_lookBy 91 = .ok (.getfield 31, 3) := by decide +kernel
theorem dX3_lookBy_94 : decode cX3_lookBy 94 = .ok (.iload_n 2, 1) := by decide +kernel
theorem dX3_lookBy_95 : decode cX3_lookBy 95 = .ok (.invokevirtual 122, 3) := by decide +kernel
theorem dX3_lookBy_98 : decode cX3_lookBy 98 = .ok (.aload_n 0, 1) := by decide +kernel
theorem dX3_lookBy_99 : decode cX3_lookBy 99 = .ok (.aload_n 1, 1) := by decide +kernel
theorem dX3_lookBy_100 : decode cX3_lookBy 100 = .ok (.iload_n 3, 1) := by decide +kernel
theorem dX3_lookBy_101 : decode cX3_lookBy 101 = .ok (.iconst 1, 1) := by decide +kernel
theorem dX3_lookBy_102 : decode cX3_lookBy 102 = .ok (.iadd, 1) := by decide +kernel
theorem dX3_lookBy_103 : decode cX3_lookBy 103 = .ok (.iload 6, 2) := by decide +kernel
theorem dX3_lookBy_105 : decode cX3_lookBy 105 = .ok (.invokevirtual 85, 3) := by decide +kernel
theorem dX3_lookBy_108 : decode cX3_lookBy 108 = .ok (.return_, 1) := by decide +kernel
theorem dX3_lookFrom_0 : decode cX3_lookFrom 0 = .ok (.aload_n 0, 1) := by decide +kernel
theorem dX3_lookFrom_1 : decode cX3_lookFrom 1 = .ok (.getfield 26, 3) := by decide +kernel
theorem dX3_lookFrom_4 : decode cX3_lookFrom 4 = .ok (.iload_n 2, 1) := by decide +kernel
theorem dX3_lookFrom_5 : decode cX3_lookFrom 5 = .ok (.aaload, 1) := by decide +kernel
theorem dX3_lookFrom_6 : decode cX3_lookFrom 6 = .ok (.astore 4, 2) := by decide +kernel
theorem dX3_lookFrom_8 : decode cX3_lookFrom 8 = .ok (.aload 4, 2) := by decide +kernel
theorem dX3_lookFrom_10 : decode cX3_lookFrom 10 = .ok (.getfield 89, 3) := by decide +kernel
theorem dX3_lookFrom_13 : decode cX3_lookFrom 13 = .ok (.aload_n 0, 1) := by decide +kernel
theorem dX3_lookFrom_14 : decode cX3_lookFrom 14 = .ok (.getfield 31, 3) := by decide +kernel
theorem dX3_lookFrom_17 : decode cX3_lookFrom 17 = .ok (.iaload, 1) := by decide +kernel
theorem dX3_lookFrom_18 : decode cX3_lookFrom 18 = .ok (.istore 5, 2) := by decide +kernel
theorem dX3_lookFrom_20 : decode cX3_lookFrom 20 = .ok (.iload 5, 2) := by decide +kernel
theorem dX3_lookFrom_22 : decode cX3_lookFrom 22 = .ok (.aload_n 0, 1) := by decide +kernel
theorem dX3_lookFrom_23 : decode cX3_lookFrom 23 = .ok (.getfield 35, 3) := by decide +kernel
theorem dX3_lookFrom_26 : decode cX3_lookFrom 26 = .ok (.if_icmp .ne 10, 3) := by decide +kernel
theorem dX3_lookFrom_29 : decode cX3_lookFrom 29 = .ok (.aload_n 0, 1) := by decide +kernel
theorem dX3_lookFrom_30 : decode cX3_lookFrom 30 = .ok (.iload_n 2, 1) := by decide +kernel
theorem dX3_lookFrom_31 : decode cX3_lookFrom 31 = .ok (.iload_n 3, 1) := by decide +kernel
theorem dX3_lookFrom_32 : decode cX3_lookFrom 32 = .ok (.invokevirtual 92, 3) := by decide +kernel
theorem dX3_lookFrom_35 : decode cX3_lookFrom 35 = .ok (.return_, 1) := by decide +kernel
theorem dX3_lookFrom_36 : decode cX3_lookFrom 36 = .ok (.iload_n 2, 1) := by decide +kernel
theorem dX3_lookFrom_37 : decode cX3_lookFrom 37 = .ok (.iconst 4, 1) := by decide +kernel
theorem dX3_lookFrom_38 : decode cX3_lookFrom 38 = .ok (.if_icmp .lt 4, 3) := by decide +kernel
theorem dX3_lookFrom_41 : decode cX3_lookFrom 41 = .ok (.return_, 1) := by decide +kernel
theorem dX3_lookFrom_42 : decode cX3_lookFrom 42 = .ok (.aload 4, 2) := by decide +kernel
theorem dX3_lookFrom_44 : decode cX3_lookFrom 44 = .ok (.aload_n 1, 1) := by decide +kernel
theorem dX3_lookFrom_45 : decode cX3_lookFrom 45 = .ok (.aload_n 0, 1) := by decide +kernel
theorem dX3_lookFrom_46 : decode cX3_lookFrom 46 = .ok (.getfield 82, 3) := by decide +kernel
theorem dX3_lookFrom_49 : decode cX3_lookFrom 49 = .ok (.iload 5, 2) := by decide +kernel
theorem dX3_lookFrom_51 : decode cX3_lookFrom 51 = .ok (.invokevirtual 96, 3) := by decide +kernel
theorem dX3_lookFrom_54 : decode cX3_lookFrom 54 = .ok (.istore 6, 2) := by decide +kernel
theorem dX3_lookFrom_56 : decode cX3_lookFrom 56 = .ok (.iconst 0, 1) := by decide +kernel
theorem dX3_lookFrom_57 : decode cX3_lookFrom 57 = .ok (.istore 7, 2) := by decide +kernel
theorem dX3_lookFrom_59 : decode cX3_lookFrom 59 = .ok (.iconst 0, 1) := by decide +kernel
theorem dX3_lookFrom_60 : decode cX3_lookFrom 60 = .ok (.istore 8, 2) := by decide +kernel
theorem dX3_lookFrom_62 : decode cX3_lookFrom 62 = .ok (.iload 8, 2) := by decide +kernel
theorem dX3_lookFrom_64 : decode cX3_lookFrom 64 = .ok (.aload_n 1, 1) := by decide +kernel
theorem dX3_lookFrom_65 : decode cX3_lookFrom 65 = .ok (.getfield 56, 3) := by decide +kernel
theorem dX3_lookFrom_68 : decode cX3_lookFrom 68 = .ok (.if_icmp .ge 75, 3) := by decide +kernel
theorem dX3_lookFrom_71 : decode cX3_lookFrom 71 = .ok (.aload_n 1, 1) := by decide +kernel
theorem dX3_lookFrom_72 : decode cX3_lookFrom 72 = .ok (.iload 8, 2) := by decide +kernel
theorem dX3_lookFrom_74 : decode cX3_lookFrom 74 = .ok (.iload 5, 2) := by decide +kernel
theorem dX3_lookFrom_76 : decode cX3_lookFrom 76 = .ok (.invokevirtual 100, 3) := by decide +kernel
theorem dX3_lookFrom_79 : decode cX3_lookFrom 79 = .ok (.ifCond .eq 58, 3) := by decide +kernel
theorem dX3_lookFrom_82 : decode cX3_lookFrom 82 = .ok (.aload 4, 2) := by decide +kernel
theorem dX3_lookFrom_84 : decode cX3_lookFrom 84 = .ok (.aload_n 0, 1) := by decide +kernel
theorem dX3_lookFrom_85 : decode cX3_lookFrom 85 = .ok (.getfield 82, 3) := by decide +kernel
theorem dX3_lookFrom_88 : decode cX3_lookFrom 88 = .ok (.iload 6, 2) := by decide +kernel
theorem dX3_lookFrom_90 : decode cX3_lookFrom 90 = .ok (.iload 8, 2) := by decide +kernel
theorem dX3_lookFrom_92 : decode cX3_lookFrom 92 = .ok (.aload_n 1, 1) := by decide +kernel
theorem dX3_lookFrom_93 : decode cX3_lookFrom 93 = .ok (.getfield 104, 3) := by decide +kernel
theorem dX3_lookFrom_96 : decode cX3_lookFrom 96 = .ok (.invokevirtual 107, 3) := by decide +kernel
theorem dX3_lookFrom_99 : decode cX3_lookFrom 99 = .ok (.istore 9, 2) := by decide +kernel
theorem dX3_lookFrom_101 : decode cX3_lookFrom 101 = .ok (.iload 7, 2) := by decide +kernel
theorem dX3_lookFrom_103 : decode cX3_lookFrom 103 = .ok (.iload 9, 2) := by decide +kernel
theorem dX3_lookFrom_105 : decode cX3_lookFrom 105 = .ok (.ishr, 1) := by decide +kernel
theorem dX3_lookFrom_106 : decode cX3_lookFrom 106 = .ok (.iconst 1, 1) := by decide +kernel
theorem dX3_lookFrom_107 : decode cX3_lookFrom 107 = .ok (.iand, 1) := by decide +kernel
theorem dX3_lookFrom_108 : decode cX3_lookFrom 108 = .ok (.ifCond .ne 29, 3) := by decide +kernel
theorem dX3_lookFrom_111 : decode cX3_lookFrom 111 = .ok (.iload 7, 2) := by decide +kernel
theorem dX3_lookFrom_113 : decode cX3_lookFrom 113 = .ok (.iconst 1, 1) := by decide +kernel
theorem dX3_lookFrom_114 : decode cX3_lookFrom 114 = .ok (.iload 9, 2) := by decide +kernel
theorem dX3_lookFrom_116 : decode cX3_lookFrom 116 = .ok (.ishl, 1) := by decide +kernel
theorem dX3_lookFrom_117 : decode cX3_lookFrom 117 = .ok (.ior, 1) := by decide +kernel
theorem dX3_lookFrom_118 : decode cX3_lookFrom 118 = .ok (.istore 7, 2) := by decide +kernel
theorem dX3_lookFrom_120 : decode cX3_lookFrom 120 = .ok (.aload_n 0, 1) := by decide +kernel
theorem dX3_lookFrom_121 : decode cX3_lookFrom 121 = .ok (.getfield 18, 3) := by decide +kernel
theorem dX3_lookFrom_124 : decode cX3_lookFrom 124 = .ok (.iload_n 2, 1) := by decide +kernel
theorem dX3_lookFrom_125 : decode cX3_lookFrom 125 = .ok (.iload 8, 2) := by decide +kernel
theorem dX3_lookFrom_127 : decode cX3_lookFrom 127 = .ok (.iastore, 1) := by decide +kernel
theorem dX3_lookFrom_128 : decode cX3_lookFrom 128 = .ok (.aload_n 0, 1) := by decide +kernel
theorem dX3_lookFrom_129 : decode cX3_lookFrom 129 = .ok (.aload_n 1, 1) := by decide +kernel
theorem dX3_lookFrom_130 : decode cX3_lookFrom 130 = .ok (.iload 9, 2) := by decide +kernel
theorem dX3_lookFrom_132 : decode cX3_lookFrom 132 = .ok (.iload_n 2, 1) := by decide +kernel
theorem dX3_lookFrom_133 : decode cX3_lookFrom 133 = .ok (.iload_n 3, 1) := by decide +kernel
theorem dX3_lookFrom_134 : decode cX3_lookFrom 134 = .ok (.invokevirtual 111, 3) := by decide +kernel
theorem dX3_lookFrom_137 : decode cX3_lookFrom 137 = .ok (.iinc 8 1, 3) := by decide +kernel
theorem dX3_lookFrom_140 : decode cX3_lookFrom 140 = .ok (.goto (-78), 3) := by decide +kernel
theorem dX3_lookFrom_143 : decode cX3_lookFrom 143 = .ok (.return_, 1) := by decide +kernel
theorem dX3_miles_0 : decode cX3_miles 0 = .ok (.aload_n 0, 1) := by decide +kernel
theorem dX3_miles_1 : decode cX3_miles 1 = .ok (.getfield 42, 3) := by decide +kernel
theorem dX3_miles_4 : decode cX3_miles 4 = .ok (.ldc 41, 2) := by decide +kernel
theorem dX3_miles_6 : decode cX3_miles 6 = .ok (.if_icmp .ge 10, 3) := by decide +kernel
theorem dX3_miles_9 : decode cX3_miles 9 = .ok (.aload_n 0, 1) := by decide +kernel
theorem dX3_miles_10 : decode cX3_miles 10 = .ok (.getfield 42, 3) := by decide +kernel
theorem dX3_miles_13 : decode cX3_miles 13 = .ok (.goto 4, 3) := by decide +kernel
theorem dX3_miles_16 : decode cX3_miles 16 = .ok (.iconst (-1), 1) := by decide +kernel
theorem dX3_miles_17 : decode cX3_miles 17 = .ok (.ireturn, 1) := by decide +kernel
theorem dX3_spread_0 : decode cX3_spread 0 = .ok (.aload_n 0, 1) := by decide +kernel
theorem dX3_spread_1 : decode cX3_spread 1 = .ok (.getfield 9, 3) := by decide +kernel
theorem dX3_spread_4 : decode cX3_spread 4 = .ok (.iload_n 2, 1) := by decide +kernel
theorem dX3_spread_5 : decode cX3_spread 5 = .ok (.aload_n 0, 1) := by decide +kernel
theorem dX3_spread_6 : decode cX3_spread 6 = .ok (.getfield 9, 3) := by decide +kernel
theorem dX3_spread_9 : decode cX3_spread 9 = .ok (.iload_n 2, 1) := by decide +kernel
theorem dX3_spread_10 : decode cX3_spread 10 = .ok (.iaload, 1) := by decide +kernel
theorem dX3_spread_11 : decode cX3_spread 11 = .ok (.aload_n 0, 1) := by decide +kernel
theorem dX3_spread_12 : decode cX3_spread 12 = .ok (.getfield 9, 3) := by decide +kernel
theorem dX3_spread_15 : decode cX3_spread 15 = .ok (.iload_n 1, 1) := by decide +kernel
theorem dX3_spread_16 : decode cX3_spread 16 = .ok (.iaload, 1) := by decide +kernel
theorem dX3_spread_17 : decode cX3_spread 17 = .ok (.iload_n 3, 1) := by decide +kernel
theorem dX3_spread_18 : decode cX3_spread 18 = .ok (.iadd, 1) := by decide +kernel
theorem dX3_spread_19 : decode cX3_spread 19 = .ok (.invokestatic 72, 3) := by decide +kernel
theorem dX3_spread_22 : decode cX3_spread 22 = .ok (.iastore, 1) := by decide +kernel
theorem dX3_spread_23 : decode cX3_spread 23 = .ok (.aload_n 0, 1) := by decide +kernel
theorem dX3_spread_24 : decode cX3_spread 24 = .ok (.getfield 15, 3) := by decide +kernel
theorem dX3_spread_27 : decode cX3_spread 27 = .ok (.iload_n 2, 1) := by decide +kernel
theorem dX3_spread_28 : decode cX3_spread 28 = .ok (.aload_n 0, 1) := by decide +kernel
theorem dX3_spread_29 : decode cX3_spread 29 = .ok (.getfield 15, 3) := by decide +kernel
theorem dX3_spread_32 : decode cX3_spread 32 = .ok (.iload_n 2, 1) := by decide +kernel
theorem dX3_spread_33 : decode cX3_spread 33 = .ok (.iaload, 1) := by decide +kernel
theorem dX3_spread_34 : decode cX3_spread 34 = .ok (.aload_n 0, 1) := by decide +kernel
theorem dX3_spread_35 : decode cX3_spread 35 = .ok (.getfield 15, 3) := by decide +kernel
theorem dX3_spread_38 : decode cX3_spread 38 = .ok (.iload_n 1, 1) := by decide +kernel
theorem dX3_spread_39 : decode cX3_spread 39 = .ok (.iaload, 1) := by decide +kernel
theorem dX3_spread_40 : decode cX3_spread 40 = .ok (.iconst 1, 1) := by decide +kernel
theorem dX3_spread_41 : decode cX3_spread 41 = .ok (.iadd, 1) := by decide +kernel
theorem dX3_spread_42 : decode cX3_spread 42 = .ok (.invokestatic 72, 3) := by decide +kernel
theorem dX3_spread_45 : decode cX3_spread 45 = .ok (.iastore, 1) := by decide +kernel
theorem dX3_spread_46 : decode cX3_spread 46 = .ok (.return_, 1) := by decide +kernel
theorem dX4_begin_0 : decode cX4_begin 0 = .ok (.aload_n 0, 1) := by decide +kernel
theorem dX4_begin_1 : decode cX4_begin 1 = .ok (.getfield 11, 3) := by decide +kernel
theorem dX4_begin_4 : decode cX4_begin 4 = .ok (.iload_n 1, 1) := by decide +kernel
theorem dX4_begin_5 : decode cX4_begin 5 = .ok (.iload_n 2, 1) := by decide +kernel
theorem dX4_begin_6 : decode cX4_begin 6 = .ok (.iastore, 1) := by decide +kernel
theorem dX4_begin_7 : decode cX4_begin 7 = .ok (.aload_n 0, 1) := by decide +kernel
theorem dX4_begin_8 : decode cX4_begin 8 = .ok (.getfield 15, 3) := by decide +kernel
theorem dX4_begin_11 : decode cX4_begin 11 = .ok (.iload_n 1, 1) := by decide +kernel
theorem dX4_begin_12 : decode cX4_begin 12 = .ok (.iload_n 3, 1) := by decide +kernel
theorem dX4_begin_13 : decode cX4_begin 13 = .ok (.iastore, 1) := by decide +kernel
theorem dX4_begin_14 : decode cX4_begin 14 = .ok (.aload_n 0, 1) := by decide +kernel
theorem dX4_begin_15 : decode cX4_begin 15 = .ok (.getfield 20, 3) := by decide +kernel
theorem dX4_begin_18 : decode cX4_begin 18 = .ok (.iload_n 1, 1) := by decide +kernel
theorem dX4_begin_19 : decode cX4_begin 19 = .ok (.aaload, 1) := by decide +kernel
theorem dX4_begin_20 : decode cX4_begin 20 = .ok (.lconst 0, 1) := by decide +kernel
theorem dX4_begin_21 : decode cX4_begin 21 = .ok (.invokestatic 33, 3) := by decide +kernel
theorem dX4_begin_24 : decode cX4_begin 24 = .ok (.return_, 1) := by decide +kernel
theorem dX4_cut_0 : decode cX4_cut 0 = .ok (.iload_n 0, 1) := by decide +kernel
theorem dX4_cut_1 : decode cX4_cut 1 = .ok (.tableswitch 41 0 2 #[27, 32, 37], 27) := by decide +kernel
theorem dX4_cut_28 : decode cX4_cut 28 = .ok (.lload_n 1, 1) := by decide +kernel
theorem dX4_cut_29 : decode cX4_cut 29 = .ok (.l2i, 1) := by decide +kernel
theorem dX4_cut_30 : decode cX4_cut 30 = .ok (.i2b, 1) := by decide +kernel
theorem dX4_cut_31 : decode cX4_cut 31 = .ok (.i2l, 1) := by decide +kernel
theorem dX4_cut_32 : decode cX4_cut 32 = .ok (.lreturn, 1) := by decide +kernel
theorem dX4_cut_33 : decode cX4_cut 33 = .ok (.lload_n 1, 1) := by decide +kernel
theorem dX4_cut_34 : decode cX4_cut 34 = .ok (.l2i, 1) := by decide +kernel
theorem dX4_cut_35 : decode cX4_cut 35 = .ok (.i2s, 1) := by decide +kernel
theorem dX4_cut_36 : decode cX4_cut 36 = .ok (.i2l, 1) := by decide +kernel
theorem dX4_cut_37 : decode cX4_cut 37 = .ok (.lreturn, 1) := by decide +kernel
theorem dX4_cut_38 : decode cX4_cut 38 = .ok (.lload_n 1, 1) := by decide +kernel
theorem dX4_cut_39 : decode cX4_cut 39 = .ok (.l2i, 1) := by decide +kernel
theorem dX4_cut_40 : decode cX4_cut 40 = .ok (.i2l, 1) := by decide +kernel
theorem dX4_cut_41 : decode cX4_cut 41 = .ok (.lreturn, 1) := by decide +kernel
theorem dX4_cut_42 : decode cX4_cut 42 = .ok (.lload_n 1, 1) := by decide +kernel
theorem dX4_cut_43 : decode cX4_cut 43 = .ok (.lreturn, 1) := by decide +kernel
theorem dX4_hasRow_0 : decode cX4_hasRow 0 = .ok (.aload_n 0, 1) := by decide +kernel
theorem dX4_hasRow_1 : decode cX4_hasRow 1 = .ok (.getfield 11, 3) := by decide +kernel
theorem dX4_hasRow_4 : decode cX4_hasRow 4 = .ok (.iload_n 1, 1) := by decide +kernel
theorem dX4_hasRow_5 : decode cX4_hasRow 5 = .ok (.iaload, 1) := by decide +kernel
theorem dX4_hasRow_6 : decode cX4_hasRow 6 = .ok (.iconst (-1), 1) := by decide +kernel
theorem dX4_hasRow_7 : decode cX4_hasRow 7 = .ok (.if_icmp .eq 7, 3) := by decide +kernel
theorem dX4_hasRow_10 : decode cX4_hasRow 10 = .ok (.iconst 1, 1) := by decide +kernel
theorem dX4_hasRow_11 : decode cX4_hasRow 11 = .ok (.goto 4, 3) := by decide +kernel
theorem dX4_hasRow_14 : decode cX4_hasRow 14 = .ok (.iconst 0, 1) := by decide +kernel
theorem dX4_hasRow_15 : decode cX4_hasRow 15 = .ok (.ireturn, 1) := by decide +kernel
theorem dX4_holds_0 : decode cX4_holds 0 = .ok (.iload_n 2, 1) := by decide +kernel
theorem dX4_holds_1 : decode cX4_holds 1 = .ok (.ifCond .lt 27, 3) := by decide +kernel
theorem dX4_holds_4 : decode cX4_holds 4 = .ok (.iload_n 3, 1) := by decide +kernel
theorem dX4_holds_5 : decode cX4_holds 5 = .ok (.ifCond .lt 23, 3) := by decide +kernel
theorem dX4_holds_8 : decode cX4_holds 8 = .ok (.iload_n 2, 1) := by decide +kernel
theorem dX4_holds_9 : decode cX4_holds 9 = .ok (.i2l, 1) := by decide +kernel
theorem dX4_holds_10 : decode cX4_holds 10 = .ok (.iload_n 3, 1) := by decide +kernel
theorem dX4_holds_11 : decode cX4_holds 11 = .ok (.i2l, 1) := by decide +kernel
theorem dX4_holds_12 : decode cX4_holds 12 = .ok (.ladd, 1) := by decide +kernel
theorem dX4_holds_13 : decode cX4_holds 13 = .ok (.aload_n 0, 1) := by decide +kernel
theorem dX4_holds_14 : decode cX4_holds 14 = .ok (.getfield 15, 3) := by decide +kernel
theorem dX4_holds_17 : decode cX4_holds 17 = .ok (.iload_n 1, 1) := by decide +kernel
theorem dX4_holds_18 : decode cX4_holds 18 = .ok (.iaload, 1) := by decide +kernel
theorem dX4_holds_19 : decode cX4_holds 19 = .ok (.i2l, 1) := by decide +kernel
theorem dX4_holds_20 : decode cX4_holds 20 = .ok (.lcmp, 1) := by decide +kernel
theorem dX4_holds_21 : decode cX4_holds 21 = .ok (.ifCond .gt 7, 3) := by decide +kernel
theorem dX4_holds_24 : decode cX4_holds 24 = .ok (.iconst 1, 1) := by decide +kernel
theorem dX4_holds_25 : decode cX4_holds 25 = .ok (.goto 4, 3) := by decide +kernel
theorem dX4_holds_28 : decode cX4_holds 28 = .ok (.iconst 0, 1) := by decide +kernel
theorem dX4_holds_29 : decode cX4_holds 29 = .ok (.ireturn, 1) := by decide +kernel
theorem dX4_isSlot_0 : decode cX4_isSlot 0 = .ok (.iload_n 1, 1) := by decide +kernel
theorem dX4_isSlot_1 : decode cX4_isSlot 1 = .ok (.ifCond .lt 12, 3) := by decide +kernel
theorem dX4_isSlot_4 : decode cX4_isSlot 4 = .ok (.iload_n 1, 1) := by decide +kernel
theorem dX4_isSlot_5 : decode cX4_isSlot 5 = .ok (.iconst 4, 1) := by decide +kernel
theorem dX4_isSlot_6 : decode cX4_isSlot 6 = .ok (.if_icmp .ge 7, 3) := by decide +kernel
theorem dX4_isSlot_9 : decode cX4_isSlot 9 = .ok (.iconst 1, 1) := by decide +kernel
theorem dX4_isSlot_10 : decode cX4_isSlot 10 = .ok (.goto 4, 3) := by decide +kernel
theorem dX4_isSlot_13 : decode cX4_isSlot 13 = .ok (.iconst 0, 1) := by decide +kernel
theorem dX4_isSlot_14 : decode cX4_isSlot 14 = .ok (.ireturn, 1) := by decide +kernel
theorem dX4_isWidth_0 : decode cX4_isWidth 0 = .ok (.iload_n 0, 1) := by decide +kernel
theorem dX4_isWidth_1 : decode cX4_isWidth 1 = .ok (.ifCond .lt 12, 3) := by decide +kernel
theorem dX4_isWidth_4 : decode cX4_isWidth 4 = .ok (.iload_n 0, 1) := by decide +kernel
theorem dX4_isWidth_5 : decode cX4_isWidth 5 = .ok (.iconst 4, 1) := by decide +kernel
theorem dX4_isWidth_6 : decode cX4_isWidth 6 = .ok (.if_icmp .ge 7, 3) := by decide +kernel
theorem dX4_isWidth_9 : decode cX4_isWidth 9 = .ok (.iconst 1, 1) := by decide +kernel
theorem dX4_isWidth_10 : decode cX4_isWidth 10 = .ok (.goto 4, 3) := by decide +kernel
theorem dX4_isWidth_13 : decode cX4_isWidth 13 = .ok (.iconst 0, 1) := by decide +kernel
theorem dX4_isWidth_14 : decode cX4_isWidth 14 = .ok (.ireturn, 1) := by decide +kernel
theorem dX4_put_0 : decode cX4_put 0 = .ok (.aload_n 0, 1) := by decide +kernel
theorem dX4_put_1 : decode cX4_put 1 = .ok (.getfield 20, 3) := by decide +kernel
theorem dX4_put_4 : decode cX4_put 4 = .ok (.iload_n 1, 1) := by decide +kernel
theorem dX4_put_5 : decode cX4_put 5 = .ok (.aaload, 1) := by decide +kernel
theorem dX4_put_6 : decode cX4_put 6 = .ok (.iload_n 2, 1) := by decide +kernel
theorem dX4_put_7 : decode cX4_put 7 = .ok (.aload_n 0, 1) := by decide +kernel
theorem dX4_put_8 : decode cX4_put 8 = .ok (.getfield 11, 3) := by decide +kernel
theorem dX4_put_11 : decode cX4_put 11 = .ok (.iload_n 1, 1) := by decide +kernel
theorem dX4_put_12 : decode cX4_put 12 = .ok (.iaload, 1) := by decide +kernel
theorem dX4_put_13 : decode cX4_put 13 = .ok (.lload_n 3, 1) := by decide +kernel
theorem dX4_put_14 : decode cX4_put 14 = .ok (.invokestatic 36, 3) := by decide +kernel
theorem dX4_put_17 : decode cX4_put 17 = .ok (.lastore, 1) := by decide +kernel
theorem dX4_put_18 : decode cX4_put 18 = .ok (.return_, 1) := by decide +kernel
theorem dX4_rowCount_0 : decode cX4_rowCount 0 = .ok (.iconst 0, 1) := by decide +kernel
theorem dX4_rowCount_1 : decode cX4_rowCount 1 = .ok (.istore_n 1, 1) := by decide +kernel
theorem dX4_rowCount_2 : decode cX4_rowCount 2 = .ok (.iconst 0, 1) := by decide +kernel
theorem dX4_rowCount_3 : decode cX4_rowCount 3 = .ok (.istore_n 2, 1) := by decide +kernel
theorem dX4_rowCount_4 : decode cX4_rowCount 4 = .ok (.iload_n 2, 1) := by decide +kernel
theorem dX4_rowCount_5 : decode cX4_rowCount 5 = .ok (.iconst 4, 1) := by decide +kernel
theorem dX4_rowCount_6 : decode cX4_rowCount 6 = .ok (.if_icmp .ge 20, 3) := by decide +kernel
theorem dX4_rowCount_9 : decode cX4_rowCount 9 = .ok (.aload_n 0, 1) := by decide +kernel
theorem dX4_rowCount_10 : decode cX4_rowCount 10 = .ok (.iload_n 2, 1) := by decide +kernel
theorem dX4_rowCount_11 : decode cX4_rowCount 11 = .ok (.invokevirtual 29, 3) := by decide +kernel
theorem dX4_rowCount_14 : decode cX4_rowCount 14 = .ok (.ifCond .eq 6, 3) := by decide +kernel
theorem dX4_rowCount_17 : decode cX4_rowCount 17 = .ok (.iinc 1 1, 3) := by decide +kernel
theorem dX4_rowCount_20 : decode cX4_rowCount 20 = .ok (.iinc 2 1, 3) := by decide +kernel
theorem dX4_rowCount_23 : decode cX4_rowCount 23 = .ok (.goto (-19), 3) := by decide +kernel
theorem dX4_rowCount_26 : decode cX4_rowCount 26 = .ok (.iload_n 1, 1) := by decide +kernel
theorem dX4_rowCount_27 : decode cX4_rowCount 27 = .ok (.ireturn, 1) := by decide +kernel
theorem dX5_alone_0 : decode cX5_alone 0 = .ok (.aload_n 0, 1) := by decide +kernel
theorem dX5_alone_1 : decode cX5_alone 1 = .ok (.aload_n 1, 1) := by decide +kernel
theorem dX5_alone_2 : decode cX5_alone 2 = .ok (.iconst 1, 1) := by decide +kernel
theorem dX5_alone_3 : decode cX5_alone 3 = .ok (.iload_n 2, 1) := by decide +kernel
theorem dX5_alone_4 : decode cX5_alone 4 = .ok (.ishl, 1) := by decide +kernel
theorem dX5_alone_5 : decode cX5_alone 5 = .ok (.iload_n 3, 1) := by decide +kernel
theorem dX5_alone_6 : decode cX5_alone 6 = .ok (.invokevirtual 59, 3) := by decide +kernel
theorem dX5_alone_9 : decode cX5_alone 9 = .ok (.ireturn, 1) := by decide +kernel
theorem dX5_clear_0 : decode cX5_clear 0 = .ok (.aload_n 0, 1) := by decide +kernel
theorem dX5_clear_1 : decode cX5_clear 1 = .ok (.getfield 9, 3) := by decide +kernel
theorem dX5_clear_4 : decode cX5_clear 4 = .ok (.iconst 0, 1) := by decide +kernel
theorem dX5_clear_5 : decode cX5_clear 5 = .ok (.invokestatic 27, 3) := by decide +kernel
theorem dX5_clear_8 : decode cX5_clear 8 = .ok (.aload_n 0, 1) := by decide +kernel
theorem dX5_clear_9 : decode cX5_clear 9 = .ok (.getfield 15, 3) := by decide +kernel
theorem dX5_clear_12 : decode cX5_clear 12 = .ok (.iconst 0, 1) := by decide +kernel
theorem dX5_clear_13 : decode cX5_clear 13 = .ok (.invokestatic 27, 3) := by decide +kernel
theorem dX5_clear_16 : decode cX5_clear 16 = .ok (.aload_n 0, 1) := by decide +kernel
theorem dX5_clear_17 : decode cX5_clear 17 = .ok (.getfield 18, 3) := by decide +kernel
theorem dX5_clear_20 : decode cX5_clear 20 = .ok (.iconst (-1), 1) := by decide +kernel
theorem dX5_clear_21 : decode cX5_clear 21 = .ok (.invokestatic 27, 3) := by decide +kernel
theorem dX5_clear_24 : decode cX5_clear 24 = .ok (.aload_n 0, 1) := by decide +kernel
theorem dX5_clear_25 : decode cX5_clear 25 = .ok (.getfield 21, 3) := by decide +kernel
theorem dX5_clear_28 : decode cX5_clear 28 = .ok (.iconst 0, 1) := by decide +kernel
theorem dX5_clear_29 : decode cX5_clear 29 = .ok (.invokestatic 27, 3) := by decide +kernel
theorem dX5_clear_32 : decode cX5_clear 32 = .ok (.aload_n 0, 1) := by decide +kernel
theorem dX5_clear_33 : decode cX5_clear 33 = .ok (.getfield 24, 3) := by decide +kernel
theorem dX5_clear_36 : decode cX5_clear 36 = .ok (.iconst 0, 1) := by decide +kernel
theorem dX5_clear_37 : decode cX5_clear 37 = .ok (.invokestatic 27, 3) := by decide +kernel
theorem dX5_clear_40 : decode cX5_clear 40 = .ok (.return_, 1) := by decide +kernel
theorem dX5_copy_0 : decode cX5_copy 0 = .ok (.aload_n 1, 1) := by decide +kernel
theorem dX5_copy_1 : decode cX5_copy 1 = .ok (.getfield 9, 3) := by decide +kernel
theorem dX5_copy_4 : decode cX5_copy 4 = .ok (.iconst 0, 1) := by decide +kernel
theorem dX5_copy_5 : decode cX5_copy 5 = .ok (.aload_n 0, 1) := by decide +kernel
theorem dX5_copy_6 : decode cX5_copy 6 = .ok (.getfield 9, 3) := by decide +kernel
theorem dX5_copy_9 : decode cX5_copy 9 = .ok (.iconst 0, 1) := by decide +kernel
theorem dX5_copy_10 : decode cX5_copy 10 = .ok (.aload_n 0, 1) := by decide +kernel
theorem dX5_copy_11 : decode cX5_copy 11 = .ok (.getfield 9, 3) := by decide +kernel
theorem dX5_copy_14 : decode cX5_copy 14 = .ok (.arraylength, 1) := by decide +kernel
theorem dX5_copy_15 : decode cX5_copy 15 = .ok (.invokestatic 33, 3) := by decide +kernel
theorem dX5_copy_18 : decode cX5_copy 18 = .ok (.aload_n 1, 1) := by decide +kernel
theorem dX5_copy_19 : decode cX5_copy 19 = .ok (.getfield 15, 3) := by decide +kernel
theorem dX5_copy_22 : decode cX5_copy 22 = .ok (.iconst 0, 1) := by decide +kernel
theorem dX5_copy_23 : decode cX5_copy 23 = .ok (.aload_n 0, 1) := by decide +kernel
theorem dX5_copy_24 : decode cX5_copy 24 = .ok (.getfield 15, 3) := by decide +kernel
theorem dX5_copy_27 : decode cX5_copy 27 = .ok (.iconst 0, 1) := by decide +kernel
theorem dX5_copy_28 : decode cX5_copy 28 = .ok (.bipush 8, 2) := by decide +kernel
theorem dX5_copy_30 : decode cX5_copy 30 = .ok (.invokestatic 33, 3) := by decide +kernel
theorem dX5_copy_33 : decode cX5_copy 33 = .ok (.aload_n 1, 1) := by decide +kernel
theorem dX5_copy_34 : decode cX5_copy 34 = .ok (.getfield 18, 3) := by decide +kernel
theorem dX5_copy_37 : decode cX5_copy 37 = .ok (.iconst 0, 1) := by decide +kernel
theorem dX5_copy_38 : decode cX5_copy 38 = .ok (.aload_n 0, 1) := by decide +kernel
theorem dX5_copy_39 : decode cX5_copy 39 = .ok (.getfield 18, 3) := by decide +kernel
theorem dX5_copy_42 : decode cX5_copy 42 = .ok (.iconst 0, 1) := by decide +kernel
theorem dX5_copy_43 : decode cX5_copy 43 = .ok (.bipush 8, 2) := by decide +kernel
theorem dX5_copy_45 : decode cX5_copy 45 = .ok (.invokestatic 33, 3) := by decide +kernel
theorem dX5_copy_48 : decode cX5_copy 48 = .ok (.aload_n 1, 1) := by decide +kernel
theorem dX5_copy_49 : decode cX5_copy 49 = .ok (.getfield 21, 3) := by decide +kernel
theorem dX5_copy_52 : decode cX5_copy 52 = .ok (.iconst 0, 1) := by decide +kernel
theorem dX5_copy_53 : decode cX5_copy 53 = .ok (.aload_n 0, 1) := by decide +kernel
theorem dX5_copy_54 : decode cX5_copy 54 = .ok (.getfield 21, 3) := by decide +kernel
theorem dX5_copy_57 : decode cX5_copy 57 = .ok (.iconst 0, 1) := by decide +kernel
theorem dX5_copy_58 : decode cX5_copy 58 = .ok (.iconst 3, 1) := by decide +kernel
theorem dX5_copy_59 : decode cX5_copy 59 = .ok (.invokestatic 33, 3) := by decide +kernel
theorem dX5_copy_62 : decode cX5_copy 62 = .ok (.aload_n 1, 1) := by decide +kernel
theorem dX5_copy_63 : decode cX5_copy 63 = .ok (.getfield 24, 3) := by decide +kernel
theorem dX5_copy_66 : decode cX5_copy 66 = .ok (.iconst 0, 1) := by decide +kernel
theorem dX5_copy_67 : decode cX5_copy 67 = .ok (.aload_n 0, 1) := by decide +kernel
theorem dX5_copy_68 : decode cX5_copy 68 = .ok (.getfield 24, 3) := by decide +kernel
theorem dX5_copy_71 : decode cX5_copy 71 = .ok (.iconst 0, 1) := by decide +kernel
theorem dX5_copy_72 : decode cX5_copy 72 = .ok (.iconst 3, 1) := by decide +kernel
theorem dX5_copy_73 : decode cX5_copy 73 = .ok (.invokestatic 33, 3) := by decide +kernel
theorem dX5_copy_76 : decode cX5_copy 76 = .ok (.return_, 1) := by decide +kernel
theorem dX5_crewOf_0 : decode cX5_crewOf 0 = .ok (.iconst 0, 1) := by decide +kernel
theorem dX5_crewOf_1 : decode cX5_crewOf 1 = .ok (.istore_n 2, 1) := by decide +kernel
theorem dX5_crewOf_2 : decode cX5_crewOf 2 = .ok (.iconst 0, 1) := by decide +kernel
theorem dX5_crewOf_3 : decode cX5_crewOf 3 = .ok (.istore_n 3, 1) := by decide +kernel
theorem dX5_crewOf_4 : decode cX5_crewOf 4 = .ok (.iload_n 3, 1) := by decide +kernel
theorem dX5_crewOf_5 : decode cX5_crewOf 5 = .ok (.bipush 8, 2) := by decide +kernel
theorem dX5_crewOf_7 : decode cX5_crewOf 7 = .ok (.if_icmp .ge 25, 3) := by decide +kernel
theorem dX5_crewOf_10 : decode cX5_crewOf 10 = .ok (.aload_n 0, 1) := by decide +kernel
theorem dX5_crewOf_11 : decode cX5_crewOf 11 = .ok (.getfield 18, 3) := by decide +kernel
theorem dX5_crewOf_14 : decode cX5_crewOf 14 = .ok (.iload_n 3, 1) := by decide +kernel
theorem dX5_crewOf_15 : decode cX5_crewOf 15 = .ok (.iaload, 1) := by decide +kernel
theorem dX5_crewOf_16 : decode cX5_crewOf 16 = .ok (.iload_n 1, 1) := by decide +kernel
theorem dX5_crewOf_17 : decode cX5_crewOf 17 = .ok (.if_icmp .ne 9, 3) := by decide +kernel
theorem dX5_crewOf_20 : decode cX5_crewOf 20 = .ok (.iload_n 2, 1) := by decide +kernel
theorem dX5_crewOf_21 : decode cX5_crewOf 21 = .ok (.iconst 1, 1) := by decide +kernel
theorem dX5_crewOf_22 : decode cX5_crewOf 22 = .ok (.iload_n 3, 1) := by decide +kernel
theorem dX5_crewOf_23 : decode cX5_crewOf 23 = .ok (.ishl, 1) := by decide +kernel
theorem dX5_crewOf_24 : decode cX5_crewOf 24 = .ok (.ior, 1) := by decide +kernel
theorem dX5_crewOf_25 : decode cX5_crewOf 25 = .ok (.istore_n 2, 1) := by decide +kernel
theorem dX5_crewOf_26 : decode cX5_crewOf 26 = .ok (.iinc 3 1, 3) := by decide +kernel
theorem dX5_crewOf_29 : decode cX5_crewOf 29 = .ok (.goto (-25), 3) := by decide +kernel
theorem dX5_crewOf_32 : decode cX5_crewOf 32 = .ok (.iload_n 2, 1) := by decide +kernel
theorem dX5_crewOf_33 : decode cX5_crewOf 33 = .ok (.ireturn, 1) := by decide +kernel
theorem dX5_favourite_0 : decode cX5_favourite 0 = .ok (.iconst (-1), 1) := by decide +kernel
theorem dX5_favourite_1 : decode cX5_favourite 1 = .ok (.istore 4, 2) := by decide +kernel
theorem dX5_favourite_3 : decode cX5_favourite 3 = .ok (.iconst (-1), 1) := by decide +kernel
theorem dX5_favourite_4 : decode cX5_favourite 4 = .ok (.istore 5, 2) := by decide +kernel
theorem dX5_favourite_6 : decode cX5_favourite 6 = .ok (.iconst 0, 1) := by decide +kernel
theorem dX5_favourite_7 : decode cX5_favourite 7 = .ok (.istore 6, 2) := by decide +kernel
theorem dX5_favourite_9 : decode cX5_favourite 9 = .ok (.iload 6, 2) := by decide +kernel
theorem dX5_favourite_11 : decode cX5_favourite 11 = .ok (.aload_n 1, 1) := by decide +kernel
theorem dX5_favourite_12 : decode cX5_favourite 12 = .ok (.getfield 39, 3) := by decide +kernel
theorem dX5_favourite_15 : decode cX5_favourite 15 = .ok (.if_icmp .ge 43, 3) := by decide +kernel
theorem dX5_favourite_18 : decode cX5_favourite 18 = .ok (.aload_n 1, 1) := by decide +kernel
theorem dX5_favourite_19 : decode cX5_favourite 19 = .ok (.iload 6, 2) := by decide +kernel
theorem dX5_favourite_21 : decode cX5_favourite 21 = .ok (.iload_n 3, 1) := by decide +kernel
theorem dX5_favourite_22 : decode cX5_favourite 22 = .ok (.invokevirtual 52, 3) := by decide +kernel
theorem dX5_favourite_25 : decode cX5_favourite 25 = .ok (.ifCond .eq 27, 3) := by decide +kernel
theorem dX5_favourite_28 : decode cX5_favourite 28 = .ok (.aload_n 0, 1) := by decide +kernel
theorem dX5_favourite_29 : decode cX5_favourite 29 = .ok (.iload_n 2, 1) := by decide +kernel
theorem dX5_favourite_30 : decode cX5_favourite 30 = .ok (.iload 6, 2) := by decide +kernel
theorem dX5_favourite_32 : decode cX5_favourite 32 = .ok (.invokevirtual 56, 3) := by decide +kernel
theorem dX5_favourite_35 : decode cX5_favourite 35 = .ok (.istore 7, 2) := by decide +kernel
theorem dX5_favourite_37 : decode cX5_favourite 37 = .ok (.iload 7, 2) := by decide +kernel
theorem dX5_favourite_39 : decode cX5_favourite 39 = .ok (.iload 5, 2) := by decide +kernel
theorem dX5_favourite_41 : decode cX5_favourite 41 = .ok (.if_icmp .le 11, 3) := by decide +kernel
theorem dX5_favourite_44 : decode cX5_favourite 44 = .ok (.iload 7, 2) := by decide +kernel
theorem dX5_favourite_46 : decode cX5_favourite 46 = .ok (.istore 5, 2) := by decide +kernel
theorem dX5_favourite_48 : decode cX5_favourite 48 = .ok (.iload 6, 2) := by decide +kernel
theorem dX5_favourite_50 : decode cX5_favourite 50 = .ok (.istore 4, 2) := by decide +kernel
theorem dX5_favourite_52 : decode cX5_favourite 52 = .ok (.iinc 6 1, 3) := by decide +kernel
theorem dX5_favourite_55 : decode cX5_favourite 55 = .ok (.goto (-46), 3) := by decide +kernel
theorem dX5_favourite_58 : decode cX5_favourite 58 = .ok (.iload 4, 2) := by decide +kernel
theorem dX5_favourite_60 : decode cX5_favourite 60 = .ok (.ireturn, 1) := by decide +kernel
theorem dX5_go_0 : decode cX5_go 0 = .ok (.iload_n 3, 1) := by decide +kernel
theorem dX5_go_1 : decode cX5_go 1 = .ok (.iconst (-1), 1) := by decide +kernel
theorem dX5_go_2 : decode cX5_go 2 = .ok (.if_icmp .eq 19, 3) := by decide +kernel
theorem dX5_go_5 : decode cX5_go 5 = .ok (.aload_n 1, 1) := by decide +kernel
theorem dX5_go_6 : decode cX5_go 6 = .ok (.iload_n 3, 1) := by decide +kernel
theorem dX5_go_7 : decode cX5_go 7 = .ok (.aload_n 0, 1) := by decide +kernel
theorem dX5_go_8 : decode cX5_go 8 = .ok (.getfield 21, 3) := by decide +kernel
theorem dX5_go_11 : decode cX5_go 11 = .ok (.iload_n 2, 1) := by decide +kernel
theorem dX5_go_12 : decode cX5_go 12 = .ok (.iaload, 1) := by decide +kernel
theorem dX5_go_13 : decode cX5_go 13 = .ok (.invokevirtual 52, 3) := by decide +kernel
theorem dX5_go_16 : decode cX5_go 16 = .ok (.ifCond .ne 5, 3) := by decide +kernel
theorem dX5_go_19 : decode cX5_go 19 = .ok (.iconst (-1), 1) := by decide +kernel
theorem dX5_go_20 : decode cX5_go 20 = .ok (.ireturn, 1) := by decide +kernel
theorem dX5_go_21 : decode cX5_go 21 = .ok (.aload_n 0, 1) := by decide +kernel
theorem dX5_go_22 : decode cX5_go 22 = .ok (.aload_n 1, 1) := by decide +kernel
theorem dX5_go_23 : decode cX5_go 23 = .ok (.iload_n 2, 1) := by decide +kernel
theorem dX5_go_24 : decode cX5_go 24 = .ok (.iload_n 3, 1) := by decide +kernel
theorem dX5_go_25 : decode cX5_go 25 = .ok (.invokevirtual 87, 3) := by decide +kernel
theorem dX5_go_28 : decode cX5_go 28 = .ok (.istore 4, 2) := by decide +kernel
theorem dX5_go_30 : decode cX5_go 30 = .ok (.iload 4, 2) := by decide +kernel
theorem dX5_go_32 : decode cX5_go 32 = .ok (.iconst (-1), 1) := by decide +kernel
theorem dX5_go_33 : decode cX5_go 33 = .ok (.if_icmp .eq 11, 3) := by decide +kernel
theorem dX5_go_36 : decode cX5_go 36 = .ok (.aload_n 0, 1) := by decide +kernel
theorem dX5_go_37 : decode cX5_go 37 = .ok (.aload_n 1, 1) := by decide +kernel
theorem dX5_go_38 : decode cX5_go 38 = .ok (.iload_n 2, 1) := by decide +kernel
theorem dX5_go_39 : decode cX5_go 39 = .ok (.iload 4, 2) := by decide +kernel
theorem dX5_go_41 : decode cX5_go 41 = .ok (.invokevirtual 90, 3) := by decide +kernel
theorem dX5_go_44 : decode cX5_go 44 = .ok (.iload 4, 2) := by decide +kernel
theorem dX5_go_46 : decode cX5_go 46 = .ok (.ireturn, 1) := by decide +kernel
theorem dX5_goBy_0 : decode cX5_goBy 0 = .ok (.aload_n 1, 1) := by decide +kernel
theorem dX5_goBy_1 : decode cX5_goBy 1 = .ok (.getfield 49, 3) := by decide +kernel
theorem dX5_goBy_4 : decode cX5_goBy 4 = .ok (.iload_n 3, 1) := by decide +kernel
theorem dX5_goBy_5 : decode cX5_goBy 5 = .ok (.iaload, 1) := by decide +kernel
theorem dX5_goBy_6 : decode cX5_goBy 6 = .ok (.istore 4, 2) := by decide +kernel
theorem dX5_goBy_8 : decode cX5_goBy 8 = .ok (.iconst 0, 1) := by decide +kernel
theorem dX5_goBy_9 : decode cX5_goBy 9 = .ok (.istore 5, 2) := by decide +kernel
theorem dX5_goBy_11 : decode cX5_goBy 11 = .ok (.iload 5, 2) := by decide +kernel
theorem dX5_goBy_13 : decode cX5_goBy 13 = .ok (.bipush 8, 2) := by decide +kernel
theorem dX5_goBy_15 : decode cX5_goBy 15 = .ok (.if_icmp .ge 29, 3) := by decide +kernel
theorem dX5_goBy_18 : decode cX5_goBy 18 = .ok (.aload_n 0, 1) := by decide +kernel
theorem dX5_goBy_19 : decode cX5_goBy 19 = .ok (.getfield 18, 3) := by decide +kernel
theorem dX5_goBy_22 : decode cX5_goBy 22 = .ok (.iload 5, 2) := by decide +kernel
theorem dX5_goBy_24 : decode cX5_goBy 24 = .ok (.iaload, 1) := by decide +kernel
theorem dX5_goBy_25 : decode cX5_goBy 25 = .ok (.iload_n 2, 1) := by decide +kernel
theorem dX5_goBy_26 : decode cX5_goBy 26 = .ok (.if_icmp .ne 12, 3) := by decide +kernel
theorem dX5_goBy_29 : decode cX5_goBy 29 = .ok (.aload_n 0, 1) := by decide +kernel
theorem dX5_goBy_30 : decode cX5_goBy 30 = .ok (.iload 5, 2) := by decide +kernel
theorem dX5_goBy_32 : decode cX5_goBy 32 = .ok (.iload_n 3, 1) := by decide +kernel
theorem dX5_goBy_33 : decode cX5_goBy 33 = .ok (.iload 4, 2) := by decide +kernel
theorem dX5_goBy_35 : decode cX5_goBy 35 = .ok (.invokevirtual 94, 3) := by decide +kernel
theorem dX5_goBy_38 : decode cX5_goBy 38 = .ok (.iinc 5 1, 3) := by decide +kernel
theorem dX5_goBy_41 : decode cX5_goBy 41 = .ok (.goto (-30), 3) := by decide +kernel
theorem dX5_goBy_44 : decode cX5_goBy 44 = .ok (.aload_n 0, 1) := by decide +kernel
theorem dX5_goBy_45 : decode cX5_goBy 45 = .ok (.getfield 21, 3) := by decide +kernel
theorem dX5_goBy_48 : decode cX5_goBy 48 = .ok (.iload_n 2, 1) := by decide +kernel
theorem dX5_goBy_49 : decode cX5_goBy 49 = .ok (.aload_n 1, 1) := by decide +kernel
theorem dX5_goBy_50 : decode cX5_goBy 50 = .ok (.iload_n 3, 1) := by decide +kernel
theorem dX5_goBy_51 : decode cX5_goBy 51 = .ok (.aload_n 0, 1) := by decide +kernel
theorem dX5_goBy_52 : decode cX5_goBy 52 = .ok (.getfield 21, 3) := by decide +kernel
theorem dX5_goBy_55 : decode cX5_goBy 55 = .ok (.iload_n 2, 1) := by decide +kernel
theorem dX5_goBy_56 : decode cX5_goBy 56 = .ok (.iaload, 1) := by decide +kernel
theorem dX5_goBy_57 : decode cX5_goBy 57 = .ok (.invokevirtual 97, 3) := by decide +kernel
theorem dX5_goBy_60 : decode cX5_goBy 60 = .ok (.iastore, 1) := by decide +kernel
theorem dX5_goBy_61 : decode cX5_goBy 61 = .ok (.aload_n 0, 1) := by decide +kernel
theorem dX5_goBy_62 : decode cX5_goBy 62 = .ok (.getfield 24, 3) := by decide +kernel
theorem dX5_goBy_65 : decode cX5_goBy 65 = .ok (.iload_n 2, 1) := by decide +kernel
theorem dX5_goBy_66 : decode cX5_goBy 66 = .ok (.dup2, 1) := by decide +kernel
theorem dX5_goBy_67 : decode cX5_goBy 67 = .ok (.iaload, 1) := by decide +kernel
theorem dX5_goBy_68 : decode cX5_goBy 68 = .ok (.iload 4, 2) := by decide +kernel
theorem dX5_goBy_70 : decode cX5_goBy 70 = .ok (.iadd, 1) := by decide +kernel
theorem dX5_goBy_71 : decode cX5_goBy 71 = .ok (.iastore, 1) := by decide +kernel
theorem dX5_goBy_72 : decode cX5_goBy 72 = .ok (.return_, 1) := by decide +kernel
theorem dX5_hasWornWheel_0 : decode cX5_hasWornWheel 0 = .ok (.iconst 0, 1) := by decide +kernel
theorem dX5_hasWornWheel_1 : decode cX5_hasWornWheel 1 = .ok (.istore_n 2, 1) := by decide +kernel
theorem dX5_hasWornWheel_2 : decode cX5_hasWornWheel 2 = .ok (.iload_n 2, 1) := by decide +kernel
theorem dX5_hasWornWheel_3 : decode cX5_hasWornWheel 3 = .ok (.bipush 8, 2) := by decide +kernel
theorem dX5_hasWornWheel_5 : decode cX5_hasWornWheel 5 = .ok (.if_icmp .ge 30, 3) := by decide +kernel
theorem dX5_hasWornWheel_8 : decode cX5_hasWornWheel 8 = .ok (.aload_n 0, 1) := by decide +kernel
theorem dX5_hasWornWheel_9 : decode cX5_hasWornWheel 9 = .ok (.getfield 18, 3) := by decide +kernel
theorem dX5_hasWornWheel_12 : decode cX5_hasWornWheel 12 = .ok (.iload_n 2, 1) := by decide +kernel
theorem dX5_hasWornWheel_13 : decode cX5_hasWornWheel 13 = .ok (.iaload, 1) := by decide +kernel
theorem dX5_hasWornWheel_14 : decode cX5_hasWornWheel 14 = .ok (.iload_n 1, 1) := by decide +kernel
theorem dX5_hasWornWheel_15 : decode cX5_hasWornWheel 15 = .ok (.if_icmp .ne 14, 3) := by decide +kernel
theorem dX5_hasWornWheel_18 : decode cX5_hasWornWheel 18 = .ok (.aload_n 0, 1) := by decide +kernel
theorem dX5_hasWornWheel_19 : decode cX5_hasWornWheel 19 = .ok (.getfield 15, 3) := by decide +kernel
theorem dX5_hasWornWheel_22 : decode cX5_hasWornWheel 22 = .ok (.iload_n 2, 1) := by decide +kernel
theorem dX5_hasWornWheel_23 : decode cX5_hasWornWheel 23 = .ok (.iaload, 1) := by decide +kernel
theorem dX5_hasWornWheel_24 : decode cX5_hasWornWheel 24 = .ok (.ifCond .ne 5, 3) := by decide +kernel
theorem dX5_hasWornWheel_27 : decode cX5_hasWornWheel 27 = .ok (.iconst 1, 1) := by decide +kernel
theorem dX5_hasWornWheel_28 : decode cX5_hasWornWheel 28 = .ok (.ireturn, 1) := by decide +kernel
theorem dX5_hasWornWheel_29 : decode cX5_hasWornWheel 29 = .ok (.iinc 2 1, 3) := by decide +kernel
theorem dX5_hasWornWheel_32 : decode cX5_hasWornWheel 32 = .ok (.goto (-30), 3) := by decide +kernel
theorem dX5_hasWornWheel_35 : decode cX5_hasWornWheel 35 = .ok (.iconst 0, 1) := by decide +kernel
theorem dX5_hasWornWheel_36 : decode cX5_hasWornWheel 36 = .ok (.ireturn, 1) := by decide +kernel
theorem dX5_likeNothing_0 : decode cX5_likeNothing 0 = .ok (.iconst 0, 1) := by decide +kernel
theorem dX5_likeNothing_1 : decode cX5_likeNothing 1 = .ok (.istore_n 2, 1) := by decide +kernel
theorem dX5_likeNothing_2 : decode cX5_likeNothing 2 = .ok (.iload_n 2, 1) := by decide +kernel
theorem dX5_likeNothing_3 : decode cX5_likeNothing 3 = .ok (.bipush 8, 2) := by decide +kernel
theorem dX5_likeNothing_5 : decode cX5_likeNothing 5 = .ok (.if_icmp .ge 21, 3) := by decide +kernel
theorem dX5_likeNothing_8 : decode cX5_likeNothing 8 = .ok (.aload_n 0, 1) := by decide +kernel
theorem dX5_likeNothing_9 : decode cX5_likeNothing 9 = .ok (.getfield 9, 3) := by decide +kernel
theorem dX5_likeNothing_12 : decode cX5_likeNothing 12 = .ok (.iload_n 1, 1) := by decide +kernel
theorem dX5_likeNothing_13 : decode cX5_likeNothing 13 = .ok (.bipush 8, 2) := by decide +kernel
theorem dX5_likeNothing_15 : decode cX5_likeNothing 15 = .ok (.imul, 1) := by decide +kernel
theorem dX5_likeNothing_16 : decode cX5_likeNothing 16 = .ok (.iload_n 2, 1) := by decide +kernel
theorem dX5_likeNothing_17 : decode cX5_likeNothing 17 = .ok (.iadd, 1) := by decide +kernel
theorem dX5_likeNothing_18 : decode cX5_likeNothing 18 = .ok (.iconst 0, 1) := by decide +kernel
theorem dX5_likeNothing_19 : decode cX5_likeNothing 19 = .ok (.iastore, 1) := by decide +kernel
theorem dX5_likeNothing_20 : decode cX5_likeNothing 20 = .ok (.iinc 2 1, 3) := by decide +kernel
theorem dX5_likeNothing_23 : decode cX5_likeNothing 23 = .ok (.goto (-21), 3) := by decide +kernel
theorem dX5_likeNothing_26 : decode cX5_likeNothing 26 = .ok (.return_, 1) := by decide +kernel
theorem dX5_likeOf_0 : decode cX5_likeOf 0 = .ok (.aload_n 0, 1) := by decide +kernel
theorem dX5_likeOf_1 : decode cX5_likeOf 1 = .ok (.getfield 9, 3) := by decide +kernel
theorem dX5_likeOf_4 : decode cX5_likeOf 4 = .ok (.iload_n 1, 1) := by decide +kernel
theorem dX5_likeOf_5 : decode cX5_likeOf 5 = .ok (.bipush 8, 2) := by decide +kernel
theorem dX5_likeOf_7 : decode cX5_likeOf 7 = .ok (.imul, 1) := by decide +kernel
theorem dX5_likeOf_8 : decode cX5_likeOf 8 = .ok (.iload_n 2, 1) := by decide +kernel
theorem dX5_likeOf_9 : decode cX5_likeOf 9 = .ok (.iadd, 1) := by decide +kernel
theorem dX5_likeOf_10 : decode cX5_likeOf 10 = .ok (.iaload, 1) := by decide +kernel
theorem dX5_likeOf_11 : decode cX5_likeOf 11 = .ok (.ireturn, 1) := by decide +kernel
theorem dX5_likesAll_0 : decode cX5_likesAll 0 = .ok (.iconst 0, 1) := by decide +kernel
theorem dX5_likesAll_1 : decode cX5_likesAll 1 = .ok (.istore_n 2, 1) := by decide +kernel
theorem dX5_likesAll_2 : decode cX5_likesAll 2 = .ok (.iconst 0, 1) := by decide +kernel
theorem dX5_likesAll_3 : decode cX5_likesAll 3 = .ok (.istore_n 3, 1) := by decide +kernel
theorem dX5_likesAll_4 : decode cX5_likesAll 4 = .ok (.iload_n 3, 1) := by decide +kernel
theorem dX5_likesAll_5 : decode cX5_likesAll 5 = .ok (.bipush 8, 2) := by decide +kernel
theorem dX5_likesAll_7 : decode cX5_likesAll 7 = .ok (.if_icmp .ge 23, 3) := by decide +kernel
theorem dX5_likesAll_10 : decode cX5_likesAll 10 = .ok (.iload_n 2, 1) := by decide +kernel
theorem dX5_likesAll_11 : decode cX5_likesAll 11 = .ok (.aload_n 0, 1) := by decide +kernel
theorem dX5_likesAll_12 : decode cX5_likesAll 12 = .ok (.getfield 9, 3) := by decide +kernel
theorem dX5_likesAll_15 : decode cX5_likesAll 15 = .ok (.iload_n 1, 1) := by decide +kernel
theorem dX5_likesAll_16 : decode cX5_likesAll 16 = .ok (.bipush 8, 2) := by decide +kernel
theorem dX5_likesAll_18 : decode cX5_likesAll 18 = .ok (.imul, 1) := by decide +kernel
theorem dX5_likesAll_19 : decode cX5_likesAll 19 = .ok (.iload_n 3, 1) := by decide +kernel
theorem dX5_likesAll_20 : decode cX5_likesAll 20 = .ok (.iadd, 1) := by decide +kernel
theorem dX5_likesAll_21 : decode cX5_likesAll 21 = .ok (.iaload, 1) := by decide +kernel
theorem dX5_likesAll_22 : decode cX5_likesAll 22 = .ok (.iadd, 1) := by decide +kernel
theorem dX5_likesAll_23 : decode cX5_likesAll 23 = .ok (.istore_n 2, 1) := by decide +kernel
theorem dX5_likesAll_24 : decode cX5_likesAll 24 = .ok (.iinc 3 1, 3) := by decide +kernel
theorem dX5_likesAll_27 : decode cX5_likesAll 27 = .ok (.goto (-23), 3) := by decide +kernel
theorem dX5_likesAll_30 : decode cX5_likesAll 30 = .ok (.iload_n 2, 1) := by decide +kernel
theorem dX5_likesAll_31 : decode cX5_likesAll 31 = .ok (.ireturn, 1) := by decide +kernel
theorem dX5_pullOf_0 : decode cX5_pullOf 0 = .ok (.iconst 0, 1) := by decide +kernel
theorem dX5_pullOf_1 : decode cX5_pullOf 1 = .ok (.istore_n 3, 1) := by decide +kernel
theorem dX5_pullOf_2 : decode cX5_pullOf 2 = .ok (.iconst 0, 1) := by decide +kernel
theorem dX5_pullOf_3 : decode cX5_pullOf 3 = .ok (.istore 4, 2) := by decide +kernel
theorem dX5_pullOf_5 : decode cX5_pullOf 5 = .ok (.iload 4, 2) := by decide +kernel
theorem dX5_pullOf_7 : decode cX5_pullOf 7 = .ok (.bipush 8, 2) := by decide +kernel
theorem dX5_pullOf_9 : decode cX5_pullOf 9 = .ok (.if_icmp .ge 33, 3) := by decide +kernel
theorem dX5_pullOf_12 : decode cX5_pullOf 12 = .ok (.iload_n 1, 1) := by decide +kernel
theorem dX5_pullOf_13 : decode cX5_pullOf 13 = .ok (.iload 4, 2) := by decide +kernel
theorem dX5_pullOf_15 : decode cX5_pullOf 15 = .ok (.ishr, 1) := by decide +kernel
theorem dX5_pullOf_16 : decode cX5_pullOf 16 = .ok (.iconst 1, 1) := by decide +kernel
theorem dX5_pullOf_17 : decode cX5_pullOf 17 = .ok (.iand, 1) := by decide +kernel
theorem dX5_pullOf_18 : decode cX5_pullOf 18 = .ok (.ifCond .eq 18, 3) := by decide +kernel
theorem dX5_pullOf_21 : decode cX5_pullOf 21 = .ok (.iload_n 3, 1) := by decide +kernel
theorem dX5_pullOf_22 : decode cX5_pullOf 22 = .ok (.aload_n 0, 1) := by decide +kernel
theorem dX5_pullOf_23 : decode cX5_pullOf 23 = .ok (.getfield 9, 3) := by decide +kernel
theorem dX5_pullOf_26 : decode cX5_pullOf 26 = .ok (.iload 4, 2) := by decide +kernel
theorem dX5_pullOf_28 : decode cX5_pullOf 28 = .ok (.bipush 8, 2) := by decide +kernel
theorem dX5_pullOf_30 : decode cX5_pullOf 30 = .ok (.imul, 1) := by decide +kernel
theorem dX5_pullOf_31 : decode cX5_pullOf 31 = .ok (.iload_n 2, 1) := by decide +kernel
theorem dX5_pullOf_32 : decode cX5_pullOf 32 = .ok (.iadd, 1) := by decide +kernel
theorem dX5_pullOf_33 : decode cX5_pullOf 33 = .ok (.iaload, 1) := by decide +kernel
theorem dX5_pullOf_34 : decode cX5_pullOf 34 = .ok (.iadd, 1) := by decide +kernel
theorem dX5_pullOf_35 : decode cX5_pullOf 35 = .ok (.istore_n 3, 1) := by decide +kernel
theorem dX5_pullOf_36 : decode cX5_pullOf 36 = .ok (.iinc 4 1, 3) := by decide +kernel
theorem dX5_pullOf_39 : decode cX5_pullOf 39 = .ok (.goto (-34), 3) := by decide +kernel
theorem dX5_pullOf_42 : decode cX5_pullOf 42 = .ok (.iload_n 3, 1) := by decide +kernel
theorem dX5_pullOf_43 : decode cX5_pullOf 43 = .ok (.ireturn, 1) := by decide +kernel
theorem dX5_run_0 : decode cX5_run 0 = .ok (.aload_n 0, 1) := by decide +kernel
theorem dX5_run_1 : decode cX5_run 1 = .ok (.iload_n 1, 1) := by decide +kernel
theorem dX5_run_2 : decode cX5_run 2 = .ok (.iload_n 2, 1) := by decide +kernel
theorem dX5_run_3 : decode cX5_run 3 = .ok (.bipush 9, 2) := by decide +kernel
theorem dX5_run_5 : decode cX5_run 5 = .ok (.aload_n 0, 1) := by decide +kernel
theorem dX5_run_6 : decode cX5_run 6 = .ok (.iload_n 1, 1) := by decide +kernel
theorem dX5_run_7 : decode cX5_run 7 = .ok (.iload_n 2, 1) := by decide +kernel
theorem dX5_run_8 : decode cX5_run 8 = .ok (.invokevirtual 45, 3) := by decide +kernel
theorem dX5_run_11 : decode cX5_run 11 = .ok (.iconst 1, 1) := by decide +kernel
theorem dX5_run_12 : decode cX5_run 12 = .ok (.iadd, 1) := by decide +kernel
theorem dX5_run_13 : decode cX5_run 13 = .ok (.invokestatic 74, 3) := by decide +kernel
theorem dX5_run_16 : decode cX5_run 16 = .ok (.invokevirtual 79, 3) := by decide +kernel
theorem dX5_run_19 : decode cX5_run 19 = .ok (.aload_n 0, 1) := by decide +kernel
theorem dX5_run_20 : decode cX5_run 20 = .ok (.getfield 15, 3) := by decide +kernel
theorem dX5_run_23 : decode cX5_run 23 = .ok (.iload_n 1, 1) := by decide +kernel
theorem dX5_run_24 : decode cX5_run 24 = .ok (.dup2, 1) := by decide +kernel
theorem dX5_run_25 : decode cX5_run 25 = .ok (.iaload, 1) := by decide +kernel
theorem dX5_run_26 : decode cX5_run 26 = .ok (.iload_n 3, 1) := by decide +kernel
theorem dX5_run_27 : decode cX5_run 27 = .ok (.isub, 1) := by decide +kernel
theorem dX5_run_28 : decode cX5_run 28 = .ok (.iastore, 1) := by decide +kernel
theorem dX5_run_29 : decode cX5_run 29 = .ok (.aload_n 0, 1) := by decide +kernel
theorem dX5_run_30 : decode cX5_run 30 = .ok (.getfield 15, 3) := by decide +kernel
theorem dX5_run_33 : decode cX5_run 33 = .ok (.iload_n 1, 1) := by decide +kernel
theorem dX5_run_34 : decode cX5_run 34 = .ok (.iaload, 1) := by decide +kernel
theorem dX5_run_35 : decode cX5_run 35 = .ok (.ifCond .ge 15, 3) := by decide +kernel
theorem dX5_run_38 : decode cX5_run 38 = .ok (.aload_n 0, 1) := by decide +kernel
theorem dX5_run_39 : decode cX5_run 39 = .ok (.getfield 15, 3) := by decide +kernel
theorem dX5_run_42 : decode cX5_run 42 = .ok (.iload_n 1, 1) := by decide +kernel
theorem dX5_run_43 : decode cX5_run 43 = .ok (.iconst 0, 1) := by decide +kernel
theorem dX5_run_44 : decode cX5_run 44 = .ok (.iastore, 1) := by decide +kernel
theorem dX5_run_45 : decode cX5_run 45 = .ok (.aload_n 0, 1) := by decide +kernel
theorem dX5_run_46 : decode cX5_run 46 = .ok (.iload_n 1, 1) := by decide +kernel
theorem dX5_run_47 : decode cX5_run 47 = .ok (.invokevirtual 83, 3) := by decide +kernel
theorem dX5_run_50 : decode cX5_run 50 = .ok (.return_, 1) := by decide +kernel
theorem dX5_seat_0 : decode cX5_seat 0 = .ok (.iconst 0, 1) := by decide +kernel
theorem dX5_seat_1 : decode cX5_seat 1 = .ok (.istore_n 3, 1) := by decide +kernel
theorem dX5_seat_2 : decode cX5_seat 2 = .ok (.iload_n 3, 1) := by decide +kernel
theorem dX5_seat_3 : decode cX5_seat 3 = .ok (.bipush 8, 2) := by decide +kernel
theorem dX5_seat_5 : decode cX5_seat 5 = .ok (.if_icmp .ge 44, 3) := by decide +kernel
theorem dX5_seat_8 : decode cX5_seat 8 = .ok (.iload_n 2, 1) := by decide +kernel
theorem dX5_seat_9 : decode cX5_seat 9 = .ok (.iload_n 3, 1) := by decide +kernel
theorem dX5_seat_10 : decode cX5_seat 10 = .ok (.ishr, 1) := by decide +kernel
theorem dX5_seat_11 : decode cX5_seat 11 = .ok (.iconst 1, 1) := by decide +kernel
theorem dX5_seat_12 : decode cX5_seat 12 = .ok (.iand, 1) := by decide +kernel
theorem dX5_seat_13 : decode cX5_seat 13 = .ok (.ifCond .eq 13, 3) := by decide +kernel
theorem dX5_seat_16 : decode cX5_seat 16 = .ok (.aload_n 0, 1) := by decide +kernel
theorem dX5_seat_17 : decode cX5_seat 17 = .ok (.getfield 18, 3) := by decide +kernel
theorem dX5_seat_20 : decode cX5_seat 20 = .ok (.iload_n 3, 1) := by decide +kernel
theorem dX5_seat_21 : decode cX5_seat 21 = .ok (.iload_n 1, 1) := by decide +kernel
theorem dX5_seat_22 : decode cX5_seat 22 = .ok (.iastore, 1) := by decide +kernel
theorem dX5_seat_23 : decode cX5_seat 23 = .ok (.goto 20, 3) := by decide +kernel
theorem dX5_seat_26 : decode cX5_seat 26 = .ok (.aload_n 0, 1) := by decide +kernel
theorem dX5_seat_27 : decode cX5_seat 27 = .ok (.getfield 18, 3) := by decide +kernel
theorem dX5_seat_30 : decode cX5_seat 30 = .ok (.iload_n 3, 1) := by decide +kernel
theorem dX5_seat_31 : decode cX5_seat 31 = .ok (.iaload, 1) := by decide +kernel
theorem dX5_seat_32 : decode cX5_seat 32 = .ok (.iload_n 1, 1) := by decide +kernel
theorem dX5_seat_33 : decode cX5_seat 33 = .ok (.if_icmp .ne 10, 3) := by decide +kernel
theorem dX5_seat_36 : decode cX5_seat 36 = .ok (.aload_n 0, 1) := by decide +kernel
theorem dX5_seat_37 : decode cX5_seat 37 = .ok (.getfield 18, 3) := by decide +kernel
theorem dX5_seat_40 : decode cX5_seat 40 = .ok (.iload_n 3, 1) := by decide +kernel
theorem dX5_seat_41 : decode cX5_seat 41 = .ok (.iconst (-1), 1) := by decide +kernel
theorem dX5_seat_42 : decode cX5_seat 42 = .ok (.iastore, 1) := by decide +kernel
theorem dX5_seat_43 : decode cX5_seat 43 = .ok (.iinc 3 1, 3) := by decide +kernel
theorem dX5_seat_46 : decode cX5_seat 46 = .ok (.goto (-44), 3) := by decide +kernel
theorem dX5_seat_49 : decode cX5_seat 49 = .ok (.return_, 1) := by decide +kernel
theorem dX5_setLike_0 : decode cX5_setLike 0 = .ok (.aload_n 0, 1) := by decide +kernel
theorem dX5_setLike_1 : decode cX5_setLike 1 = .ok (.getfield 9, 3) := by decide +kernel
theorem dX5_setLike_4 : decode cX5_setLike 4 = .ok (.iload_n 1, 1) := by decide +kernel
theorem dX5_setLike_5 : decode cX5_setLike 5 = .ok (.bipush 8, 2) := by decide +kernel
theorem dX5_setLike_7 : decode cX5_setLike 7 = .ok (.imul, 1) := by decide +kernel
theorem dX5_setLike_8 : decode cX5_setLike 8 = .ok (.iload_n 2, 1) := by decide +kernel
theorem dX5_setLike_9 : decode cX5_setLike 9 = .ok (.iadd, 1) := by decide +kernel
theorem dX5_setLike_10 : decode cX5_setLike 10 = .ok (.iload_n 3, 1) := by decide +kernel
theorem dX5_setLike_11 : decode cX5_setLike 11 = .ok (.iastore, 1) := by decide +kernel
theorem dX5_setLike_12 : decode cX5_setLike 12 = .ok (.return_, 1) := by decide +kernel
theorem dX5_turnOf_0 : decode cX5_turnOf 0 = .ok (.aload_n 0, 1) := by decide +kernel
theorem dX5_turnOf_1 : decode cX5_turnOf 1 = .ok (.iload_n 2, 1) := by decide +kernel
theorem dX5_turnOf_2 : decode cX5_turnOf 2 = .ok (.invokevirtual 63, 3) := by decide +kernel
theorem dX5_turnOf_5 : decode cX5_turnOf 5 = .ok (.istore 4, 2) := by decide +kernel
theorem dX5_turnOf_7 : decode cX5_turnOf 7 = .ok (.aload_n 0, 1) := by decide +kernel
theorem dX5_turnOf_8 : decode cX5_turnOf 8 = .ok (.iload 4, 2) := by decide +kernel
theorem dX5_turnOf_10 : decode cX5_turnOf 10 = .ok (.aload_n 0, 1) := by decide +kernel
theorem dX5_turnOf_11 : decode cX5_turnOf 11 = .ok (.aload_n 1, 1) := by decide +kernel
theorem dX5_turnOf_12 : decode cX5_turnOf 12 = .ok (.iload 4, 2) := by decide +kernel
theorem dX5_turnOf_14 : decode cX5_turnOf 14 = .ok (.aload_n 0, 1) := by decide +kernel
theorem dX5_turnOf_15 : decode cX5_turnOf 15 = .ok (.getfield 21, 3) := by decide +kernel
theorem dX5_turnOf_18 : decode cX5_turnOf 18 = .ok (.iload_n 2, 1) := by decide +kernel
theorem dX5_turnOf_19 : decode cX5_turnOf 19 = .ok (.iaload, 1) := by decide +kernel
theorem dX5_turnOf_20 : decode cX5_turnOf 20 = .ok (.invokevirtual 59, 3) := by decide +kernel
theorem dX5_turnOf_23 : decode cX5_turnOf 23 = .ok (.iload_n 3, 1) := by decide +kernel
theorem dX5_turnOf_24 : decode cX5_turnOf 24 = .ok (.aload_n 1, 1) := by decide +kernel
theorem dX5_turnOf_25 : decode cX5_turnOf 25 = .ok (.getfield 67, 3) := by decide +kernel
theorem dX5_turnOf_28 : decode cX5_turnOf 28 = .ok (.invokevirtual 70, 3) := by decide +kernel
theorem dX5_turnOf_31 : decode cX5_turnOf 31 = .ok (.ireturn, 1) := by decide +kernel
theorem dX5_worthOf_0 : decode cX5_worthOf 0 = .ok (.iconst 0, 1) := by decide +kernel
theorem dX5_worthOf_1 : decode cX5_worthOf 1 = .ok (.istore_n 3, 1) := by decide +kernel
theorem dX5_worthOf_2 : decode cX5_worthOf 2 = .ok (.iconst 0, 1) := by decide +kernel
theorem dX5_worthOf_3 : decode cX5_worthOf 3 = .ok (.istore 4, 2) := by decide +kernel
theorem dX5_worthOf_5 : decode cX5_worthOf 5 = .ok (.iload 4, 2) := by decide +kernel
theorem dX5_worthOf_7 : decode cX5_worthOf 7 = .ok (.aload_n 1, 1) := by decide +kernel
theorem dX5_worthOf_8 : decode cX5_worthOf 8 = .ok (.getfield 39, 3) := by decide +kernel
theorem dX5_worthOf_11 : decode cX5_worthOf 11 = .ok (.if_icmp .ge 27, 3) := by decide +kernel
theorem dX5_worthOf_14 : decode cX5_worthOf 14 = .ok (.iload_n 3, 1) := by decide +kernel
theorem dX5_worthOf_15 : decode cX5_worthOf 15 = .ok (.aload_n 0, 1) := by decide +kernel
theorem dX5_worthOf_16 : decode cX5_worthOf 16 = .ok (.iload_n 2, 1) := by decide +kernel
theorem dX5_worthOf_17 : decode cX5_worthOf 17 = .ok (.iload 4, 2) := by decide +kernel
theorem dX5_worthOf_19 : decode cX5_worthOf 19 = .ok (.invokevirtual 45, 3) := by decide +kernel
theorem dX5_worthOf_22 : decode cX5_worthOf 22 = .ok (.aload_n 1, 1) := by decide +kernel
theorem dX5_worthOf_23 : decode cX5_worthOf 23 = .ok (.getfield 49, 3) := by decide +kernel
theorem dX5_worthOf_26 : decode cX5_worthOf 26 = .ok (.iload 4, 2) := by decide +kernel
theorem dX5_worthOf_28 : decode cX5_worthOf 28 = .ok (.iaload, 1) := by decide +kernel
theorem dX5_worthOf_29 : decode cX5_worthOf 29 = .ok (.imul, 1) := by decide +kernel
theorem dX5_worthOf_30 : decode cX5_worthOf 30 = .ok (.iadd, 1) := by decide +kernel
theorem dX5_worthOf_31 : decode cX5_worthOf 31 = .ok (.istore_n 3, 1) := by decide +kernel
theorem dX5_worthOf_32 : decode cX5_worthOf 32 = .ok (.iinc 4 1, 3) := by decide +kernel
theorem dX5_worthOf_35 : decode cX5_worthOf 35 = .ok (.goto (-30), 3) := by decide +kernel
theorem dX5_worthOf_38 : decode cX5_worthOf 38 = .ok (.iload_n 3, 1) := by decide +kernel
theorem dX5_worthOf_39 : decode cX5_worthOf 39 = .ok (.ireturn, 1) := by decide +kernel
theorem dX5_yieldTo_0 : decode cX5_yieldTo 0 = .ok (.iload_n 3, 1) := by decide +kernel
theorem dX5_yieldTo_1 : decode cX5_yieldTo 1 = .ok (.iconst (-1), 1) := by decide +kernel
theorem dX5_yieldTo_2 : decode cX5_yieldTo 2 = .ok (.if_icmp .eq 8, 3) := by decide +kernel
theorem dX5_yieldTo_5 : decode cX5_yieldTo 5 = .ok (.iload_n 2, 1) := by decide +kernel
theorem dX5_yieldTo_6 : decode cX5_yieldTo 6 = .ok (.iconst (-1), 1) := by decide +kernel
theorem dX5_yieldTo_7 : decode cX5_yieldTo 7 = .ok (.if_icmp .ne 5, 3) := by decide +kernel
theorem dX5_yieldTo_10 : decode cX5_yieldTo 10 = .ok (.iload_n 2, 1) := by decide +kernel
theorem dX5_yieldTo_11 : decode cX5_yieldTo 11 = .ok (.ireturn, 1) := by decide +kernel
theorem dX5_yieldTo_12 : decode cX5_yieldTo 12 = .ok (.aload_n 0, 1) := by decide +kernel
theorem dX5_yieldTo_13 : decode cX5_yieldTo 13 = .ok (.iload_n 1, 1) := by decide +kernel
theorem dX5_yieldTo_14 : decode cX5_yieldTo 14 = .ok (.iload_n 3, 1) := by decide +kernel
theorem dX5_yieldTo_15 : decode cX5_yieldTo 15 = .ok (.invokevirtual 56, 3) := by decide +kernel
theorem dX5_yieldTo_18 : decode cX5_yieldTo 18 = .ok (.iload 4, 2) := by decide +kernel
theorem dX5_yieldTo_20 : decode cX5_yieldTo 20 = .ok (.iadd, 1) := by decide +kernel
theorem dX5_yieldTo_21 : decode cX5_yieldTo 21 = .ok (.aload_n 0, 1) := by decide +kernel
theorem dX5_yieldTo_22 : decode cX5_yieldTo 22 = .ok (.iload_n 1, 1) := by decide +kernel
theorem dX5_yieldTo_23 : decode cX5_yieldTo 23 = .ok (.iload_n 2, 1) := by decide +kernel
theorem dX5_yieldTo_24 : decode cX5_yieldTo 24 = .ok (.invokevirtual 56, 3) := by decide +kernel
theorem dX5_yieldTo_27 : decode cX5_yieldTo 27 = .ok (.if_icmp .lt 7, 3) := by decide +kernel
theorem dX5_yieldTo_30 : decode cX5_yieldTo 30 = .ok (.iload_n 3, 1) := by decide +kernel
theorem dX5_yieldTo_31 : decode cX5_yieldTo 31 = .ok (.goto 4, 3) := by decide +kernel
theorem dX5_yieldTo_34 : decode cX5_yieldTo 34 = .ok (.iload_n 2, 1) := by decide +kernel
theorem dX5_yieldTo_35 : decode cX5_yieldTo 35 = .ok (.ireturn, 1) := by decide +kernel
theorem dX6_append_0 : decode cX6_append 0 = .ok (.bipush 24, 2) := by decide +kernel
theorem dX6_append_2 : decode cX6_append 2 = .ok (.istore_n 2, 1) := by decide +kernel
theorem dX6_append_3 : decode cX6_append 3 = .ok (.iload_n 2, 1) := by decide +kernel
theorem dX6_append_4 : decode cX6_append 4 = .ok (.ifCond .lt 42, 3) := by decide +kernel
theorem dX6_append_7 : decode cX6_append 7 = .ok (.aload_n 0, 1) := by decide +kernel
theorem dX6_append_8 : decode cX6_append 8 = .ok (.getfield 15, 3) := by decide +kernel
theorem dX6_append_11 : decode cX6_append 11 = .ok (.sipush 1000, 3) := by decide +kernel
theorem dX6_append_14 : decode cX6_append 14 = .ok (.if_icmp .ge 26, 3) := by decide +kernel
theorem dX6_append_17 : decode cX6_append 17 = .ok (.aload_n 0, 1) := by decide +kernel
theorem dX6_append_18 : decode cX6_append 18 = .ok (.getfield 11, 3) := by decide +kernel
theorem dX6_append_21 : decode cX6_append 21 = .ok (.aload_n 0, 1) := by decide +kernel
theorem dX6_append_22 : decode cX6_append 22 = .ok (.getfield 15, 3) := by decide +kernel
theorem dX6_append_25 : decode cX6_append 25 = .ok (.iload_n 1, 1) := by decide +kernel
theorem dX6_append_26 : decode cX6_append 26 = .ok (.iload_n 2, 1) := by decide +kernel
theorem dX6_append_27 : decode cX6_append 27 = .ok (.ishr, 1) := by decide +kernel
theorem dX6_append_28 : decode cX6_append 28 = .ok (.i2b, 1) := by decide +kernel
theorem dX6_append_29 : decode cX6_append 29 = .ok (.bastore, 1) := by decide +kernel
theorem dX6_append_30 : decode cX6_append 30 = .ok (.aload_n 0, 1) := by decide +kernel
theorem dX6_append_31 : decode cX6_append 31 = .ok (.dup, 1) := by decide +kernel
theorem dX6_append_32 : decode cX6_append 32 = .ok (.getfield 15, 3) := by decide +kernel
theorem dX6_append_35 : decode cX6_append 35 = .ok (.iconst 1, 1) := by decide +kernel
theorem dX6_append_36 : decode cX6_append 36 = .ok (.iadd, 1) := by decide +kernel
theorem dX6_append_37 : decode cX6_append 37 = .ok (.putfield 15, 3) := by decide +kernel
theorem dX6_append_40 : decode cX6_append 40 = .ok (.iinc 2 (-8), 3) := by decide +kernel
theorem dX6_append_43 : decode cX6_append 43 = .ok (.goto (-40), 3) := by decide +kernel
theorem dX6_append_46 : decode cX6_append 46 = .ok (.return_, 1) := by decide +kernel
theorem dX6_byteAt_0 : decode cX6_byteAt 0 = .ok (.iload_n 1, 1) := by decide +kernel
theorem dX6_byteAt_1 : decode cX6_byteAt 1 = .ok (.ifCond .lt 24, 3) := by decide +kernel
theorem dX6_byteAt_4 : decode cX6_byteAt 4 = .ok (.iload_n 1, 1) := by decide +kernel
theorem dX6_byteAt_5 : decode cX6_byteAt 5 = .ok (.aload_n 0, 1) := by decide +kernel
theorem dX6_byteAt_6 : decode cX6_byteAt 6 = .ok (.getfield 15, 3) := by decide +kernel
theorem dX6_byteAt_9 : decode cX6_byteAt 9 = .ok (.if_icmp .ge 16, 3) := by decide +kernel
theorem dX6_byteAt_12 : decode cX6_byteAt 12 = .ok (.aload_n 0, 1) := by decide +kernel
theorem dX6_byteAt_13 : decode cX6_byteAt 13 = .ok (.getfield 11, 3) := by decide +kernel
theorem dX6_byteAt_16 : decode cX6_byteAt 16 = .ok (.iload_n 1, 1) := by decide +kernel
theorem dX6_byteAt_17 : decode cX6_byteAt 17 = .ok (.baload, 1) := by decide +kernel
theorem dX6_byteAt_18 : decode cX6_byteAt 18 = .ok (.sipush 255, 3) := by decide +kernel
theorem dX6_byteAt_21 : decode cX6_byteAt 21 = .ok (.iand, 1) := by decide +kernel
theorem dX6_byteAt_22 : decode cX6_byteAt 22 = .ok (.goto 4, 3) := by decide +kernel
theorem dX6_byteAt_25 : decode cX6_byteAt 25 = .ok (.iconst (-1), 1) := by decide +kernel
theorem dX6_byteAt_26 : decode cX6_byteAt 26 = .ok (.ireturn, 1) := by decide +kernel
theorem dX6_hasRoom_0 : decode cX6_hasRoom 0 = .ok (.aload_n 0, 1) := by decide +kernel
theorem dX6_hasRoom_1 : decode cX6_hasRoom 1 = .ok (.getfield 15, 3) := by decide +kernel
theorem dX6_hasRoom_4 : decode cX6_hasRoom 4 = .ok (.bipush 20, 2) := by decide +kernel
theorem dX6_hasRoom_6 : decode cX6_hasRoom 6 = .ok (.iadd, 1) := by decide +kernel
theorem dX6_hasRoom_7 : decode cX6_hasRoom 7 = .ok (.sipush 1000, 3) := by decide +kernel
theorem dX6_hasRoom_10 : decode cX6_hasRoom 10 = .ok (.if_icmp .gt 7, 3) := by decide +kernel
theorem dX6_hasRoom_13 : decode cX6_hasRoom 13 = .ok (.iconst 1, 1) := by decide +kernel
theorem dX6_hasRoom_14 : decode cX6_hasRoom 14 = .ok (.goto 4, 3) := by decide +kernel
theorem dX6_hasRoom_17 : decode cX6_hasRoom 17 = .ok (.iconst 0, 1) := by decide +kernel
theorem dX6_hasRoom_18 : decode cX6_hasRoom 18 = .ok (.ireturn, 1) := by decide +kernel
theorem dX7_begin_0 : decode cX7_begin 0 = .ok (.aload_n 0, 1) := by decide +kernel
theorem dX7_begin_1 : decode cX7_begin 1 = .ok (.iconst 0, 1) := by decide +kernel
theorem dX7_begin_2 : decode cX7_begin 2 = .ok (.putfield 9, 3) := by decide +kernel
theorem dX7_begin_5 : decode cX7_begin 5 = .ok (.aload_n 0, 1) := by decide +kernel
theorem dX7_begin_6 : decode cX7_begin 6 = .ok (.aload_n 1, 1) := by decide +kernel
theorem dX7_begin_7 : decode cX7_begin 7 = .ok (.getfield 15, 3) := by decide +kernel
theorem dX7_begin_10 : decode cX7_begin 10 = .ok (.iload_n 2, 1) := by decide +kernel
theorem dX7_begin_11 : decode cX7_begin 11 = .ok (.iaload, 1) := by decide +kernel
theorem dX7_begin_12 : decode cX7_begin 12 = .ok (.putfield 21, 3) := by decide +kernel
theorem dX7_begin_15 : decode cX7_begin 15 = .ok (.aload_n 0, 1) := by decide +kernel
theorem dX7_begin_16 : decode cX7_begin 16 = .ok (.iconst 0, 1) := by decide +kernel
theorem dX7_begin_17 : decode cX7_begin 17 = .ok (.putfield 24, 3) := by decide +kernel
theorem dX7_begin_20 : decode cX7_begin 20 = .ok (.aload_n 0, 1) := by decide +kernel
theorem dX7_begin_21 : decode cX7_begin 21 = .ok (.iconst 0, 1) := by decide +kernel
theorem dX7_begin_22 : decode cX7_begin 22 = .ok (.putfield 27, 3) := by decide +kernel
theorem dX7_begin_25 : decode cX7_begin 25 = .ok (.aload_n 0, 1) := by decide +kernel
theorem dX7_begin_26 : decode cX7_begin 26 = .ok (.iconst (-1), 1) := by decide +kernel
theorem dX7_begin_27 : decode cX7_begin 27 = .ok (.putfield 30, 3) := by decide +kernel
theorem dX7_begin_30 : decode cX7_begin 30 = .ok (.aload_n 0, 1) := by decide +kernel
theorem dX7_begin_31 : decode cX7_begin 31 = .ok (.iconst (-1), 1) := by decide +kernel
theorem dX7_begin_32 : decode cX7_begin 32 = .ok (.putfield 33, 3) := by decide +kernel
theorem dX7_begin_35 : decode cX7_begin 35 = .ok (.return_, 1) := by decide +kernel
theorem dX7_goOn_0 : decode cX7_goOn 0 = .ok (.aload_n 2, 1) := by decide +kernel
theorem dX7_goOn_1 : decode cX7_goOn 1 = .ok (.aload_n 1, 1) := by decide +kernel
theorem dX7_goOn_2 : decode cX7_goOn 2 = .ok (.iload_n 3, 1) := by decide +kernel
theorem dX7_goOn_3 : decode cX7_goOn 3 = .ok (.iload 4, 2) := by decide +kernel
theorem dX7_goOn_5 : decode cX7_goOn 5 = .ok (.invokevirtual 36, 3) := by decide +kernel
theorem dX7_goOn_8 : decode cX7_goOn 8 = .ok (.istore 5, 2) := by decide +kernel
theorem dX7_goOn_10 : decode cX7_goOn 10 = .ok (.iload 5, 2) := by decide +kernel
theorem dX7_goOn_12 : decode cX7_goOn 12 = .ok (.iconst (-1), 1) := by decide +kernel
theorem dX7_goOn_13 : decode cX7_goOn 13 = .ok (.if_icmp .ne 5, 3) := by decide +kernel
theorem dX7_goOn_16 : decode cX7_goOn 16 = .ok (.iconst 0, 1) := by decide +kernel
theorem dX7_goOn_17 : decode cX7_goOn 17 = .ok (.ireturn, 1) := by decide +kernel
theorem dX7_goOn_18 : decode cX7_goOn 18 = .ok (.iload 4, 2) := by decide +kernel
theorem dX7_goOn_20 : decode cX7_goOn 20 = .ok (.iconst (-1), 1) := by decide +kernel
theorem dX7_goOn_21 : decode cX7_goOn 21 = .ok (.if_icmp .eq 36, 3) := by decide +kernel
theorem dX7_goOn_24 : decode cX7_goOn 24 = .ok (.iload 4, 2) := by decide +kernel
theorem dX7_goOn_26 : decode cX7_goOn 26 = .ok (.iload 5, 2) := by decide +kernel
theorem dX7_goOn_28 : decode cX7_goOn 28 = .ok (.if_icmp .eq 29, 3) := by decide +kernel
theorem dX7_goOn_31 : decode cX7_goOn 31 = .ok (.aload_n 0, 1) := by decide +kernel
theorem dX7_goOn_32 : decode cX7_goOn 32 = .ok (.dup, 1) := by decide +kernel
theorem dX7_goOn_33 : decode cX7_goOn 33 = .ok (.getfield 27, 3) := by decide +kernel
theorem dX7_goOn_36 : decode cX7_goOn 36 = .ok (.iconst 1, 1) := by decide +kernel
theorem dX7_goOn_37 : decode cX7_goOn 37 = .ok (.iadd, 1) := by decide +kernel
theorem dX7_goOn_38 : decode cX7_goOn 38 = .ok (.putfield 27, 3) := by decide +kernel
theorem dX7_goOn_41 : decode cX7_goOn 41 = .ok (.aload_n 0, 1) := by decide +kernel
theorem dX7_goOn_42 : decode cX7_goOn 42 = .ok (.getfield 30, 3) := by decide +kernel
theorem dX7_goOn_45 : decode cX7_goOn 45 = .ok (.iconst (-1), 1) := by decide +kernel
theorem dX7_goOn_46 : decode cX7_goOn 46 = .ok (.if_icmp .ne 11, 3) := by decide +kernel
theorem dX7_goOn_49 : decode cX7_goOn 49 = .ok (.aload_n 0, 1) := by decide +kernel
theorem dX7_goOn_50 : decode cX7_goOn 50 = .ok (.aload_n 0, 1) := by decide +kernel
theorem dX7_goOn_51 : decode cX7_goOn 51 = .ok (.getfield 9, 3) := by decide +kernel
theorem dX7_goOn_54 : decode cX7_goOn 54 = .ok (.putfield 30, 3) := by decide +kernel
theorem dX7_goOn_57 : decode cX7_goOn 57 = .ok (.aload_n 0, 1) := by decide +kernel
theorem dX7_goOn_58 : decode cX7_goOn 58 = .ok (.getfield 33, 3) := by decide +kernel
theorem dX7_goOn_61 : decode cX7_goOn 61 = .ok (.iconst (-1), 1) := by decide +kernel
theorem dX7_goOn_62 : decode cX7_goOn 62 = .ok (.if_icmp .ne 19, 3) := by decide +kernel
theorem dX7_goOn_65 : decode cX7_goOn 65 = .ok (.aload_n 2, 1) := by decide +kernel
theorem dX7_goOn_66 : decode cX7_goOn 66 = .ok (.iload_n 3, 1) := by decide +kernel
theorem dX7_goOn_67 : decode cX7_goOn 67 = .ok (.invokevirtual 40, 3) := by decide +kernel
theorem dX7_goOn_70 : decode cX7_goOn 70 = .ok (.ifCond .eq 11, 3) := by decide +kernel
theorem dX7_goOn_73 : decode cX7_goOn 73 = .ok (.aload_n 0, 1) := by decide +kernel
theorem dX7_goOn_74 : decode cX7_goOn 74 = .ok (.aload_n 0, 1) := by decide +kernel
theorem dX7_goOn_75 : decode cX7_goOn 75 = .ok (.getfield 9, 3) := by decide +kernel
theorem dX7_goOn_78 : decode cX7_goOn 78 = .ok (.putfield 33, 3) := by decide +kernel
theorem dX7_goOn_81 : decode cX7_goOn 81 = .ok (.aload_n 0, 1) := by decide +kernel
theorem dX7_goOn_82 : decode cX7_goOn 82 = .ok (.dup, 1) := by decide +kernel
theorem dX7_goOn_83 : decode cX7_goOn 83 = .ok (.getfield 9, 3) := by decide +kernel
theorem dX7_goOn_86 : decode cX7_goOn 86 = .ok (.iconst 1, 1) := by decide +kernel
theorem dX7_goOn_87 : decode cX7_goOn 87 = .ok (.iadd, 1) := by decide +kernel
theorem dX7_goOn_88 : decode cX7_goOn 88 = .ok (.putfield 9, 3) := by decide +kernel
theorem dX7_goOn_91 : decode cX7_goOn 91 = .ok (.aload_n 0, 1) := by decide +kernel
theorem dX7_goOn_92 : decode cX7_goOn 92 = .ok (.aload_n 2, 1) := by decide +kernel
theorem dX7_goOn_93 : decode cX7_goOn 93 = .ok (.getfield 15, 3) := by decide +kernel
theorem dX7_goOn_96 : decode cX7_goOn 96 = .ok (.iload_n 3, 1) := by decide +kernel
theorem dX7_goOn_97 : decode cX7_goOn 97 = .ok (.iaload, 1) := by decide +kernel
theorem dX7_goOn_98 : decode cX7_goOn 98 = .ok (.putfield 21, 3) := by decide +kernel
theorem dX7_goOn_101 : decode cX7_goOn 101 = .ok (.aload_n 0, 1) := by decide +kernel
theorem dX7_goOn_102 : decode cX7_goOn 102 = .ok (.dup, 1) := by decide +kernel
theorem dX7_goOn_103 : decode cX7_goOn 103 = .ok (.getfield 24, 3) := by decide +kernel
theorem dX7_goOn_106 : decode cX7_goOn 106 = .ok (.aload_n 1, 1) := by decide +kernel
theorem dX7_goOn_107 : decode cX7_goOn 107 = .ok (.getfield 44, 3) := by decide +kernel
theorem dX7_goOn_110 : decode cX7_goOn 110 = .ok (.iload 5, 2) := by decide +kernel
theorem dX7_goOn_112 : decode cX7_goOn 112 = .ok (.iaload, 1) := by decide +kernel
theorem dX7_goOn_113 : decode cX7_goOn 113 = .ok (.iadd, 1) := by decide +kernel
theorem dX7_goOn_114 : decode cX7_goOn 114 = .ok (.putfield 24, 3) := by decide +kernel
theorem dX7_goOn_117 : decode cX7_goOn 117 = .ok (.iconst 1, 1) := by decide +kernel
theorem dX7_goOn_118 : decode cX7_goOn 118 = .ok (.ireturn, 1) := by decide +kernel
theorem dX8_act_0 : decode cX8_act 0 = .ok (.aload_n 0, 1) := by decide +kernel
theorem dX8_act_1 : decode cX8_act 1 = .ok (.invokevirtual 55, 3) := by decide +kernel
theorem dX8_act_4 : decode cX8_act 4 = .ok (.ifCond .ne 50, 3) := by decide +kernel
theorem dX8_act_7 : decode cX8_act 7 = .ok (.aload_n 0, 1) := by decide +kernel
theorem dX8_act_8 : decode cX8_act 8 = .ok (.getfield 25, 3) := by decide +kernel
theorem dX8_act_11 : decode cX8_act 11 = .ok (.aload_n 0, 1) := by decide +kernel
theorem dX8_act_12 : decode cX8_act 12 = .ok (.getfield 45, 3) := by decide +kernel
theorem dX8_act_15 : decode cX8_act 15 = .ok (.iload_n 1, 1) := by decide +kernel
theorem dX8_act_16 : decode cX8_act 16 = .ok (.iastore, 1) := by decide +kernel
theorem dX8_act_17 : decode cX8_act 17 = .ok (.aload_n 0, 1) := by decide +kernel
theorem dX8_act_18 : decode cX8_act 18 = .ok (.getfield 29, 3) := by decide +kernel
theorem dX8_act_21 : decode cX8_act 21 = .ok (.aload_n 0, 1) := by decide +kernel
theorem dX8_act_22 : decode cX8_act 22 = .ok (.getfield 45, 3) := by decide +kernel
theorem dX8_act_25 : decode cX8_act 25 = .ok (.iload_n 2, 1) := by decide +kernel
theorem dX8_act_26 : decode cX8_act 26 = .ok (.iastore, 1) := by decide +kernel
theorem dX8_act_27 : decode cX8_act 27 = .ok (.aload_n 0, 1) := by decide +kernel
theorem dX8_act_28 : decode cX8_act 28 = .ok (.getfield 32, 3) := by decide +kernel
theorem dX8_act_31 : decode cX8_act 31 = .ok (.aload_n 0, 1) := by decide +kernel
theorem dX8_act_32 : decode cX8_act 32 = .ok (.getfield 45, 3) := by decide +kernel
theorem dX8_act_35 : decode cX8_act 35 = .ok (.iload_n 3, 1) := by decide +kernel
theorem dX8_act_36 : decode cX8_act 36 = .ok (.iastore, 1) := by decide +kernel
theorem dX8_act_37 : decode cX8_act 37 = .ok (.aload_n 0, 1) := by decide +kernel
theorem dX8_act_38 : decode cX8_act 38 = .ok (.dup, 1) := by decide +kernel
theorem dX8_act_39 : decode cX8_act 39 = .ok (.getfield 45, 3) := by decide +kernel
theorem dX8_act_42 : decode cX8_act 42 = .ok (.iconst 1, 1) := by decide +kernel
theorem dX8_act_43 : decode cX8_act 43 = .ok (.iadd, 1) := by decide +kernel
theorem dX8_act_44 : decode cX8_act 44 = .ok (.putfield 45, 3) := by decide +kernel
theorem dX8_act_47 : decode cX8_act 47 = .ok (.aload_n 0, 1) := by decide +kernel
theorem dX8_act_48 : decode cX8_act 48 = .ok (.iload_n 1, 1) := by decide +kernel
theorem dX8_act_49 : decode cX8_act 49 = .ok (.iload_n 2, 1) := by decide +kernel
theorem dX8_act_50 : decode cX8_act 50 = .ok (.iload_n 3, 1) := by decide +kernel
theorem dX8_act_51 : decode cX8_act 51 = .ok (.invokevirtual 59, 3) := by decide +kernel
theorem dX8_act_54 : decode cX8_act 54 = .ok (.return_, 1) := by decide +kernel
theorem dX8_begin_0 : decode cX8_begin 0 = .ok (.aload_n 0, 1) := by decide +kernel
theorem dX8_begin_1 : decode cX8_begin 1 = .ok (.getfield 12, 3) := by decide +kernel
theorem dX8_begin_4 : decode cX8_begin 4 = .ok (.aload_n 1, 1) := by decide +kernel
theorem dX8_begin_5 : decode cX8_begin 5 = .ok (.invokevirtual 35, 3) := by decide +kernel
theorem dX8_begin_8 : decode cX8_begin 8 = .ok (.aload_n 0, 1) := by decide +kernel
theorem dX8_begin_9 : decode cX8_begin 9 = .ok (.getfield 21, 3) := by decide +kernel
theorem dX8_begin_12 : decode cX8_begin 12 = .ok (.aload_n 1, 1) := by decide +kernel
theorem dX8_begin_13 : decode cX8_begin 13 = .ok (.getfield 39, 3) := by decide +kernel
theorem dX8_begin_16 : decode cX8_begin 16 = .ok (.invokevirtual 42, 3) := by decide +kernel
