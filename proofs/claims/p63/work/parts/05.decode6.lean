theorem dX8_begin_19 : decode cX8_begin 19 = .ok (.aload_n 0, 1) := by decide +kernel
theorem dX8_begin_20 : decode cX8_begin 20 = .ok (.iconst 0, 1) := by decide +kernel
theorem dX8_begin_21 : decode cX8_begin 21 = .ok (.putfield 45, 3) := by decide +kernel
theorem dX8_begin_24 : decode cX8_begin 24 = .ok (.return_, 1) := by decide +kernel
theorem dX8_copy_0 : decode cX8_copy 0 = .ok (.aload_n 0, 1) := by decide +kernel
theorem dX8_copy_1 : decode cX8_copy 1 = .ok (.getfield 12, 3) := by decide +kernel
theorem dX8_copy_4 : decode cX8_copy 4 = .ok (.aload_n 1, 1) := by decide +kernel
theorem dX8_copy_5 : decode cX8_copy 5 = .ok (.getfield 12, 3) := by decide +kernel
theorem dX8_copy_8 : decode cX8_copy 8 = .ok (.invokevirtual 35, 3) := by decide +kernel
theorem dX8_copy_11 : decode cX8_copy 11 = .ok (.aload_n 0, 1) := by decide +kernel
theorem dX8_copy_12 : decode cX8_copy 12 = .ok (.getfield 21, 3) := by decide +kernel
theorem dX8_copy_15 : decode cX8_copy 15 = .ok (.aload_n 1, 1) := by decide +kernel
theorem dX8_copy_16 : decode cX8_copy 16 = .ok (.getfield 21, 3) := by decide +kernel
theorem dX8_copy_19 : decode cX8_copy 19 = .ok (.invokevirtual 42, 3) := by decide +kernel
theorem dX8_copy_22 : decode cX8_copy 22 = .ok (.aload_n 0, 1) := by decide +kernel
theorem dX8_copy_23 : decode cX8_copy 23 = .ok (.aload_n 1, 1) := by decide +kernel
theorem dX8_copy_24 : decode cX8_copy 24 = .ok (.getfield 45, 3) := by decide +kernel
theorem dX8_copy_27 : decode cX8_copy 27 = .ok (.putfield 45, 3) := by decide +kernel
theorem dX8_copy_30 : decode cX8_copy 30 = .ok (.aload_n 1, 1) := by decide +kernel
theorem dX8_copy_31 : decode cX8_copy 31 = .ok (.getfield 25, 3) := by decide +kernel
theorem dX8_copy_34 : decode cX8_copy 34 = .ok (.iconst 0, 1) := by decide +kernel
theorem dX8_copy_35 : decode cX8_copy 35 = .ok (.aload_n 0, 1) := by decide +kernel
theorem dX8_copy_36 : decode cX8_copy 36 = .ok (.getfield 25, 3) := by decide +kernel
theorem dX8_copy_39 : decode cX8_copy 39 = .ok (.iconst 0, 1) := by decide +kernel
theorem dX8_copy_40 : decode cX8_copy 40 = .ok (.bipush 40, 2) := by decide +kernel
theorem dX8_copy_42 : decode cX8_copy 42 = .ok (.invokestatic 49, 3) := by decide +kernel
theorem dX8_copy_45 : decode cX8_copy 45 = .ok (.aload_n 1, 1) := by decide +kernel
theorem dX8_copy_46 : decode cX8_copy 46 = .ok (.getfield 29, 3) := by decide +kernel
theorem dX8_copy_49 : decode cX8_copy 49 = .ok (.iconst 0, 1) := by decide +kernel
theorem dX8_copy_50 : decode cX8_copy 50 = .ok (.aload_n 0, 1) := by decide +kernel
theorem dX8_copy_51 : decode cX8_copy 51 = .ok (.getfield 29, 3) := by decide +kernel
theorem dX8_copy_54 : decode cX8_copy 54 = .ok (.iconst 0, 1) := by decide +kernel
theorem dX8_copy_55 : decode cX8_copy 55 = .ok (.bipush 40, 2) := by decide +kernel
theorem dX8_copy_57 : decode cX8_copy 57 = .ok (.invokestatic 49, 3) := by decide +kernel
theorem dX8_copy_60 : decode cX8_copy 60 = .ok (.aload_n 1, 1) := by decide +kernel
theorem dX8_copy_61 : decode cX8_copy 61 = .ok (.getfield 32, 3) := by decide +kernel
theorem dX8_copy_64 : decode cX8_copy 64 = .ok (.iconst 0, 1) := by decide +kernel
theorem dX8_copy_65 : decode cX8_copy 65 = .ok (.aload_n 0, 1) := by decide +kernel
theorem dX8_copy_66 : decode cX8_copy 66 = .ok (.getfield 32, 3) := by decide +kernel
theorem dX8_copy_69 : decode cX8_copy 69 = .ok (.iconst 0, 1) := by decide +kernel
theorem dX8_copy_70 : decode cX8_copy 70 = .ok (.bipush 40, 2) := by decide +kernel
theorem dX8_copy_72 : decode cX8_copy 72 = .ok (.invokestatic 49, 3) := by decide +kernel
theorem dX8_copy_75 : decode cX8_copy 75 = .ok (.return_, 1) := by decide +kernel
theorem dX8_isFull_0 : decode cX8_isFull 0 = .ok (.aload_n 0, 1) := by decide +kernel
theorem dX8_isFull_1 : decode cX8_isFull 1 = .ok (.getfield 45, 3) := by decide +kernel
theorem dX8_isFull_4 : decode cX8_isFull 4 = .ok (.bipush 40, 2) := by decide +kernel
theorem dX8_isFull_6 : decode cX8_isFull 6 = .ok (.if_icmp .lt 7, 3) := by decide +kernel
theorem dX8_isFull_9 : decode cX8_isFull 9 = .ok (.iconst 1, 1) := by decide +kernel
theorem dX8_isFull_10 : decode cX8_isFull 10 = .ok (.goto 4, 3) := by decide +kernel
theorem dX8_isFull_13 : decode cX8_isFull 13 = .ok (.iconst 0, 1) := by decide +kernel
theorem dX8_isFull_14 : decode cX8_isFull 14 = .ok (.ireturn, 1) := by decide +kernel
theorem dX8_keepActs_0 : decode cX8_keepActs 0 = .ok (.aload_n 0, 1) := by decide +kernel
theorem dX8_keepActs_1 : decode cX8_keepActs 1 = .ok (.iload_n 1, 1) := by decide +kernel
theorem dX8_keepActs_2 : decode cX8_keepActs 2 = .ok (.putfield 45, 3) := by decide +kernel
theorem dX8_keepActs_5 : decode cX8_keepActs 5 = .ok (.aload_n 0, 1) := by decide +kernel
theorem dX8_keepActs_6 : decode cX8_keepActs 6 = .ok (.getfield 21, 3) := by decide +kernel
theorem dX8_keepActs_9 : decode cX8_keepActs 9 = .ok (.aload_n 0, 1) := by decide +kernel
theorem dX8_keepActs_10 : decode cX8_keepActs 10 = .ok (.getfield 12, 3) := by decide +kernel
theorem dX8_keepActs_13 : decode cX8_keepActs 13 = .ok (.getfield 39, 3) := by decide +kernel
theorem dX8_keepActs_16 : decode cX8_keepActs 16 = .ok (.invokevirtual 42, 3) := by decide +kernel
theorem dX8_keepActs_19 : decode cX8_keepActs 19 = .ok (.iconst 0, 1) := by decide +kernel
theorem dX8_keepActs_20 : decode cX8_keepActs 20 = .ok (.istore_n 2, 1) := by decide +kernel
theorem dX8_keepActs_21 : decode cX8_keepActs 21 = .ok (.iload_n 2, 1) := by decide +kernel
theorem dX8_keepActs_22 : decode cX8_keepActs 22 = .ok (.iload_n 1, 1) := by decide +kernel
theorem dX8_keepActs_23 : decode cX8_keepActs 23 = .ok (.if_icmp .ge 37, 3) := by decide +kernel
theorem dX8_keepActs_26 : decode cX8_keepActs 26 = .ok (.iload_n 2, 1) := by decide +kernel
theorem dX8_keepActs_27 : decode cX8_keepActs 27 = .ok (.bipush 40, 2) := by decide +kernel
theorem dX8_keepActs_29 : decode cX8_keepActs 29 = .ok (.if_icmp .ge 31, 3) := by decide +kernel
theorem dX8_keepActs_32 : decode cX8_keepActs 32 = .ok (.aload_n 0, 1) := by decide +kernel
theorem dX8_keepActs_33 : decode cX8_keepActs 33 = .ok (.aload_n 0, 1) := by decide +kernel
theorem dX8_keepActs_34 : decode cX8_keepActs 34 = .ok (.getfield 25, 3) := by decide +kernel
theorem dX8_keepActs_37 : decode cX8_keepActs 37 = .ok (.iload_n 2, 1) := by decide +kernel
theorem dX8_keepActs_38 : decode cX8_keepActs 38 = .ok (.iaload, 1) := by decide +kernel
theorem dX8_keepActs_39 : decode cX8_keepActs 39 = .ok (.aload_n 0, 1) := by decide +kernel
theorem dX8_keepActs_40 : decode cX8_keepActs 40 = .ok (.getfield 29, 3) := by decide +kernel
theorem dX8_keepActs_43 : decode cX8_keepActs 43 = .ok (.iload_n 2, 1) := by decide +kernel
theorem dX8_keepActs_44 : decode cX8_keepActs 44 = .ok (.iaload, 1) := by decide +kernel
theorem dX8_keepActs_45 : decode cX8_keepActs 45 = .ok (.aload_n 0, 1) := by decide +kernel
theorem dX8_keepActs_46 : decode cX8_keepActs 46 = .ok (.getfield 32, 3) := by decide +kernel
theorem dX8_keepActs_49 : decode cX8_keepActs 49 = .ok (.iload_n 2, 1) := by decide +kernel
theorem dX8_keepActs_50 : decode cX8_keepActs 50 = .ok (.iaload, 1) := by decide +kernel
theorem dX8_keepActs_51 : decode cX8_keepActs 51 = .ok (.invokevirtual 59, 3) := by decide +kernel
theorem dX8_keepActs_54 : decode cX8_keepActs 54 = .ok (.iinc 2 1, 3) := by decide +kernel
theorem dX8_keepActs_57 : decode cX8_keepActs 57 = .ok (.goto (-36), 3) := by decide +kernel
theorem dX8_keepActs_60 : decode cX8_keepActs 60 = .ok (.return_, 1) := by decide +kernel
theorem dX8_perform_0 : decode cX8_perform 0 = .ok (.iload_n 1, 1) := by decide +kernel
theorem dX8_perform_1 : decode cX8_perform 1 = .ok (.ifCond .ne 20, 3) := by decide +kernel
theorem dX8_perform_4 : decode cX8_perform 4 = .ok (.aload_n 0, 1) := by decide +kernel
theorem dX8_perform_5 : decode cX8_perform 5 = .ok (.getfield 21, 3) := by decide +kernel
theorem dX8_perform_8 : decode cX8_perform 8 = .ok (.aload_n 0, 1) := by decide +kernel
theorem dX8_perform_9 : decode cX8_perform 9 = .ok (.getfield 12, 3) := by decide +kernel
theorem dX8_perform_12 : decode cX8_perform 12 = .ok (.iload_n 2, 1) := by decide +kernel
theorem dX8_perform_13 : decode cX8_perform 13 = .ok (.iload_n 3, 1) := by decide +kernel
theorem dX8_perform_14 : decode cX8_perform 14 = .ok (.invokevirtual 63, 3) := by decide +kernel
theorem dX8_perform_17 : decode cX8_perform 17 = .ok (.pop, 1) := by decide +kernel
theorem dX8_perform_18 : decode cX8_perform 18 = .ok (.goto 59, 3) := by decide +kernel
theorem dX8_perform_21 : decode cX8_perform 21 = .ok (.iload_n 1, 1) := by decide +kernel
theorem dX8_perform_22 : decode cX8_perform 22 = .ok (.iconst 1, 1) := by decide +kernel
theorem dX8_perform_23 : decode cX8_perform 23 = .ok (.if_icmp .ne 46, 3) := by decide +kernel
theorem dX8_perform_26 : decode cX8_perform 26 = .ok (.aload_n 0, 1) := by decide +kernel
theorem dX8_perform_27 : decode cX8_perform 27 = .ok (.getfield 21, 3) := by decide +kernel
theorem dX8_perform_30 : decode cX8_perform 30 = .ok (.getfield 67, 3) := by decide +kernel
theorem dX8_perform_33 : decode cX8_perform 33 = .ok (.iload_n 2, 1) := by decide +kernel
theorem dX8_perform_34 : decode cX8_perform 34 = .ok (.iaload, 1) := by decide +kernel
theorem dX8_perform_35 : decode cX8_perform 35 = .ok (.istore 4, 2) := by decide +kernel
theorem dX8_perform_37 : decode cX8_perform 37 = .ok (.aload_n 0, 1) := by decide +kernel
theorem dX8_perform_38 : decode cX8_perform 38 = .ok (.getfield 21, 3) := by decide +kernel
theorem dX8_perform_41 : decode cX8_perform 41 = .ok (.getfield 67, 3) := by decide +kernel
theorem dX8_perform_44 : decode cX8_perform 44 = .ok (.iload_n 2, 1) := by decide +kernel
theorem dX8_perform_45 : decode cX8_perform 45 = .ok (.aload_n 0, 1) := by decide +kernel
theorem dX8_perform_46 : decode cX8_perform 46 = .ok (.getfield 21, 3) := by decide +kernel
theorem dX8_perform_49 : decode cX8_perform 49 = .ok (.getfield 67, 3) := by decide +kernel
theorem dX8_perform_52 : decode cX8_perform 52 = .ok (.iload_n 3, 1) := by decide +kernel
theorem dX8_perform_53 : decode cX8_perform 53 = .ok (.iaload, 1) := by decide +kernel
theorem dX8_perform_54 : decode cX8_perform 54 = .ok (.iastore, 1) := by decide +kernel
theorem dX8_perform_55 : decode cX8_perform 55 = .ok (.aload_n 0, 1) := by decide +kernel
theorem dX8_perform_56 : decode cX8_perform 56 = .ok (.getfield 21, 3) := by decide +kernel
theorem dX8_perform_59 : decode cX8_perform 59 = .ok (.getfield 67, 3) := by decide +kernel
theorem dX8_perform_62 : decode cX8_perform 62 = .ok (.iload_n 3, 1) := by decide +kernel
theorem dX8_perform_63 : decode cX8_perform 63 = .ok (.iload 4, 2) := by decide +kernel
theorem dX8_perform_65 : decode cX8_perform 65 = .ok (.iastore, 1) := by decide +kernel
theorem dX8_perform_66 : decode cX8_perform 66 = .ok (.goto 11, 3) := by decide +kernel
theorem dX8_perform_69 : decode cX8_perform 69 = .ok (.aload_n 0, 1) := by decide +kernel
theorem dX8_perform_70 : decode cX8_perform 70 = .ok (.getfield 21, 3) := by decide +kernel
theorem dX8_perform_73 : decode cX8_perform 73 = .ok (.iload_n 2, 1) := by decide +kernel
theorem dX8_perform_74 : decode cX8_perform 74 = .ok (.invokevirtual 70, 3) := by decide +kernel
theorem dX8_perform_77 : decode cX8_perform 77 = .ok (.return_, 1) := by decide +kernel
theorem dX9_agree_0 : decode cX9_agree 0 = .ok (.aload_n 0, 1) := by decide +kernel
theorem dX9_agree_1 : decode cX9_agree 1 = .ok (.getfield 24, 3) := by decide +kernel
theorem dX9_agree_4 : decode cX9_agree 4 = .ok (.getfield 100, 3) := by decide +kernel
theorem dX9_agree_7 : decode cX9_agree 7 = .ok (.iload_n 1, 1) := by decide +kernel
theorem dX9_agree_8 : decode cX9_agree 8 = .ok (.invokevirtual 127, 3) := by decide +kernel
theorem dX9_agree_11 : decode cX9_agree 11 = .ok (.ifCond .eq 17, 3) := by decide +kernel
theorem dX9_agree_14 : decode cX9_agree 14 = .ok (.aload_n 0, 1) := by decide +kernel
theorem dX9_agree_15 : decode cX9_agree 15 = .ok (.getfield 24, 3) := by decide +kernel
theorem dX9_agree_18 : decode cX9_agree 18 = .ok (.getfield 100, 3) := by decide +kernel
theorem dX9_agree_21 : decode cX9_agree 21 = .ok (.iload_n 2, 1) := by decide +kernel
theorem dX9_agree_22 : decode cX9_agree 22 = .ok (.invokevirtual 127, 3) := by decide +kernel
theorem dX9_agree_25 : decode cX9_agree 25 = .ok (.ifCond .ne 6, 3) := by decide +kernel
theorem dX9_agree_28 : decode cX9_agree 28 = .ok (.bipush (-2), 2) := by decide +kernel
theorem dX9_agree_30 : decode cX9_agree 30 = .ok (.ireturn, 1) := by decide +kernel
theorem dX9_agree_31 : decode cX9_agree 31 = .ok (.aload_n 0, 1) := by decide +kernel
theorem dX9_agree_32 : decode cX9_agree 32 = .ok (.iload_n 1, 1) := by decide +kernel
theorem dX9_agree_33 : decode cX9_agree 33 = .ok (.iload_n 2, 1) := by decide +kernel
theorem dX9_agree_34 : decode cX9_agree 34 = .ok (.invokevirtual 352, 3) := by decide +kernel
theorem dX9_agree_37 : decode cX9_agree 37 = .ok (.ireturn, 1) := by decide +kernel
theorem dX9_agreements_0 : decode cX9_agreements 0 = .ok (.iconst 0, 1) := by decide +kernel
theorem dX9_agreements_1 : decode cX9_agreements 1 = .ok (.istore_n 3, 1) := by decide +kernel
theorem dX9_agreements_2 : decode cX9_agreements 2 = .ok (.iconst 0, 1) := by decide +kernel
theorem dX9_agreements_3 : decode cX9_agreements 3 = .ok (.istore 4, 2) := by decide +kernel
theorem dX9_agreements_5 : decode cX9_agreements 5 = .ok (.iload 4, 2) := by decide +kernel
theorem dX9_agreements_7 : decode cX9_agreements 7 = .ok (.aload_n 0, 1) := by decide +kernel
theorem dX9_agreements_8 : decode cX9_agreements 8 = .ok (.getfield 24, 3) := by decide +kernel
theorem dX9_agreements_11 : decode cX9_agreements 11 = .ok (.getfield 100, 3) := by decide +kernel
theorem dX9_agreements_14 : decode cX9_agreements 14 = .ok (.getfield 273, 3) := by decide +kernel
theorem dX9_agreements_17 : decode cX9_agreements 17 = .ok (.if_icmp .ge 65, 3) := by decide +kernel
theorem dX9_agreements_20 : decode cX9_agreements 20 = .ok (.aload_n 0, 1) := by decide +kernel
theorem dX9_agreements_21 : decode cX9_agreements 21 = .ok (.getfield 24, 3) := by decide +kernel
theorem dX9_agreements_24 : decode cX9_agreements 24 = .ok (.getfield 130, 3) := by decide +kernel
theorem dX9_agreements_27 : decode cX9_agreements 27 = .ok (.aload_n 0, 1) := by decide +kernel
theorem dX9_agreements_28 : decode cX9_agreements 28 = .ok (.getfield 24, 3) := by decide +kernel
theorem dX9_agreements_31 : decode cX9_agreements 31 = .ok (.getfield 100, 3) := by decide +kernel
theorem dX9_agreements_34 : decode cX9_agreements 34 = .ok (.iload_n 1, 1) := by decide +kernel
theorem dX9_agreements_35 : decode cX9_agreements 35 = .ok (.iload 4, 2) := by decide +kernel
theorem dX9_agreements_37 : decode cX9_agreements 37 = .ok (.invokevirtual 344, 3) := by decide +kernel
theorem dX9_agreements_40 : decode cX9_agreements 40 = .ok (.istore 5, 2) := by decide +kernel
theorem dX9_agreements_42 : decode cX9_agreements 42 = .ok (.iload 5, 2) := by decide +kernel
theorem dX9_agreements_44 : decode cX9_agreements 44 = .ok (.iconst (-1), 1) := by decide +kernel
theorem dX9_agreements_45 : decode cX9_agreements 45 = .ok (.if_icmp .eq 31, 3) := by decide +kernel
theorem dX9_agreements_48 : decode cX9_agreements 48 = .ok (.aload_n 0, 1) := by decide +kernel
theorem dX9_agreements_49 : decode cX9_agreements 49 = .ok (.getfield 24, 3) := by decide +kernel
theorem dX9_agreements_52 : decode cX9_agreements 52 = .ok (.getfield 130, 3) := by decide +kernel
theorem dX9_agreements_55 : decode cX9_agreements 55 = .ok (.aload_n 0, 1) := by decide +kernel
theorem dX9_agreements_56 : decode cX9_agreements 56 = .ok (.getfield 24, 3) := by decide +kernel
theorem dX9_agreements_59 : decode cX9_agreements 59 = .ok (.getfield 100, 3) := by decide +kernel
theorem dX9_agreements_62 : decode cX9_agreements 62 = .ok (.iload_n 2, 1) := by decide +kernel
theorem dX9_agreements_63 : decode cX9_agreements 63 = .ok (.iload 4, 2) := by decide +kernel
theorem dX9_agreements_65 : decode cX9_agreements 65 = .ok (.invokevirtual 344, 3) := by decide +kernel
theorem dX9_agreements_68 : decode cX9_agreements 68 = .ok (.iload 5, 2) := by decide +kernel
theorem dX9_agreements_70 : decode cX9_agreements 70 = .ok (.if_icmp .ne 6, 3) := by decide +kernel
theorem dX9_agreements_73 : decode cX9_agreements 73 = .ok (.iinc 3 1, 3) := by decide +kernel
theorem dX9_agreements_76 : decode cX9_agreements 76 = .ok (.iinc 4 1, 3) := by decide +kernel
theorem dX9_agreements_79 : decode cX9_agreements 79 = .ok (.goto (-74), 3) := by decide +kernel
theorem dX9_agreements_82 : decode cX9_agreements 82 = .ok (.iload_n 3, 1) := by decide +kernel
theorem dX9_agreements_83 : decode cX9_agreements 83 = .ok (.ireturn, 1) := by decide +kernel
theorem dX9_anew_0 : decode cX9_anew 0 = .ok (.aload_n 0, 1) := by decide +kernel
theorem dX9_anew_1 : decode cX9_anew 1 = .ok (.getfield 24, 3) := by decide +kernel
theorem dX9_anew_4 : decode cX9_anew 4 = .ok (.getfield 100, 3) := by decide +kernel
theorem dX9_anew_7 : decode cX9_anew 7 = .ok (.invokevirtual 211, 3) := by decide +kernel
theorem dX9_anew_10 : decode cX9_anew 10 = .ok (.ifCond .ne 6, 3) := by decide +kernel
theorem dX9_anew_13 : decode cX9_anew 13 = .ok (.bipush (-2), 2) := by decide +kernel
theorem dX9_anew_15 : decode cX9_anew 15 = .ok (.ireturn, 1) := by decide +kernel
theorem dX9_anew_16 : decode cX9_anew 16 = .ok (.aload_n 0, 1) := by decide +kernel
theorem dX9_anew_17 : decode cX9_anew 17 = .ok (.getfield 24, 3) := by decide +kernel
theorem dX9_anew_20 : decode cX9_anew 20 = .ok (.getfield 214, 3) := by decide +kernel
theorem dX9_anew_23 : decode cX9_anew 23 = .ok (.istore_n 1, 1) := by decide +kernel
theorem dX9_anew_24 : decode cX9_anew 24 = .ok (.aload_n 0, 1) := by decide +kernel
theorem dX9_anew_25 : decode cX9_anew 25 = .ok (.getfield 24, 3) := by decide +kernel
theorem dX9_anew_28 : decode cX9_anew 28 = .ok (.iconst 0, 1) := by decide +kernel
theorem dX9_anew_29 : decode cX9_anew 29 = .ok (.invokevirtual 217, 3) := by decide +kernel
theorem dX9_anew_32 : decode cX9_anew 32 = .ok (.iload_n 1, 1) := by decide +kernel
theorem dX9_anew_33 : decode cX9_anew 33 = .ok (.ireturn, 1) := by decide +kernel
theorem dX9_argue_0 : decode cX9_argue 0 = .ok (.aload_n 0, 1) := by decide +kernel
theorem dX9_argue_1 : decode cX9_argue 1 = .ok (.iload_n 1, 1) := by decide +kernel
theorem dX9_argue_2 : decode cX9_argue 2 = .ok (.iload_n 2, 1) := by decide +kernel
theorem dX9_argue_3 : decode cX9_argue 3 = .ok (.invokevirtual 191, 3) := by decide +kernel
theorem dX9_argue_6 : decode cX9_argue 6 = .ok (.ifCond .ne 6, 3) := by decide +kernel
theorem dX9_argue_9 : decode cX9_argue 9 = .ok (.bipush (-2), 2) := by decide +kernel
theorem dX9_argue_11 : decode cX9_argue 11 = .ok (.ireturn, 1) := by decide +kernel
theorem dX9_argue_12 : decode cX9_argue 12 = .ok (.aload_n 0, 1) := by decide +kernel
theorem dX9_argue_13 : decode cX9_argue 13 = .ok (.getfield 24, 3) := by decide +kernel
theorem dX9_argue_16 : decode cX9_argue 16 = .ok (.getfield 130, 3) := by decide +kernel
theorem dX9_argue_19 : decode cX9_argue 19 = .ok (.iload_n 1, 1) := by decide +kernel
theorem dX9_argue_20 : decode cX9_argue 20 = .ok (.invokevirtual 153, 3) := by decide +kernel
theorem dX9_argue_23 : decode cX9_argue 23 = .ok (.istore_n 3, 1) := by decide +kernel
theorem dX9_argue_24 : decode cX9_argue 24 = .ok (.aload_n 0, 1) := by decide +kernel
theorem dX9_argue_25 : decode cX9_argue 25 = .ok (.getfield 24, 3) := by decide +kernel
theorem dX9_argue_28 : decode cX9_argue 28 = .ok (.getfield 130, 3) := by decide +kernel
theorem dX9_argue_31 : decode cX9_argue 31 = .ok (.aload_n 0, 1) := by decide +kernel
theorem dX9_argue_32 : decode cX9_argue 32 = .ok (.getfield 24, 3) := by decide +kernel
theorem dX9_argue_35 : decode cX9_argue 35 = .ok (.getfield 100, 3) := by decide +kernel
theorem dX9_argue_38 : decode cX9_argue 38 = .ok (.iload_n 3, 1) := by decide +kernel
theorem dX9_argue_39 : decode cX9_argue 39 = .ok (.aload_n 0, 1) := by decide +kernel
theorem dX9_argue_40 : decode cX9_argue 40 = .ok (.getfield 24, 3) := by decide +kernel
theorem dX9_argue_43 : decode cX9_argue 43 = .ok (.getfield 130, 3) := by decide +kernel
theorem dX9_argue_46 : decode cX9_argue 46 = .ok (.getfield 150, 3) := by decide +kernel
theorem dX9_argue_49 : decode cX9_argue 49 = .ok (.iload_n 1, 1) := by decide +kernel
theorem dX9_argue_50 : decode cX9_argue 50 = .ok (.iaload, 1) := by decide +kernel
theorem dX9_argue_51 : decode cX9_argue 51 = .ok (.invokevirtual 194, 3) := by decide +kernel
theorem dX9_argue_54 : decode cX9_argue 54 = .ok (.istore 4, 2) := by decide +kernel
theorem dX9_argue_56 : decode cX9_argue 56 = .ok (.iconst 0, 1) := by decide +kernel
theorem dX9_argue_57 : decode cX9_argue 57 = .ok (.istore 5, 2) := by decide +kernel
theorem dX9_argue_59 : decode cX9_argue 59 = .ok (.iload 5, 2) := by decide +kernel
theorem dX9_argue_61 : decode cX9_argue 61 = .ok (.bipush 40, 2) := by decide +kernel
theorem dX9_argue_63 : decode cX9_argue 63 = .ok (.if_icmp .gt 32, 3) := by decide +kernel
theorem dX9_argue_66 : decode cX9_argue 66 = .ok (.aload_n 0, 1) := by decide +kernel
theorem dX9_argue_67 : decode cX9_argue 67 = .ok (.getfield 24, 3) := by decide +kernel
theorem dX9_argue_70 : decode cX9_argue 70 = .ok (.getfield 130, 3) := by decide +kernel
theorem dX9_argue_73 : decode cX9_argue 73 = .ok (.iload_n 3, 1) := by decide +kernel
theorem dX9_argue_74 : decode cX9_argue 74 = .ok (.iload 4, 2) := by decide +kernel
theorem dX9_argue_76 : decode cX9_argue 76 = .ok (.iload_n 2, 1) := by decide +kernel
theorem dX9_argue_77 : decode cX9_argue 77 = .ok (.iload 5, 2) := by decide +kernel
theorem dX9_argue_79 : decode cX9_argue 79 = .ok (.invokevirtual 197, 3) := by decide +kernel
theorem dX9_argue_82 : decode cX9_argue 82 = .ok (.iload_n 2, 1) := by decide +kernel
theorem dX9_argue_83 : decode cX9_argue 83 = .ok (.if_icmp .ne 6, 3) := by decide +kernel
theorem dX9_argue_86 : decode cX9_argue 86 = .ok (.iload 5, 2) := by decide +kernel
theorem dX9_argue_88 : decode cX9_argue 88 = .ok (.ireturn, 1) := by decide +kernel
theorem dX9_argue_89 : decode cX9_argue 89 = .ok (.iinc 5 1, 3) := by decide +kernel
theorem dX9_argue_92 : decode cX9_argue 92 = .ok (.goto (-33), 3) := by decide +kernel
theorem dX9_argue_95 : decode cX9_argue 95 = .ok (.iconst (-1), 1) := by decide +kernel
theorem dX9_argue_96 : decode cX9_argue 96 = .ok (.ireturn, 1) := by decide +kernel
theorem dX9_aside_0 : decode cX9_aside 0 = .ok (.aload_n 0, 1) := by decide +kernel
theorem dX9_aside_1 : decode cX9_aside 1 = .ok (.getfield 24, 3) := by decide +kernel
theorem dX9_aside_4 : decode cX9_aside 4 = .ok (.getfield 100, 3) := by decide +kernel
theorem dX9_aside_7 : decode cX9_aside 7 = .ok (.iload_n 1, 1) := by decide +kernel
theorem dX9_aside_8 : decode cX9_aside 8 = .ok (.invokevirtual 147, 3) := by decide +kernel
theorem dX9_aside_11 : decode cX9_aside 11 = .ok (.ifCond .ne 6, 3) := by decide +kernel
theorem dX9_aside_14 : decode cX9_aside 14 = .ok (.bipush (-2), 2) := by decide +kernel
theorem dX9_aside_16 : decode cX9_aside 16 = .ok (.ireturn, 1) := by decide +kernel
theorem dX9_aside_17 : decode cX9_aside 17 = .ok (.iconst 0, 1) := by decide +kernel
theorem dX9_aside_18 : decode cX9_aside 18 = .ok (.istore_n 2, 1) := by decide +kernel
theorem dX9_aside_19 : decode cX9_aside 19 = .ok (.iconst 0, 1) := by decide +kernel
theorem dX9_aside_20 : decode cX9_aside 20 = .ok (.istore_n 3, 1) := by decide +kernel
theorem dX9_aside_21 : decode cX9_aside 21 = .ok (.iload_n 3, 1) := by decide +kernel
theorem dX9_aside_22 : decode cX9_aside 22 = .ok (.aload_n 0, 1) := by decide +kernel
theorem dX9_aside_23 : decode cX9_aside 23 = .ok (.getfield 24, 3) := by decide +kernel
theorem dX9_aside_26 : decode cX9_aside 26 = .ok (.getfield 100, 3) := by decide +kernel
theorem dX9_aside_29 : decode cX9_aside 29 = .ok (.getfield 188, 3) := by decide +kernel
theorem dX9_aside_32 : decode cX9_aside 32 = .ok (.if_icmp .ge 47, 3) := by decide +kernel
theorem dX9_aside_35 : decode cX9_aside 35 = .ok (.aload_n 0, 1) := by decide +kernel
theorem dX9_aside_36 : decode cX9_aside 36 = .ok (.iload_n 1, 1) := by decide +kernel
theorem dX9_aside_37 : decode cX9_aside 37 = .ok (.iload_n 3, 1) := by decide +kernel
theorem dX9_aside_38 : decode cX9_aside 38 = .ok (.invokevirtual 191, 3) := by decide +kernel
theorem dX9_aside_41 : decode cX9_aside 41 = .ok (.ifCond .eq 32, 3) := by decide +kernel
theorem dX9_aside_44 : decode cX9_aside 44 = .ok (.aload_n 0, 1) := by decide +kernel
theorem dX9_aside_45 : decode cX9_aside 45 = .ok (.getfield 24, 3) := by decide +kernel
theorem dX9_aside_48 : decode cX9_aside 48 = .ok (.getfield 130, 3) := by decide +kernel
theorem dX9_aside_51 : decode cX9_aside 51 = .ok (.aload_n 0, 1) := by decide +kernel
theorem dX9_aside_52 : decode cX9_aside 52 = .ok (.getfield 24, 3) := by decide +kernel
theorem dX9_aside_55 : decode cX9_aside 55 = .ok (.getfield 100, 3) := by decide +kernel
theorem dX9_aside_58 : decode cX9_aside 58 = .ok (.iload_n 1, 1) := by decide +kernel
theorem dX9_aside_59 : decode cX9_aside 59 = .ok (.iload_n 3, 1) := by decide +kernel
theorem dX9_aside_60 : decode cX9_aside 60 = .ok (.invokevirtual 184, 3) := by decide +kernel
theorem dX9_aside_63 : decode cX9_aside 63 = .ok (.iload_n 3, 1) := by decide +kernel
theorem dX9_aside_64 : decode cX9_aside 64 = .ok (.if_icmp .eq 9, 3) := by decide +kernel
theorem dX9_aside_67 : decode cX9_aside 67 = .ok (.iload_n 2, 1) := by decide +kernel
theorem dX9_aside_68 : decode cX9_aside 68 = .ok (.iconst 1, 1) := by decide +kernel
theorem dX9_aside_69 : decode cX9_aside 69 = .ok (.iload_n 3, 1) := by decide +kernel
theorem dX9_aside_70 : decode cX9_aside 70 = .ok (.ishl, 1) := by decide +kernel
theorem dX9_aside_71 : decode cX9_aside 71 = .ok (.ior, 1) := by decide +kernel
theorem dX9_aside_72 : decode cX9_aside 72 = .ok (.istore_n 2, 1) := by decide +kernel
theorem dX9_aside_73 : decode cX9_aside 73 = .ok (.iinc 3 1, 3) := by decide +kernel
theorem dX9_aside_76 : decode cX9_aside 76 = .ok (.goto (-55), 3) := by decide +kernel
theorem dX9_aside_79 : decode cX9_aside 79 = .ok (.iload_n 2, 1) := by decide +kernel
theorem dX9_aside_80 : decode cX9_aside 80 = .ok (.ireturn, 1) := by decide +kernel
theorem dX9_ask_0 : decode cX9_ask 0 = .ok (.aload_n 0, 1) := by decide +kernel
theorem dX9_ask_1 : decode cX9_ask 1 = .ok (.iload_n 1, 1) := by decide +kernel
theorem dX9_ask_2 : decode cX9_ask 2 = .ok (.invokevirtual 332, 3) := by decide +kernel
theorem dX9_ask_5 : decode cX9_ask 5 = .ok (.istore_n 2, 1) := by decide +kernel
theorem dX9_ask_6 : decode cX9_ask 6 = .ok (.iload_n 2, 1) := by decide +kernel
theorem dX9_ask_7 : decode cX9_ask 7 = .ok (.ifCond .ge 7, 3) := by decide +kernel
theorem dX9_ask_10 : decode cX9_ask 10 = .ok (.iload_n 2, 1) := by decide +kernel
theorem dX9_ask_11 : decode cX9_ask 11 = .ok (.goto 8, 3) := by decide +kernel
theorem dX9_ask_14 : decode cX9_ask 14 = .ok (.aload_n 0, 1) := by decide +kernel
theorem dX9_ask_15 : decode cX9_ask 15 = .ok (.iload_n 2, 1) := by decide +kernel
theorem dX9_ask_16 : decode cX9_ask 16 = .ok (.invokevirtual 335, 3) := by decide +kernel
theorem dX9_ask_19 : decode cX9_ask 19 = .ok (.ireturn, 1) := by decide +kernel
theorem dX9_astray_0 : decode cX9_astray 0 = .ok (.aload_n 0, 1) := by decide +kernel
theorem dX9_astray_1 : decode cX9_astray 1 = .ok (.iload_n 1, 1) := by decide +kernel
theorem dX9_astray_2 : decode cX9_astray 2 = .ok (.iload_n 2, 1) := by decide +kernel
theorem dX9_astray_3 : decode cX9_astray 3 = .ok (.invokevirtual 220, 3) := by decide +kernel
theorem dX9_astray_6 : decode cX9_astray 6 = .ok (.istore_n 3, 1) := by decide +kernel
theorem dX9_astray_7 : decode cX9_astray 7 = .ok (.iload_n 3, 1) := by decide +kernel
theorem dX9_astray_8 : decode cX9_astray 8 = .ok (.ifCond .eq 7, 3) := by decide +kernel
theorem dX9_astray_11 : decode cX9_astray 11 = .ok (.iload_n 3, 1) := by decide +kernel
theorem dX9_astray_12 : decode cX9_astray 12 = .ok (.goto 10, 3) := by decide +kernel
theorem dX9_astray_15 : decode cX9_astray 15 = .ok (.aload_n 0, 1) := by decide +kernel
theorem dX9_astray_16 : decode cX9_astray 16 = .ok (.getfield 53, 3) := by decide +kernel
theorem dX9_astray_19 : decode cX9_astray 19 = .ok (.getfield 232, 3) := by decide +kernel
theorem dX9_astray_22 : decode cX9_astray 22 = .ok (.ireturn, 1) := by decide +kernel
theorem dX9_back_0 : decode cX9_back 0 = .ok (.iload_n 1, 1) := by decide +kernel
theorem dX9_back_1 : decode cX9_back 1 = .ok (.ifCond .lt 8, 3) := by decide +kernel
theorem dX9_back_4 : decode cX9_back 4 = .ok (.iload_n 1, 1) := by decide +kernel
theorem dX9_back_5 : decode cX9_back 5 = .ok (.iconst 3, 1) := by decide +kernel
theorem dX9_back_6 : decode cX9_back 6 = .ok (.if_icmp .lt 6, 3) := by decide +kernel
theorem dX9_back_9 : decode cX9_back 9 = .ok (.bipush (-2), 2) := by decide +kernel
theorem dX9_back_11 : decode cX9_back 11 = .ok (.ireturn, 1) := by decide +kernel
theorem dX9_back_12 : decode cX9_back 12 = .ok (.aload_n 0, 1) := by decide +kernel
theorem dX9_back_13 : decode cX9_back 13 = .ok (.getfield 32, 3) := by decide +kernel
theorem dX9_back_16 : decode cX9_back 16 = .ok (.iload_n 1, 1) := by decide +kernel
theorem dX9_back_17 : decode cX9_back 17 = .ok (.baload, 1) := by decide +kernel
theorem dX9_back_18 : decode cX9_back 18 = .ok (.ifCond .ne 6, 3) := by decide +kernel
theorem dX9_back_21 : decode cX9_back 21 = .ok (.bipush (-6), 2) := by decide +kernel
theorem dX9_back_23 : decode cX9_back 23 = .ok (.ireturn, 1) := by decide +kernel
theorem dX9_back_24 : decode cX9_back 24 = .ok (.aload_n 0, 1) := by decide +kernel
theorem dX9_back_25 : decode cX9_back 25 = .ok (.getfield 24, 3) := by decide +kernel
theorem dX9_back_28 : decode cX9_back 28 = .ok (.aload_n 0, 1) := by decide +kernel
theorem dX9_back_29 : decode cX9_back 29 = .ok (.getfield 28, 3) := by decide +kernel
theorem dX9_back_32 : decode cX9_back 32 = .ok (.iload_n 1, 1) := by decide +kernel
theorem dX9_back_33 : decode cX9_back 33 = .ok (.aaload, 1) := by decide +kernel
theorem dX9_back_34 : decode cX9_back 34 = .ok (.invokevirtual 413, 3) := by decide +kernel
theorem dX9_back_37 : decode cX9_back 37 = .ok (.iconst 0, 1) := by decide +kernel
theorem dX9_back_38 : decode cX9_back 38 = .ok (.ireturn, 1) := by decide +kernel
theorem dX9_blind_0 : decode cX9_blind 0 = .ok (.aload_n 0, 1) := by decide +kernel
theorem dX9_blind_1 : decode cX9_blind 1 = .ok (.iload_n 1, 1) := by decide +kernel
theorem dX9_blind_2 : decode cX9_blind 2 = .ok (.iload_n 2, 1) := by decide +kernel
theorem dX9_blind_3 : decode cX9_blind 3 = .ok (.invokevirtual 191, 3) := by decide +kernel
theorem dX9_blind_6 : decode cX9_blind 6 = .ok (.ifCond .ne 6, 3) := by decide +kernel
theorem dX9_blind_9 : decode cX9_blind 9 = .ok (.bipush (-2), 2) := by decide +kernel
theorem dX9_blind_11 : decode cX9_blind 11 = .ok (.ireturn, 1) := by decide +kernel
theorem dX9_blind_12 : decode cX9_blind 12 = .ok (.aload_n 0, 1) := by decide +kernel
theorem dX9_blind_13 : decode cX9_blind 13 = .ok (.iload_n 1, 1) := by decide +kernel
theorem dX9_blind_14 : decode cX9_blind 14 = .ok (.iload_n 2, 1) := by decide +kernel
theorem dX9_blind_15 : decode cX9_blind 15 = .ok (.invokevirtual 358, 3) := by decide +kernel
theorem dX9_blind_18 : decode cX9_blind 18 = .ok (.istore_n 3, 1) := by decide +kernel
theorem dX9_blind_19 : decode cX9_blind 19 = .ok (.iload_n 3, 1) := by decide +kernel
theorem dX9_blind_20 : decode cX9_blind 20 = .ok (.iconst (-1), 1) := by decide +kernel
theorem dX9_blind_21 : decode cX9_blind 21 = .ok (.if_icmp .ne 7, 3) := by decide +kernel
theorem dX9_blind_24 : decode cX9_blind 24 = .ok (.iconst (-1), 1) := by decide +kernel
theorem dX9_blind_25 : decode cX9_blind 25 = .ok (.goto 7, 3) := by decide +kernel
theorem dX9_blind_28 : decode cX9_blind 28 = .ok (.iload_n 3, 1) := by decide +kernel
theorem dX9_blind_29 : decode cX9_blind 29 = .ok (.invokestatic 303, 3) := by decide +kernel
theorem dX9_blind_32 : decode cX9_blind 32 = .ok (.ireturn, 1) := by decide +kernel
theorem dX9_blinds_0 : decode cX9_blinds 0 = .ok (.aload_n 0, 1) := by decide +kernel
theorem dX9_blinds_1 : decode cX9_blinds 1 = .ok (.iload_n 1, 1) := by decide +kernel
theorem dX9_blinds_2 : decode cX9_blinds 2 = .ok (.iload_n 2, 1) := by decide +kernel
theorem dX9_blinds_3 : decode cX9_blinds 3 = .ok (.invokevirtual 191, 3) := by decide +kernel
theorem dX9_blinds_6 : decode cX9_blinds 6 = .ok (.ifCond .eq 12, 3) := by decide +kernel
theorem dX9_blinds_9 : decode cX9_blinds 9 = .ok (.aload_n 0, 1) := by decide +kernel
theorem dX9_blinds_10 : decode cX9_blinds 10 = .ok (.iload_n 1, 1) := by decide +kernel
theorem dX9_blinds_11 : decode cX9_blinds 11 = .ok (.iload_n 2, 1) := by decide +kernel
theorem dX9_blinds_12 : decode cX9_blinds 12 = .ok (.invokevirtual 358, 3) := by decide +kernel
theorem dX9_blinds_15 : decode cX9_blinds 15 = .ok (.goto 5, 3) := by decide +kernel
theorem dX9_blinds_18 : decode cX9_blinds 18 = .ok (.bipush (-2), 2) := by decide +kernel
theorem dX9_blinds_20 : decode cX9_blinds 20 = .ok (.ireturn, 1) := by decide +kernel
theorem dX9_canDraw_0 : decode cX9_canDraw 0 = .ok (.iload_n 1, 1) := by decide +kernel
theorem dX9_canDraw_1 : decode cX9_canDraw 1 = .ok (.ifCond .lt 38, 3) := by decide +kernel
theorem dX9_canDraw_4 : decode cX9_canDraw 4 = .ok (.iload_n 1, 1) := by decide +kernel
theorem dX9_canDraw_5 : decode cX9_canDraw 5 = .ok (.ldc_w 386, 3) := by decide +kernel
theorem dX9_canDraw_8 : decode cX9_canDraw 8 = .ok (.if_icmp .gt 31, 3) := by decide +kernel
theorem dX9_canDraw_11 : decode cX9_canDraw 11 = .ok (.aload_n 0, 1) := by decide +kernel
theorem dX9_canDraw_12 : decode cX9_canDraw 12 = .ok (.getfield 24, 3) := by decide +kernel
theorem dX9_canDraw_15 : decode cX9_canDraw 15 = .ok (.getfield 100, 3) := by decide +kernel
theorem dX9_canDraw_18 : decode cX9_canDraw 18 = .ok (.iload_n 2, 1) := by decide +kernel
theorem dX9_canDraw_19 : decode cX9_canDraw 19 = .ok (.invokevirtual 147, 3) := by decide +kernel
theorem dX9_canDraw_22 : decode cX9_canDraw 22 = .ok (.ifCond .eq 17, 3) := by decide +kernel
theorem dX9_canDraw_25 : decode cX9_canDraw 25 = .ok (.iload_n 3, 1) := by decide +kernel
theorem dX9_canDraw_26 : decode cX9_canDraw 26 = .ok (.ifCond .lt 13, 3) := by decide +kernel
theorem dX9_canDraw_29 : decode cX9_canDraw 29 = .ok (.iload_n 3, 1) := by decide +kernel
theorem dX9_canDraw_30 : decode cX9_canDraw 30 = .ok (.bipush 40, 2) := by decide +kernel
theorem dX9_canDraw_32 : decode cX9_canDraw 32 = .ok (.if_icmp .gt 7, 3) := by decide +kernel
theorem dX9_canDraw_35 : decode cX9_canDraw 35 = .ok (.iconst 1, 1) := by decide +kernel
theorem dX9_canDraw_36 : decode cX9_canDraw 36 = .ok (.goto 4, 3) := by decide +kernel
theorem dX9_canDraw_39 : decode cX9_canDraw 39 = .ok (.iconst 0, 1) := by decide +kernel
theorem dX9_canDraw_40 : decode cX9_canDraw 40 = .ok (.ireturn, 1) := by decide +kernel
theorem dX9_canWant_0 : decode cX9_canWant 0 = .ok (.aload_n 0, 1) := by decide +kernel
theorem dX9_canWant_1 : decode cX9_canWant 1 = .ok (.getfield 24, 3) := by decide +kernel
theorem dX9_canWant_4 : decode cX9_canWant 4 = .ok (.getfield 100, 3) := by decide +kernel
theorem dX9_canWant_7 : decode cX9_canWant 7 = .ok (.iload_n 1, 1) := by decide +kernel
theorem dX9_canWant_8 : decode cX9_canWant 8 = .ok (.invokevirtual 147, 3) := by decide +kernel
theorem dX9_canWant_11 : decode cX9_canWant 11 = .ok (.ifCond .eq 21, 3) := by decide +kernel
theorem dX9_canWant_14 : decode cX9_canWant 14 = .ok (.iload_n 2, 1) := by decide +kernel
theorem dX9_canWant_15 : decode cX9_canWant 15 = .ok (.iconst (-1), 1) := by decide +kernel
theorem dX9_canWant_16 : decode cX9_canWant 16 = .ok (.if_icmp .eq 12, 3) := by decide +kernel
theorem dX9_canWant_19 : decode cX9_canWant 19 = .ok (.aload_n 0, 1) := by decide +kernel
theorem dX9_canWant_20 : decode cX9_canWant 20 = .ok (.iload_n 1, 1) := by decide +kernel
theorem dX9_canWant_21 : decode cX9_canWant 21 = .ok (.iload_n 2, 1) := by decide +kernel
theorem dX9_canWant_22 : decode cX9_canWant 22 = .ok (.invokevirtual 191, 3) := by decide +kernel
theorem dX9_canWant_25 : decode cX9_canWant 25 = .ok (.ifCond .eq 7, 3) := by decide +kernel
theorem dX9_canWant_28 : decode cX9_canWant 28 = .ok (.iconst 1, 1) := by decide +kernel
theorem dX9_canWant_29 : decode cX9_canWant 29 = .ok (.goto 4, 3) := by decide +kernel
theorem dX9_canWant_32 : decode cX9_canWant 32 = .ok (.iconst 0, 1) := by decide +kernel
theorem dX9_canWant_33 : decode cX9_canWant 33 = .ok (.ireturn, 1) := by decide +kernel
theorem dX9_cart_0 : decode cX9_cart 0 = .ok (.aload_n 0, 1) := by decide +kernel
theorem dX9_cart_1 : decode cX9_cart 1 = .ok (.getfield 24, 3) := by decide +kernel
theorem dX9_cart_4 : decode cX9_cart 4 = .ok (.getfield 100, 3) := by decide +kernel
theorem dX9_cart_7 : decode cX9_cart 7 = .ok (.iload_n 1, 1) := by decide +kernel
theorem dX9_cart_8 : decode cX9_cart 8 = .ok (.invokevirtual 147, 3) := by decide +kernel
theorem dX9_cart_11 : decode cX9_cart 11 = .ok (.ifCond .ne 6, 3) := by decide +kernel
theorem dX9_cart_14 : decode cX9_cart 14 = .ok (.bipush (-2), 2) := by decide +kernel
theorem dX9_cart_16 : decode cX9_cart 16 = .ok (.ireturn, 1) := by decide +kernel
theorem dX9_cart_17 : decode cX9_cart 17 = .ok (.iload_n 2, 1) := by decide +kernel
theorem dX9_cart_18 : decode cX9_cart 18 = .ok (.tableswitch 64 0 2 #[26, 39, 51], 26) := by decide +kernel
theorem dX9_cart_44 : decode cX9_cart 44 = .ok (.aload_n 0, 1) := by decide +kernel
theorem dX9_cart_45 : decode cX9_cart 45 = .ok (.getfield 24, 3) := by decide +kernel
theorem dX9_cart_48 : decode cX9_cart 48 = .ok (.getfield 130, 3) := by decide +kernel
theorem dX9_cart_51 : decode cX9_cart 51 = .ok (.getfield 150, 3) := by decide +kernel
theorem dX9_cart_54 : decode cX9_cart 54 = .ok (.iload_n 1, 1) := by decide +kernel
theorem dX9_cart_55 : decode cX9_cart 55 = .ok (.iaload, 1) := by decide +kernel
theorem dX9_cart_56 : decode cX9_cart 56 = .ok (.ireturn, 1) := by decide +kernel
theorem dX9_cart_57 : decode cX9_cart 57 = .ok (.aload_n 0, 1) := by decide +kernel
theorem dX9_cart_58 : decode cX9_cart 58 = .ok (.getfield 24, 3) := by decide +kernel
theorem dX9_cart_61 : decode cX9_cart 61 = .ok (.getfield 130, 3) := by decide +kernel
theorem dX9_cart_64 : decode cX9_cart 64 = .ok (.iload_n 1, 1) := by decide +kernel
theorem dX9_cart_65 : decode cX9_cart 65 = .ok (.invokevirtual 153, 3) := by decide +kernel
theorem dX9_cart_68 : decode cX9_cart 68 = .ok (.ireturn, 1) := by decide +kernel
theorem dX9_cart_69 : decode cX9_cart 69 = .ok (.aload_n 0, 1) := by decide +kernel
theorem dX9_cart_70 : decode cX9_cart 70 = .ok (.getfield 24, 3) := by decide +kernel
theorem dX9_cart_73 : decode cX9_cart 73 = .ok (.getfield 130, 3) := by decide +kernel
theorem dX9_cart_76 : decode cX9_cart 76 = .ok (.getfield 156, 3) := by decide +kernel
theorem dX9_cart_79 : decode cX9_cart 79 = .ok (.iload_n 1, 1) := by decide +kernel
theorem dX9_cart_80 : decode cX9_cart 80 = .ok (.iaload, 1) := by decide +kernel
theorem dX9_cart_81 : decode cX9_cart 81 = .ok (.ireturn, 1) := by decide +kernel
theorem dX9_cart_82 : decode cX9_cart 82 = .ok (.bipush (-2), 2) := by decide +kernel
theorem dX9_cart_84 : decode cX9_cart 84 = .ok (.ireturn, 1) := by decide +kernel
theorem dX9_choose_0 : decode cX9_choose 0 = .ok (.aload_n 0, 1) := by decide +kernel
theorem dX9_choose_1 : decode cX9_choose 1 = .ok (.getfield 24, 3) := by decide +kernel
theorem dX9_choose_4 : decode cX9_choose 4 = .ok (.getfield 100, 3) := by decide +kernel
theorem dX9_choose_7 : decode cX9_choose 7 = .ok (.iload_n 1, 1) := by decide +kernel
theorem dX9_choose_8 : decode cX9_choose 8 = .ok (.invokevirtual 147, 3) := by decide +kernel
theorem dX9_choose_11 : decode cX9_choose 11 = .ok (.ifCond .eq 17, 3) := by decide +kernel
theorem dX9_choose_14 : decode cX9_choose 14 = .ok (.aload_n 0, 1) := by decide +kernel
theorem dX9_choose_15 : decode cX9_choose 15 = .ok (.getfield 24, 3) := by decide +kernel
theorem dX9_choose_18 : decode cX9_choose 18 = .ok (.getfield 100, 3) := by decide +kernel
theorem dX9_choose_21 : decode cX9_choose 21 = .ok (.iload_n 2, 1) := by decide +kernel
theorem dX9_choose_22 : decode cX9_choose 22 = .ok (.invokevirtual 171, 3) := by decide +kernel
theorem dX9_choose_25 : decode cX9_choose 25 = .ok (.ifCond .ne 6, 3) := by decide +kernel
theorem dX9_choose_28 : decode cX9_choose 28 = .ok (.bipush (-2), 2) := by decide +kernel
theorem dX9_choose_30 : decode cX9_choose 30 = .ok (.ireturn, 1) := by decide +kernel
theorem dX9_choose_31 : decode cX9_choose 31 = .ok (.aload_n 0, 1) := by decide +kernel
theorem dX9_choose_32 : decode cX9_choose 32 = .ok (.iload_n 1, 1) := by decide +kernel
theorem dX9_choose_33 : decode cX9_choose 33 = .ok (.iload_n 2, 1) := by decide +kernel
theorem dX9_choose_34 : decode cX9_choose 34 = .ok (.invokevirtual 287, 3) := by decide +kernel
theorem dX9_choose_37 : decode cX9_choose 37 = .ok (.pop, 1) := by decide +kernel
theorem dX9_choose_38 : decode cX9_choose 38 = .ok (.aload_n 0, 1) := by decide +kernel
theorem dX9_choose_39 : decode cX9_choose 39 = .ok (.getfield 60, 3) := by decide +kernel
theorem dX9_choose_42 : decode cX9_choose 42 = .ok (.invokevirtual 290, 3) := by decide +kernel
theorem dX9_choose_45 : decode cX9_choose 45 = .ok (.ireturn, 1) := by decide +kernel
theorem dX9_chooseWheels_0 : decode cX9_chooseWheels 0 = .ok (.aload_n 0, 1) := by decide +kernel
theorem dX9_chooseWheels_1 : decode cX9_chooseWheels 1 = .ok (.getfield 24, 3) := by decide +kernel
theorem dX9_chooseWheels_4 : decode cX9_chooseWheels 4 = .ok (.getfield 130, 3) := by decide +kernel
theorem dX9_chooseWheels_7 : decode cX9_chooseWheels 7 = .ok (.iload_n 1, 1) := by decide +kernel
theorem dX9_chooseWheels_8 : decode cX9_chooseWheels 8 = .ok (.invokevirtual 153, 3) := by decide +kernel
theorem dX9_chooseWheels_11 : decode cX9_chooseWheels 11 = .ok (.istore_n 3, 1) := by decide +kernel
theorem dX9_chooseWheels_12 : decode cX9_chooseWheels 12 = .ok (.iload_n 3, 1) := by decide +kernel
theorem dX9_chooseWheels_13 : decode cX9_chooseWheels 13 = .ok (.aload_n 0, 1) := by decide +kernel
theorem dX9_chooseWheels_14 : decode cX9_chooseWheels 14 = .ok (.invokevirtual 300, 3) := by decide +kernel
theorem dX9_chooseWheels_17 : decode cX9_chooseWheels 17 = .ok (.ior, 1) := by decide +kernel
theorem dX9_chooseWheels_18 : decode cX9_chooseWheels 18 = .ok (.istore 4, 2) := by decide +kernel
theorem dX9_chooseWheels_20 : decode cX9_chooseWheels 20 = .ok (.iload_n 3, 1) := by decide +kernel
theorem dX9_chooseWheels_21 : decode cX9_chooseWheels 21 = .ok (.invokestatic 303, 3) := by decide +kernel
theorem dX9_chooseWheels_24 : decode cX9_chooseWheels 24 = .ok (.istore 5, 2) := by decide +kernel
theorem dX9_chooseWheels_26 : decode cX9_chooseWheels 26 = .ok (.iconst (-1), 1) := by decide +kernel
theorem dX9_chooseWheels_27 : decode cX9_chooseWheels 27 = .ok (.istore 6, 2) := by decide +kernel
theorem dX9_chooseWheels_29 : decode cX9_chooseWheels 29 = .ok (.ldc_w 283, 3) := by decide +kernel
theorem dX9_chooseWheels_32 : decode cX9_chooseWheels 32 = .ok (.istore 7, 2) := by decide +kernel
theorem dX9_chooseWheels_34 : decode cX9_chooseWheels 34 = .ok (.aload_n 0, 1) := by decide +kernel
theorem dX9_chooseWheels_35 : decode cX9_chooseWheels 35 = .ok (.getfield 60, 3) := by decide +kernel
theorem dX9_chooseWheels_38 : decode cX9_chooseWheels 38 = .ok (.aload_n 0, 1) := by decide +kernel
theorem dX9_chooseWheels_39 : decode cX9_chooseWheels 39 = .ok (.getfield 24, 3) := by decide +kernel
theorem dX9_chooseWheels_42 : decode cX9_chooseWheels 42 = .ok (.getfield 100, 3) := by decide +kernel
theorem dX9_chooseWheels_45 : decode cX9_chooseWheels 45 = .ok (.iload_n 1, 1) := by decide +kernel
theorem dX9_chooseWheels_46 : decode cX9_chooseWheels 46 = .ok (.iload_n 2, 1) := by decide +kernel
theorem dX9_chooseWheels_47 : decode cX9_chooseWheels 47 = .ok (.invokevirtual 276, 3) := by decide +kernel
theorem dX9_chooseWheels_50 : decode cX9_chooseWheels 50 = .ok (.iconst 1, 1) := by decide +kernel
theorem dX9_chooseWheels_51 : decode cX9_chooseWheels 51 = .ok (.istore 8, 2) := by decide +kernel
theorem dX9_chooseWheels_53 : decode cX9_chooseWheels 53 = .ok (.iload 8, 2) := by decide +kernel
theorem dX9_chooseWheels_55 : decode cX9_chooseWheels 55 = .ok (.sipush 256, 3) := by decide +kernel
theorem dX9_chooseWheels_58 : decode cX9_chooseWheels 58 = .ok (.if_icmp .ge 98, 3) := by decide +kernel
theorem dX9_chooseWheels_61 : decode cX9_chooseWheels 61 = .ok (.iload 8, 2) := by decide +kernel
theorem dX9_chooseWheels_63 : decode cX9_chooseWheels 63 = .ok (.iload 4, 2) := by decide +kernel
theorem dX9_chooseWheels_65 : decode cX9_chooseWheels 65 = .ok (.iconst (-1), 1) := by decide +kernel
theorem dX9_chooseWheels_66 : decode cX9_chooseWheels 66 = .ok (.ixor, 1) := by decide +kernel
theorem dX9_chooseWheels_67 : decode cX9_chooseWheels 67 = .ok (.iand, 1) := by decide +kernel
theorem dX9_chooseWheels_68 : decode cX9_chooseWheels 68 = .ok (.ifCond .ne 82, 3) := by decide +kernel
theorem dX9_chooseWheels_71 : decode cX9_chooseWheels 71 = .ok (.iload 8, 2) := by decide +kernel
theorem dX9_chooseWheels_73 : decode cX9_chooseWheels 73 = .ok (.invokestatic 303, 3) := by decide +kernel
theorem dX9_chooseWheels_76 : decode cX9_chooseWheels 76 = .ok (.iload 5, 2) := by decide +kernel
theorem dX9_chooseWheels_78 : decode cX9_chooseWheels 78 = .ok (.if_icmp .ne 72, 3) := by decide +kernel
theorem dX9_chooseWheels_81 : decode cX9_chooseWheels 81 = .ok (.aload_n 0, 1) := by decide +kernel
theorem dX9_chooseWheels_82 : decode cX9_chooseWheels 82 = .ok (.getfield 60, 3) := by decide +kernel
theorem dX9_chooseWheels_85 : decode cX9_chooseWheels 85 = .ok (.invokevirtual 293, 3) := by decide +kernel
theorem dX9_chooseWheels_88 : decode cX9_chooseWheels 88 = .ok (.aload_n 0, 1) := by decide +kernel
theorem dX9_chooseWheels_89 : decode cX9_chooseWheels 89 = .ok (.getfield 24, 3) := by decide +kernel
theorem dX9_chooseWheels_92 : decode cX9_chooseWheels 92 = .ok (.getfield 130, 3) := by decide +kernel
theorem dX9_chooseWheels_95 : decode cX9_chooseWheels 95 = .ok (.invokevirtual 253, 3) := by decide +kernel
theorem dX9_chooseWheels_98 : decode cX9_chooseWheels 98 = .ok (.aload_n 0, 1) := by decide +kernel
theorem dX9_chooseWheels_99 : decode cX9_chooseWheels 99 = .ok (.getfield 60, 3) := by decide +kernel
theorem dX9_chooseWheels_102 : decode cX9_chooseWheels 102 = .ok (.invokevirtual 293, 3) := by decide +kernel
theorem dX9_chooseWheels_105 : decode cX9_chooseWheels 105 = .ok (.iload_n 1, 1) := by decide +kernel
theorem dX9_chooseWheels_106 : decode cX9_chooseWheels 106 = .ok (.iload 8, 2) := by decide +kernel
theorem dX9_chooseWheels_108 : decode cX9_chooseWheels 108 = .ok (.invokevirtual 308, 3) := by decide +kernel
theorem dX9_chooseWheels_111 : decode cX9_chooseWheels 111 = .ok (.aload_n 0, 1) := by decide +kernel
theorem dX9_chooseWheels_112 : decode cX9_chooseWheels 112 = .ok (.getfield 60, 3) := by decide +kernel
theorem dX9_chooseWheels_115 : decode cX9_chooseWheels 115 = .ok (.aload_n 0, 1) := by decide +kernel
theorem dX9_chooseWheels_116 : decode cX9_chooseWheels 116 = .ok (.getfield 24, 3) := by decide +kernel
theorem dX9_chooseWheels_119 : decode cX9_chooseWheels 119 = .ok (.getfield 100, 3) := by decide +kernel
theorem dX9_chooseWheels_122 : decode cX9_chooseWheels 122 = .ok (.invokevirtual 297, 3) := by decide +kernel
theorem dX9_chooseWheels_125 : decode cX9_chooseWheels 125 = .ok (.aload_n 0, 1) := by decide +kernel
theorem dX9_chooseWheels_126 : decode cX9_chooseWheels 126 = .ok (.getfield 60, 3) := by decide +kernel
theorem dX9_chooseWheels_129 : decode cX9_chooseWheels 129 = .ok (.getfield 312, 3) := by decide +kernel
theorem dX9_chooseWheels_132 : decode cX9_chooseWheels 132 = .ok (.iload 7, 2) := by decide +kernel
theorem dX9_chooseWheels_134 : decode cX9_chooseWheels 134 = .ok (.if_icmp .ge 16, 3) := by decide +kernel
theorem dX9_chooseWheels_137 : decode cX9_chooseWheels 137 = .ok (.aload_n 0, 1) := by decide +kernel
theorem dX9_chooseWheels_138 : decode cX9_chooseWheels 138 = .ok (.getfield 60, 3) := by decide +kernel
theorem dX9_chooseWheels_141 : decode cX9_chooseWheels 141 = .ok (.getfield 312, 3) := by decide +kernel
theorem dX9_chooseWheels_144 : decode cX9_chooseWheels 144 = .ok (.istore 7, 2) := by decide +kernel
theorem dX9_chooseWheels_146 : decode cX9_chooseWheels 146 = .ok (.iload 8, 2) := by decide +kernel
theorem dX9_chooseWheels_148 : decode cX9_chooseWheels 148 = .ok (.istore 6, 2) := by decide +kernel
theorem dX9_chooseWheels_150 : decode cX9_chooseWheels 150 = .ok (.iinc 8 1, 3) := by decide +kernel
theorem dX9_chooseWheels_153 : decode cX9_chooseWheels 153 = .ok (.goto (-100), 3) := by decide +kernel
theorem dX9_chooseWheels_156 : decode cX9_chooseWheels 156 = .ok (.iload 6, 2) := by decide +kernel
theorem dX9_chooseWheels_158 : decode cX9_chooseWheels 158 = .ok (.ireturn, 1) := by decide +kernel
theorem dX9_chosen_0 : decode cX9_chosen 0 = .ok (.aload_n 0, 1) := by decide +kernel
theorem dX9_chosen_1 : decode cX9_chosen 1 = .ok (.getfield 24, 3) := by decide +kernel
theorem dX9_chosen_4 : decode cX9_chosen 4 = .ok (.getfield 100, 3) := by decide +kernel
theorem dX9_chosen_7 : decode cX9_chosen 7 = .ok (.iload_n 1, 1) := by decide +kernel
theorem dX9_chosen_8 : decode cX9_chosen 8 = .ok (.invokevirtual 147, 3) := by decide +kernel
theorem dX9_chosen_11 : decode cX9_chosen 11 = .ok (.ifCond .eq 17, 3) := by decide +kernel
theorem dX9_chosen_14 : decode cX9_chosen 14 = .ok (.aload_n 0, 1) := by decide +kernel
theorem dX9_chosen_15 : decode cX9_chosen 15 = .ok (.getfield 24, 3) := by decide +kernel
theorem dX9_chosen_18 : decode cX9_chosen 18 = .ok (.getfield 100, 3) := by decide +kernel
theorem dX9_chosen_21 : decode cX9_chosen 21 = .ok (.iload_n 2, 1) := by decide +kernel
theorem dX9_chosen_22 : decode cX9_chosen 22 = .ok (.invokevirtual 171, 3) := by decide +kernel
theorem dX9_chosen_25 : decode cX9_chosen 25 = .ok (.ifCond .ne 6, 3) := by decide +kernel
theorem dX9_chosen_28 : decode cX9_chosen 28 = .ok (.bipush (-2), 2) := by decide +kernel
theorem dX9_chosen_30 : decode cX9_chosen 30 = .ok (.ireturn, 1) := by decide +kernel
theorem dX9_chosen_31 : decode cX9_chosen 31 = .ok (.aload_n 0, 1) := by decide +kernel
theorem dX9_chosen_32 : decode cX9_chosen 32 = .ok (.iload_n 1, 1) := by decide +kernel
theorem dX9_chosen_33 : decode cX9_chosen 33 = .ok (.iload_n 2, 1) := by decide +kernel
theorem dX9_chosen_34 : decode cX9_chosen 34 = .ok (.invokevirtual 287, 3) := by decide +kernel
theorem dX9_chosen_37 : decode cX9_chosen 37 = .ok (.ireturn, 1) := by decide +kernel
theorem dX9_circle_0 : decode cX9_circle 0 = .ok (.aload_n 0, 1) := by decide +kernel
theorem dX9_circle_1 : decode cX9_circle 1 = .ok (.getfield 24, 3) := by decide +kernel
theorem dX9_circle_4 : decode cX9_circle 4 = .ok (.getfield 100, 3) := by decide +kernel
theorem dX9_circle_7 : decode cX9_circle 7 = .ok (.iload_n 1, 1) := by decide +kernel
theorem dX9_circle_8 : decode cX9_circle 8 = .ok (.invokevirtual 147, 3) := by decide +kernel
theorem dX9_circle_11 : decode cX9_circle 11 = .ok (.ifCond .ne 6, 3) := by decide +kernel
theorem dX9_circle_14 : decode cX9_circle 14 = .ok (.bipush (-2), 2) := by decide +kernel
theorem dX9_circle_16 : decode cX9_circle 16 = .ok (.ireturn, 1) := by decide +kernel
theorem dX9_circle_17 : decode cX9_circle 17 = .ok (.aload_n 0, 1) := by decide +kernel
theorem dX9_circle_18 : decode cX9_circle 18 = .ok (.getfield 46, 3) := by decide +kernel
theorem dX9_circle_21 : decode cX9_circle 21 = .ok (.aload_n 0, 1) := by decide +kernel
theorem dX9_circle_22 : decode cX9_circle 22 = .ok (.getfield 24, 3) := by decide +kernel
theorem dX9_circle_25 : decode cX9_circle 25 = .ok (.getfield 130, 3) := by decide +kernel
theorem dX9_circle_28 : decode cX9_circle 28 = .ok (.invokevirtual 253, 3) := by decide +kernel
theorem dX9_circle_31 : decode cX9_circle 31 = .ok (.iconst 1, 1) := by decide +kernel
theorem dX9_circle_32 : decode cX9_circle 32 = .ok (.aload_n 0, 1) := by decide +kernel
theorem dX9_circle_33 : decode cX9_circle 33 = .ok (.getfield 46, 3) := by decide +kernel
theorem dX9_circle_36 : decode cX9_circle 36 = .ok (.getfield 150, 3) := by decide +kernel
theorem dX9_circle_39 : decode cX9_circle 39 = .ok (.iload_n 1, 1) := by decide +kernel
theorem dX9_circle_40 : decode cX9_circle 40 = .ok (.iaload, 1) := by decide +kernel
theorem dX9_circle_41 : decode cX9_circle 41 = .ok (.ishl, 1) := by decide +kernel
theorem dX9_circle_42 : decode cX9_circle 42 = .ok (.istore_n 2, 1) := by decide +kernel
theorem dX9_circle_43 : decode cX9_circle 43 = .ok (.iconst 1, 1) := by decide +kernel
theorem dX9_circle_44 : decode cX9_circle 44 = .ok (.istore_n 3, 1) := by decide +kernel
theorem dX9_circle_45 : decode cX9_circle 45 = .ok (.iload_n 3, 1) := by decide +kernel
theorem dX9_circle_46 : decode cX9_circle 46 = .ok (.bipush 40, 2) := by decide +kernel
theorem dX9_circle_48 : decode cX9_circle 48 = .ok (.if_icmp .gt 58, 3) := by decide +kernel
theorem dX9_circle_51 : decode cX9_circle 51 = .ok (.aload_n 0, 1) := by decide +kernel
theorem dX9_circle_52 : decode cX9_circle 52 = .ok (.getfield 46, 3) := by decide +kernel
theorem dX9_circle_55 : decode cX9_circle 55 = .ok (.aload_n 0, 1) := by decide +kernel
theorem dX9_circle_56 : decode cX9_circle 56 = .ok (.getfield 24, 3) := by decide +kernel
theorem dX9_circle_59 : decode cX9_circle 59 = .ok (.getfield 100, 3) := by decide +kernel
theorem dX9_circle_62 : decode cX9_circle 62 = .ok (.iload_n 1, 1) := by decide +kernel
theorem dX9_circle_63 : decode cX9_circle 63 = .ok (.iconst (-1), 1) := by decide +kernel
theorem dX9_circle_64 : decode cX9_circle 64 = .ok (.invokevirtual 317, 3) := by decide +kernel
theorem dX9_circle_67 : decode cX9_circle 67 = .ok (.iconst (-1), 1) := by decide +kernel
theorem dX9_circle_68 : decode cX9_circle 68 = .ok (.if_icmp .ne 5, 3) := by decide +kernel
theorem dX9_circle_71 : decode cX9_circle 71 = .ok (.iconst (-1), 1) := by decide +kernel
theorem dX9_circle_72 : decode cX9_circle 72 = .ok (.ireturn, 1) := by decide +kernel
theorem dX9_circle_73 : decode cX9_circle 73 = .ok (.iconst 1, 1) := by decide +kernel
theorem dX9_circle_74 : decode cX9_circle 74 = .ok (.aload_n 0, 1) := by decide +kernel
theorem dX9_circle_75 : decode cX9_circle 75 = .ok (.getfield 46, 3) := by decide +kernel
theorem dX9_circle_78 : decode cX9_circle 78 = .ok (.getfield 150, 3) := by decide +kernel
theorem dX9_circle_81 : decode cX9_circle 81 = .ok (.iload_n 1, 1) := by decide +kernel
theorem dX9_circle_82 : decode cX9_circle 82 = .ok (.iaload, 1) := by decide +kernel
theorem dX9_circle_83 : decode cX9_circle 83 = .ok (.ishl, 1) := by decide +kernel
theorem dX9_circle_84 : decode cX9_circle 84 = .ok (.istore 4, 2) := by decide +kernel
theorem dX9_circle_86 : decode cX9_circle 86 = .ok (.iload_n 2, 1) := by decide +kernel
theorem dX9_circle_87 : decode cX9_circle 87 = .ok (.iload 4, 2) := by decide +kernel
theorem dX9_circle_89 : decode cX9_circle 89 = .ok (.iand, 1) := by decide +kernel
theorem dX9_circle_90 : decode cX9_circle 90 = .ok (.ifCond .eq 5, 3) := by decide +kernel
theorem dX9_circle_93 : decode cX9_circle 93 = .ok (.iload_n 3, 1) := by decide +kernel
theorem dX9_circle_94 : decode cX9_circle 94 = .ok (.ireturn, 1) := by decide +kernel
theorem dX9_circle_95 : decode cX9_circle 95 = .ok (.iload_n 2, 1) := by decide +kernel
theorem dX9_circle_96 : decode cX9_circle 96 = .ok (.iload 4, 2) := by decide +kernel
theorem dX9_circle_98 : decode cX9_circle 98 = .ok (.ior, 1) := by decide +kernel
theorem dX9_circle_99 : decode cX9_circle 99 = .ok (.istore_n 2, 1) := by decide +kernel
theorem dX9_circle_100 : decode cX9_circle 100 = .ok (.iinc 3 1, 3) := by decide +kernel
theorem dX9_circle_103 : decode cX9_circle 103 = .ok (.goto (-58), 3) := by decide +kernel
theorem dX9_circle_106 : decode cX9_circle 106 = .ok (.iconst (-1), 1) := by decide +kernel
theorem dX9_circle_107 : decode cX9_circle 107 = .ok (.ireturn, 1) := by decide +kernel
theorem dX9_count_0 : decode cX9_count 0 = .ok (.iload_n 1, 1) := by decide +kernel
theorem dX9_count_1 : decode cX9_count 1 = .ok (.tableswitch 156 0 9 #[55, 66, 77, 88, 99, 110, 121, 132, 140, 148], 55) := by decide +kernel
theorem dX9_count_56 : decode cX9_count 56 = .ok (.aload_n 0, 1) := by decide +kernel
theorem dX9_count_57 : decode cX9_count 57 = .ok (.getfield 24, 3) := by decide +kernel
theorem dX9_count_60 : decode cX9_count 60 = .ok (.getfield 100, 3) := by decide +kernel
theorem dX9_count_63 : decode cX9_count 63 = .ok (.getfield 273, 3) := by decide +kernel
theorem dX9_count_66 : decode cX9_count 66 = .ok (.ireturn, 1) := by decide +kernel
theorem dX9_count_67 : decode cX9_count 67 = .ok (.aload_n 0, 1) := by decide +kernel
theorem dX9_count_68 : decode cX9_count 68 = .ok (.getfield 24, 3) := by decide +kernel
theorem dX9_count_71 : decode cX9_count 71 = .ok (.getfield 100, 3) := by decide +kernel
theorem dX9_count_74 : decode cX9_count 74 = .ok (.getfield 188, 3) := by decide +kernel
theorem dX9_count_77 : decode cX9_count 77 = .ok (.ireturn, 1) := by decide +kernel
theorem dX9_count_78 : decode cX9_count 78 = .ok (.aload_n 0, 1) := by decide +kernel
theorem dX9_count_79 : decode cX9_count 79 = .ok (.getfield 24, 3) := by decide +kernel
theorem dX9_count_82 : decode cX9_count 82 = .ok (.getfield 100, 3) := by decide +kernel
theorem dX9_count_85 : decode cX9_count 85 = .ok (.getfield 314, 3) := by decide +kernel
theorem dX9_count_88 : decode cX9_count 88 = .ok (.ireturn, 1) := by decide +kernel
theorem dX9_count_89 : decode cX9_count 89 = .ok (.aload_n 0, 1) := by decide +kernel
theorem dX9_count_90 : decode cX9_count 90 = .ok (.getfield 24, 3) := by decide +kernel
theorem dX9_count_93 : decode cX9_count 93 = .ok (.getfield 100, 3) := by decide +kernel
theorem dX9_count_96 : decode cX9_count 96 = .ok (.getfield 407, 3) := by decide +kernel
theorem dX9_count_99 : decode cX9_count 99 = .ok (.ireturn, 1) := by decide +kernel
theorem dX9_count_100 : decode cX9_count 100 = .ok (.aload_n 0, 1) := by decide +kernel
theorem dX9_count_101 : decode cX9_count 101 = .ok (.getfield 24, 3) := by decide +kernel
theorem dX9_count_104 : decode cX9_count 104 = .ok (.getfield 100, 3) := by decide +kernel
theorem dX9_count_107 : decode cX9_count 107 = .ok (.getfield 284, 3) := by decide +kernel
theorem dX9_count_110 : decode cX9_count 110 = .ok (.ireturn, 1) := by decide +kernel
theorem dX9_count_111 : decode cX9_count 111 = .ok (.aload_n 0, 1) := by decide +kernel
theorem dX9_count_112 : decode cX9_count 112 = .ok (.getfield 24, 3) := by decide +kernel
theorem dX9_count_115 : decode cX9_count 115 = .ok (.getfield 100, 3) := by decide +kernel
theorem dX9_count_118 : decode cX9_count 118 = .ok (.getfield 404, 3) := by decide +kernel
theorem dX9_count_121 : decode cX9_count 121 = .ok (.ireturn, 1) := by decide +kernel
theorem dX9_count_122 : decode cX9_count 122 = .ok (.aload_n 0, 1) := by decide +kernel
theorem dX9_count_123 : decode cX9_count 123 = .ok (.getfield 24, 3) := by decide +kernel
theorem dX9_count_126 : decode cX9_count 126 = .ok (.getfield 100, 3) := by decide +kernel
theorem dX9_count_129 : decode cX9_count 129 = .ok (.getfield 103, 3) := by decide +kernel
theorem dX9_count_132 : decode cX9_count 132 = .ok (.ireturn, 1) := by decide +kernel
theorem dX9_count_133 : decode cX9_count 133 = .ok (.aload_n 0, 1) := by decide +kernel
theorem dX9_count_134 : decode cX9_count 134 = .ok (.getfield 20, 3) := by decide +kernel
theorem dX9_count_137 : decode cX9_count 137 = .ok (.getfield 85, 3) := by decide +kernel
theorem dX9_count_140 : decode cX9_count 140 = .ok (.ireturn, 1) := by decide +kernel
theorem dX9_count_141 : decode cX9_count 141 = .ok (.aload_n 0, 1) := by decide +kernel
theorem dX9_count_142 : decode cX9_count 142 = .ok (.getfield 24, 3) := by decide +kernel
theorem dX9_count_145 : decode cX9_count 145 = .ok (.getfield 214, 3) := by decide +kernel
theorem dX9_count_148 : decode cX9_count 148 = .ok (.ireturn, 1) := by decide +kernel
theorem dX9_count_149 : decode cX9_count 149 = .ok (.aload_n 0, 1) := by decide +kernel
theorem dX9_count_150 : decode cX9_count 150 = .ok (.getfield 39, 3) := by decide +kernel
theorem dX9_count_153 : decode cX9_count 153 = .ok (.invokevirtual 410, 3) := by decide +kernel
theorem dX9_count_156 : decode cX9_count 156 = .ok (.ireturn, 1) := by decide +kernel
theorem dX9_count_157 : decode cX9_count 157 = .ok (.iconst (-1), 1) := by decide +kernel
theorem dX9_count_158 : decode cX9_count 158 = .ok (.ireturn, 1) := by decide +kernel
theorem dX9_cutShare_0 : decode cX9_cutShare 0 = .ok (.iload_n 3, 1) := by decide +kernel
theorem dX9_cutShare_1 : decode cX9_cutShare 1 = .ok (.ifCond .le 19, 3) := by decide +kernel
theorem dX9_cutShare_4 : decode cX9_cutShare 4 = .ok (.iload_n 1, 1) := by decide +kernel
theorem dX9_cutShare_5 : decode cX9_cutShare 5 = .ok (.aload_n 0, 1) := by decide +kernel
theorem dX9_cutShare_6 : decode cX9_cutShare 6 = .ok (.getfield 24, 3) := by decide +kernel
theorem dX9_cutShare_9 : decode cX9_cutShare 9 = .ok (.getfield 130, 3) := by decide +kernel
theorem dX9_cutShare_12 : decode cX9_cutShare 12 = .ok (.iload_n 2, 1) := by decide +kernel
theorem dX9_cutShare_13 : decode cX9_cutShare 13 = .ok (.invokevirtual 143, 3) := by decide +kernel
theorem dX9_cutShare_16 : decode cX9_cutShare 16 = .ok (.imul, 1) := by decide +kernel
theorem dX9_cutShare_17 : decode cX9_cutShare 17 = .ok (.iload_n 3, 1) := by decide +kernel
theorem dX9_cutShare_18 : decode cX9_cutShare 18 = .ok (.idiv, 1) := by decide +kernel
theorem dX9_cutShare_19 : decode cX9_cutShare 19 = .ok (.ireturn, 1) := by decide +kernel
theorem dX9_cutShare_20 : decode cX9_cutShare 20 = .ok (.iload_n 1, 1) := by decide +kernel
theorem dX9_cutShare_21 : decode cX9_cutShare 21 = .ok (.iconst 1, 1) := by decide +kernel
theorem dX9_cutShare_22 : decode cX9_cutShare 22 = .ok (.iload 4, 2) := by decide +kernel
theorem dX9_cutShare_24 : decode cX9_cutShare 24 = .ok (.invokestatic 303, 3) := by decide +kernel
theorem dX9_cutShare_27 : decode cX9_cutShare 27 = .ok (.invokestatic 347, 3) := by decide +kernel
theorem dX9_cutShare_30 : decode cX9_cutShare 30 = .ok (.idiv, 1) := by decide +kernel
theorem dX9_cutShare_31 : decode cX9_cutShare 31 = .ok (.ireturn, 1) := by decide +kernel
theorem dX9_dearest_0 : decode cX9_dearest 0 = .ok (.aload_n 0, 1) := by decide +kernel
theorem dX9_dearest_1 : decode cX9_dearest 1 = .ok (.getfield 24, 3) := by decide +kernel
theorem dX9_dearest_4 : decode cX9_dearest 4 = .ok (.getfield 100, 3) := by decide +kernel
theorem dX9_dearest_7 : decode cX9_dearest 7 = .ok (.invokevirtual 211, 3) := by decide +kernel
theorem dX9_dearest_10 : decode cX9_dearest 10 = .ok (.ifCond .ne 6, 3) := by decide +kernel
theorem dX9_dearest_13 : decode cX9_dearest 13 = .ok (.bipush (-2), 2) := by decide +kernel
theorem dX9_dearest_15 : decode cX9_dearest 15 = .ok (.ireturn, 1) := by decide +kernel
theorem dX9_dearest_16 : decode cX9_dearest 16 = .ok (.iconst (-1), 1) := by decide +kernel
theorem dX9_dearest_17 : decode cX9_dearest 17 = .ok (.istore_n 1, 1) := by decide +kernel
theorem dX9_dearest_18 : decode cX9_dearest 18 = .ok (.iconst (-1), 1) := by decide +kernel
theorem dX9_dearest_19 : decode cX9_dearest 19 = .ok (.istore_n 2, 1) := by decide +kernel
theorem dX9_dearest_20 : decode cX9_dearest 20 = .ok (.iconst 0, 1) := by decide +kernel
theorem dX9_dearest_21 : decode cX9_dearest 21 = .ok (.istore_n 3, 1) := by decide +kernel
theorem dX9_dearest_22 : decode cX9_dearest 22 = .ok (.iload_n 3, 1) := by decide +kernel
theorem dX9_dearest_23 : decode cX9_dearest 23 = .ok (.aload_n 0, 1) := by decide +kernel
theorem dX9_dearest_24 : decode cX9_dearest 24 = .ok (.getfield 24, 3) := by decide +kernel
theorem dX9_dearest_27 : decode cX9_dearest 27 = .ok (.getfield 100, 3) := by decide +kernel
theorem dX9_dearest_30 : decode cX9_dearest 30 = .ok (.getfield 188, 3) := by decide +kernel
theorem dX9_dearest_33 : decode cX9_dearest 33 = .ok (.if_icmp .ge 36, 3) := by decide +kernel
theorem dX9_dearest_36 : decode cX9_dearest 36 = .ok (.aload_n 0, 1) := by decide +kernel
theorem dX9_dearest_37 : decode cX9_dearest 37 = .ok (.getfield 24, 3) := by decide +kernel
theorem dX9_dearest_40 : decode cX9_dearest 40 = .ok (.getfield 130, 3) := by decide +kernel
theorem dX9_dearest_43 : decode cX9_dearest 43 = .ok (.sipush 255, 3) := by decide +kernel
theorem dX9_dearest_46 : decode cX9_dearest 46 = .ok (.iload_n 3, 1) := by decide +kernel
theorem dX9_dearest_47 : decode cX9_dearest 47 = .ok (.invokevirtual 177, 3) := by decide +kernel
theorem dX9_dearest_50 : decode cX9_dearest 50 = .ok (.istore 4, 2) := by decide +kernel
theorem dX9_dearest_52 : decode cX9_dearest 52 = .ok (.iload 4, 2) := by decide +kernel
theorem dX9_dearest_54 : decode cX9_dearest 54 = .ok (.iload_n 2, 1) := by decide +kernel
theorem dX9_dearest_55 : decode cX9_dearest 55 = .ok (.if_icmp .le 8, 3) := by decide +kernel
theorem dX9_dearest_58 : decode cX9_dearest 58 = .ok (.iload 4, 2) := by decide +kernel
theorem dX9_dearest_60 : decode cX9_dearest 60 = .ok (.istore_n 2, 1) := by decide +kernel
theorem dX9_dearest_61 : decode cX9_dearest 61 = .ok (.iload_n 3, 1) := by decide +kernel
theorem dX9_dearest_62 : decode cX9_dearest 62 = .ok (.istore_n 1, 1) := by decide +kernel
theorem dX9_dearest_63 : decode cX9_dearest 63 = .ok (.iinc 3 1, 3) := by decide +kernel
theorem dX9_dearest_66 : decode cX9_dearest 66 = .ok (.goto (-44), 3) := by decide +kernel
theorem dX9_dearest_69 : decode cX9_dearest 69 = .ok (.iload_n 1, 1) := by decide +kernel
theorem dX9_dearest_70 : decode cX9_dearest 70 = .ok (.ireturn, 1) := by decide +kernel
theorem dX9_drawDrives_0 : decode cX9_drawDrives 0 = .ok (.aload_n 0, 1) := by decide +kernel
theorem dX9_drawDrives_1 : decode cX9_drawDrives 1 = .ok (.getfield 46, 3) := by decide +kernel
theorem dX9_drawDrives_4 : decode cX9_drawDrives 4 = .ok (.aload_n 0, 1) := by decide +kernel
theorem dX9_drawDrives_5 : decode cX9_drawDrives 5 = .ok (.getfield 24, 3) := by decide +kernel
theorem dX9_drawDrives_8 : decode cX9_drawDrives 8 = .ok (.getfield 130, 3) := by decide +kernel
theorem dX9_drawDrives_11 : decode cX9_drawDrives 11 = .ok (.invokevirtual 253, 3) := by decide +kernel
theorem dX9_drawDrives_14 : decode cX9_drawDrives 14 = .ok (.aload_n 0, 1) := by decide +kernel
theorem dX9_drawDrives_15 : decode cX9_drawDrives 15 = .ok (.getfield 53, 3) := by decide +kernel
theorem dX9_drawDrives_18 : decode cX9_drawDrives 18 = .ok (.aload_n 0, 1) := by decide +kernel
theorem dX9_drawDrives_19 : decode cX9_drawDrives 19 = .ok (.getfield 46, 3) := by decide +kernel
theorem dX9_drawDrives_22 : decode cX9_drawDrives 22 = .ok (.iload_n 2, 1) := by decide +kernel
theorem dX9_drawDrives_23 : decode cX9_drawDrives 23 = .ok (.invokevirtual 257, 3) := by decide +kernel
theorem dX9_drawDrives_26 : decode cX9_drawDrives 26 = .ok (.iload_n 1, 1) := by decide +kernel
theorem dX9_drawDrives_27 : decode cX9_drawDrives 27 = .ok (.i2l, 1) := by decide +kernel
theorem dX9_drawDrives_28 : decode cX9_drawDrives 28 = .ok (.lstore 4, 2) := by decide +kernel
theorem dX9_drawDrives_30 : decode cX9_drawDrives 30 = .ok (.iconst 1, 1) := by decide +kernel
theorem dX9_drawDrives_31 : decode cX9_drawDrives 31 = .ok (.istore 6, 2) := by decide +kernel
theorem dX9_drawDrives_33 : decode cX9_drawDrives 33 = .ok (.iconst 0, 1) := by decide +kernel
theorem dX9_drawDrives_34 : decode cX9_drawDrives 34 = .ok (.istore 7, 2) := by decide +kernel
theorem dX9_drawDrives_36 : decode cX9_drawDrives 36 = .ok (.iload 7, 2) := by decide +kernel
theorem dX9_drawDrives_38 : decode cX9_drawDrives 38 = .ok (.iload_n 3, 1) := by decide +kernel
theorem dX9_drawDrives_39 : decode cX9_drawDrives 39 = .ok (.if_icmp .ge 115, 3) := by decide +kernel
theorem dX9_drawDrives_42 : decode cX9_drawDrives 42 = .ok (.iload 6, 2) := by decide +kernel
theorem dX9_drawDrives_44 : decode cX9_drawDrives 44 = .ok (.ifCond .eq 110, 3) := by decide +kernel
theorem dX9_drawDrives_47 : decode cX9_drawDrives 47 = .ok (.aload_n 0, 1) := by decide +kernel
theorem dX9_drawDrives_48 : decode cX9_drawDrives 48 = .ok (.getfield 24, 3) := by decide +kernel
theorem dX9_drawDrives_51 : decode cX9_drawDrives 51 = .ok (.getfield 100, 3) := by decide +kernel
theorem dX9_drawDrives_54 : decode cX9_drawDrives 54 = .ok (.aload_n 0, 1) := by decide +kernel
theorem dX9_drawDrives_55 : decode cX9_drawDrives 55 = .ok (.getfield 46, 3) := by decide +kernel
theorem dX9_drawDrives_58 : decode cX9_drawDrives 58 = .ok (.getfield 150, 3) := by decide +kernel
theorem dX9_drawDrives_61 : decode cX9_drawDrives 61 = .ok (.iload_n 2, 1) := by decide +kernel
theorem dX9_drawDrives_62 : decode cX9_drawDrives 62 = .ok (.iaload, 1) := by decide +kernel
theorem dX9_drawDrives_63 : decode cX9_drawDrives 63 = .ok (.invokevirtual 174, 3) := by decide +kernel
theorem dX9_drawDrives_66 : decode cX9_drawDrives 66 = .ok (.istore 8, 2) := by decide +kernel
theorem dX9_drawDrives_68 : decode cX9_drawDrives 68 = .ok (.iload 8, 2) := by decide +kernel
theorem dX9_drawDrives_70 : decode cX9_drawDrives 70 = .ok (.ifCond .eq 7, 3) := by decide +kernel
theorem dX9_drawDrives_73 : decode cX9_drawDrives 73 = .ok (.iconst 1, 1) := by decide +kernel
theorem dX9_drawDrives_74 : decode cX9_drawDrives 74 = .ok (.goto 4, 3) := by decide +kernel
theorem dX9_drawDrives_77 : decode cX9_drawDrives 77 = .ok (.iconst 0, 1) := by decide +kernel
theorem dX9_drawDrives_78 : decode cX9_drawDrives 78 = .ok (.istore 6, 2) := by decide +kernel
theorem dX9_drawDrives_80 : decode cX9_drawDrives 80 = .ok (.iload 6, 2) := by decide +kernel
theorem dX9_drawDrives_82 : decode cX9_drawDrives 82 = .ok (.ifCond .eq 66, 3) := by decide +kernel
theorem dX9_drawDrives_85 : decode cX9_drawDrives 85 = .ok (.ldc2_w 387, 3) := by decide +kernel
theorem dX9_drawDrives_88 : decode cX9_drawDrives 88 = .ok (.lload 4, 2) := by decide +kernel
theorem dX9_drawDrives_90 : decode cX9_drawDrives 90 = .ok (.lmul, 1) := by decide +kernel
theorem dX9_drawDrives_91 : decode cX9_drawDrives 91 = .ok (.ldc2_w 389, 3) := by decide +kernel
theorem dX9_drawDrives_94 : decode cX9_drawDrives 94 = .ok (.ladd, 1) := by decide +kernel
theorem dX9_drawDrives_95 : decode cX9_drawDrives 95 = .ok (.ldc2_w 391, 3) := by decide +kernel
theorem dX9_drawDrives_98 : decode cX9_drawDrives 98 = .ok (.lrem, 1) := by decide +kernel
theorem dX9_drawDrives_99 : decode cX9_drawDrives 99 = .ok (.lstore 4, 2) := by decide +kernel
theorem dX9_drawDrives_101 : decode cX9_drawDrives 101 = .ok (.lload 4, 2) := by decide +kernel
theorem dX9_drawDrives_103 : decode cX9_drawDrives 103 = .ok (.ldc2_w 393, 3) := by decide +kernel
theorem dX9_drawDrives_106 : decode cX9_drawDrives 106 = .ok (.ldiv, 1) := by decide +kernel
theorem dX9_drawDrives_107 : decode cX9_drawDrives 107 = .ok (.iconst 1, 1) := by decide +kernel
theorem dX9_drawDrives_108 : decode cX9_drawDrives 108 = .ok (.iload 8, 2) := by decide +kernel
theorem dX9_drawDrives_110 : decode cX9_drawDrives 110 = .ok (.invokestatic 303, 3) := by decide +kernel
theorem dX9_drawDrives_113 : decode cX9_drawDrives 113 = .ok (.invokestatic 347, 3) := by decide +kernel
theorem dX9_drawDrives_116 : decode cX9_drawDrives 116 = .ok (.i2l, 1) := by decide +kernel
theorem dX9_drawDrives_117 : decode cX9_drawDrives 117 = .ok (.lrem, 1) := by decide +kernel
theorem dX9_drawDrives_118 : decode cX9_drawDrives 118 = .ok (.l2i, 1) := by decide +kernel
theorem dX9_drawDrives_119 : decode cX9_drawDrives 119 = .ok (.istore 9, 2) := by decide +kernel
theorem dX9_drawDrives_121 : decode cX9_drawDrives 121 = .ok (.aload_n 0, 1) := by decide +kernel
theorem dX9_drawDrives_122 : decode cX9_drawDrives 122 = .ok (.getfield 53, 3) := by decide +kernel
theorem dX9_drawDrives_125 : decode cX9_drawDrives 125 = .ok (.aload_n 0, 1) := by decide +kernel
theorem dX9_drawDrives_126 : decode cX9_drawDrives 126 = .ok (.getfield 24, 3) := by decide +kernel
theorem dX9_drawDrives_129 : decode cX9_drawDrives 129 = .ok (.getfield 100, 3) := by decide +kernel
theorem dX9_drawDrives_132 : decode cX9_drawDrives 132 = .ok (.aload_n 0, 1) := by decide +kernel
theorem dX9_drawDrives_133 : decode cX9_drawDrives 133 = .ok (.getfield 46, 3) := by decide +kernel
theorem dX9_drawDrives_136 : decode cX9_drawDrives 136 = .ok (.iload_n 2, 1) := by decide +kernel
theorem dX9_drawDrives_137 : decode cX9_drawDrives 137 = .ok (.iload 8, 2) := by decide +kernel
theorem dX9_drawDrives_139 : decode cX9_drawDrives 139 = .ok (.iload 9, 2) := by decide +kernel
theorem dX9_drawDrives_141 : decode cX9_drawDrives 141 = .ok (.invokestatic 395, 3) := by decide +kernel
theorem dX9_drawDrives_144 : decode cX9_drawDrives 144 = .ok (.invokevirtual 260, 3) := by decide +kernel
theorem dX9_drawDrives_147 : decode cX9_drawDrives 147 = .ok (.pop, 1) := by decide +kernel
theorem dX9_drawDrives_148 : decode cX9_drawDrives 148 = .ok (.iinc 7 1, 3) := by decide +kernel
theorem dX9_drawDrives_151 : decode cX9_drawDrives 151 = .ok (.goto (-115), 3) := by decide +kernel
theorem dX9_drawDrives_154 : decode cX9_drawDrives 154 = .ok (.return_, 1) := by decide +kernel
theorem dX9_drawn_0 : decode cX9_drawn 0 = .ok (.aload_n 0, 1) := by decide +kernel
theorem dX9_drawn_1 : decode cX9_drawn 1 = .ok (.iload_n 1, 1) := by decide +kernel
theorem dX9_drawn_2 : decode cX9_drawn 2 = .ok (.iload_n 2, 1) := by decide +kernel
theorem dX9_drawn_3 : decode cX9_drawn 3 = .ok (.iload_n 3, 1) := by decide +kernel
theorem dX9_drawn_4 : decode cX9_drawn 4 = .ok (.invokevirtual 376, 3) := by decide +kernel
theorem dX9_drawn_7 : decode cX9_drawn 7 = .ok (.ifCond .ne 6, 3) := by decide +kernel
theorem dX9_drawn_10 : decode cX9_drawn 10 = .ok (.bipush (-2), 2) := by decide +kernel
theorem dX9_drawn_12 : decode cX9_drawn 12 = .ok (.ireturn, 1) := by decide +kernel
theorem dX9_drawn_13 : decode cX9_drawn 13 = .ok (.aload_n 0, 1) := by decide +kernel
theorem dX9_drawn_14 : decode cX9_drawn 14 = .ok (.iload_n 1, 1) := by decide +kernel
theorem dX9_drawn_15 : decode cX9_drawn 15 = .ok (.iload_n 2, 1) := by decide +kernel
theorem dX9_drawn_16 : decode cX9_drawn 16 = .ok (.iload_n 3, 1) := by decide +kernel
theorem dX9_drawn_17 : decode cX9_drawn 17 = .ok (.invokevirtual 380, 3) := by decide +kernel
theorem dX9_drawn_20 : decode cX9_drawn 20 = .ok (.iload 4, 2) := by decide +kernel
theorem dX9_drawn_22 : decode cX9_drawn 22 = .ok (.tableswitch 50 0 2 #[26, 34, 42], 26) := by decide +kernel
theorem dX9_drawn_48 : decode cX9_drawn 48 = .ok (.aload_n 0, 1) := by decide +kernel
theorem dX9_drawn_49 : decode cX9_drawn 49 = .ok (.getfield 53, 3) := by decide +kernel
theorem dX9_drawn_52 : decode cX9_drawn 52 = .ok (.getfield 226, 3) := by decide +kernel
theorem dX9_drawn_55 : decode cX9_drawn 55 = .ok (.ireturn, 1) := by decide +kernel
theorem dX9_drawn_56 : decode cX9_drawn 56 = .ok (.aload_n 0, 1) := by decide +kernel
theorem dX9_drawn_57 : decode cX9_drawn 57 = .ok (.getfield 53, 3) := by decide +kernel
theorem dX9_drawn_60 : decode cX9_drawn 60 = .ok (.getfield 229, 3) := by decide +kernel
theorem dX9_drawn_63 : decode cX9_drawn 63 = .ok (.ireturn, 1) := by decide +kernel
theorem dX9_drawn_64 : decode cX9_drawn 64 = .ok (.aload_n 0, 1) := by decide +kernel
theorem dX9_drawn_65 : decode cX9_drawn 65 = .ok (.getfield 53, 3) := by decide +kernel
theorem dX9_drawn_68 : decode cX9_drawn 68 = .ok (.getfield 383, 3) := by decide +kernel
theorem dX9_drawn_71 : decode cX9_drawn 71 = .ok (.ireturn, 1) := by decide +kernel
theorem dX9_drawn_72 : decode cX9_drawn 72 = .ok (.bipush (-2), 2) := by decide +kernel
theorem dX9_drawn_74 : decode cX9_drawn 74 = .ok (.ireturn, 1) := by decide +kernel
theorem dX9_drive_0 : decode cX9_drive 0 = .ok (.aload_n 0, 1) := by decide +kernel
theorem dX9_drive_1 : decode cX9_drive 1 = .ok (.iload_n 1, 1) := by decide +kernel
theorem dX9_drive_2 : decode cX9_drive 2 = .ok (.iload_n 2, 1) := by decide +kernel
theorem dX9_drive_3 : decode cX9_drive 3 = .ok (.invokevirtual 180, 3) := by decide +kernel
theorem dX9_drive_6 : decode cX9_drive 6 = .ok (.ifCond .ne 6, 3) := by decide +kernel
theorem dX9_drive_9 : decode cX9_drive 9 = .ok (.bipush (-2), 2) := by decide +kernel
theorem dX9_drive_11 : decode cX9_drive 11 = .ok (.ireturn, 1) := by decide +kernel
theorem dX9_drive_12 : decode cX9_drive 12 = .ok (.aload_n 0, 1) := by decide +kernel
theorem dX9_drive_13 : decode cX9_drive 13 = .ok (.getfield 24, 3) := by decide +kernel
theorem dX9_drive_16 : decode cX9_drive 16 = .ok (.invokevirtual 204, 3) := by decide +kernel
theorem dX9_drive_19 : decode cX9_drive 19 = .ok (.ifCond .ne 28, 3) := by decide +kernel
theorem dX9_drive_22 : decode cX9_drive 22 = .ok (.aload_n 0, 1) := by decide +kernel
theorem dX9_drive_23 : decode cX9_drive 23 = .ok (.getfield 24, 3) := by decide +kernel
theorem dX9_drive_26 : decode cX9_drive 26 = .ok (.getfield 100, 3) := by decide +kernel
theorem dX9_drive_29 : decode cX9_drive 29 = .ok (.aload_n 0, 1) := by decide +kernel
theorem dX9_drive_30 : decode cX9_drive 30 = .ok (.getfield 24, 3) := by decide +kernel
theorem dX9_drive_33 : decode cX9_drive 33 = .ok (.getfield 130, 3) := by decide +kernel
theorem dX9_drive_36 : decode cX9_drive 36 = .ok (.getfield 150, 3) := by decide +kernel
theorem dX9_drive_39 : decode cX9_drive 39 = .ok (.iload_n 1, 1) := by decide +kernel
theorem dX9_drive_40 : decode cX9_drive 40 = .ok (.iaload, 1) := by decide +kernel
theorem dX9_drive_41 : decode cX9_drive 41 = .ok (.invokevirtual 174, 3) := by decide +kernel
theorem dX9_drive_44 : decode cX9_drive 44 = .ok (.ifCond .ne 6, 3) := by decide +kernel
theorem dX9_drive_47 : decode cX9_drive 47 = .ok (.bipush (-5), 2) := by decide +kernel
theorem dX9_drive_49 : decode cX9_drive 49 = .ok (.ireturn, 1) := by decide +kernel
theorem dX9_drive_50 : decode cX9_drive 50 = .ok (.aload_n 0, 1) := by decide +kernel
theorem dX9_drive_51 : decode cX9_drive 51 = .ok (.getfield 24, 3) := by decide +kernel
theorem dX9_drive_54 : decode cX9_drive 54 = .ok (.iconst 0, 1) := by decide +kernel
theorem dX9_drive_55 : decode cX9_drive 55 = .ok (.iload_n 1, 1) := by decide +kernel
theorem dX9_drive_56 : decode cX9_drive 56 = .ok (.iload_n 2, 1) := by decide +kernel
theorem dX9_drive_57 : decode cX9_drive 57 = .ok (.invokevirtual 207, 3) := by decide +kernel
theorem dX9_drive_60 : decode cX9_drive 60 = .ok (.aload_n 0, 1) := by decide +kernel
theorem dX9_drive_61 : decode cX9_drive 61 = .ok (.getfield 24, 3) := by decide +kernel
theorem dX9_drive_64 : decode cX9_drive 64 = .ok (.getfield 130, 3) := by decide +kernel
theorem dX9_drive_67 : decode cX9_drive 67 = .ok (.getfield 150, 3) := by decide +kernel
theorem dX9_drive_70 : decode cX9_drive 70 = .ok (.iload_n 1, 1) := by decide +kernel
theorem dX9_drive_71 : decode cX9_drive 71 = .ok (.iaload, 1) := by decide +kernel
theorem dX9_drive_72 : decode cX9_drive 72 = .ok (.ireturn, 1) := by decide +kernel
theorem dX9_dues_0 : decode cX9_dues 0 = .ok (.aload_n 0, 1) := by decide +kernel
theorem dX9_dues_1 : decode cX9_dues 1 = .ok (.getfield 24, 3) := by decide +kernel
theorem dX9_dues_4 : decode cX9_dues 4 = .ok (.getfield 100, 3) := by decide +kernel
theorem dX9_dues_7 : decode cX9_dues 7 = .ok (.invokevirtual 211, 3) := by decide +kernel
theorem dX9_dues_10 : decode cX9_dues 10 = .ok (.ifCond .ne 6, 3) := by decide +kernel
theorem dX9_dues_13 : decode cX9_dues 13 = .ok (.bipush (-2), 2) := by decide +kernel
theorem dX9_dues_15 : decode cX9_dues 15 = .ok (.ireturn, 1) := by decide +kernel
theorem dX9_dues_16 : decode cX9_dues 16 = .ok (.iconst 0, 1) := by decide +kernel
theorem dX9_dues_17 : decode cX9_dues 17 = .ok (.istore_n 1, 1) := by decide +kernel
theorem dX9_dues_18 : decode cX9_dues 18 = .ok (.iconst 0, 1) := by decide +kernel
theorem dX9_dues_19 : decode cX9_dues 19 = .ok (.istore_n 2, 1) := by decide +kernel
theorem dX9_dues_20 : decode cX9_dues 20 = .ok (.iload_n 2, 1) := by decide +kernel
theorem dX9_dues_21 : decode cX9_dues 21 = .ok (.aload_n 0, 1) := by decide +kernel
theorem dX9_dues_22 : decode cX9_dues 22 = .ok (.getfield 24, 3) := by decide +kernel
theorem dX9_dues_25 : decode cX9_dues 25 = .ok (.getfield 100, 3) := by decide +kernel
theorem dX9_dues_28 : decode cX9_dues 28 = .ok (.getfield 284, 3) := by decide +kernel
theorem dX9_dues_31 : decode cX9_dues 31 = .ok (.if_icmp .ge 65, 3) := by decide +kernel
theorem dX9_dues_34 : decode cX9_dues 34 = .ok (.aload_n 0, 1) := by decide +kernel
theorem dX9_dues_35 : decode cX9_dues 35 = .ok (.aload_n 0, 1) := by decide +kernel
theorem dX9_dues_36 : decode cX9_dues 36 = .ok (.getfield 24, 3) := by decide +kernel
theorem dX9_dues_39 : decode cX9_dues 39 = .ok (.getfield 100, 3) := by decide +kernel
theorem dX9_dues_42 : decode cX9_dues 42 = .ok (.getfield 162, 3) := by decide +kernel
theorem dX9_dues_45 : decode cX9_dues 45 = .ok (.iload_n 2, 1) := by decide +kernel
theorem dX9_dues_46 : decode cX9_dues 46 = .ok (.iaload, 1) := by decide +kernel
theorem dX9_dues_47 : decode cX9_dues 47 = .ok (.aload_n 0, 1) := by decide +kernel
theorem dX9_dues_48 : decode cX9_dues 48 = .ok (.getfield 24, 3) := by decide +kernel
theorem dX9_dues_51 : decode cX9_dues 51 = .ok (.getfield 100, 3) := by decide +kernel
theorem dX9_dues_54 : decode cX9_dues 54 = .ok (.getfield 165, 3) := by decide +kernel
theorem dX9_dues_57 : decode cX9_dues 57 = .ok (.iload_n 2, 1) := by decide +kernel
theorem dX9_dues_58 : decode cX9_dues 58 = .ok (.iaload, 1) := by decide +kernel
theorem dX9_dues_59 : decode cX9_dues 59 = .ok (.invokevirtual 264, 3) := by decide +kernel
theorem dX9_dues_62 : decode cX9_dues 62 = .ok (.istore_n 3, 1) := by decide +kernel
theorem dX9_dues_63 : decode cX9_dues 63 = .ok (.iload_n 3, 1) := by decide +kernel
theorem dX9_dues_64 : decode cX9_dues 64 = .ok (.iconst (-1), 1) := by decide +kernel
theorem dX9_dues_65 : decode cX9_dues 65 = .ok (.if_icmp .eq 25, 3) := by decide +kernel
theorem dX9_dues_68 : decode cX9_dues 68 = .ok (.iload_n 3, 1) := by decide +kernel
theorem dX9_dues_69 : decode cX9_dues 69 = .ok (.aload_n 0, 1) := by decide +kernel
theorem dX9_dues_70 : decode cX9_dues 70 = .ok (.getfield 24, 3) := by decide +kernel
theorem dX9_dues_73 : decode cX9_dues 73 = .ok (.getfield 100, 3) := by decide +kernel
theorem dX9_dues_76 : decode cX9_dues 76 = .ok (.getfield 168, 3) := by decide +kernel
theorem dX9_dues_79 : decode cX9_dues 79 = .ok (.iload_n 2, 1) := by decide +kernel
theorem dX9_dues_80 : decode cX9_dues 80 = .ok (.iaload, 1) := by decide +kernel
theorem dX9_dues_81 : decode cX9_dues 81 = .ok (.if_icmp .gt 9, 3) := by decide +kernel
theorem dX9_dues_84 : decode cX9_dues 84 = .ok (.iload_n 1, 1) := by decide +kernel
theorem dX9_dues_85 : decode cX9_dues 85 = .ok (.iconst 1, 1) := by decide +kernel
theorem dX9_dues_86 : decode cX9_dues 86 = .ok (.iload_n 2, 1) := by decide +kernel
theorem dX9_dues_87 : decode cX9_dues 87 = .ok (.ishl, 1) := by decide +kernel
theorem dX9_dues_88 : decode cX9_dues 88 = .ok (.ior, 1) := by decide +kernel
theorem dX9_dues_89 : decode cX9_dues 89 = .ok (.istore_n 1, 1) := by decide +kernel
theorem dX9_dues_90 : decode cX9_dues 90 = .ok (.iinc 2 1, 3) := by decide +kernel
theorem dX9_dues_93 : decode cX9_dues 93 = .ok (.goto (-73), 3) := by decide +kernel
theorem dX9_dues_96 : decode cX9_dues 96 = .ok (.iload_n 1, 1) := by decide +kernel
theorem dX9_dues_97 : decode cX9_dues 97 = .ok (.ireturn, 1) := by decide +kernel
theorem dX9_end_0 : decode cX9_end 0 = .ok (.iload_n 1, 1) := by decide +kernel
theorem dX9_end_1 : decode cX9_end 1 = .ok (.ifCond .lt 14, 3) := by decide +kernel
theorem dX9_end_4 : decode cX9_end 4 = .ok (.iload_n 1, 1) := by decide +kernel
theorem dX9_end_5 : decode cX9_end 5 = .ok (.aload_n 0, 1) := by decide +kernel
theorem dX9_end_6 : decode cX9_end 6 = .ok (.getfield 20, 3) := by decide +kernel
theorem dX9_end_9 : decode cX9_end 9 = .ok (.getfield 85, 3) := by decide +kernel
theorem dX9_end_12 : decode cX9_end 12 = .ok (.if_icmp .le 5, 3) := by decide +kernel
theorem dX9_end_15 : decode cX9_end 15 = .ok (.iconst (-1), 1) := by decide +kernel
theorem dX9_end_16 : decode cX9_end 16 = .ok (.ireturn, 1) := by decide +kernel
theorem dX9_end_17 : decode cX9_end 17 = .ok (.aload_n 0, 1) := by decide +kernel
theorem dX9_end_18 : decode cX9_end 18 = .ok (.getfield 20, 3) := by decide +kernel
theorem dX9_end_21 : decode cX9_end 21 = .ok (.iload_n 1, 1) := by decide +kernel
theorem dX9_end_22 : decode cX9_end 22 = .ok (.putfield 85, 3) := by decide +kernel
theorem dX9_end_25 : decode cX9_end 25 = .ok (.iload_n 1, 1) := by decide +kernel
theorem dX9_end_26 : decode cX9_end 26 = .ok (.ireturn, 1) := by decide +kernel
theorem dX9_ends_0 : decode cX9_ends 0 = .ok (.aload_n 0, 1) := by decide +kernel
theorem dX9_ends_1 : decode cX9_ends 1 = .ok (.iload_n 1, 1) := by decide +kernel
theorem dX9_ends_2 : decode cX9_ends 2 = .ok (.iload_n 2, 1) := by decide +kernel
theorem dX9_ends_3 : decode cX9_ends 3 = .ok (.invokevirtual 220, 3) := by decide +kernel
theorem dX9_ends_6 : decode cX9_ends 6 = .ok (.istore_n 3, 1) := by decide +kernel
theorem dX9_ends_7 : decode cX9_ends 7 = .ok (.iload_n 3, 1) := by decide +kernel
theorem dX9_ends_8 : decode cX9_ends 8 = .ok (.ifCond .eq 7, 3) := by decide +kernel
theorem dX9_ends_11 : decode cX9_ends 11 = .ok (.iload_n 3, 1) := by decide +kernel
theorem dX9_ends_12 : decode cX9_ends 12 = .ok (.goto 10, 3) := by decide +kernel
theorem dX9_ends_15 : decode cX9_ends 15 = .ok (.aload_n 0, 1) := by decide +kernel
theorem dX9_ends_16 : decode cX9_ends 16 = .ok (.getfield 53, 3) := by decide +kernel
theorem dX9_ends_19 : decode cX9_ends 19 = .ok (.getfield 226, 3) := by decide +kernel
theorem dX9_ends_22 : decode cX9_ends 22 = .ok (.ireturn, 1) := by decide +kernel
theorem dX9_errand_0 : decode cX9_errand 0 = .ok (.aload_n 0, 1) := by decide +kernel
theorem dX9_errand_1 : decode cX9_errand 1 = .ok (.getfield 24, 3) := by decide +kernel
theorem dX9_errand_4 : decode cX9_errand 4 = .ok (.getfield 100, 3) := by decide +kernel
theorem dX9_errand_7 : decode cX9_errand 7 = .ok (.iload_n 1, 1) := by decide +kernel
theorem dX9_errand_8 : decode cX9_errand 8 = .ok (.invokevirtual 159, 3) := by decide +kernel
theorem dX9_errand_11 : decode cX9_errand 11 = .ok (.ifCond .ne 6, 3) := by decide +kernel
theorem dX9_errand_14 : decode cX9_errand 14 = .ok (.bipush (-2), 2) := by decide +kernel
theorem dX9_errand_16 : decode cX9_errand 16 = .ok (.ireturn, 1) := by decide +kernel
theorem dX9_errand_17 : decode cX9_errand 17 = .ok (.iload_n 2, 1) := by decide +kernel
theorem dX9_errand_18 : decode cX9_errand 18 = .ok (.tableswitch 65 0 2 #[26, 39, 52], 26) := by decide +kernel
theorem dX9_errand_44 : decode cX9_errand 44 = .ok (.aload_n 0, 1) := by decide +kernel
theorem dX9_errand_45 : decode cX9_errand 45 = .ok (.getfield 24, 3) := by decide +kernel
theorem dX9_errand_48 : decode cX9_errand 48 = .ok (.getfield 100, 3) := by decide +kernel
theorem dX9_errand_51 : decode cX9_errand 51 = .ok (.getfield 162, 3) := by decide +kernel
theorem dX9_errand_54 : decode cX9_errand 54 = .ok (.iload_n 1, 1) := by decide +kernel
theorem dX9_errand_55 : decode cX9_errand 55 = .ok (.iaload, 1) := by decide +kernel
theorem dX9_errand_56 : decode cX9_errand 56 = .ok (.ireturn, 1) := by decide +kernel
theorem dX9_errand_57 : decode cX9_errand 57 = .ok (.aload_n 0, 1) := by decide +kernel
theorem dX9_errand_58 : decode cX9_errand 58 = .ok (.getfield 24, 3) := by decide +kernel
theorem dX9_errand_61 : decode cX9_errand 61 = .ok (.getfield 100, 3) := by decide +kernel
theorem dX9_errand_64 : decode cX9_errand 64 = .ok (.getfield 165, 3) := by decide +kernel
theorem dX9_errand_67 : decode cX9_errand 67 = .ok (.iload_n 1, 1) := by decide +kernel
theorem dX9_errand_68 : decode cX9_errand 68 = .ok (.iaload, 1) := by decide +kernel
theorem dX9_errand_69 : decode cX9_errand 69 = .ok (.ireturn, 1) := by decide +kernel
theorem dX9_errand_70 : decode cX9_errand 70 = .ok (.aload_n 0, 1) := by decide +kernel
theorem dX9_errand_71 : decode cX9_errand 71 = .ok (.getfield 24, 3) := by decide +kernel
theorem dX9_errand_74 : decode cX9_errand 74 = .ok (.getfield 100, 3) := by decide +kernel
theorem dX9_errand_77 : decode cX9_errand 77 = .ok (.getfield 168, 3) := by decide +kernel
theorem dX9_errand_80 : decode cX9_errand 80 = .ok (.iload_n 1, 1) := by decide +kernel
theorem dX9_errand_81 : decode cX9_errand 81 = .ok (.iaload, 1) := by decide +kernel
theorem dX9_errand_82 : decode cX9_errand 82 = .ok (.ireturn, 1) := by decide +kernel
theorem dX9_errand_83 : decode cX9_errand 83 = .ok (.bipush (-2), 2) := by decide +kernel
theorem dX9_errand_85 : decode cX9_errand 85 = .ok (.ireturn, 1) := by decide +kernel
theorem dX9_far_0 : decode cX9_far 0 = .ok (.aload_n 0, 1) := by decide +kernel
theorem dX9_far_1 : decode cX9_far 1 = .ok (.getfield 24, 3) := by decide +kernel
theorem dX9_far_4 : decode cX9_far 4 = .ok (.getfield 100, 3) := by decide +kernel
theorem dX9_far_7 : decode cX9_far 7 = .ok (.iload_n 1, 1) := by decide +kernel
theorem dX9_far_8 : decode cX9_far 8 = .ok (.invokevirtual 171, 3) := by decide +kernel
theorem dX9_far_11 : decode cX9_far 11 = .ok (.ifCond .eq 17, 3) := by decide +kernel
theorem dX9_far_14 : decode cX9_far 14 = .ok (.aload_n 0, 1) := by decide +kernel
theorem dX9_far_15 : decode cX9_far 15 = .ok (.getfield 24, 3) := by decide +kernel
theorem dX9_far_18 : decode cX9_far 18 = .ok (.getfield 100, 3) := by decide +kernel
theorem dX9_far_21 : decode cX9_far 21 = .ok (.iload_n 2, 1) := by decide +kernel
theorem dX9_far_22 : decode cX9_far 22 = .ok (.invokevirtual 171, 3) := by decide +kernel
theorem dX9_far_25 : decode cX9_far 25 = .ok (.ifCond .ne 6, 3) := by decide +kernel
theorem dX9_far_28 : decode cX9_far 28 = .ok (.bipush (-2), 2) := by decide +kernel
theorem dX9_far_30 : decode cX9_far 30 = .ok (.ireturn, 1) := by decide +kernel
theorem dX9_far_31 : decode cX9_far 31 = .ok (.aload_n 0, 1) := by decide +kernel
theorem dX9_far_32 : decode cX9_far 32 = .ok (.getfield 60, 3) := by decide +kernel
theorem dX9_far_35 : decode cX9_far 35 = .ok (.aload_n 0, 1) := by decide +kernel
theorem dX9_far_36 : decode cX9_far 36 = .ok (.getfield 24, 3) := by decide +kernel
theorem dX9_far_39 : decode cX9_far 39 = .ok (.getfield 100, 3) := by decide +kernel
theorem dX9_far_42 : decode cX9_far 42 = .ok (.iconst (-1), 1) := by decide +kernel
theorem dX9_far_43 : decode cX9_far 43 = .ok (.iload_n 2, 1) := by decide +kernel
theorem dX9_far_44 : decode cX9_far 44 = .ok (.invokevirtual 276, 3) := by decide +kernel
theorem dX9_far_47 : decode cX9_far 47 = .ok (.aload_n 0, 1) := by decide +kernel
theorem dX9_far_48 : decode cX9_far 48 = .ok (.getfield 60, 3) := by decide +kernel
theorem dX9_far_51 : decode cX9_far 51 = .ok (.getfield 280, 3) := by decide +kernel
theorem dX9_far_54 : decode cX9_far 54 = .ok (.iload_n 1, 1) := by decide +kernel
theorem dX9_far_55 : decode cX9_far 55 = .ok (.iaload, 1) := by decide +kernel
theorem dX9_far_56 : decode cX9_far 56 = .ok (.ldc_w 283, 3) := by decide +kernel
theorem dX9_far_59 : decode cX9_far 59 = .ok (.if_icmp .ge 15, 3) := by decide +kernel
theorem dX9_far_62 : decode cX9_far 62 = .ok (.aload_n 0, 1) := by decide +kernel
theorem dX9_far_63 : decode cX9_far 63 = .ok (.getfield 60, 3) := by decide +kernel
theorem dX9_far_66 : decode cX9_far 66 = .ok (.getfield 280, 3) := by decide +kernel
theorem dX9_far_69 : decode cX9_far 69 = .ok (.iload_n 1, 1) := by decide +kernel
theorem dX9_far_70 : decode cX9_far 70 = .ok (.iaload, 1) := by decide +kernel
theorem dX9_far_71 : decode cX9_far 71 = .ok (.goto 4, 3) := by decide +kernel
theorem dX9_far_74 : decode cX9_far 74 = .ok (.iconst (-1), 1) := by decide +kernel
theorem dX9_far_75 : decode cX9_far 75 = .ok (.ireturn, 1) := by decide +kernel
theorem dX9_fault_0 : decode cX9_fault 0 = .ok (.iload_n 1, 1) := by decide +kernel
theorem dX9_fault_1 : decode cX9_fault 1 = .ok (.ifCond .ne 11, 3) := by decide +kernel
theorem dX9_fault_4 : decode cX9_fault 4 = .ok (.aload_n 0, 1) := by decide +kernel
theorem dX9_fault_5 : decode cX9_fault 5 = .ok (.getfield 10, 3) := by decide +kernel
theorem dX9_fault_8 : decode cX9_fault 8 = .ok (.getfield 108, 3) := by decide +kernel
theorem dX9_fault_11 : decode cX9_fault 11 = .ok (.ireturn, 1) := by decide +kernel
theorem dX9_fault_12 : decode cX9_fault 12 = .ok (.iload_n 1, 1) := by decide +kernel
theorem dX9_fault_13 : decode cX9_fault 13 = .ok (.iconst 1, 1) := by decide +kernel
theorem dX9_fault_14 : decode cX9_fault 14 = .ok (.if_icmp .ne 13, 3) := by decide +kernel
theorem dX9_fault_17 : decode cX9_fault 17 = .ok (.aload_n 0, 1) := by decide +kernel
theorem dX9_fault_18 : decode cX9_fault 18 = .ok (.getfield 10, 3) := by decide +kernel
theorem dX9_fault_21 : decode cX9_fault 21 = .ok (.getfield 111, 3) := by decide +kernel
theorem dX9_fault_24 : decode cX9_fault 24 = .ok (.goto 4, 3) := by decide +kernel
theorem dX9_fault_27 : decode cX9_fault 27 = .ok (.iconst (-1), 1) := by decide +kernel
theorem dX9_fault_28 : decode cX9_fault 28 = .ok (.ireturn, 1) := by decide +kernel
theorem dX9_feed_0 : decode cX9_feed 0 = .ok (.aload_n 0, 1) := by decide +kernel
theorem dX9_feed_1 : decode cX9_feed 1 = .ok (.getfield 20, 3) := by decide +kernel
theorem dX9_feed_4 : decode cX9_feed 4 = .ok (.invokevirtual 75, 3) := by decide +kernel
theorem dX9_feed_7 : decode cX9_feed 7 = .ok (.ifCond .ne 5, 3) := by decide +kernel
theorem dX9_feed_10 : decode cX9_feed 10 = .ok (.iconst (-1), 1) := by decide +kernel
theorem dX9_feed_11 : decode cX9_feed 11 = .ok (.ireturn, 1) := by decide +kernel
theorem dX9_feed_12 : decode cX9_feed 12 = .ok (.aload_n 0, 1) := by decide +kernel
theorem dX9_feed_13 : decode cX9_feed 13 = .ok (.getfield 20, 3) := by decide +kernel
theorem dX9_feed_16 : decode cX9_feed 16 = .ok (.iload_n 1, 1) := by decide +kernel
theorem dX9_feed_17 : decode cX9_feed 17 = .ok (.invokevirtual 81, 3) := by decide +kernel
theorem dX9_feed_20 : decode cX9_feed 20 = .ok (.aload_n 0, 1) := by decide +kernel
theorem dX9_feed_21 : decode cX9_feed 21 = .ok (.getfield 20, 3) := by decide +kernel
theorem dX9_feed_24 : decode cX9_feed 24 = .ok (.iload_n 2, 1) := by decide +kernel
theorem dX9_feed_25 : decode cX9_feed 25 = .ok (.invokevirtual 81, 3) := by decide +kernel
theorem dX9_feed_28 : decode cX9_feed 28 = .ok (.aload_n 0, 1) := by decide +kernel
theorem dX9_feed_29 : decode cX9_feed 29 = .ok (.getfield 20, 3) := by decide +kernel
theorem dX9_feed_32 : decode cX9_feed 32 = .ok (.iload_n 3, 1) := by decide +kernel
theorem dX9_feed_33 : decode cX9_feed 33 = .ok (.invokevirtual 81, 3) := by decide +kernel
theorem dX9_feed_36 : decode cX9_feed 36 = .ok (.aload_n 0, 1) := by decide +kernel
theorem dX9_feed_37 : decode cX9_feed 37 = .ok (.getfield 20, 3) := by decide +kernel
theorem dX9_feed_40 : decode cX9_feed 40 = .ok (.iload 4, 2) := by decide +kernel
theorem dX9_feed_42 : decode cX9_feed 42 = .ok (.invokevirtual 81, 3) := by decide +kernel
theorem dX9_feed_45 : decode cX9_feed 45 = .ok (.aload_n 0, 1) := by decide +kernel
theorem dX9_feed_46 : decode cX9_feed 46 = .ok (.getfield 20, 3) := by decide +kernel
theorem dX9_feed_49 : decode cX9_feed 49 = .ok (.iload 5, 2) := by decide +kernel
theorem dX9_feed_51 : decode cX9_feed 51 = .ok (.invokevirtual 81, 3) := by decide +kernel
theorem dX9_feed_54 : decode cX9_feed 54 = .ok (.aload_n 0, 1) := by decide +kernel
theorem dX9_feed_55 : decode cX9_feed 55 = .ok (.getfield 20, 3) := by decide +kernel
theorem dX9_feed_58 : decode cX9_feed 58 = .ok (.getfield 85, 3) := by decide +kernel
theorem dX9_feed_61 : decode cX9_feed 61 = .ok (.ireturn, 1) := by decide +kernel
theorem dX9_fits_0 : decode cX9_fits 0 = .ok (.aload_n 0, 1) := by decide +kernel
theorem dX9_fits_1 : decode cX9_fits 1 = .ok (.iload_n 1, 1) := by decide +kernel
theorem dX9_fits_2 : decode cX9_fits 2 = .ok (.invokevirtual 332, 3) := by decide +kernel
theorem dX9_fits_5 : decode cX9_fits 5 = .ok (.ireturn, 1) := by decide +kernel
theorem dX9_fitting_0 : decode cX9_fitting 0 = .ok (.aload_n 0, 1) := by decide +kernel
theorem dX9_fitting_1 : decode cX9_fitting 1 = .ok (.getfield 39, 3) := by decide +kernel
theorem dX9_fitting_4 : decode cX9_fitting 4 = .ok (.iload_n 1, 1) := by decide +kernel
theorem dX9_fitting_5 : decode cX9_fitting 5 = .ok (.invokevirtual 238, 3) := by decide +kernel
theorem dX9_fitting_8 : decode cX9_fitting 8 = .ok (.ifCond .eq 16, 3) := by decide +kernel
theorem dX9_fitting_11 : decode cX9_fitting 11 = .ok (.aload_n 0, 1) := by decide +kernel
theorem dX9_fitting_12 : decode cX9_fitting 12 = .ok (.getfield 24, 3) := by decide +kernel
theorem dX9_fitting_15 : decode cX9_fitting 15 = .ok (.getfield 100, 3) := by decide +kernel
theorem dX9_fitting_18 : decode cX9_fitting 18 = .ok (.invokevirtual 211, 3) := by decide +kernel
theorem dX9_fitting_21 : decode cX9_fitting 21 = .ok (.ifCond .ne 6, 3) := by decide +kernel
theorem dX9_fitting_24 : decode cX9_fitting 24 = .ok (.bipush (-2), 2) := by decide +kernel
theorem dX9_fitting_26 : decode cX9_fitting 26 = .ok (.ireturn, 1) := by decide +kernel
theorem dX9_fitting_27 : decode cX9_fitting 27 = .ok (.aload_n 0, 1) := by decide +kernel
theorem dX9_fitting_28 : decode cX9_fitting 28 = .ok (.getfield 39, 3) := by decide +kernel
theorem dX9_fitting_31 : decode cX9_fitting 31 = .ok (.iload_n 1, 1) := by decide +kernel
theorem dX9_fitting_32 : decode cX9_fitting 32 = .ok (.invokevirtual 241, 3) := by decide +kernel
theorem dX9_fitting_35 : decode cX9_fitting 35 = .ok (.ifCond .ne 6, 3) := by decide +kernel
theorem dX9_fitting_38 : decode cX9_fitting 38 = .ok (.bipush (-6), 2) := by decide +kernel
theorem dX9_fitting_40 : decode cX9_fitting 40 = .ok (.ireturn, 1) := by decide +kernel
theorem dX9_fitting_41 : decode cX9_fitting 41 = .ok (.aload_n 0, 1) := by decide +kernel
theorem dX9_fitting_42 : decode cX9_fitting 42 = .ok (.getfield 39, 3) := by decide +kernel
theorem dX9_fitting_45 : decode cX9_fitting 45 = .ok (.getfield 244, 3) := by decide +kernel
theorem dX9_fitting_48 : decode cX9_fitting 48 = .ok (.iload_n 1, 1) := by decide +kernel
theorem dX9_fitting_49 : decode cX9_fitting 49 = .ok (.iaload, 1) := by decide +kernel
theorem dX9_fitting_50 : decode cX9_fitting 50 = .ok (.istore_n 2, 1) := by decide +kernel
theorem dX9_fitting_51 : decode cX9_fitting 51 = .ok (.iload_n 2, 1) := by decide +kernel
theorem dX9_fitting_52 : decode cX9_fitting 52 = .ok (.iconst 2, 1) := by decide +kernel
theorem dX9_fitting_53 : decode cX9_fitting 53 = .ok (.irem, 1) := by decide +kernel
theorem dX9_fitting_54 : decode cX9_fitting 54 = .ok (.ifCond .eq 6, 3) := by decide +kernel
theorem dX9_fitting_57 : decode cX9_fitting 57 = .ok (.bipush (-2), 2) := by decide +kernel
theorem dX9_fitting_59 : decode cX9_fitting 59 = .ok (.ireturn, 1) := by decide +kernel
theorem dX9_fitting_60 : decode cX9_fitting 60 = .ok (.iconst 1, 1) := by decide +kernel
theorem dX9_fitting_61 : decode cX9_fitting 61 = .ok (.aload_n 0, 1) := by decide +kernel
theorem dX9_fitting_62 : decode cX9_fitting 62 = .ok (.getfield 24, 3) := by decide +kernel
theorem dX9_fitting_65 : decode cX9_fitting 65 = .ok (.getfield 100, 3) := by decide +kernel
theorem dX9_fitting_68 : decode cX9_fitting 68 = .ok (.getfield 314, 3) := by decide +kernel
theorem dX9_fitting_71 : decode cX9_fitting 71 = .ok (.ishl, 1) := by decide +kernel
theorem dX9_fitting_72 : decode cX9_fitting 72 = .ok (.iconst 1, 1) := by decide +kernel
theorem dX9_fitting_73 : decode cX9_fitting 73 = .ok (.isub, 1) := by decide +kernel
theorem dX9_fitting_74 : decode cX9_fitting 74 = .ok (.istore_n 3, 1) := by decide +kernel
theorem dX9_fitting_75 : decode cX9_fitting 75 = .ok (.iconst 0, 1) := by decide +kernel
theorem dX9_fitting_76 : decode cX9_fitting 76 = .ok (.istore 4, 2) := by decide +kernel
theorem dX9_fitting_78 : decode cX9_fitting 78 = .ok (.iload 4, 2) := by decide +kernel
theorem dX9_fitting_80 : decode cX9_fitting 80 = .ok (.iconst 1, 1) := by decide +kernel
theorem dX9_fitting_81 : decode cX9_fitting 81 = .ok (.iadd, 1) := by decide +kernel
theorem dX9_fitting_82 : decode cX9_fitting 82 = .ok (.iload_n 2, 1) := by decide +kernel
theorem dX9_fitting_83 : decode cX9_fitting 83 = .ok (.if_icmp .ge 122, 3) := by decide +kernel
theorem dX9_fitting_86 : decode cX9_fitting 86 = .ok (.aload_n 0, 1) := by decide +kernel
theorem dX9_fitting_87 : decode cX9_fitting 87 = .ok (.getfield 39, 3) := by decide +kernel
theorem dX9_fitting_90 : decode cX9_fitting 90 = .ok (.getfield 247, 3) := by decide +kernel
theorem dX9_fitting_93 : decode cX9_fitting 93 = .ok (.iload_n 1, 1) := by decide +kernel
theorem dX9_fitting_94 : decode cX9_fitting 94 = .ok (.aaload, 1) := by decide +kernel
theorem dX9_fitting_95 : decode cX9_fitting 95 = .ok (.iload 4, 2) := by decide +kernel
theorem dX9_fitting_97 : decode cX9_fitting 97 = .ok (.laload, 1) := by decide +kernel
theorem dX9_fitting_98 : decode cX9_fitting 98 = .ok (.lstore 5, 2) := by decide +kernel
theorem dX9_fitting_100 : decode cX9_fitting 100 = .ok (.aload_n 0, 1) := by decide +kernel
theorem dX9_fitting_101 : decode cX9_fitting 101 = .ok (.getfield 39, 3) := by decide +kernel
theorem dX9_fitting_104 : decode cX9_fitting 104 = .ok (.getfield 247, 3) := by decide +kernel
theorem dX9_fitting_107 : decode cX9_fitting 107 = .ok (.iload_n 1, 1) := by decide +kernel
theorem dX9_fitting_108 : decode cX9_fitting 108 = .ok (.aaload, 1) := by decide +kernel
theorem dX9_fitting_109 : decode cX9_fitting 109 = .ok (.iload 4, 2) := by decide +kernel
theorem dX9_fitting_111 : decode cX9_fitting 111 = .ok (.iconst 1, 1) := by decide +kernel
theorem dX9_fitting_112 : decode cX9_fitting 112 = .ok (.iadd, 1) := by decide +kernel
theorem dX9_fitting_113 : decode cX9_fitting 113 = .ok (.laload, 1) := by decide +kernel
theorem dX9_fitting_114 : decode cX9_fitting 114 = .ok (.lstore 7, 2) := by decide +kernel
theorem dX9_fitting_116 : decode cX9_fitting 116 = .ok (.lload 5, 2) := by decide +kernel
theorem dX9_fitting_118 : decode cX9_fitting 118 = .ok (.lconst 0, 1) := by decide +kernel
theorem dX9_fitting_119 : decode cX9_fitting 119 = .ok (.lcmp, 1) := by decide +kernel
theorem dX9_fitting_120 : decode cX9_fitting 120 = .ok (.ifCond .lt 63, 3) := by decide +kernel
theorem dX9_fitting_123 : decode cX9_fitting 123 = .ok (.lload 5, 2) := by decide +kernel
theorem dX9_fitting_125 : decode cX9_fitting 125 = .ok (.aload_n 0, 1) := by decide +kernel
theorem dX9_fitting_126 : decode cX9_fitting 126 = .ok (.getfield 24, 3) := by decide +kernel
theorem dX9_fitting_129 : decode cX9_fitting 129 = .ok (.getfield 100, 3) := by decide +kernel
theorem dX9_fitting_132 : decode cX9_fitting 132 = .ok (.getfield 273, 3) := by decide +kernel
theorem dX9_fitting_135 : decode cX9_fitting 135 = .ok (.i2l, 1) := by decide +kernel
theorem dX9_fitting_136 : decode cX9_fitting 136 = .ok (.lcmp, 1) := by decide +kernel
theorem dX9_fitting_137 : decode cX9_fitting 137 = .ok (.ifCond .ge 46, 3) := by decide +kernel
theorem dX9_fitting_140 : decode cX9_fitting 140 = .ok (.lload 7, 2) := by decide +kernel
theorem dX9_fitting_142 : decode cX9_fitting 142 = .ok (.lconst 0, 1) := by decide +kernel
theorem dX9_fitting_143 : decode cX9_fitting 143 = .ok (.lcmp, 1) := by decide +kernel
theorem dX9_fitting_144 : decode cX9_fitting 144 = .ok (.ifCond .lt 39, 3) := by decide +kernel
theorem dX9_fitting_147 : decode cX9_fitting 147 = .ok (.lload 7, 2) := by decide +kernel
theorem dX9_fitting_149 : decode cX9_fitting 149 = .ok (.aload_n 0, 1) := by decide +kernel
theorem dX9_fitting_150 : decode cX9_fitting 150 = .ok (.getfield 24, 3) := by decide +kernel
theorem dX9_fitting_153 : decode cX9_fitting 153 = .ok (.getfield 100, 3) := by decide +kernel
theorem dX9_fitting_156 : decode cX9_fitting 156 = .ok (.getfield 188, 3) := by decide +kernel
theorem dX9_fitting_159 : decode cX9_fitting 159 = .ok (.i2l, 1) := by decide +kernel
theorem dX9_fitting_160 : decode cX9_fitting 160 = .ok (.lcmp, 1) := by decide +kernel
theorem dX9_fitting_161 : decode cX9_fitting 161 = .ok (.ifCond .ge 22, 3) := by decide +kernel
theorem dX9_fitting_164 : decode cX9_fitting 164 = .ok (.aload_n 0, 1) := by decide +kernel
theorem dX9_fitting_165 : decode cX9_fitting 165 = .ok (.getfield 24, 3) := by decide +kernel
theorem dX9_fitting_168 : decode cX9_fitting 168 = .ok (.getfield 100, 3) := by decide +kernel
theorem dX9_fitting_171 : decode cX9_fitting 171 = .ok (.lload 7, 2) := by decide +kernel
theorem dX9_fitting_173 : decode cX9_fitting 173 = .ok (.l2i, 1) := by decide +kernel
theorem dX9_fitting_174 : decode cX9_fitting 174 = .ok (.lload 5, 2) := by decide +kernel
theorem dX9_fitting_176 : decode cX9_fitting 176 = .ok (.l2i, 1) := by decide +kernel
theorem dX9_fitting_177 : decode cX9_fitting 177 = .ok (.invokevirtual 201, 3) := by decide +kernel
theorem dX9_fitting_180 : decode cX9_fitting 180 = .ok (.ifCond .ne 6, 3) := by decide +kernel
theorem dX9_fitting_183 : decode cX9_fitting 183 = .ok (.bipush (-2), 2) := by decide +kernel
theorem dX9_fitting_185 : decode cX9_fitting 185 = .ok (.ireturn, 1) := by decide +kernel
theorem dX9_fitting_186 : decode cX9_fitting 186 = .ok (.iload_n 3, 1) := by decide +kernel
theorem dX9_fitting_187 : decode cX9_fitting 187 = .ok (.aload_n 0, 1) := by decide +kernel
theorem dX9_fitting_188 : decode cX9_fitting 188 = .ok (.lload 5, 2) := by decide +kernel
theorem dX9_fitting_190 : decode cX9_fitting 190 = .ok (.l2i, 1) := by decide +kernel
theorem dX9_fitting_191 : decode cX9_fitting 191 = .ok (.lload 7, 2) := by decide +kernel
theorem dX9_fitting_193 : decode cX9_fitting 193 = .ok (.l2i, 1) := by decide +kernel
theorem dX9_fitting_194 : decode cX9_fitting 194 = .ok (.invokevirtual 341, 3) := by decide +kernel
theorem dX9_fitting_197 : decode cX9_fitting 197 = .ok (.iand, 1) := by decide +kernel
theorem dX9_fitting_198 : decode cX9_fitting 198 = .ok (.istore_n 3, 1) := by decide +kernel
theorem dX9_fitting_199 : decode cX9_fitting 199 = .ok (.iinc 4 2, 3) := by decide +kernel
theorem dX9_fitting_202 : decode cX9_fitting 202 = .ok (.goto (-124), 3) := by decide +kernel
theorem dX9_fitting_205 : decode cX9_fitting 205 = .ok (.iload_n 3, 1) := by decide +kernel
theorem dX9_fitting_206 : decode cX9_fitting 206 = .ok (.ireturn, 1) := by decide +kernel
theorem dX9_follow_0 : decode cX9_follow 0 = .ok (.aload_n 0, 1) := by decide +kernel
theorem dX9_follow_1 : decode cX9_follow 1 = .ok (.getfield 39, 3) := by decide +kernel
theorem dX9_follow_4 : decode cX9_follow 4 = .ok (.iload_n 1, 1) := by decide +kernel
theorem dX9_follow_5 : decode cX9_follow 5 = .ok (.invokevirtual 238, 3) := by decide +kernel
theorem dX9_follow_8 : decode cX9_follow 8 = .ok (.ifCond .eq 17, 3) := by decide +kernel
theorem dX9_follow_11 : decode cX9_follow 11 = .ok (.aload_n 0, 1) := by decide +kernel
theorem dX9_follow_12 : decode cX9_follow 12 = .ok (.getfield 24, 3) := by decide +kernel
theorem dX9_follow_15 : decode cX9_follow 15 = .ok (.getfield 100, 3) := by decide +kernel
theorem dX9_follow_18 : decode cX9_follow 18 = .ok (.iload_n 2, 1) := by decide +kernel
theorem dX9_follow_19 : decode cX9_follow 19 = .ok (.invokevirtual 147, 3) := by decide +kernel
theorem dX9_follow_22 : decode cX9_follow 22 = .ok (.ifCond .ne 6, 3) := by decide +kernel
theorem dX9_follow_25 : decode cX9_follow 25 = .ok (.bipush (-2), 2) := by decide +kernel
theorem dX9_follow_27 : decode cX9_follow 27 = .ok (.ireturn, 1) := by decide +kernel
theorem dX9_follow_28 : decode cX9_follow 28 = .ok (.aload_n 0, 1) := by decide +kernel
