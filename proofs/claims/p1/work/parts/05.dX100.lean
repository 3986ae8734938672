theorem dX10_at_0 : decode cX10_at 0 = .ok (.aload_n 0, 1) := by decide +kernel
theorem dX10_at_1 : decode cX10_at 1 = .ok (.iconst 0, 1) := by decide +kernel
theorem dX10_at_2 : decode cX10_at 2 = .ok (.putfield 137, 3) := by decide +kernel
theorem dX10_at_5 : decode cX10_at 5 = .ok (.aload_n 0, 1) := by decide +kernel
theorem dX10_at_6 : decode cX10_at 6 = .ok (.iload_n 1, 1) := by decide +kernel
theorem dX10_at_7 : decode cX10_at 7 = .ok (.iconst 0, 1) := by decide +kernel
theorem dX10_at_8 : decode cX10_at 8 = .ok (.aload_n 0, 1) := by decide +kernel
theorem dX10_at_9 : decode cX10_at 9 = .ok (.getfield 168, 3) := by decide +kernel
theorem dX10_at_12 : decode cX10_at 12 = .ok (.iconst 1, 1) := by decide +kernel
theorem dX10_at_13 : decode cX10_at 13 = .ok (.isub, 1) := by decide +kernel
theorem dX10_at_14 : decode cX10_at 14 = .ok (.invokestatic 179, 3) := by decide +kernel
theorem dX10_at_17 : decode cX10_at 17 = .ok (.ifCond .ne 7, 3) := by decide +kernel
theorem dX10_at_20 : decode cX10_at 20 = .ok (.iconst 1, 1) := by decide +kernel
theorem dX10_at_21 : decode cX10_at 21 = .ok (.goto 4, 3) := by decide +kernel
theorem dX10_at_25 : decode cX10_at 25 = .ok (.iconst 1, 1) := by decide +kernel
theorem dX10_at_26 : decode cX10_at 26 = .ok (.invokevirtual 171, 3) := by decide +kernel
theorem dX10_at_29 : decode cX10_at 29 = .ok (.ifCond .eq 7, 3) := by decide +kernel
theorem dX10_at_32 : decode cX10_at 32 = .ok (.iconst 0, 1) := by decide +kernel
theorem dX10_at_33 : decode cX10_at 33 = .ok (.goto 11, 3) := by decide +kernel
theorem dX10_at_44 : decode cX10_at 44 = .ok (.ireturn, 1) := by decide +kernel
theorem dX10_clear_0 : decode cX10_clear 0 = .ok (.aload_n 0, 1) := by decide +kernel
theorem dX10_clear_1 : decode cX10_clear 1 = .ok (.iconst 0, 1) := by decide +kernel
theorem dX10_clear_2 : decode cX10_clear 2 = .ok (.putfield 137, 3) := by decide +kernel
theorem dX10_clear_5 : decode cX10_clear 5 = .ok (.aload_n 0, 1) := by decide +kernel
theorem dX10_clear_6 : decode cX10_clear 6 = .ok (.iconst 0, 1) := by decide +kernel
theorem dX10_clear_7 : decode cX10_clear 7 = .ok (.putfield 168, 3) := by decide +kernel
theorem dX10_clear_10 : decode cX10_clear 10 = .ok (.aload_n 0, 1) := by decide +kernel
theorem dX10_clear_11 : decode cX10_clear 11 = .ok (.iconst 0, 1) := by decide +kernel
theorem dX10_clear_12 : decode cX10_clear 12 = .ok (.putfield 188, 3) := by decide +kernel
theorem dX10_clear_15 : decode cX10_clear 15 = .ok (.aload_n 0, 1) := by decide +kernel
theorem dX10_clear_16 : decode cX10_clear 16 = .ok (.iconst 0, 1) := by decide +kernel
theorem dX10_clear_17 : decode cX10_clear 17 = .ok (.putfield 197, 3) := by decide +kernel
theorem dX10_clear_20 : decode cX10_clear 20 = .ok (.aload_n 0, 1) := by decide +kernel
theorem dX10_clear_21 : decode cX10_clear 21 = .ok (.iconst 0, 1) := by decide +kernel
theorem dX10_clear_22 : decode cX10_clear 22 = .ok (.putfield 200, 3) := by decide +kernel
theorem dX10_clear_25 : decode cX10_clear 25 = .ok (.aload_n 0, 1) := by decide +kernel
theorem dX10_clear_26 : decode cX10_clear 26 = .ok (.iconst 0, 1) := by decide +kernel
theorem dX10_clear_27 : decode cX10_clear 27 = .ok (.putfield 267, 3) := by decide +kernel
theorem dX10_clear_30 : decode cX10_clear 30 = .ok (.aload_n 0, 1) := by decide +kernel
theorem dX10_clear_31 : decode cX10_clear 31 = .ok (.iconst 0, 1) := by decide +kernel
theorem dX10_clear_32 : decode cX10_clear 32 = .ok (.putfield 243, 3) := by decide +kernel
theorem dX10_clear_35 : decode cX10_clear 35 = .ok (.aload_n 0, 1) := by decide +kernel
theorem dX10_clear_36 : decode cX10_clear 36 = .ok (.iconst (-1), 1) := by decide +kernel
theorem dX10_clear_37 : decode cX10_clear 37 = .ok (.putfield 92, 3) := by decide +kernel
theorem dX10_clear_40 : decode cX10_clear 40 = .ok (.aload_n 0, 1) := by decide +kernel
theorem dX10_clear_41 : decode cX10_clear 41 = .ok (.iconst 0, 1) := by decide +kernel
theorem dX10_clear_42 : decode cX10_clear 42 = .ok (.putfield 191, 3) := by decide +kernel
theorem dX10_clear_45 : decode cX10_clear 45 = .ok (.aload_n 0, 1) := by decide +kernel
theorem dX10_clear_46 : decode cX10_clear 46 = .ok (.iconst 0, 1) := by decide +kernel
theorem dX10_clear_47 : decode cX10_clear 47 = .ok (.putfield 194, 3) := by decide +kernel
theorem dX10_clear_50 : decode cX10_clear 50 = .ok (.aload_n 0, 1) := by decide +kernel
theorem dX10_clear_51 : decode cX10_clear 51 = .ok (.ldc 52, 2) := by decide +kernel
theorem dX10_clear_53 : decode cX10_clear 53 = .ok (.putfield 53, 3) := by decide +kernel
theorem dX10_clear_56 : decode cX10_clear 56 = .ok (.iconst 0, 1) := by decide +kernel
theorem dX10_clear_57 : decode cX10_clear 57 = .ok (.istore_n 1, 1) := by decide +kernel
theorem dX10_clear_58 : decode cX10_clear 58 = .ok (.iload_n 1, 1) := by decide +kernel
theorem dX10_clear_59 : decode cX10_clear 59 = .ok (.iconst 4, 1) := by decide +kernel
theorem dX10_clear_60 : decode cX10_clear 60 = .ok (.if_icmp .ge 23, 3) := by decide +kernel
theorem dX10_clear_63 : decode cX10_clear 63 = .ok (.aload_n 0, 1) := by decide +kernel
theorem dX10_clear_64 : decode cX10_clear 64 = .ok (.getfield 22, 3) := by decide +kernel
theorem dX10_clear_67 : decode cX10_clear 67 = .ok (.iload_n 1, 1) := by decide +kernel
theorem dX10_clear_68 : decode cX10_clear 68 = .ok (.iconst 0, 1) := by decide +kernel
theorem dX10_clear_69 : decode cX10_clear 69 = .ok (.iastore, 1) := by decide +kernel
theorem dX10_clear_70 : decode cX10_clear 70 = .ok (.aload_n 0, 1) := by decide +kernel
theorem dX10_clear_71 : decode cX10_clear 71 = .ok (.getfield 95, 3) := by decide +kernel
theorem dX10_clear_74 : decode cX10_clear 74 = .ok (.iload_n 1, 1) := by decide +kernel
theorem dX10_clear_75 : decode cX10_clear 75 = .ok (.iconst 0, 1) := by decide +kernel
theorem dX10_clear_76 : decode cX10_clear 76 = .ok (.bastore, 1) := by decide +kernel
theorem dX10_clear_77 : decode cX10_clear 77 = .ok (.iinc 1 1, 3) := by decide +kernel
theorem dX10_clear_80 : decode cX10_clear 80 = .ok (.goto (-22), 3) := by decide +kernel
theorem dX10_clear_83 : decode cX10_clear 83 = .ok (.aload_n 0, 1) := by decide +kernel
theorem dX10_clear_84 : decode cX10_clear 84 = .ok (.getfield 89, 3) := by decide +kernel
theorem dX10_clear_87 : decode cX10_clear 87 = .ok (.iconst 0, 1) := by decide +kernel
theorem dX10_clear_88 : decode cX10_clear 88 = .ok (.iconst 0, 1) := by decide +kernel
theorem dX10_clear_89 : decode cX10_clear 89 = .ok (.iastore, 1) := by decide +kernel
theorem dX10_clear_90 : decode cX10_clear 90 = .ok (.aload_n 0, 1) := by decide +kernel
theorem dX10_clear_91 : decode cX10_clear 91 = .ok (.getfield 89, 3) := by decide +kernel
theorem dX10_clear_94 : decode cX10_clear 94 = .ok (.iconst 1, 1) := by decide +kernel
theorem dX10_clear_95 : decode cX10_clear 95 = .ok (.iconst 0, 1) := by decide +kernel
theorem dX10_clear_96 : decode cX10_clear 96 = .ok (.iastore, 1) := by decide +kernel
theorem dX10_clear_97 : decode cX10_clear 97 = .ok (.iconst 0, 1) := by decide +kernel
theorem dX10_clear_98 : decode cX10_clear 98 = .ok (.istore_n 1, 1) := by decide +kernel
theorem dX10_clear_99 : decode cX10_clear 99 = .ok (.iload_n 1, 1) := by decide +kernel
theorem dX10_clear_100 : decode cX10_clear 100 = .ok (.bipush 18, 2) := by decide +kernel
theorem dX10_clear_102 : decode cX10_clear 102 = .ok (.if_icmp .ge 16, 3) := by decide +kernel
theorem dX10_clear_105 : decode cX10_clear 105 = .ok (.aload_n 0, 1) := by decide +kernel
theorem dX10_clear_106 : decode cX10_clear 106 = .ok (.getfield 116, 3) := by decide +kernel
theorem dX10_clear_109 : decode cX10_clear 109 = .ok (.iload_n 1, 1) := by decide +kernel
theorem dX10_clear_110 : decode cX10_clear 110 = .ok (.iconst 0, 1) := by decide +kernel
theorem dX10_clear_111 : decode cX10_clear 111 = .ok (.iastore, 1) := by decide +kernel
theorem dX10_clear_112 : decode cX10_clear 112 = .ok (.iinc 1 1, 3) := by decide +kernel
theorem dX10_clear_115 : decode cX10_clear 115 = .ok (.goto (-16), 3) := by decide +kernel
theorem dX10_clear_118 : decode cX10_clear 118 = .ok (.return_, 1) := by decide +kernel
theorem dX10_come_0 : decode cX10_come 0 = .ok (.aload_n 0, 1) := by decide +kernel
theorem dX10_come_1 : decode cX10_come 1 = .ok (.iconst 0, 1) := by decide +kernel
theorem dX10_come_2 : decode cX10_come 2 = .ok (.putfield 137, 3) := by decide +kernel
theorem dX10_come_5 : decode cX10_come 5 = .ok (.aload_n 0, 1) := by decide +kernel
theorem dX10_come_6 : decode cX10_come 6 = .ok (.iload_n 1, 1) := by decide +kernel
theorem dX10_come_7 : decode cX10_come 7 = .ok (.iconst 0, 1) := by decide +kernel
theorem dX10_come_8 : decode cX10_come 8 = .ok (.iconst 1, 1) := by decide +kernel
theorem dX10_come_9 : decode cX10_come 9 = .ok (.invokestatic 179, 3) := by decide +kernel
theorem dX10_come_12 : decode cX10_come 12 = .ok (.ifCond .ne 7, 3) := by decide +kernel
theorem dX10_come_15 : decode cX10_come 15 = .ok (.iconst 1, 1) := by decide +kernel
theorem dX10_come_16 : decode cX10_come 16 = .ok (.goto 4, 3) := by decide +kernel
theorem dX10_come_19 : decode cX10_come 19 = .ok (.iconst 0, 1) := by decide +kernel
theorem dX10_come_20 : decode cX10_come 20 = .ok (.iconst 1, 1) := by decide +kernel
theorem dX10_come_21 : decode cX10_come 21 = .ok (.invokevirtual 171, 3) := by decide +kernel
theorem dX10_come_24 : decode cX10_come 24 = .ok (.ifCond .eq 5, 3) := by decide +kernel
theorem dX10_come_27 : decode cX10_come 27 = .ok (.iconst 0, 1) := by decide +kernel
theorem dX10_come_28 : decode cX10_come 28 = .ok (.ireturn, 1) := by decide +kernel
theorem dX10_come_29 : decode cX10_come 29 = .ok (.aload_n 0, 1) := by decide +kernel
theorem dX10_come_30 : decode cX10_come 30 = .ok (.iconst 0, 1) := by decide +kernel
theorem dX10_come_31 : decode cX10_come 31 = .ok (.aload_n 0, 1) := by decide +kernel
theorem dX10_come_32 : decode cX10_come 32 = .ok (.getfield 168, 3) := by decide +kernel
theorem dX10_come_35 : decode cX10_come 35 = .ok (.invokevirtual 225, 3) := by decide +kernel
theorem dX10_come_38 : decode cX10_come 38 = .ok (.ifCond .eq 9, 3) := by decide +kernel
theorem dX10_come_41 : decode cX10_come 41 = .ok (.aload_n 0, 1) := by decide +kernel
theorem dX10_come_42 : decode cX10_come 42 = .ok (.iconst 1, 1) := by decide +kernel
theorem dX10_come_43 : decode cX10_come 43 = .ok (.invokevirtual 353, 3) := by decide +kernel
theorem dX10_come_46 : decode cX10_come 46 = .ok (.ireturn, 1) := by decide +kernel
theorem dX10_count_0 : decode cX10_count 0 = .ok (.aload_n 0, 1) := by decide +kernel
theorem dX10_count_1 : decode cX10_count 1 = .ok (.iconst 0, 1) := by decide +kernel
theorem dX10_count_2 : decode cX10_count 2 = .ok (.putfield 137, 3) := by decide +kernel
theorem dX10_count_5 : decode cX10_count 5 = .ok (.aload_n 0, 1) := by decide +kernel
theorem dX10_count_6 : decode cX10_count 6 = .ok (.iload_n 1, 1) := by decide +kernel
theorem dX10_count_7 : decode cX10_count 7 = .ok (.iconst 0, 1) := by decide +kernel
theorem dX10_count_8 : decode cX10_count 8 = .ok (.aload_n 0, 1) := by decide +kernel
theorem dX10_count_9 : decode cX10_count 9 = .ok (.getfield 200, 3) := by decide +kernel
theorem dX10_count_12 : decode cX10_count 12 = .ok (.iconst 1, 1) := by decide +kernel
theorem dX10_count_13 : decode cX10_count 13 = .ok (.isub, 1) := by decide +kernel
theorem dX10_count_14 : decode cX10_count 14 = .ok (.invokestatic 179, 3) := by decide +kernel
theorem dX10_count_17 : decode cX10_count 17 = .ok (.ifCond .ne 7, 3) := by decide +kernel
theorem dX10_count_20 : decode cX10_count 20 = .ok (.iconst 1, 1) := by decide +kernel
theorem dX10_count_21 : decode cX10_count 21 = .ok (.goto 4, 3) := by decide +kernel
theorem dX10_count_25 : decode cX10_count 25 = .ok (.iconst 1, 1) := by decide +kernel
theorem dX10_count_26 : decode cX10_count 26 = .ok (.invokevirtual 171, 3) := by decide +kernel
theorem dX10_count_29 : decode cX10_count 29 = .ok (.ifCond .ne 39, 3) := by decide +kernel
theorem dX10_count_68 : decode cX10_count 68 = .ok (.lconst 0, 1) := by decide +kernel
theorem dX10_count_69 : decode cX10_count 69 = .ok (.lreturn, 1) := by decide +kernel
theorem dX10_ended_0 : decode cX10_ended 0 = .ok (.aload_n 0, 1) := by decide +kernel
theorem dX10_ended_1 : decode cX10_ended 1 = .ok (.iconst 0, 1) := by decide +kernel
theorem dX10_ended_2 : decode cX10_ended 2 = .ok (.putfield 137, 3) := by decide +kernel
theorem dX10_ended_5 : decode cX10_ended 5 = .ok (.aload_n 0, 1) := by decide +kernel
theorem dX10_ended_6 : decode cX10_ended 6 = .ok (.iload_n 1, 1) := by decide +kernel
theorem dX10_ended_7 : decode cX10_ended 7 = .ok (.iconst 0, 1) := by decide +kernel
theorem dX10_ended_8 : decode cX10_ended 8 = .ok (.bipush 20, 2) := by decide +kernel
theorem dX10_ended_10 : decode cX10_ended 10 = .ok (.invokestatic 179, 3) := by decide +kernel
theorem dX10_ended_13 : decode cX10_ended 13 = .ok (.ifCond .ne 7, 3) := by decide +kernel
theorem dX10_ended_16 : decode cX10_ended 16 = .ok (.iconst 1, 1) := by decide +kernel
theorem dX10_ended_17 : decode cX10_ended 17 = .ok (.goto 4, 3) := by decide +kernel
theorem dX10_ended_20 : decode cX10_ended 20 = .ok (.iconst 0, 1) := by decide +kernel
theorem dX10_ended_21 : decode cX10_ended 21 = .ok (.iconst 1, 1) := by decide +kernel
theorem dX10_ended_22 : decode cX10_ended 22 = .ok (.invokevirtual 171, 3) := by decide +kernel
theorem dX10_ended_25 : decode cX10_ended 25 = .ok (.ifCond .eq 5, 3) := by decide +kernel
theorem dX10_ended_28 : decode cX10_ended 28 = .ok (.iconst 0, 1) := by decide +kernel
theorem dX10_ended_29 : decode cX10_ended 29 = .ok (.ireturn, 1) := by decide +kernel
theorem dX10_ended_30 : decode cX10_ended 30 = .ok (.iconst 0, 1) := by decide +kernel
theorem dX10_ended_31 : decode cX10_ended 31 = .ok (.istore_n 2, 1) := by decide +kernel
theorem dX10_ended_32 : decode cX10_ended 32 = .ok (.iconst 0, 1) := by decide +kernel
theorem dX10_ended_33 : decode cX10_ended 33 = .ok (.istore_n 3, 1) := by decide +kernel
theorem dX10_ended_34 : decode cX10_ended 34 = .ok (.iload_n 3, 1) := by decide +kernel
theorem dX10_ended_35 : decode cX10_ended 35 = .ok (.iconst 4, 1) := by decide +kernel
theorem dX10_ended_36 : decode cX10_ended 36 = .ok (.if_icmp .ge 26, 3) := by decide +kernel
theorem dX10_ended_39 : decode cX10_ended 39 = .ok (.iload_n 2, 1) := by decide +kernel
theorem dX10_ended_40 : decode cX10_ended 40 = .ok (.aload_n 0, 1) := by decide +kernel
theorem dX10_ended_41 : decode cX10_ended 41 = .ok (.getfield 95, 3) := by decide +kernel
theorem dX10_ended_44 : decode cX10_ended 44 = .ok (.iload_n 3, 1) := by decide +kernel
theorem dX10_ended_45 : decode cX10_ended 45 = .ok (.baload, 1) := by decide +kernel
theorem dX10_ended_46 : decode cX10_ended 46 = .ok (.ifCond .eq 7, 3) := by decide +kernel
theorem dX10_ended_53 : decode cX10_ended 53 = .ok (.iconst 0, 1) := by decide +kernel
theorem dX10_ended_54 : decode cX10_ended 54 = .ok (.iadd, 1) := by decide +kernel
theorem dX10_ended_55 : decode cX10_ended 55 = .ok (.istore_n 2, 1) := by decide +kernel
theorem dX10_ended_56 : decode cX10_ended 56 = .ok (.iinc 3 1, 3) := by decide +kernel
theorem dX10_ended_59 : decode cX10_ended 59 = .ok (.goto (-25), 3) := by decide +kernel
theorem dX10_ended_62 : decode cX10_ended 62 = .ok (.iload_n 1, 1) := by decide +kernel
theorem dX10_ended_63 : decode cX10_ended 63 = .ok (.bipush 18, 2) := by decide +kernel
theorem dX10_ended_65 : decode cX10_ended 65 = .ok (.if_icmp .ge 12, 3) := by decide +kernel
theorem dX10_ended_68 : decode cX10_ended 68 = .ok (.aload_n 0, 1) := by decide +kernel
theorem dX10_ended_69 : decode cX10_ended 69 = .ok (.getfield 116, 3) := by decide +kernel
theorem dX10_ended_72 : decode cX10_ended 72 = .ok (.iload_n 1, 1) := by decide +kernel
theorem dX10_ended_73 : decode cX10_ended 73 = .ok (.iaload, 1) := by decide +kernel
theorem dX10_ended_74 : decode cX10_ended 74 = .ok (.goto 30, 3) := by decide +kernel
theorem dX10_ended_77 : decode cX10_ended 77 = .ok (.iload_n 1, 1) := by decide +kernel
theorem dX10_ended_78 : decode cX10_ended 78 = .ok (.bipush 18, 2) := by decide +kernel
theorem dX10_ended_80 : decode cX10_ended 80 = .ok (.if_icmp .ne 10, 3) := by decide +kernel
theorem dX10_ended_83 : decode cX10_ended 83 = .ok (.aload_n 0, 1) := by decide +kernel
theorem dX10_ended_84 : decode cX10_ended 84 = .ok (.getfield 200, 3) := by decide +kernel
theorem dX10_ended_87 : decode cX10_ended 87 = .ok (.goto 17, 3) := by decide +kernel
theorem dX10_ended_90 : decode cX10_ended 90 = .ok (.iload_n 1, 1) := by decide +kernel
theorem dX10_ended_91 : decode cX10_ended 91 = .ok (.bipush 19, 2) := by decide +kernel
theorem dX10_ended_93 : decode cX10_ended 93 = .ok (.if_icmp .ne 10, 3) := by decide +kernel
theorem dX10_ended_96 : decode cX10_ended 96 = .ok (.aload_n 0, 1) := by decide +kernel
theorem dX10_ended_97 : decode cX10_ended 97 = .ok (.getfield 267, 3) := by decide +kernel
theorem dX10_ended_100 : decode cX10_ended 100 = .ok (.goto 4, 3) := by decide +kernel
theorem dX10_ended_103 : decode cX10_ended 103 = .ok (.iload_n 2, 1) := by decide +kernel
theorem dX10_ended_104 : decode cX10_ended 104 = .ok (.ireturn, 1) := by decide +kernel
theorem dX10_ends_0 : decode cX10_ends 0 = .ok (.aload_n 0, 1) := by decide +kernel
theorem dX10_ends_1 : decode cX10_ends 1 = .ok (.getfield 116, 3) := by decide +kernel
theorem dX10_ends_4 : decode cX10_ends 4 = .ok (.iload_n 1, 1) := by decide +kernel
theorem dX10_ends_5 : decode cX10_ends 5 = .ok (.dup2, 1) := by decide +kernel
theorem dX10_ends_6 : decode cX10_ends 6 = .ok (.iaload, 1) := by decide +kernel
theorem dX10_ends_7 : decode cX10_ends 7 = .ok (.iconst 1, 1) := by decide +kernel
theorem dX10_ends_8 : decode cX10_ends 8 = .ok (.iadd, 1) := by decide +kernel
theorem dX10_ends_9 : decode cX10_ends 9 = .ok (.iastore, 1) := by decide +kernel
theorem dX10_ends_10 : decode cX10_ends 10 = .ok (.iload_n 1, 1) := by decide +kernel
theorem dX10_ends_11 : decode cX10_ends 11 = .ok (.ireturn, 1) := by decide +kernel
theorem dX10_fold_0 : decode cX10_fold 0 = .ok (.iconst 0, 1) := by decide +kernel
theorem dX10_fold_1 : decode cX10_fold 1 = .ok (.istore_n 3, 1) := by decide +kernel
theorem dX10_fold_2 : decode cX10_fold 2 = .ok (.iconst 0, 1) := by decide +kernel
theorem dX10_fold_3 : decode cX10_fold 3 = .ok (.istore 4, 2) := by decide +kernel
theorem dX10_fold_5 : decode cX10_fold 5 = .ok (.iload 4, 2) := by decide +kernel
theorem dX10_fold_7 : decode cX10_fold 7 = .ok (.bipush 20, 2) := by decide +kernel
theorem dX10_fold_9 : decode cX10_fold 9 = .ok (.if_icmp .ge 35, 3) := by decide +kernel
theorem dX10_fold_12 : decode cX10_fold 12 = .ok (.iload_n 3, 1) := by decide +kernel
theorem dX10_fold_13 : decode cX10_fold 13 = .ok (.iload 4, 2) := by decide +kernel
theorem dX10_fold_15 : decode cX10_fold 15 = .ok (.bipush 10, 2) := by decide +kernel
theorem dX10_fold_17 : decode cX10_fold 17 = .ok (.if_icmp .ne 11, 3) := by decide +kernel
theorem dX10_fold_20 : decode cX10_fold 20 = .ok (.iload_n 2, 1) := by decide +kernel
theorem dX10_fold_21 : decode cX10_fold 21 = .ok (.ifCond .ne 7, 3) := by decide +kernel
theorem dX10_fold_24 : decode cX10_fold 24 = .ok (.iconst 0, 1) := by decide +kernel
theorem dX10_fold_25 : decode cX10_fold 25 = .ok (.goto 11, 3) := by decide +kernel
theorem dX10_fold_28 : decode cX10_fold 28 = .ok (.aload_n 0, 1) := by decide +kernel
theorem dX10_fold_29 : decode cX10_fold 29 = .ok (.iload_n 1, 1) := by decide +kernel
theorem dX10_fold_30 : decode cX10_fold 30 = .ok (.iload 4, 2) := by decide +kernel
theorem dX10_fold_32 : decode cX10_fold 32 = .ok (.iadd, 1) := by decide +kernel
theorem dX10_fold_33 : decode cX10_fold 33 = .ok (.invokevirtual 140, 3) := by decide +kernel
theorem dX10_fold_36 : decode cX10_fold 36 = .ok (.iadd, 1) := by decide +kernel
theorem dX10_fold_37 : decode cX10_fold 37 = .ok (.istore_n 3, 1) := by decide +kernel
theorem dX10_fold_38 : decode cX10_fold 38 = .ok (.iinc 4 2, 3) := by decide +kernel
theorem dX10_fold_41 : decode cX10_fold 41 = .ok (.goto (-36), 3) := by decide +kernel
theorem dX10_fold_44 : decode cX10_fold 44 = .ok (.iload_n 3, 1) := by decide +kernel
theorem dX10_fold_45 : decode cX10_fold 45 = .ok (.ldc 52, 2) := by decide +kernel
theorem dX10_fold_47 : decode cX10_fold 47 = .ok (.if_icmp .le 16, 3) := by decide +kernel
theorem dX10_fold_50 : decode cX10_fold 50 = .ok (.iload_n 3, 1) := by decide +kernel
theorem dX10_fold_51 : decode cX10_fold 51 = .ok (.ldc 52, 2) := by decide +kernel
theorem dX10_fold_53 : decode cX10_fold 53 = .ok (.iand, 1) := by decide +kernel
theorem dX10_fold_54 : decode cX10_fold 54 = .ok (.iload_n 3, 1) := by decide +kernel
theorem dX10_fold_55 : decode cX10_fold 55 = .ok (.bipush 16, 2) := by decide +kernel
theorem dX10_fold_57 : decode cX10_fold 57 = .ok (.ishr, 1) := by decide +kernel
theorem dX10_fold_58 : decode cX10_fold 58 = .ok (.iadd, 1) := by decide +kernel
theorem dX10_fold_59 : decode cX10_fold 59 = .ok (.istore_n 3, 1) := by decide +kernel
theorem dX10_fold_60 : decode cX10_fold 60 = .ok (.goto (-16), 3) := by decide +kernel
theorem dX10_fold_63 : decode cX10_fold 63 = .ok (.iload_n 3, 1) := by decide +kernel
theorem dX10_fold_64 : decode cX10_fold 64 = .ok (.ireturn, 1) := by decide +kernel
theorem dX10_in_0 : decode cX10_in 0 = .ok (.iload_n 0, 1) := by decide +kernel
theorem dX10_in_1 : decode cX10_in 1 = .ok (.iload_n 1, 1) := by decide +kernel
theorem dX10_in_2 : decode cX10_in 2 = .ok (.if_icmp .lt 12, 3) := by decide +kernel
theorem dX10_in_5 : decode cX10_in 5 = .ok (.iload_n 0, 1) := by decide +kernel
theorem dX10_in_6 : decode cX10_in 6 = .ok (.iload_n 2, 1) := by decide +kernel
theorem dX10_in_7 : decode cX10_in 7 = .ok (.if_icmp .gt 7, 3) := by decide +kernel
theorem dX10_in_10 : decode cX10_in 10 = .ok (.iconst 1, 1) := by decide +kernel
theorem dX10_in_11 : decode cX10_in 11 = .ok (.goto 4, 3) := by decide +kernel
theorem dX10_in_14 : decode cX10_in 14 = .ok (.iconst 0, 1) := by decide +kernel
theorem dX10_in_15 : decode cX10_in 15 = .ok (.ireturn, 1) := by decide +kernel
theorem dX10_init_0 : decode cX10_init 0 = .ok (.aload_n 0, 1) := by decide +kernel
theorem dX10_init_1 : decode cX10_init 1 = .ok (.invokespecial 1, 3) := by decide +kernel
theorem dX10_init_4 : decode cX10_init 4 = .ok (.aload_n 0, 1) := by decide +kernel
theorem dX10_init_5 : decode cX10_init 5 = .ok (.sipush 22000, 3) := by decide +kernel
theorem dX10_init_8 : decode cX10_init 8 = .ok (.newarray .int, 2) := by decide +kernel
theorem dX10_init_10 : decode cX10_init 10 = .ok (.putfield 7, 3) := by decide +kernel
theorem dX10_init_13 : decode cX10_init 13 = .ok (.aload_n 0, 1) := by decide +kernel
theorem dX10_init_14 : decode cX10_init 14 = .ok (.bipush 16, 2) := by decide +kernel
theorem dX10_init_16 : decode cX10_init 16 = .ok (.newarray .int, 2) := by decide +kernel
theorem dX10_init_18 : decode cX10_init 18 = .ok (.putfield 13, 3) := by decide +kernel
theorem dX10_init_21 : decode cX10_init 21 = .ok (.aload_n 0, 1) := by decide +kernel
theorem dX10_init_22 : decode cX10_init 22 = .ok (.bipush 16, 2) := by decide +kernel
theorem dX10_init_24 : decode cX10_init 24 = .ok (.newarray .int, 2) := by decide +kernel
theorem dX10_init_26 : decode cX10_init 26 = .ok (.putfield 16, 3) := by decide +kernel
theorem dX10_init_29 : decode cX10_init 29 = .ok (.aload_n 0, 1) := by decide +kernel
theorem dX10_init_30 : decode cX10_init 30 = .ok (.bipush 16, 2) := by decide +kernel
theorem dX10_init_32 : decode cX10_init 32 = .ok (.newarray .int, 2) := by decide +kernel
theorem dX10_init_34 : decode cX10_init 34 = .ok (.putfield 19, 3) := by decide +kernel
theorem dX10_init_37 : decode cX10_init 37 = .ok (.aload_n 0, 1) := by decide +kernel
theorem dX10_init_38 : decode cX10_init 38 = .ok (.iconst 4, 1) := by decide +kernel
theorem dX10_init_39 : decode cX10_init 39 = .ok (.newarray .int, 2) := by decide +kernel
theorem dX10_init_41 : decode cX10_init 41 = .ok (.putfield 22, 3) := by decide +kernel
theorem dX10_init_44 : decode cX10_init 44 = .ok (.aload_n 0, 1) := by decide +kernel
theorem dX10_init_45 : decode cX10_init 45 = .ok (.bipush 24, 2) := by decide +kernel
theorem dX10_init_47 : decode cX10_init 47 = .ok (.newarray .int, 2) := by decide +kernel
theorem dX10_init_49 : decode cX10_init 49 = .ok (.putfield 25, 3) := by decide +kernel
theorem dX10_init_52 : decode cX10_init 52 = .ok (.aload_n 0, 1) := by decide +kernel
theorem dX10_init_53 : decode cX10_init 53 = .ok (.bipush 24, 2) := by decide +kernel
theorem dX10_init_55 : decode cX10_init 55 = .ok (.newarray .int, 2) := by decide +kernel
theorem dX10_init_57 : decode cX10_init 57 = .ok (.putfield 28, 3) := by decide +kernel
theorem dX10_init_60 : decode cX10_init 60 = .ok (.aload_n 0, 1) := by decide +kernel
theorem dX10_init_61 : decode cX10_init 61 = .ok (.bipush 24, 2) := by decide +kernel
theorem dX10_init_63 : decode cX10_init 63 = .ok (.newarray .int, 2) := by decide +kernel
theorem dX10_init_65 : decode cX10_init 65 = .ok (.putfield 31, 3) := by decide +kernel
theorem dX10_init_68 : decode cX10_init 68 = .ok (.aload_n 0, 1) := by decide +kernel
theorem dX10_init_69 : decode cX10_init 69 = .ok (.bipush 24, 2) := by decide +kernel
theorem dX10_init_71 : decode cX10_init 71 = .ok (.newarray .int, 2) := by decide +kernel
theorem dX10_init_73 : decode cX10_init 73 = .ok (.putfield 34, 3) := by decide +kernel
theorem dX10_init_76 : decode cX10_init 76 = .ok (.aload_n 0, 1) := by decide +kernel
theorem dX10_init_77 : decode cX10_init 77 = .ok (.bipush 24, 2) := by decide +kernel
theorem dX10_init_79 : decode cX10_init 79 = .ok (.newarray .int, 2) := by decide +kernel
theorem dX10_init_81 : decode cX10_init 81 = .ok (.putfield 37, 3) := by decide +kernel
theorem dX10_init_84 : decode cX10_init 84 = .ok (.aload_n 0, 1) := by decide +kernel
theorem dX10_init_85 : decode cX10_init 85 = .ok (.bipush 24, 2) := by decide +kernel
theorem dX10_init_87 : decode cX10_init 87 = .ok (.newarray .int, 2) := by decide +kernel
theorem dX10_init_89 : decode cX10_init 89 = .ok (.putfield 40, 3) := by decide +kernel
theorem dX10_init_92 : decode cX10_init 92 = .ok (.aload_n 0, 1) := by decide +kernel
theorem dX10_init_93 : decode cX10_init 93 = .ok (.bipush 24, 2) := by decide +kernel
theorem dX10_init_95 : decode cX10_init 95 = .ok (.newarray .int, 2) := by decide +kernel
theorem dX10_init_97 : decode cX10_init 97 = .ok (.putfield 43, 3) := by decide +kernel
theorem dX10_init_100 : decode cX10_init 100 = .ok (.aload_n 0, 1) := by decide +kernel
theorem dX10_init_101 : decode cX10_init 101 = .ok (.bipush 24, 2) := by decide +kernel
theorem dX10_init_103 : decode cX10_init 103 = .ok (.newarray .int, 2) := by decide +kernel
theorem dX10_init_105 : decode cX10_init 105 = .ok (.putfield 46, 3) := by decide +kernel
theorem dX10_init_108 : decode cX10_init 108 = .ok (.aload_n 0, 1) := by decide +kernel
theorem dX10_init_109 : decode cX10_init 109 = .ok (.bipush 24, 2) := by decide +kernel
theorem dX10_init_111 : decode cX10_init 111 = .ok (.newarray .int, 2) := by decide +kernel
theorem dX10_init_113 : decode cX10_init 113 = .ok (.putfield 49, 3) := by decide +kernel
theorem dX10_init_116 : decode cX10_init 116 = .ok (.aload_n 0, 1) := by decide +kernel
theorem dX10_init_117 : decode cX10_init 117 = .ok (.ldc 52, 2) := by decide +kernel
theorem dX10_init_119 : decode cX10_init 119 = .ok (.putfield 53, 3) := by decide +kernel
theorem dX10_init_122 : decode cX10_init 122 = .ok (.aload_n 0, 1) := by decide +kernel
theorem dX10_init_123 : decode cX10_init 123 = .ok (.bipush 16, 2) := by decide +kernel
theorem dX10_init_125 : decode cX10_init 125 = .ok (.newarray .int, 2) := by decide +kernel
theorem dX10_init_127 : decode cX10_init 127 = .ok (.putfield 57, 3) := by decide +kernel
theorem dX10_init_130 : decode cX10_init 130 = .ok (.aload_n 0, 1) := by decide +kernel
theorem dX10_init_131 : decode cX10_init 131 = .ok (.bipush 16, 2) := by decide +kernel
theorem dX10_init_133 : decode cX10_init 133 = .ok (.newarray .int, 2) := by decide +kernel
theorem dX10_init_135 : decode cX10_init 135 = .ok (.putfield 60, 3) := by decide +kernel
theorem dX10_init_138 : decode cX10_init 138 = .ok (.aload_n 0, 1) := by decide +kernel
theorem dX10_init_139 : decode cX10_init 139 = .ok (.bipush 16, 2) := by decide +kernel
theorem dX10_init_141 : decode cX10_init 141 = .ok (.newarray .int, 2) := by decide +kernel
theorem dX10_init_143 : decode cX10_init 143 = .ok (.putfield 63, 3) := by decide +kernel
theorem dX10_init_146 : decode cX10_init 146 = .ok (.aload_n 0, 1) := by decide +kernel
theorem dX10_init_147 : decode cX10_init 147 = .ok (.bipush 16, 2) := by decide +kernel
theorem dX10_init_149 : decode cX10_init 149 = .ok (.newarray .long, 2) := by decide +kernel
theorem dX10_init_151 : decode cX10_init 151 = .ok (.putfield 66, 3) := by decide +kernel
theorem dX10_init_154 : decode cX10_init 154 = .ok (.aload_n 0, 1) := by decide +kernel
theorem dX10_init_155 : decode cX10_init 155 = .ok (.bipush 16, 2) := by decide +kernel
theorem dX10_init_157 : decode cX10_init 157 = .ok (.newarray .long, 2) := by decide +kernel
theorem dX10_init_159 : decode cX10_init 159 = .ok (.putfield 70, 3) := by decide +kernel
theorem dX10_init_162 : decode cX10_init 162 = .ok (.aload_n 0, 1) := by decide +kernel
theorem dX10_init_163 : decode cX10_init 163 = .ok (.bipush 16, 2) := by decide +kernel
theorem dX10_init_165 : decode cX10_init 165 = .ok (.newarray .boolean, 2) := by decide +kernel
theorem dX10_init_167 : decode cX10_init 167 = .ok (.putfield 73, 3) := by decide +kernel
theorem dX10_init_170 : decode cX10_init 170 = .ok (.aload_n 0, 1) := by decide +kernel
theorem dX10_init_171 : decode cX10_init 171 = .ok (.bipush 16, 2) := by decide +kernel
theorem dX10_init_173 : decode cX10_init 173 = .ok (.newarray .int, 2) := by decide +kernel
theorem dX10_init_175 : decode cX10_init 175 = .ok (.putfield 77, 3) := by decide +kernel
theorem dX10_init_178 : decode cX10_init 178 = .ok (.aload_n 0, 1) := by decide +kernel
theorem dX10_init_179 : decode cX10_init 179 = .ok (.bipush 16, 2) := by decide +kernel
theorem dX10_init_181 : decode cX10_init 181 = .ok (.newarray .boolean, 2) := by decide +kernel
theorem dX10_init_183 : decode cX10_init 183 = .ok (.putfield 80, 3) := by decide +kernel
theorem dX10_init_186 : decode cX10_init 186 = .ok (.aload_n 0, 1) := by decide +kernel
theorem dX10_init_187 : decode cX10_init 187 = .ok (.bipush 16, 2) := by decide +kernel
theorem dX10_init_189 : decode cX10_init 189 = .ok (.newarray .long, 2) := by decide +kernel
theorem dX10_init_191 : decode cX10_init 191 = .ok (.putfield 83, 3) := by decide +kernel
theorem dX10_init_194 : decode cX10_init 194 = .ok (.aload_n 0, 1) := by decide +kernel
theorem dX10_init_195 : decode cX10_init 195 = .ok (.bipush 16, 2) := by decide +kernel
theorem dX10_init_197 : decode cX10_init 197 = .ok (.newarray .long, 2) := by decide +kernel
theorem dX10_init_199 : decode cX10_init 199 = .ok (.putfield 86, 3) := by decide +kernel
theorem dX10_init_202 : decode cX10_init 202 = .ok (.aload_n 0, 1) := by decide +kernel
theorem dX10_init_203 : decode cX10_init 203 = .ok (.iconst 2, 1) := by decide +kernel
theorem dX10_init_204 : decode cX10_init 204 = .ok (.newarray .int, 2) := by decide +kernel
theorem dX10_init_206 : decode cX10_init 206 = .ok (.putfield 89, 3) := by decide +kernel
theorem dX10_init_209 : decode cX10_init 209 = .ok (.aload_n 0, 1) := by decide +kernel
theorem dX10_init_210 : decode cX10_init 210 = .ok (.iconst (-1), 1) := by decide +kernel
theorem dX10_init_211 : decode cX10_init 211 = .ok (.putfield 92, 3) := by decide +kernel
theorem dX10_init_214 : decode cX10_init 214 = .ok (.aload_n 0, 1) := by decide +kernel
theorem dX10_init_215 : decode cX10_init 215 = .ok (.iconst 4, 1) := by decide +kernel
theorem dX10_init_216 : decode cX10_init 216 = .ok (.newarray .boolean, 2) := by decide +kernel
theorem dX10_init_218 : decode cX10_init 218 = .ok (.putfield 95, 3) := by decide +kernel
theorem dX10_init_221 : decode cX10_init 221 = .ok (.aload_n 0, 1) := by decide +kernel
theorem dX10_init_222 : decode cX10_init 222 = .ok (.iconst 4, 1) := by decide +kernel
theorem dX10_init_223 : decode cX10_init 223 = .ok (.newarray .int, 2) := by decide +kernel
theorem dX10_init_225 : decode cX10_init 225 = .ok (.putfield 98, 3) := by decide +kernel
theorem dX10_init_228 : decode cX10_init 228 = .ok (.aload_n 0, 1) := by decide +kernel
theorem dX10_init_229 : decode cX10_init 229 = .ok (.iconst 4, 1) := by decide +kernel
theorem dX10_init_230 : decode cX10_init 230 = .ok (.newarray .int, 2) := by decide +kernel
theorem dX10_init_232 : decode cX10_init 232 = .ok (.putfield 101, 3) := by decide +kernel
theorem dX10_init_235 : decode cX10_init 235 = .ok (.aload_n 0, 1) := by decide +kernel
theorem dX10_init_236 : decode cX10_init 236 = .ok (.iconst 4, 1) := by decide +kernel
theorem dX10_init_237 : decode cX10_init 237 = .ok (.newarray .int, 2) := by decide +kernel
theorem dX10_init_239 : decode cX10_init 239 = .ok (.putfield 104, 3) := by decide +kernel
theorem dX10_init_242 : decode cX10_init 242 = .ok (.aload_n 0, 1) := by decide +kernel
theorem dX10_init_243 : decode cX10_init 243 = .ok (.iconst 4, 1) := by decide +kernel
theorem dX10_init_244 : decode cX10_init 244 = .ok (.newarray .int, 2) := by decide +kernel
theorem dX10_init_246 : decode cX10_init 246 = .ok (.putfield 107, 3) := by decide +kernel
theorem dX10_init_249 : decode cX10_init 249 = .ok (.aload_n 0, 1) := by decide +kernel
theorem dX10_init_250 : decode cX10_init 250 = .ok (.iconst 4, 1) := by decide +kernel
theorem dX10_init_251 : decode cX10_init 251 = .ok (.newarray .int, 2) := by decide +kernel
theorem dX10_init_253 : decode cX10_init 253 = .ok (.putfield 110, 3) := by decide +kernel
theorem dX10_init_256 : decode cX10_init 256 = .ok (.aload_n 0, 1) := by decide +kernel
theorem dX10_init_257 : decode cX10_init 257 = .ok (.sipush 7920, 3) := by decide +kernel
theorem dX10_init_260 : decode cX10_init 260 = .ok (.newarray .boolean, 2) := by decide +kernel
theorem dX10_init_262 : decode cX10_init 262 = .ok (.putfield 113, 3) := by decide +kernel
theorem dX10_init_265 : decode cX10_init 265 = .ok (.aload_n 0, 1) := by decide +kernel
theorem dX10_init_266 : decode cX10_init 266 = .ok (.bipush 18, 2) := by decide +kernel
theorem dX10_init_268 : decode cX10_init 268 = .ok (.newarray .int, 2) := by decide +kernel
theorem dX10_init_270 : decode cX10_init 270 = .ok (.putfield 116, 3) := by decide +kernel
theorem dX10_init_273 : decode cX10_init 273 = .ok (.aload_n 0, 1) := by decide +kernel
theorem dX10_init_274 : decode cX10_init 274 = .ok (.bipush 16, 2) := by decide +kernel
theorem dX10_init_276 : decode cX10_init 276 = .ok (.newarray .int, 2) := by decide +kernel
theorem dX10_init_278 : decode cX10_init 278 = .ok (.putfield 119, 3) := by decide +kernel
theorem dX10_init_281 : decode cX10_init 281 = .ok (.aload_n 0, 1) := by decide +kernel
theorem dX10_init_282 : decode cX10_init 282 = .ok (.bipush 16, 2) := by decide +kernel
theorem dX10_init_284 : decode cX10_init 284 = .ok (.newarray .int, 2) := by decide +kernel
theorem dX10_init_286 : decode cX10_init 286 = .ok (.putfield 122, 3) := by decide +kernel
theorem dX10_init_289 : decode cX10_init 289 = .ok (.aload_n 0, 1) := by decide +kernel
theorem dX10_init_290 : decode cX10_init 290 = .ok (.bipush 16, 2) := by decide +kernel
theorem dX10_init_292 : decode cX10_init 292 = .ok (.newarray .int, 2) := by decide +kernel
theorem dX10_init_294 : decode cX10_init 294 = .ok (.putfield 125, 3) := by decide +kernel
theorem dX10_init_297 : decode cX10_init 297 = .ok (.aload_n 0, 1) := by decide +kernel
theorem dX10_init_298 : decode cX10_init 298 = .ok (.bipush 16, 2) := by decide +kernel
theorem dX10_init_300 : decode cX10_init 300 = .ok (.newarray .int, 2) := by decide +kernel
theorem dX10_init_302 : decode cX10_init 302 = .ok (.putfield 128, 3) := by decide +kernel
theorem dX10_init_305 : decode cX10_init 305 = .ok (.aload_n 0, 1) := by decide +kernel
theorem dX10_init_306 : decode cX10_init 306 = .ok (.bipush 16, 2) := by decide +kernel
theorem dX10_init_308 : decode cX10_init 308 = .ok (.newarray .int, 2) := by decide +kernel
theorem dX10_init_310 : decode cX10_init 310 = .ok (.putfield 131, 3) := by decide +kernel
theorem dX10_init_313 : decode cX10_init 313 = .ok (.aload_n 0, 1) := by decide +kernel
theorem dX10_init_314 : decode cX10_init 314 = .ok (.iload_n 1, 1) := by decide +kernel
theorem dX10_init_315 : decode cX10_init 315 = .ok (.putfield 134, 3) := by decide +kernel
theorem dX10_init_318 : decode cX10_init 318 = .ok (.return_, 1) := by decide +kernel
theorem dX10_isBroken_0 : decode cX10_isBroken 0 = .ok (.iload_n 2, 1) := by decide +kernel
theorem dX10_isBroken_1 : decode cX10_isBroken 1 = .ok (.bipush 20, 2) := by decide +kernel
theorem dX10_isBroken_3 : decode cX10_isBroken 3 = .ok (.if_icmp .lt 48, 3) := by decide +kernel
theorem dX10_isBroken_51 : decode cX10_isBroken 51 = .ok (.iconst 1, 1) := by decide +kernel
theorem dX10_isBroken_52 : decode cX10_isBroken 52 = .ok (.goto 4, 3) := by decide +kernel
theorem dX10_isBroken_56 : decode cX10_isBroken 56 = .ok (.ireturn, 1) := by decide +kernel
theorem dX10_keep_0 : decode cX10_keep 0 = .ok (.aload_n 0, 1) := by decide +kernel
theorem dX10_keep_1 : decode cX10_keep 1 = .ok (.iconst 0, 1) := by decide +kernel
theorem dX10_keep_2 : decode cX10_keep 2 = .ok (.putfield 137, 3) := by decide +kernel
theorem dX10_keep_5 : decode cX10_keep 5 = .ok (.aload_n 0, 1) := by decide +kernel
theorem dX10_keep_6 : decode cX10_keep 6 = .ok (.iload_n 1, 1) := by decide +kernel
theorem dX10_keep_7 : decode cX10_keep 7 = .ok (.iconst 0, 1) := by decide +kernel
theorem dX10_keep_8 : decode cX10_keep 8 = .ok (.aload_n 0, 1) := by decide +kernel
theorem dX10_keep_9 : decode cX10_keep 9 = .ok (.getfield 168, 3) := by decide +kernel
theorem dX10_keep_12 : decode cX10_keep 12 = .ok (.invokestatic 179, 3) := by decide +kernel
theorem dX10_keep_15 : decode cX10_keep 15 = .ok (.ifCond .ne 7, 3) := by decide +kernel
theorem dX10_keep_18 : decode cX10_keep 18 = .ok (.iconst 1, 1) := by decide +kernel
theorem dX10_keep_19 : decode cX10_keep 19 = .ok (.goto 4, 3) := by decide +kernel
theorem dX10_keep_22 : decode cX10_keep 22 = .ok (.iconst 0, 1) := by decide +kernel
theorem dX10_keep_23 : decode cX10_keep 23 = .ok (.iconst 1, 1) := by decide +kernel
theorem dX10_keep_24 : decode cX10_keep 24 = .ok (.invokevirtual 171, 3) := by decide +kernel
theorem dX10_keep_27 : decode cX10_keep 27 = .ok (.ifCond .ne 8, 3) := by decide +kernel
theorem dX10_keep_30 : decode cX10_keep 30 = .ok (.aload_n 0, 1) := by decide +kernel
theorem dX10_keep_31 : decode cX10_keep 31 = .ok (.iload_n 1, 1) := by decide +kernel
theorem dX10_keep_32 : decode cX10_keep 32 = .ok (.putfield 168, 3) := by decide +kernel
theorem dX10_keep_35 : decode cX10_keep 35 = .ok (.return_, 1) := by decide +kernel
theorem dX10_log_0 : decode cX10_log 0 = .ok (.aload_n 0, 1) := by decide +kernel
theorem dX10_log_1 : decode cX10_log 1 = .ok (.iconst 0, 1) := by decide +kernel
theorem dX10_log_2 : decode cX10_log 2 = .ok (.putfield 137, 3) := by decide +kernel
theorem dX10_log_5 : decode cX10_log 5 = .ok (.aload_n 0, 1) := by decide +kernel
theorem dX10_log_6 : decode cX10_log 6 = .ok (.iload_n 1, 1) := by decide +kernel
theorem dX10_log_7 : decode cX10_log 7 = .ok (.iconst 0, 1) := by decide +kernel
theorem dX10_log_8 : decode cX10_log 8 = .ok (.aload_n 0, 1) := by decide +kernel
theorem dX10_log_9 : decode cX10_log 9 = .ok (.getfield 243, 3) := by decide +kernel
theorem dX10_log_12 : decode cX10_log 12 = .ok (.iconst 1, 1) := by decide +kernel
theorem dX10_log_13 : decode cX10_log 13 = .ok (.isub, 1) := by decide +kernel
theorem dX10_log_14 : decode cX10_log 14 = .ok (.invokestatic 179, 3) := by decide +kernel
theorem dX10_log_17 : decode cX10_log 17 = .ok (.ifCond .eq 12, 3) := by decide +kernel
theorem dX10_log_29 : decode cX10_log 29 = .ok (.iconst 1, 1) := by decide +kernel
theorem dX10_log_30 : decode cX10_log 30 = .ok (.goto 4, 3) := by decide +kernel
theorem dX10_log_34 : decode cX10_log 34 = .ok (.iconst 1, 1) := by decide +kernel
theorem dX10_log_35 : decode cX10_log 35 = .ok (.invokevirtual 171, 3) := by decide +kernel
theorem dX10_log_38 : decode cX10_log 38 = .ok (.ifCond .eq 5, 3) := by decide +kernel
theorem dX10_log_41 : decode cX10_log 41 = .ok (.iconst 0, 1) := by decide +kernel
theorem dX10_log_42 : decode cX10_log 42 = .ok (.ireturn, 1) := by decide +kernel
theorem dX10_make_0 : decode cX10_make 0 = .ok (.aload_n 0, 1) := by decide +kernel
theorem dX10_make_1 : decode cX10_make 1 = .ok (.iconst 0, 1) := by decide +kernel
theorem dX10_make_2 : decode cX10_make 2 = .ok (.putfield 137, 3) := by decide +kernel
theorem dX10_make_5 : decode cX10_make 5 = .ok (.aload_n 0, 1) := by decide +kernel
theorem dX10_make_6 : decode cX10_make 6 = .ok (.iload_n 3, 1) := by decide +kernel
theorem dX10_make_7 : decode cX10_make 7 = .ok (.iconst 0, 1) := by decide +kernel
theorem dX10_make_8 : decode cX10_make 8 = .ok (.sipush 255, 3) := by decide +kernel
theorem dX10_make_11 : decode cX10_make 11 = .ok (.invokestatic 179, 3) := by decide +kernel
theorem dX10_make_14 : decode cX10_make 14 = .ok (.ifCond .eq 27, 3) := by decide +kernel
theorem dX10_make_17 : decode cX10_make 17 = .ok (.iload 4, 2) := by decide +kernel
theorem dX10_make_19 : decode cX10_make 19 = .ok (.iconst 0, 1) := by decide +kernel
theorem dX10_make_20 : decode cX10_make 20 = .ok (.sipush 255, 3) := by decide +kernel
theorem dX10_make_23 : decode cX10_make 23 = .ok (.invokestatic 179, 3) := by decide +kernel
theorem dX10_make_26 : decode cX10_make 26 = .ok (.ifCond .eq 15, 3) := by decide +kernel
theorem dX10_make_29 : decode cX10_make 29 = .ok (.iload 5, 2) := by decide +kernel
theorem dX10_make_31 : decode cX10_make 31 = .ok (.iconst 0, 1) := by decide +kernel
theorem dX10_make_32 : decode cX10_make 32 = .ok (.sipush 1480, 3) := by decide +kernel
theorem dX10_make_35 : decode cX10_make 35 = .ok (.invokestatic 179, 3) := by decide +kernel
theorem dX10_make_38 : decode cX10_make 38 = .ok (.ifCond .ne 7, 3) := by decide +kernel
theorem dX10_make_41 : decode cX10_make 41 = .ok (.iconst 1, 1) := by decide +kernel
theorem dX10_make_42 : decode cX10_make 42 = .ok (.goto 4, 3) := by decide +kernel
theorem dX10_make_45 : decode cX10_make 45 = .ok (.iconst 0, 1) := by decide +kernel
theorem dX10_make_46 : decode cX10_make 46 = .ok (.iconst 1, 1) := by decide +kernel
theorem dX10_make_47 : decode cX10_make 47 = .ok (.invokevirtual 171, 3) := by decide +kernel
theorem dX10_make_50 : decode cX10_make 50 = .ok (.ifCond .eq 5, 3) := by decide +kernel
theorem dX10_make_53 : decode cX10_make 53 = .ok (.iconst 0, 1) := by decide +kernel
theorem dX10_make_54 : decode cX10_make 54 = .ok (.ireturn, 1) := by decide +kernel
theorem dX10_make_55 : decode cX10_make 55 = .ok (.aload_n 0, 1) := by decide +kernel
theorem dX10_make_56 : decode cX10_make 56 = .ok (.iconst 0, 1) := by decide +kernel
theorem dX10_make_57 : decode cX10_make 57 = .ok (.ldc 183, 2) := by decide +kernel
theorem dX10_make_59 : decode cX10_make 59 = .ok (.bipush 20, 2) := by decide +kernel
theorem dX10_make_61 : decode cX10_make 61 = .ok (.iload 5, 2) := by decide +kernel
theorem dX10_make_63 : decode cX10_make 63 = .ok (.iadd, 1) := by decide +kernel
theorem dX10_make_64 : decode cX10_make 64 = .ok (.ior, 1) := by decide +kernel
theorem dX10_make_65 : decode cX10_make 65 = .ok (.invokevirtual 148, 3) := by decide +kernel
theorem dX10_make_68 : decode cX10_make 68 = .ok (.aload_n 0, 1) := by decide +kernel
theorem dX10_make_69 : decode cX10_make 69 = .ok (.iconst 4, 1) := by decide +kernel
theorem dX10_make_70 : decode cX10_make 70 = .ok (.iconst 0, 1) := by decide +kernel
theorem dX10_make_71 : decode cX10_make 71 = .ok (.invokevirtual 148, 3) := by decide +kernel
theorem dX10_make_74 : decode cX10_make 74 = .ok (.aload_n 0, 1) := by decide +kernel
theorem dX10_make_75 : decode cX10_make 75 = .ok (.getfield 7, 3) := by decide +kernel
theorem dX10_make_78 : decode cX10_make 78 = .ok (.bipush 8, 2) := by decide +kernel
theorem dX10_make_80 : decode cX10_make 80 = .ok (.iload 4, 2) := by decide +kernel
theorem dX10_make_82 : decode cX10_make 82 = .ok (.iastore, 1) := by decide +kernel
theorem dX10_make_83 : decode cX10_make 83 = .ok (.aload_n 0, 1) := by decide +kernel
theorem dX10_make_84 : decode cX10_make 84 = .ok (.getfield 7, 3) := by decide +kernel
theorem dX10_make_87 : decode cX10_make 87 = .ok (.bipush 9, 2) := by decide +kernel
theorem dX10_make_89 : decode cX10_make 89 = .ok (.iload_n 3, 1) := by decide +kernel
theorem dX10_make_90 : decode cX10_make 90 = .ok (.iastore, 1) := by decide +kernel
theorem dX10_make_91 : decode cX10_make 91 = .ok (.aload_n 0, 1) := by decide +kernel
theorem dX10_make_92 : decode cX10_make 92 = .ok (.bipush 12, 2) := by decide +kernel
theorem dX10_make_94 : decode cX10_make 94 = .ok (.iload_n 1, 1) := by decide +kernel
theorem dX10_make_95 : decode cX10_make 95 = .ok (.invokevirtual 148, 3) := by decide +kernel
theorem dX10_make_98 : decode cX10_make 98 = .ok (.aload_n 0, 1) := by decide +kernel
theorem dX10_make_99 : decode cX10_make 99 = .ok (.bipush 16, 2) := by decide +kernel
theorem dX10_make_101 : decode cX10_make 101 = .ok (.iload_n 2, 1) := by decide +kernel
theorem dX10_make_102 : decode cX10_make 102 = .ok (.invokevirtual 148, 3) := by decide +kernel
theorem dX10_make_105 : decode cX10_make 105 = .ok (.iconst 0, 1) := by decide +kernel
theorem dX10_make_106 : decode cX10_make 106 = .ok (.istore 7, 2) := by decide +kernel
theorem dX10_make_108 : decode cX10_make 108 = .ok (.iload 7, 2) := by decide +kernel
theorem dX10_make_110 : decode cX10_make 110 = .ok (.iload 5, 2) := by decide +kernel
theorem dX10_make_112 : decode cX10_make 112 = .ok (.if_icmp .ge 28, 3) := by decide +kernel
theorem dX10_make_115 : decode cX10_make 115 = .ok (.aload_n 0, 1) := by decide +kernel
theorem dX10_make_116 : decode cX10_make 116 = .ok (.getfield 7, 3) := by decide +kernel
theorem dX10_make_119 : decode cX10_make 119 = .ok (.bipush 20, 2) := by decide +kernel
theorem dX10_make_121 : decode cX10_make 121 = .ok (.iload 7, 2) := by decide +kernel
theorem dX10_make_123 : decode cX10_make 123 = .ok (.iadd, 1) := by decide +kernel
theorem dX10_make_124 : decode cX10_make 124 = .ok (.iload 7, 2) := by decide +kernel
theorem dX10_make_126 : decode cX10_make 126 = .ok (.iload 6, 2) := by decide +kernel
theorem dX10_make_128 : decode cX10_make 128 = .ok (.iadd, 1) := by decide +kernel
theorem dX10_make_129 : decode cX10_make 129 = .ok (.sipush 255, 3) := by decide +kernel
theorem dX10_make_132 : decode cX10_make 132 = .ok (.iand, 1) := by decide +kernel
theorem dX10_make_133 : decode cX10_make 133 = .ok (.iastore, 1) := by decide +kernel
theorem dX10_make_134 : decode cX10_make 134 = .ok (.iinc 7 1, 3) := by decide +kernel
theorem dX10_make_137 : decode cX10_make 137 = .ok (.goto (-29), 3) := by decide +kernel
theorem dX10_make_140 : decode cX10_make 140 = .ok (.aload_n 0, 1) := by decide +kernel
theorem dX10_make_141 : decode cX10_make 141 = .ok (.iconst 0, 1) := by decide +kernel
theorem dX10_make_142 : decode cX10_make 142 = .ok (.invokevirtual 184, 3) := by decide +kernel
theorem dX10_make_145 : decode cX10_make 145 = .ok (.aload_n 0, 1) := by decide +kernel
theorem dX10_make_146 : decode cX10_make 146 = .ok (.bipush 20, 2) := by decide +kernel
theorem dX10_make_148 : decode cX10_make 148 = .ok (.iload 5, 2) := by decide +kernel
theorem dX10_make_150 : decode cX10_make 150 = .ok (.iadd, 1) := by decide +kernel
theorem dX10_make_151 : decode cX10_make 151 = .ok (.putfield 168, 3) := by decide +kernel
theorem dX10_make_154 : decode cX10_make 154 = .ok (.aload_n 0, 1) := by decide +kernel
theorem dX10_make_155 : decode cX10_make 155 = .ok (.getfield 168, 3) := by decide +kernel
theorem dX10_make_158 : decode cX10_make 158 = .ok (.ireturn, 1) := by decide +kernel
theorem dX10_meaning_0 : decode cX10_meaning 0 = .ok (.aload_n 0, 1) := by decide +kernel
theorem dX10_meaning_1 : decode cX10_meaning 1 = .ok (.iconst 0, 1) := by decide +kernel
theorem dX10_meaning_2 : decode cX10_meaning 2 = .ok (.putfield 137, 3) := by decide +kernel
theorem dX10_meaning_5 : decode cX10_meaning 5 = .ok (.aload_n 0, 1) := by decide +kernel
theorem dX10_meaning_6 : decode cX10_meaning 6 = .ok (.iload_n 1, 1) := by decide +kernel
theorem dX10_meaning_7 : decode cX10_meaning 7 = .ok (.iconst 0, 1) := by decide +kernel
theorem dX10_meaning_8 : decode cX10_meaning 8 = .ok (.iconst 1, 1) := by decide +kernel
theorem dX10_meaning_9 : decode cX10_meaning 9 = .ok (.invokestatic 179, 3) := by decide +kernel
theorem dX10_meaning_12 : decode cX10_meaning 12 = .ok (.ifCond .ne 7, 3) := by decide +kernel
theorem dX10_meaning_15 : decode cX10_meaning 15 = .ok (.iconst 1, 1) := by decide +kernel
theorem dX10_meaning_16 : decode cX10_meaning 16 = .ok (.goto 4, 3) := by decide +kernel
theorem dX10_meaning_19 : decode cX10_meaning 19 = .ok (.iconst 0, 1) := by decide +kernel
theorem dX10_meaning_20 : decode cX10_meaning 20 = .ok (.iconst 1, 1) := by decide +kernel
theorem dX10_meaning_21 : decode cX10_meaning 21 = .ok (.invokevirtual 171, 3) := by decide +kernel
theorem dX10_meaning_24 : decode cX10_meaning 24 = .ok (.ifCond .eq 5, 3) := by decide +kernel
theorem dX10_meaning_27 : decode cX10_meaning 27 = .ok (.iconst 0, 1) := by decide +kernel
theorem dX10_meaning_28 : decode cX10_meaning 28 = .ok (.ireturn, 1) := by decide +kernel
theorem dX10_meaning_29 : decode cX10_meaning 29 = .ok (.aload_n 0, 1) := by decide +kernel
theorem dX10_meaning_30 : decode cX10_meaning 30 = .ok (.iconst 0, 1) := by decide +kernel
theorem dX10_meaning_31 : decode cX10_meaning 31 = .ok (.aload_n 0, 1) := by decide +kernel
theorem dX10_meaning_32 : decode cX10_meaning 32 = .ok (.getfield 168, 3) := by decide +kernel
theorem dX10_meaning_35 : decode cX10_meaning 35 = .ok (.invokevirtual 225, 3) := by decide +kernel
theorem dX10_meaning_38 : decode cX10_meaning 38 = .ok (.ifCond .eq 7, 3) := by decide +kernel
theorem dX10_meaning_41 : decode cX10_meaning 41 = .ok (.iconst (-1), 1) := by decide +kernel
theorem dX10_meaning_42 : decode cX10_meaning 42 = .ok (.goto 9, 3) := by decide +kernel
theorem dX10_meaning_51 : decode cX10_meaning 51 = .ok (.ireturn, 1) := by decide +kernel
theorem dX10_meant_0 : decode cX10_meant 0 = .ok (.aload_n 0, 1) := by decide +kernel
theorem dX10_meant_1 : decode cX10_meant 1 = .ok (.iconst 0, 1) := by decide +kernel
theorem dX10_meant_2 : decode cX10_meant 2 = .ok (.putfield 137, 3) := by decide +kernel
theorem dX10_meant_5 : decode cX10_meant 5 = .ok (.aload_n 0, 1) := by decide +kernel
theorem dX10_meant_6 : decode cX10_meant 6 = .ok (.iload_n 1, 1) := by decide +kernel
theorem dX10_meant_7 : decode cX10_meant 7 = .ok (.iconst 0, 1) := by decide +kernel
theorem dX10_meant_8 : decode cX10_meant 8 = .ok (.sipush 255, 3) := by decide +kernel
theorem dX10_meant_11 : decode cX10_meant 11 = .ok (.invokestatic 179, 3) := by decide +kernel
theorem dX10_meant_14 : decode cX10_meant 14 = .ok (.ifCond .eq 22, 3) := by decide +kernel
theorem dX10_meant_17 : decode cX10_meant 17 = .ok (.iload_n 3, 1) := by decide +kernel
theorem dX10_meant_18 : decode cX10_meant 18 = .ok (.iconst 0, 1) := by decide +kernel
theorem dX10_meant_19 : decode cX10_meant 19 = .ok (.ldc 52, 2) := by decide +kernel
theorem dX10_meant_21 : decode cX10_meant 21 = .ok (.invokestatic 179, 3) := by decide +kernel
theorem dX10_meant_24 : decode cX10_meant 24 = .ok (.ifCond .eq 12, 3) := by decide +kernel
theorem dX10_meant_27 : decode cX10_meant 27 = .ok (.iload_n 2, 1) := by decide +kernel
theorem dX10_meant_28 : decode cX10_meant 28 = .ok (.iconst 0, 1) := by decide +kernel
theorem dX10_meant_29 : decode cX10_meant 29 = .ok (.iload_n 3, 1) := by decide +kernel
theorem dX10_meant_30 : decode cX10_meant 30 = .ok (.invokestatic 179, 3) := by decide +kernel
theorem dX10_meant_33 : decode cX10_meant 33 = .ok (.ifCond .ne 7, 3) := by decide +kernel
theorem dX10_meant_36 : decode cX10_meant 36 = .ok (.iconst 1, 1) := by decide +kernel
theorem dX10_meant_37 : decode cX10_meant 37 = .ok (.goto 4, 3) := by decide +kernel
theorem dX10_meant_40 : decode cX10_meant 40 = .ok (.iconst 0, 1) := by decide +kernel
theorem dX10_meant_41 : decode cX10_meant 41 = .ok (.iconst 1, 1) := by decide +kernel
theorem dX10_meant_42 : decode cX10_meant 42 = .ok (.invokevirtual 171, 3) := by decide +kernel
theorem dX10_meant_45 : decode cX10_meant 45 = .ok (.ifCond .ne 18, 3) := by decide +kernel
theorem dX10_meant_48 : decode cX10_meant 48 = .ok (.aload_n 0, 1) := by decide +kernel
theorem dX10_meant_49 : decode cX10_meant 49 = .ok (.iload_n 1, 1) := by decide +kernel
theorem dX10_meant_50 : decode cX10_meant 50 = .ok (.putfield 191, 3) := by decide +kernel
theorem dX10_meant_53 : decode cX10_meant 53 = .ok (.aload_n 0, 1) := by decide +kernel
theorem dX10_meant_54 : decode cX10_meant 54 = .ok (.iload_n 2, 1) := by decide +kernel
theorem dX10_meant_55 : decode cX10_meant 55 = .ok (.putfield 194, 3) := by decide +kernel
theorem dX10_meant_58 : decode cX10_meant 58 = .ok (.aload_n 0, 1) := by decide +kernel
theorem dX10_meant_59 : decode cX10_meant 59 = .ok (.iload_n 3, 1) := by decide +kernel
theorem dX10_meant_60 : decode cX10_meant 60 = .ok (.putfield 53, 3) := by decide +kernel
theorem dX10_meant_63 : decode cX10_meant 63 = .ok (.return_, 1) := by decide +kernel
theorem dX10_peer_0 : decode cX10_peer 0 = .ok (.aload_n 0, 1) := by decide +kernel
theorem dX10_peer_1 : decode cX10_peer 1 = .ok (.iconst 0, 1) := by decide +kernel
theorem dX10_peer_2 : decode cX10_peer 2 = .ok (.putfield 137, 3) := by decide +kernel
theorem dX10_peer_5 : decode cX10_peer 5 = .ok (.aload_n 0, 1) := by decide +kernel
theorem dX10_peer_6 : decode cX10_peer 6 = .ok (.iload_n 1, 1) := by decide +kernel
theorem dX10_peer_7 : decode cX10_peer 7 = .ok (.iconst 0, 1) := by decide +kernel
theorem dX10_peer_8 : decode cX10_peer 8 = .ok (.iconst 3, 1) := by decide +kernel
theorem dX10_peer_9 : decode cX10_peer 9 = .ok (.invokestatic 179, 3) := by decide +kernel
theorem dX10_peer_12 : decode cX10_peer 12 = .ok (.ifCond .ne 7, 3) := by decide +kernel
theorem dX10_peer_15 : decode cX10_peer 15 = .ok (.iconst 1, 1) := by decide +kernel
theorem dX10_peer_16 : decode cX10_peer 16 = .ok (.goto 4, 3) := by decide +kernel
theorem dX10_peer_19 : decode cX10_peer 19 = .ok (.iconst 0, 1) := by decide +kernel
theorem dX10_peer_20 : decode cX10_peer 20 = .ok (.iconst 1, 1) := by decide +kernel
theorem dX10_peer_21 : decode cX10_peer 21 = .ok (.invokevirtual 171, 3) := by decide +kernel
theorem dX10_peer_24 : decode cX10_peer 24 = .ok (.ifCond .eq 5, 3) := by decide +kernel
theorem dX10_peer_27 : decode cX10_peer 27 = .ok (.iconst 0, 1) := by decide +kernel
theorem dX10_peer_28 : decode cX10_peer 28 = .ok (.ireturn, 1) := by decide +kernel
theorem dX10_peer_29 : decode cX10_peer 29 = .ok (.aload_n 0, 1) := by decide +kernel
theorem dX10_peer_30 : decode cX10_peer 30 = .ok (.getfield 22, 3) := by decide +kernel
theorem dX10_peer_33 : decode cX10_peer 33 = .ok (.iload_n 1, 1) := by decide +kernel
theorem dX10_peer_34 : decode cX10_peer 34 = .ok (.iaload, 1) := by decide +kernel
theorem dX10_peer_35 : decode cX10_peer 35 = .ok (.istore_n 3, 1) := by decide +kernel
theorem dX10_peer_36 : decode cX10_peer 36 = .ok (.aload_n 0, 1) := by decide +kernel
theorem dX10_peer_37 : decode cX10_peer 37 = .ok (.getfield 22, 3) := by decide +kernel
theorem dX10_peer_40 : decode cX10_peer 40 = .ok (.iload_n 1, 1) := by decide +kernel
theorem dX10_peer_41 : decode cX10_peer 41 = .ok (.iload_n 2, 1) := by decide +kernel
theorem dX10_peer_42 : decode cX10_peer 42 = .ok (.iastore, 1) := by decide +kernel
theorem dX10_peer_43 : decode cX10_peer 43 = .ok (.iload_n 3, 1) := by decide +kernel
theorem dX10_peer_44 : decode cX10_peer 44 = .ok (.ireturn, 1) := by decide +kernel
theorem dX10_poke_0 : decode cX10_poke 0 = .ok (.aload_n 0, 1) := by decide +kernel
theorem dX10_poke_1 : decode cX10_poke 1 = .ok (.iconst 0, 1) := by decide +kernel
theorem dX10_poke_2 : decode cX10_poke 2 = .ok (.putfield 137, 3) := by decide +kernel
theorem dX10_poke_5 : decode cX10_poke 5 = .ok (.aload_n 0, 1) := by decide +kernel
theorem dX10_poke_6 : decode cX10_poke 6 = .ok (.iload_n 1, 1) := by decide +kernel
theorem dX10_poke_7 : decode cX10_poke 7 = .ok (.iconst 0, 1) := by decide +kernel
theorem dX10_poke_8 : decode cX10_poke 8 = .ok (.aload_n 0, 1) := by decide +kernel
theorem dX10_poke_9 : decode cX10_poke 9 = .ok (.getfield 168, 3) := by decide +kernel
theorem dX10_poke_12 : decode cX10_poke 12 = .ok (.iconst 1, 1) := by decide +kernel
theorem dX10_poke_13 : decode cX10_poke 13 = .ok (.isub, 1) := by decide +kernel
theorem dX10_poke_14 : decode cX10_poke 14 = .ok (.invokestatic 179, 3) := by decide +kernel
theorem dX10_poke_17 : decode cX10_poke 17 = .ok (.ifCond .ne 7, 3) := by decide +kernel
theorem dX10_poke_20 : decode cX10_poke 20 = .ok (.iconst 1, 1) := by decide +kernel
theorem dX10_poke_21 : decode cX10_poke 21 = .ok (.goto 4, 3) := by decide +kernel
theorem dX10_poke_25 : decode cX10_poke 25 = .ok (.iconst 1, 1) := by decide +kernel
theorem dX10_poke_26 : decode cX10_poke 26 = .ok (.invokevirtual 171, 3) := by decide +kernel
theorem dX10_poke_29 : decode cX10_poke 29 = .ok (.ifCond .ne 27, 3) := by decide +kernel
theorem dX10_poke_56 : decode cX10_poke 56 = .ok (.iconst 0, 1) := by decide +kernel
theorem dX10_poke_57 : decode cX10_poke 57 = .ok (.ireturn, 1) := by decide +kernel
theorem dX10_policy_0 : decode cX10_policy 0 = .ok (.aload_n 0, 1) := by decide +kernel
theorem dX10_policy_1 : decode cX10_policy 1 = .ok (.iconst 0, 1) := by decide +kernel
theorem dX10_policy_2 : decode cX10_policy 2 = .ok (.putfield 137, 3) := by decide +kernel
theorem dX10_policy_5 : decode cX10_policy 5 = .ok (.aload_n 0, 1) := by decide +kernel
theorem dX10_policy_6 : decode cX10_policy 6 = .ok (.iload_n 1, 1) := by decide +kernel
theorem dX10_policy_7 : decode cX10_policy 7 = .ok (.iconst 0, 1) := by decide +kernel
theorem dX10_policy_8 : decode cX10_policy 8 = .ok (.iconst 1, 1) := by decide +kernel
theorem dX10_policy_9 : decode cX10_policy 9 = .ok (.invokestatic 179, 3) := by decide +kernel
theorem dX10_policy_12 : decode cX10_policy 12 = .ok (.ifCond .eq 35, 3) := by decide +kernel
theorem dX10_policy_15 : decode cX10_policy 15 = .ok (.iload_n 3, 1) := by decide +kernel
theorem dX10_policy_16 : decode cX10_policy 16 = .ok (.iconst 0, 1) := by decide +kernel
theorem dX10_policy_17 : decode cX10_policy 17 = .ok (.bipush 32, 2) := by decide +kernel
theorem dX10_policy_19 : decode cX10_policy 19 = .ok (.invokestatic 179, 3) := by decide +kernel
theorem dX10_policy_22 : decode cX10_policy 22 = .ok (.ifCond .eq 25, 3) := by decide +kernel
theorem dX10_policy_25 : decode cX10_policy 25 = .ok (.iload 5, 2) := by decide +kernel
theorem dX10_policy_27 : decode cX10_policy 27 = .ok (.iconst 0, 1) := by decide +kernel
theorem dX10_policy_28 : decode cX10_policy 28 = .ok (.bipush 32, 2) := by decide +kernel
theorem dX10_policy_30 : decode cX10_policy 30 = .ok (.invokestatic 179, 3) := by decide +kernel
theorem dX10_policy_33 : decode cX10_policy 33 = .ok (.ifCond .eq 14, 3) := by decide +kernel
theorem dX10_policy_36 : decode cX10_policy 36 = .ok (.iload 6, 2) := by decide +kernel
theorem dX10_policy_38 : decode cX10_policy 38 = .ok (.bipush (-2), 2) := by decide +kernel
theorem dX10_policy_40 : decode cX10_policy 40 = .ok (.iconst 3, 1) := by decide +kernel
theorem dX10_policy_41 : decode cX10_policy 41 = .ok (.invokestatic 179, 3) := by decide +kernel
theorem dX10_policy_44 : decode cX10_policy 44 = .ok (.ifCond .ne 7, 3) := by decide +kernel
theorem dX10_policy_47 : decode cX10_policy 47 = .ok (.iconst 1, 1) := by decide +kernel
theorem dX10_policy_48 : decode cX10_policy 48 = .ok (.goto 4, 3) := by decide +kernel
theorem dX10_policy_51 : decode cX10_policy 51 = .ok (.iconst 0, 1) := by decide +kernel
theorem dX10_policy_52 : decode cX10_policy 52 = .ok (.iconst 1, 1) := by decide +kernel
theorem dX10_policy_53 : decode cX10_policy 53 = .ok (.invokevirtual 171, 3) := by decide +kernel
theorem dX10_policy_56 : decode cX10_policy 56 = .ok (.ifCond .ne 25, 3) := by decide +kernel
theorem dX10_policy_59 : decode cX10_policy 59 = .ok (.aload_n 0, 1) := by decide +kernel
theorem dX10_policy_60 : decode cX10_policy 60 = .ok (.aload_n 0, 1) := by decide +kernel
theorem dX10_policy_61 : decode cX10_policy 61 = .ok (.getfield 197, 3) := by decide +kernel
theorem dX10_policy_64 : decode cX10_policy 64 = .ok (.bipush 24, 2) := by decide +kernel
theorem dX10_policy_66 : decode cX10_policy 66 = .ok (.if_icmp .ne 7, 3) := by decide +kernel
theorem dX10_policy_73 : decode cX10_policy 73 = .ok (.iconst 0, 1) := by decide +kernel
theorem dX10_policy_74 : decode cX10_policy 74 = .ok (.iconst 2, 1) := by decide +kernel
theorem dX10_policy_75 : decode cX10_policy 75 = .ok (.invokevirtual 171, 3) := by decide +kernel
theorem dX10_policy_78 : decode cX10_policy 78 = .ok (.ifCond .eq 5, 3) := by decide +kernel
theorem dX10_policy_81 : decode cX10_policy 81 = .ok (.iconst 0, 1) := by decide +kernel
theorem dX10_policy_82 : decode cX10_policy 82 = .ok (.ireturn, 1) := by decide +kernel
theorem dX10_policy_83 : decode cX10_policy 83 = .ok (.aload_n 0, 1) := by decide +kernel
theorem dX10_policy_84 : decode cX10_policy 84 = .ok (.getfield 197, 3) := by decide +kernel
theorem dX10_policy_87 : decode cX10_policy 87 = .ok (.istore 7, 2) := by decide +kernel
theorem dX10_policy_89 : decode cX10_policy 89 = .ok (.aload_n 0, 1) := by decide +kernel
theorem dX10_policy_90 : decode cX10_policy 90 = .ok (.getfield 25, 3) := by decide +kernel
theorem dX10_policy_93 : decode cX10_policy 93 = .ok (.iload 7, 2) := by decide +kernel
theorem dX10_policy_95 : decode cX10_policy 95 = .ok (.iload_n 1, 1) := by decide +kernel
theorem dX10_policy_96 : decode cX10_policy 96 = .ok (.iastore, 1) := by decide +kernel
theorem dX10_policy_97 : decode cX10_policy 97 = .ok (.aload_n 0, 1) := by decide +kernel
theorem dX10_policy_98 : decode cX10_policy 98 = .ok (.getfield 28, 3) := by decide +kernel
theorem dX10_policy_101 : decode cX10_policy 101 = .ok (.iload 7, 2) := by decide +kernel
theorem dX10_policy_103 : decode cX10_policy 103 = .ok (.iload_n 2, 1) := by decide +kernel
theorem dX10_policy_104 : decode cX10_policy 104 = .ok (.iastore, 1) := by decide +kernel
theorem dX10_policy_105 : decode cX10_policy 105 = .ok (.aload_n 0, 1) := by decide +kernel
theorem dX10_policy_106 : decode cX10_policy 106 = .ok (.getfield 31, 3) := by decide +kernel
theorem dX10_policy_109 : decode cX10_policy 109 = .ok (.iload 7, 2) := by decide +kernel
theorem dX10_policy_111 : decode cX10_policy 111 = .ok (.iload_n 3, 1) := by decide +kernel
theorem dX10_policy_112 : decode cX10_policy 112 = .ok (.iastore, 1) := by decide +kernel
theorem dX10_policy_113 : decode cX10_policy 113 = .ok (.aload_n 0, 1) := by decide +kernel
theorem dX10_policy_114 : decode cX10_policy 114 = .ok (.getfield 34, 3) := by decide +kernel
theorem dX10_policy_117 : decode cX10_policy 117 = .ok (.iload 7, 2) := by decide +kernel
theorem dX10_policy_119 : decode cX10_policy 119 = .ok (.iload 4, 2) := by decide +kernel
theorem dX10_policy_121 : decode cX10_policy 121 = .ok (.iastore, 1) := by decide +kernel
theorem dX10_policy_122 : decode cX10_policy 122 = .ok (.aload_n 0, 1) := by decide +kernel
theorem dX10_policy_123 : decode cX10_policy 123 = .ok (.getfield 37, 3) := by decide +kernel
theorem dX10_policy_126 : decode cX10_policy 126 = .ok (.iload 7, 2) := by decide +kernel
theorem dX10_policy_128 : decode cX10_policy 128 = .ok (.iload 5, 2) := by decide +kernel
theorem dX10_policy_130 : decode cX10_policy 130 = .ok (.iastore, 1) := by decide +kernel
theorem dX10_policy_131 : decode cX10_policy 131 = .ok (.aload_n 0, 1) := by decide +kernel
theorem dX10_policy_132 : decode cX10_policy 132 = .ok (.getfield 49, 3) := by decide +kernel
theorem dX10_policy_135 : decode cX10_policy 135 = .ok (.iload 7, 2) := by decide +kernel
theorem dX10_policy_137 : decode cX10_policy 137 = .ok (.iload 6, 2) := by decide +kernel
theorem dX10_policy_139 : decode cX10_policy 139 = .ok (.iastore, 1) := by decide +kernel
theorem dX10_policy_140 : decode cX10_policy 140 = .ok (.aload_n 0, 1) := by decide +kernel
theorem dX10_policy_141 : decode cX10_policy 141 = .ok (.getfield 40, 3) := by decide +kernel
theorem dX10_policy_144 : decode cX10_policy 144 = .ok (.iload 7, 2) := by decide +kernel
theorem dX10_policy_146 : decode cX10_policy 146 = .ok (.aload_n 0, 1) := by decide +kernel
theorem dX10_policy_147 : decode cX10_policy 147 = .ok (.getfield 191, 3) := by decide +kernel
theorem dX10_policy_150 : decode cX10_policy 150 = .ok (.iastore, 1) := by decide +kernel
theorem dX10_policy_151 : decode cX10_policy 151 = .ok (.aload_n 0, 1) := by decide +kernel
theorem dX10_policy_152 : decode cX10_policy 152 = .ok (.getfield 43, 3) := by decide +kernel
theorem dX10_policy_155 : decode cX10_policy 155 = .ok (.iload 7, 2) := by decide +kernel
theorem dX10_policy_157 : decode cX10_policy 157 = .ok (.aload_n 0, 1) := by decide +kernel
theorem dX10_policy_158 : decode cX10_policy 158 = .ok (.getfield 194, 3) := by decide +kernel
theorem dX10_policy_161 : decode cX10_policy 161 = .ok (.iastore, 1) := by decide +kernel
theorem dX10_policy_162 : decode cX10_policy 162 = .ok (.aload_n 0, 1) := by decide +kernel
theorem dX10_policy_163 : decode cX10_policy 163 = .ok (.getfield 46, 3) := by decide +kernel
theorem dX10_policy_166 : decode cX10_policy 166 = .ok (.iload 7, 2) := by decide +kernel
theorem dX10_policy_168 : decode cX10_policy 168 = .ok (.aload_n 0, 1) := by decide +kernel
theorem dX10_policy_169 : decode cX10_policy 169 = .ok (.getfield 53, 3) := by decide +kernel
theorem dX10_policy_172 : decode cX10_policy 172 = .ok (.iastore, 1) := by decide +kernel
theorem dX10_policy_173 : decode cX10_policy 173 = .ok (.aload_n 0, 1) := by decide +kernel
theorem dX10_policy_174 : decode cX10_policy 174 = .ok (.iconst 0, 1) := by decide +kernel
theorem dX10_policy_175 : decode cX10_policy 175 = .ok (.putfield 191, 3) := by decide +kernel
theorem dX10_policy_178 : decode cX10_policy 178 = .ok (.aload_n 0, 1) := by decide +kernel
theorem dX10_policy_179 : decode cX10_policy 179 = .ok (.iconst 0, 1) := by decide +kernel
theorem dX10_policy_180 : decode cX10_policy 180 = .ok (.putfield 194, 3) := by decide +kernel
theorem dX10_policy_183 : decode cX10_policy 183 = .ok (.aload_n 0, 1) := by decide +kernel
theorem dX10_policy_184 : decode cX10_policy 184 = .ok (.ldc 52, 2) := by decide +kernel
theorem dX10_policy_186 : decode cX10_policy 186 = .ok (.putfield 53, 3) := by decide +kernel
theorem dX10_policy_189 : decode cX10_policy 189 = .ok (.aload_n 0, 1) := by decide +kernel
theorem dX10_policy_190 : decode cX10_policy 190 = .ok (.dup, 1) := by decide +kernel
theorem dX10_policy_191 : decode cX10_policy 191 = .ok (.getfield 197, 3) := by decide +kernel
theorem dX10_policy_194 : decode cX10_policy 194 = .ok (.iconst 1, 1) := by decide +kernel
theorem dX10_policy_195 : decode cX10_policy 195 = .ok (.iadd, 1) := by decide +kernel
theorem dX10_policy_196 : decode cX10_policy 196 = .ok (.putfield 197, 3) := by decide +kernel
theorem dX10_policy_199 : decode cX10_policy 199 = .ok (.aload_n 0, 1) := by decide +kernel
theorem dX10_policy_200 : decode cX10_policy 200 = .ok (.getfield 197, 3) := by decide +kernel
theorem dX10_policy_203 : decode cX10_policy 203 = .ok (.ireturn, 1) := by decide +kernel
theorem dX10_putEight_0 : decode cX10_putEight 0 = .ok (.aload_n 0, 1) := by decide +kernel
theorem dX10_putEight_1 : decode cX10_putEight 1 = .ok (.iload_n 1, 1) := by decide +kernel
theorem dX10_putEight_2 : decode cX10_putEight 2 = .ok (.lload_n 2, 1) := by decide +kernel
theorem dX10_putEight_3 : decode cX10_putEight 3 = .ok (.bipush 32, 2) := by decide +kernel
theorem dX10_putEight_5 : decode cX10_putEight 5 = .ok (.lushr, 1) := by decide +kernel
theorem dX10_putEight_6 : decode cX10_putEight 6 = .ok (.l2i, 1) := by decide +kernel
theorem dX10_putEight_7 : decode cX10_putEight 7 = .ok (.invokevirtual 148, 3) := by decide +kernel
theorem dX10_putEight_10 : decode cX10_putEight 10 = .ok (.aload_n 0, 1) := by decide +kernel
theorem dX10_putEight_11 : decode cX10_putEight 11 = .ok (.iload_n 1, 1) := by decide +kernel
theorem dX10_putEight_12 : decode cX10_putEight 12 = .ok (.iconst 4, 1) := by decide +kernel
theorem dX10_putEight_13 : decode cX10_putEight 13 = .ok (.iadd, 1) := by decide +kernel
theorem dX10_putEight_14 : decode cX10_putEight 14 = .ok (.lload_n 2, 1) := by decide +kernel
theorem dX10_putEight_15 : decode cX10_putEight 15 = .ok (.l2i, 1) := by decide +kernel
theorem dX10_putEight_16 : decode cX10_putEight 16 = .ok (.invokevirtual 148, 3) := by decide +kernel
theorem dX10_putEight_19 : decode cX10_putEight 19 = .ok (.return_, 1) := by decide +kernel
theorem dX10_putFour_0 : decode cX10_putFour 0 = .ok (.aload_n 0, 1) := by decide +kernel
theorem dX10_putFour_1 : decode cX10_putFour 1 = .ok (.iload_n 1, 1) := by decide +kernel
theorem dX10_putFour_2 : decode cX10_putFour 2 = .ok (.iload_n 2, 1) := by decide +kernel
theorem dX10_putFour_3 : decode cX10_putFour 3 = .ok (.bipush 16, 2) := by decide +kernel
theorem dX10_putFour_5 : decode cX10_putFour 5 = .ok (.iushr, 1) := by decide +kernel
theorem dX10_putFour_6 : decode cX10_putFour 6 = .ok (.invokevirtual 144, 3) := by decide +kernel
theorem dX10_putFour_9 : decode cX10_putFour 9 = .ok (.aload_n 0, 1) := by decide +kernel
theorem dX10_putFour_10 : decode cX10_putFour 10 = .ok (.iload_n 1, 1) := by decide +kernel
theorem dX10_putFour_11 : decode cX10_putFour 11 = .ok (.iconst 2, 1) := by decide +kernel
theorem dX10_putFour_12 : decode cX10_putFour 12 = .ok (.iadd, 1) := by decide +kernel
theorem dX10_putFour_13 : decode cX10_putFour 13 = .ok (.iload_n 2, 1) := by decide +kernel
theorem dX10_putFour_14 : decode cX10_putFour 14 = .ok (.ldc 52, 2) := by decide +kernel
theorem dX10_putFour_16 : decode cX10_putFour 16 = .ok (.iand, 1) := by decide +kernel
theorem dX10_putFour_17 : decode cX10_putFour 17 = .ok (.invokevirtual 144, 3) := by decide +kernel
theorem dX10_putFour_20 : decode cX10_putFour 20 = .ok (.return_, 1) := by decide +kernel
theorem dX10_putTwo_0 : decode cX10_putTwo 0 = .ok (.aload_n 0, 1) := by decide +kernel
theorem dX10_putTwo_1 : decode cX10_putTwo 1 = .ok (.getfield 7, 3) := by decide +kernel
theorem dX10_putTwo_4 : decode cX10_putTwo 4 = .ok (.iload_n 1, 1) := by decide +kernel
theorem dX10_putTwo_5 : decode cX10_putTwo 5 = .ok (.iload_n 2, 1) := by decide +kernel
theorem dX10_putTwo_6 : decode cX10_putTwo 6 = .ok (.bipush 8, 2) := by decide +kernel
theorem dX10_putTwo_8 : decode cX10_putTwo 8 = .ok (.ishr, 1) := by decide +kernel
theorem dX10_putTwo_9 : decode cX10_putTwo 9 = .ok (.sipush 255, 3) := by decide +kernel
theorem dX10_putTwo_12 : decode cX10_putTwo 12 = .ok (.iand, 1) := by decide +kernel
theorem dX10_putTwo_13 : decode cX10_putTwo 13 = .ok (.iastore, 1) := by decide +kernel
theorem dX10_putTwo_14 : decode cX10_putTwo 14 = .ok (.aload_n 0, 1) := by decide +kernel
theorem dX10_putTwo_15 : decode cX10_putTwo 15 = .ok (.getfield 7, 3) := by decide +kernel
theorem dX10_putTwo_18 : decode cX10_putTwo 18 = .ok (.iload_n 1, 1) := by decide +kernel
theorem dX10_putTwo_19 : decode cX10_putTwo 19 = .ok (.iconst 1, 1) := by decide +kernel
theorem dX10_putTwo_20 : decode cX10_putTwo 20 = .ok (.iadd, 1) := by decide +kernel
theorem dX10_putTwo_21 : decode cX10_putTwo 21 = .ok (.iload_n 2, 1) := by decide +kernel
theorem dX10_putTwo_22 : decode cX10_putTwo 22 = .ok (.sipush 255, 3) := by decide +kernel
theorem dX10_putTwo_25 : decode cX10_putTwo 25 = .ok (.iand, 1) := by decide +kernel
theorem dX10_putTwo_26 : decode cX10_putTwo 26 = .ok (.iastore, 1) := by decide +kernel
theorem dX10_putTwo_27 : decode cX10_putTwo 27 = .ok (.return_, 1) := by decide +kernel
theorem dX10_refuses_0 : decode cX10_refuses 0 = .ok (.aload_n 0, 1) := by decide +kernel
theorem dX10_refuses_1 : decode cX10_refuses 1 = .ok (.getfield 137, 3) := by decide +kernel
theorem dX10_refuses_4 : decode cX10_refuses 4 = .ok (.ifCond .ne 12, 3) := by decide +kernel
theorem dX10_refuses_7 : decode cX10_refuses 7 = .ok (.iload_n 1, 1) := by decide +kernel
theorem dX10_refuses_8 : decode cX10_refuses 8 = .ok (.ifCond .eq 8, 3) := by decide +kernel
theorem dX10_refuses_11 : decode cX10_refuses 11 = .ok (.aload_n 0, 1) := by decide +kernel
theorem dX10_refuses_12 : decode cX10_refuses 12 = .ok (.iload_n 2, 1) := by decide +kernel
theorem dX10_refuses_13 : decode cX10_refuses 13 = .ok (.putfield 137, 3) := by decide +kernel
theorem dX10_refuses_16 : decode cX10_refuses 16 = .ok (.aload_n 0, 1) := by decide +kernel
theorem dX10_refuses_17 : decode cX10_refuses 17 = .ok (.getfield 137, 3) := by decide +kernel
theorem dX10_refuses_20 : decode cX10_refuses 20 = .ok (.ifCond .le 7, 3) := by decide +kernel
theorem dX10_refuses_23 : decode cX10_refuses 23 = .ok (.iconst 1, 1) := by decide +kernel
theorem dX10_refuses_24 : decode cX10_refuses 24 = .ok (.goto 4, 3) := by decide +kernel
theorem dX10_refuses_27 : decode cX10_refuses 27 = .ok (.iconst 0, 1) := by decide +kernel
theorem dX10_refuses_28 : decode cX10_refuses 28 = .ok (.ireturn, 1) := by decide +kernel
theorem dX10_route_0 : decode cX10_route 0 = .ok (.aload_n 0, 1) := by decide +kernel
theorem dX10_route_1 : decode cX10_route 1 = .ok (.iconst 0, 1) := by decide +kernel
theorem dX10_route_2 : decode cX10_route 2 = .ok (.putfield 137, 3) := by decide +kernel
theorem dX10_route_5 : decode cX10_route 5 = .ok (.aload_n 0, 1) := by decide +kernel
theorem dX10_route_6 : decode cX10_route 6 = .ok (.iload_n 2, 1) := by decide +kernel
theorem dX10_route_7 : decode cX10_route 7 = .ok (.iconst 0, 1) := by decide +kernel
theorem dX10_route_8 : decode cX10_route 8 = .ok (.bipush 32, 2) := by decide +kernel
theorem dX10_route_10 : decode cX10_route 10 = .ok (.invokestatic 179, 3) := by decide +kernel
theorem dX10_route_13 : decode cX10_route 13 = .ok (.ifCond .eq 12, 3) := by decide +kernel
theorem dX10_route_16 : decode cX10_route 16 = .ok (.iload_n 3, 1) := by decide +kernel
theorem dX10_route_17 : decode cX10_route 17 = .ok (.iconst 0, 1) := by decide +kernel
theorem dX10_route_18 : decode cX10_route 18 = .ok (.iconst 1, 1) := by decide +kernel
theorem dX10_route_19 : decode cX10_route 19 = .ok (.invokestatic 179, 3) := by decide +kernel
theorem dX10_route_22 : decode cX10_route 22 = .ok (.ifCond .ne 7, 3) := by decide +kernel
theorem dX10_route_25 : decode cX10_route 25 = .ok (.iconst 1, 1) := by decide +kernel
theorem dX10_route_26 : decode cX10_route 26 = .ok (.goto 4, 3) := by decide +kernel
theorem dX10_route_29 : decode cX10_route 29 = .ok (.iconst 0, 1) := by decide +kernel
theorem dX10_route_30 : decode cX10_route 30 = .ok (.iconst 1, 1) := by decide +kernel
theorem dX10_route_31 : decode cX10_route 31 = .ok (.invokevirtual 171, 3) := by decide +kernel
theorem dX10_route_34 : decode cX10_route 34 = .ok (.ifCond .ne 25, 3) := by decide +kernel
theorem dX10_route_37 : decode cX10_route 37 = .ok (.aload_n 0, 1) := by decide +kernel
theorem dX10_route_38 : decode cX10_route 38 = .ok (.aload_n 0, 1) := by decide +kernel
theorem dX10_route_39 : decode cX10_route 39 = .ok (.getfield 188, 3) := by decide +kernel
theorem dX10_route_42 : decode cX10_route 42 = .ok (.bipush 16, 2) := by decide +kernel
theorem dX10_route_44 : decode cX10_route 44 = .ok (.if_icmp .ne 7, 3) := by decide +kernel
theorem dX10_route_51 : decode cX10_route 51 = .ok (.iconst 0, 1) := by decide +kernel
theorem dX10_route_52 : decode cX10_route 52 = .ok (.iconst 2, 1) := by decide +kernel
theorem dX10_route_53 : decode cX10_route 53 = .ok (.invokevirtual 171, 3) := by decide +kernel
theorem dX10_route_56 : decode cX10_route 56 = .ok (.ifCond .eq 5, 3) := by decide +kernel
theorem dX10_route_59 : decode cX10_route 59 = .ok (.iconst 0, 1) := by decide +kernel
theorem dX10_route_60 : decode cX10_route 60 = .ok (.ireturn, 1) := by decide +kernel
theorem dX10_route_61 : decode cX10_route 61 = .ok (.aload_n 0, 1) := by decide +kernel
theorem dX10_route_62 : decode cX10_route 62 = .ok (.getfield 13, 3) := by decide +kernel
theorem dX10_route_65 : decode cX10_route 65 = .ok (.aload_n 0, 1) := by decide +kernel
theorem dX10_route_66 : decode cX10_route 66 = .ok (.getfield 188, 3) := by decide +kernel
theorem dX10_route_69 : decode cX10_route 69 = .ok (.iload_n 1, 1) := by decide +kernel
theorem dX10_route_70 : decode cX10_route 70 = .ok (.iastore, 1) := by decide +kernel
theorem dX10_route_71 : decode cX10_route 71 = .ok (.aload_n 0, 1) := by decide +kernel
theorem dX10_route_72 : decode cX10_route 72 = .ok (.getfield 16, 3) := by decide +kernel
theorem dX10_route_75 : decode cX10_route 75 = .ok (.aload_n 0, 1) := by decide +kernel
theorem dX10_route_76 : decode cX10_route 76 = .ok (.getfield 188, 3) := by decide +kernel
theorem dX10_route_79 : decode cX10_route 79 = .ok (.iload_n 2, 1) := by decide +kernel
theorem dX10_route_80 : decode cX10_route 80 = .ok (.iastore, 1) := by decide +kernel
theorem dX10_route_81 : decode cX10_route 81 = .ok (.aload_n 0, 1) := by decide +kernel
theorem dX10_route_82 : decode cX10_route 82 = .ok (.getfield 19, 3) := by decide +kernel
theorem dX10_route_85 : decode cX10_route 85 = .ok (.aload_n 0, 1) := by decide +kernel
theorem dX10_route_86 : decode cX10_route 86 = .ok (.getfield 188, 3) := by decide +kernel
theorem dX10_route_89 : decode cX10_route 89 = .ok (.iload_n 3, 1) := by decide +kernel
theorem dX10_route_90 : decode cX10_route 90 = .ok (.iastore, 1) := by decide +kernel
theorem dX10_route_91 : decode cX10_route 91 = .ok (.aload_n 0, 1) := by decide +kernel
theorem dX10_route_92 : decode cX10_route 92 = .ok (.dup, 1) := by decide +kernel
theorem dX10_route_93 : decode cX10_route 93 = .ok (.getfield 188, 3) := by decide +kernel
theorem dX10_route_96 : decode cX10_route 96 = .ok (.iconst 1, 1) := by decide +kernel
theorem dX10_route_97 : decode cX10_route 97 = .ok (.iadd, 1) := by decide +kernel
theorem dX10_route_98 : decode cX10_route 98 = .ok (.putfield 188, 3) := by decide +kernel
theorem dX10_route_101 : decode cX10_route 101 = .ok (.aload_n 0, 1) := by decide +kernel
theorem dX10_route_102 : decode cX10_route 102 = .ok (.getfield 188, 3) := by decide +kernel
theorem dX10_route_105 : decode cX10_route 105 = .ok (.ireturn, 1) := by decide +kernel
theorem dX10_routeOf_0 : decode cX10_routeOf 0 = .ok (.iconst (-1), 1) := by decide +kernel
theorem dX10_routeOf_1 : decode cX10_routeOf 1 = .ok (.istore_n 2, 1) := by decide +kernel
theorem dX10_routeOf_2 : decode cX10_routeOf 2 = .ok (.iconst 0, 1) := by decide +kernel
theorem dX10_routeOf_3 : decode cX10_routeOf 3 = .ok (.istore_n 3, 1) := by decide +kernel
theorem dX10_routeOf_4 : decode cX10_routeOf 4 = .ok (.iload_n 3, 1) := by decide +kernel
theorem dX10_routeOf_5 : decode cX10_routeOf 5 = .ok (.aload_n 0, 1) := by decide +kernel
theorem dX10_routeOf_6 : decode cX10_routeOf 6 = .ok (.getfield 188, 3) := by decide +kernel
theorem dX10_routeOf_9 : decode cX10_routeOf 9 = .ok (.if_icmp .ge 49, 3) := by decide +kernel
theorem dX10_routeOf_58 : decode cX10_routeOf 58 = .ok (.iload_n 2, 1) := by decide +kernel
theorem dX10_routeOf_59 : decode cX10_routeOf 59 = .ok (.ifCond .ge 7, 3) := by decide +kernel
