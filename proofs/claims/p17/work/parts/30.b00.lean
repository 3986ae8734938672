theorem dX10_at_0 : decode cX10_at 0 = .ok (.aload_n 0, 1) := by decide +kernel
theorem dX10_at_1 : decode cX10_at 1 = .ok (.iconst 0, 1) := by decide +kernel
theorem dX10_at_2 : decode cX10_at 2 = .ok (.putfield 137, 3) := by decide +kernel
theorem dX10_at_5 : decode cX10_at 5 = .ok (.aload_n 0, 1) := by decide +kernel
theorem dX10_at_6 : decode cX10_at 6 = .ok (.iload_n 1, 1) := by decide +kernel
theorem dX10_at_7 : decode cX10_at 7 = .ok (.iconst 0, 1) := by decide +kernel
theorem dX10_at_8 : decode cX10_at 8 = .ok (.aload_n 0, 1) := by decide +kernel
theorem dX10_at_9 : decode cX10_at 9 = .ok (.getfield 168, 3) := by decide +kernel
theorem dX10_at_12 : decode cX10_at 12 = .ok (.iconst 1, 1) := by decide +kernel
theorem dX10_at_13 : decode cX10_at 13 = .ok (.isub, 1) := by decide +kernel
theorem dX10_at_14 : decode cX10_at 14 = .ok (.invokestatic 179, 3) := by decide +kernel
theorem dX10_at_17 : decode cX10_at 17 = .ok (.ifCond .ne 7, 3) := by decide +kernel
theorem dX10_at_20 : decode cX10_at 20 = .ok (.iconst 1, 1) := by decide +kernel
theorem dX10_at_21 : decode cX10_at 21 = .ok (.goto 4, 3) := by decide +kernel
theorem dX10_at_24 : decode cX10_at 24 = .ok (.iconst 0, 1) := by decide +kernel
theorem dX10_at_25 : decode cX10_at 25 = .ok (.iconst 1, 1) := by decide +kernel
theorem dX10_at_26 : decode cX10_at 26 = .ok (.invokevirtual 171, 3) := by decide +kernel
theorem dX10_at_29 : decode cX10_at 29 = .ok (.ifCond .eq 7, 3) := by decide +kernel
theorem dX10_at_32 : decode cX10_at 32 = .ok (.iconst 0, 1) := by decide +kernel
theorem dX10_at_33 : decode cX10_at 33 = .ok (.goto 11, 3) := by decide +kernel
theorem dX10_at_36 : decode cX10_at 36 = .ok (.aload_n 0, 1) := by decide +kernel
theorem dX10_at_37 : decode cX10_at 37 = .ok (.getfield 7, 3) := by decide +kernel
theorem dX10_at_40 : decode cX10_at 40 = .ok (.iconst 0, 1) := by decide +kernel
theorem dX10_at_41 : decode cX10_at 41 = .ok (.iload_n 1, 1) := by decide +kernel
theorem dX10_at_42 : decode cX10_at 42 = .ok (.iadd, 1) := by decide +kernel
theorem dX10_at_43 : decode cX10_at 43 = .ok (.iaload, 1) := by decide +kernel
theorem dX10_at_44 : decode cX10_at 44 = .ok (.ireturn, 1) := by decide +kernel
theorem dX10_clear_0 : decode cX10_clear 0 = .ok (.aload_n 0, 1) := by decide +kernel
theorem dX10_clear_1 : decode cX10_clear 1 = .ok (.iconst 0, 1) := by decide +kernel
theorem dX10_clear_2 : decode cX10_clear 2 = .ok (.putfield 137, 3) := by decide +kernel
theorem dX10_clear_5 : decode cX10_clear 5 = .ok (.aload_n 0, 1) := by decide +kernel
theorem dX10_clear_6 : decode cX10_clear 6 = .ok (.iconst 0, 1) := by decide +kernel
theorem dX10_clear_7 : decode cX10_clear 7 = .ok (.putfield 168, 3) := by decide +kernel
theorem dX10_clear_10 : decode cX10_clear 10 = .ok (.aload_n 0, 1) := by decide +kernel
theorem dX10_clear_11 : decode cX10_clear 11 = .ok (.iconst 0, 1) := by decide +kernel
theorem dX10_clear_12 : decode cX10_clear 12 = .ok (.putfield 188, 3) := by decide +kernel
theorem dX10_clear_15 : decode cX10_clear 15 = .ok (.aload_n 0, 1) := by decide +kernel
theorem dX10_clear_16 : decode cX10_clear 16 = .ok (.iconst 0, 1) := by decide +kernel
theorem dX10_clear_17 : decode cX10_clear 17 = .ok (.putfield 197, 3) := by decide +kernel
theorem dX10_clear_20 : decode cX10_clear 20 = .ok (.aload_n 0, 1) := by decide +kernel
theorem dX10_clear_21 : decode cX10_clear 21 = .ok (.iconst 0, 1) := by decide +kernel
theorem dX10_clear_22 : decode cX10_clear 22 = .ok (.putfield 200, 3) := by decide +kernel
theorem dX10_clear_25 : decode cX10_clear 25 = .ok (.aload_n 0, 1) := by decide +kernel
theorem dX10_clear_26 : decode cX10_clear 26 = .ok (.iconst 0, 1) := by decide +kernel
theorem dX10_clear_27 : decode cX10_clear 27 = .ok (.putfield 267, 3) := by decide +kernel
theorem dX10_clear_30 : decode cX10_clear 30 = .ok (.aload_n 0, 1) := by decide +kernel
theorem dX10_clear_31 : decode cX10_clear 31 = .ok (.iconst 0, 1) := by decide +kernel
theorem dX10_clear_32 : decode cX10_clear 32 = .ok (.putfield 243, 3) := by decide +kernel
theorem dX10_clear_35 : decode cX10_clear 35 = .ok (.aload_n 0, 1) := by decide +kernel
theorem dX10_clear_36 : decode cX10_clear 36 = .ok (.iconst (-1), 1) := by decide +kernel
theorem dX10_clear_37 : decode cX10_clear 37 = .ok (.putfield 92, 3) := by decide +kernel
theorem dX10_clear_40 : decode cX10_clear 40 = .ok (.aload_n 0, 1) := by decide +kernel
theorem dX10_clear_41 : decode cX10_clear 41 = .ok (.iconst 0, 1) := by decide +kernel
theorem dX10_clear_42 : decode cX10_clear 42 = .ok (.putfield 191, 3) := by decide +kernel
theorem dX10_clear_45 : decode cX10_clear 45 = .ok (.aload_n 0, 1) := by decide +kernel
theorem dX10_clear_46 : decode cX10_clear 46 = .ok (.iconst 0, 1) := by decide +kernel
theorem dX10_clear_47 : decode cX10_clear 47 = .ok (.putfield 194, 3) := by decide +kernel
theorem dX10_clear_50 : decode cX10_clear 50 = .ok (.aload_n 0, 1) := by decide +kernel
theorem dX10_clear_51 : decode cX10_clear 51 = .ok (.ldc 52, 2) := by decide +kernel
theorem dX10_clear_53 : decode cX10_clear 53 = .ok (.putfield 53, 3) := by decide +kernel
theorem dX10_clear_56 : decode cX10_clear 56 = .ok (.iconst 0, 1) := by decide +kernel
theorem dX10_clear_57 : decode cX10_clear 57 = .ok (.istore_n 1, 1) := by decide +kernel
theorem dX10_clear_58 : decode cX10_clear 58 = .ok (.iload_n 1, 1) := by decide +kernel
theorem dX10_clear_59 : decode cX10_clear 59 = .ok (.iconst 4, 1) := by decide +kernel
theorem dX10_clear_60 : decode cX10_clear 60 = .ok (.if_icmp .ge 23, 3) := by decide +kernel
theorem dX10_clear_63 : decode cX10_clear 63 = .ok (.aload_n 0, 1) := by decide +kernel
theorem dX10_clear_64 : decode cX10_clear 64 = .ok (.getfield 22, 3) := by decide +kernel
theorem dX10_clear_67 : decode cX10_clear 67 = .ok (.iload_n 1, 1) := by decide +kernel
theorem dX10_clear_68 : decode cX10_clear 68 = .ok (.iconst 0, 1) := by decide +kernel
theorem dX10_clear_69 : decode cX10_clear 69 = .ok (.iastore, 1) := by decide +kernel
theorem dX10_clear_70 : decode cX10_clear 70 = .ok (.aload_n 0, 1) := by decide +kernel
theorem dX10_clear_71 : decode cX10_clear 71 = .ok (.getfield 95, 3) := by decide +kernel
theorem dX10_clear_74 : decode cX10_clear 74 = .ok (.iload_n 1, 1) := by decide +kernel
theorem dX10_clear_75 : decode cX10_clear 75 = .ok (.iconst 0, 1) := by decide +kernel
theorem dX10_clear_76 : decode cX10_clear 76 = .ok (.bastore, 1) := by decide +kernel
theorem dX10_clear_77 : decode cX10_clear 77 = .ok (.iinc 1 1, 3) := by decide +kernel
theorem dX10_clear_80 : decode cX10_clear 80 = .ok (.goto (-22), 3) := by decide +kernel
theorem dX10_clear_83 : decode cX10_clear 83 = .ok (.aload_n 0, 1) := by decide +kernel
theorem dX10_clear_84 : decode cX10_clear 84 = .ok (.getfield 89, 3) := by decide +kernel
theorem dX10_clear_87 : decode cX10_clear 87 = .ok (.iconst 0, 1) := by decide +kernel
theorem dX10_clear_88 : decode cX10_clear 88 = .ok (.iconst 0, 1) := by decide +kernel
theorem dX10_clear_89 : decode cX10_clear 89 = .ok (.iastore, 1) := by decide +kernel
theorem dX10_clear_90 : decode cX10_clear 90 = .ok (.aload_n 0, 1) := by decide +kernel
theorem dX10_clear_91 : decode cX10_clear 91 = .ok (.getfield 89, 3) := by decide +kernel
theorem dX10_clear_94 : decode cX10_clear 94 = .ok (.iconst 1, 1) := by decide +kernel
theorem dX10_clear_95 : decode cX10_clear 95 = .ok (.iconst 0, 1) := by decide +kernel
theorem dX10_clear_96 : decode cX10_clear 96 = .ok (.iastore, 1) := by decide +kernel
theorem dX10_clear_97 : decode cX10_clear 97 = .ok (.iconst 0, 1) := by decide +kernel
theorem dX10_clear_98 : decode cX10_clear 98 = .ok (.istore_n 1, 1) := by decide +kernel
theorem dX10_clear_99 : decode cX10_clear 99 = .ok (.iload_n 1, 1) := by decide +kernel
theorem dX10_clear_100 : decode cX10_clear 100 = .ok (.bipush 18, 2) := by decide +kernel
theorem dX10_clear_102 : decode cX10_clear 102 = .ok (.if_icmp .ge 16, 3) := by decide +kernel
theorem dX10_clear_105 : decode cX10_clear 105 = .ok (.aload_n 0, 1) := by decide +kernel
theorem dX10_clear_106 : decode cX10_clear 106 = .ok (.getfield 116, 3) := by decide +kernel
theorem dX10_clear_109 : decode cX10_clear 109 = .ok (.iload_n 1, 1) := by decide +kernel
theorem dX10_clear_110 : decode cX10_clear 110 = .ok (.iconst 0, 1) := by decide +kernel
theorem dX10_clear_111 : decode cX10_clear 111 = .ok (.iastore, 1) := by decide +kernel
theorem dX10_clear_112 : decode cX10_clear 112 = .ok (.iinc 1 1, 3) := by decide +kernel
theorem dX10_clear_115 : decode cX10_clear 115 = .ok (.goto (-16), 3) := by decide +kernel
theorem dX10_clear_118 : decode cX10_clear 118 = .ok (.return_, 1) := by decide +kernel
theorem dX10_come_0 : decode cX10_come 0 = .ok (.aload_n 0, 1) := by decide +kernel
theorem dX10_come_1 : decode cX10_come 1 = .ok (.iconst 0, 1) := by decide +kernel
theorem dX10_come_2 : decode cX10_come 2 = .ok (.putfield 137, 3) := by decide +kernel
theorem dX10_come_5 : decode cX10_come 5 = .ok (.aload_n 0, 1) := by decide +kernel
theorem dX10_come_6 : decode cX10_come 6 = .ok (.iload_n 1, 1) := by decide +kernel
theorem dX10_come_7 : decode cX10_come 7 = .ok (.iconst 0, 1) := by decide +kernel
theorem dX10_come_8 : decode cX10_come 8 = .ok (.iconst 1, 1) := by decide +kernel
theorem dX10_come_9 : decode cX10_come 9 = .ok (.invokestatic 179, 3) := by decide +kernel
theorem dX10_come_12 : decode cX10_come 12 = .ok (.ifCond .ne 7, 3) := by decide +kernel
theorem dX10_come_15 : decode cX10_come 15 = .ok (.iconst 1, 1) := by decide +kernel
theorem dX10_come_16 : decode cX10_come 16 = .ok (.goto 4, 3) := by decide +kernel
theorem dX10_come_19 : decode cX10_come 19 = .ok (.iconst 0, 1) := by decide +kernel
theorem dX10_come_20 : decode cX10_come 20 = .ok (.iconst 1, 1) := by decide +kernel
theorem dX10_come_21 : decode cX10_come 21 = .ok (.invokevirtual 171, 3) := by decide +kernel
theorem dX10_come_24 : decode cX10_come 24 = .ok (.ifCond .eq 5, 3) := by decide +kernel
theorem dX10_come_27 : decode cX10_come 27 = .ok (.iconst 0, 1) := by decide +kernel
theorem dX10_come_28 : decode cX10_come 28 = .ok (.ireturn, 1) := by decide +kernel
theorem dX10_come_29 : decode cX10_come 29 = .ok (.aload_n 0, 1) := by decide +kernel
theorem dX10_come_30 : decode cX10_come 30 = .ok (.iconst 0, 1) := by decide +kernel
theorem dX10_come_31 : decode cX10_come 31 = .ok (.aload_n 0, 1) := by decide +kernel
theorem dX10_come_32 : decode cX10_come 32 = .ok (.getfield 168, 3) := by decide +kernel
theorem dX10_come_35 : decode cX10_come 35 = .ok (.invokevirtual 225, 3) := by decide +kernel
theorem dX10_come_38 : decode cX10_come 38 = .ok (.ifCond .eq 9, 3) := by decide +kernel
theorem dX10_come_41 : decode cX10_come 41 = .ok (.aload_n 0, 1) := by decide +kernel
theorem dX10_come_42 : decode cX10_come 42 = .ok (.iconst 1, 1) := by decide +kernel
theorem dX10_come_43 : decode cX10_come 43 = .ok (.invokevirtual 353, 3) := by decide +kernel
theorem dX10_come_46 : decode cX10_come 46 = .ok (.ireturn, 1) := by decide +kernel
theorem dX10_come_47 : decode cX10_come 47 = .ok (.aload_n 0, 1) := by decide +kernel
theorem dX10_come_48 : decode cX10_come 48 = .ok (.iconst 0, 1) := by decide +kernel
theorem dX10_come_49 : decode cX10_come 49 = .ok (.sipush 2200, 3) := by decide +kernel
theorem dX10_come_52 : decode cX10_come 52 = .ok (.aload_n 0, 1) := by decide +kernel
theorem dX10_come_53 : decode cX10_come 53 = .ok (.iconst 0, 1) := by decide +kernel
theorem dX10_come_54 : decode cX10_come 54 = .ok (.invokevirtual 165, 3) := by decide +kernel
theorem dX10_come_57 : decode cX10_come 57 = .ok (.invokevirtual 235, 3) := by decide +kernel
theorem dX10_come_60 : decode cX10_come 60 = .ok (.aload_n 0, 1) := by decide +kernel
theorem dX10_come_61 : decode cX10_come 61 = .ok (.iload_n 1, 1) := by decide +kernel
theorem dX10_come_62 : decode cX10_come 62 = .ok (.ifCond .ne 13, 3) := by decide +kernel
theorem dX10_come_65 : decode cX10_come 65 = .ok (.aload_n 0, 1) := by decide +kernel
theorem dX10_come_66 : decode cX10_come 66 = .ok (.sipush 2200, 3) := by decide +kernel
theorem dX10_come_69 : decode cX10_come 69 = .ok (.invokevirtual 356, 3) := by decide +kernel
theorem dX10_come_72 : decode cX10_come 72 = .ok (.goto 10, 3) := by decide +kernel
theorem dX10_come_75 : decode cX10_come 75 = .ok (.aload_n 0, 1) := by decide +kernel
theorem dX10_come_76 : decode cX10_come 76 = .ok (.sipush 2200, 3) := by decide +kernel
theorem dX10_come_79 : decode cX10_come 79 = .ok (.invokevirtual 359, 3) := by decide +kernel
theorem dX10_come_82 : decode cX10_come 82 = .ok (.invokevirtual 353, 3) := by decide +kernel
theorem dX10_come_85 : decode cX10_come 85 = .ok (.ireturn, 1) := by decide +kernel
theorem dX10_comeOuter_0 : decode cX10_comeOuter 0 = .ok (.aload_n 0, 1) := by decide +kernel
theorem dX10_comeOuter_1 : decode cX10_comeOuter 1 = .ok (.getfield 7, 3) := by decide +kernel
theorem dX10_comeOuter_4 : decode cX10_comeOuter 4 = .ok (.iload_n 1, 1) := by decide +kernel
theorem dX10_comeOuter_5 : decode cX10_comeOuter 5 = .ok (.bipush 9, 2) := by decide +kernel
theorem dX10_comeOuter_7 : decode cX10_comeOuter 7 = .ok (.iadd, 1) := by decide +kernel
theorem dX10_comeOuter_8 : decode cX10_comeOuter 8 = .ok (.iaload, 1) := by decide +kernel
theorem dX10_comeOuter_9 : decode cX10_comeOuter 9 = .ok (.bipush 50, 2) := by decide +kernel
theorem dX10_comeOuter_11 : decode cX10_comeOuter 11 = .ok (.if_icmp .ne 50, 3) := by decide +kernel
theorem dX10_comeOuter_14 : decode cX10_comeOuter 14 = .ok (.aload_n 0, 1) := by decide +kernel
theorem dX10_comeOuter_15 : decode cX10_comeOuter 15 = .ok (.iload_n 1, 1) := by decide +kernel
theorem dX10_comeOuter_16 : decode cX10_comeOuter 16 = .ok (.bipush 16, 2) := by decide +kernel
theorem dX10_comeOuter_18 : decode cX10_comeOuter 18 = .ok (.iadd, 1) := by decide +kernel
theorem dX10_comeOuter_19 : decode cX10_comeOuter 19 = .ok (.invokevirtual 218, 3) := by decide +kernel
theorem dX10_comeOuter_22 : decode cX10_comeOuter 22 = .ok (.aload_n 0, 1) := by decide +kernel
theorem dX10_comeOuter_23 : decode cX10_comeOuter 23 = .ok (.getfield 134, 3) := by decide +kernel
theorem dX10_comeOuter_26 : decode cX10_comeOuter 26 = .ok (.if_icmp .ne 35, 3) := by decide +kernel
theorem dX10_comeOuter_29 : decode cX10_comeOuter 29 = .ok (.aload_n 0, 1) := by decide +kernel
theorem dX10_comeOuter_30 : decode cX10_comeOuter 30 = .ok (.iload_n 1, 1) := by decide +kernel
theorem dX10_comeOuter_31 : decode cX10_comeOuter 31 = .ok (.invokevirtual 162, 3) := by decide +kernel
theorem dX10_comeOuter_34 : decode cX10_comeOuter 34 = .ok (.ifCond .eq 11, 3) := by decide +kernel
theorem dX10_comeOuter_37 : decode cX10_comeOuter 37 = .ok (.aload_n 0, 1) := by decide +kernel
theorem dX10_comeOuter_38 : decode cX10_comeOuter 38 = .ok (.iload_n 1, 1) := by decide +kernel
theorem dX10_comeOuter_39 : decode cX10_comeOuter 39 = .ok (.invokevirtual 347, 3) := by decide +kernel
theorem dX10_comeOuter_42 : decode cX10_comeOuter 42 = .ok (.goto 4, 3) := by decide +kernel
theorem dX10_comeOuter_45 : decode cX10_comeOuter 45 = .ok (.iconst 0, 1) := by decide +kernel
theorem dX10_comeOuter_46 : decode cX10_comeOuter 46 = .ok (.istore_n 2, 1) := by decide +kernel
theorem dX10_comeOuter_47 : decode cX10_comeOuter 47 = .ok (.iload_n 2, 1) := by decide +kernel
theorem dX10_comeOuter_48 : decode cX10_comeOuter 48 = .ok (.ifCond .le 7, 3) := by decide +kernel
theorem dX10_comeOuter_51 : decode cX10_comeOuter 51 = .ok (.iload_n 2, 1) := by decide +kernel
theorem dX10_comeOuter_52 : decode cX10_comeOuter 52 = .ok (.goto 8, 3) := by decide +kernel
theorem dX10_comeOuter_55 : decode cX10_comeOuter 55 = .ok (.aload_n 0, 1) := by decide +kernel
theorem dX10_comeOuter_56 : decode cX10_comeOuter 56 = .ok (.iload_n 1, 1) := by decide +kernel
theorem dX10_comeOuter_57 : decode cX10_comeOuter 57 = .ok (.invokevirtual 350, 3) := by decide +kernel
theorem dX10_comeOuter_60 : decode cX10_comeOuter 60 = .ok (.ireturn, 1) := by decide +kernel
theorem dX10_comeOuter_61 : decode cX10_comeOuter 61 = .ok (.aload_n 0, 1) := by decide +kernel
theorem dX10_comeOuter_62 : decode cX10_comeOuter 62 = .ok (.iconst 1, 1) := by decide +kernel
theorem dX10_comeOuter_63 : decode cX10_comeOuter 63 = .ok (.iload_n 1, 1) := by decide +kernel
theorem dX10_comeOuter_64 : decode cX10_comeOuter 64 = .ok (.invokevirtual 228, 3) := by decide +kernel
theorem dX10_comeOuter_67 : decode cX10_comeOuter 67 = .ok (.istore_n 2, 1) := by decide +kernel
theorem dX10_comeOuter_68 : decode cX10_comeOuter 68 = .ok (.iload_n 2, 1) := by decide +kernel
theorem dX10_comeOuter_69 : decode cX10_comeOuter 69 = .ok (.ifCond .lt 13, 3) := by decide +kernel
theorem dX10_comeOuter_72 : decode cX10_comeOuter 72 = .ok (.aload_n 0, 1) := by decide +kernel
theorem dX10_comeOuter_73 : decode cX10_comeOuter 73 = .ok (.getfield 49, 3) := by decide +kernel
theorem dX10_comeOuter_76 : decode cX10_comeOuter 76 = .ok (.iload_n 2, 1) := by decide +kernel
theorem dX10_comeOuter_77 : decode cX10_comeOuter 77 = .ok (.iaload, 1) := by decide +kernel
theorem dX10_comeOuter_78 : decode cX10_comeOuter 78 = .ok (.iconst (-1), 1) := by decide +kernel
theorem dX10_comeOuter_79 : decode cX10_comeOuter 79 = .ok (.if_icmp .eq 13, 3) := by decide +kernel
theorem dX10_comeOuter_82 : decode cX10_comeOuter 82 = .ok (.aload_n 0, 1) := by decide +kernel
theorem dX10_comeOuter_83 : decode cX10_comeOuter 83 = .ok (.bipush 16, 2) := by decide +kernel
theorem dX10_comeOuter_85 : decode cX10_comeOuter 85 = .ok (.iload_n 1, 1) := by decide +kernel
theorem dX10_comeOuter_86 : decode cX10_comeOuter 86 = .ok (.iconst 0, 1) := by decide +kernel
theorem dX10_comeOuter_87 : decode cX10_comeOuter 87 = .ok (.iconst 0, 1) := by decide +kernel
theorem dX10_comeOuter_88 : decode cX10_comeOuter 88 = .ok (.invokevirtual 323, 3) := by decide +kernel
theorem dX10_comeOuter_91 : decode cX10_comeOuter 91 = .ok (.ireturn, 1) := by decide +kernel
theorem dX10_comeOuter_92 : decode cX10_comeOuter 92 = .ok (.aload_n 0, 1) := by decide +kernel
theorem dX10_comeOuter_93 : decode cX10_comeOuter 93 = .ok (.iload_n 1, 1) := by decide +kernel
theorem dX10_comeOuter_94 : decode cX10_comeOuter 94 = .ok (.invokevirtual 344, 3) := by decide +kernel
theorem dX10_comeOuter_97 : decode cX10_comeOuter 97 = .ok (.ireturn, 1) := by decide +kernel
theorem dX10_count_0 : decode cX10_count 0 = .ok (.aload_n 0, 1) := by decide +kernel
theorem dX10_count_1 : decode cX10_count 1 = .ok (.iconst 0, 1) := by decide +kernel
theorem dX10_count_2 : decode cX10_count 2 = .ok (.putfield 137, 3) := by decide +kernel
theorem dX10_count_5 : decode cX10_count 5 = .ok (.aload_n 0, 1) := by decide +kernel
theorem dX10_count_6 : decode cX10_count 6 = .ok (.iload_n 1, 1) := by decide +kernel
theorem dX10_count_7 : decode cX10_count 7 = .ok (.iconst 0, 1) := by decide +kernel
theorem dX10_count_8 : decode cX10_count 8 = .ok (.aload_n 0, 1) := by decide +kernel
theorem dX10_count_9 : decode cX10_count 9 = .ok (.getfield 200, 3) := by decide +kernel
theorem dX10_count_12 : decode cX10_count 12 = .ok (.iconst 1, 1) := by decide +kernel
theorem dX10_count_13 : decode cX10_count 13 = .ok (.isub, 1) := by decide +kernel
theorem dX10_count_14 : decode cX10_count 14 = .ok (.invokestatic 179, 3) := by decide +kernel
theorem dX10_count_17 : decode cX10_count 17 = .ok (.ifCond .ne 7, 3) := by decide +kernel
theorem dX10_count_20 : decode cX10_count 20 = .ok (.iconst 1, 1) := by decide +kernel
theorem dX10_count_21 : decode cX10_count 21 = .ok (.goto 4, 3) := by decide +kernel
theorem dX10_count_24 : decode cX10_count 24 = .ok (.iconst 0, 1) := by decide +kernel
theorem dX10_count_25 : decode cX10_count 25 = .ok (.iconst 1, 1) := by decide +kernel
theorem dX10_count_26 : decode cX10_count 26 = .ok (.invokevirtual 171, 3) := by decide +kernel
theorem dX10_count_29 : decode cX10_count 29 = .ok (.ifCond .ne 39, 3) := by decide +kernel
theorem dX10_count_32 : decode cX10_count 32 = .ok (.aload_n 0, 1) := by decide +kernel
theorem dX10_count_33 : decode cX10_count 33 = .ok (.lload_n 2, 1) := by decide +kernel
theorem dX10_count_34 : decode cX10_count 34 = .ok (.lconst 0, 1) := by decide +kernel
theorem dX10_count_35 : decode cX10_count 35 = .ok (.lcmp, 1) := by decide +kernel
theorem dX10_count_36 : decode cX10_count 36 = .ok (.ifCond .lt 20, 3) := by decide +kernel
theorem dX10_count_39 : decode cX10_count 39 = .ok (.aload_n 0, 1) := by decide +kernel
theorem dX10_count_40 : decode cX10_count 40 = .ok (.getfield 73, 3) := by decide +kernel
theorem dX10_count_43 : decode cX10_count 43 = .ok (.iload_n 1, 1) := by decide +kernel
theorem dX10_count_44 : decode cX10_count 44 = .ok (.baload, 1) := by decide +kernel
theorem dX10_count_45 : decode cX10_count 45 = .ok (.ifCond .ne 15, 3) := by decide +kernel
theorem dX10_count_48 : decode cX10_count 48 = .ok (.lload_n 2, 1) := by decide +kernel
theorem dX10_count_49 : decode cX10_count 49 = .ok (.ldc2_w 210, 3) := by decide +kernel
theorem dX10_count_52 : decode cX10_count 52 = .ok (.lcmp, 1) := by decide +kernel
theorem dX10_count_53 : decode cX10_count 53 = .ok (.ifCond .le 7, 3) := by decide +kernel
theorem dX10_count_56 : decode cX10_count 56 = .ok (.iconst 1, 1) := by decide +kernel
theorem dX10_count_57 : decode cX10_count 57 = .ok (.goto 4, 3) := by decide +kernel
theorem dX10_count_60 : decode cX10_count 60 = .ok (.iconst 0, 1) := by decide +kernel
theorem dX10_count_61 : decode cX10_count 61 = .ok (.iconst 2, 1) := by decide +kernel
theorem dX10_count_62 : decode cX10_count 62 = .ok (.invokevirtual 171, 3) := by decide +kernel
theorem dX10_count_65 : decode cX10_count 65 = .ok (.ifCond .eq 5, 3) := by decide +kernel
theorem dX10_count_68 : decode cX10_count 68 = .ok (.lconst 0, 1) := by decide +kernel
theorem dX10_count_69 : decode cX10_count 69 = .ok (.lreturn, 1) := by decide +kernel
theorem dX10_count_70 : decode cX10_count 70 = .ok (.aload_n 0, 1) := by decide +kernel
theorem dX10_count_71 : decode cX10_count 71 = .ok (.getfield 83, 3) := by decide +kernel
theorem dX10_count_74 : decode cX10_count 74 = .ok (.iload_n 1, 1) := by decide +kernel
theorem dX10_count_75 : decode cX10_count 75 = .ok (.laload, 1) := by decide +kernel
theorem dX10_count_76 : decode cX10_count 76 = .ok (.lstore 4, 2) := by decide +kernel
theorem dX10_count_78 : decode cX10_count 78 = .ok (.aload_n 0, 1) := by decide +kernel
theorem dX10_count_79 : decode cX10_count 79 = .ok (.getfield 83, 3) := by decide +kernel
theorem dX10_count_82 : decode cX10_count 82 = .ok (.iload_n 1, 1) := by decide +kernel
theorem dX10_count_83 : decode cX10_count 83 = .ok (.lload_n 2, 1) := by decide +kernel
theorem dX10_count_84 : decode cX10_count 84 = .ok (.lastore, 1) := by decide +kernel
theorem dX10_count_85 : decode cX10_count 85 = .ok (.aload_n 0, 1) := by decide +kernel
theorem dX10_count_86 : decode cX10_count 86 = .ok (.getfield 86, 3) := by decide +kernel
theorem dX10_count_89 : decode cX10_count 89 = .ok (.iload_n 1, 1) := by decide +kernel
theorem dX10_count_90 : decode cX10_count 90 = .ok (.aload_n 0, 1) := by decide +kernel
theorem dX10_count_91 : decode cX10_count 91 = .ok (.getfield 57, 3) := by decide +kernel
theorem dX10_count_94 : decode cX10_count 94 = .ok (.iload_n 1, 1) := by decide +kernel
theorem dX10_count_95 : decode cX10_count 95 = .ok (.iaload, 1) := by decide +kernel
theorem dX10_count_96 : decode cX10_count 96 = .ok (.iconst 1, 1) := by decide +kernel
theorem dX10_count_97 : decode cX10_count 97 = .ok (.if_icmp .ne 13, 3) := by decide +kernel
theorem dX10_count_100 : decode cX10_count 100 = .ok (.lload_n 2, 1) := by decide +kernel
theorem dX10_count_101 : decode cX10_count 101 = .ok (.lconst 0, 1) := by decide +kernel
theorem dX10_count_102 : decode cX10_count 102 = .ok (.lcmp, 1) := by decide +kernel
theorem dX10_count_103 : decode cX10_count 103 = .ok (.ifCond .eq 7, 3) := by decide +kernel
theorem dX10_count_106 : decode cX10_count 106 = .ok (.lconst 1, 1) := by decide +kernel
theorem dX10_count_107 : decode cX10_count 107 = .ok (.goto 4, 3) := by decide +kernel
theorem dX10_count_110 : decode cX10_count 110 = .ok (.lconst 0, 1) := by decide +kernel
theorem dX10_count_111 : decode cX10_count 111 = .ok (.lastore, 1) := by decide +kernel
theorem dX10_count_112 : decode cX10_count 112 = .ok (.lload 4, 2) := by decide +kernel
theorem dX10_count_114 : decode cX10_count 114 = .ok (.lreturn, 1) := by decide +kernel
theorem dX10_doorOf_0 : decode cX10_doorOf 0 = .ok (.aload_n 0, 1) := by decide +kernel
theorem dX10_doorOf_1 : decode cX10_doorOf 1 = .ok (.getfield 7, 3) := by decide +kernel
theorem dX10_doorOf_4 : decode cX10_doorOf 4 = .ok (.iload_n 1, 1) := by decide +kernel
theorem dX10_doorOf_5 : decode cX10_doorOf 5 = .ok (.bipush 9, 2) := by decide +kernel
theorem dX10_doorOf_7 : decode cX10_doorOf 7 = .ok (.iadd, 1) := by decide +kernel
theorem dX10_doorOf_8 : decode cX10_doorOf 8 = .ok (.iaload, 1) := by decide +kernel
theorem dX10_doorOf_9 : decode cX10_doorOf 9 = .ok (.istore_n 2, 1) := by decide +kernel
theorem dX10_doorOf_10 : decode cX10_doorOf 10 = .ok (.iload_n 2, 1) := by decide +kernel
theorem dX10_doorOf_11 : decode cX10_doorOf 11 = .ok (.bipush 6, 2) := by decide +kernel
theorem dX10_doorOf_13 : decode cX10_doorOf 13 = .ok (.if_icmp .eq 9, 3) := by decide +kernel
theorem dX10_doorOf_16 : decode cX10_doorOf 16 = .ok (.iload_n 2, 1) := by decide +kernel
theorem dX10_doorOf_17 : decode cX10_doorOf 17 = .ok (.bipush 17, 2) := by decide +kernel
theorem dX10_doorOf_19 : decode cX10_doorOf 19 = .ok (.if_icmp .ne 32, 3) := by decide +kernel
theorem dX10_doorOf_22 : decode cX10_doorOf 22 = .ok (.aload_n 0, 1) := by decide +kernel
theorem dX10_doorOf_23 : decode cX10_doorOf 23 = .ok (.iload_n 1, 1) := by decide +kernel
theorem dX10_doorOf_24 : decode cX10_doorOf 24 = .ok (.invokevirtual 162, 3) := by decide +kernel
theorem dX10_doorOf_27 : decode cX10_doorOf 27 = .ok (.ifCond .ne 24, 3) := by decide +kernel
theorem dX10_doorOf_30 : decode cX10_doorOf 30 = .ok (.aload_n 0, 1) := by decide +kernel
theorem dX10_doorOf_31 : decode cX10_doorOf 31 = .ok (.iload_n 1, 1) := by decide +kernel
theorem dX10_doorOf_32 : decode cX10_doorOf 32 = .ok (.invokevirtual 165, 3) := by decide +kernel
theorem dX10_doorOf_35 : decode cX10_doorOf 35 = .ok (.bipush 24, 2) := by decide +kernel
theorem dX10_doorOf_37 : decode cX10_doorOf 37 = .ok (.if_icmp .lt 14, 3) := by decide +kernel
theorem dX10_doorOf_40 : decode cX10_doorOf 40 = .ok (.aload_n 0, 1) := by decide +kernel
theorem dX10_doorOf_41 : decode cX10_doorOf 41 = .ok (.iload_n 1, 1) := by decide +kernel
theorem dX10_doorOf_42 : decode cX10_doorOf 42 = .ok (.bipush 22, 2) := by decide +kernel
theorem dX10_doorOf_44 : decode cX10_doorOf 44 = .ok (.iadd, 1) := by decide +kernel
theorem dX10_doorOf_45 : decode cX10_doorOf 45 = .ok (.invokevirtual 140, 3) := by decide +kernel
theorem dX10_doorOf_48 : decode cX10_doorOf 48 = .ok (.goto 4, 3) := by decide +kernel
theorem dX10_doorOf_51 : decode cX10_doorOf 51 = .ok (.iconst (-1), 1) := by decide +kernel
theorem dX10_doorOf_52 : decode cX10_doorOf 52 = .ok (.ireturn, 1) := by decide +kernel
theorem dX10_ended_0 : decode cX10_ended 0 = .ok (.aload_n 0, 1) := by decide +kernel
theorem dX10_ended_1 : decode cX10_ended 1 = .ok (.iconst 0, 1) := by decide +kernel
theorem dX10_ended_2 : decode cX10_ended 2 = .ok (.putfield 137, 3) := by decide +kernel
theorem dX10_ended_5 : decode cX10_ended 5 = .ok (.aload_n 0, 1) := by decide +kernel
theorem dX10_ended_6 : decode cX10_ended 6 = .ok (.iload_n 1, 1) := by decide +kernel
theorem dX10_ended_7 : decode cX10_ended 7 = .ok (.iconst 0, 1) := by decide +kernel
theorem dX10_ended_8 : decode cX10_ended 8 = .ok (.bipush 20, 2) := by decide +kernel
theorem dX10_ended_10 : decode cX10_ended 10 = .ok (.invokestatic 179, 3) := by decide +kernel
theorem dX10_ended_13 : decode cX10_ended 13 = .ok (.ifCond .ne 7, 3) := by decide +kernel
theorem dX10_ended_16 : decode cX10_ended 16 = .ok (.iconst 1, 1) := by decide +kernel
theorem dX10_ended_17 : decode cX10_ended 17 = .ok (.goto 4, 3) := by decide +kernel
theorem dX10_ended_20 : decode cX10_ended 20 = .ok (.iconst 0, 1) := by decide +kernel
theorem dX10_ended_21 : decode cX10_ended 21 = .ok (.iconst 1, 1) := by decide +kernel
theorem dX10_ended_22 : decode cX10_ended 22 = .ok (.invokevirtual 171, 3) := by decide +kernel
theorem dX10_ended_25 : decode cX10_ended 25 = .ok (.ifCond .eq 5, 3) := by decide +kernel
theorem dX10_ended_28 : decode cX10_ended 28 = .ok (.iconst 0, 1) := by decide +kernel
theorem dX10_ended_29 : decode cX10_ended 29 = .ok (.ireturn, 1) := by decide +kernel
theorem dX10_ended_30 : decode cX10_ended 30 = .ok (.iconst 0, 1) := by decide +kernel
theorem dX10_ended_31 : decode cX10_ended 31 = .ok (.istore_n 2, 1) := by decide +kernel
theorem dX10_ended_32 : decode cX10_ended 32 = .ok (.iconst 0, 1) := by decide +kernel
theorem dX10_ended_33 : decode cX10_ended 33 = .ok (.istore_n 3, 1) := by decide +kernel
theorem dX10_ended_34 : decode cX10_ended 34 = .ok (.iload_n 3, 1) := by decide +kernel
theorem dX10_ended_35 : decode cX10_ended 35 = .ok (.iconst 4, 1) := by decide +kernel
theorem dX10_ended_36 : decode cX10_ended 36 = .ok (.if_icmp .ge 26, 3) := by decide +kernel
theorem dX10_ended_39 : decode cX10_ended 39 = .ok (.iload_n 2, 1) := by decide +kernel
theorem dX10_ended_40 : decode cX10_ended 40 = .ok (.aload_n 0, 1) := by decide +kernel
theorem dX10_ended_41 : decode cX10_ended 41 = .ok (.getfield 95, 3) := by decide +kernel
theorem dX10_ended_44 : decode cX10_ended 44 = .ok (.iload_n 3, 1) := by decide +kernel
theorem dX10_ended_45 : decode cX10_ended 45 = .ok (.baload, 1) := by decide +kernel
theorem dX10_ended_46 : decode cX10_ended 46 = .ok (.ifCond .eq 7, 3) := by decide +kernel
theorem dX10_ended_49 : decode cX10_ended 49 = .ok (.iconst 1, 1) := by decide +kernel
theorem dX10_ended_50 : decode cX10_ended 50 = .ok (.goto 4, 3) := by decide +kernel
theorem dX10_ended_53 : decode cX10_ended 53 = .ok (.iconst 0, 1) := by decide +kernel
theorem dX10_ended_54 : decode cX10_ended 54 = .ok (.iadd, 1) := by decide +kernel
theorem dX10_ended_55 : decode cX10_ended 55 = .ok (.istore_n 2, 1) := by decide +kernel
theorem dX10_ended_56 : decode cX10_ended 56 = .ok (.iinc 3 1, 3) := by decide +kernel
theorem dX10_ended_59 : decode cX10_ended 59 = .ok (.goto (-25), 3) := by decide +kernel
theorem dX10_ended_62 : decode cX10_ended 62 = .ok (.iload_n 1, 1) := by decide +kernel
theorem dX10_ended_63 : decode cX10_ended 63 = .ok (.bipush 18, 2) := by decide +kernel
theorem dX10_ended_65 : decode cX10_ended 65 = .ok (.if_icmp .ge 12, 3) := by decide +kernel
theorem dX10_ended_68 : decode cX10_ended 68 = .ok (.aload_n 0, 1) := by decide +kernel
theorem dX10_ended_69 : decode cX10_ended 69 = .ok (.getfield 116, 3) := by decide +kernel
theorem dX10_ended_72 : decode cX10_ended 72 = .ok (.iload_n 1, 1) := by decide +kernel
theorem dX10_ended_73 : decode cX10_ended 73 = .ok (.iaload, 1) := by decide +kernel
theorem dX10_ended_74 : decode cX10_ended 74 = .ok (.goto 30, 3) := by decide +kernel
theorem dX10_ended_77 : decode cX10_ended 77 = .ok (.iload_n 1, 1) := by decide +kernel
theorem dX10_ended_78 : decode cX10_ended 78 = .ok (.bipush 18, 2) := by decide +kernel
theorem dX10_ended_80 : decode cX10_ended 80 = .ok (.if_icmp .ne 10, 3) := by decide +kernel
theorem dX10_ended_83 : decode cX10_ended 83 = .ok (.aload_n 0, 1) := by decide +kernel
theorem dX10_ended_84 : decode cX10_ended 84 = .ok (.getfield 200, 3) := by decide +kernel
theorem dX10_ended_87 : decode cX10_ended 87 = .ok (.goto 17, 3) := by decide +kernel
theorem dX10_ended_90 : decode cX10_ended 90 = .ok (.iload_n 1, 1) := by decide +kernel
theorem dX10_ended_91 : decode cX10_ended 91 = .ok (.bipush 19, 2) := by decide +kernel
theorem dX10_ended_93 : decode cX10_ended 93 = .ok (.if_icmp .ne 10, 3) := by decide +kernel
theorem dX10_ended_96 : decode cX10_ended 96 = .ok (.aload_n 0, 1) := by decide +kernel
theorem dX10_ended_97 : decode cX10_ended 97 = .ok (.getfield 267, 3) := by decide +kernel
theorem dX10_ended_100 : decode cX10_ended 100 = .ok (.goto 4, 3) := by decide +kernel
theorem dX10_ended_103 : decode cX10_ended 103 = .ok (.iload_n 2, 1) := by decide +kernel
theorem dX10_ended_104 : decode cX10_ended 104 = .ok (.ireturn, 1) := by decide +kernel
theorem dX10_ends_0 : decode cX10_ends 0 = .ok (.aload_n 0, 1) := by decide +kernel
theorem dX10_ends_1 : decode cX10_ends 1 = .ok (.getfield 116, 3) := by decide +kernel
theorem dX10_ends_4 : decode cX10_ends 4 = .ok (.iload_n 1, 1) := by decide +kernel
theorem dX10_ends_5 : decode cX10_ends 5 = .ok (.dup2, 1) := by decide +kernel
theorem dX10_ends_6 : decode cX10_ends 6 = .ok (.iaload, 1) := by decide +kernel
theorem dX10_ends_7 : decode cX10_ends 7 = .ok (.iconst 1, 1) := by decide +kernel
theorem dX10_ends_8 : decode cX10_ends 8 = .ok (.iadd, 1) := by decide +kernel
theorem dX10_ends_9 : decode cX10_ends 9 = .ok (.iastore, 1) := by decide +kernel
theorem dX10_ends_10 : decode cX10_ends 10 = .ok (.iload_n 1, 1) := by decide +kernel
theorem dX10_ends_11 : decode cX10_ends 11 = .ok (.ireturn, 1) := by decide +kernel
theorem dX10_fillOf_0 : decode cX10_fillOf 0 = .ok (.iconst 4, 1) := by decide +kernel
theorem dX10_fillOf_1 : decode cX10_fillOf 1 = .ok (.iload_n 0, 1) := by decide +kernel
theorem dX10_fillOf_2 : decode cX10_fillOf 2 = .ok (.iconst 2, 1) := by decide +kernel
theorem dX10_fillOf_3 : decode cX10_fillOf 3 = .ok (.iadd, 1) := by decide +kernel
theorem dX10_fillOf_4 : decode cX10_fillOf 4 = .ok (.iconst 4, 1) := by decide +kernel
theorem dX10_fillOf_5 : decode cX10_fillOf 5 = .ok (.irem, 1) := by decide +kernel
theorem dX10_fillOf_6 : decode cX10_fillOf 6 = .ok (.isub, 1) := by decide +kernel
theorem dX10_fillOf_7 : decode cX10_fillOf 7 = .ok (.iconst 4, 1) := by decide +kernel
theorem dX10_fillOf_8 : decode cX10_fillOf 8 = .ok (.irem, 1) := by decide +kernel
theorem dX10_fillOf_9 : decode cX10_fillOf 9 = .ok (.ireturn, 1) := by decide +kernel
theorem dX10_fold_0 : decode cX10_fold 0 = .ok (.iconst 0, 1) := by decide +kernel
theorem dX10_fold_1 : decode cX10_fold 1 = .ok (.istore_n 3, 1) := by decide +kernel
theorem dX10_fold_2 : decode cX10_fold 2 = .ok (.iconst 0, 1) := by decide +kernel
theorem dX10_fold_3 : decode cX10_fold 3 = .ok (.istore 4, 2) := by decide +kernel
theorem dX10_fold_5 : decode cX10_fold 5 = .ok (.iload 4, 2) := by decide +kernel
theorem dX10_fold_7 : decode cX10_fold 7 = .ok (.bipush 20, 2) := by decide +kernel
theorem dX10_fold_9 : decode cX10_fold 9 = .ok (.if_icmp .ge 35, 3) := by decide +kernel
theorem dX10_fold_12 : decode cX10_fold 12 = .ok (.iload_n 3, 1) := by decide +kernel
theorem dX10_fold_13 : decode cX10_fold 13 = .ok (.iload 4, 2) := by decide +kernel
theorem dX10_fold_15 : decode cX10_fold 15 = .ok (.bipush 10, 2) := by decide +kernel
theorem dX10_fold_17 : decode cX10_fold 17 = .ok (.if_icmp .ne 11, 3) := by decide +kernel
theorem dX10_fold_20 : decode cX10_fold 20 = .ok (.iload_n 2, 1) := by decide +kernel
theorem dX10_fold_21 : decode cX10_fold 21 = .ok (.ifCond .ne 7, 3) := by decide +kernel
theorem dX10_fold_24 : decode cX10_fold 24 = .ok (.iconst 0, 1) := by decide +kernel
theorem dX10_fold_25 : decode cX10_fold 25 = .ok (.goto 11, 3) := by decide +kernel
theorem dX10_fold_28 : decode cX10_fold 28 = .ok (.aload_n 0, 1) := by decide +kernel
theorem dX10_fold_29 : decode cX10_fold 29 = .ok (.iload_n 1, 1) := by decide +kernel
theorem dX10_fold_30 : decode cX10_fold 30 = .ok (.iload 4, 2) := by decide +kernel
theorem dX10_fold_32 : decode cX10_fold 32 = .ok (.iadd, 1) := by decide +kernel
theorem dX10_fold_33 : decode cX10_fold 33 = .ok (.invokevirtual 140, 3) := by decide +kernel
theorem dX10_fold_36 : decode cX10_fold 36 = .ok (.iadd, 1) := by decide +kernel
theorem dX10_fold_37 : decode cX10_fold 37 = .ok (.istore_n 3, 1) := by decide +kernel
theorem dX10_fold_38 : decode cX10_fold 38 = .ok (.iinc 4 2, 3) := by decide +kernel
theorem dX10_fold_41 : decode cX10_fold 41 = .ok (.goto (-36), 3) := by decide +kernel
theorem dX10_fold_44 : decode cX10_fold 44 = .ok (.iload_n 3, 1) := by decide +kernel
theorem dX10_fold_45 : decode cX10_fold 45 = .ok (.ldc 52, 2) := by decide +kernel
theorem dX10_fold_47 : decode cX10_fold 47 = .ok (.if_icmp .le 16, 3) := by decide +kernel
theorem dX10_fold_50 : decode cX10_fold 50 = .ok (.iload_n 3, 1) := by decide +kernel
theorem dX10_fold_51 : decode cX10_fold 51 = .ok (.ldc 52, 2) := by decide +kernel
theorem dX10_fold_53 : decode cX10_fold 53 = .ok (.iand, 1) := by decide +kernel
theorem dX10_fold_54 : decode cX10_fold 54 = .ok (.iload_n 3, 1) := by decide +kernel
theorem dX10_fold_55 : decode cX10_fold 55 = .ok (.bipush 16, 2) := by decide +kernel
theorem dX10_fold_57 : decode cX10_fold 57 = .ok (.ishr, 1) := by decide +kernel
theorem dX10_fold_58 : decode cX10_fold 58 = .ok (.iadd, 1) := by decide +kernel
theorem dX10_fold_59 : decode cX10_fold 59 = .ok (.istore_n 3, 1) := by decide +kernel
theorem dX10_fold_60 : decode cX10_fold 60 = .ok (.goto (-16), 3) := by decide +kernel
theorem dX10_fold_63 : decode cX10_fold 63 = .ok (.iload_n 3, 1) := by decide +kernel
theorem dX10_fold_64 : decode cX10_fold 64 = .ok (.ireturn, 1) := by decide +kernel
theorem dX10_four_0 : decode cX10_four 0 = .ok (.aload_n 0, 1) := by decide +kernel
theorem dX10_four_1 : decode cX10_four 1 = .ok (.iload_n 1, 1) := by decide +kernel
theorem dX10_four_2 : decode cX10_four 2 = .ok (.invokevirtual 140, 3) := by decide +kernel
theorem dX10_four_5 : decode cX10_four 5 = .ok (.bipush 16, 2) := by decide +kernel
theorem dX10_four_7 : decode cX10_four 7 = .ok (.ishl, 1) := by decide +kernel
theorem dX10_four_8 : decode cX10_four 8 = .ok (.aload_n 0, 1) := by decide +kernel
theorem dX10_four_9 : decode cX10_four 9 = .ok (.iload_n 1, 1) := by decide +kernel
theorem dX10_four_10 : decode cX10_four 10 = .ok (.iconst 2, 1) := by decide +kernel
theorem dX10_four_11 : decode cX10_four 11 = .ok (.iadd, 1) := by decide +kernel
theorem dX10_four_12 : decode cX10_four 12 = .ok (.invokevirtual 140, 3) := by decide +kernel
theorem dX10_four_15 : decode cX10_four 15 = .ok (.ior, 1) := by decide +kernel
theorem dX10_four_16 : decode cX10_four 16 = .ok (.ireturn, 1) := by decide +kernel
theorem dX10_goIn_0 : decode cX10_goIn 0 = .ok (.aload_n 0, 1) := by decide +kernel
theorem dX10_goIn_1 : decode cX10_goIn 1 = .ok (.getfield 7, 3) := by decide +kernel
theorem dX10_goIn_4 : decode cX10_goIn 4 = .ok (.iload_n 1, 1) := by decide +kernel
theorem dX10_goIn_5 : decode cX10_goIn 5 = .ok (.bipush 8, 2) := by decide +kernel
theorem dX10_goIn_7 : decode cX10_goIn 7 = .ok (.iadd, 1) := by decide +kernel
theorem dX10_goIn_8 : decode cX10_goIn 8 = .ok (.iaload, 1) := by decide +kernel
theorem dX10_goIn_9 : decode cX10_goIn 9 = .ok (.iconst 2, 1) := by decide +kernel
theorem dX10_goIn_10 : decode cX10_goIn 10 = .ok (.if_icmp .ge 5, 3) := by decide +kernel
theorem dX10_goIn_13 : decode cX10_goIn 13 = .ok (.iconst 2, 1) := by decide +kernel
theorem dX10_goIn_14 : decode cX10_goIn 14 = .ok (.ireturn, 1) := by decide +kernel
theorem dX10_goIn_15 : decode cX10_goIn 15 = .ok (.aload_n 0, 1) := by decide +kernel
theorem dX10_goIn_16 : decode cX10_goIn 16 = .ok (.aload_n 0, 1) := by decide +kernel
theorem dX10_goIn_17 : decode cX10_goIn 17 = .ok (.iload_n 1, 1) := by decide +kernel
theorem dX10_goIn_18 : decode cX10_goIn 18 = .ok (.bipush 16, 2) := by decide +kernel
theorem dX10_goIn_20 : decode cX10_goIn 20 = .ok (.iadd, 1) := by decide +kernel
theorem dX10_goIn_21 : decode cX10_goIn 21 = .ok (.invokevirtual 218, 3) := by decide +kernel
theorem dX10_goIn_24 : decode cX10_goIn 24 = .ok (.invokevirtual 232, 3) := by decide +kernel
theorem dX10_goIn_27 : decode cX10_goIn 27 = .ok (.ifCond .eq 5, 3) := by decide +kernel
theorem dX10_goIn_30 : decode cX10_goIn 30 = .ok (.iconst 3, 1) := by decide +kernel
theorem dX10_goIn_31 : decode cX10_goIn 31 = .ok (.ireturn, 1) := by decide +kernel
theorem dX10_goIn_32 : decode cX10_goIn 32 = .ok (.aload_n 0, 1) := by decide +kernel
theorem dX10_goIn_33 : decode cX10_goIn 33 = .ok (.aload_n 0, 1) := by decide +kernel
theorem dX10_goIn_34 : decode cX10_goIn 34 = .ok (.iload_n 1, 1) := by decide +kernel
theorem dX10_goIn_35 : decode cX10_goIn 35 = .ok (.invokevirtual 165, 3) := by decide +kernel
theorem dX10_goIn_38 : decode cX10_goIn 38 = .ok (.aload_n 0, 1) := by decide +kernel
theorem dX10_goIn_39 : decode cX10_goIn 39 = .ok (.iload_n 1, 1) := by decide +kernel
theorem dX10_goIn_40 : decode cX10_goIn 40 = .ok (.invokevirtual 270, 3) := by decide +kernel
theorem dX10_goIn_43 : decode cX10_goIn 43 = .ok (.invokevirtual 275, 3) := by decide +kernel
theorem dX10_goIn_46 : decode cX10_goIn 46 = .ok (.ifCond .eq 6, 3) := by decide +kernel
theorem dX10_goIn_49 : decode cX10_goIn 49 = .ok (.bipush 6, 2) := by decide +kernel
theorem dX10_goIn_51 : decode cX10_goIn 51 = .ok (.ireturn, 1) := by decide +kernel
theorem dX10_goIn_52 : decode cX10_goIn 52 = .ok (.aload_n 0, 1) := by decide +kernel
theorem dX10_goIn_53 : decode cX10_goIn 53 = .ok (.iload_n 1, 1) := by decide +kernel
theorem dX10_goIn_54 : decode cX10_goIn 54 = .ok (.invokevirtual 279, 3) := by decide +kernel
theorem dX10_goIn_57 : decode cX10_goIn 57 = .ok (.aload_n 0, 1) := by decide +kernel
theorem dX10_goIn_58 : decode cX10_goIn 58 = .ok (.iload_n 1, 1) := by decide +kernel
theorem dX10_goIn_59 : decode cX10_goIn 59 = .ok (.iconst 0, 1) := by decide +kernel
theorem dX10_goIn_60 : decode cX10_goIn 60 = .ok (.invokevirtual 282, 3) := by decide +kernel
theorem dX10_goIn_63 : decode cX10_goIn 63 = .ok (.ireturn, 1) := by decide +kernel
theorem dX10_goOut_0 : decode cX10_goOut 0 = .ok (.aload_n 0, 1) := by decide +kernel
theorem dX10_goOut_1 : decode cX10_goOut 1 = .ok (.getfield 7, 3) := by decide +kernel
theorem dX10_goOut_4 : decode cX10_goOut 4 = .ok (.iload_n 1, 1) := by decide +kernel
theorem dX10_goOut_5 : decode cX10_goOut 5 = .ok (.bipush 8, 2) := by decide +kernel
theorem dX10_goOut_7 : decode cX10_goOut 7 = .ok (.iadd, 1) := by decide +kernel
theorem dX10_goOut_8 : decode cX10_goOut 8 = .ok (.iaload, 1) := by decide +kernel
theorem dX10_goOut_9 : decode cX10_goOut 9 = .ok (.iconst 2, 1) := by decide +kernel
theorem dX10_goOut_10 : decode cX10_goOut 10 = .ok (.if_icmp .ge 5, 3) := by decide +kernel
theorem dX10_goOut_13 : decode cX10_goOut 13 = .ok (.iconst 2, 1) := by decide +kernel
theorem dX10_goOut_14 : decode cX10_goOut 14 = .ok (.ireturn, 1) := by decide +kernel
theorem dX10_goOut_15 : decode cX10_goOut 15 = .ok (.aload_n 0, 1) := by decide +kernel
theorem dX10_goOut_16 : decode cX10_goOut 16 = .ok (.aload_n 0, 1) := by decide +kernel
theorem dX10_goOut_17 : decode cX10_goOut 17 = .ok (.iload_n 1, 1) := by decide +kernel
theorem dX10_goOut_18 : decode cX10_goOut 18 = .ok (.bipush 16, 2) := by decide +kernel
theorem dX10_goOut_20 : decode cX10_goOut 20 = .ok (.iadd, 1) := by decide +kernel
theorem dX10_goOut_21 : decode cX10_goOut 21 = .ok (.invokevirtual 218, 3) := by decide +kernel
theorem dX10_goOut_24 : decode cX10_goOut 24 = .ok (.invokevirtual 232, 3) := by decide +kernel
theorem dX10_goOut_27 : decode cX10_goOut 27 = .ok (.iconst 1, 1) := by decide +kernel
theorem dX10_goOut_28 : decode cX10_goOut 28 = .ok (.if_icmp .eq 5, 3) := by decide +kernel
theorem dX10_goOut_31 : decode cX10_goOut 31 = .ok (.iconst 3, 1) := by decide +kernel
theorem dX10_goOut_32 : decode cX10_goOut 32 = .ok (.ireturn, 1) := by decide +kernel
theorem dX10_goOut_33 : decode cX10_goOut 33 = .ok (.aload_n 0, 1) := by decide +kernel
theorem dX10_goOut_34 : decode cX10_goOut 34 = .ok (.iconst 0, 1) := by decide +kernel
theorem dX10_goOut_35 : decode cX10_goOut 35 = .ok (.iload_n 1, 1) := by decide +kernel
theorem dX10_goOut_36 : decode cX10_goOut 36 = .ok (.invokevirtual 228, 3) := by decide +kernel
theorem dX10_goOut_39 : decode cX10_goOut 39 = .ok (.istore_n 2, 1) := by decide +kernel
theorem dX10_goOut_40 : decode cX10_goOut 40 = .ok (.iload_n 2, 1) := by decide +kernel
theorem dX10_goOut_41 : decode cX10_goOut 41 = .ok (.ifCond .lt 14, 3) := by decide +kernel
theorem dX10_goOut_44 : decode cX10_goOut 44 = .ok (.aload_n 0, 1) := by decide +kernel
theorem dX10_goOut_45 : decode cX10_goOut 45 = .ok (.getfield 49, 3) := by decide +kernel
theorem dX10_goOut_48 : decode cX10_goOut 48 = .ok (.iload_n 2, 1) := by decide +kernel
theorem dX10_goOut_49 : decode cX10_goOut 49 = .ok (.iaload, 1) := by decide +kernel
theorem dX10_goOut_50 : decode cX10_goOut 50 = .ok (.bipush (-2), 2) := by decide +kernel
theorem dX10_goOut_52 : decode cX10_goOut 52 = .ok (.if_icmp .ne 5, 3) := by decide +kernel
theorem dX10_goOut_55 : decode cX10_goOut 55 = .ok (.iconst 4, 1) := by decide +kernel
theorem dX10_goOut_56 : decode cX10_goOut 56 = .ok (.ireturn, 1) := by decide +kernel
theorem dX10_goOut_57 : decode cX10_goOut 57 = .ok (.aload_n 0, 1) := by decide +kernel
theorem dX10_goOut_58 : decode cX10_goOut 58 = .ok (.iload_n 1, 1) := by decide +kernel
theorem dX10_goOut_59 : decode cX10_goOut 59 = .ok (.invokevirtual 165, 3) := by decide +kernel
theorem dX10_goOut_62 : decode cX10_goOut 62 = .ok (.istore_n 3, 1) := by decide +kernel
theorem dX10_goOut_63 : decode cX10_goOut 63 = .ok (.aload_n 0, 1) := by decide +kernel
theorem dX10_goOut_64 : decode cX10_goOut 64 = .ok (.getfield 49, 3) := by decide +kernel
theorem dX10_goOut_67 : decode cX10_goOut 67 = .ok (.iload_n 2, 1) := by decide +kernel
theorem dX10_goOut_68 : decode cX10_goOut 68 = .ok (.iaload, 1) := by decide +kernel
theorem dX10_goOut_69 : decode cX10_goOut 69 = .ok (.iconst (-1), 1) := by decide +kernel
theorem dX10_goOut_70 : decode cX10_goOut 70 = .ok (.if_icmp .ne 31, 3) := by decide +kernel
theorem dX10_goOut_73 : decode cX10_goOut 73 = .ok (.aload_n 0, 1) := by decide +kernel
theorem dX10_goOut_74 : decode cX10_goOut 74 = .ok (.iload_n 3, 1) := by decide +kernel
theorem dX10_goOut_75 : decode cX10_goOut 75 = .ok (.aload_n 0, 1) := by decide +kernel
theorem dX10_goOut_76 : decode cX10_goOut 76 = .ok (.iload_n 1, 1) := by decide +kernel
theorem dX10_goOut_77 : decode cX10_goOut 77 = .ok (.invokevirtual 270, 3) := by decide +kernel
theorem dX10_goOut_80 : decode cX10_goOut 80 = .ok (.invokevirtual 275, 3) := by decide +kernel
theorem dX10_goOut_83 : decode cX10_goOut 83 = .ok (.ifCond .eq 6, 3) := by decide +kernel
theorem dX10_goOut_86 : decode cX10_goOut 86 = .ok (.bipush 6, 2) := by decide +kernel
theorem dX10_goOut_88 : decode cX10_goOut 88 = .ok (.ireturn, 1) := by decide +kernel
theorem dX10_goOut_89 : decode cX10_goOut 89 = .ok (.aload_n 0, 1) := by decide +kernel
theorem dX10_goOut_90 : decode cX10_goOut 90 = .ok (.iload_n 1, 1) := by decide +kernel
theorem dX10_goOut_91 : decode cX10_goOut 91 = .ok (.invokevirtual 279, 3) := by decide +kernel
theorem dX10_goOut_94 : decode cX10_goOut 94 = .ok (.aload_n 0, 1) := by decide +kernel
theorem dX10_goOut_95 : decode cX10_goOut 95 = .ok (.iload_n 1, 1) := by decide +kernel
theorem dX10_goOut_96 : decode cX10_goOut 96 = .ok (.iconst 1, 1) := by decide +kernel
theorem dX10_goOut_97 : decode cX10_goOut 97 = .ok (.invokevirtual 282, 3) := by decide +kernel
theorem dX10_goOut_100 : decode cX10_goOut 100 = .ok (.ireturn, 1) := by decide +kernel
theorem dX10_goOut_101 : decode cX10_goOut 101 = .ok (.aload_n 0, 1) := by decide +kernel
theorem dX10_goOut_102 : decode cX10_goOut 102 = .ok (.aload_n 0, 1) := by decide +kernel
theorem dX10_goOut_103 : decode cX10_goOut 103 = .ok (.getfield 49, 3) := by decide +kernel
theorem dX10_goOut_106 : decode cX10_goOut 106 = .ok (.iload_n 2, 1) := by decide +kernel
theorem dX10_goOut_107 : decode cX10_goOut 107 = .ok (.iaload, 1) := by decide +kernel
theorem dX10_goOut_108 : decode cX10_goOut 108 = .ok (.invokevirtual 285, 3) := by decide +kernel
theorem dX10_goOut_111 : decode cX10_goOut 111 = .ok (.istore 4, 2) := by decide +kernel
theorem dX10_goOut_113 : decode cX10_goOut 113 = .ok (.iload 4, 2) := by decide +kernel
theorem dX10_goOut_115 : decode cX10_goOut 115 = .ok (.ifCond .ge 5, 3) := by decide +kernel
theorem dX10_goOut_118 : decode cX10_goOut 118 = .ok (.iconst 5, 1) := by decide +kernel
theorem dX10_goOut_119 : decode cX10_goOut 119 = .ok (.ireturn, 1) := by decide +kernel
theorem dX10_goOut_120 : decode cX10_goOut 120 = .ok (.aload_n 0, 1) := by decide +kernel
theorem dX10_goOut_121 : decode cX10_goOut 121 = .ok (.iload_n 3, 1) := by decide +kernel
theorem dX10_goOut_122 : decode cX10_goOut 122 = .ok (.iload_n 3, 1) := by decide +kernel
theorem dX10_goOut_123 : decode cX10_goOut 123 = .ok (.invokestatic 256, 3) := by decide +kernel
theorem dX10_goOut_126 : decode cX10_goOut 126 = .ok (.iadd, 1) := by decide +kernel
theorem dX10_goOut_127 : decode cX10_goOut 127 = .ok (.bipush 38, 2) := by decide +kernel
theorem dX10_goOut_129 : decode cX10_goOut 129 = .ok (.iadd, 1) := by decide +kernel
theorem dX10_goOut_130 : decode cX10_goOut 130 = .ok (.aload_n 0, 1) := by decide +kernel
theorem dX10_goOut_131 : decode cX10_goOut 131 = .ok (.iload_n 1, 1) := by decide +kernel
theorem dX10_goOut_132 : decode cX10_goOut 132 = .ok (.invokevirtual 270, 3) := by decide +kernel
theorem dX10_goOut_135 : decode cX10_goOut 135 = .ok (.invokevirtual 275, 3) := by decide +kernel
theorem dX10_goOut_138 : decode cX10_goOut 138 = .ok (.ifCond .eq 6, 3) := by decide +kernel
theorem dX10_goOut_141 : decode cX10_goOut 141 = .ok (.bipush 6, 2) := by decide +kernel
theorem dX10_goOut_143 : decode cX10_goOut 143 = .ok (.ireturn, 1) := by decide +kernel
theorem dX10_goOut_144 : decode cX10_goOut 144 = .ok (.aload_n 0, 1) := by decide +kernel
theorem dX10_goOut_145 : decode cX10_goOut 145 = .ok (.getfield 83, 3) := by decide +kernel
theorem dX10_goOut_148 : decode cX10_goOut 148 = .ok (.iload 4, 2) := by decide +kernel
theorem dX10_goOut_150 : decode cX10_goOut 150 = .ok (.dup2, 1) := by decide +kernel
theorem dX10_goOut_151 : decode cX10_goOut 151 = .ok (.laload, 1) := by decide +kernel
theorem dX10_goOut_152 : decode cX10_goOut 152 = .ok (.lconst 1, 1) := by decide +kernel
theorem dX10_goOut_153 : decode cX10_goOut 153 = .ok (.ladd, 1) := by decide +kernel
theorem dX10_goOut_154 : decode cX10_goOut 154 = .ok (.lastore, 1) := by decide +kernel
theorem dX10_goOut_155 : decode cX10_goOut 155 = .ok (.aload_n 0, 1) := by decide +kernel
theorem dX10_goOut_156 : decode cX10_goOut 156 = .ok (.getfield 77, 3) := by decide +kernel
theorem dX10_goOut_159 : decode cX10_goOut 159 = .ok (.iload 4, 2) := by decide +kernel
theorem dX10_goOut_161 : decode cX10_goOut 161 = .ok (.dup2, 1) := by decide +kernel
theorem dX10_goOut_162 : decode cX10_goOut 162 = .ok (.iaload, 1) := by decide +kernel
theorem dX10_goOut_163 : decode cX10_goOut 163 = .ok (.iconst 1, 1) := by decide +kernel
theorem dX10_goOut_164 : decode cX10_goOut 164 = .ok (.isub, 1) := by decide +kernel
theorem dX10_goOut_165 : decode cX10_goOut 165 = .ok (.iastore, 1) := by decide +kernel
theorem dX10_goOut_166 : decode cX10_goOut 166 = .ok (.aload_n 0, 1) := by decide +kernel
theorem dX10_goOut_167 : decode cX10_goOut 167 = .ok (.iload_n 1, 1) := by decide +kernel
theorem dX10_goOut_168 : decode cX10_goOut 168 = .ok (.invokevirtual 279, 3) := by decide +kernel
theorem dX10_goOut_171 : decode cX10_goOut 171 = .ok (.aload_n 0, 1) := by decide +kernel
theorem dX10_goOut_172 : decode cX10_goOut 172 = .ok (.iload_n 1, 1) := by decide +kernel
theorem dX10_goOut_173 : decode cX10_goOut 173 = .ok (.iload 4, 2) := by decide +kernel
theorem dX10_goOut_175 : decode cX10_goOut 175 = .ok (.aload_n 0, 1) := by decide +kernel
theorem dX10_goOut_176 : decode cX10_goOut 176 = .ok (.getfield 83, 3) := by decide +kernel
theorem dX10_goOut_179 : decode cX10_goOut 179 = .ok (.iload 4, 2) := by decide +kernel
theorem dX10_goOut_181 : decode cX10_goOut 181 = .ok (.laload, 1) := by decide +kernel
theorem dX10_goOut_182 : decode cX10_goOut 182 = .ok (.invokevirtual 288, 3) := by decide +kernel
theorem dX10_goOut_185 : decode cX10_goOut 185 = .ok (.aload_n 0, 1) := by decide +kernel
theorem dX10_goOut_186 : decode cX10_goOut 186 = .ok (.sipush 4400, 3) := by decide +kernel
theorem dX10_goOut_189 : decode cX10_goOut 189 = .ok (.iconst 1, 1) := by decide +kernel
theorem dX10_goOut_190 : decode cX10_goOut 190 = .ok (.invokevirtual 282, 3) := by decide +kernel
theorem dX10_goOut_193 : decode cX10_goOut 193 = .ok (.ireturn, 1) := by decide +kernel
theorem dX10_hasDont_0 : decode cX10_hasDont 0 = .ok (.aload_n 0, 1) := by decide +kernel
theorem dX10_hasDont_1 : decode cX10_hasDont 1 = .ok (.getfield 7, 3) := by decide +kernel
theorem dX10_hasDont_4 : decode cX10_hasDont 4 = .ok (.iload_n 1, 1) := by decide +kernel
theorem dX10_hasDont_5 : decode cX10_hasDont 5 = .ok (.bipush 6, 2) := by decide +kernel
theorem dX10_hasDont_7 : decode cX10_hasDont 7 = .ok (.iadd, 1) := by decide +kernel
theorem dX10_hasDont_8 : decode cX10_hasDont 8 = .ok (.iaload, 1) := by decide +kernel
theorem dX10_hasDont_9 : decode cX10_hasDont 9 = .ok (.bipush 64, 2) := by decide +kernel
theorem dX10_hasDont_11 : decode cX10_hasDont 11 = .ok (.iand, 1) := by decide +kernel
theorem dX10_hasDont_12 : decode cX10_hasDont 12 = .ok (.ifCond .eq 7, 3) := by decide +kernel
theorem dX10_hasDont_15 : decode cX10_hasDont 15 = .ok (.iconst 1, 1) := by decide +kernel
theorem dX10_hasDont_16 : decode cX10_hasDont 16 = .ok (.goto 4, 3) := by decide +kernel
theorem dX10_hasDont_19 : decode cX10_hasDont 19 = .ok (.iconst 0, 1) := by decide +kernel
theorem dX10_hasDont_20 : decode cX10_hasDont 20 = .ok (.ireturn, 1) := by decide +kernel
theorem dX10_hasMore_0 : decode cX10_hasMore 0 = .ok (.aload_n 0, 1) := by decide +kernel
theorem dX10_hasMore_1 : decode cX10_hasMore 1 = .ok (.getfield 7, 3) := by decide +kernel
theorem dX10_hasMore_4 : decode cX10_hasMore 4 = .ok (.iload_n 1, 1) := by decide +kernel
theorem dX10_hasMore_5 : decode cX10_hasMore 5 = .ok (.bipush 6, 2) := by decide +kernel
theorem dX10_hasMore_7 : decode cX10_hasMore 7 = .ok (.iadd, 1) := by decide +kernel
theorem dX10_hasMore_8 : decode cX10_hasMore 8 = .ok (.iaload, 1) := by decide +kernel
theorem dX10_hasMore_9 : decode cX10_hasMore 9 = .ok (.bipush 32, 2) := by decide +kernel
theorem dX10_hasMore_11 : decode cX10_hasMore 11 = .ok (.iand, 1) := by decide +kernel
theorem dX10_hasMore_12 : decode cX10_hasMore 12 = .ok (.ifCond .eq 7, 3) := by decide +kernel
theorem dX10_hasMore_15 : decode cX10_hasMore 15 = .ok (.iconst 1, 1) := by decide +kernel
theorem dX10_hasMore_16 : decode cX10_hasMore 16 = .ok (.goto 4, 3) := by decide +kernel
theorem dX10_hasMore_19 : decode cX10_hasMore 19 = .ok (.iconst 0, 1) := by decide +kernel
theorem dX10_hasMore_20 : decode cX10_hasMore 20 = .ok (.ireturn, 1) := by decide +kernel
theorem dX10_heap_0 : decode cX10_heap 0 = .ok (.aload_n 0, 1) := by decide +kernel
theorem dX10_heap_1 : decode cX10_heap 1 = .ok (.iload_n 1, 1) := by decide +kernel
theorem dX10_heap_2 : decode cX10_heap 2 = .ok (.bipush 12, 2) := by decide +kernel
theorem dX10_heap_4 : decode cX10_heap 4 = .ok (.iadd, 1) := by decide +kernel
theorem dX10_heap_5 : decode cX10_heap 5 = .ok (.invokevirtual 218, 3) := by decide +kernel
theorem dX10_heap_8 : decode cX10_heap 8 = .ok (.istore_n 2, 1) := by decide +kernel
theorem dX10_heap_9 : decode cX10_heap 9 = .ok (.aload_n 0, 1) := by decide +kernel
theorem dX10_heap_10 : decode cX10_heap 10 = .ok (.iload_n 1, 1) := by decide +kernel
theorem dX10_heap_11 : decode cX10_heap 11 = .ok (.iconst 4, 1) := by decide +kernel
theorem dX10_heap_12 : decode cX10_heap 12 = .ok (.iadd, 1) := by decide +kernel
theorem dX10_heap_13 : decode cX10_heap 13 = .ok (.invokevirtual 140, 3) := by decide +kernel
theorem dX10_heap_16 : decode cX10_heap 16 = .ok (.istore_n 3, 1) := by decide +kernel
theorem dX10_heap_17 : decode cX10_heap 17 = .ok (.aload_n 0, 1) := by decide +kernel
theorem dX10_heap_18 : decode cX10_heap 18 = .ok (.iload_n 2, 1) := by decide +kernel
theorem dX10_heap_19 : decode cX10_heap 19 = .ok (.iload_n 3, 1) := by decide +kernel
theorem dX10_heap_20 : decode cX10_heap 20 = .ok (.invokevirtual 295, 3) := by decide +kernel
theorem dX10_heap_23 : decode cX10_heap 23 = .ok (.istore 4, 2) := by decide +kernel
theorem dX10_heap_25 : decode cX10_heap 25 = .ok (.aload_n 0, 1) := by decide +kernel
theorem dX10_heap_26 : decode cX10_heap 26 = .ok (.iload_n 1, 1) := by decide +kernel
theorem dX10_heap_27 : decode cX10_heap 27 = .ok (.iload 4, 2) := by decide +kernel
theorem dX10_heap_29 : decode cX10_heap 29 = .ok (.invokevirtual 298, 3) := by decide +kernel
theorem dX10_heap_32 : decode cX10_heap 32 = .ok (.ifCond .eq 19, 3) := by decide +kernel
theorem dX10_heap_35 : decode cX10_heap 35 = .ok (.iload 4, 2) := by decide +kernel
theorem dX10_heap_37 : decode cX10_heap 37 = .ok (.ifCond .lt 11, 3) := by decide +kernel
theorem dX10_heap_40 : decode cX10_heap 40 = .ok (.aload_n 0, 1) := by decide +kernel
theorem dX10_heap_41 : decode cX10_heap 41 = .ok (.getfield 95, 3) := by decide +kernel
theorem dX10_heap_44 : decode cX10_heap 44 = .ok (.iload 4, 2) := by decide +kernel
theorem dX10_heap_46 : decode cX10_heap 46 = .ok (.iconst 0, 1) := by decide +kernel
theorem dX10_heap_47 : decode cX10_heap 47 = .ok (.bastore, 1) := by decide +kernel
theorem dX10_heap_48 : decode cX10_heap 48 = .ok (.bipush 17, 2) := by decide +kernel
theorem dX10_heap_50 : decode cX10_heap 50 = .ok (.ireturn, 1) := by decide +kernel
theorem dX10_heap_51 : decode cX10_heap 51 = .ok (.iload 4, 2) := by decide +kernel
theorem dX10_heap_53 : decode cX10_heap 53 = .ok (.ifCond .ge 12, 3) := by decide +kernel
theorem dX10_heap_56 : decode cX10_heap 56 = .ok (.aload_n 0, 1) := by decide +kernel
theorem dX10_heap_57 : decode cX10_heap 57 = .ok (.iload_n 2, 1) := by decide +kernel
theorem dX10_heap_58 : decode cX10_heap 58 = .ok (.iload_n 3, 1) := by decide +kernel
theorem dX10_heap_59 : decode cX10_heap 59 = .ok (.invokevirtual 301, 3) := by decide +kernel
theorem dX10_heap_62 : decode cX10_heap 62 = .ok (.goto 5, 3) := by decide +kernel
theorem dX10_heap_65 : decode cX10_heap 65 = .ok (.iload 4, 2) := by decide +kernel
theorem dX10_heap_67 : decode cX10_heap 67 = .ok (.istore 4, 2) := by decide +kernel
theorem dX10_heap_69 : decode cX10_heap 69 = .ok (.aload_n 0, 1) := by decide +kernel
theorem dX10_heap_70 : decode cX10_heap 70 = .ok (.iload_n 1, 1) := by decide +kernel
theorem dX10_heap_71 : decode cX10_heap 71 = .ok (.invokevirtual 165, 3) := by decide +kernel
theorem dX10_heap_74 : decode cX10_heap 74 = .ok (.bipush 20, 2) := by decide +kernel
theorem dX10_heap_76 : decode cX10_heap 76 = .ok (.isub, 1) := by decide +kernel
theorem dX10_heap_77 : decode cX10_heap 77 = .ok (.istore 5, 2) := by decide +kernel
theorem dX10_heap_79 : decode cX10_heap 79 = .ok (.bipush 8, 2) := by decide +kernel
theorem dX10_heap_81 : decode cX10_heap 81 = .ok (.aload_n 0, 1) := by decide +kernel
theorem dX10_heap_82 : decode cX10_heap 82 = .ok (.iload_n 1, 1) := by decide +kernel
theorem dX10_heap_83 : decode cX10_heap 83 = .ok (.invokevirtual 159, 3) := by decide +kernel
theorem dX10_heap_86 : decode cX10_heap 86 = .ok (.imul, 1) := by decide +kernel
theorem dX10_heap_87 : decode cX10_heap 87 = .ok (.istore 6, 2) := by decide +kernel
theorem dX10_heap_89 : decode cX10_heap 89 = .ok (.sipush 13200, 3) := by decide +kernel
theorem dX10_heap_92 : decode cX10_heap 92 = .ok (.sipush 2200, 3) := by decide +kernel
theorem dX10_heap_95 : decode cX10_heap 95 = .ok (.iload 4, 2) := by decide +kernel
theorem dX10_heap_97 : decode cX10_heap 97 = .ok (.imul, 1) := by decide +kernel
theorem dX10_heap_98 : decode cX10_heap 98 = .ok (.iadd, 1) := by decide +kernel
theorem dX10_heap_99 : decode cX10_heap 99 = .ok (.istore 7, 2) := by decide +kernel
theorem dX10_heap_101 : decode cX10_heap 101 = .ok (.iload 6, 2) := by decide +kernel
theorem dX10_heap_103 : decode cX10_heap 103 = .ok (.ifCond .ne 12, 3) := by decide +kernel
theorem dX10_heap_106 : decode cX10_heap 106 = .ok (.aload_n 0, 1) := by decide +kernel
theorem dX10_heap_107 : decode cX10_heap 107 = .ok (.iload_n 1, 1) := by decide +kernel
theorem dX10_heap_108 : decode cX10_heap 108 = .ok (.iload 7, 2) := by decide +kernel
theorem dX10_heap_110 : decode cX10_heap 110 = .ok (.bipush 20, 2) := by decide +kernel
theorem dX10_heap_112 : decode cX10_heap 112 = .ok (.invokevirtual 235, 3) := by decide +kernel
theorem dX10_heap_115 : decode cX10_heap 115 = .ok (.aload_n 0, 1) := by decide +kernel
theorem dX10_heap_116 : decode cX10_heap 116 = .ok (.iload_n 1, 1) := by decide +kernel
theorem dX10_heap_117 : decode cX10_heap 117 = .ok (.bipush 20, 2) := by decide +kernel
theorem dX10_heap_119 : decode cX10_heap 119 = .ok (.iadd, 1) := by decide +kernel
theorem dX10_heap_120 : decode cX10_heap 120 = .ok (.iload 7, 2) := by decide +kernel
theorem dX10_heap_122 : decode cX10_heap 122 = .ok (.bipush 20, 2) := by decide +kernel
theorem dX10_heap_124 : decode cX10_heap 124 = .ok (.iadd, 1) := by decide +kernel
theorem dX10_heap_125 : decode cX10_heap 125 = .ok (.iload 6, 2) := by decide +kernel
theorem dX10_heap_127 : decode cX10_heap 127 = .ok (.iadd, 1) := by decide +kernel
theorem dX10_heap_128 : decode cX10_heap 128 = .ok (.iload 5, 2) := by decide +kernel
theorem dX10_heap_130 : decode cX10_heap 130 = .ok (.invokevirtual 235, 3) := by decide +kernel
theorem dX10_heap_133 : decode cX10_heap 133 = .ok (.iconst 0, 1) := by decide +kernel
theorem dX10_heap_134 : decode cX10_heap 134 = .ok (.istore 8, 2) := by decide +kernel
theorem dX10_heap_136 : decode cX10_heap 136 = .ok (.iload 8, 2) := by decide +kernel
theorem dX10_heap_138 : decode cX10_heap 138 = .ok (.iload 5, 2) := by decide +kernel
theorem dX10_heap_140 : decode cX10_heap 140 = .ok (.if_icmp .ge 27, 3) := by decide +kernel
theorem dX10_heap_143 : decode cX10_heap 143 = .ok (.aload_n 0, 1) := by decide +kernel
theorem dX10_heap_144 : decode cX10_heap 144 = .ok (.getfield 113, 3) := by decide +kernel
theorem dX10_heap_147 : decode cX10_heap 147 = .ok (.sipush 1980, 3) := by decide +kernel
theorem dX10_heap_150 : decode cX10_heap 150 = .ok (.iload 4, 2) := by decide +kernel
theorem dX10_heap_152 : decode cX10_heap 152 = .ok (.imul, 1) := by decide +kernel
theorem dX10_heap_153 : decode cX10_heap 153 = .ok (.iload 6, 2) := by decide +kernel
theorem dX10_heap_155 : decode cX10_heap 155 = .ok (.iadd, 1) := by decide +kernel
theorem dX10_heap_156 : decode cX10_heap 156 = .ok (.iload 8, 2) := by decide +kernel
theorem dX10_heap_158 : decode cX10_heap 158 = .ok (.iadd, 1) := by decide +kernel
theorem dX10_heap_159 : decode cX10_heap 159 = .ok (.iconst 1, 1) := by decide +kernel
theorem dX10_heap_160 : decode cX10_heap 160 = .ok (.bastore, 1) := by decide +kernel
theorem dX10_heap_161 : decode cX10_heap 161 = .ok (.iinc 8 1, 3) := by decide +kernel
theorem dX10_heap_164 : decode cX10_heap 164 = .ok (.goto (-28), 3) := by decide +kernel
theorem dX10_heap_167 : decode cX10_heap 167 = .ok (.aload_n 0, 1) := by decide +kernel
theorem dX10_heap_168 : decode cX10_heap 168 = .ok (.iload_n 1, 1) := by decide +kernel
theorem dX10_heap_169 : decode cX10_heap 169 = .ok (.invokevirtual 155, 3) := by decide +kernel
theorem dX10_heap_172 : decode cX10_heap 172 = .ok (.ifCond .ne 15, 3) := by decide +kernel
theorem dX10_heap_175 : decode cX10_heap 175 = .ok (.aload_n 0, 1) := by decide +kernel
theorem dX10_heap_176 : decode cX10_heap 176 = .ok (.getfield 104, 3) := by decide +kernel
theorem dX10_heap_179 : decode cX10_heap 179 = .ok (.iload 4, 2) := by decide +kernel
theorem dX10_heap_181 : decode cX10_heap 181 = .ok (.iload 6, 2) := by decide +kernel
theorem dX10_heap_183 : decode cX10_heap 183 = .ok (.iload 5, 2) := by decide +kernel
theorem dX10_heap_185 : decode cX10_heap 185 = .ok (.iadd, 1) := by decide +kernel
theorem dX10_heap_186 : decode cX10_heap 186 = .ok (.iastore, 1) := by decide +kernel
theorem dX10_heap_187 : decode cX10_heap 187 = .ok (.aload_n 0, 1) := by decide +kernel
theorem dX10_heap_188 : decode cX10_heap 188 = .ok (.iload 4, 2) := by decide +kernel
theorem dX10_heap_190 : decode cX10_heap 190 = .ok (.invokevirtual 304, 3) := by decide +kernel
theorem dX10_heap_193 : decode cX10_heap 193 = .ok (.ifCond .ne 6, 3) := by decide +kernel
theorem dX10_heap_196 : decode cX10_heap 196 = .ok (.bipush 7, 2) := by decide +kernel
theorem dX10_heap_198 : decode cX10_heap 198 = .ok (.ireturn, 1) := by decide +kernel
theorem dX10_heap_199 : decode cX10_heap 199 = .ok (.aload_n 0, 1) := by decide +kernel
theorem dX10_heap_200 : decode cX10_heap 200 = .ok (.getfield 95, 3) := by decide +kernel
theorem dX10_heap_203 : decode cX10_heap 203 = .ok (.iload 4, 2) := by decide +kernel
theorem dX10_heap_205 : decode cX10_heap 205 = .ok (.iconst 0, 1) := by decide +kernel
theorem dX10_heap_206 : decode cX10_heap 206 = .ok (.bastore, 1) := by decide +kernel
theorem dX10_heap_207 : decode cX10_heap 207 = .ok (.aload_n 0, 1) := by decide +kernel
theorem dX10_heap_208 : decode cX10_heap 208 = .ok (.iload 7, 2) := by decide +kernel
theorem dX10_heap_210 : decode cX10_heap 210 = .ok (.iload_n 1, 1) := by decide +kernel
theorem dX10_heap_211 : decode cX10_heap 211 = .ok (.bipush 20, 2) := by decide +kernel
theorem dX10_heap_213 : decode cX10_heap 213 = .ok (.aload_n 0, 1) := by decide +kernel
theorem dX10_heap_214 : decode cX10_heap 214 = .ok (.getfield 104, 3) := by decide +kernel
theorem dX10_heap_217 : decode cX10_heap 217 = .ok (.iload 4, 2) := by decide +kernel
theorem dX10_heap_219 : decode cX10_heap 219 = .ok (.iaload, 1) := by decide +kernel
theorem dX10_heap_220 : decode cX10_heap 220 = .ok (.iadd, 1) := by decide +kernel
theorem dX10_heap_221 : decode cX10_heap 221 = .ok (.invokevirtual 235, 3) := by decide +kernel
theorem dX10_heap_224 : decode cX10_heap 224 = .ok (.aload_n 0, 1) := by decide +kernel
theorem dX10_heap_225 : decode cX10_heap 225 = .ok (.iload_n 1, 1) := by decide +kernel
theorem dX10_heap_226 : decode cX10_heap 226 = .ok (.iconst 0, 1) := by decide +kernel
theorem dX10_heap_227 : decode cX10_heap 227 = .ok (.iconst 0, 1) := by decide +kernel
theorem dX10_heap_228 : decode cX10_heap 228 = .ok (.invokevirtual 239, 3) := by decide +kernel
theorem dX10_heap_231 : decode cX10_heap 231 = .ok (.aload_n 0, 1) := by decide +kernel
theorem dX10_heap_232 : decode cX10_heap 232 = .ok (.iload_n 1, 1) := by decide +kernel
theorem dX10_heap_233 : decode cX10_heap 233 = .ok (.iconst 2, 1) := by decide +kernel
theorem dX10_heap_234 : decode cX10_heap 234 = .ok (.iadd, 1) := by decide +kernel
theorem dX10_heap_235 : decode cX10_heap 235 = .ok (.bipush 20, 2) := by decide +kernel
theorem dX10_heap_237 : decode cX10_heap 237 = .ok (.aload_n 0, 1) := by decide +kernel
theorem dX10_heap_238 : decode cX10_heap 238 = .ok (.getfield 104, 3) := by decide +kernel
theorem dX10_heap_241 : decode cX10_heap 241 = .ok (.iload 4, 2) := by decide +kernel
theorem dX10_heap_243 : decode cX10_heap 243 = .ok (.iaload, 1) := by decide +kernel
theorem dX10_heap_244 : decode cX10_heap 244 = .ok (.iadd, 1) := by decide +kernel
theorem dX10_heap_245 : decode cX10_heap 245 = .ok (.invokevirtual 144, 3) := by decide +kernel
theorem dX10_heap_248 : decode cX10_heap 248 = .ok (.iconst 0, 1) := by decide +kernel
theorem dX10_heap_249 : decode cX10_heap 249 = .ok (.ireturn, 1) := by decide +kernel
theorem dX10_heapOf_0 : decode cX10_heapOf 0 = .ok (.iconst 0, 1) := by decide +kernel
theorem dX10_heapOf_1 : decode cX10_heapOf 1 = .ok (.istore_n 3, 1) := by decide +kernel
theorem dX10_heapOf_2 : decode cX10_heapOf 2 = .ok (.iload_n 3, 1) := by decide +kernel
theorem dX10_heapOf_3 : decode cX10_heapOf 3 = .ok (.iconst 4, 1) := by decide +kernel
theorem dX10_heapOf_4 : decode cX10_heapOf 4 = .ok (.if_icmp .ge 40, 3) := by decide +kernel
theorem dX10_heapOf_7 : decode cX10_heapOf 7 = .ok (.aload_n 0, 1) := by decide +kernel
theorem dX10_heapOf_8 : decode cX10_heapOf 8 = .ok (.getfield 95, 3) := by decide +kernel
theorem dX10_heapOf_11 : decode cX10_heapOf 11 = .ok (.iload_n 3, 1) := by decide +kernel
theorem dX10_heapOf_12 : decode cX10_heapOf 12 = .ok (.baload, 1) := by decide +kernel
theorem dX10_heapOf_13 : decode cX10_heapOf 13 = .ok (.ifCond .eq 25, 3) := by decide +kernel
theorem dX10_heapOf_16 : decode cX10_heapOf 16 = .ok (.aload_n 0, 1) := by decide +kernel
theorem dX10_heapOf_17 : decode cX10_heapOf 17 = .ok (.getfield 98, 3) := by decide +kernel
theorem dX10_heapOf_20 : decode cX10_heapOf 20 = .ok (.iload_n 3, 1) := by decide +kernel
theorem dX10_heapOf_21 : decode cX10_heapOf 21 = .ok (.iaload, 1) := by decide +kernel
theorem dX10_heapOf_22 : decode cX10_heapOf 22 = .ok (.iload_n 1, 1) := by decide +kernel
theorem dX10_heapOf_23 : decode cX10_heapOf 23 = .ok (.if_icmp .ne 15, 3) := by decide +kernel
theorem dX10_heapOf_26 : decode cX10_heapOf 26 = .ok (.aload_n 0, 1) := by decide +kernel
theorem dX10_heapOf_27 : decode cX10_heapOf 27 = .ok (.getfield 101, 3) := by decide +kernel
theorem dX10_heapOf_30 : decode cX10_heapOf 30 = .ok (.iload_n 3, 1) := by decide +kernel
theorem dX10_heapOf_31 : decode cX10_heapOf 31 = .ok (.iaload, 1) := by decide +kernel
theorem dX10_heapOf_32 : decode cX10_heapOf 32 = .ok (.iload_n 2, 1) := by decide +kernel
theorem dX10_heapOf_33 : decode cX10_heapOf 33 = .ok (.if_icmp .ne 5, 3) := by decide +kernel
theorem dX10_heapOf_36 : decode cX10_heapOf 36 = .ok (.iload_n 3, 1) := by decide +kernel
theorem dX10_heapOf_37 : decode cX10_heapOf 37 = .ok (.ireturn, 1) := by decide +kernel
theorem dX10_heapOf_38 : decode cX10_heapOf 38 = .ok (.iinc 3 1, 3) := by decide +kernel
theorem dX10_heapOf_41 : decode cX10_heapOf 41 = .ok (.goto (-39), 3) := by decide +kernel
theorem dX10_heapOf_44 : decode cX10_heapOf 44 = .ok (.iconst (-1), 1) := by decide +kernel
theorem dX10_heapOf_45 : decode cX10_heapOf 45 = .ok (.ireturn, 1) := by decide +kernel
theorem dX10_hop_0 : decode cX10_hop 0 = .ok (.aload_n 0, 1) := by decide +kernel
theorem dX10_hop_1 : decode cX10_hop 1 = .ok (.getfield 7, 3) := by decide +kernel
theorem dX10_hop_4 : decode cX10_hop 4 = .ok (.iload_n 1, 1) := by decide +kernel
theorem dX10_hop_5 : decode cX10_hop 5 = .ok (.bipush 8, 2) := by decide +kernel
theorem dX10_hop_7 : decode cX10_hop 7 = .ok (.iadd, 1) := by decide +kernel
theorem dX10_hop_8 : decode cX10_hop 8 = .ok (.dup2, 1) := by decide +kernel
theorem dX10_hop_9 : decode cX10_hop 9 = .ok (.iaload, 1) := by decide +kernel
theorem dX10_hop_10 : decode cX10_hop 10 = .ok (.iconst 1, 1) := by decide +kernel
theorem dX10_hop_11 : decode cX10_hop 11 = .ok (.isub, 1) := by decide +kernel
theorem dX10_hop_12 : decode cX10_hop 12 = .ok (.iastore, 1) := by decide +kernel
theorem dX10_hop_13 : decode cX10_hop 13 = .ok (.aload_n 0, 1) := by decide +kernel
theorem dX10_hop_14 : decode cX10_hop 14 = .ok (.iload_n 1, 1) := by decide +kernel
theorem dX10_hop_15 : decode cX10_hop 15 = .ok (.invokevirtual 184, 3) := by decide +kernel
theorem dX10_hop_18 : decode cX10_hop 18 = .ok (.return_, 1) := by decide +kernel
theorem dX10_in_0 : decode cX10_in 0 = .ok (.iload_n 0, 1) := by decide +kernel
theorem dX10_in_1 : decode cX10_in 1 = .ok (.iload_n 1, 1) := by decide +kernel
theorem dX10_in_2 : decode cX10_in 2 = .ok (.if_icmp .lt 12, 3) := by decide +kernel
theorem dX10_in_5 : decode cX10_in 5 = .ok (.iload_n 0, 1) := by decide +kernel
theorem dX10_in_6 : decode cX10_in 6 = .ok (.iload_n 2, 1) := by decide +kernel
theorem dX10_in_7 : decode cX10_in 7 = .ok (.if_icmp .gt 7, 3) := by decide +kernel
theorem dX10_in_10 : decode cX10_in 10 = .ok (.iconst 1, 1) := by decide +kernel
theorem dX10_in_11 : decode cX10_in 11 = .ok (.goto 4, 3) := by decide +kernel
theorem dX10_in_14 : decode cX10_in 14 = .ok (.iconst 0, 1) := by decide +kernel
theorem dX10_in_15 : decode cX10_in 15 = .ok (.ireturn, 1) := by decide +kernel
theorem dX10_isBroken_0 : decode cX10_isBroken 0 = .ok (.iload_n 2, 1) := by decide +kernel
theorem dX10_isBroken_1 : decode cX10_isBroken 1 = .ok (.bipush 20, 2) := by decide +kernel
theorem dX10_isBroken_3 : decode cX10_isBroken 3 = .ok (.if_icmp .lt 48, 3) := by decide +kernel
theorem dX10_isBroken_6 : decode cX10_isBroken 6 = .ok (.aload_n 0, 1) := by decide +kernel
theorem dX10_isBroken_7 : decode cX10_isBroken 7 = .ok (.getfield 7, 3) := by decide +kernel
theorem dX10_isBroken_10 : decode cX10_isBroken 10 = .ok (.iload_n 1, 1) := by decide +kernel
theorem dX10_isBroken_11 : decode cX10_isBroken 11 = .ok (.iaload, 1) := by decide +kernel
theorem dX10_isBroken_12 : decode cX10_isBroken 12 = .ok (.bipush 69, 2) := by decide +kernel
theorem dX10_isBroken_14 : decode cX10_isBroken 14 = .ok (.if_icmp .ne 37, 3) := by decide +kernel
theorem dX10_isBroken_17 : decode cX10_isBroken 17 = .ok (.aload_n 0, 1) := by decide +kernel
theorem dX10_isBroken_18 : decode cX10_isBroken 18 = .ok (.iload_n 1, 1) := by decide +kernel
theorem dX10_isBroken_19 : decode cX10_isBroken 19 = .ok (.iconst 2, 1) := by decide +kernel
theorem dX10_isBroken_20 : decode cX10_isBroken 20 = .ok (.iadd, 1) := by decide +kernel
theorem dX10_isBroken_21 : decode cX10_isBroken 21 = .ok (.invokevirtual 140, 3) := by decide +kernel
theorem dX10_isBroken_24 : decode cX10_isBroken 24 = .ok (.bipush 20, 2) := by decide +kernel
theorem dX10_isBroken_26 : decode cX10_isBroken 26 = .ok (.if_icmp .lt 25, 3) := by decide +kernel
theorem dX10_isBroken_29 : decode cX10_isBroken 29 = .ok (.aload_n 0, 1) := by decide +kernel
theorem dX10_isBroken_30 : decode cX10_isBroken 30 = .ok (.iload_n 1, 1) := by decide +kernel
theorem dX10_isBroken_31 : decode cX10_isBroken 31 = .ok (.iconst 2, 1) := by decide +kernel
theorem dX10_isBroken_32 : decode cX10_isBroken 32 = .ok (.iadd, 1) := by decide +kernel
theorem dX10_isBroken_33 : decode cX10_isBroken 33 = .ok (.invokevirtual 140, 3) := by decide +kernel
theorem dX10_isBroken_36 : decode cX10_isBroken 36 = .ok (.iload_n 2, 1) := by decide +kernel
theorem dX10_isBroken_37 : decode cX10_isBroken 37 = .ok (.if_icmp .gt 14, 3) := by decide +kernel
theorem dX10_isBroken_40 : decode cX10_isBroken 40 = .ok (.aload_n 0, 1) := by decide +kernel
theorem dX10_isBroken_41 : decode cX10_isBroken 41 = .ok (.iload_n 1, 1) := by decide +kernel
theorem dX10_isBroken_42 : decode cX10_isBroken 42 = .ok (.iconst 1, 1) := by decide +kernel
theorem dX10_isBroken_43 : decode cX10_isBroken 43 = .ok (.invokevirtual 151, 3) := by decide +kernel
theorem dX10_isBroken_46 : decode cX10_isBroken 46 = .ok (.ldc 52, 2) := by decide +kernel
theorem dX10_isBroken_48 : decode cX10_isBroken 48 = .ok (.if_icmp .eq 7, 3) := by decide +kernel
theorem dX10_isBroken_51 : decode cX10_isBroken 51 = .ok (.iconst 1, 1) := by decide +kernel
theorem dX10_isBroken_52 : decode cX10_isBroken 52 = .ok (.goto 4, 3) := by decide +kernel
theorem dX10_isBroken_55 : decode cX10_isBroken 55 = .ok (.iconst 0, 1) := by decide +kernel
theorem dX10_isBroken_56 : decode cX10_isBroken 56 = .ok (.ireturn, 1) := by decide +kernel
theorem dX10_isDead_0 : decode cX10_isDead 0 = .ok (.aload_n 0, 1) := by decide +kernel
theorem dX10_isDead_1 : decode cX10_isDead 1 = .ok (.getfield 80, 3) := by decide +kernel
theorem dX10_isDead_4 : decode cX10_isDead 4 = .ok (.iload_n 1, 1) := by decide +kernel
theorem dX10_isDead_5 : decode cX10_isDead 5 = .ok (.baload, 1) := by decide +kernel
theorem dX10_isDead_6 : decode cX10_isDead 6 = .ok (.ifCond .ne 12, 3) := by decide +kernel
theorem dX10_isDead_9 : decode cX10_isDead 9 = .ok (.aload_n 0, 1) := by decide +kernel
theorem dX10_isDead_10 : decode cX10_isDead 10 = .ok (.getfield 77, 3) := by decide +kernel
theorem dX10_isDead_13 : decode cX10_isDead 13 = .ok (.iload_n 1, 1) := by decide +kernel
theorem dX10_isDead_14 : decode cX10_isDead 14 = .ok (.iaload, 1) := by decide +kernel
theorem dX10_isDead_15 : decode cX10_isDead 15 = .ok (.ifCond .ne 7, 3) := by decide +kernel
theorem dX10_isDead_18 : decode cX10_isDead 18 = .ok (.iconst 1, 1) := by decide +kernel
theorem dX10_isDead_19 : decode cX10_isDead 19 = .ok (.goto 4, 3) := by decide +kernel
theorem dX10_isDead_22 : decode cX10_isDead 22 = .ok (.iconst 0, 1) := by decide +kernel
theorem dX10_isDead_23 : decode cX10_isDead 23 = .ok (.ireturn, 1) := by decide +kernel
theorem dX10_isFilled_0 : decode cX10_isFilled 0 = .ok (.iload_n 3, 1) := by decide +kernel
theorem dX10_isFilled_1 : decode cX10_isFilled 1 = .ok (.iload_n 2, 1) := by decide +kernel
theorem dX10_isFilled_2 : decode cX10_isFilled 2 = .ok (.iconst 2, 1) := by decide +kernel
theorem dX10_isFilled_3 : decode cX10_isFilled 3 = .ok (.isub, 1) := by decide +kernel
theorem dX10_isFilled_4 : decode cX10_isFilled 4 = .ok (.if_icmp .gt 7, 3) := by decide +kernel
theorem dX10_isFilled_7 : decode cX10_isFilled 7 = .ok (.iconst 1, 1) := by decide +kernel
theorem dX10_isFilled_8 : decode cX10_isFilled 8 = .ok (.goto 4, 3) := by decide +kernel
theorem dX10_isFilled_11 : decode cX10_isFilled 11 = .ok (.iconst 0, 1) := by decide +kernel
theorem dX10_isFilled_12 : decode cX10_isFilled 12 = .ok (.istore 4, 2) := by decide +kernel
theorem dX10_isFilled_14 : decode cX10_isFilled 14 = .ok (.iconst 1, 1) := by decide +kernel
theorem dX10_isFilled_15 : decode cX10_isFilled 15 = .ok (.istore 5, 2) := by decide +kernel
theorem dX10_isFilled_17 : decode cX10_isFilled 17 = .ok (.iload 5, 2) := by decide +kernel
theorem dX10_isFilled_19 : decode cX10_isFilled 19 = .ok (.iload_n 3, 1) := by decide +kernel
theorem dX10_isFilled_20 : decode cX10_isFilled 20 = .ok (.if_icmp .gt 43, 3) := by decide +kernel
theorem dX10_isFilled_23 : decode cX10_isFilled 23 = .ok (.iload 4, 2) := by decide +kernel
theorem dX10_isFilled_25 : decode cX10_isFilled 25 = .ok (.ifCond .eq 38, 3) := by decide +kernel
theorem dX10_isFilled_28 : decode cX10_isFilled 28 = .ok (.aload_n 0, 1) := by decide +kernel
theorem dX10_isFilled_29 : decode cX10_isFilled 29 = .ok (.getfield 7, 3) := by decide +kernel
theorem dX10_isFilled_32 : decode cX10_isFilled 32 = .ok (.iload_n 1, 1) := by decide +kernel
theorem dX10_isFilled_33 : decode cX10_isFilled 33 = .ok (.iload_n 2, 1) := by decide +kernel
theorem dX10_isFilled_34 : decode cX10_isFilled 34 = .ok (.iadd, 1) := by decide +kernel
theorem dX10_isFilled_35 : decode cX10_isFilled 35 = .ok (.iconst 2, 1) := by decide +kernel
theorem dX10_isFilled_36 : decode cX10_isFilled 36 = .ok (.isub, 1) := by decide +kernel
theorem dX10_isFilled_37 : decode cX10_isFilled 37 = .ok (.iload_n 3, 1) := by decide +kernel
theorem dX10_isFilled_38 : decode cX10_isFilled 38 = .ok (.isub, 1) := by decide +kernel
theorem dX10_isFilled_39 : decode cX10_isFilled 39 = .ok (.iload 5, 2) := by decide +kernel
theorem dX10_isFilled_41 : decode cX10_isFilled 41 = .ok (.iadd, 1) := by decide +kernel
theorem dX10_isFilled_42 : decode cX10_isFilled 42 = .ok (.iconst 1, 1) := by decide +kernel
theorem dX10_isFilled_43 : decode cX10_isFilled 43 = .ok (.isub, 1) := by decide +kernel
theorem dX10_isFilled_44 : decode cX10_isFilled 44 = .ok (.iaload, 1) := by decide +kernel
theorem dX10_isFilled_45 : decode cX10_isFilled 45 = .ok (.iload 5, 2) := by decide +kernel
theorem dX10_isFilled_47 : decode cX10_isFilled 47 = .ok (.if_icmp .ne 7, 3) := by decide +kernel
theorem dX10_isFilled_50 : decode cX10_isFilled 50 = .ok (.iconst 1, 1) := by decide +kernel
theorem dX10_isFilled_51 : decode cX10_isFilled 51 = .ok (.goto 4, 3) := by decide +kernel
theorem dX10_isFilled_54 : decode cX10_isFilled 54 = .ok (.iconst 0, 1) := by decide +kernel
theorem dX10_isFilled_55 : decode cX10_isFilled 55 = .ok (.istore 4, 2) := by decide +kernel
theorem dX10_isFilled_57 : decode cX10_isFilled 57 = .ok (.iinc 5 1, 3) := by decide +kernel
theorem dX10_isFilled_60 : decode cX10_isFilled 60 = .ok (.goto (-43), 3) := by decide +kernel
theorem dX10_isFilled_63 : decode cX10_isFilled 63 = .ok (.iload 4, 2) := by decide +kernel
theorem dX10_isFilled_65 : decode cX10_isFilled 65 = .ok (.ireturn, 1) := by decide +kernel
