theorem dX10_sealNamed_39 : decode cX10_sealNamed 39 = .ok (.ireturn, 1) := by decide +kernel
theorem dX10_see_0 : decode cX10_see 0 = .ok (.lload_n 2, 1) := by decide +kernel
theorem dX10_see_1 : decode cX10_see 1 = .ok (.aload_n 0, 1) := by decide +kernel
theorem dX10_see_2 : decode cX10_see 2 = .ok (.getfield 83, 3) := by decide +kernel
theorem dX10_see_5 : decode cX10_see 5 = .ok (.iload_n 1, 1) := by decide +kernel
theorem dX10_see_6 : decode cX10_see 6 = .ok (.laload, 1) := by decide +kernel
theorem dX10_see_7 : decode cX10_see 7 = .ok (.lsub, 1) := by decide +kernel
theorem dX10_see_8 : decode cX10_see 8 = .ok (.lstore 4, 2) := by decide +kernel
theorem dX10_see_10 : decode cX10_see 10 = .ok (.lload 4, 2) := by decide +kernel
theorem dX10_see_12 : decode cX10_see 12 = .ok (.lconst 0, 1) := by decide +kernel
theorem dX10_see_13 : decode cX10_see 13 = .ok (.lcmp, 1) := by decide +kernel
theorem dX10_see_14 : decode cX10_see 14 = .ok (.ifCond .le 44, 3) := by decide +kernel
theorem dX10_see_17 : decode cX10_see 17 = .ok (.aload_n 0, 1) := by decide +kernel
theorem dX10_see_18 : decode cX10_see 18 = .ok (.getfield 86, 3) := by decide +kernel
theorem dX10_see_21 : decode cX10_see 21 = .ok (.iload_n 1, 1) := by decide +kernel
theorem dX10_see_22 : decode cX10_see 22 = .ok (.lload 4, 2) := by decide +kernel
theorem dX10_see_24 : decode cX10_see 24 = .ok (.ldc2_w 315, 3) := by decide +kernel
theorem dX10_see_27 : decode cX10_see 27 = .ok (.lcmp, 1) := by decide +kernel
theorem dX10_see_28 : decode cX10_see 28 = .ok (.ifCond .lt 7, 3) := by decide +kernel
theorem dX10_see_31 : decode cX10_see 31 = .ok (.lconst 0, 1) := by decide +kernel
theorem dX10_see_32 : decode cX10_see 32 = .ok (.goto 13, 3) := by decide +kernel
theorem dX10_see_35 : decode cX10_see 35 = .ok (.aload_n 0, 1) := by decide +kernel
theorem dX10_see_36 : decode cX10_see 36 = .ok (.getfield 86, 3) := by decide +kernel
theorem dX10_see_39 : decode cX10_see 39 = .ok (.iload_n 1, 1) := by decide +kernel
theorem dX10_see_40 : decode cX10_see 40 = .ok (.laload, 1) := by decide +kernel
theorem dX10_see_41 : decode cX10_see 41 = .ok (.lload 4, 2) := by decide +kernel
theorem dX10_see_43 : decode cX10_see 43 = .ok (.l2i, 1) := by decide +kernel
theorem dX10_see_44 : decode cX10_see 44 = .ok (.lshl, 1) := by decide +kernel
theorem dX10_see_45 : decode cX10_see 45 = .ok (.lconst 1, 1) := by decide +kernel
theorem dX10_see_46 : decode cX10_see 46 = .ok (.lor, 1) := by decide +kernel
theorem dX10_see_47 : decode cX10_see 47 = .ok (.lastore, 1) := by decide +kernel
theorem dX10_see_48 : decode cX10_see 48 = .ok (.aload_n 0, 1) := by decide +kernel
theorem dX10_see_49 : decode cX10_see 49 = .ok (.getfield 83, 3) := by decide +kernel
theorem dX10_see_52 : decode cX10_see 52 = .ok (.iload_n 1, 1) := by decide +kernel
theorem dX10_see_53 : decode cX10_see 53 = .ok (.lload_n 2, 1) := by decide +kernel
theorem dX10_see_54 : decode cX10_see 54 = .ok (.lastore, 1) := by decide +kernel
theorem dX10_see_55 : decode cX10_see 55 = .ok (.goto 22, 3) := by decide +kernel
theorem dX10_see_58 : decode cX10_see 58 = .ok (.aload_n 0, 1) := by decide +kernel
theorem dX10_see_59 : decode cX10_see 59 = .ok (.getfield 86, 3) := by decide +kernel
theorem dX10_see_62 : decode cX10_see 62 = .ok (.iload_n 1, 1) := by decide +kernel
theorem dX10_see_63 : decode cX10_see 63 = .ok (.aload_n 0, 1) := by decide +kernel
theorem dX10_see_64 : decode cX10_see 64 = .ok (.getfield 86, 3) := by decide +kernel
theorem dX10_see_67 : decode cX10_see 67 = .ok (.iload_n 1, 1) := by decide +kernel
theorem dX10_see_68 : decode cX10_see 68 = .ok (.laload, 1) := by decide +kernel
theorem dX10_see_69 : decode cX10_see 69 = .ok (.lconst 1, 1) := by decide +kernel
theorem dX10_see_70 : decode cX10_see 70 = .ok (.lload 4, 2) := by decide +kernel
theorem dX10_see_72 : decode cX10_see 72 = .ok (.lneg, 1) := by decide +kernel
theorem dX10_see_73 : decode cX10_see 73 = .ok (.l2i, 1) := by decide +kernel
theorem dX10_see_74 : decode cX10_see 74 = .ok (.lshl, 1) := by decide +kernel
theorem dX10_see_75 : decode cX10_see 75 = .ok (.lor, 1) := by decide +kernel
theorem dX10_see_76 : decode cX10_see 76 = .ok (.lastore, 1) := by decide +kernel
theorem dX10_see_77 : decode cX10_see 77 = .ok (.aload_n 0, 1) := by decide +kernel
theorem dX10_see_78 : decode cX10_see 78 = .ok (.getfield 77, 3) := by decide +kernel
theorem dX10_see_81 : decode cX10_see 81 = .ok (.iload_n 1, 1) := by decide +kernel
theorem dX10_see_82 : decode cX10_see 82 = .ok (.dup2, 1) := by decide +kernel
theorem dX10_see_83 : decode cX10_see 83 = .ok (.iaload, 1) := by decide +kernel
theorem dX10_see_84 : decode cX10_see 84 = .ok (.iconst 1, 1) := by decide +kernel
theorem dX10_see_85 : decode cX10_see 85 = .ok (.isub, 1) := by decide +kernel
theorem dX10_see_86 : decode cX10_see 86 = .ok (.iastore, 1) := by decide +kernel
theorem dX10_see_87 : decode cX10_see 87 = .ok (.return_, 1) := by decide +kernel
theorem dX10_seen_0 : decode cX10_seen 0 = .ok (.aload_n 0, 1) := by decide +kernel
theorem dX10_seen_1 : decode cX10_seen 1 = .ok (.iconst 0, 1) := by decide +kernel
theorem dX10_seen_2 : decode cX10_seen 2 = .ok (.putfield 137, 3) := by decide +kernel
theorem dX10_seen_5 : decode cX10_seen 5 = .ok (.aload_n 0, 1) := by decide +kernel
theorem dX10_seen_6 : decode cX10_seen 6 = .ok (.iload_n 1, 1) := by decide +kernel
theorem dX10_seen_7 : decode cX10_seen 7 = .ok (.iconst 0, 1) := by decide +kernel
theorem dX10_seen_8 : decode cX10_seen 8 = .ok (.aload_n 0, 1) := by decide +kernel
theorem dX10_seen_9 : decode cX10_seen 9 = .ok (.getfield 200, 3) := by decide +kernel
theorem dX10_seen_12 : decode cX10_seen 12 = .ok (.iconst 1, 1) := by decide +kernel
theorem dX10_seen_13 : decode cX10_seen 13 = .ok (.isub, 1) := by decide +kernel
theorem dX10_seen_14 : decode cX10_seen 14 = .ok (.invokestatic 179, 3) := by decide +kernel
theorem dX10_seen_17 : decode cX10_seen 17 = .ok (.ifCond .ne 7, 3) := by decide +kernel
theorem dX10_seen_20 : decode cX10_seen 20 = .ok (.iconst 1, 1) := by decide +kernel
theorem dX10_seen_21 : decode cX10_seen 21 = .ok (.goto 4, 3) := by decide +kernel
theorem dX10_seen_24 : decode cX10_seen 24 = .ok (.iconst 0, 1) := by decide +kernel
theorem dX10_seen_25 : decode cX10_seen 25 = .ok (.iconst 1, 1) := by decide +kernel
theorem dX10_seen_26 : decode cX10_seen 26 = .ok (.invokevirtual 171, 3) := by decide +kernel
theorem dX10_seen_29 : decode cX10_seen 29 = .ok (.ifCond .eq 7, 3) := by decide +kernel
theorem dX10_seen_32 : decode cX10_seen 32 = .ok (.lconst 0, 1) := by decide +kernel
theorem dX10_seen_33 : decode cX10_seen 33 = .ok (.goto 9, 3) := by decide +kernel
theorem dX10_seen_36 : decode cX10_seen 36 = .ok (.aload_n 0, 1) := by decide +kernel
theorem dX10_seen_37 : decode cX10_seen 37 = .ok (.getfield 86, 3) := by decide +kernel
theorem dX10_seen_40 : decode cX10_seen 40 = .ok (.iload_n 1, 1) := by decide +kernel
theorem dX10_seen_41 : decode cX10_seen 41 = .ok (.laload, 1) := by decide +kernel
theorem dX10_seen_42 : decode cX10_seen 42 = .ok (.lreturn, 1) := by decide +kernel
theorem dX10_send_0 : decode cX10_send 0 = .ok (.aload_n 0, 1) := by decide +kernel
theorem dX10_send_1 : decode cX10_send 1 = .ok (.iload_n 1, 1) := by decide +kernel
theorem dX10_send_2 : decode cX10_send 2 = .ok (.invokevirtual 165, 3) := by decide +kernel
theorem dX10_send_5 : decode cX10_send 5 = .ok (.istore_n 3, 1) := by decide +kernel
theorem dX10_send_6 : decode cX10_send 6 = .ok (.aload_n 0, 1) := by decide +kernel
theorem dX10_send_7 : decode cX10_send 7 = .ok (.iload_n 2, 1) := by decide +kernel
theorem dX10_send_8 : decode cX10_send 8 = .ok (.putfield 92, 3) := by decide +kernel
theorem dX10_send_11 : decode cX10_send 11 = .ok (.aload_n 0, 1) := by decide +kernel
theorem dX10_send_12 : decode cX10_send 12 = .ok (.getfield 89, 3) := by decide +kernel
theorem dX10_send_15 : decode cX10_send 15 = .ok (.iconst 1, 1) := by decide +kernel
theorem dX10_send_16 : decode cX10_send 16 = .ok (.iconst 0, 1) := by decide +kernel
theorem dX10_send_17 : decode cX10_send 17 = .ok (.iastore, 1) := by decide +kernel
theorem dX10_send_18 : decode cX10_send 18 = .ok (.iload_n 3, 1) := by decide +kernel
theorem dX10_send_19 : decode cX10_send 19 = .ok (.sipush 1500, 3) := by decide +kernel
theorem dX10_send_22 : decode cX10_send 22 = .ok (.if_icmp .gt 21, 3) := by decide +kernel
theorem dX10_send_25 : decode cX10_send 25 = .ok (.aload_n 0, 1) := by decide +kernel
theorem dX10_send_26 : decode cX10_send 26 = .ok (.iload_n 1, 1) := by decide +kernel
theorem dX10_send_27 : decode cX10_send 27 = .ok (.sipush 8800, 3) := by decide +kernel
theorem dX10_send_30 : decode cX10_send 30 = .ok (.iload_n 3, 1) := by decide +kernel
theorem dX10_send_31 : decode cX10_send 31 = .ok (.invokevirtual 235, 3) := by decide +kernel
theorem dX10_send_34 : decode cX10_send 34 = .ok (.aload_n 0, 1) := by decide +kernel
theorem dX10_send_35 : decode cX10_send 35 = .ok (.getfield 89, 3) := by decide +kernel
theorem dX10_send_38 : decode cX10_send 38 = .ok (.iconst 0, 1) := by decide +kernel
theorem dX10_send_39 : decode cX10_send 39 = .ok (.iload_n 3, 1) := by decide +kernel
theorem dX10_send_40 : decode cX10_send 40 = .ok (.iastore, 1) := by decide +kernel
theorem dX10_send_41 : decode cX10_send 41 = .ok (.iconst 0, 1) := by decide +kernel
theorem dX10_send_42 : decode cX10_send 42 = .ok (.ireturn, 1) := by decide +kernel
theorem dX10_send_43 : decode cX10_send 43 = .ok (.aload_n 0, 1) := by decide +kernel
theorem dX10_send_44 : decode cX10_send 44 = .ok (.iload_n 1, 1) := by decide +kernel
theorem dX10_send_45 : decode cX10_send 45 = .ok (.invokevirtual 155, 3) := by decide +kernel
theorem dX10_send_48 : decode cX10_send 48 = .ok (.istore 4, 2) := by decide +kernel
theorem dX10_send_50 : decode cX10_send 50 = .ok (.aload_n 0, 1) := by decide +kernel
theorem dX10_send_51 : decode cX10_send 51 = .ok (.iload_n 1, 1) := by decide +kernel
theorem dX10_send_52 : decode cX10_send 52 = .ok (.invokevirtual 159, 3) := by decide +kernel
theorem dX10_send_55 : decode cX10_send 55 = .ok (.istore 5, 2) := by decide +kernel
theorem dX10_send_57 : decode cX10_send 57 = .ok (.aload_n 0, 1) := by decide +kernel
theorem dX10_send_58 : decode cX10_send 58 = .ok (.iload_n 1, 1) := by decide +kernel
theorem dX10_send_59 : decode cX10_send 59 = .ok (.sipush 8800, 3) := by decide +kernel
theorem dX10_send_62 : decode cX10_send 62 = .ok (.sipush 1500, 3) := by decide +kernel
theorem dX10_send_65 : decode cX10_send 65 = .ok (.invokevirtual 235, 3) := by decide +kernel
theorem dX10_send_68 : decode cX10_send 68 = .ok (.aload_n 0, 1) := by decide +kernel
theorem dX10_send_69 : decode cX10_send 69 = .ok (.sipush 8802, 3) := by decide +kernel
theorem dX10_send_72 : decode cX10_send 72 = .ok (.sipush 1500, 3) := by decide +kernel
theorem dX10_send_75 : decode cX10_send 75 = .ok (.invokevirtual 144, 3) := by decide +kernel
theorem dX10_send_78 : decode cX10_send 78 = .ok (.aload_n 0, 1) := by decide +kernel
theorem dX10_send_79 : decode cX10_send 79 = .ok (.sipush 8800, 3) := by decide +kernel
theorem dX10_send_82 : decode cX10_send 82 = .ok (.iconst 1, 1) := by decide +kernel
theorem dX10_send_83 : decode cX10_send 83 = .ok (.iload 5, 2) := by decide +kernel
theorem dX10_send_85 : decode cX10_send 85 = .ok (.invokevirtual 239, 3) := by decide +kernel
theorem dX10_send_88 : decode cX10_send 88 = .ok (.aload_n 0, 1) := by decide +kernel
theorem dX10_send_89 : decode cX10_send 89 = .ok (.sipush 8800, 3) := by decide +kernel
theorem dX10_send_92 : decode cX10_send 92 = .ok (.invokevirtual 184, 3) := by decide +kernel
theorem dX10_send_95 : decode cX10_send 95 = .ok (.aload_n 0, 1) := by decide +kernel
theorem dX10_send_96 : decode cX10_send 96 = .ok (.getfield 89, 3) := by decide +kernel
theorem dX10_send_99 : decode cX10_send 99 = .ok (.iconst 0, 1) := by decide +kernel
theorem dX10_send_100 : decode cX10_send 100 = .ok (.sipush 1500, 3) := by decide +kernel
theorem dX10_send_103 : decode cX10_send 103 = .ok (.iastore, 1) := by decide +kernel
theorem dX10_send_104 : decode cX10_send 104 = .ok (.sipush 11000, 3) := by decide +kernel
theorem dX10_send_107 : decode cX10_send 107 = .ok (.istore 6, 2) := by decide +kernel
theorem dX10_send_109 : decode cX10_send 109 = .ok (.aload_n 0, 1) := by decide +kernel
theorem dX10_send_110 : decode cX10_send 110 = .ok (.iload_n 1, 1) := by decide +kernel
theorem dX10_send_111 : decode cX10_send 111 = .ok (.iload 6, 2) := by decide +kernel
theorem dX10_send_113 : decode cX10_send 113 = .ok (.bipush 20, 2) := by decide +kernel
theorem dX10_send_115 : decode cX10_send 115 = .ok (.invokevirtual 235, 3) := by decide +kernel
theorem dX10_send_118 : decode cX10_send 118 = .ok (.aload_n 0, 1) := by decide +kernel
theorem dX10_send_119 : decode cX10_send 119 = .ok (.iload_n 1, 1) := by decide +kernel
theorem dX10_send_120 : decode cX10_send 120 = .ok (.sipush 1500, 3) := by decide +kernel
theorem dX10_send_123 : decode cX10_send 123 = .ok (.iadd, 1) := by decide +kernel
theorem dX10_send_124 : decode cX10_send 124 = .ok (.iload 6, 2) := by decide +kernel
theorem dX10_send_126 : decode cX10_send 126 = .ok (.bipush 20, 2) := by decide +kernel
theorem dX10_send_128 : decode cX10_send 128 = .ok (.iadd, 1) := by decide +kernel
theorem dX10_send_129 : decode cX10_send 129 = .ok (.iload_n 3, 1) := by decide +kernel
theorem dX10_send_130 : decode cX10_send 130 = .ok (.sipush 1500, 3) := by decide +kernel
theorem dX10_send_133 : decode cX10_send 133 = .ok (.isub, 1) := by decide +kernel
theorem dX10_send_134 : decode cX10_send 134 = .ok (.invokevirtual 235, 3) := by decide +kernel
theorem dX10_send_137 : decode cX10_send 137 = .ok (.aload_n 0, 1) := by decide +kernel
theorem dX10_send_138 : decode cX10_send 138 = .ok (.iload 6, 2) := by decide +kernel
theorem dX10_send_140 : decode cX10_send 140 = .ok (.iconst 2, 1) := by decide +kernel
theorem dX10_send_141 : decode cX10_send 141 = .ok (.iadd, 1) := by decide +kernel
theorem dX10_send_142 : decode cX10_send 142 = .ok (.iload_n 3, 1) := by decide +kernel
theorem dX10_send_143 : decode cX10_send 143 = .ok (.sipush 1480, 3) := by decide +kernel
theorem dX10_send_146 : decode cX10_send 146 = .ok (.isub, 1) := by decide +kernel
theorem dX10_send_147 : decode cX10_send 147 = .ok (.invokevirtual 144, 3) := by decide +kernel
theorem dX10_send_150 : decode cX10_send 150 = .ok (.aload_n 0, 1) := by decide +kernel
theorem dX10_send_151 : decode cX10_send 151 = .ok (.iload 6, 2) := by decide +kernel
theorem dX10_send_153 : decode cX10_send 153 = .ok (.iload 4, 2) := by decide +kernel
theorem dX10_send_155 : decode cX10_send 155 = .ok (.iload 5, 2) := by decide +kernel
theorem dX10_send_157 : decode cX10_send 157 = .ok (.sipush 185, 3) := by decide +kernel
theorem dX10_send_160 : decode cX10_send 160 = .ok (.iadd, 1) := by decide +kernel
theorem dX10_send_161 : decode cX10_send 161 = .ok (.invokevirtual 239, 3) := by decide +kernel
theorem dX10_send_164 : decode cX10_send 164 = .ok (.aload_n 0, 1) := by decide +kernel
theorem dX10_send_165 : decode cX10_send 165 = .ok (.iload 6, 2) := by decide +kernel
theorem dX10_send_167 : decode cX10_send 167 = .ok (.invokevirtual 184, 3) := by decide +kernel
theorem dX10_send_170 : decode cX10_send 170 = .ok (.aload_n 0, 1) := by decide +kernel
theorem dX10_send_171 : decode cX10_send 171 = .ok (.getfield 89, 3) := by decide +kernel
theorem dX10_send_174 : decode cX10_send 174 = .ok (.iconst 1, 1) := by decide +kernel
theorem dX10_send_175 : decode cX10_send 175 = .ok (.iload_n 3, 1) := by decide +kernel
theorem dX10_send_176 : decode cX10_send 176 = .ok (.sipush 1480, 3) := by decide +kernel
theorem dX10_send_179 : decode cX10_send 179 = .ok (.isub, 1) := by decide +kernel
theorem dX10_send_180 : decode cX10_send 180 = .ok (.iastore, 1) := by decide +kernel
theorem dX10_send_181 : decode cX10_send 181 = .ok (.iconst 0, 1) := by decide +kernel
theorem dX10_send_182 : decode cX10_send 182 = .ok (.ireturn, 1) := by decide +kernel
theorem dX10_sent_0 : decode cX10_sent 0 = .ok (.aload_n 0, 1) := by decide +kernel
theorem dX10_sent_1 : decode cX10_sent 1 = .ok (.iconst 0, 1) := by decide +kernel
theorem dX10_sent_2 : decode cX10_sent 2 = .ok (.putfield 137, 3) := by decide +kernel
theorem dX10_sent_5 : decode cX10_sent 5 = .ok (.aload_n 0, 1) := by decide +kernel
theorem dX10_sent_6 : decode cX10_sent 6 = .ok (.iload_n 1, 1) := by decide +kernel
theorem dX10_sent_7 : decode cX10_sent 7 = .ok (.iconst 0, 1) := by decide +kernel
theorem dX10_sent_8 : decode cX10_sent 8 = .ok (.iconst 1, 1) := by decide +kernel
theorem dX10_sent_9 : decode cX10_sent 9 = .ok (.invokestatic 179, 3) := by decide +kernel
theorem dX10_sent_12 : decode cX10_sent 12 = .ok (.ifCond .ne 7, 3) := by decide +kernel
theorem dX10_sent_15 : decode cX10_sent 15 = .ok (.iconst 1, 1) := by decide +kernel
theorem dX10_sent_16 : decode cX10_sent 16 = .ok (.goto 4, 3) := by decide +kernel
theorem dX10_sent_19 : decode cX10_sent 19 = .ok (.iconst 0, 1) := by decide +kernel
theorem dX10_sent_20 : decode cX10_sent 20 = .ok (.iconst 1, 1) := by decide +kernel
theorem dX10_sent_21 : decode cX10_sent 21 = .ok (.invokevirtual 171, 3) := by decide +kernel
theorem dX10_sent_24 : decode cX10_sent 24 = .ok (.ifCond .eq 5, 3) := by decide +kernel
theorem dX10_sent_27 : decode cX10_sent 27 = .ok (.iconst 0, 1) := by decide +kernel
theorem dX10_sent_28 : decode cX10_sent 28 = .ok (.ireturn, 1) := by decide +kernel
theorem dX10_sent_29 : decode cX10_sent 29 = .ok (.aload_n 0, 1) := by decide +kernel
theorem dX10_sent_30 : decode cX10_sent 30 = .ok (.getfield 89, 3) := by decide +kernel
theorem dX10_sent_33 : decode cX10_sent 33 = .ok (.iload_n 1, 1) := by decide +kernel
theorem dX10_sent_34 : decode cX10_sent 34 = .ok (.iaload, 1) := by decide +kernel
theorem dX10_sent_35 : decode cX10_sent 35 = .ok (.istore_n 3, 1) := by decide +kernel
theorem dX10_sent_36 : decode cX10_sent 36 = .ok (.iload_n 2, 1) := by decide +kernel
theorem dX10_sent_37 : decode cX10_sent 37 = .ok (.iconst (-1), 1) := by decide +kernel
theorem dX10_sent_38 : decode cX10_sent 38 = .ok (.if_icmp .ne 5, 3) := by decide +kernel
theorem dX10_sent_41 : decode cX10_sent 41 = .ok (.iload_n 3, 1) := by decide +kernel
theorem dX10_sent_42 : decode cX10_sent 42 = .ok (.ireturn, 1) := by decide +kernel
theorem dX10_sent_43 : decode cX10_sent 43 = .ok (.iload_n 2, 1) := by decide +kernel
theorem dX10_sent_44 : decode cX10_sent 44 = .ok (.bipush (-2), 2) := by decide +kernel
theorem dX10_sent_46 : decode cX10_sent 46 = .ok (.if_icmp .ne 16, 3) := by decide +kernel
theorem dX10_sent_49 : decode cX10_sent 49 = .ok (.iload_n 3, 1) := by decide +kernel
theorem dX10_sent_50 : decode cX10_sent 50 = .ok (.ifCond .ne 7, 3) := by decide +kernel
theorem dX10_sent_53 : decode cX10_sent 53 = .ok (.iconst (-1), 1) := by decide +kernel
theorem dX10_sent_54 : decode cX10_sent 54 = .ok (.goto 7, 3) := by decide +kernel
theorem dX10_sent_57 : decode cX10_sent 57 = .ok (.aload_n 0, 1) := by decide +kernel
theorem dX10_sent_58 : decode cX10_sent 58 = .ok (.getfield 92, 3) := by decide +kernel
theorem dX10_sent_61 : decode cX10_sent 61 = .ok (.ireturn, 1) := by decide +kernel
theorem dX10_sent_62 : decode cX10_sent 62 = .ok (.aload_n 0, 1) := by decide +kernel
theorem dX10_sent_63 : decode cX10_sent 63 = .ok (.iload_n 2, 1) := by decide +kernel
theorem dX10_sent_64 : decode cX10_sent 64 = .ok (.iconst 0, 1) := by decide +kernel
theorem dX10_sent_65 : decode cX10_sent 65 = .ok (.iload_n 3, 1) := by decide +kernel
theorem dX10_sent_66 : decode cX10_sent 66 = .ok (.iconst 1, 1) := by decide +kernel
theorem dX10_sent_67 : decode cX10_sent 67 = .ok (.isub, 1) := by decide +kernel
theorem dX10_sent_68 : decode cX10_sent 68 = .ok (.invokestatic 179, 3) := by decide +kernel
theorem dX10_sent_71 : decode cX10_sent 71 = .ok (.ifCond .ne 7, 3) := by decide +kernel
theorem dX10_sent_74 : decode cX10_sent 74 = .ok (.iconst 1, 1) := by decide +kernel
theorem dX10_sent_75 : decode cX10_sent 75 = .ok (.goto 4, 3) := by decide +kernel
theorem dX10_sent_78 : decode cX10_sent 78 = .ok (.iconst 0, 1) := by decide +kernel
theorem dX10_sent_79 : decode cX10_sent 79 = .ok (.iconst 1, 1) := by decide +kernel
theorem dX10_sent_80 : decode cX10_sent 80 = .ok (.invokevirtual 171, 3) := by decide +kernel
theorem dX10_sent_83 : decode cX10_sent 83 = .ok (.ifCond .eq 7, 3) := by decide +kernel
theorem dX10_sent_86 : decode cX10_sent 86 = .ok (.iconst 0, 1) := by decide +kernel
theorem dX10_sent_87 : decode cX10_sent 87 = .ok (.goto 19, 3) := by decide +kernel
theorem dX10_sent_90 : decode cX10_sent 90 = .ok (.aload_n 0, 1) := by decide +kernel
theorem dX10_sent_91 : decode cX10_sent 91 = .ok (.getfield 7, 3) := by decide +kernel
theorem dX10_sent_94 : decode cX10_sent 94 = .ok (.sipush 8800, 3) := by decide +kernel
theorem dX10_sent_97 : decode cX10_sent 97 = .ok (.sipush 2200, 3) := by decide +kernel
theorem dX10_sent_100 : decode cX10_sent 100 = .ok (.iload_n 1, 1) := by decide +kernel
theorem dX10_sent_101 : decode cX10_sent 101 = .ok (.imul, 1) := by decide +kernel
theorem dX10_sent_102 : decode cX10_sent 102 = .ok (.iadd, 1) := by decide +kernel
theorem dX10_sent_103 : decode cX10_sent 103 = .ok (.iload_n 2, 1) := by decide +kernel
theorem dX10_sent_104 : decode cX10_sent 104 = .ok (.iadd, 1) := by decide +kernel
theorem dX10_sent_105 : decode cX10_sent 105 = .ok (.iaload, 1) := by decide +kernel
theorem dX10_sent_106 : decode cX10_sent 106 = .ok (.ireturn, 1) := by decide +kernel
theorem dX10_setOffset_0 : decode cX10_setOffset 0 = .ok (.aload_n 0, 1) := by decide +kernel
theorem dX10_setOffset_1 : decode cX10_setOffset 1 = .ok (.getfield 7, 3) := by decide +kernel
theorem dX10_setOffset_4 : decode cX10_setOffset 4 = .ok (.iload_n 1, 1) := by decide +kernel
theorem dX10_setOffset_5 : decode cX10_setOffset 5 = .ok (.bipush 6, 2) := by decide +kernel
theorem dX10_setOffset_7 : decode cX10_setOffset 7 = .ok (.iadd, 1) := by decide +kernel
theorem dX10_setOffset_8 : decode cX10_setOffset 8 = .ok (.iaload, 1) := by decide +kernel
theorem dX10_setOffset_9 : decode cX10_setOffset 9 = .ok (.sipush 192, 3) := by decide +kernel
theorem dX10_setOffset_12 : decode cX10_setOffset 12 = .ok (.iand, 1) := by decide +kernel
theorem dX10_setOffset_13 : decode cX10_setOffset 13 = .ok (.iload_n 2, 1) := by decide +kernel
theorem dX10_setOffset_14 : decode cX10_setOffset 14 = .ok (.ifCond .eq 8, 3) := by decide +kernel
theorem dX10_setOffset_17 : decode cX10_setOffset 17 = .ok (.bipush 32, 2) := by decide +kernel
theorem dX10_setOffset_19 : decode cX10_setOffset 19 = .ok (.goto 4, 3) := by decide +kernel
theorem dX10_setOffset_22 : decode cX10_setOffset 22 = .ok (.iconst 0, 1) := by decide +kernel
theorem dX10_setOffset_23 : decode cX10_setOffset 23 = .ok (.ior, 1) := by decide +kernel
theorem dX10_setOffset_24 : decode cX10_setOffset 24 = .ok (.istore 4, 2) := by decide +kernel
theorem dX10_setOffset_26 : decode cX10_setOffset 26 = .ok (.aload_n 0, 1) := by decide +kernel
theorem dX10_setOffset_27 : decode cX10_setOffset 27 = .ok (.iload_n 1, 1) := by decide +kernel
theorem dX10_setOffset_28 : decode cX10_setOffset 28 = .ok (.bipush 6, 2) := by decide +kernel
theorem dX10_setOffset_30 : decode cX10_setOffset 30 = .ok (.iadd, 1) := by decide +kernel
theorem dX10_setOffset_31 : decode cX10_setOffset 31 = .ok (.iload 4, 2) := by decide +kernel
theorem dX10_setOffset_33 : decode cX10_setOffset 33 = .ok (.bipush 8, 2) := by decide +kernel
theorem dX10_setOffset_35 : decode cX10_setOffset 35 = .ok (.ishl, 1) := by decide +kernel
theorem dX10_setOffset_36 : decode cX10_setOffset 36 = .ok (.iload_n 3, 1) := by decide +kernel
theorem dX10_setOffset_37 : decode cX10_setOffset 37 = .ok (.sipush 8191, 3) := by decide +kernel
theorem dX10_setOffset_40 : decode cX10_setOffset 40 = .ok (.iand, 1) := by decide +kernel
theorem dX10_setOffset_41 : decode cX10_setOffset 41 = .ok (.ior, 1) := by decide +kernel
theorem dX10_setOffset_42 : decode cX10_setOffset 42 = .ok (.invokevirtual 144, 3) := by decide +kernel
theorem dX10_setOffset_45 : decode cX10_setOffset 45 = .ok (.return_, 1) := by decide +kernel
theorem dX10_setSum_0 : decode cX10_setSum 0 = .ok (.aload_n 0, 1) := by decide +kernel
theorem dX10_setSum_1 : decode cX10_setSum 1 = .ok (.iload_n 1, 1) := by decide +kernel
theorem dX10_setSum_2 : decode cX10_setSum 2 = .ok (.bipush 10, 2) := by decide +kernel
theorem dX10_setSum_4 : decode cX10_setSum 4 = .ok (.iadd, 1) := by decide +kernel
theorem dX10_setSum_5 : decode cX10_setSum 5 = .ok (.ldc 52, 2) := by decide +kernel
theorem dX10_setSum_7 : decode cX10_setSum 7 = .ok (.aload_n 0, 1) := by decide +kernel
theorem dX10_setSum_8 : decode cX10_setSum 8 = .ok (.iload_n 1, 1) := by decide +kernel
theorem dX10_setSum_9 : decode cX10_setSum 9 = .ok (.iconst 0, 1) := by decide +kernel
theorem dX10_setSum_10 : decode cX10_setSum 10 = .ok (.invokevirtual 151, 3) := by decide +kernel
theorem dX10_setSum_13 : decode cX10_setSum 13 = .ok (.isub, 1) := by decide +kernel
theorem dX10_setSum_14 : decode cX10_setSum 14 = .ok (.invokevirtual 144, 3) := by decide +kernel
theorem dX10_setSum_17 : decode cX10_setSum 17 = .ok (.return_, 1) := by decide +kernel
theorem dX10_stampOf_0 : decode cX10_stampOf 0 = .ok (.aload_n 0, 1) := by decide +kernel
theorem dX10_stampOf_1 : decode cX10_stampOf 1 = .ok (.getfield 70, 3) := by decide +kernel
theorem dX10_stampOf_4 : decode cX10_stampOf 4 = .ok (.iload_n 3, 1) := by decide +kernel
theorem dX10_stampOf_5 : decode cX10_stampOf 5 = .ok (.laload, 1) := by decide +kernel
theorem dX10_stampOf_6 : decode cX10_stampOf 6 = .ok (.lstore 6, 2) := by decide +kernel
theorem dX10_stampOf_8 : decode cX10_stampOf 8 = .ok (.iconst 0, 1) := by decide +kernel
theorem dX10_stampOf_9 : decode cX10_stampOf 9 = .ok (.istore 8, 2) := by decide +kernel
theorem dX10_stampOf_11 : decode cX10_stampOf 11 = .ok (.iload 8, 2) := by decide +kernel
theorem dX10_stampOf_13 : decode cX10_stampOf 13 = .ok (.iload_n 2, 1) := by decide +kernel
theorem dX10_stampOf_14 : decode cX10_stampOf 14 = .ok (.if_icmp .ge 28, 3) := by decide +kernel
theorem dX10_stampOf_17 : decode cX10_stampOf 17 = .ok (.lload 6, 2) := by decide +kernel
theorem dX10_stampOf_19 : decode cX10_stampOf 19 = .ok (.aload_n 0, 1) := by decide +kernel
theorem dX10_stampOf_20 : decode cX10_stampOf 20 = .ok (.getfield 7, 3) := by decide +kernel
theorem dX10_stampOf_23 : decode cX10_stampOf 23 = .ok (.iload_n 1, 1) := by decide +kernel
theorem dX10_stampOf_24 : decode cX10_stampOf 24 = .ok (.iload 8, 2) := by decide +kernel
theorem dX10_stampOf_26 : decode cX10_stampOf 26 = .ok (.iadd, 1) := by decide +kernel
theorem dX10_stampOf_27 : decode cX10_stampOf 27 = .ok (.iaload, 1) := by decide +kernel
theorem dX10_stampOf_28 : decode cX10_stampOf 28 = .ok (.i2l, 1) := by decide +kernel
theorem dX10_stampOf_29 : decode cX10_stampOf 29 = .ok (.lxor, 1) := by decide +kernel
theorem dX10_stampOf_30 : decode cX10_stampOf 30 = .ok (.ldc2_w 252, 3) := by decide +kernel
theorem dX10_stampOf_33 : decode cX10_stampOf 33 = .ok (.lmul, 1) := by decide +kernel
theorem dX10_stampOf_34 : decode cX10_stampOf 34 = .ok (.lstore 6, 2) := by decide +kernel
theorem dX10_stampOf_36 : decode cX10_stampOf 36 = .ok (.iinc 8 1, 3) := by decide +kernel
theorem dX10_stampOf_39 : decode cX10_stampOf 39 = .ok (.goto (-28), 3) := by decide +kernel
theorem dX10_stampOf_42 : decode cX10_stampOf 42 = .ok (.bipush 56, 2) := by decide +kernel
theorem dX10_stampOf_44 : decode cX10_stampOf 44 = .ok (.istore 8, 2) := by decide +kernel
theorem dX10_stampOf_46 : decode cX10_stampOf 46 = .ok (.iload 8, 2) := by decide +kernel
theorem dX10_stampOf_48 : decode cX10_stampOf 48 = .ok (.bipush 32, 2) := by decide +kernel
theorem dX10_stampOf_50 : decode cX10_stampOf 50 = .ok (.if_icmp .lt 36, 3) := by decide +kernel
theorem dX10_stampOf_53 : decode cX10_stampOf 53 = .ok (.aload_n 0, 1) := by decide +kernel
theorem dX10_stampOf_54 : decode cX10_stampOf 54 = .ok (.getfield 73, 3) := by decide +kernel
theorem dX10_stampOf_57 : decode cX10_stampOf 57 = .ok (.iload_n 3, 1) := by decide +kernel
theorem dX10_stampOf_58 : decode cX10_stampOf 58 = .ok (.baload, 1) := by decide +kernel
theorem dX10_stampOf_59 : decode cX10_stampOf 59 = .ok (.ifCond .eq 27, 3) := by decide +kernel
theorem dX10_stampOf_62 : decode cX10_stampOf 62 = .ok (.lload 6, 2) := by decide +kernel
theorem dX10_stampOf_64 : decode cX10_stampOf 64 = .ok (.lload 4, 2) := by decide +kernel
theorem dX10_stampOf_66 : decode cX10_stampOf 66 = .ok (.iload 8, 2) := by decide +kernel
theorem dX10_stampOf_68 : decode cX10_stampOf 68 = .ok (.lushr, 1) := by decide +kernel
theorem dX10_stampOf_69 : decode cX10_stampOf 69 = .ok (.ldc2_w 254, 3) := by decide +kernel
theorem dX10_stampOf_72 : decode cX10_stampOf 72 = .ok (.land, 1) := by decide +kernel
theorem dX10_stampOf_73 : decode cX10_stampOf 73 = .ok (.lxor, 1) := by decide +kernel
theorem dX10_stampOf_74 : decode cX10_stampOf 74 = .ok (.ldc2_w 252, 3) := by decide +kernel
theorem dX10_stampOf_77 : decode cX10_stampOf 77 = .ok (.lmul, 1) := by decide +kernel
theorem dX10_stampOf_78 : decode cX10_stampOf 78 = .ok (.lstore 6, 2) := by decide +kernel
theorem dX10_stampOf_80 : decode cX10_stampOf 80 = .ok (.iinc 8 (-8), 3) := by decide +kernel
theorem dX10_stampOf_83 : decode cX10_stampOf 83 = .ok (.goto (-37), 3) := by decide +kernel
theorem dX10_stampOf_86 : decode cX10_stampOf 86 = .ok (.lload 6, 2) := by decide +kernel
theorem dX10_stampOf_88 : decode cX10_stampOf 88 = .ok (.lload 6, 2) := by decide +kernel
theorem dX10_stampOf_90 : decode cX10_stampOf 90 = .ok (.bipush 32, 2) := by decide +kernel
theorem dX10_stampOf_92 : decode cX10_stampOf 92 = .ok (.lushr, 1) := by decide +kernel
theorem dX10_stampOf_93 : decode cX10_stampOf 93 = .ok (.lxor, 1) := by decide +kernel
theorem dX10_stampOf_94 : decode cX10_stampOf 94 = .ok (.lreturn, 1) := by decide +kernel
theorem dX10_stop_0 : decode cX10_stop 0 = .ok (.aload_n 0, 1) := by decide +kernel
theorem dX10_stop_1 : decode cX10_stop 1 = .ok (.iconst 0, 1) := by decide +kernel
theorem dX10_stop_2 : decode cX10_stop 2 = .ok (.putfield 137, 3) := by decide +kernel
theorem dX10_stop_5 : decode cX10_stop 5 = .ok (.aload_n 0, 1) := by decide +kernel
theorem dX10_stop_6 : decode cX10_stop 6 = .ok (.iload_n 1, 1) := by decide +kernel
theorem dX10_stop_7 : decode cX10_stop 7 = .ok (.iconst 0, 1) := by decide +kernel
theorem dX10_stop_8 : decode cX10_stop 8 = .ok (.aload_n 0, 1) := by decide +kernel
theorem dX10_stop_9 : decode cX10_stop 9 = .ok (.getfield 200, 3) := by decide +kernel
theorem dX10_stop_12 : decode cX10_stop 12 = .ok (.iconst 1, 1) := by decide +kernel
theorem dX10_stop_13 : decode cX10_stop 13 = .ok (.isub, 1) := by decide +kernel
theorem dX10_stop_14 : decode cX10_stop 14 = .ok (.invokestatic 179, 3) := by decide +kernel
theorem dX10_stop_17 : decode cX10_stop 17 = .ok (.ifCond .ne 7, 3) := by decide +kernel
theorem dX10_stop_20 : decode cX10_stop 20 = .ok (.iconst 1, 1) := by decide +kernel
theorem dX10_stop_21 : decode cX10_stop 21 = .ok (.goto 4, 3) := by decide +kernel
theorem dX10_stop_24 : decode cX10_stop 24 = .ok (.iconst 0, 1) := by decide +kernel
theorem dX10_stop_25 : decode cX10_stop 25 = .ok (.iconst 1, 1) := by decide +kernel
theorem dX10_stop_26 : decode cX10_stop 26 = .ok (.invokevirtual 171, 3) := by decide +kernel
theorem dX10_stop_29 : decode cX10_stop 29 = .ok (.ifCond .eq 5, 3) := by decide +kernel
theorem dX10_stop_32 : decode cX10_stop 32 = .ok (.iconst 0, 1) := by decide +kernel
theorem dX10_stop_33 : decode cX10_stop 33 = .ok (.ireturn, 1) := by decide +kernel
theorem dX10_stop_34 : decode cX10_stop 34 = .ok (.aload_n 0, 1) := by decide +kernel
theorem dX10_stop_35 : decode cX10_stop 35 = .ok (.iload_n 1, 1) := by decide +kernel
theorem dX10_stop_36 : decode cX10_stop 36 = .ok (.invokevirtual 207, 3) := by decide +kernel
theorem dX10_stop_39 : decode cX10_stop 39 = .ok (.ifCond .ne 7, 3) := by decide +kernel
theorem dX10_stop_42 : decode cX10_stop 42 = .ok (.iconst 1, 1) := by decide +kernel
theorem dX10_stop_43 : decode cX10_stop 43 = .ok (.goto 4, 3) := by decide +kernel
theorem dX10_stop_46 : decode cX10_stop 46 = .ok (.iconst 0, 1) := by decide +kernel
theorem dX10_stop_47 : decode cX10_stop 47 = .ok (.istore_n 2, 1) := by decide +kernel
theorem dX10_stop_48 : decode cX10_stop 48 = .ok (.aload_n 0, 1) := by decide +kernel
theorem dX10_stop_49 : decode cX10_stop 49 = .ok (.getfield 80, 3) := by decide +kernel
theorem dX10_stop_52 : decode cX10_stop 52 = .ok (.iload_n 1, 1) := by decide +kernel
theorem dX10_stop_53 : decode cX10_stop 53 = .ok (.iconst 1, 1) := by decide +kernel
theorem dX10_stop_54 : decode cX10_stop 54 = .ok (.bastore, 1) := by decide +kernel
theorem dX10_stop_55 : decode cX10_stop 55 = .ok (.iload_n 2, 1) := by decide +kernel
theorem dX10_stop_56 : decode cX10_stop 56 = .ok (.ireturn, 1) := by decide +kernel
theorem dX10_stream_0 : decode cX10_stream 0 = .ok (.aload_n 0, 1) := by decide +kernel
theorem dX10_stream_1 : decode cX10_stream 1 = .ok (.getfield 66, 3) := by decide +kernel
theorem dX10_stream_4 : decode cX10_stream 4 = .ok (.iload_n 3, 1) := by decide +kernel
theorem dX10_stream_5 : decode cX10_stream 5 = .ok (.laload, 1) := by decide +kernel
theorem dX10_stream_6 : decode cX10_stream 6 = .ok (.lload 4, 2) := by decide +kernel
theorem dX10_stream_8 : decode cX10_stream 8 = .ok (.ldc2_w 246, 3) := by decide +kernel
theorem dX10_stream_11 : decode cX10_stream 11 = .ok (.lmul, 1) := by decide +kernel
theorem dX10_stream_12 : decode cX10_stream 12 = .ok (.lxor, 1) := by decide +kernel
theorem dX10_stream_13 : decode cX10_stream 13 = .ok (.lstore 6, 2) := by decide +kernel
theorem dX10_stream_15 : decode cX10_stream 15 = .ok (.iconst 0, 1) := by decide +kernel
theorem dX10_stream_16 : decode cX10_stream 16 = .ok (.istore 8, 2) := by decide +kernel
theorem dX10_stream_18 : decode cX10_stream 18 = .ok (.iload 8, 2) := by decide +kernel
theorem dX10_stream_20 : decode cX10_stream 20 = .ok (.iload_n 2, 1) := by decide +kernel
theorem dX10_stream_21 : decode cX10_stream 21 = .ok (.if_icmp .ge 46, 3) := by decide +kernel
theorem dX10_stream_24 : decode cX10_stream 24 = .ok (.lload 6, 2) := by decide +kernel
theorem dX10_stream_26 : decode cX10_stream 26 = .ok (.ldc2_w 248, 3) := by decide +kernel
theorem dX10_stream_29 : decode cX10_stream 29 = .ok (.lmul, 1) := by decide +kernel
theorem dX10_stream_30 : decode cX10_stream 30 = .ok (.ldc2_w 250, 3) := by decide +kernel
theorem dX10_stream_33 : decode cX10_stream 33 = .ok (.ladd, 1) := by decide +kernel
theorem dX10_stream_34 : decode cX10_stream 34 = .ok (.lstore 6, 2) := by decide +kernel
theorem dX10_stream_36 : decode cX10_stream 36 = .ok (.aload_n 0, 1) := by decide +kernel
theorem dX10_stream_37 : decode cX10_stream 37 = .ok (.getfield 7, 3) := by decide +kernel
theorem dX10_stream_40 : decode cX10_stream 40 = .ok (.iload_n 1, 1) := by decide +kernel
theorem dX10_stream_41 : decode cX10_stream 41 = .ok (.iload 8, 2) := by decide +kernel
theorem dX10_stream_43 : decode cX10_stream 43 = .ok (.iadd, 1) := by decide +kernel
theorem dX10_stream_44 : decode cX10_stream 44 = .ok (.aload_n 0, 1) := by decide +kernel
theorem dX10_stream_45 : decode cX10_stream 45 = .ok (.getfield 7, 3) := by decide +kernel
theorem dX10_stream_48 : decode cX10_stream 48 = .ok (.iload_n 1, 1) := by decide +kernel
theorem dX10_stream_49 : decode cX10_stream 49 = .ok (.iload 8, 2) := by decide +kernel
theorem dX10_stream_51 : decode cX10_stream 51 = .ok (.iadd, 1) := by decide +kernel
theorem dX10_stream_52 : decode cX10_stream 52 = .ok (.iaload, 1) := by decide +kernel
theorem dX10_stream_53 : decode cX10_stream 53 = .ok (.lload 6, 2) := by decide +kernel
theorem dX10_stream_55 : decode cX10_stream 55 = .ok (.bipush 56, 2) := by decide +kernel
theorem dX10_stream_57 : decode cX10_stream 57 = .ok (.lushr, 1) := by decide +kernel
theorem dX10_stream_58 : decode cX10_stream 58 = .ok (.l2i, 1) := by decide +kernel
theorem dX10_stream_59 : decode cX10_stream 59 = .ok (.ixor, 1) := by decide +kernel
theorem dX10_stream_60 : decode cX10_stream 60 = .ok (.iastore, 1) := by decide +kernel
theorem dX10_stream_61 : decode cX10_stream 61 = .ok (.iinc 8 1, 3) := by decide +kernel
theorem dX10_stream_64 : decode cX10_stream 64 = .ok (.goto (-46), 3) := by decide +kernel
theorem dX10_stream_67 : decode cX10_stream 67 = .ok (.return_, 1) := by decide +kernel
theorem dX10_sum_0 : decode cX10_sum 0 = .ok (.aload_n 0, 1) := by decide +kernel
theorem dX10_sum_1 : decode cX10_sum 1 = .ok (.iconst 0, 1) := by decide +kernel
theorem dX10_sum_2 : decode cX10_sum 2 = .ok (.putfield 137, 3) := by decide +kernel
theorem dX10_sum_5 : decode cX10_sum 5 = .ok (.aload_n 0, 1) := by decide +kernel
theorem dX10_sum_6 : decode cX10_sum 6 = .ok (.aload_n 0, 1) := by decide +kernel
theorem dX10_sum_7 : decode cX10_sum 7 = .ok (.getfield 168, 3) := by decide +kernel
theorem dX10_sum_10 : decode cX10_sum 10 = .ok (.bipush 20, 2) := by decide +kernel
theorem dX10_sum_12 : decode cX10_sum 12 = .ok (.if_icmp .ge 7, 3) := by decide +kernel
theorem dX10_sum_15 : decode cX10_sum 15 = .ok (.iconst 1, 1) := by decide +kernel
theorem dX10_sum_16 : decode cX10_sum 16 = .ok (.goto 4, 3) := by decide +kernel
theorem dX10_sum_19 : decode cX10_sum 19 = .ok (.iconst 0, 1) := by decide +kernel
theorem dX10_sum_20 : decode cX10_sum 20 = .ok (.iconst 1, 1) := by decide +kernel
theorem dX10_sum_21 : decode cX10_sum 21 = .ok (.invokevirtual 171, 3) := by decide +kernel
theorem dX10_sum_24 : decode cX10_sum 24 = .ok (.ifCond .eq 5, 3) := by decide +kernel
theorem dX10_sum_27 : decode cX10_sum 27 = .ok (.iconst 0, 1) := by decide +kernel
theorem dX10_sum_28 : decode cX10_sum 28 = .ok (.ireturn, 1) := by decide +kernel
theorem dX10_sum_29 : decode cX10_sum 29 = .ok (.aload_n 0, 1) := by decide +kernel
theorem dX10_sum_30 : decode cX10_sum 30 = .ok (.iconst 0, 1) := by decide +kernel
theorem dX10_sum_31 : decode cX10_sum 31 = .ok (.invokevirtual 184, 3) := by decide +kernel
theorem dX10_sum_34 : decode cX10_sum 34 = .ok (.aload_n 0, 1) := by decide +kernel
theorem dX10_sum_35 : decode cX10_sum 35 = .ok (.bipush 10, 2) := by decide +kernel
theorem dX10_sum_37 : decode cX10_sum 37 = .ok (.invokevirtual 140, 3) := by decide +kernel
theorem dX10_sum_40 : decode cX10_sum 40 = .ok (.ireturn, 1) := by decide +kernel
theorem dX10_take_0 : decode cX10_take 0 = .ok (.aload_n 0, 1) := by decide +kernel
theorem dX10_take_1 : decode cX10_take 1 = .ok (.iconst 0, 1) := by decide +kernel
theorem dX10_take_2 : decode cX10_take 2 = .ok (.putfield 137, 3) := by decide +kernel
theorem dX10_take_5 : decode cX10_take 5 = .ok (.aload_n 0, 1) := by decide +kernel
theorem dX10_take_6 : decode cX10_take 6 = .ok (.iload_n 1, 1) := by decide +kernel
theorem dX10_take_7 : decode cX10_take 7 = .ok (.iconst 0, 1) := by decide +kernel
theorem dX10_take_8 : decode cX10_take 8 = .ok (.iconst 1, 1) := by decide +kernel
theorem dX10_take_9 : decode cX10_take 9 = .ok (.invokestatic 179, 3) := by decide +kernel
theorem dX10_take_12 : decode cX10_take 12 = .ok (.ifCond .ne 7, 3) := by decide +kernel
theorem dX10_take_15 : decode cX10_take 15 = .ok (.iconst 1, 1) := by decide +kernel
theorem dX10_take_16 : decode cX10_take 16 = .ok (.goto 4, 3) := by decide +kernel
theorem dX10_take_19 : decode cX10_take 19 = .ok (.iconst 0, 1) := by decide +kernel
theorem dX10_take_20 : decode cX10_take 20 = .ok (.iconst 1, 1) := by decide +kernel
theorem dX10_take_21 : decode cX10_take 21 = .ok (.invokevirtual 171, 3) := by decide +kernel
theorem dX10_take_24 : decode cX10_take 24 = .ok (.ifCond .ne 25, 3) := by decide +kernel
theorem dX10_take_27 : decode cX10_take 27 = .ok (.aload_n 0, 1) := by decide +kernel
theorem dX10_take_28 : decode cX10_take 28 = .ok (.aload_n 0, 1) := by decide +kernel
theorem dX10_take_29 : decode cX10_take 29 = .ok (.getfield 89, 3) := by decide +kernel
theorem dX10_take_32 : decode cX10_take 32 = .ok (.iload_n 1, 1) := by decide +kernel
theorem dX10_take_33 : decode cX10_take 33 = .ok (.iaload, 1) := by decide +kernel
theorem dX10_take_34 : decode cX10_take 34 = .ok (.ifCond .ne 7, 3) := by decide +kernel
theorem dX10_take_37 : decode cX10_take 37 = .ok (.iconst 1, 1) := by decide +kernel
theorem dX10_take_38 : decode cX10_take 38 = .ok (.goto 4, 3) := by decide +kernel
theorem dX10_take_41 : decode cX10_take 41 = .ok (.iconst 0, 1) := by decide +kernel
theorem dX10_take_42 : decode cX10_take 42 = .ok (.iconst 2, 1) := by decide +kernel
theorem dX10_take_43 : decode cX10_take 43 = .ok (.invokevirtual 171, 3) := by decide +kernel
theorem dX10_take_46 : decode cX10_take 46 = .ok (.ifCond .eq 5, 3) := by decide +kernel
theorem dX10_take_49 : decode cX10_take 49 = .ok (.iconst 0, 1) := by decide +kernel
theorem dX10_take_50 : decode cX10_take 50 = .ok (.ireturn, 1) := by decide +kernel
theorem dX10_take_51 : decode cX10_take 51 = .ok (.aload_n 0, 1) := by decide +kernel
theorem dX10_take_52 : decode cX10_take 52 = .ok (.aload_n 0, 1) := by decide +kernel
theorem dX10_take_53 : decode cX10_take 53 = .ok (.getfield 89, 3) := by decide +kernel
theorem dX10_take_56 : decode cX10_take 56 = .ok (.iload_n 1, 1) := by decide +kernel
theorem dX10_take_57 : decode cX10_take 57 = .ok (.iaload, 1) := by decide +kernel
theorem dX10_take_58 : decode cX10_take 58 = .ok (.putfield 168, 3) := by decide +kernel
theorem dX10_take_61 : decode cX10_take 61 = .ok (.aload_n 0, 1) := by decide +kernel
theorem dX10_take_62 : decode cX10_take 62 = .ok (.sipush 8800, 3) := by decide +kernel
theorem dX10_take_65 : decode cX10_take 65 = .ok (.sipush 2200, 3) := by decide +kernel
theorem dX10_take_68 : decode cX10_take 68 = .ok (.iload_n 1, 1) := by decide +kernel
theorem dX10_take_69 : decode cX10_take 69 = .ok (.imul, 1) := by decide +kernel
theorem dX10_take_70 : decode cX10_take 70 = .ok (.iadd, 1) := by decide +kernel
theorem dX10_take_71 : decode cX10_take 71 = .ok (.iconst 0, 1) := by decide +kernel
theorem dX10_take_72 : decode cX10_take 72 = .ok (.aload_n 0, 1) := by decide +kernel
theorem dX10_take_73 : decode cX10_take 73 = .ok (.getfield 168, 3) := by decide +kernel
theorem dX10_take_76 : decode cX10_take 76 = .ok (.invokevirtual 235, 3) := by decide +kernel
theorem dX10_take_79 : decode cX10_take 79 = .ok (.aload_n 0, 1) := by decide +kernel
theorem dX10_take_80 : decode cX10_take 80 = .ok (.getfield 168, 3) := by decide +kernel
theorem dX10_take_83 : decode cX10_take 83 = .ok (.ireturn, 1) := by decide +kernel
theorem dX10_tick_0 : decode cX10_tick 0 = .ok (.aload_n 0, 1) := by decide +kernel
theorem dX10_tick_1 : decode cX10_tick 1 = .ok (.iconst 0, 1) := by decide +kernel
theorem dX10_tick_2 : decode cX10_tick 2 = .ok (.putfield 137, 3) := by decide +kernel
theorem dX10_tick_5 : decode cX10_tick 5 = .ok (.iconst 0, 1) := by decide +kernel
theorem dX10_tick_6 : decode cX10_tick 6 = .ok (.istore_n 1, 1) := by decide +kernel
theorem dX10_tick_7 : decode cX10_tick 7 = .ok (.iconst 0, 1) := by decide +kernel
theorem dX10_tick_8 : decode cX10_tick 8 = .ok (.istore_n 2, 1) := by decide +kernel
theorem dX10_tick_9 : decode cX10_tick 9 = .ok (.iload_n 2, 1) := by decide +kernel
theorem dX10_tick_10 : decode cX10_tick 10 = .ok (.iconst 4, 1) := by decide +kernel
theorem dX10_tick_11 : decode cX10_tick 11 = .ok (.if_icmp .ge 49, 3) := by decide +kernel
theorem dX10_tick_14 : decode cX10_tick 14 = .ok (.aload_n 0, 1) := by decide +kernel
theorem dX10_tick_15 : decode cX10_tick 15 = .ok (.getfield 95, 3) := by decide +kernel
theorem dX10_tick_18 : decode cX10_tick 18 = .ok (.iload_n 2, 1) := by decide +kernel
theorem dX10_tick_19 : decode cX10_tick 19 = .ok (.baload, 1) := by decide +kernel
theorem dX10_tick_20 : decode cX10_tick 20 = .ok (.ifCond .eq 34, 3) := by decide +kernel
theorem dX10_tick_23 : decode cX10_tick 23 = .ok (.aload_n 0, 1) := by decide +kernel
theorem dX10_tick_24 : decode cX10_tick 24 = .ok (.getfield 110, 3) := by decide +kernel
theorem dX10_tick_27 : decode cX10_tick 27 = .ok (.iload_n 2, 1) := by decide +kernel
theorem dX10_tick_28 : decode cX10_tick 28 = .ok (.dup2, 1) := by decide +kernel
theorem dX10_tick_29 : decode cX10_tick 29 = .ok (.iaload, 1) := by decide +kernel
theorem dX10_tick_30 : decode cX10_tick 30 = .ok (.iconst 1, 1) := by decide +kernel
theorem dX10_tick_31 : decode cX10_tick 31 = .ok (.iadd, 1) := by decide +kernel
theorem dX10_tick_32 : decode cX10_tick 32 = .ok (.iastore, 1) := by decide +kernel
theorem dX10_tick_33 : decode cX10_tick 33 = .ok (.aload_n 0, 1) := by decide +kernel
theorem dX10_tick_34 : decode cX10_tick 34 = .ok (.getfield 110, 3) := by decide +kernel
theorem dX10_tick_37 : decode cX10_tick 37 = .ok (.iload_n 2, 1) := by decide +kernel
theorem dX10_tick_38 : decode cX10_tick 38 = .ok (.iaload, 1) := by decide +kernel
theorem dX10_tick_39 : decode cX10_tick 39 = .ok (.bipush 8, 2) := by decide +kernel
theorem dX10_tick_41 : decode cX10_tick 41 = .ok (.if_icmp .ne 13, 3) := by decide +kernel
theorem dX10_tick_44 : decode cX10_tick 44 = .ok (.aload_n 0, 1) := by decide +kernel
theorem dX10_tick_45 : decode cX10_tick 45 = .ok (.getfield 95, 3) := by decide +kernel
theorem dX10_tick_48 : decode cX10_tick 48 = .ok (.iload_n 2, 1) := by decide +kernel
theorem dX10_tick_49 : decode cX10_tick 49 = .ok (.iconst 0, 1) := by decide +kernel
theorem dX10_tick_50 : decode cX10_tick 50 = .ok (.bastore, 1) := by decide +kernel
theorem dX10_tick_51 : decode cX10_tick 51 = .ok (.iinc 1 1, 3) := by decide +kernel
theorem dX10_tick_54 : decode cX10_tick 54 = .ok (.iinc 2 1, 3) := by decide +kernel
theorem dX10_tick_57 : decode cX10_tick 57 = .ok (.goto (-48), 3) := by decide +kernel
theorem dX10_tick_60 : decode cX10_tick 60 = .ok (.iload_n 1, 1) := by decide +kernel
theorem dX10_tick_61 : decode cX10_tick 61 = .ok (.ireturn, 1) := by decide +kernel
theorem dX10_told_0 : decode cX10_told 0 = .ok (.aload_n 0, 1) := by decide +kernel
theorem dX10_told_1 : decode cX10_told 1 = .ok (.iconst 0, 1) := by decide +kernel
theorem dX10_told_2 : decode cX10_told 2 = .ok (.putfield 137, 3) := by decide +kernel
theorem dX10_told_5 : decode cX10_told 5 = .ok (.aload_n 0, 1) := by decide +kernel
theorem dX10_told_6 : decode cX10_told 6 = .ok (.iload_n 1, 1) := by decide +kernel
theorem dX10_told_7 : decode cX10_told 7 = .ok (.iconst 0, 1) := by decide +kernel
theorem dX10_told_8 : decode cX10_told 8 = .ok (.aload_n 0, 1) := by decide +kernel
theorem dX10_told_9 : decode cX10_told 9 = .ok (.getfield 200, 3) := by decide +kernel
theorem dX10_told_12 : decode cX10_told 12 = .ok (.iconst 1, 1) := by decide +kernel
theorem dX10_told_13 : decode cX10_told 13 = .ok (.isub, 1) := by decide +kernel
theorem dX10_told_14 : decode cX10_told 14 = .ok (.invokestatic 179, 3) := by decide +kernel
theorem dX10_told_17 : decode cX10_told 17 = .ok (.ifCond .eq 12, 3) := by decide +kernel
theorem dX10_told_20 : decode cX10_told 20 = .ok (.iload_n 2, 1) := by decide +kernel
theorem dX10_told_21 : decode cX10_told 21 = .ok (.iconst 0, 1) := by decide +kernel
theorem dX10_told_22 : decode cX10_told 22 = .ok (.iconst 5, 1) := by decide +kernel
theorem dX10_told_23 : decode cX10_told 23 = .ok (.invokestatic 179, 3) := by decide +kernel
theorem dX10_told_26 : decode cX10_told 26 = .ok (.ifCond .ne 7, 3) := by decide +kernel
theorem dX10_told_29 : decode cX10_told 29 = .ok (.iconst 1, 1) := by decide +kernel
theorem dX10_told_30 : decode cX10_told 30 = .ok (.goto 4, 3) := by decide +kernel
theorem dX10_told_33 : decode cX10_told 33 = .ok (.iconst 0, 1) := by decide +kernel
theorem dX10_told_34 : decode cX10_told 34 = .ok (.iconst 1, 1) := by decide +kernel
theorem dX10_told_35 : decode cX10_told 35 = .ok (.invokevirtual 171, 3) := by decide +kernel
theorem dX10_told_38 : decode cX10_told 38 = .ok (.ifCond .eq 5, 3) := by decide +kernel
theorem dX10_told_41 : decode cX10_told 41 = .ok (.iconst 0, 1) := by decide +kernel
theorem dX10_told_42 : decode cX10_told 42 = .ok (.ireturn, 1) := by decide +kernel
theorem dX10_told_43 : decode cX10_told 43 = .ok (.iload_n 2, 1) := by decide +kernel
theorem dX10_told_44 : decode cX10_told 44 = .ok (.tableswitch 78 0 4 #[36, 43, 50, 57, 64], 36) := by decide +kernel
theorem dX10_told_80 : decode cX10_told 80 = .ok (.aload_n 0, 1) := by decide +kernel
theorem dX10_told_81 : decode cX10_told 81 = .ok (.getfield 57, 3) := by decide +kernel
theorem dX10_told_84 : decode cX10_told 84 = .ok (.iload_n 1, 1) := by decide +kernel
theorem dX10_told_85 : decode cX10_told 85 = .ok (.iaload, 1) := by decide +kernel
theorem dX10_told_86 : decode cX10_told 86 = .ok (.ireturn, 1) := by decide +kernel
theorem dX10_told_87 : decode cX10_told 87 = .ok (.aload_n 0, 1) := by decide +kernel
theorem dX10_told_88 : decode cX10_told 88 = .ok (.getfield 60, 3) := by decide +kernel
theorem dX10_told_91 : decode cX10_told 91 = .ok (.iload_n 1, 1) := by decide +kernel
theorem dX10_told_92 : decode cX10_told 92 = .ok (.iaload, 1) := by decide +kernel
theorem dX10_told_93 : decode cX10_told 93 = .ok (.ireturn, 1) := by decide +kernel
theorem dX10_told_94 : decode cX10_told 94 = .ok (.aload_n 0, 1) := by decide +kernel
theorem dX10_told_95 : decode cX10_told 95 = .ok (.getfield 63, 3) := by decide +kernel
theorem dX10_told_98 : decode cX10_told 98 = .ok (.iload_n 1, 1) := by decide +kernel
theorem dX10_told_99 : decode cX10_told 99 = .ok (.iaload, 1) := by decide +kernel
theorem dX10_told_100 : decode cX10_told 100 = .ok (.ireturn, 1) := by decide +kernel
theorem dX10_told_101 : decode cX10_told 101 = .ok (.aload_n 0, 1) := by decide +kernel
theorem dX10_told_102 : decode cX10_told 102 = .ok (.getfield 77, 3) := by decide +kernel
theorem dX10_told_105 : decode cX10_told 105 = .ok (.iload_n 1, 1) := by decide +kernel
theorem dX10_told_106 : decode cX10_told 106 = .ok (.iaload, 1) := by decide +kernel
theorem dX10_told_107 : decode cX10_told 107 = .ok (.ireturn, 1) := by decide +kernel
theorem dX10_told_108 : decode cX10_told 108 = .ok (.aload_n 0, 1) := by decide +kernel
theorem dX10_told_109 : decode cX10_told 109 = .ok (.iload_n 1, 1) := by decide +kernel
theorem dX10_told_110 : decode cX10_told 110 = .ok (.invokevirtual 207, 3) := by decide +kernel
theorem dX10_told_113 : decode cX10_told 113 = .ok (.ifCond .eq 7, 3) := by decide +kernel
theorem dX10_told_116 : decode cX10_told 116 = .ok (.iconst 1, 1) := by decide +kernel
theorem dX10_told_117 : decode cX10_told 117 = .ok (.goto 4, 3) := by decide +kernel
theorem dX10_told_120 : decode cX10_told 120 = .ok (.iconst 0, 1) := by decide +kernel
theorem dX10_told_121 : decode cX10_told 121 = .ok (.ireturn, 1) := by decide +kernel
theorem dX10_told_122 : decode cX10_told 122 = .ok (.aload_n 0, 1) := by decide +kernel
theorem dX10_told_123 : decode cX10_told 123 = .ok (.getfield 73, 3) := by decide +kernel
theorem dX10_told_126 : decode cX10_told 126 = .ok (.iload_n 1, 1) := by decide +kernel
theorem dX10_told_127 : decode cX10_told 127 = .ok (.baload, 1) := by decide +kernel
theorem dX10_told_128 : decode cX10_told 128 = .ok (.ifCond .eq 7, 3) := by decide +kernel
theorem dX10_told_131 : decode cX10_told 131 = .ok (.iconst 1, 1) := by decide +kernel
theorem dX10_told_132 : decode cX10_told 132 = .ok (.goto 4, 3) := by decide +kernel
theorem dX10_told_135 : decode cX10_told 135 = .ok (.iconst 0, 1) := by decide +kernel
theorem dX10_told_136 : decode cX10_told 136 = .ok (.ireturn, 1) := by decide +kernel
theorem dX10_top_0 : decode cX10_top 0 = .ok (.aload_n 0, 1) := by decide +kernel
theorem dX10_top_1 : decode cX10_top 1 = .ok (.iconst 0, 1) := by decide +kernel
theorem dX10_top_2 : decode cX10_top 2 = .ok (.putfield 137, 3) := by decide +kernel
theorem dX10_top_5 : decode cX10_top 5 = .ok (.aload_n 0, 1) := by decide +kernel
theorem dX10_top_6 : decode cX10_top 6 = .ok (.iload_n 1, 1) := by decide +kernel
theorem dX10_top_7 : decode cX10_top 7 = .ok (.iconst 0, 1) := by decide +kernel
theorem dX10_top_8 : decode cX10_top 8 = .ok (.aload_n 0, 1) := by decide +kernel
theorem dX10_top_9 : decode cX10_top 9 = .ok (.getfield 200, 3) := by decide +kernel
theorem dX10_top_12 : decode cX10_top 12 = .ok (.iconst 1, 1) := by decide +kernel
theorem dX10_top_13 : decode cX10_top 13 = .ok (.isub, 1) := by decide +kernel
theorem dX10_top_14 : decode cX10_top 14 = .ok (.invokestatic 179, 3) := by decide +kernel
theorem dX10_top_17 : decode cX10_top 17 = .ok (.ifCond .ne 7, 3) := by decide +kernel
theorem dX10_top_20 : decode cX10_top 20 = .ok (.iconst 1, 1) := by decide +kernel
theorem dX10_top_21 : decode cX10_top 21 = .ok (.goto 4, 3) := by decide +kernel
theorem dX10_top_24 : decode cX10_top 24 = .ok (.iconst 0, 1) := by decide +kernel
theorem dX10_top_25 : decode cX10_top 25 = .ok (.iconst 1, 1) := by decide +kernel
theorem dX10_top_26 : decode cX10_top 26 = .ok (.invokevirtual 171, 3) := by decide +kernel
theorem dX10_top_29 : decode cX10_top 29 = .ok (.ifCond .eq 7, 3) := by decide +kernel
theorem dX10_top_32 : decode cX10_top 32 = .ok (.lconst 0, 1) := by decide +kernel
theorem dX10_top_33 : decode cX10_top 33 = .ok (.goto 9, 3) := by decide +kernel
theorem dX10_top_36 : decode cX10_top 36 = .ok (.aload_n 0, 1) := by decide +kernel
theorem dX10_top_37 : decode cX10_top 37 = .ok (.getfield 83, 3) := by decide +kernel
theorem dX10_top_40 : decode cX10_top 40 = .ok (.iload_n 1, 1) := by decide +kernel
theorem dX10_top_41 : decode cX10_top 41 = .ok (.laload, 1) := by decide +kernel
theorem dX10_top_42 : decode cX10_top 42 = .ok (.lreturn, 1) := by decide +kernel
theorem dX10_two_0 : decode cX10_two 0 = .ok (.aload_n 0, 1) := by decide +kernel
theorem dX10_two_1 : decode cX10_two 1 = .ok (.getfield 7, 3) := by decide +kernel
theorem dX10_two_4 : decode cX10_two 4 = .ok (.iload_n 1, 1) := by decide +kernel
theorem dX10_two_5 : decode cX10_two 5 = .ok (.iaload, 1) := by decide +kernel
theorem dX10_two_6 : decode cX10_two 6 = .ok (.bipush 8, 2) := by decide +kernel
theorem dX10_two_8 : decode cX10_two 8 = .ok (.ishl, 1) := by decide +kernel
theorem dX10_two_9 : decode cX10_two 9 = .ok (.aload_n 0, 1) := by decide +kernel
theorem dX10_two_10 : decode cX10_two 10 = .ok (.getfield 7, 3) := by decide +kernel
theorem dX10_two_13 : decode cX10_two 13 = .ok (.iload_n 1, 1) := by decide +kernel
theorem dX10_two_14 : decode cX10_two 14 = .ok (.iconst 1, 1) := by decide +kernel
theorem dX10_two_15 : decode cX10_two 15 = .ok (.iadd, 1) := by decide +kernel
theorem dX10_two_16 : decode cX10_two 16 = .ok (.iaload, 1) := by decide +kernel
theorem dX10_two_17 : decode cX10_two 17 = .ok (.ior, 1) := by decide +kernel
theorem dX10_two_18 : decode cX10_two 18 = .ok (.ireturn, 1) := by decide +kernel
theorem dX10_type_0 : decode cX10_type 0 = .ok (.aload_n 0, 1) := by decide +kernel
theorem dX10_type_1 : decode cX10_type 1 = .ok (.iconst 0, 1) := by decide +kernel
theorem dX10_type_2 : decode cX10_type 2 = .ok (.putfield 137, 3) := by decide +kernel
theorem dX10_type_5 : decode cX10_type 5 = .ok (.aload_n 0, 1) := by decide +kernel
theorem dX10_type_6 : decode cX10_type 6 = .ok (.aload_n 0, 1) := by decide +kernel
theorem dX10_type_7 : decode cX10_type 7 = .ok (.getfield 168, 3) := by decide +kernel
theorem dX10_type_10 : decode cX10_type 10 = .ok (.bipush 8, 2) := by decide +kernel
theorem dX10_type_12 : decode cX10_type 12 = .ok (.iadd, 1) := by decide +kernel
theorem dX10_type_13 : decode cX10_type 13 = .ok (.sipush 2000, 3) := by decide +kernel
theorem dX10_type_16 : decode cX10_type 16 = .ok (.if_icmp .le 7, 3) := by decide +kernel
theorem dX10_type_19 : decode cX10_type 19 = .ok (.iconst 1, 1) := by decide +kernel
theorem dX10_type_20 : decode cX10_type 20 = .ok (.goto 4, 3) := by decide +kernel
theorem dX10_type_23 : decode cX10_type 23 = .ok (.iconst 0, 1) := by decide +kernel
theorem dX10_type_24 : decode cX10_type 24 = .ok (.iconst 1, 1) := by decide +kernel
theorem dX10_type_25 : decode cX10_type 25 = .ok (.invokevirtual 171, 3) := by decide +kernel
theorem dX10_type_28 : decode cX10_type 28 = .ok (.ifCond .eq 5, 3) := by decide +kernel
theorem dX10_type_31 : decode cX10_type 31 = .ok (.iconst 0, 1) := by decide +kernel
theorem dX10_type_32 : decode cX10_type 32 = .ok (.ireturn, 1) := by decide +kernel
theorem dX10_type_33 : decode cX10_type 33 = .ok (.aload_n 0, 1) := by decide +kernel
theorem dX10_type_34 : decode cX10_type 34 = .ok (.iconst 0, 1) := by decide +kernel
theorem dX10_type_35 : decode cX10_type 35 = .ok (.aload_n 0, 1) := by decide +kernel
theorem dX10_type_36 : decode cX10_type 36 = .ok (.getfield 168, 3) := by decide +kernel
theorem dX10_type_39 : decode cX10_type 39 = .ok (.iadd, 1) := by decide +kernel
theorem dX10_type_40 : decode cX10_type 40 = .ok (.lload_n 1, 1) := by decide +kernel
theorem dX10_type_41 : decode cX10_type 41 = .ok (.invokevirtual 175, 3) := by decide +kernel
theorem dX10_type_44 : decode cX10_type 44 = .ok (.aload_n 0, 1) := by decide +kernel
theorem dX10_type_45 : decode cX10_type 45 = .ok (.dup, 1) := by decide +kernel
theorem dX10_type_46 : decode cX10_type 46 = .ok (.getfield 168, 3) := by decide +kernel
theorem dX10_type_49 : decode cX10_type 49 = .ok (.bipush 8, 2) := by decide +kernel
theorem dX10_type_51 : decode cX10_type 51 = .ok (.iadd, 1) := by decide +kernel
theorem dX10_type_52 : decode cX10_type 52 = .ok (.putfield 168, 3) := by decide +kernel
theorem dX10_type_55 : decode cX10_type 55 = .ok (.aload_n 0, 1) := by decide +kernel
theorem dX10_type_56 : decode cX10_type 56 = .ok (.getfield 168, 3) := by decide +kernel
theorem dX10_type_59 : decode cX10_type 59 = .ok (.ireturn, 1) := by decide +kernel
theorem dX10_wasSeen_0 : decode cX10_wasSeen 0 = .ok (.aload_n 0, 1) := by decide +kernel
theorem dX10_wasSeen_1 : decode cX10_wasSeen 1 = .ok (.getfield 83, 3) := by decide +kernel
theorem dX10_wasSeen_4 : decode cX10_wasSeen 4 = .ok (.iload_n 1, 1) := by decide +kernel
theorem dX10_wasSeen_5 : decode cX10_wasSeen 5 = .ok (.laload, 1) := by decide +kernel
theorem dX10_wasSeen_6 : decode cX10_wasSeen 6 = .ok (.lload_n 2, 1) := by decide +kernel
theorem dX10_wasSeen_7 : decode cX10_wasSeen 7 = .ok (.lsub, 1) := by decide +kernel
theorem dX10_wasSeen_8 : decode cX10_wasSeen 8 = .ok (.lstore 4, 2) := by decide +kernel
theorem dX10_wasSeen_10 : decode cX10_wasSeen 10 = .ok (.lload 4, 2) := by decide +kernel
theorem dX10_wasSeen_12 : decode cX10_wasSeen 12 = .ok (.lconst 0, 1) := by decide +kernel
theorem dX10_wasSeen_13 : decode cX10_wasSeen 13 = .ok (.lcmp, 1) := by decide +kernel
theorem dX10_wasSeen_14 : decode cX10_wasSeen 14 = .ok (.ifCond .lt 24, 3) := by decide +kernel
theorem dX10_wasSeen_17 : decode cX10_wasSeen 17 = .ok (.aload_n 0, 1) := by decide +kernel
theorem dX10_wasSeen_18 : decode cX10_wasSeen 18 = .ok (.getfield 86, 3) := by decide +kernel
theorem dX10_wasSeen_21 : decode cX10_wasSeen 21 = .ok (.iload_n 1, 1) := by decide +kernel
theorem dX10_wasSeen_22 : decode cX10_wasSeen 22 = .ok (.laload, 1) := by decide +kernel
theorem dX10_wasSeen_23 : decode cX10_wasSeen 23 = .ok (.lload 4, 2) := by decide +kernel
theorem dX10_wasSeen_25 : decode cX10_wasSeen 25 = .ok (.l2i, 1) := by decide +kernel
theorem dX10_wasSeen_26 : decode cX10_wasSeen 26 = .ok (.lushr, 1) := by decide +kernel
theorem dX10_wasSeen_27 : decode cX10_wasSeen 27 = .ok (.lconst 1, 1) := by decide +kernel
theorem dX10_wasSeen_28 : decode cX10_wasSeen 28 = .ok (.land, 1) := by decide +kernel
theorem dX10_wasSeen_29 : decode cX10_wasSeen 29 = .ok (.lconst 1, 1) := by decide +kernel
theorem dX10_wasSeen_30 : decode cX10_wasSeen 30 = .ok (.lcmp, 1) := by decide +kernel
theorem dX10_wasSeen_31 : decode cX10_wasSeen 31 = .ok (.ifCond .ne 7, 3) := by decide +kernel
theorem dX10_wasSeen_34 : decode cX10_wasSeen 34 = .ok (.iconst 1, 1) := by decide +kernel
theorem dX10_wasSeen_35 : decode cX10_wasSeen 35 = .ok (.goto 4, 3) := by decide +kernel
theorem dX10_wasSeen_38 : decode cX10_wasSeen 38 = .ok (.iconst 0, 1) := by decide +kernel
theorem dX10_wasSeen_39 : decode cX10_wasSeen 39 = .ok (.ireturn, 1) := by decide +kernel
