theorem dX10_isFull_0 : decode cX10_isFull 0 = .ok (.aload_n 0, 1) := by decide +kernel
theorem dX10_isFull_1 : decode cX10_isFull 1 = .ok (.getfield 104, 3) := by decide +kernel
theorem dX10_isFull_4 : decode cX10_isFull 4 = .ok (.iload_n 1, 1) := by decide +kernel
theorem dX10_isFull_5 : decode cX10_isFull 5 = .ok (.iaload, 1) := by decide +kernel
theorem dX10_isFull_6 : decode cX10_isFull 6 = .ok (.iconst (-1), 1) := by decide +kernel
theorem dX10_isFull_7 : decode cX10_isFull 7 = .ok (.if_icmp .eq 7, 3) := by decide +kernel
theorem dX10_isFull_10 : decode cX10_isFull 10 = .ok (.iconst 1, 1) := by decide +kernel
theorem dX10_isFull_11 : decode cX10_isFull 11 = .ok (.goto 4, 3) := by decide +kernel
theorem dX10_isFull_14 : decode cX10_isFull 14 = .ok (.iconst 0, 1) := by decide +kernel
theorem dX10_isFull_15 : decode cX10_isFull 15 = .ok (.istore_n 2, 1) := by decide +kernel
theorem dX10_isFull_16 : decode cX10_isFull 16 = .ok (.iconst 0, 1) := by decide +kernel
theorem dX10_isFull_17 : decode cX10_isFull 17 = .ok (.istore_n 3, 1) := by decide +kernel
theorem dX10_isFull_18 : decode cX10_isFull 18 = .ok (.iload_n 3, 1) := by decide +kernel
theorem dX10_isFull_19 : decode cX10_isFull 19 = .ok (.aload_n 0, 1) := by decide +kernel
theorem dX10_isFull_20 : decode cX10_isFull 20 = .ok (.getfield 104, 3) := by decide +kernel
theorem dX10_isFull_23 : decode cX10_isFull 23 = .ok (.iload_n 1, 1) := by decide +kernel
theorem dX10_isFull_24 : decode cX10_isFull 24 = .ok (.iaload, 1) := by decide +kernel
theorem dX10_isFull_25 : decode cX10_isFull 25 = .ok (.if_icmp .ge 26, 3) := by decide +kernel
theorem dX10_isFull_28 : decode cX10_isFull 28 = .ok (.iload_n 2, 1) := by decide +kernel
theorem dX10_isFull_29 : decode cX10_isFull 29 = .ok (.ifCond .eq 22, 3) := by decide +kernel
theorem dX10_isFull_32 : decode cX10_isFull 32 = .ok (.aload_n 0, 1) := by decide +kernel
theorem dX10_isFull_33 : decode cX10_isFull 33 = .ok (.getfield 113, 3) := by decide +kernel
theorem dX10_isFull_36 : decode cX10_isFull 36 = .ok (.sipush 1980, 3) := by decide +kernel
theorem dX10_isFull_39 : decode cX10_isFull 39 = .ok (.iload_n 1, 1) := by decide +kernel
theorem dX10_isFull_40 : decode cX10_isFull 40 = .ok (.imul, 1) := by decide +kernel
theorem dX10_isFull_41 : decode cX10_isFull 41 = .ok (.iload_n 3, 1) := by decide +kernel
theorem dX10_isFull_42 : decode cX10_isFull 42 = .ok (.iadd, 1) := by decide +kernel
theorem dX10_isFull_43 : decode cX10_isFull 43 = .ok (.baload, 1) := by decide +kernel
theorem dX10_isFull_44 : decode cX10_isFull 44 = .ok (.istore_n 2, 1) := by decide +kernel
theorem dX10_isFull_45 : decode cX10_isFull 45 = .ok (.iinc 3 1, 3) := by decide +kernel
theorem dX10_isFull_48 : decode cX10_isFull 48 = .ok (.goto (-30), 3) := by decide +kernel
theorem dX10_isFull_51 : decode cX10_isFull 51 = .ok (.iload_n 2, 1) := by decide +kernel
theorem dX10_isFull_52 : decode cX10_isFull 52 = .ok (.ireturn, 1) := by decide +kernel
theorem dX10_isIn_0 : decode cX10_isIn 0 = .ok (.iload_n 2, 1) := by decide +kernel
theorem dX10_isIn_1 : decode cX10_isIn 1 = .ok (.ifCond .eq 14, 3) := by decide +kernel
theorem dX10_isIn_4 : decode cX10_isIn 4 = .ok (.iload_n 0, 1) := by decide +kernel
theorem dX10_isIn_5 : decode cX10_isIn 5 = .ok (.iload_n 1, 1) := by decide +kernel
theorem dX10_isIn_6 : decode cX10_isIn 6 = .ok (.ixor, 1) := by decide +kernel
theorem dX10_isIn_7 : decode cX10_isIn 7 = .ok (.bipush 32, 2) := by decide +kernel
theorem dX10_isIn_9 : decode cX10_isIn 9 = .ok (.iload_n 2, 1) := by decide +kernel
theorem dX10_isIn_10 : decode cX10_isIn 10 = .ok (.isub, 1) := by decide +kernel
theorem dX10_isIn_11 : decode cX10_isIn 11 = .ok (.iushr, 1) := by decide +kernel
theorem dX10_isIn_12 : decode cX10_isIn 12 = .ok (.ifCond .ne 7, 3) := by decide +kernel
theorem dX10_isIn_15 : decode cX10_isIn 15 = .ok (.iconst 1, 1) := by decide +kernel
theorem dX10_isIn_16 : decode cX10_isIn 16 = .ok (.goto 4, 3) := by decide +kernel
theorem dX10_isIn_19 : decode cX10_isIn 19 = .ok (.iconst 0, 1) := by decide +kernel
theorem dX10_isIn_20 : decode cX10_isIn 20 = .ok (.ireturn, 1) := by decide +kernel
theorem dX10_isOld_0 : decode cX10_isOld 0 = .ok (.lload_n 2, 1) := by decide +kernel
theorem dX10_isOld_1 : decode cX10_isOld 1 = .ok (.lconst 0, 1) := by decide +kernel
theorem dX10_isOld_2 : decode cX10_isOld 2 = .ok (.lcmp, 1) := by decide +kernel
theorem dX10_isOld_3 : decode cX10_isOld 3 = .ok (.ifCond .le 18, 3) := by decide +kernel
theorem dX10_isOld_6 : decode cX10_isOld 6 = .ok (.lload_n 2, 1) := by decide +kernel
theorem dX10_isOld_7 : decode cX10_isOld 7 = .ok (.aload_n 0, 1) := by decide +kernel
theorem dX10_isOld_8 : decode cX10_isOld 8 = .ok (.getfield 83, 3) := by decide +kernel
theorem dX10_isOld_11 : decode cX10_isOld 11 = .ok (.iload_n 1, 1) := by decide +kernel
theorem dX10_isOld_12 : decode cX10_isOld 12 = .ok (.laload, 1) := by decide +kernel
theorem dX10_isOld_13 : decode cX10_isOld 13 = .ok (.ldc2_w 315, 3) := by decide +kernel
theorem dX10_isOld_16 : decode cX10_isOld 16 = .ok (.lsub, 1) := by decide +kernel
theorem dX10_isOld_17 : decode cX10_isOld 17 = .ok (.lcmp, 1) := by decide +kernel
theorem dX10_isOld_18 : decode cX10_isOld 18 = .ok (.ifCond .gt 7, 3) := by decide +kernel
theorem dX10_isOld_21 : decode cX10_isOld 21 = .ok (.iconst 1, 1) := by decide +kernel
theorem dX10_isOld_22 : decode cX10_isOld 22 = .ok (.goto 4, 3) := by decide +kernel
theorem dX10_isOld_25 : decode cX10_isOld 25 = .ok (.iconst 0, 1) := by decide +kernel
theorem dX10_isOld_26 : decode cX10_isOld 26 = .ok (.ireturn, 1) := by decide +kernel
theorem dX10_isPart_0 : decode cX10_isPart 0 = .ok (.aload_n 0, 1) := by decide +kernel
theorem dX10_isPart_1 : decode cX10_isPart 1 = .ok (.iload_n 1, 1) := by decide +kernel
theorem dX10_isPart_2 : decode cX10_isPart 2 = .ok (.invokevirtual 155, 3) := by decide +kernel
theorem dX10_isPart_5 : decode cX10_isPart 5 = .ok (.ifCond .ne 11, 3) := by decide +kernel
theorem dX10_isPart_8 : decode cX10_isPart 8 = .ok (.aload_n 0, 1) := by decide +kernel
theorem dX10_isPart_9 : decode cX10_isPart 9 = .ok (.iload_n 1, 1) := by decide +kernel
theorem dX10_isPart_10 : decode cX10_isPart 10 = .ok (.invokevirtual 159, 3) := by decide +kernel
theorem dX10_isPart_13 : decode cX10_isPart 13 = .ok (.ifCond .eq 7, 3) := by decide +kernel
theorem dX10_isPart_16 : decode cX10_isPart 16 = .ok (.iconst 1, 1) := by decide +kernel
theorem dX10_isPart_17 : decode cX10_isPart 17 = .ok (.goto 4, 3) := by decide +kernel
theorem dX10_isPart_20 : decode cX10_isPart 20 = .ok (.iconst 0, 1) := by decide +kernel
theorem dX10_isPart_21 : decode cX10_isPart 21 = .ok (.ireturn, 1) := by decide +kernel
theorem dX10_isTooMuch_0 : decode cX10_isTooMuch 0 = .ok (.iload_n 1, 1) := by decide +kernel
theorem dX10_isTooMuch_1 : decode cX10_isTooMuch 1 = .ok (.sipush 1500, 3) := by decide +kernel
theorem dX10_isTooMuch_4 : decode cX10_isTooMuch 4 = .ok (.if_icmp .le 11, 3) := by decide +kernel
theorem dX10_isTooMuch_7 : decode cX10_isTooMuch 7 = .ok (.iload_n 2, 1) := by decide +kernel
theorem dX10_isTooMuch_8 : decode cX10_isTooMuch 8 = .ok (.ifCond .eq 7, 3) := by decide +kernel
theorem dX10_isTooMuch_11 : decode cX10_isTooMuch 11 = .ok (.iconst 1, 1) := by decide +kernel
theorem dX10_isTooMuch_12 : decode cX10_isTooMuch 12 = .ok (.goto 4, 3) := by decide +kernel
theorem dX10_isTooMuch_15 : decode cX10_isTooMuch 15 = .ok (.iconst 0, 1) := by decide +kernel
theorem dX10_isTooMuch_16 : decode cX10_isTooMuch 16 = .ok (.ireturn, 1) := by decide +kernel
theorem dX10_isWrong_0 : decode cX10_isWrong 0 = .ok (.aload_n 0, 1) := by decide +kernel
theorem dX10_isWrong_1 : decode cX10_isWrong 1 = .ok (.iload_n 1, 1) := by decide +kernel
theorem dX10_isWrong_2 : decode cX10_isWrong 2 = .ok (.invokevirtual 165, 3) := by decide +kernel
theorem dX10_isWrong_5 : decode cX10_isWrong 5 = .ok (.bipush 20, 2) := by decide +kernel
theorem dX10_isWrong_7 : decode cX10_isWrong 7 = .ok (.isub, 1) := by decide +kernel
theorem dX10_isWrong_8 : decode cX10_isWrong 8 = .ok (.istore_n 3, 1) := by decide +kernel
theorem dX10_isWrong_9 : decode cX10_isWrong 9 = .ok (.bipush 8, 2) := by decide +kernel
theorem dX10_isWrong_11 : decode cX10_isWrong 11 = .ok (.aload_n 0, 1) := by decide +kernel
theorem dX10_isWrong_12 : decode cX10_isWrong 12 = .ok (.iload_n 1, 1) := by decide +kernel
theorem dX10_isWrong_13 : decode cX10_isWrong 13 = .ok (.invokevirtual 159, 3) := by decide +kernel
theorem dX10_isWrong_16 : decode cX10_isWrong 16 = .ok (.imul, 1) := by decide +kernel
theorem dX10_isWrong_17 : decode cX10_isWrong 17 = .ok (.istore 4, 2) := by decide +kernel
theorem dX10_isWrong_19 : decode cX10_isWrong 19 = .ok (.aload_n 0, 1) := by decide +kernel
theorem dX10_isWrong_20 : decode cX10_isWrong 20 = .ok (.iload_n 1, 1) := by decide +kernel
theorem dX10_isWrong_21 : decode cX10_isWrong 21 = .ok (.invokevirtual 155, 3) := by decide +kernel
theorem dX10_isWrong_24 : decode cX10_isWrong 24 = .ok (.istore 5, 2) := by decide +kernel
theorem dX10_isWrong_26 : decode cX10_isWrong 26 = .ok (.iload 5, 2) := by decide +kernel
theorem dX10_isWrong_28 : decode cX10_isWrong 28 = .ok (.ifCond .eq 14, 3) := by decide +kernel
theorem dX10_isWrong_31 : decode cX10_isWrong 31 = .ok (.iload_n 3, 1) := by decide +kernel
theorem dX10_isWrong_32 : decode cX10_isWrong 32 = .ok (.ifCond .eq 20, 3) := by decide +kernel
theorem dX10_isWrong_35 : decode cX10_isWrong 35 = .ok (.iload_n 3, 1) := by decide +kernel
theorem dX10_isWrong_36 : decode cX10_isWrong 36 = .ok (.bipush 8, 2) := by decide +kernel
theorem dX10_isWrong_38 : decode cX10_isWrong 38 = .ok (.irem, 1) := by decide +kernel
theorem dX10_isWrong_39 : decode cX10_isWrong 39 = .ok (.ifCond .ne 13, 3) := by decide +kernel
theorem dX10_isWrong_42 : decode cX10_isWrong 42 = .ok (.iload 4, 2) := by decide +kernel
theorem dX10_isWrong_44 : decode cX10_isWrong 44 = .ok (.iload_n 3, 1) := by decide +kernel
theorem dX10_isWrong_45 : decode cX10_isWrong 45 = .ok (.iadd, 1) := by decide +kernel
theorem dX10_isWrong_46 : decode cX10_isWrong 46 = .ok (.sipush 1980, 3) := by decide +kernel
theorem dX10_isWrong_49 : decode cX10_isWrong 49 = .ok (.if_icmp .le 5, 3) := by decide +kernel
theorem dX10_isWrong_52 : decode cX10_isWrong 52 = .ok (.iconst 1, 1) := by decide +kernel
theorem dX10_isWrong_53 : decode cX10_isWrong 53 = .ok (.ireturn, 1) := by decide +kernel
theorem dX10_isWrong_54 : decode cX10_isWrong 54 = .ok (.iload_n 2, 1) := by decide +kernel
theorem dX10_isWrong_55 : decode cX10_isWrong 55 = .ok (.ifCond .ge 5, 3) := by decide +kernel
theorem dX10_isWrong_58 : decode cX10_isWrong 58 = .ok (.iconst 0, 1) := by decide +kernel
theorem dX10_isWrong_59 : decode cX10_isWrong 59 = .ok (.ireturn, 1) := by decide +kernel
theorem dX10_isWrong_60 : decode cX10_isWrong 60 = .ok (.iload 5, 2) := by decide +kernel
theorem dX10_isWrong_62 : decode cX10_isWrong 62 = .ok (.ifCond .ne 13, 3) := by decide +kernel
theorem dX10_isWrong_65 : decode cX10_isWrong 65 = .ok (.aload_n 0, 1) := by decide +kernel
theorem dX10_isWrong_66 : decode cX10_isWrong 66 = .ok (.getfield 104, 3) := by decide +kernel
theorem dX10_isWrong_69 : decode cX10_isWrong 69 = .ok (.iload_n 2, 1) := by decide +kernel
theorem dX10_isWrong_70 : decode cX10_isWrong 70 = .ok (.iaload, 1) := by decide +kernel
theorem dX10_isWrong_71 : decode cX10_isWrong 71 = .ok (.iconst (-1), 1) := by decide +kernel
theorem dX10_isWrong_72 : decode cX10_isWrong 72 = .ok (.if_icmp .ne 26, 3) := by decide +kernel
theorem dX10_isWrong_75 : decode cX10_isWrong 75 = .ok (.aload_n 0, 1) := by decide +kernel
theorem dX10_isWrong_76 : decode cX10_isWrong 76 = .ok (.getfield 104, 3) := by decide +kernel
theorem dX10_isWrong_79 : decode cX10_isWrong 79 = .ok (.iload_n 2, 1) := by decide +kernel
theorem dX10_isWrong_80 : decode cX10_isWrong 80 = .ok (.iaload, 1) := by decide +kernel
theorem dX10_isWrong_81 : decode cX10_isWrong 81 = .ok (.iconst (-1), 1) := by decide +kernel
theorem dX10_isWrong_82 : decode cX10_isWrong 82 = .ok (.if_icmp .eq 20, 3) := by decide +kernel
theorem dX10_isWrong_85 : decode cX10_isWrong 85 = .ok (.iload 4, 2) := by decide +kernel
theorem dX10_isWrong_87 : decode cX10_isWrong 87 = .ok (.iload_n 3, 1) := by decide +kernel
theorem dX10_isWrong_88 : decode cX10_isWrong 88 = .ok (.iadd, 1) := by decide +kernel
theorem dX10_isWrong_89 : decode cX10_isWrong 89 = .ok (.aload_n 0, 1) := by decide +kernel
theorem dX10_isWrong_90 : decode cX10_isWrong 90 = .ok (.getfield 104, 3) := by decide +kernel
theorem dX10_isWrong_93 : decode cX10_isWrong 93 = .ok (.iload_n 2, 1) := by decide +kernel
theorem dX10_isWrong_94 : decode cX10_isWrong 94 = .ok (.iaload, 1) := by decide +kernel
theorem dX10_isWrong_95 : decode cX10_isWrong 95 = .ok (.if_icmp .le 7, 3) := by decide +kernel
theorem dX10_isWrong_98 : decode cX10_isWrong 98 = .ok (.iconst 1, 1) := by decide +kernel
theorem dX10_isWrong_99 : decode cX10_isWrong 99 = .ok (.goto 4, 3) := by decide +kernel
theorem dX10_isWrong_102 : decode cX10_isWrong 102 = .ok (.iconst 0, 1) := by decide +kernel
theorem dX10_isWrong_103 : decode cX10_isWrong 103 = .ok (.istore 6, 2) := by decide +kernel
theorem dX10_isWrong_105 : decode cX10_isWrong 105 = .ok (.iload 4, 2) := by decide +kernel
theorem dX10_isWrong_107 : decode cX10_isWrong 107 = .ok (.istore 7, 2) := by decide +kernel
theorem dX10_isWrong_109 : decode cX10_isWrong 109 = .ok (.iload 7, 2) := by decide +kernel
theorem dX10_isWrong_111 : decode cX10_isWrong 111 = .ok (.sipush 1980, 3) := by decide +kernel
theorem dX10_isWrong_114 : decode cX10_isWrong 114 = .ok (.if_icmp .ge 63, 3) := by decide +kernel
theorem dX10_isWrong_117 : decode cX10_isWrong 117 = .ok (.iload 7, 2) := by decide +kernel
theorem dX10_isWrong_119 : decode cX10_isWrong 119 = .ok (.iload 4, 2) := by decide +kernel
theorem dX10_isWrong_121 : decode cX10_isWrong 121 = .ok (.iload_n 3, 1) := by decide +kernel
theorem dX10_isWrong_122 : decode cX10_isWrong 122 = .ok (.iadd, 1) := by decide +kernel
theorem dX10_isWrong_123 : decode cX10_isWrong 123 = .ok (.if_icmp .ge 7, 3) := by decide +kernel
theorem dX10_isWrong_126 : decode cX10_isWrong 126 = .ok (.iconst 1, 1) := by decide +kernel
theorem dX10_isWrong_127 : decode cX10_isWrong 127 = .ok (.goto 4, 3) := by decide +kernel
theorem dX10_isWrong_130 : decode cX10_isWrong 130 = .ok (.iconst 0, 1) := by decide +kernel
theorem dX10_isWrong_131 : decode cX10_isWrong 131 = .ok (.istore 8, 2) := by decide +kernel
theorem dX10_isWrong_133 : decode cX10_isWrong 133 = .ok (.iload 6, 2) := by decide +kernel
theorem dX10_isWrong_135 : decode cX10_isWrong 135 = .ok (.ifCond .ne 29, 3) := by decide +kernel
theorem dX10_isWrong_138 : decode cX10_isWrong 138 = .ok (.aload_n 0, 1) := by decide +kernel
theorem dX10_isWrong_139 : decode cX10_isWrong 139 = .ok (.getfield 113, 3) := by decide +kernel
theorem dX10_isWrong_142 : decode cX10_isWrong 142 = .ok (.sipush 1980, 3) := by decide +kernel
theorem dX10_isWrong_145 : decode cX10_isWrong 145 = .ok (.iload_n 2, 1) := by decide +kernel
theorem dX10_isWrong_146 : decode cX10_isWrong 146 = .ok (.imul, 1) := by decide +kernel
theorem dX10_isWrong_147 : decode cX10_isWrong 147 = .ok (.iload 7, 2) := by decide +kernel
theorem dX10_isWrong_149 : decode cX10_isWrong 149 = .ok (.iadd, 1) := by decide +kernel
theorem dX10_isWrong_150 : decode cX10_isWrong 150 = .ok (.baload, 1) := by decide +kernel
theorem dX10_isWrong_151 : decode cX10_isWrong 151 = .ok (.ifCond .eq 17, 3) := by decide +kernel
theorem dX10_isWrong_154 : decode cX10_isWrong 154 = .ok (.iload 8, 2) := by decide +kernel
theorem dX10_isWrong_156 : decode cX10_isWrong 156 = .ok (.ifCond .ne 8, 3) := by decide +kernel
theorem dX10_isWrong_159 : decode cX10_isWrong 159 = .ok (.iload 5, 2) := by decide +kernel
theorem dX10_isWrong_161 : decode cX10_isWrong 161 = .ok (.ifCond .ne 7, 3) := by decide +kernel
theorem dX10_isWrong_164 : decode cX10_isWrong 164 = .ok (.iconst 1, 1) := by decide +kernel
theorem dX10_isWrong_165 : decode cX10_isWrong 165 = .ok (.goto 4, 3) := by decide +kernel
theorem dX10_isWrong_168 : decode cX10_isWrong 168 = .ok (.iconst 0, 1) := by decide +kernel
theorem dX10_isWrong_169 : decode cX10_isWrong 169 = .ok (.istore 6, 2) := by decide +kernel
theorem dX10_isWrong_171 : decode cX10_isWrong 171 = .ok (.iinc 7 1, 3) := by decide +kernel
theorem dX10_isWrong_174 : decode cX10_isWrong 174 = .ok (.goto (-65), 3) := by decide +kernel
theorem dX10_isWrong_177 : decode cX10_isWrong 177 = .ok (.iload 6, 2) := by decide +kernel
theorem dX10_isWrong_179 : decode cX10_isWrong 179 = .ok (.ireturn, 1) := by decide +kernel
theorem dX10_keep_0 : decode cX10_keep 0 = .ok (.aload_n 0, 1) := by decide +kernel
theorem dX10_keep_1 : decode cX10_keep 1 = .ok (.iconst 0, 1) := by decide +kernel
theorem dX10_keep_2 : decode cX10_keep 2 = .ok (.putfield 137, 3) := by decide +kernel
theorem dX10_keep_5 : decode cX10_keep 5 = .ok (.aload_n 0, 1) := by decide +kernel
theorem dX10_keep_6 : decode cX10_keep 6 = .ok (.iload_n 1, 1) := by decide +kernel
theorem dX10_keep_7 : decode cX10_keep 7 = .ok (.iconst 0, 1) := by decide +kernel
theorem dX10_keep_8 : decode cX10_keep 8 = .ok (.aload_n 0, 1) := by decide +kernel
theorem dX10_keep_9 : decode cX10_keep 9 = .ok (.getfield 168, 3) := by decide +kernel
theorem dX10_keep_12 : decode cX10_keep 12 = .ok (.invokestatic 179, 3) := by decide +kernel
theorem dX10_keep_15 : decode cX10_keep 15 = .ok (.ifCond .ne 7, 3) := by decide +kernel
theorem dX10_keep_18 : decode cX10_keep 18 = .ok (.iconst 1, 1) := by decide +kernel
theorem dX10_keep_19 : decode cX10_keep 19 = .ok (.goto 4, 3) := by decide +kernel
theorem dX10_keep_22 : decode cX10_keep 22 = .ok (.iconst 0, 1) := by decide +kernel
theorem dX10_keep_23 : decode cX10_keep 23 = .ok (.iconst 1, 1) := by decide +kernel
theorem dX10_keep_24 : decode cX10_keep 24 = .ok (.invokevirtual 171, 3) := by decide +kernel
theorem dX10_keep_27 : decode cX10_keep 27 = .ok (.ifCond .ne 8, 3) := by decide +kernel
theorem dX10_keep_30 : decode cX10_keep 30 = .ok (.aload_n 0, 1) := by decide +kernel
theorem dX10_keep_31 : decode cX10_keep 31 = .ok (.iload_n 1, 1) := by decide +kernel
theorem dX10_keep_32 : decode cX10_keep 32 = .ok (.putfield 168, 3) := by decide +kernel
theorem dX10_keep_35 : decode cX10_keep 35 = .ok (.return_, 1) := by decide +kernel
theorem dX10_lengthOf_0 : decode cX10_lengthOf 0 = .ok (.aload_n 0, 1) := by decide +kernel
theorem dX10_lengthOf_1 : decode cX10_lengthOf 1 = .ok (.iload_n 1, 1) := by decide +kernel
theorem dX10_lengthOf_2 : decode cX10_lengthOf 2 = .ok (.iconst 2, 1) := by decide +kernel
theorem dX10_lengthOf_3 : decode cX10_lengthOf 3 = .ok (.iadd, 1) := by decide +kernel
theorem dX10_lengthOf_4 : decode cX10_lengthOf 4 = .ok (.invokevirtual 140, 3) := by decide +kernel
theorem dX10_lengthOf_7 : decode cX10_lengthOf 7 = .ok (.ireturn, 1) := by decide +kernel
theorem dX10_log_0 : decode cX10_log 0 = .ok (.aload_n 0, 1) := by decide +kernel
theorem dX10_log_1 : decode cX10_log 1 = .ok (.iconst 0, 1) := by decide +kernel
theorem dX10_log_2 : decode cX10_log 2 = .ok (.putfield 137, 3) := by decide +kernel
theorem dX10_log_5 : decode cX10_log 5 = .ok (.aload_n 0, 1) := by decide +kernel
theorem dX10_log_6 : decode cX10_log 6 = .ok (.iload_n 1, 1) := by decide +kernel
theorem dX10_log_7 : decode cX10_log 7 = .ok (.iconst 0, 1) := by decide +kernel
theorem dX10_log_8 : decode cX10_log 8 = .ok (.aload_n 0, 1) := by decide +kernel
theorem dX10_log_9 : decode cX10_log 9 = .ok (.getfield 243, 3) := by decide +kernel
theorem dX10_log_12 : decode cX10_log 12 = .ok (.iconst 1, 1) := by decide +kernel
theorem dX10_log_13 : decode cX10_log 13 = .ok (.isub, 1) := by decide +kernel
theorem dX10_log_14 : decode cX10_log 14 = .ok (.invokestatic 179, 3) := by decide +kernel
theorem dX10_log_17 : decode cX10_log 17 = .ok (.ifCond .eq 12, 3) := by decide +kernel
theorem dX10_log_20 : decode cX10_log 20 = .ok (.iload_n 2, 1) := by decide +kernel
theorem dX10_log_21 : decode cX10_log 21 = .ok (.iconst 0, 1) := by decide +kernel
theorem dX10_log_22 : decode cX10_log 22 = .ok (.iconst 4, 1) := by decide +kernel
theorem dX10_log_23 : decode cX10_log 23 = .ok (.invokestatic 179, 3) := by decide +kernel
theorem dX10_log_26 : decode cX10_log 26 = .ok (.ifCond .ne 7, 3) := by decide +kernel
theorem dX10_log_29 : decode cX10_log 29 = .ok (.iconst 1, 1) := by decide +kernel
theorem dX10_log_30 : decode cX10_log 30 = .ok (.goto 4, 3) := by decide +kernel
theorem dX10_log_33 : decode cX10_log 33 = .ok (.iconst 0, 1) := by decide +kernel
theorem dX10_log_34 : decode cX10_log 34 = .ok (.iconst 1, 1) := by decide +kernel
theorem dX10_log_35 : decode cX10_log 35 = .ok (.invokevirtual 171, 3) := by decide +kernel
theorem dX10_log_38 : decode cX10_log 38 = .ok (.ifCond .eq 5, 3) := by decide +kernel
theorem dX10_log_41 : decode cX10_log 41 = .ok (.iconst 0, 1) := by decide +kernel
theorem dX10_log_42 : decode cX10_log 42 = .ok (.ireturn, 1) := by decide +kernel
theorem dX10_log_43 : decode cX10_log 43 = .ok (.iload_n 2, 1) := by decide +kernel
theorem dX10_log_44 : decode cX10_log 44 = .ok (.ifCond .ne 12, 3) := by decide +kernel
theorem dX10_log_47 : decode cX10_log 47 = .ok (.aload_n 0, 1) := by decide +kernel
theorem dX10_log_48 : decode cX10_log 48 = .ok (.getfield 119, 3) := by decide +kernel
theorem dX10_log_51 : decode cX10_log 51 = .ok (.iload_n 1, 1) := by decide +kernel
theorem dX10_log_52 : decode cX10_log 52 = .ok (.iaload, 1) := by decide +kernel
theorem dX10_log_53 : decode cX10_log 53 = .ok (.goto 51, 3) := by decide +kernel
theorem dX10_log_56 : decode cX10_log 56 = .ok (.iload_n 2, 1) := by decide +kernel
theorem dX10_log_57 : decode cX10_log 57 = .ok (.iconst 1, 1) := by decide +kernel
theorem dX10_log_58 : decode cX10_log 58 = .ok (.if_icmp .ne 12, 3) := by decide +kernel
theorem dX10_log_61 : decode cX10_log 61 = .ok (.aload_n 0, 1) := by decide +kernel
theorem dX10_log_62 : decode cX10_log 62 = .ok (.getfield 122, 3) := by decide +kernel
theorem dX10_log_65 : decode cX10_log 65 = .ok (.iload_n 1, 1) := by decide +kernel
theorem dX10_log_66 : decode cX10_log 66 = .ok (.iaload, 1) := by decide +kernel
theorem dX10_log_67 : decode cX10_log 67 = .ok (.goto 37, 3) := by decide +kernel
theorem dX10_log_70 : decode cX10_log 70 = .ok (.iload_n 2, 1) := by decide +kernel
theorem dX10_log_71 : decode cX10_log 71 = .ok (.iconst 2, 1) := by decide +kernel
theorem dX10_log_72 : decode cX10_log 72 = .ok (.if_icmp .ne 12, 3) := by decide +kernel
theorem dX10_log_75 : decode cX10_log 75 = .ok (.aload_n 0, 1) := by decide +kernel
theorem dX10_log_76 : decode cX10_log 76 = .ok (.getfield 125, 3) := by decide +kernel
theorem dX10_log_79 : decode cX10_log 79 = .ok (.iload_n 1, 1) := by decide +kernel
theorem dX10_log_80 : decode cX10_log 80 = .ok (.iaload, 1) := by decide +kernel
theorem dX10_log_81 : decode cX10_log 81 = .ok (.goto 23, 3) := by decide +kernel
theorem dX10_log_84 : decode cX10_log 84 = .ok (.iload_n 2, 1) := by decide +kernel
theorem dX10_log_85 : decode cX10_log 85 = .ok (.iconst 3, 1) := by decide +kernel
theorem dX10_log_86 : decode cX10_log 86 = .ok (.if_icmp .ne 12, 3) := by decide +kernel
theorem dX10_log_89 : decode cX10_log 89 = .ok (.aload_n 0, 1) := by decide +kernel
theorem dX10_log_90 : decode cX10_log 90 = .ok (.getfield 128, 3) := by decide +kernel
theorem dX10_log_93 : decode cX10_log 93 = .ok (.iload_n 1, 1) := by decide +kernel
theorem dX10_log_94 : decode cX10_log 94 = .ok (.iaload, 1) := by decide +kernel
theorem dX10_log_95 : decode cX10_log 95 = .ok (.goto 9, 3) := by decide +kernel
theorem dX10_log_98 : decode cX10_log 98 = .ok (.aload_n 0, 1) := by decide +kernel
theorem dX10_log_99 : decode cX10_log 99 = .ok (.getfield 131, 3) := by decide +kernel
theorem dX10_log_102 : decode cX10_log 102 = .ok (.iload_n 1, 1) := by decide +kernel
theorem dX10_log_103 : decode cX10_log 103 = .ok (.iaload, 1) := by decide +kernel
theorem dX10_log_104 : decode cX10_log 104 = .ok (.ireturn, 1) := by decide +kernel
theorem dX10_make_0 : decode cX10_make 0 = .ok (.aload_n 0, 1) := by decide +kernel
theorem dX10_make_1 : decode cX10_make 1 = .ok (.iconst 0, 1) := by decide +kernel
theorem dX10_make_2 : decode cX10_make 2 = .ok (.putfield 137, 3) := by decide +kernel
theorem dX10_make_5 : decode cX10_make 5 = .ok (.aload_n 0, 1) := by decide +kernel
theorem dX10_make_6 : decode cX10_make 6 = .ok (.iload_n 3, 1) := by decide +kernel
theorem dX10_make_7 : decode cX10_make 7 = .ok (.iconst 0, 1) := by decide +kernel
theorem dX10_make_8 : decode cX10_make 8 = .ok (.sipush 255, 3) := by decide +kernel
theorem dX10_make_11 : decode cX10_make 11 = .ok (.invokestatic 179, 3) := by decide +kernel
theorem dX10_make_14 : decode cX10_make 14 = .ok (.ifCond .eq 27, 3) := by decide +kernel
theorem dX10_make_17 : decode cX10_make 17 = .ok (.iload 4, 2) := by decide +kernel
theorem dX10_make_19 : decode cX10_make 19 = .ok (.iconst 0, 1) := by decide +kernel
theorem dX10_make_20 : decode cX10_make 20 = .ok (.sipush 255, 3) := by decide +kernel
theorem dX10_make_23 : decode cX10_make 23 = .ok (.invokestatic 179, 3) := by decide +kernel
theorem dX10_make_26 : decode cX10_make 26 = .ok (.ifCond .eq 15, 3) := by decide +kernel
theorem dX10_make_29 : decode cX10_make 29 = .ok (.iload 5, 2) := by decide +kernel
theorem dX10_make_31 : decode cX10_make 31 = .ok (.iconst 0, 1) := by decide +kernel
theorem dX10_make_32 : decode cX10_make 32 = .ok (.sipush 1480, 3) := by decide +kernel
theorem dX10_make_35 : decode cX10_make 35 = .ok (.invokestatic 179, 3) := by decide +kernel
theorem dX10_make_38 : decode cX10_make 38 = .ok (.ifCond .ne 7, 3) := by decide +kernel
theorem dX10_make_41 : decode cX10_make 41 = .ok (.iconst 1, 1) := by decide +kernel
theorem dX10_make_42 : decode cX10_make 42 = .ok (.goto 4, 3) := by decide +kernel
theorem dX10_make_45 : decode cX10_make 45 = .ok (.iconst 0, 1) := by decide +kernel
theorem dX10_make_46 : decode cX10_make 46 = .ok (.iconst 1, 1) := by decide +kernel
theorem dX10_make_47 : decode cX10_make 47 = .ok (.invokevirtual 171, 3) := by decide +kernel
theorem dX10_make_50 : decode cX10_make 50 = .ok (.ifCond .eq 5, 3) := by decide +kernel
theorem dX10_make_53 : decode cX10_make 53 = .ok (.iconst 0, 1) := by decide +kernel
theorem dX10_make_54 : decode cX10_make 54 = .ok (.ireturn, 1) := by decide +kernel
theorem dX10_make_55 : decode cX10_make 55 = .ok (.aload_n 0, 1) := by decide +kernel
theorem dX10_make_56 : decode cX10_make 56 = .ok (.iconst 0, 1) := by decide +kernel
theorem dX10_make_57 : decode cX10_make 57 = .ok (.ldc 183, 2) := by decide +kernel
theorem dX10_make_59 : decode cX10_make 59 = .ok (.bipush 20, 2) := by decide +kernel
theorem dX10_make_61 : decode cX10_make 61 = .ok (.iload 5, 2) := by decide +kernel
theorem dX10_make_63 : decode cX10_make 63 = .ok (.iadd, 1) := by decide +kernel
theorem dX10_make_64 : decode cX10_make 64 = .ok (.ior, 1) := by decide +kernel
theorem dX10_make_65 : decode cX10_make 65 = .ok (.invokevirtual 148, 3) := by decide +kernel
theorem dX10_make_68 : decode cX10_make 68 = .ok (.aload_n 0, 1) := by decide +kernel
theorem dX10_make_69 : decode cX10_make 69 = .ok (.iconst 4, 1) := by decide +kernel
theorem dX10_make_70 : decode cX10_make 70 = .ok (.iconst 0, 1) := by decide +kernel
theorem dX10_make_71 : decode cX10_make 71 = .ok (.invokevirtual 148, 3) := by decide +kernel
theorem dX10_make_74 : decode cX10_make 74 = .ok (.aload_n 0, 1) := by decide +kernel
theorem dX10_make_75 : decode cX10_make 75 = .ok (.getfield 7, 3) := by decide +kernel
theorem dX10_make_78 : decode cX10_make 78 = .ok (.bipush 8, 2) := by decide +kernel
theorem dX10_make_80 : decode cX10_make 80 = .ok (.iload 4, 2) := by decide +kernel
theorem dX10_make_82 : decode cX10_make 82 = .ok (.iastore, 1) := by decide +kernel
theorem dX10_make_83 : decode cX10_make 83 = .ok (.aload_n 0, 1) := by decide +kernel
theorem dX10_make_84 : decode cX10_make 84 = .ok (.getfield 7, 3) := by decide +kernel
theorem dX10_make_87 : decode cX10_make 87 = .ok (.bipush 9, 2) := by decide +kernel
theorem dX10_make_89 : decode cX10_make 89 = .ok (.iload_n 3, 1) := by decide +kernel
theorem dX10_make_90 : decode cX10_make 90 = .ok (.iastore, 1) := by decide +kernel
theorem dX10_make_91 : decode cX10_make 91 = .ok (.aload_n 0, 1) := by decide +kernel
theorem dX10_make_92 : decode cX10_make 92 = .ok (.bipush 12, 2) := by decide +kernel
theorem dX10_make_94 : decode cX10_make 94 = .ok (.iload_n 1, 1) := by decide +kernel
theorem dX10_make_95 : decode cX10_make 95 = .ok (.invokevirtual 148, 3) := by decide +kernel
theorem dX10_make_98 : decode cX10_make 98 = .ok (.aload_n 0, 1) := by decide +kernel
theorem dX10_make_99 : decode cX10_make 99 = .ok (.bipush 16, 2) := by decide +kernel
theorem dX10_make_101 : decode cX10_make 101 = .ok (.iload_n 2, 1) := by decide +kernel
theorem dX10_make_102 : decode cX10_make 102 = .ok (.invokevirtual 148, 3) := by decide +kernel
theorem dX10_make_105 : decode cX10_make 105 = .ok (.iconst 0, 1) := by decide +kernel
theorem dX10_make_106 : decode cX10_make 106 = .ok (.istore 7, 2) := by decide +kernel
theorem dX10_make_108 : decode cX10_make 108 = .ok (.iload 7, 2) := by decide +kernel
theorem dX10_make_110 : decode cX10_make 110 = .ok (.iload 5, 2) := by decide +kernel
theorem dX10_make_112 : decode cX10_make 112 = .ok (.if_icmp .ge 28, 3) := by decide +kernel
theorem dX10_make_115 : decode cX10_make 115 = .ok (.aload_n 0, 1) := by decide +kernel
theorem dX10_make_116 : decode cX10_make 116 = .ok (.getfield 7, 3) := by decide +kernel
theorem dX10_make_119 : decode cX10_make 119 = .ok (.bipush 20, 2) := by decide +kernel
theorem dX10_make_121 : decode cX10_make 121 = .ok (.iload 7, 2) := by decide +kernel
theorem dX10_make_123 : decode cX10_make 123 = .ok (.iadd, 1) := by decide +kernel
theorem dX10_make_124 : decode cX10_make 124 = .ok (.iload 7, 2) := by decide +kernel
theorem dX10_make_126 : decode cX10_make 126 = .ok (.iload 6, 2) := by decide +kernel
theorem dX10_make_128 : decode cX10_make 128 = .ok (.iadd, 1) := by decide +kernel
theorem dX10_make_129 : decode cX10_make 129 = .ok (.sipush 255, 3) := by decide +kernel
theorem dX10_make_132 : decode cX10_make 132 = .ok (.iand, 1) := by decide +kernel
theorem dX10_make_133 : decode cX10_make 133 = .ok (.iastore, 1) := by decide +kernel
theorem dX10_make_134 : decode cX10_make 134 = .ok (.iinc 7 1, 3) := by decide +kernel
theorem dX10_make_137 : decode cX10_make 137 = .ok (.goto (-29), 3) := by decide +kernel
theorem dX10_make_140 : decode cX10_make 140 = .ok (.aload_n 0, 1) := by decide +kernel
theorem dX10_make_141 : decode cX10_make 141 = .ok (.iconst 0, 1) := by decide +kernel
theorem dX10_make_142 : decode cX10_make 142 = .ok (.invokevirtual 184, 3) := by decide +kernel
theorem dX10_make_145 : decode cX10_make 145 = .ok (.aload_n 0, 1) := by decide +kernel
theorem dX10_make_146 : decode cX10_make 146 = .ok (.bipush 20, 2) := by decide +kernel
theorem dX10_make_148 : decode cX10_make 148 = .ok (.iload 5, 2) := by decide +kernel
theorem dX10_make_150 : decode cX10_make 150 = .ok (.iadd, 1) := by decide +kernel
theorem dX10_make_151 : decode cX10_make 151 = .ok (.putfield 168, 3) := by decide +kernel
theorem dX10_make_154 : decode cX10_make 154 = .ok (.aload_n 0, 1) := by decide +kernel
theorem dX10_make_155 : decode cX10_make 155 = .ok (.getfield 168, 3) := by decide +kernel
theorem dX10_make_158 : decode cX10_make 158 = .ok (.ireturn, 1) := by decide +kernel
theorem dX10_meaning_0 : decode cX10_meaning 0 = .ok (.aload_n 0, 1) := by decide +kernel
theorem dX10_meaning_1 : decode cX10_meaning 1 = .ok (.iconst 0, 1) := by decide +kernel
theorem dX10_meaning_2 : decode cX10_meaning 2 = .ok (.putfield 137, 3) := by decide +kernel
theorem dX10_meaning_5 : decode cX10_meaning 5 = .ok (.aload_n 0, 1) := by decide +kernel
theorem dX10_meaning_6 : decode cX10_meaning 6 = .ok (.iload_n 1, 1) := by decide +kernel
theorem dX10_meaning_7 : decode cX10_meaning 7 = .ok (.iconst 0, 1) := by decide +kernel
theorem dX10_meaning_8 : decode cX10_meaning 8 = .ok (.iconst 1, 1) := by decide +kernel
theorem dX10_meaning_9 : decode cX10_meaning 9 = .ok (.invokestatic 179, 3) := by decide +kernel
theorem dX10_meaning_12 : decode cX10_meaning 12 = .ok (.ifCond .ne 7, 3) := by decide +kernel
theorem dX10_meaning_15 : decode cX10_meaning 15 = .ok (.iconst 1, 1) := by decide +kernel
theorem dX10_meaning_16 : decode cX10_meaning 16 = .ok (.goto 4, 3) := by decide +kernel
theorem dX10_meaning_19 : decode cX10_meaning 19 = .ok (.iconst 0, 1) := by decide +kernel
theorem dX10_meaning_20 : decode cX10_meaning 20 = .ok (.iconst 1, 1) := by decide +kernel
theorem dX10_meaning_21 : decode cX10_meaning 21 = .ok (.invokevirtual 171, 3) := by decide +kernel
theorem dX10_meaning_24 : decode cX10_meaning 24 = .ok (.ifCond .eq 5, 3) := by decide +kernel
theorem dX10_meaning_27 : decode cX10_meaning 27 = .ok (.iconst 0, 1) := by decide +kernel
theorem dX10_meaning_28 : decode cX10_meaning 28 = .ok (.ireturn, 1) := by decide +kernel
theorem dX10_meaning_29 : decode cX10_meaning 29 = .ok (.aload_n 0, 1) := by decide +kernel
theorem dX10_meaning_30 : decode cX10_meaning 30 = .ok (.iconst 0, 1) := by decide +kernel
theorem dX10_meaning_31 : decode cX10_meaning 31 = .ok (.aload_n 0, 1) := by decide +kernel
theorem dX10_meaning_32 : decode cX10_meaning 32 = .ok (.getfield 168, 3) := by decide +kernel
theorem dX10_meaning_35 : decode cX10_meaning 35 = .ok (.invokevirtual 225, 3) := by decide +kernel
theorem dX10_meaning_38 : decode cX10_meaning 38 = .ok (.ifCond .eq 7, 3) := by decide +kernel
theorem dX10_meaning_41 : decode cX10_meaning 41 = .ok (.iconst (-1), 1) := by decide +kernel
theorem dX10_meaning_42 : decode cX10_meaning 42 = .ok (.goto 9, 3) := by decide +kernel
theorem dX10_meaning_45 : decode cX10_meaning 45 = .ok (.aload_n 0, 1) := by decide +kernel
theorem dX10_meaning_46 : decode cX10_meaning 46 = .ok (.iload_n 1, 1) := by decide +kernel
theorem dX10_meaning_47 : decode cX10_meaning 47 = .ok (.iconst 0, 1) := by decide +kernel
theorem dX10_meaning_48 : decode cX10_meaning 48 = .ok (.invokevirtual 228, 3) := by decide +kernel
theorem dX10_meaning_51 : decode cX10_meaning 51 = .ok (.ireturn, 1) := by decide +kernel
theorem dX10_means_0 : decode cX10_means 0 = .ok (.aload_n 0, 1) := by decide +kernel
theorem dX10_means_1 : decode cX10_means 1 = .ok (.iload_n 2, 1) := by decide +kernel
theorem dX10_means_2 : decode cX10_means 2 = .ok (.invokevirtual 215, 3) := by decide +kernel
theorem dX10_means_5 : decode cX10_means 5 = .ok (.istore_n 3, 1) := by decide +kernel
theorem dX10_means_6 : decode cX10_means 6 = .ok (.aload_n 0, 1) := by decide +kernel
theorem dX10_means_7 : decode cX10_means 7 = .ok (.getfield 43, 3) := by decide +kernel
theorem dX10_means_10 : decode cX10_means 10 = .ok (.iload_n 1, 1) := by decide +kernel
theorem dX10_means_11 : decode cX10_means 11 = .ok (.iaload, 1) := by decide +kernel
theorem dX10_means_12 : decode cX10_means 12 = .ok (.ifCond .ne 18, 3) := by decide +kernel
theorem dX10_means_15 : decode cX10_means 15 = .ok (.aload_n 0, 1) := by decide +kernel
theorem dX10_means_16 : decode cX10_means 16 = .ok (.getfield 46, 3) := by decide +kernel
theorem dX10_means_19 : decode cX10_means 19 = .ok (.iload_n 1, 1) := by decide +kernel
theorem dX10_means_20 : decode cX10_means 20 = .ok (.iaload, 1) := by decide +kernel
theorem dX10_means_21 : decode cX10_means 21 = .ok (.ldc 52, 2) := by decide +kernel
theorem dX10_means_23 : decode cX10_means 23 = .ok (.if_icmp .ne 7, 3) := by decide +kernel
theorem dX10_means_26 : decode cX10_means 26 = .ok (.iconst 1, 1) := by decide +kernel
theorem dX10_means_27 : decode cX10_means 27 = .ok (.goto 4, 3) := by decide +kernel
theorem dX10_means_30 : decode cX10_means 30 = .ok (.iconst 0, 1) := by decide +kernel
theorem dX10_means_31 : decode cX10_means 31 = .ok (.istore 4, 2) := by decide +kernel
theorem dX10_means_33 : decode cX10_means 33 = .ok (.aload_n 0, 1) := by decide +kernel
theorem dX10_means_34 : decode cX10_means 34 = .ok (.getfield 40, 3) := by decide +kernel
theorem dX10_means_37 : decode cX10_means 37 = .ok (.iload_n 1, 1) := by decide +kernel
theorem dX10_means_38 : decode cX10_means 38 = .ok (.iaload, 1) := by decide +kernel
theorem dX10_means_39 : decode cX10_means 39 = .ok (.ifCond .eq 21, 3) := by decide +kernel
theorem dX10_means_42 : decode cX10_means 42 = .ok (.aload_n 0, 1) := by decide +kernel
theorem dX10_means_43 : decode cX10_means 43 = .ok (.getfield 40, 3) := by decide +kernel
theorem dX10_means_46 : decode cX10_means 46 = .ok (.iload_n 1, 1) := by decide +kernel
theorem dX10_means_47 : decode cX10_means 47 = .ok (.iaload, 1) := by decide +kernel
theorem dX10_means_48 : decode cX10_means 48 = .ok (.aload_n 0, 1) := by decide +kernel
theorem dX10_means_49 : decode cX10_means 49 = .ok (.getfield 7, 3) := by decide +kernel
theorem dX10_means_52 : decode cX10_means 52 = .ok (.iload_n 2, 1) := by decide +kernel
theorem dX10_means_53 : decode cX10_means 53 = .ok (.bipush 9, 2) := by decide +kernel
theorem dX10_means_55 : decode cX10_means 55 = .ok (.iadd, 1) := by decide +kernel
theorem dX10_means_56 : decode cX10_means 56 = .ok (.iaload, 1) := by decide +kernel
theorem dX10_means_57 : decode cX10_means 57 = .ok (.if_icmp .ne 7, 3) := by decide +kernel
theorem dX10_means_60 : decode cX10_means 60 = .ok (.iconst 1, 1) := by decide +kernel
theorem dX10_means_61 : decode cX10_means 61 = .ok (.goto 4, 3) := by decide +kernel
theorem dX10_means_64 : decode cX10_means 64 = .ok (.iconst 0, 1) := by decide +kernel
theorem dX10_means_65 : decode cX10_means 65 = .ok (.istore 5, 2) := by decide +kernel
theorem dX10_means_67 : decode cX10_means 67 = .ok (.aload_n 0, 1) := by decide +kernel
theorem dX10_means_68 : decode cX10_means 68 = .ok (.iload_n 2, 1) := by decide +kernel
theorem dX10_means_69 : decode cX10_means 69 = .ok (.bipush 12, 2) := by decide +kernel
theorem dX10_means_71 : decode cX10_means 71 = .ok (.iadd, 1) := by decide +kernel
theorem dX10_means_72 : decode cX10_means 72 = .ok (.invokevirtual 218, 3) := by decide +kernel
theorem dX10_means_75 : decode cX10_means 75 = .ok (.aload_n 0, 1) := by decide +kernel
theorem dX10_means_76 : decode cX10_means 76 = .ok (.getfield 28, 3) := by decide +kernel
theorem dX10_means_79 : decode cX10_means 79 = .ok (.iload_n 1, 1) := by decide +kernel
theorem dX10_means_80 : decode cX10_means 80 = .ok (.iaload, 1) := by decide +kernel
theorem dX10_means_81 : decode cX10_means 81 = .ok (.aload_n 0, 1) := by decide +kernel
theorem dX10_means_82 : decode cX10_means 82 = .ok (.getfield 31, 3) := by decide +kernel
theorem dX10_means_85 : decode cX10_means 85 = .ok (.iload_n 1, 1) := by decide +kernel
theorem dX10_means_86 : decode cX10_means 86 = .ok (.iaload, 1) := by decide +kernel
theorem dX10_means_87 : decode cX10_means 87 = .ok (.invokestatic 212, 3) := by decide +kernel
theorem dX10_means_90 : decode cX10_means 90 = .ok (.ifCond .eq 33, 3) := by decide +kernel
theorem dX10_means_93 : decode cX10_means 93 = .ok (.aload_n 0, 1) := by decide +kernel
theorem dX10_means_94 : decode cX10_means 94 = .ok (.iload_n 2, 1) := by decide +kernel
theorem dX10_means_95 : decode cX10_means 95 = .ok (.bipush 16, 2) := by decide +kernel
theorem dX10_means_97 : decode cX10_means 97 = .ok (.iadd, 1) := by decide +kernel
theorem dX10_means_98 : decode cX10_means 98 = .ok (.invokevirtual 218, 3) := by decide +kernel
theorem dX10_means_101 : decode cX10_means 101 = .ok (.aload_n 0, 1) := by decide +kernel
theorem dX10_means_102 : decode cX10_means 102 = .ok (.getfield 34, 3) := by decide +kernel
theorem dX10_means_105 : decode cX10_means 105 = .ok (.iload_n 1, 1) := by decide +kernel
theorem dX10_means_106 : decode cX10_means 106 = .ok (.iaload, 1) := by decide +kernel
theorem dX10_means_107 : decode cX10_means 107 = .ok (.aload_n 0, 1) := by decide +kernel
theorem dX10_means_108 : decode cX10_means 108 = .ok (.getfield 37, 3) := by decide +kernel
theorem dX10_means_111 : decode cX10_means 111 = .ok (.iload_n 1, 1) := by decide +kernel
theorem dX10_means_112 : decode cX10_means 112 = .ok (.iaload, 1) := by decide +kernel
theorem dX10_means_113 : decode cX10_means 113 = .ok (.invokestatic 212, 3) := by decide +kernel
theorem dX10_means_116 : decode cX10_means 116 = .ok (.ifCond .eq 7, 3) := by decide +kernel
theorem dX10_means_119 : decode cX10_means 119 = .ok (.iconst 1, 1) := by decide +kernel
theorem dX10_means_120 : decode cX10_means 120 = .ok (.goto 4, 3) := by decide +kernel
theorem dX10_means_123 : decode cX10_means 123 = .ok (.iconst 0, 1) := by decide +kernel
theorem dX10_means_124 : decode cX10_means 124 = .ok (.istore 6, 2) := by decide +kernel
theorem dX10_means_126 : decode cX10_means 126 = .ok (.iload 5, 2) := by decide +kernel
theorem dX10_means_128 : decode cX10_means 128 = .ok (.ifCond .eq 40, 3) := by decide +kernel
theorem dX10_means_131 : decode cX10_means 131 = .ok (.iload 6, 2) := by decide +kernel
theorem dX10_means_133 : decode cX10_means 133 = .ok (.ifCond .eq 35, 3) := by decide +kernel
theorem dX10_means_136 : decode cX10_means 136 = .ok (.iload 4, 2) := by decide +kernel
theorem dX10_means_138 : decode cX10_means 138 = .ok (.ifCond .ne 26, 3) := by decide +kernel
theorem dX10_means_141 : decode cX10_means 141 = .ok (.iload_n 3, 1) := by decide +kernel
theorem dX10_means_142 : decode cX10_means 142 = .ok (.ifCond .lt 26, 3) := by decide +kernel
theorem dX10_means_145 : decode cX10_means 145 = .ok (.iload_n 3, 1) := by decide +kernel
theorem dX10_means_146 : decode cX10_means 146 = .ok (.aload_n 0, 1) := by decide +kernel
theorem dX10_means_147 : decode cX10_means 147 = .ok (.getfield 43, 3) := by decide +kernel
theorem dX10_means_150 : decode cX10_means 150 = .ok (.iload_n 1, 1) := by decide +kernel
theorem dX10_means_151 : decode cX10_means 151 = .ok (.iaload, 1) := by decide +kernel
theorem dX10_means_152 : decode cX10_means 152 = .ok (.aload_n 0, 1) := by decide +kernel
theorem dX10_means_153 : decode cX10_means 153 = .ok (.getfield 46, 3) := by decide +kernel
theorem dX10_means_156 : decode cX10_means 156 = .ok (.iload_n 1, 1) := by decide +kernel
theorem dX10_means_157 : decode cX10_means 157 = .ok (.iaload, 1) := by decide +kernel
theorem dX10_means_158 : decode cX10_means 158 = .ok (.invokestatic 179, 3) := by decide +kernel
theorem dX10_means_161 : decode cX10_means 161 = .ok (.ifCond .eq 7, 3) := by decide +kernel
theorem dX10_means_164 : decode cX10_means 164 = .ok (.iconst 1, 1) := by decide +kernel
theorem dX10_means_165 : decode cX10_means 165 = .ok (.goto 4, 3) := by decide +kernel
theorem dX10_means_168 : decode cX10_means 168 = .ok (.iconst 0, 1) := by decide +kernel
theorem dX10_means_169 : decode cX10_means 169 = .ok (.ireturn, 1) := by decide +kernel
theorem dX10_meant_0 : decode cX10_meant 0 = .ok (.aload_n 0, 1) := by decide +kernel
theorem dX10_meant_1 : decode cX10_meant 1 = .ok (.iconst 0, 1) := by decide +kernel
theorem dX10_meant_2 : decode cX10_meant 2 = .ok (.putfield 137, 3) := by decide +kernel
theorem dX10_meant_5 : decode cX10_meant 5 = .ok (.aload_n 0, 1) := by decide +kernel
theorem dX10_meant_6 : decode cX10_meant 6 = .ok (.iload_n 1, 1) := by decide +kernel
theorem dX10_meant_7 : decode cX10_meant 7 = .ok (.iconst 0, 1) := by decide +kernel
theorem dX10_meant_8 : decode cX10_meant 8 = .ok (.sipush 255, 3) := by decide +kernel
theorem dX10_meant_11 : decode cX10_meant 11 = .ok (.invokestatic 179, 3) := by decide +kernel
theorem dX10_meant_14 : decode cX10_meant 14 = .ok (.ifCond .eq 22, 3) := by decide +kernel
theorem dX10_meant_17 : decode cX10_meant 17 = .ok (.iload_n 3, 1) := by decide +kernel
theorem dX10_meant_18 : decode cX10_meant 18 = .ok (.iconst 0, 1) := by decide +kernel
theorem dX10_meant_19 : decode cX10_meant 19 = .ok (.ldc 52, 2) := by decide +kernel
theorem dX10_meant_21 : decode cX10_meant 21 = .ok (.invokestatic 179, 3) := by decide +kernel
theorem dX10_meant_24 : decode cX10_meant 24 = .ok (.ifCond .eq 12, 3) := by decide +kernel
theorem dX10_meant_27 : decode cX10_meant 27 = .ok (.iload_n 2, 1) := by decide +kernel
theorem dX10_meant_28 : decode cX10_meant 28 = .ok (.iconst 0, 1) := by decide +kernel
theorem dX10_meant_29 : decode cX10_meant 29 = .ok (.iload_n 3, 1) := by decide +kernel
theorem dX10_meant_30 : decode cX10_meant 30 = .ok (.invokestatic 179, 3) := by decide +kernel
theorem dX10_meant_33 : decode cX10_meant 33 = .ok (.ifCond .ne 7, 3) := by decide +kernel
theorem dX10_meant_36 : decode cX10_meant 36 = .ok (.iconst 1, 1) := by decide +kernel
theorem dX10_meant_37 : decode cX10_meant 37 = .ok (.goto 4, 3) := by decide +kernel
theorem dX10_meant_40 : decode cX10_meant 40 = .ok (.iconst 0, 1) := by decide +kernel
theorem dX10_meant_41 : decode cX10_meant 41 = .ok (.iconst 1, 1) := by decide +kernel
theorem dX10_meant_42 : decode cX10_meant 42 = .ok (.invokevirtual 171, 3) := by decide +kernel
theorem dX10_meant_45 : decode cX10_meant 45 = .ok (.ifCond .ne 18, 3) := by decide +kernel
theorem dX10_meant_48 : decode cX10_meant 48 = .ok (.aload_n 0, 1) := by decide +kernel
theorem dX10_meant_49 : decode cX10_meant 49 = .ok (.iload_n 1, 1) := by decide +kernel
theorem dX10_meant_50 : decode cX10_meant 50 = .ok (.putfield 191, 3) := by decide +kernel
theorem dX10_meant_53 : decode cX10_meant 53 = .ok (.aload_n 0, 1) := by decide +kernel
theorem dX10_meant_54 : decode cX10_meant 54 = .ok (.iload_n 2, 1) := by decide +kernel
theorem dX10_meant_55 : decode cX10_meant 55 = .ok (.putfield 194, 3) := by decide +kernel
theorem dX10_meant_58 : decode cX10_meant 58 = .ok (.aload_n 0, 1) := by decide +kernel
theorem dX10_meant_59 : decode cX10_meant 59 = .ok (.iload_n 3, 1) := by decide +kernel
theorem dX10_meant_60 : decode cX10_meant 60 = .ok (.putfield 53, 3) := by decide +kernel
theorem dX10_meant_63 : decode cX10_meant 63 = .ok (.return_, 1) := by decide +kernel
theorem dX10_move_0 : decode cX10_move 0 = .ok (.iconst 0, 1) := by decide +kernel
theorem dX10_move_1 : decode cX10_move 1 = .ok (.istore 4, 2) := by decide +kernel
theorem dX10_move_3 : decode cX10_move 3 = .ok (.iload 4, 2) := by decide +kernel
theorem dX10_move_5 : decode cX10_move 5 = .ok (.iload_n 3, 1) := by decide +kernel
theorem dX10_move_6 : decode cX10_move 6 = .ok (.if_icmp .ge 27, 3) := by decide +kernel
theorem dX10_move_9 : decode cX10_move 9 = .ok (.aload_n 0, 1) := by decide +kernel
theorem dX10_move_10 : decode cX10_move 10 = .ok (.getfield 7, 3) := by decide +kernel
theorem dX10_move_13 : decode cX10_move 13 = .ok (.iload_n 2, 1) := by decide +kernel
theorem dX10_move_14 : decode cX10_move 14 = .ok (.iload 4, 2) := by decide +kernel
theorem dX10_move_16 : decode cX10_move 16 = .ok (.iadd, 1) := by decide +kernel
theorem dX10_move_17 : decode cX10_move 17 = .ok (.aload_n 0, 1) := by decide +kernel
theorem dX10_move_18 : decode cX10_move 18 = .ok (.getfield 7, 3) := by decide +kernel
theorem dX10_move_21 : decode cX10_move 21 = .ok (.iload_n 1, 1) := by decide +kernel
theorem dX10_move_22 : decode cX10_move 22 = .ok (.iload 4, 2) := by decide +kernel
theorem dX10_move_24 : decode cX10_move 24 = .ok (.iadd, 1) := by decide +kernel
theorem dX10_move_25 : decode cX10_move 25 = .ok (.iaload, 1) := by decide +kernel
theorem dX10_move_26 : decode cX10_move 26 = .ok (.iastore, 1) := by decide +kernel
theorem dX10_move_27 : decode cX10_move 27 = .ok (.iinc 4 1, 3) := by decide +kernel
theorem dX10_move_30 : decode cX10_move 30 = .ok (.goto (-27), 3) := by decide +kernel
theorem dX10_move_33 : decode cX10_move 33 = .ok (.return_, 1) := by decide +kernel
theorem dX10_newHeap_0 : decode cX10_newHeap 0 = .ok (.iconst 0, 1) := by decide +kernel
theorem dX10_newHeap_1 : decode cX10_newHeap 1 = .ok (.istore_n 3, 1) := by decide +kernel
theorem dX10_newHeap_2 : decode cX10_newHeap 2 = .ok (.iconst 3, 1) := by decide +kernel
theorem dX10_newHeap_3 : decode cX10_newHeap 3 = .ok (.istore 4, 2) := by decide +kernel
theorem dX10_newHeap_5 : decode cX10_newHeap 5 = .ok (.iload 4, 2) := by decide +kernel
theorem dX10_newHeap_7 : decode cX10_newHeap 7 = .ok (.ifCond .lt 26, 3) := by decide +kernel
theorem dX10_newHeap_10 : decode cX10_newHeap 10 = .ok (.aload_n 0, 1) := by decide +kernel
theorem dX10_newHeap_11 : decode cX10_newHeap 11 = .ok (.getfield 95, 3) := by decide +kernel
theorem dX10_newHeap_14 : decode cX10_newHeap 14 = .ok (.iload 4, 2) := by decide +kernel
theorem dX10_newHeap_16 : decode cX10_newHeap 16 = .ok (.baload, 1) := by decide +kernel
theorem dX10_newHeap_17 : decode cX10_newHeap 17 = .ok (.ifCond .ne 8, 3) := by decide +kernel
theorem dX10_newHeap_20 : decode cX10_newHeap 20 = .ok (.iload 4, 2) := by decide +kernel
theorem dX10_newHeap_22 : decode cX10_newHeap 22 = .ok (.goto 4, 3) := by decide +kernel
theorem dX10_newHeap_25 : decode cX10_newHeap 25 = .ok (.iload_n 3, 1) := by decide +kernel
theorem dX10_newHeap_26 : decode cX10_newHeap 26 = .ok (.istore_n 3, 1) := by decide +kernel
theorem dX10_newHeap_27 : decode cX10_newHeap 27 = .ok (.iinc 4 (-1), 3) := by decide +kernel
theorem dX10_newHeap_30 : decode cX10_newHeap 30 = .ok (.goto (-25), 3) := by decide +kernel
theorem dX10_newHeap_33 : decode cX10_newHeap 33 = .ok (.aload_n 0, 1) := by decide +kernel
theorem dX10_newHeap_34 : decode cX10_newHeap 34 = .ok (.getfield 95, 3) := by decide +kernel
theorem dX10_newHeap_37 : decode cX10_newHeap 37 = .ok (.iload_n 3, 1) := by decide +kernel
theorem dX10_newHeap_38 : decode cX10_newHeap 38 = .ok (.baload, 1) := by decide +kernel
theorem dX10_newHeap_39 : decode cX10_newHeap 39 = .ok (.ifCond .eq 41, 3) := by decide +kernel
theorem dX10_newHeap_42 : decode cX10_newHeap 42 = .ok (.iconst 0, 1) := by decide +kernel
theorem dX10_newHeap_43 : decode cX10_newHeap 43 = .ok (.istore 4, 2) := by decide +kernel
theorem dX10_newHeap_45 : decode cX10_newHeap 45 = .ok (.iload 4, 2) := by decide +kernel
theorem dX10_newHeap_47 : decode cX10_newHeap 47 = .ok (.iconst 4, 1) := by decide +kernel
theorem dX10_newHeap_48 : decode cX10_newHeap 48 = .ok (.if_icmp .ge 32, 3) := by decide +kernel
theorem dX10_newHeap_51 : decode cX10_newHeap 51 = .ok (.aload_n 0, 1) := by decide +kernel
theorem dX10_newHeap_52 : decode cX10_newHeap 52 = .ok (.getfield 107, 3) := by decide +kernel
theorem dX10_newHeap_55 : decode cX10_newHeap 55 = .ok (.iload 4, 2) := by decide +kernel
theorem dX10_newHeap_57 : decode cX10_newHeap 57 = .ok (.iaload, 1) := by decide +kernel
theorem dX10_newHeap_58 : decode cX10_newHeap 58 = .ok (.aload_n 0, 1) := by decide +kernel
theorem dX10_newHeap_59 : decode cX10_newHeap 59 = .ok (.getfield 107, 3) := by decide +kernel
theorem dX10_newHeap_62 : decode cX10_newHeap 62 = .ok (.iload_n 3, 1) := by decide +kernel
theorem dX10_newHeap_63 : decode cX10_newHeap 63 = .ok (.iaload, 1) := by decide +kernel
theorem dX10_newHeap_64 : decode cX10_newHeap 64 = .ok (.if_icmp .ge 8, 3) := by decide +kernel
theorem dX10_newHeap_67 : decode cX10_newHeap 67 = .ok (.iload 4, 2) := by decide +kernel
theorem dX10_newHeap_69 : decode cX10_newHeap 69 = .ok (.goto 4, 3) := by decide +kernel
theorem dX10_newHeap_72 : decode cX10_newHeap 72 = .ok (.iload_n 3, 1) := by decide +kernel
theorem dX10_newHeap_73 : decode cX10_newHeap 73 = .ok (.istore_n 3, 1) := by decide +kernel
theorem dX10_newHeap_74 : decode cX10_newHeap 74 = .ok (.iinc 4 1, 3) := by decide +kernel
theorem dX10_newHeap_77 : decode cX10_newHeap 77 = .ok (.goto (-32), 3) := by decide +kernel
theorem dX10_newHeap_80 : decode cX10_newHeap 80 = .ok (.aload_n 0, 1) := by decide +kernel
theorem dX10_newHeap_81 : decode cX10_newHeap 81 = .ok (.getfield 95, 3) := by decide +kernel
theorem dX10_newHeap_84 : decode cX10_newHeap 84 = .ok (.iload_n 3, 1) := by decide +kernel
theorem dX10_newHeap_85 : decode cX10_newHeap 85 = .ok (.iconst 1, 1) := by decide +kernel
theorem dX10_newHeap_86 : decode cX10_newHeap 86 = .ok (.bastore, 1) := by decide +kernel
theorem dX10_newHeap_87 : decode cX10_newHeap 87 = .ok (.aload_n 0, 1) := by decide +kernel
theorem dX10_newHeap_88 : decode cX10_newHeap 88 = .ok (.getfield 98, 3) := by decide +kernel
theorem dX10_newHeap_91 : decode cX10_newHeap 91 = .ok (.iload_n 3, 1) := by decide +kernel
theorem dX10_newHeap_92 : decode cX10_newHeap 92 = .ok (.iload_n 1, 1) := by decide +kernel
theorem dX10_newHeap_93 : decode cX10_newHeap 93 = .ok (.iastore, 1) := by decide +kernel
theorem dX10_newHeap_94 : decode cX10_newHeap 94 = .ok (.aload_n 0, 1) := by decide +kernel
theorem dX10_newHeap_95 : decode cX10_newHeap 95 = .ok (.getfield 101, 3) := by decide +kernel
theorem dX10_newHeap_98 : decode cX10_newHeap 98 = .ok (.iload_n 3, 1) := by decide +kernel
theorem dX10_newHeap_99 : decode cX10_newHeap 99 = .ok (.iload_n 2, 1) := by decide +kernel
theorem dX10_newHeap_100 : decode cX10_newHeap 100 = .ok (.iastore, 1) := by decide +kernel
theorem dX10_newHeap_101 : decode cX10_newHeap 101 = .ok (.aload_n 0, 1) := by decide +kernel
theorem dX10_newHeap_102 : decode cX10_newHeap 102 = .ok (.getfield 104, 3) := by decide +kernel
theorem dX10_newHeap_105 : decode cX10_newHeap 105 = .ok (.iload_n 3, 1) := by decide +kernel
theorem dX10_newHeap_106 : decode cX10_newHeap 106 = .ok (.iconst (-1), 1) := by decide +kernel
theorem dX10_newHeap_107 : decode cX10_newHeap 107 = .ok (.iastore, 1) := by decide +kernel
theorem dX10_newHeap_108 : decode cX10_newHeap 108 = .ok (.aload_n 0, 1) := by decide +kernel
theorem dX10_newHeap_109 : decode cX10_newHeap 109 = .ok (.getfield 107, 3) := by decide +kernel
theorem dX10_newHeap_112 : decode cX10_newHeap 112 = .ok (.iload_n 3, 1) := by decide +kernel
theorem dX10_newHeap_113 : decode cX10_newHeap 113 = .ok (.aload_n 0, 1) := by decide +kernel
theorem dX10_newHeap_114 : decode cX10_newHeap 114 = .ok (.getfield 292, 3) := by decide +kernel
theorem dX10_newHeap_117 : decode cX10_newHeap 117 = .ok (.iastore, 1) := by decide +kernel
theorem dX10_newHeap_118 : decode cX10_newHeap 118 = .ok (.aload_n 0, 1) := by decide +kernel
theorem dX10_newHeap_119 : decode cX10_newHeap 119 = .ok (.dup, 1) := by decide +kernel
theorem dX10_newHeap_120 : decode cX10_newHeap 120 = .ok (.getfield 292, 3) := by decide +kernel
theorem dX10_newHeap_123 : decode cX10_newHeap 123 = .ok (.iconst 1, 1) := by decide +kernel
theorem dX10_newHeap_124 : decode cX10_newHeap 124 = .ok (.iadd, 1) := by decide +kernel
theorem dX10_newHeap_125 : decode cX10_newHeap 125 = .ok (.putfield 292, 3) := by decide +kernel
theorem dX10_newHeap_128 : decode cX10_newHeap 128 = .ok (.aload_n 0, 1) := by decide +kernel
theorem dX10_newHeap_129 : decode cX10_newHeap 129 = .ok (.getfield 110, 3) := by decide +kernel
theorem dX10_newHeap_132 : decode cX10_newHeap 132 = .ok (.iload_n 3, 1) := by decide +kernel
theorem dX10_newHeap_133 : decode cX10_newHeap 133 = .ok (.iconst 0, 1) := by decide +kernel
theorem dX10_newHeap_134 : decode cX10_newHeap 134 = .ok (.iastore, 1) := by decide +kernel
theorem dX10_newHeap_135 : decode cX10_newHeap 135 = .ok (.iconst 0, 1) := by decide +kernel
theorem dX10_newHeap_136 : decode cX10_newHeap 136 = .ok (.istore 4, 2) := by decide +kernel
theorem dX10_newHeap_138 : decode cX10_newHeap 138 = .ok (.iload 4, 2) := by decide +kernel
theorem dX10_newHeap_140 : decode cX10_newHeap 140 = .ok (.sipush 1980, 3) := by decide +kernel
theorem dX10_newHeap_143 : decode cX10_newHeap 143 = .ok (.if_icmp .ge 23, 3) := by decide +kernel
theorem dX10_newHeap_146 : decode cX10_newHeap 146 = .ok (.aload_n 0, 1) := by decide +kernel
theorem dX10_newHeap_147 : decode cX10_newHeap 147 = .ok (.getfield 113, 3) := by decide +kernel
theorem dX10_newHeap_150 : decode cX10_newHeap 150 = .ok (.sipush 1980, 3) := by decide +kernel
theorem dX10_newHeap_153 : decode cX10_newHeap 153 = .ok (.iload_n 3, 1) := by decide +kernel
theorem dX10_newHeap_154 : decode cX10_newHeap 154 = .ok (.imul, 1) := by decide +kernel
theorem dX10_newHeap_155 : decode cX10_newHeap 155 = .ok (.iload 4, 2) := by decide +kernel
theorem dX10_newHeap_157 : decode cX10_newHeap 157 = .ok (.iadd, 1) := by decide +kernel
theorem dX10_newHeap_158 : decode cX10_newHeap 158 = .ok (.iconst 0, 1) := by decide +kernel
theorem dX10_newHeap_159 : decode cX10_newHeap 159 = .ok (.bastore, 1) := by decide +kernel
theorem dX10_newHeap_160 : decode cX10_newHeap 160 = .ok (.iinc 4 1, 3) := by decide +kernel
theorem dX10_newHeap_163 : decode cX10_newHeap 163 = .ok (.goto (-25), 3) := by decide +kernel
theorem dX10_newHeap_166 : decode cX10_newHeap 166 = .ok (.iload_n 3, 1) := by decide +kernel
theorem dX10_newHeap_167 : decode cX10_newHeap 167 = .ok (.ireturn, 1) := by decide +kernel
theorem dX10_note_0 : decode cX10_note 0 = .ok (.bipush 15, 2) := by decide +kernel
theorem dX10_note_2 : decode cX10_note 2 = .ok (.istore 5, 2) := by decide +kernel
theorem dX10_note_4 : decode cX10_note 4 = .ok (.iload 5, 2) := by decide +kernel
theorem dX10_note_6 : decode cX10_note 6 = .ok (.ifCond .le 89, 3) := by decide +kernel
theorem dX10_note_9 : decode cX10_note 9 = .ok (.aload_n 0, 1) := by decide +kernel
theorem dX10_note_10 : decode cX10_note 10 = .ok (.getfield 119, 3) := by decide +kernel
theorem dX10_note_13 : decode cX10_note 13 = .ok (.iload 5, 2) := by decide +kernel
theorem dX10_note_15 : decode cX10_note 15 = .ok (.aload_n 0, 1) := by decide +kernel
theorem dX10_note_16 : decode cX10_note 16 = .ok (.getfield 119, 3) := by decide +kernel
theorem dX10_note_19 : decode cX10_note 19 = .ok (.iload 5, 2) := by decide +kernel
theorem dX10_note_21 : decode cX10_note 21 = .ok (.iconst 1, 1) := by decide +kernel
theorem dX10_note_22 : decode cX10_note 22 = .ok (.isub, 1) := by decide +kernel
theorem dX10_note_23 : decode cX10_note 23 = .ok (.iaload, 1) := by decide +kernel
theorem dX10_note_24 : decode cX10_note 24 = .ok (.iastore, 1) := by decide +kernel
theorem dX10_note_25 : decode cX10_note 25 = .ok (.aload_n 0, 1) := by decide +kernel
theorem dX10_note_26 : decode cX10_note 26 = .ok (.getfield 122, 3) := by decide +kernel
theorem dX10_note_29 : decode cX10_note 29 = .ok (.iload 5, 2) := by decide +kernel
theorem dX10_note_31 : decode cX10_note 31 = .ok (.aload_n 0, 1) := by decide +kernel
theorem dX10_note_32 : decode cX10_note 32 = .ok (.getfield 122, 3) := by decide +kernel
theorem dX10_note_35 : decode cX10_note 35 = .ok (.iload 5, 2) := by decide +kernel
theorem dX10_note_37 : decode cX10_note 37 = .ok (.iconst 1, 1) := by decide +kernel
theorem dX10_note_38 : decode cX10_note 38 = .ok (.isub, 1) := by decide +kernel
theorem dX10_note_39 : decode cX10_note 39 = .ok (.iaload, 1) := by decide +kernel
theorem dX10_note_40 : decode cX10_note 40 = .ok (.iastore, 1) := by decide +kernel
theorem dX10_note_41 : decode cX10_note 41 = .ok (.aload_n 0, 1) := by decide +kernel
theorem dX10_note_42 : decode cX10_note 42 = .ok (.getfield 125, 3) := by decide +kernel
theorem dX10_note_45 : decode cX10_note 45 = .ok (.iload 5, 2) := by decide +kernel
theorem dX10_note_47 : decode cX10_note 47 = .ok (.aload_n 0, 1) := by decide +kernel
theorem dX10_note_48 : decode cX10_note 48 = .ok (.getfield 125, 3) := by decide +kernel
theorem dX10_note_51 : decode cX10_note 51 = .ok (.iload 5, 2) := by decide +kernel
theorem dX10_note_53 : decode cX10_note 53 = .ok (.iconst 1, 1) := by decide +kernel
theorem dX10_note_54 : decode cX10_note 54 = .ok (.isub, 1) := by decide +kernel
theorem dX10_note_55 : decode cX10_note 55 = .ok (.iaload, 1) := by decide +kernel
theorem dX10_note_56 : decode cX10_note 56 = .ok (.iastore, 1) := by decide +kernel
theorem dX10_note_57 : decode cX10_note 57 = .ok (.aload_n 0, 1) := by decide +kernel
theorem dX10_note_58 : decode cX10_note 58 = .ok (.getfield 128, 3) := by decide +kernel
theorem dX10_note_61 : decode cX10_note 61 = .ok (.iload 5, 2) := by decide +kernel
theorem dX10_note_63 : decode cX10_note 63 = .ok (.aload_n 0, 1) := by decide +kernel
theorem dX10_note_64 : decode cX10_note 64 = .ok (.getfield 128, 3) := by decide +kernel
theorem dX10_note_67 : decode cX10_note 67 = .ok (.iload 5, 2) := by decide +kernel
theorem dX10_note_69 : decode cX10_note 69 = .ok (.iconst 1, 1) := by decide +kernel
theorem dX10_note_70 : decode cX10_note 70 = .ok (.isub, 1) := by decide +kernel
theorem dX10_note_71 : decode cX10_note 71 = .ok (.iaload, 1) := by decide +kernel
theorem dX10_note_72 : decode cX10_note 72 = .ok (.iastore, 1) := by decide +kernel
theorem dX10_note_73 : decode cX10_note 73 = .ok (.aload_n 0, 1) := by decide +kernel
theorem dX10_note_74 : decode cX10_note 74 = .ok (.getfield 131, 3) := by decide +kernel
theorem dX10_note_77 : decode cX10_note 77 = .ok (.iload 5, 2) := by decide +kernel
theorem dX10_note_79 : decode cX10_note 79 = .ok (.aload_n 0, 1) := by decide +kernel
theorem dX10_note_80 : decode cX10_note 80 = .ok (.getfield 131, 3) := by decide +kernel
theorem dX10_note_83 : decode cX10_note 83 = .ok (.iload 5, 2) := by decide +kernel
theorem dX10_note_85 : decode cX10_note 85 = .ok (.iconst 1, 1) := by decide +kernel
theorem dX10_note_86 : decode cX10_note 86 = .ok (.isub, 1) := by decide +kernel
theorem dX10_note_87 : decode cX10_note 87 = .ok (.iaload, 1) := by decide +kernel
theorem dX10_note_88 : decode cX10_note 88 = .ok (.iastore, 1) := by decide +kernel
theorem dX10_note_89 : decode cX10_note 89 = .ok (.iinc 5 (-1), 3) := by decide +kernel
theorem dX10_note_92 : decode cX10_note 92 = .ok (.goto (-88), 3) := by decide +kernel
theorem dX10_note_95 : decode cX10_note 95 = .ok (.aload_n 0, 1) := by decide +kernel
theorem dX10_note_96 : decode cX10_note 96 = .ok (.getfield 119, 3) := by decide +kernel
theorem dX10_note_99 : decode cX10_note 99 = .ok (.iconst 0, 1) := by decide +kernel
theorem dX10_note_100 : decode cX10_note 100 = .ok (.iload_n 1, 1) := by decide +kernel
theorem dX10_note_101 : decode cX10_note 101 = .ok (.iastore, 1) := by decide +kernel
theorem dX10_note_102 : decode cX10_note 102 = .ok (.aload_n 0, 1) := by decide +kernel
theorem dX10_note_103 : decode cX10_note 103 = .ok (.getfield 122, 3) := by decide +kernel
theorem dX10_note_106 : decode cX10_note 106 = .ok (.iconst 0, 1) := by decide +kernel
theorem dX10_note_107 : decode cX10_note 107 = .ok (.aload_n 0, 1) := by decide +kernel
theorem dX10_note_108 : decode cX10_note 108 = .ok (.iload_n 2, 1) := by decide +kernel
theorem dX10_note_109 : decode cX10_note 109 = .ok (.bipush 12, 2) := by decide +kernel
theorem dX10_note_111 : decode cX10_note 111 = .ok (.iadd, 1) := by decide +kernel
theorem dX10_note_112 : decode cX10_note 112 = .ok (.invokevirtual 218, 3) := by decide +kernel
theorem dX10_note_115 : decode cX10_note 115 = .ok (.iastore, 1) := by decide +kernel
theorem dX10_note_116 : decode cX10_note 116 = .ok (.aload_n 0, 1) := by decide +kernel
theorem dX10_note_117 : decode cX10_note 117 = .ok (.getfield 125, 3) := by decide +kernel
theorem dX10_note_120 : decode cX10_note 120 = .ok (.iconst 0, 1) := by decide +kernel
theorem dX10_note_121 : decode cX10_note 121 = .ok (.aload_n 0, 1) := by decide +kernel
theorem dX10_note_122 : decode cX10_note 122 = .ok (.iload_n 2, 1) := by decide +kernel
theorem dX10_note_123 : decode cX10_note 123 = .ok (.bipush 16, 2) := by decide +kernel
theorem dX10_note_125 : decode cX10_note 125 = .ok (.iadd, 1) := by decide +kernel
theorem dX10_note_126 : decode cX10_note 126 = .ok (.invokevirtual 218, 3) := by decide +kernel
theorem dX10_note_129 : decode cX10_note 129 = .ok (.iastore, 1) := by decide +kernel
theorem dX10_note_130 : decode cX10_note 130 = .ok (.aload_n 0, 1) := by decide +kernel
theorem dX10_note_131 : decode cX10_note 131 = .ok (.getfield 128, 3) := by decide +kernel
theorem dX10_note_134 : decode cX10_note 134 = .ok (.iconst 0, 1) := by decide +kernel
theorem dX10_note_135 : decode cX10_note 135 = .ok (.iload_n 3, 1) := by decide +kernel
theorem dX10_note_136 : decode cX10_note 136 = .ok (.iastore, 1) := by decide +kernel
theorem dX10_note_137 : decode cX10_note 137 = .ok (.aload_n 0, 1) := by decide +kernel
theorem dX10_note_138 : decode cX10_note 138 = .ok (.getfield 131, 3) := by decide +kernel
theorem dX10_note_141 : decode cX10_note 141 = .ok (.iconst 0, 1) := by decide +kernel
theorem dX10_note_142 : decode cX10_note 142 = .ok (.iload 4, 2) := by decide +kernel
theorem dX10_note_144 : decode cX10_note 144 = .ok (.iastore, 1) := by decide +kernel
theorem dX10_note_145 : decode cX10_note 145 = .ok (.aload_n 0, 1) := by decide +kernel
theorem dX10_note_146 : decode cX10_note 146 = .ok (.aload_n 0, 1) := by decide +kernel
theorem dX10_note_147 : decode cX10_note 147 = .ok (.getfield 243, 3) := by decide +kernel
theorem dX10_note_150 : decode cX10_note 150 = .ok (.bipush 16, 2) := by decide +kernel
theorem dX10_note_152 : decode cX10_note 152 = .ok (.if_icmp .ge 12, 3) := by decide +kernel
theorem dX10_note_155 : decode cX10_note 155 = .ok (.aload_n 0, 1) := by decide +kernel
theorem dX10_note_156 : decode cX10_note 156 = .ok (.getfield 243, 3) := by decide +kernel
theorem dX10_note_159 : decode cX10_note 159 = .ok (.iconst 1, 1) := by decide +kernel
theorem dX10_note_160 : decode cX10_note 160 = .ok (.iadd, 1) := by decide +kernel
theorem dX10_note_161 : decode cX10_note 161 = .ok (.goto 5, 3) := by decide +kernel
theorem dX10_note_164 : decode cX10_note 164 = .ok (.bipush 16, 2) := by decide +kernel
theorem dX10_note_166 : decode cX10_note 166 = .ok (.putfield 243, 3) := by decide +kernel
theorem dX10_note_169 : decode cX10_note 169 = .ok (.iload_n 1, 1) := by decide +kernel
theorem dX10_note_170 : decode cX10_note 170 = .ok (.ireturn, 1) := by decide +kernel
theorem dX10_numberOf_0 : decode cX10_numberOf 0 = .ok (.aload_n 0, 1) := by decide +kernel
theorem dX10_numberOf_1 : decode cX10_numberOf 1 = .ok (.getfield 73, 3) := by decide +kernel
theorem dX10_numberOf_4 : decode cX10_numberOf 4 = .ok (.iload_n 1, 1) := by decide +kernel
theorem dX10_numberOf_5 : decode cX10_numberOf 5 = .ok (.baload, 1) := by decide +kernel
theorem dX10_numberOf_6 : decode cX10_numberOf 6 = .ok (.ifCond .ne 5, 3) := by decide +kernel
theorem dX10_numberOf_9 : decode cX10_numberOf 9 = .ok (.lload_n 2, 1) := by decide +kernel
theorem dX10_numberOf_10 : decode cX10_numberOf 10 = .ok (.lreturn, 1) := by decide +kernel
theorem dX10_numberOf_11 : decode cX10_numberOf 11 = .ok (.aload_n 0, 1) := by decide +kernel
theorem dX10_numberOf_12 : decode cX10_numberOf 12 = .ok (.getfield 83, 3) := by decide +kernel
theorem dX10_numberOf_15 : decode cX10_numberOf 15 = .ok (.iload_n 1, 1) := by decide +kernel
theorem dX10_numberOf_16 : decode cX10_numberOf 16 = .ok (.laload, 1) := by decide +kernel
theorem dX10_numberOf_17 : decode cX10_numberOf 17 = .ok (.ldc2_w 210, 3) := by decide +kernel
theorem dX10_numberOf_20 : decode cX10_numberOf 20 = .ok (.land, 1) := by decide +kernel
theorem dX10_numberOf_21 : decode cX10_numberOf 21 = .ok (.lstore 4, 2) := by decide +kernel
theorem dX10_numberOf_23 : decode cX10_numberOf 23 = .ok (.aload_n 0, 1) := by decide +kernel
theorem dX10_numberOf_24 : decode cX10_numberOf 24 = .ok (.getfield 83, 3) := by decide +kernel
theorem dX10_numberOf_27 : decode cX10_numberOf 27 = .ok (.iload_n 1, 1) := by decide +kernel
theorem dX10_numberOf_28 : decode cX10_numberOf 28 = .ok (.laload, 1) := by decide +kernel
theorem dX10_numberOf_29 : decode cX10_numberOf 29 = .ok (.bipush 32, 2) := by decide +kernel
theorem dX10_numberOf_31 : decode cX10_numberOf 31 = .ok (.lushr, 1) := by decide +kernel
theorem dX10_numberOf_32 : decode cX10_numberOf 32 = .ok (.lstore 6, 2) := by decide +kernel
theorem dX10_numberOf_34 : decode cX10_numberOf 34 = .ok (.lload 4, 2) := by decide +kernel
theorem dX10_numberOf_36 : decode cX10_numberOf 36 = .ok (.ldc2_w 307, 3) := by decide +kernel
theorem dX10_numberOf_39 : decode cX10_numberOf 39 = .ok (.lcmp, 1) := by decide +kernel
theorem dX10_numberOf_40 : decode cX10_numberOf 40 = .ok (.ifCond .lt 48, 3) := by decide +kernel
theorem dX10_numberOf_43 : decode cX10_numberOf 43 = .ok (.lload_n 2, 1) := by decide +kernel
theorem dX10_numberOf_44 : decode cX10_numberOf 44 = .ok (.lload 4, 2) := by decide +kernel
theorem dX10_numberOf_46 : decode cX10_numberOf 46 = .ok (.ldc2_w 307, 3) := by decide +kernel
theorem dX10_numberOf_49 : decode cX10_numberOf 49 = .ok (.lsub, 1) := by decide +kernel
theorem dX10_numberOf_50 : decode cX10_numberOf 50 = .ok (.lcmp, 1) := by decide +kernel
theorem dX10_numberOf_51 : decode cX10_numberOf 51 = .ok (.ifCond .lt 8, 3) := by decide +kernel
theorem dX10_numberOf_54 : decode cX10_numberOf 54 = .ok (.lload 6, 2) := by decide +kernel
theorem dX10_numberOf_56 : decode cX10_numberOf 56 = .ok (.goto 7, 3) := by decide +kernel
theorem dX10_numberOf_59 : decode cX10_numberOf 59 = .ok (.lload 6, 2) := by decide +kernel
theorem dX10_numberOf_61 : decode cX10_numberOf 61 = .ok (.lconst 1, 1) := by decide +kernel
theorem dX10_numberOf_62 : decode cX10_numberOf 62 = .ok (.ladd, 1) := by decide +kernel
theorem dX10_numberOf_63 : decode cX10_numberOf 63 = .ok (.lstore 6, 2) := by decide +kernel
theorem dX10_numberOf_65 : decode cX10_numberOf 65 = .ok (.lload 6, 2) := by decide +kernel
theorem dX10_numberOf_67 : decode cX10_numberOf 67 = .ok (.ldc2_w 309, 3) := by decide +kernel
theorem dX10_numberOf_70 : decode cX10_numberOf 70 = .ok (.lcmp, 1) := by decide +kernel
theorem dX10_numberOf_71 : decode cX10_numberOf 71 = .ok (.ifCond .ne 9, 3) := by decide +kernel
theorem dX10_numberOf_74 : decode cX10_numberOf 74 = .ok (.ldc2_w 311, 3) := by decide +kernel
theorem dX10_numberOf_77 : decode cX10_numberOf 77 = .ok (.goto 10, 3) := by decide +kernel
theorem dX10_numberOf_80 : decode cX10_numberOf 80 = .ok (.lload 6, 2) := by decide +kernel
theorem dX10_numberOf_82 : decode cX10_numberOf 82 = .ok (.bipush 32, 2) := by decide +kernel
theorem dX10_numberOf_84 : decode cX10_numberOf 84 = .ok (.lshl, 1) := by decide +kernel
theorem dX10_numberOf_85 : decode cX10_numberOf 85 = .ok (.lload_n 2, 1) := by decide +kernel
theorem dX10_numberOf_86 : decode cX10_numberOf 86 = .ok (.lor, 1) := by decide +kernel
theorem dX10_numberOf_87 : decode cX10_numberOf 87 = .ok (.lreturn, 1) := by decide +kernel
theorem dX10_numberOf_88 : decode cX10_numberOf 88 = .ok (.lload_n 2, 1) := by decide +kernel
theorem dX10_numberOf_89 : decode cX10_numberOf 89 = .ok (.lload 4, 2) := by decide +kernel
theorem dX10_numberOf_91 : decode cX10_numberOf 91 = .ok (.ldc2_w 307, 3) := by decide +kernel
theorem dX10_numberOf_94 : decode cX10_numberOf 94 = .ok (.lsub, 1) := by decide +kernel
theorem dX10_numberOf_95 : decode cX10_numberOf 95 = .ok (.ldc2_w 313, 3) := by decide +kernel
theorem dX10_numberOf_98 : decode cX10_numberOf 98 = .ok (.ladd, 1) := by decide +kernel
theorem dX10_numberOf_99 : decode cX10_numberOf 99 = .ok (.lcmp, 1) := by decide +kernel
theorem dX10_numberOf_100 : decode cX10_numberOf 100 = .ok (.ifCond .ge 8, 3) := by decide +kernel
theorem dX10_numberOf_103 : decode cX10_numberOf 103 = .ok (.lload 6, 2) := by decide +kernel
theorem dX10_numberOf_105 : decode cX10_numberOf 105 = .ok (.goto 7, 3) := by decide +kernel
theorem dX10_numberOf_108 : decode cX10_numberOf 108 = .ok (.lload 6, 2) := by decide +kernel
theorem dX10_numberOf_110 : decode cX10_numberOf 110 = .ok (.lconst 1, 1) := by decide +kernel
theorem dX10_numberOf_111 : decode cX10_numberOf 111 = .ok (.lsub, 1) := by decide +kernel
theorem dX10_numberOf_112 : decode cX10_numberOf 112 = .ok (.lstore 6, 2) := by decide +kernel
theorem dX10_numberOf_114 : decode cX10_numberOf 114 = .ok (.lload 6, 2) := by decide +kernel
theorem dX10_numberOf_116 : decode cX10_numberOf 116 = .ok (.lconst 0, 1) := by decide +kernel
theorem dX10_numberOf_117 : decode cX10_numberOf 117 = .ok (.lcmp, 1) := by decide +kernel
theorem dX10_numberOf_118 : decode cX10_numberOf 118 = .ok (.ifCond .ge 9, 3) := by decide +kernel
theorem dX10_numberOf_121 : decode cX10_numberOf 121 = .ok (.ldc2_w 311, 3) := by decide +kernel
theorem dX10_numberOf_124 : decode cX10_numberOf 124 = .ok (.goto 10, 3) := by decide +kernel
theorem dX10_numberOf_127 : decode cX10_numberOf 127 = .ok (.lload 6, 2) := by decide +kernel
theorem dX10_numberOf_129 : decode cX10_numberOf 129 = .ok (.bipush 32, 2) := by decide +kernel
theorem dX10_numberOf_131 : decode cX10_numberOf 131 = .ok (.lshl, 1) := by decide +kernel
theorem dX10_numberOf_132 : decode cX10_numberOf 132 = .ok (.lload_n 2, 1) := by decide +kernel
theorem dX10_numberOf_133 : decode cX10_numberOf 133 = .ok (.lor, 1) := by decide +kernel
theorem dX10_numberOf_134 : decode cX10_numberOf 134 = .ok (.lreturn, 1) := by decide +kernel
theorem dX10_offsetOf_0 : decode cX10_offsetOf 0 = .ok (.aload_n 0, 1) := by decide +kernel
theorem dX10_offsetOf_1 : decode cX10_offsetOf 1 = .ok (.iload_n 1, 1) := by decide +kernel
theorem dX10_offsetOf_2 : decode cX10_offsetOf 2 = .ok (.bipush 6, 2) := by decide +kernel
theorem dX10_offsetOf_4 : decode cX10_offsetOf 4 = .ok (.iadd, 1) := by decide +kernel
theorem dX10_offsetOf_5 : decode cX10_offsetOf 5 = .ok (.invokevirtual 140, 3) := by decide +kernel
theorem dX10_offsetOf_8 : decode cX10_offsetOf 8 = .ok (.sipush 8191, 3) := by decide +kernel
theorem dX10_offsetOf_11 : decode cX10_offsetOf 11 = .ok (.iand, 1) := by decide +kernel
theorem dX10_offsetOf_12 : decode cX10_offsetOf 12 = .ok (.ireturn, 1) := by decide +kernel
theorem dX10_open_0 : decode cX10_open 0 = .ok (.aload_n 0, 1) := by decide +kernel
theorem dX10_open_1 : decode cX10_open 1 = .ok (.iload_n 1, 1) := by decide +kernel
theorem dX10_open_2 : decode cX10_open 2 = .ok (.invokevirtual 165, 3) := by decide +kernel
theorem dX10_open_5 : decode cX10_open 5 = .ok (.bipush 20, 2) := by decide +kernel
theorem dX10_open_7 : decode cX10_open 7 = .ok (.isub, 1) := by decide +kernel
theorem dX10_open_8 : decode cX10_open 8 = .ok (.istore_n 2, 1) := by decide +kernel
theorem dX10_open_9 : decode cX10_open 9 = .ok (.iload_n 2, 1) := by decide +kernel
theorem dX10_open_10 : decode cX10_open 10 = .ok (.bipush 20, 2) := by decide +kernel
theorem dX10_open_12 : decode cX10_open 12 = .ok (.if_icmp .lt 9, 3) := by decide +kernel
theorem dX10_open_15 : decode cX10_open 15 = .ok (.iload_n 2, 1) := by decide +kernel
theorem dX10_open_16 : decode cX10_open 16 = .ok (.iconst 4, 1) := by decide +kernel
theorem dX10_open_17 : decode cX10_open 17 = .ok (.irem, 1) := by decide +kernel
theorem dX10_open_18 : decode cX10_open 18 = .ok (.ifCond .eq 6, 3) := by decide +kernel
theorem dX10_open_21 : decode cX10_open 21 = .ok (.bipush 8, 2) := by decide +kernel
theorem dX10_open_23 : decode cX10_open 23 = .ok (.ireturn, 1) := by decide +kernel
theorem dX10_open_24 : decode cX10_open 24 = .ok (.aload_n 0, 1) := by decide +kernel
theorem dX10_open_25 : decode cX10_open 25 = .ok (.aload_n 0, 1) := by decide +kernel
theorem dX10_open_26 : decode cX10_open 26 = .ok (.iload_n 1, 1) := by decide +kernel
theorem dX10_open_27 : decode cX10_open 27 = .ok (.bipush 20, 2) := by decide +kernel
theorem dX10_open_29 : decode cX10_open 29 = .ok (.iadd, 1) := by decide +kernel
theorem dX10_open_30 : decode cX10_open 30 = .ok (.invokevirtual 218, 3) := by decide +kernel
theorem dX10_open_33 : decode cX10_open 33 = .ok (.putfield 317, 3) := by decide +kernel
theorem dX10_open_36 : decode cX10_open 36 = .ok (.aload_n 0, 1) := by decide +kernel
theorem dX10_open_37 : decode cX10_open 37 = .ok (.aload_n 0, 1) := by decide +kernel
theorem dX10_open_38 : decode cX10_open 38 = .ok (.iload_n 1, 1) := by decide +kernel
theorem dX10_open_39 : decode cX10_open 39 = .ok (.bipush 24, 2) := by decide +kernel
theorem dX10_open_41 : decode cX10_open 41 = .ok (.iadd, 1) := by decide +kernel
theorem dX10_open_42 : decode cX10_open 42 = .ok (.invokevirtual 218, 3) := by decide +kernel
theorem dX10_open_45 : decode cX10_open 45 = .ok (.putfield 320, 3) := by decide +kernel
theorem dX10_open_48 : decode cX10_open 48 = .ok (.aload_n 0, 1) := by decide +kernel
theorem dX10_open_49 : decode cX10_open 49 = .ok (.aload_n 0, 1) := by decide +kernel
theorem dX10_open_50 : decode cX10_open 50 = .ok (.getfield 317, 3) := by decide +kernel
theorem dX10_open_53 : decode cX10_open 53 = .ok (.invokevirtual 204, 3) := by decide +kernel
theorem dX10_open_56 : decode cX10_open 56 = .ok (.istore_n 3, 1) := by decide +kernel
theorem dX10_open_57 : decode cX10_open 57 = .ok (.iload_n 3, 1) := by decide +kernel
theorem dX10_open_58 : decode cX10_open 58 = .ok (.ifCond .lt 33, 3) := by decide +kernel
theorem dX10_open_61 : decode cX10_open 61 = .ok (.aload_n 0, 1) := by decide +kernel
theorem dX10_open_62 : decode cX10_open 62 = .ok (.iload_n 3, 1) := by decide +kernel
theorem dX10_open_63 : decode cX10_open 63 = .ok (.invokevirtual 207, 3) := by decide +kernel
theorem dX10_open_66 : decode cX10_open 66 = .ok (.ifCond .ne 25, 3) := by decide +kernel
theorem dX10_open_69 : decode cX10_open 69 = .ok (.aload_n 0, 1) := by decide +kernel
theorem dX10_open_70 : decode cX10_open 70 = .ok (.iload_n 1, 1) := by decide +kernel
theorem dX10_open_71 : decode cX10_open 71 = .ok (.bipush 12, 2) := by decide +kernel
theorem dX10_open_73 : decode cX10_open 73 = .ok (.iadd, 1) := by decide +kernel
theorem dX10_open_74 : decode cX10_open 74 = .ok (.invokevirtual 218, 3) := by decide +kernel
theorem dX10_open_77 : decode cX10_open 77 = .ok (.aload_n 0, 1) := by decide +kernel
theorem dX10_open_78 : decode cX10_open 78 = .ok (.getfield 22, 3) := by decide +kernel
theorem dX10_open_81 : decode cX10_open 81 = .ok (.aload_n 0, 1) := by decide +kernel
theorem dX10_open_82 : decode cX10_open 82 = .ok (.getfield 60, 3) := by decide +kernel
theorem dX10_open_85 : decode cX10_open 85 = .ok (.iload_n 3, 1) := by decide +kernel
theorem dX10_open_86 : decode cX10_open 86 = .ok (.iaload, 1) := by decide +kernel
theorem dX10_open_87 : decode cX10_open 87 = .ok (.iaload, 1) := by decide +kernel
theorem dX10_open_88 : decode cX10_open 88 = .ok (.if_icmp .eq 19, 3) := by decide +kernel
theorem dX10_open_91 : decode cX10_open 91 = .ok (.aload_n 0, 1) := by decide +kernel
theorem dX10_open_92 : decode cX10_open 92 = .ok (.bipush 9, 2) := by decide +kernel
theorem dX10_open_94 : decode cX10_open 94 = .ok (.iload_n 1, 1) := by decide +kernel
theorem dX10_open_95 : decode cX10_open 95 = .ok (.aload_n 0, 1) := by decide +kernel
theorem dX10_open_96 : decode cX10_open 96 = .ok (.getfield 317, 3) := by decide +kernel
theorem dX10_open_99 : decode cX10_open 99 = .ok (.aload_n 0, 1) := by decide +kernel
theorem dX10_open_100 : decode cX10_open 100 = .ok (.getfield 320, 3) := by decide +kernel
theorem dX10_open_103 : decode cX10_open 103 = .ok (.invokevirtual 323, 3) := by decide +kernel
theorem dX10_open_106 : decode cX10_open 106 = .ok (.ireturn, 1) := by decide +kernel
theorem dX10_open_107 : decode cX10_open 107 = .ok (.aload_n 0, 1) := by decide +kernel
theorem dX10_open_108 : decode cX10_open 108 = .ok (.iload_n 3, 1) := by decide +kernel
theorem dX10_open_109 : decode cX10_open 109 = .ok (.aload_n 0, 1) := by decide +kernel
theorem dX10_open_110 : decode cX10_open 110 = .ok (.getfield 320, 3) := by decide +kernel
theorem dX10_open_113 : decode cX10_open 113 = .ok (.i2l, 1) := by decide +kernel
theorem dX10_open_114 : decode cX10_open 114 = .ok (.ldc2_w 210, 3) := by decide +kernel
theorem dX10_open_117 : decode cX10_open 117 = .ok (.land, 1) := by decide +kernel
theorem dX10_open_118 : decode cX10_open 118 = .ok (.invokevirtual 327, 3) := by decide +kernel
theorem dX10_open_121 : decode cX10_open 121 = .ok (.lstore 4, 2) := by decide +kernel
theorem dX10_open_123 : decode cX10_open 123 = .ok (.aload_n 0, 1) := by decide +kernel
theorem dX10_open_124 : decode cX10_open 124 = .ok (.iload_n 3, 1) := by decide +kernel
theorem dX10_open_125 : decode cX10_open 125 = .ok (.lload 4, 2) := by decide +kernel
theorem dX10_open_127 : decode cX10_open 127 = .ok (.invokevirtual 331, 3) := by decide +kernel
theorem dX10_open_130 : decode cX10_open 130 = .ok (.ifCond .eq 19, 3) := by decide +kernel
theorem dX10_open_133 : decode cX10_open 133 = .ok (.aload_n 0, 1) := by decide +kernel
theorem dX10_open_134 : decode cX10_open 134 = .ok (.bipush 10, 2) := by decide +kernel
theorem dX10_open_136 : decode cX10_open 136 = .ok (.iload_n 1, 1) := by decide +kernel
theorem dX10_open_137 : decode cX10_open 137 = .ok (.aload_n 0, 1) := by decide +kernel
