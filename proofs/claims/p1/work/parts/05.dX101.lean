theorem dX10_routeOf_62 : decode cX10_routeOf 62 = .ok (.iconst (-1), 1) := by decide +kernel
theorem dX10_routeOf_63 : decode cX10_routeOf 63 = .ok (.goto 9, 3) := by decide +kernel
theorem dX10_routeOf_72 : decode cX10_routeOf 72 = .ok (.ireturn, 1) := by decide +kernel
theorem dX10_routed_0 : decode cX10_routed 0 = .ok (.aload_n 0, 1) := by decide +kernel
theorem dX10_routed_1 : decode cX10_routed 1 = .ok (.iconst 0, 1) := by decide +kernel
theorem dX10_routed_2 : decode cX10_routed 2 = .ok (.putfield 137, 3) := by decide +kernel
theorem dX10_routed_5 : decode cX10_routed 5 = .ok (.aload_n 0, 1) := by decide +kernel
theorem dX10_routed_6 : decode cX10_routed 6 = .ok (.iload_n 1, 1) := by decide +kernel
theorem dX10_routed_7 : decode cX10_routed 7 = .ok (.invokevirtual 232, 3) := by decide +kernel
theorem dX10_routed_10 : decode cX10_routed 10 = .ok (.ireturn, 1) := by decide +kernel
theorem dX10_seal_0 : decode cX10_seal 0 = .ok (.aload_n 0, 1) := by decide +kernel
theorem dX10_seal_1 : decode cX10_seal 1 = .ok (.iconst 0, 1) := by decide +kernel
theorem dX10_seal_2 : decode cX10_seal 2 = .ok (.putfield 137, 3) := by decide +kernel
theorem dX10_seal_5 : decode cX10_seal 5 = .ok (.aload_n 0, 1) := by decide +kernel
theorem dX10_seal_6 : decode cX10_seal 6 = .ok (.iload_n 2, 1) := by decide +kernel
theorem dX10_seal_7 : decode cX10_seal 7 = .ok (.iconst 0, 1) := by decide +kernel
theorem dX10_seal_8 : decode cX10_seal 8 = .ok (.iconst 3, 1) := by decide +kernel
theorem dX10_seal_9 : decode cX10_seal 9 = .ok (.invokestatic 179, 3) := by decide +kernel
theorem dX10_seal_12 : decode cX10_seal 12 = .ok (.ifCond .ne 7, 3) := by decide +kernel
theorem dX10_seal_15 : decode cX10_seal 15 = .ok (.iconst 1, 1) := by decide +kernel
theorem dX10_seal_16 : decode cX10_seal 16 = .ok (.goto 4, 3) := by decide +kernel
theorem dX10_seal_19 : decode cX10_seal 19 = .ok (.iconst 0, 1) := by decide +kernel
theorem dX10_seal_20 : decode cX10_seal 20 = .ok (.iconst 1, 1) := by decide +kernel
theorem dX10_seal_21 : decode cX10_seal 21 = .ok (.invokevirtual 171, 3) := by decide +kernel
theorem dX10_seal_24 : decode cX10_seal 24 = .ok (.ifCond .ne 43, 3) := by decide +kernel
theorem dX10_seal_27 : decode cX10_seal 27 = .ok (.aload_n 0, 1) := by decide +kernel
theorem dX10_seal_28 : decode cX10_seal 28 = .ok (.iload_n 1, 1) := by decide +kernel
theorem dX10_seal_29 : decode cX10_seal 29 = .ok (.iconst 0, 1) := by decide +kernel
theorem dX10_seal_30 : decode cX10_seal 30 = .ok (.iconst 1, 1) := by decide +kernel
theorem dX10_seal_31 : decode cX10_seal 31 = .ok (.invokestatic 179, 3) := by decide +kernel
theorem dX10_seal_34 : decode cX10_seal 34 = .ok (.ifCond .eq 21, 3) := by decide +kernel
theorem dX10_seal_37 : decode cX10_seal 37 = .ok (.iload_n 3, 1) := by decide +kernel
theorem dX10_seal_38 : decode cX10_seal 38 = .ok (.sipush 256, 3) := by decide +kernel
theorem dX10_seal_41 : decode cX10_seal 41 = .ok (.if_icmp .lt 14, 3) := by decide +kernel
theorem dX10_seal_44 : decode cX10_seal 44 = .ok (.iload 9, 2) := by decide +kernel
theorem dX10_seal_46 : decode cX10_seal 46 = .ok (.iconst 1, 1) := by decide +kernel
theorem dX10_seal_47 : decode cX10_seal 47 = .ok (.ldc 203, 2) := by decide +kernel
theorem dX10_seal_49 : decode cX10_seal 49 = .ok (.invokestatic 179, 3) := by decide +kernel
theorem dX10_seal_52 : decode cX10_seal 52 = .ok (.ifCond .ne 7, 3) := by decide +kernel
theorem dX10_seal_55 : decode cX10_seal 55 = .ok (.iconst 1, 1) := by decide +kernel
theorem dX10_seal_56 : decode cX10_seal 56 = .ok (.goto 4, 3) := by decide +kernel
theorem dX10_seal_59 : decode cX10_seal 59 = .ok (.iconst 0, 1) := by decide +kernel
theorem dX10_seal_60 : decode cX10_seal 60 = .ok (.iconst 2, 1) := by decide +kernel
theorem dX10_seal_61 : decode cX10_seal 61 = .ok (.invokevirtual 171, 3) := by decide +kernel
theorem dX10_seal_64 : decode cX10_seal 64 = .ok (.ifCond .eq 5, 3) := by decide +kernel
theorem dX10_seal_67 : decode cX10_seal 67 = .ok (.iconst 0, 1) := by decide +kernel
theorem dX10_seal_68 : decode cX10_seal 68 = .ok (.ireturn, 1) := by decide +kernel
theorem dX10_seal_69 : decode cX10_seal 69 = .ok (.aload_n 0, 1) := by decide +kernel
theorem dX10_seal_70 : decode cX10_seal 70 = .ok (.aload_n 0, 1) := by decide +kernel
theorem dX10_seal_71 : decode cX10_seal 71 = .ok (.getfield 200, 3) := by decide +kernel
theorem dX10_seal_74 : decode cX10_seal 74 = .ok (.bipush 16, 2) := by decide +kernel
theorem dX10_seal_76 : decode cX10_seal 76 = .ok (.if_icmp .eq 16, 3) := by decide +kernel
theorem dX10_seal_79 : decode cX10_seal 79 = .ok (.iload_n 1, 1) := by decide +kernel
theorem dX10_seal_80 : decode cX10_seal 80 = .ok (.iconst 1, 1) := by decide +kernel
theorem dX10_seal_81 : decode cX10_seal 81 = .ok (.if_icmp .ne 15, 3) := by decide +kernel
theorem dX10_seal_84 : decode cX10_seal 84 = .ok (.aload_n 0, 1) := by decide +kernel
theorem dX10_seal_85 : decode cX10_seal 85 = .ok (.iload_n 3, 1) := by decide +kernel
theorem dX10_seal_86 : decode cX10_seal 86 = .ok (.invokevirtual 204, 3) := by decide +kernel
theorem dX10_seal_89 : decode cX10_seal 89 = .ok (.ifCond .lt 7, 3) := by decide +kernel
theorem dX10_seal_96 : decode cX10_seal 96 = .ok (.iconst 0, 1) := by decide +kernel
theorem dX10_seal_97 : decode cX10_seal 97 = .ok (.iconst 3, 1) := by decide +kernel
theorem dX10_seal_98 : decode cX10_seal 98 = .ok (.invokevirtual 171, 3) := by decide +kernel
theorem dX10_seal_101 : decode cX10_seal 101 = .ok (.ifCond .eq 5, 3) := by decide +kernel
theorem dX10_seal_106 : decode cX10_seal 106 = .ok (.aload_n 0, 1) := by decide +kernel
theorem dX10_seal_107 : decode cX10_seal 107 = .ok (.getfield 200, 3) := by decide +kernel
theorem dX10_seal_110 : decode cX10_seal 110 = .ok (.istore 10, 2) := by decide +kernel
theorem dX10_seal_112 : decode cX10_seal 112 = .ok (.aload_n 0, 1) := by decide +kernel
theorem dX10_seal_113 : decode cX10_seal 113 = .ok (.getfield 57, 3) := by decide +kernel
theorem dX10_seal_116 : decode cX10_seal 116 = .ok (.iload 10, 2) := by decide +kernel
theorem dX10_seal_118 : decode cX10_seal 118 = .ok (.iload_n 1, 1) := by decide +kernel
theorem dX10_seal_119 : decode cX10_seal 119 = .ok (.iastore, 1) := by decide +kernel
theorem dX10_seal_120 : decode cX10_seal 120 = .ok (.aload_n 0, 1) := by decide +kernel
theorem dX10_seal_121 : decode cX10_seal 121 = .ok (.getfield 60, 3) := by decide +kernel
theorem dX10_seal_124 : decode cX10_seal 124 = .ok (.iload 10, 2) := by decide +kernel
theorem dX10_seal_126 : decode cX10_seal 126 = .ok (.iload_n 2, 1) := by decide +kernel
theorem dX10_seal_127 : decode cX10_seal 127 = .ok (.iastore, 1) := by decide +kernel
theorem dX10_seal_128 : decode cX10_seal 128 = .ok (.aload_n 0, 1) := by decide +kernel
theorem dX10_seal_129 : decode cX10_seal 129 = .ok (.getfield 63, 3) := by decide +kernel
theorem dX10_seal_132 : decode cX10_seal 132 = .ok (.iload 10, 2) := by decide +kernel
theorem dX10_seal_134 : decode cX10_seal 134 = .ok (.iload_n 3, 1) := by decide +kernel
theorem dX10_seal_135 : decode cX10_seal 135 = .ok (.iastore, 1) := by decide +kernel
theorem dX10_seal_136 : decode cX10_seal 136 = .ok (.aload_n 0, 1) := by decide +kernel
theorem dX10_seal_137 : decode cX10_seal 137 = .ok (.getfield 66, 3) := by decide +kernel
theorem dX10_seal_140 : decode cX10_seal 140 = .ok (.iload 10, 2) := by decide +kernel
theorem dX10_seal_142 : decode cX10_seal 142 = .ok (.lload 4, 2) := by decide +kernel
theorem dX10_seal_144 : decode cX10_seal 144 = .ok (.lastore, 1) := by decide +kernel
theorem dX10_seal_145 : decode cX10_seal 145 = .ok (.aload_n 0, 1) := by decide +kernel
theorem dX10_seal_146 : decode cX10_seal 146 = .ok (.getfield 70, 3) := by decide +kernel
theorem dX10_seal_149 : decode cX10_seal 149 = .ok (.iload 10, 2) := by decide +kernel
theorem dX10_seal_151 : decode cX10_seal 151 = .ok (.lload 6, 2) := by decide +kernel
theorem dX10_seal_153 : decode cX10_seal 153 = .ok (.lastore, 1) := by decide +kernel
theorem dX10_seal_154 : decode cX10_seal 154 = .ok (.aload_n 0, 1) := by decide +kernel
theorem dX10_seal_155 : decode cX10_seal 155 = .ok (.getfield 73, 3) := by decide +kernel
theorem dX10_seal_158 : decode cX10_seal 158 = .ok (.iload 10, 2) := by decide +kernel
theorem dX10_seal_160 : decode cX10_seal 160 = .ok (.iload 8, 2) := by decide +kernel
theorem dX10_seal_162 : decode cX10_seal 162 = .ok (.bastore, 1) := by decide +kernel
theorem dX10_seal_163 : decode cX10_seal 163 = .ok (.aload_n 0, 1) := by decide +kernel
theorem dX10_seal_164 : decode cX10_seal 164 = .ok (.getfield 77, 3) := by decide +kernel
theorem dX10_seal_167 : decode cX10_seal 167 = .ok (.iload 10, 2) := by decide +kernel
theorem dX10_seal_169 : decode cX10_seal 169 = .ok (.iload 9, 2) := by decide +kernel
theorem dX10_seal_171 : decode cX10_seal 171 = .ok (.iastore, 1) := by decide +kernel
theorem dX10_seal_172 : decode cX10_seal 172 = .ok (.aload_n 0, 1) := by decide +kernel
theorem dX10_seal_173 : decode cX10_seal 173 = .ok (.getfield 80, 3) := by decide +kernel
theorem dX10_seal_176 : decode cX10_seal 176 = .ok (.iload 10, 2) := by decide +kernel
theorem dX10_seal_178 : decode cX10_seal 178 = .ok (.iconst 0, 1) := by decide +kernel
theorem dX10_seal_179 : decode cX10_seal 179 = .ok (.bastore, 1) := by decide +kernel
theorem dX10_seal_180 : decode cX10_seal 180 = .ok (.aload_n 0, 1) := by decide +kernel
theorem dX10_seal_181 : decode cX10_seal 181 = .ok (.getfield 83, 3) := by decide +kernel
theorem dX10_seal_184 : decode cX10_seal 184 = .ok (.iload 10, 2) := by decide +kernel
theorem dX10_seal_186 : decode cX10_seal 186 = .ok (.lconst 0, 1) := by decide +kernel
theorem dX10_seal_187 : decode cX10_seal 187 = .ok (.lastore, 1) := by decide +kernel
theorem dX10_seal_188 : decode cX10_seal 188 = .ok (.aload_n 0, 1) := by decide +kernel
theorem dX10_seal_189 : decode cX10_seal 189 = .ok (.getfield 86, 3) := by decide +kernel
theorem dX10_seal_192 : decode cX10_seal 192 = .ok (.iload 10, 2) := by decide +kernel
theorem dX10_seal_194 : decode cX10_seal 194 = .ok (.lconst 0, 1) := by decide +kernel
theorem dX10_seal_195 : decode cX10_seal 195 = .ok (.lastore, 1) := by decide +kernel
theorem dX10_seal_196 : decode cX10_seal 196 = .ok (.aload_n 0, 1) := by decide +kernel
theorem dX10_seal_197 : decode cX10_seal 197 = .ok (.dup, 1) := by decide +kernel
theorem dX10_seal_198 : decode cX10_seal 198 = .ok (.getfield 200, 3) := by decide +kernel
theorem dX10_seal_201 : decode cX10_seal 201 = .ok (.iconst 1, 1) := by decide +kernel
theorem dX10_seal_202 : decode cX10_seal 202 = .ok (.iadd, 1) := by decide +kernel
theorem dX10_seal_203 : decode cX10_seal 203 = .ok (.putfield 200, 3) := by decide +kernel
theorem dX10_seal_206 : decode cX10_seal 206 = .ok (.iload 10, 2) := by decide +kernel
theorem dX10_seal_208 : decode cX10_seal 208 = .ok (.ireturn, 1) := by decide +kernel
theorem dX10_sealNamed_0 : decode cX10_sealNamed 0 = .ok (.iconst 0, 1) := by decide +kernel
theorem dX10_sealNamed_1 : decode cX10_sealNamed 1 = .ok (.istore_n 2, 1) := by decide +kernel
theorem dX10_sealNamed_2 : decode cX10_sealNamed 2 = .ok (.iload_n 2, 1) := by decide +kernel
theorem dX10_sealNamed_3 : decode cX10_sealNamed 3 = .ok (.aload_n 0, 1) := by decide +kernel
theorem dX10_sealNamed_4 : decode cX10_sealNamed 4 = .ok (.getfield 200, 3) := by decide +kernel
theorem dX10_sealNamed_7 : decode cX10_sealNamed 7 = .ok (.if_icmp .ge 31, 3) := by decide +kernel
theorem dX10_sealNamed_38 : decode cX10_sealNamed 38 = .ok (.iconst (-1), 1) := by decide +kernel
theorem dX10_sealNamed_39 : decode cX10_sealNamed 39 = .ok (.ireturn, 1) := by decide +kernel
theorem dX10_seen_0 : decode cX10_seen 0 = .ok (.aload_n 0, 1) := by decide +kernel
theorem dX10_seen_1 : decode cX10_seen 1 = .ok (.iconst 0, 1) := by decide +kernel
theorem dX10_seen_2 : decode cX10_seen 2 = .ok (.putfield 137, 3) := by decide +kernel
theorem dX10_seen_5 : decode cX10_seen 5 = .ok (.aload_n 0, 1) := by decide +kernel
theorem dX10_seen_6 : decode cX10_seen 6 = .ok (.iload_n 1, 1) := by decide +kernel
theorem dX10_seen_7 : decode cX10_seen 7 = .ok (.iconst 0, 1) := by decide +kernel
theorem dX10_seen_8 : decode cX10_seen 8 = .ok (.aload_n 0, 1) := by decide +kernel
theorem dX10_seen_9 : decode cX10_seen 9 = .ok (.getfield 200, 3) := by decide +kernel
theorem dX10_seen_12 : decode cX10_seen 12 = .ok (.iconst 1, 1) := by decide +kernel
theorem dX10_seen_13 : decode cX10_seen 13 = .ok (.isub, 1) := by decide +kernel
theorem dX10_seen_14 : decode cX10_seen 14 = .ok (.invokestatic 179, 3) := by decide +kernel
theorem dX10_seen_17 : decode cX10_seen 17 = .ok (.ifCond .ne 7, 3) := by decide +kernel
theorem dX10_seen_20 : decode cX10_seen 20 = .ok (.iconst 1, 1) := by decide +kernel
theorem dX10_seen_21 : decode cX10_seen 21 = .ok (.goto 4, 3) := by decide +kernel
theorem dX10_seen_25 : decode cX10_seen 25 = .ok (.iconst 1, 1) := by decide +kernel
theorem dX10_seen_26 : decode cX10_seen 26 = .ok (.invokevirtual 171, 3) := by decide +kernel
theorem dX10_seen_29 : decode cX10_seen 29 = .ok (.ifCond .eq 7, 3) := by decide +kernel
theorem dX10_seen_32 : decode cX10_seen 32 = .ok (.lconst 0, 1) := by decide +kernel
theorem dX10_seen_33 : decode cX10_seen 33 = .ok (.goto 9, 3) := by decide +kernel
theorem dX10_seen_42 : decode cX10_seen 42 = .ok (.lreturn, 1) := by decide +kernel
theorem dX10_sent_0 : decode cX10_sent 0 = .ok (.aload_n 0, 1) := by decide +kernel
theorem dX10_sent_1 : decode cX10_sent 1 = .ok (.iconst 0, 1) := by decide +kernel
theorem dX10_sent_2 : decode cX10_sent 2 = .ok (.putfield 137, 3) := by decide +kernel
theorem dX10_sent_5 : decode cX10_sent 5 = .ok (.aload_n 0, 1) := by decide +kernel
theorem dX10_sent_6 : decode cX10_sent 6 = .ok (.iload_n 1, 1) := by decide +kernel
theorem dX10_sent_7 : decode cX10_sent 7 = .ok (.iconst 0, 1) := by decide +kernel
theorem dX10_sent_8 : decode cX10_sent 8 = .ok (.iconst 1, 1) := by decide +kernel
theorem dX10_sent_9 : decode cX10_sent 9 = .ok (.invokestatic 179, 3) := by decide +kernel
theorem dX10_sent_12 : decode cX10_sent 12 = .ok (.ifCond .ne 7, 3) := by decide +kernel
theorem dX10_sent_15 : decode cX10_sent 15 = .ok (.iconst 1, 1) := by decide +kernel
theorem dX10_sent_16 : decode cX10_sent 16 = .ok (.goto 4, 3) := by decide +kernel
theorem dX10_sent_19 : decode cX10_sent 19 = .ok (.iconst 0, 1) := by decide +kernel
theorem dX10_sent_20 : decode cX10_sent 20 = .ok (.iconst 1, 1) := by decide +kernel
theorem dX10_sent_21 : decode cX10_sent 21 = .ok (.invokevirtual 171, 3) := by decide +kernel
theorem dX10_sent_24 : decode cX10_sent 24 = .ok (.ifCond .eq 5, 3) := by decide +kernel
theorem dX10_sent_27 : decode cX10_sent 27 = .ok (.iconst 0, 1) := by decide +kernel
theorem dX10_sent_28 : decode cX10_sent 28 = .ok (.ireturn, 1) := by decide +kernel
theorem dX10_sent_29 : decode cX10_sent 29 = .ok (.aload_n 0, 1) := by decide +kernel
theorem dX10_sent_30 : decode cX10_sent 30 = .ok (.getfield 89, 3) := by decide +kernel
theorem dX10_sent_33 : decode cX10_sent 33 = .ok (.iload_n 1, 1) := by decide +kernel
theorem dX10_sent_34 : decode cX10_sent 34 = .ok (.iaload, 1) := by decide +kernel
theorem dX10_sent_35 : decode cX10_sent 35 = .ok (.istore_n 3, 1) := by decide +kernel
theorem dX10_sent_36 : decode cX10_sent 36 = .ok (.iload_n 2, 1) := by decide +kernel
theorem dX10_sent_37 : decode cX10_sent 37 = .ok (.iconst (-1), 1) := by decide +kernel
theorem dX10_sent_38 : decode cX10_sent 38 = .ok (.if_icmp .ne 5, 3) := by decide +kernel
theorem dX10_sent_41 : decode cX10_sent 41 = .ok (.iload_n 3, 1) := by decide +kernel
theorem dX10_sent_42 : decode cX10_sent 42 = .ok (.ireturn, 1) := by decide +kernel
theorem dX10_sent_43 : decode cX10_sent 43 = .ok (.iload_n 2, 1) := by decide +kernel
theorem dX10_sent_44 : decode cX10_sent 44 = .ok (.bipush (-2), 2) := by decide +kernel
theorem dX10_sent_46 : decode cX10_sent 46 = .ok (.if_icmp .ne 16, 3) := by decide +kernel
theorem dX10_sent_49 : decode cX10_sent 49 = .ok (.iload_n 3, 1) := by decide +kernel
theorem dX10_sent_50 : decode cX10_sent 50 = .ok (.ifCond .ne 7, 3) := by decide +kernel
theorem dX10_sent_53 : decode cX10_sent 53 = .ok (.iconst (-1), 1) := by decide +kernel
theorem dX10_sent_54 : decode cX10_sent 54 = .ok (.goto 7, 3) := by decide +kernel
theorem dX10_sent_61 : decode cX10_sent 61 = .ok (.ireturn, 1) := by decide +kernel
theorem dX10_sent_62 : decode cX10_sent 62 = .ok (.aload_n 0, 1) := by decide +kernel
theorem dX10_sent_63 : decode cX10_sent 63 = .ok (.iload_n 2, 1) := by decide +kernel
theorem dX10_sent_64 : decode cX10_sent 64 = .ok (.iconst 0, 1) := by decide +kernel
theorem dX10_sent_65 : decode cX10_sent 65 = .ok (.iload_n 3, 1) := by decide +kernel
theorem dX10_sent_66 : decode cX10_sent 66 = .ok (.iconst 1, 1) := by decide +kernel
theorem dX10_sent_67 : decode cX10_sent 67 = .ok (.isub, 1) := by decide +kernel
theorem dX10_sent_68 : decode cX10_sent 68 = .ok (.invokestatic 179, 3) := by decide +kernel
theorem dX10_sent_71 : decode cX10_sent 71 = .ok (.ifCond .ne 7, 3) := by decide +kernel
theorem dX10_sent_74 : decode cX10_sent 74 = .ok (.iconst 1, 1) := by decide +kernel
theorem dX10_sent_75 : decode cX10_sent 75 = .ok (.goto 4, 3) := by decide +kernel
theorem dX10_sent_79 : decode cX10_sent 79 = .ok (.iconst 1, 1) := by decide +kernel
theorem dX10_sent_80 : decode cX10_sent 80 = .ok (.invokevirtual 171, 3) := by decide +kernel
theorem dX10_sent_83 : decode cX10_sent 83 = .ok (.ifCond .eq 7, 3) := by decide +kernel
theorem dX10_sent_86 : decode cX10_sent 86 = .ok (.iconst 0, 1) := by decide +kernel
theorem dX10_sent_87 : decode cX10_sent 87 = .ok (.goto 19, 3) := by decide +kernel
theorem dX10_sent_106 : decode cX10_sent 106 = .ok (.ireturn, 1) := by decide +kernel
theorem dX10_setSum_0 : decode cX10_setSum 0 = .ok (.aload_n 0, 1) := by decide +kernel
theorem dX10_setSum_1 : decode cX10_setSum 1 = .ok (.iload_n 1, 1) := by decide +kernel
theorem dX10_setSum_2 : decode cX10_setSum 2 = .ok (.bipush 10, 2) := by decide +kernel
theorem dX10_setSum_4 : decode cX10_setSum 4 = .ok (.iadd, 1) := by decide +kernel
theorem dX10_setSum_5 : decode cX10_setSum 5 = .ok (.ldc 52, 2) := by decide +kernel
theorem dX10_setSum_7 : decode cX10_setSum 7 = .ok (.aload_n 0, 1) := by decide +kernel
theorem dX10_setSum_8 : decode cX10_setSum 8 = .ok (.iload_n 1, 1) := by decide +kernel
theorem dX10_setSum_9 : decode cX10_setSum 9 = .ok (.iconst 0, 1) := by decide +kernel
theorem dX10_setSum_10 : decode cX10_setSum 10 = .ok (.invokevirtual 151, 3) := by decide +kernel
theorem dX10_setSum_13 : decode cX10_setSum 13 = .ok (.isub, 1) := by decide +kernel
theorem dX10_setSum_14 : decode cX10_setSum 14 = .ok (.invokevirtual 144, 3) := by decide +kernel
theorem dX10_setSum_17 : decode cX10_setSum 17 = .ok (.return_, 1) := by decide +kernel
theorem dX10_stop_0 : decode cX10_stop 0 = .ok (.aload_n 0, 1) := by decide +kernel
theorem dX10_stop_1 : decode cX10_stop 1 = .ok (.iconst 0, 1) := by decide +kernel
theorem dX10_stop_2 : decode cX10_stop 2 = .ok (.putfield 137, 3) := by decide +kernel
theorem dX10_stop_5 : decode cX10_stop 5 = .ok (.aload_n 0, 1) := by decide +kernel
theorem dX10_stop_6 : decode cX10_stop 6 = .ok (.iload_n 1, 1) := by decide +kernel
theorem dX10_stop_7 : decode cX10_stop 7 = .ok (.iconst 0, 1) := by decide +kernel
theorem dX10_stop_8 : decode cX10_stop 8 = .ok (.aload_n 0, 1) := by decide +kernel
theorem dX10_stop_9 : decode cX10_stop 9 = .ok (.getfield 200, 3) := by decide +kernel
theorem dX10_stop_12 : decode cX10_stop 12 = .ok (.iconst 1, 1) := by decide +kernel
theorem dX10_stop_13 : decode cX10_stop 13 = .ok (.isub, 1) := by decide +kernel
theorem dX10_stop_14 : decode cX10_stop 14 = .ok (.invokestatic 179, 3) := by decide +kernel
theorem dX10_stop_17 : decode cX10_stop 17 = .ok (.ifCond .ne 7, 3) := by decide +kernel
theorem dX10_stop_20 : decode cX10_stop 20 = .ok (.iconst 1, 1) := by decide +kernel
theorem dX10_stop_21 : decode cX10_stop 21 = .ok (.goto 4, 3) := by decide +kernel
theorem dX10_stop_25 : decode cX10_stop 25 = .ok (.iconst 1, 1) := by decide +kernel
theorem dX10_stop_26 : decode cX10_stop 26 = .ok (.invokevirtual 171, 3) := by decide +kernel
theorem dX10_stop_29 : decode cX10_stop 29 = .ok (.ifCond .eq 5, 3) := by decide +kernel
theorem dX10_stop_32 : decode cX10_stop 32 = .ok (.iconst 0, 1) := by decide +kernel
theorem dX10_stop_33 : decode cX10_stop 33 = .ok (.ireturn, 1) := by decide +kernel
theorem dX10_sum_0 : decode cX10_sum 0 = .ok (.aload_n 0, 1) := by decide +kernel
theorem dX10_sum_1 : decode cX10_sum 1 = .ok (.iconst 0, 1) := by decide +kernel
theorem dX10_sum_2 : decode cX10_sum 2 = .ok (.putfield 137, 3) := by decide +kernel
theorem dX10_sum_5 : decode cX10_sum 5 = .ok (.aload_n 0, 1) := by decide +kernel
theorem dX10_sum_6 : decode cX10_sum 6 = .ok (.aload_n 0, 1) := by decide +kernel
theorem dX10_sum_7 : decode cX10_sum 7 = .ok (.getfield 168, 3) := by decide +kernel
theorem dX10_sum_10 : decode cX10_sum 10 = .ok (.bipush 20, 2) := by decide +kernel
theorem dX10_sum_12 : decode cX10_sum 12 = .ok (.if_icmp .ge 7, 3) := by decide +kernel
theorem dX10_sum_15 : decode cX10_sum 15 = .ok (.iconst 1, 1) := by decide +kernel
theorem dX10_sum_16 : decode cX10_sum 16 = .ok (.goto 4, 3) := by decide +kernel
theorem dX10_sum_20 : decode cX10_sum 20 = .ok (.iconst 1, 1) := by decide +kernel
theorem dX10_sum_21 : decode cX10_sum 21 = .ok (.invokevirtual 171, 3) := by decide +kernel
theorem dX10_sum_24 : decode cX10_sum 24 = .ok (.ifCond .eq 5, 3) := by decide +kernel
theorem dX10_sum_27 : decode cX10_sum 27 = .ok (.iconst 0, 1) := by decide +kernel
theorem dX10_sum_28 : decode cX10_sum 28 = .ok (.ireturn, 1) := by decide +kernel
theorem dX10_take_0 : decode cX10_take 0 = .ok (.aload_n 0, 1) := by decide +kernel
theorem dX10_take_1 : decode cX10_take 1 = .ok (.iconst 0, 1) := by decide +kernel
theorem dX10_take_2 : decode cX10_take 2 = .ok (.putfield 137, 3) := by decide +kernel
theorem dX10_take_5 : decode cX10_take 5 = .ok (.aload_n 0, 1) := by decide +kernel
theorem dX10_take_6 : decode cX10_take 6 = .ok (.iload_n 1, 1) := by decide +kernel
theorem dX10_take_7 : decode cX10_take 7 = .ok (.iconst 0, 1) := by decide +kernel
theorem dX10_take_8 : decode cX10_take 8 = .ok (.iconst 1, 1) := by decide +kernel
theorem dX10_take_9 : decode cX10_take 9 = .ok (.invokestatic 179, 3) := by decide +kernel
theorem dX10_take_12 : decode cX10_take 12 = .ok (.ifCond .ne 7, 3) := by decide +kernel
theorem dX10_take_15 : decode cX10_take 15 = .ok (.iconst 1, 1) := by decide +kernel
theorem dX10_take_16 : decode cX10_take 16 = .ok (.goto 4, 3) := by decide +kernel
theorem dX10_take_19 : decode cX10_take 19 = .ok (.iconst 0, 1) := by decide +kernel
theorem dX10_take_20 : decode cX10_take 20 = .ok (.iconst 1, 1) := by decide +kernel
theorem dX10_take_21 : decode cX10_take 21 = .ok (.invokevirtual 171, 3) := by decide +kernel
theorem dX10_take_24 : decode cX10_take 24 = .ok (.ifCond .ne 25, 3) := by decide +kernel
theorem dX10_take_27 : decode cX10_take 27 = .ok (.aload_n 0, 1) := by decide +kernel
theorem dX10_take_28 : decode cX10_take 28 = .ok (.aload_n 0, 1) := by decide +kernel
theorem dX10_take_29 : decode cX10_take 29 = .ok (.getfield 89, 3) := by decide +kernel
theorem dX10_take_32 : decode cX10_take 32 = .ok (.iload_n 1, 1) := by decide +kernel
theorem dX10_take_33 : decode cX10_take 33 = .ok (.iaload, 1) := by decide +kernel
theorem dX10_take_34 : decode cX10_take 34 = .ok (.ifCond .ne 7, 3) := by decide +kernel
theorem dX10_take_37 : decode cX10_take 37 = .ok (.iconst 1, 1) := by decide +kernel
theorem dX10_take_38 : decode cX10_take 38 = .ok (.goto 4, 3) := by decide +kernel
theorem dX10_take_42 : decode cX10_take 42 = .ok (.iconst 2, 1) := by decide +kernel
theorem dX10_take_43 : decode cX10_take 43 = .ok (.invokevirtual 171, 3) := by decide +kernel
theorem dX10_take_46 : decode cX10_take 46 = .ok (.ifCond .eq 5, 3) := by decide +kernel
theorem dX10_take_49 : decode cX10_take 49 = .ok (.iconst 0, 1) := by decide +kernel
theorem dX10_take_50 : decode cX10_take 50 = .ok (.ireturn, 1) := by decide +kernel
theorem dX10_thrown_0 : decode cX10_thrown 0 = .ok (.aload_n 0, 1) := by decide +kernel
theorem dX10_thrown_1 : decode cX10_thrown 1 = .ok (.getfield 137, 3) := by decide +kernel
theorem dX10_thrown_4 : decode cX10_thrown 4 = .ok (.ireturn, 1) := by decide +kernel
theorem dX10_tick_0 : decode cX10_tick 0 = .ok (.aload_n 0, 1) := by decide +kernel
theorem dX10_tick_1 : decode cX10_tick 1 = .ok (.iconst 0, 1) := by decide +kernel
theorem dX10_tick_2 : decode cX10_tick 2 = .ok (.putfield 137, 3) := by decide +kernel
theorem dX10_tick_5 : decode cX10_tick 5 = .ok (.iconst 0, 1) := by decide +kernel
theorem dX10_tick_6 : decode cX10_tick 6 = .ok (.istore_n 1, 1) := by decide +kernel
theorem dX10_tick_7 : decode cX10_tick 7 = .ok (.iconst 0, 1) := by decide +kernel
theorem dX10_tick_8 : decode cX10_tick 8 = .ok (.istore_n 2, 1) := by decide +kernel
theorem dX10_tick_9 : decode cX10_tick 9 = .ok (.iload_n 2, 1) := by decide +kernel
theorem dX10_tick_10 : decode cX10_tick 10 = .ok (.iconst 4, 1) := by decide +kernel
theorem dX10_tick_11 : decode cX10_tick 11 = .ok (.if_icmp .ge 49, 3) := by decide +kernel
theorem dX10_tick_14 : decode cX10_tick 14 = .ok (.aload_n 0, 1) := by decide +kernel
theorem dX10_tick_15 : decode cX10_tick 15 = .ok (.getfield 95, 3) := by decide +kernel
theorem dX10_tick_18 : decode cX10_tick 18 = .ok (.iload_n 2, 1) := by decide +kernel
theorem dX10_tick_19 : decode cX10_tick 19 = .ok (.baload, 1) := by decide +kernel
theorem dX10_tick_20 : decode cX10_tick 20 = .ok (.ifCond .eq 34, 3) := by decide +kernel
theorem dX10_tick_54 : decode cX10_tick 54 = .ok (.iinc 2 1, 3) := by decide +kernel
theorem dX10_tick_57 : decode cX10_tick 57 = .ok (.goto (-48), 3) := by decide +kernel
theorem dX10_tick_60 : decode cX10_tick 60 = .ok (.iload_n 1, 1) := by decide +kernel
theorem dX10_tick_61 : decode cX10_tick 61 = .ok (.ireturn, 1) := by decide +kernel
theorem dX10_told_0 : decode cX10_told 0 = .ok (.aload_n 0, 1) := by decide +kernel
theorem dX10_told_1 : decode cX10_told 1 = .ok (.iconst 0, 1) := by decide +kernel
theorem dX10_told_2 : decode cX10_told 2 = .ok (.putfield 137, 3) := by decide +kernel
theorem dX10_told_5 : decode cX10_told 5 = .ok (.aload_n 0, 1) := by decide +kernel
theorem dX10_told_6 : decode cX10_told 6 = .ok (.iload_n 1, 1) := by decide +kernel
theorem dX10_told_7 : decode cX10_told 7 = .ok (.iconst 0, 1) := by decide +kernel
theorem dX10_told_8 : decode cX10_told 8 = .ok (.aload_n 0, 1) := by decide +kernel
theorem dX10_told_9 : decode cX10_told 9 = .ok (.getfield 200, 3) := by decide +kernel
theorem dX10_told_12 : decode cX10_told 12 = .ok (.iconst 1, 1) := by decide +kernel
theorem dX10_told_13 : decode cX10_told 13 = .ok (.isub, 1) := by decide +kernel
theorem dX10_told_14 : decode cX10_told 14 = .ok (.invokestatic 179, 3) := by decide +kernel
theorem dX10_told_17 : decode cX10_told 17 = .ok (.ifCond .eq 12, 3) := by decide +kernel
theorem dX10_told_29 : decode cX10_told 29 = .ok (.iconst 1, 1) := by decide +kernel
theorem dX10_told_30 : decode cX10_told 30 = .ok (.goto 4, 3) := by decide +kernel
theorem dX10_told_34 : decode cX10_told 34 = .ok (.iconst 1, 1) := by decide +kernel
theorem dX10_told_35 : decode cX10_told 35 = .ok (.invokevirtual 171, 3) := by decide +kernel
theorem dX10_told_38 : decode cX10_told 38 = .ok (.ifCond .eq 5, 3) := by decide +kernel
theorem dX10_told_41 : decode cX10_told 41 = .ok (.iconst 0, 1) := by decide +kernel
theorem dX10_told_42 : decode cX10_told 42 = .ok (.ireturn, 1) := by decide +kernel
theorem dX10_top_0 : decode cX10_top 0 = .ok (.aload_n 0, 1) := by decide +kernel
theorem dX10_top_1 : decode cX10_top 1 = .ok (.iconst 0, 1) := by decide +kernel
theorem dX10_top_2 : decode cX10_top 2 = .ok (.putfield 137, 3) := by decide +kernel
theorem dX10_top_5 : decode cX10_top 5 = .ok (.aload_n 0, 1) := by decide +kernel
theorem dX10_top_6 : decode cX10_top 6 = .ok (.iload_n 1, 1) := by decide +kernel
theorem dX10_top_7 : decode cX10_top 7 = .ok (.iconst 0, 1) := by decide +kernel
theorem dX10_top_8 : decode cX10_top 8 = .ok (.aload_n 0, 1) := by decide +kernel
theorem dX10_top_9 : decode cX10_top 9 = .ok (.getfield 200, 3) := by decide +kernel
theorem dX10_top_12 : decode cX10_top 12 = .ok (.iconst 1, 1) := by decide +kernel
theorem dX10_top_13 : decode cX10_top 13 = .ok (.isub, 1) := by decide +kernel
theorem dX10_top_14 : decode cX10_top 14 = .ok (.invokestatic 179, 3) := by decide +kernel
theorem dX10_top_17 : decode cX10_top 17 = .ok (.ifCond .ne 7, 3) := by decide +kernel
theorem dX10_top_20 : decode cX10_top 20 = .ok (.iconst 1, 1) := by decide +kernel
theorem dX10_top_21 : decode cX10_top 21 = .ok (.goto 4, 3) := by decide +kernel
theorem dX10_top_25 : decode cX10_top 25 = .ok (.iconst 1, 1) := by decide +kernel
theorem dX10_top_26 : decode cX10_top 26 = .ok (.invokevirtual 171, 3) := by decide +kernel
theorem dX10_top_29 : decode cX10_top 29 = .ok (.ifCond .eq 7, 3) := by decide +kernel
theorem dX10_top_32 : decode cX10_top 32 = .ok (.lconst 0, 1) := by decide +kernel
theorem dX10_top_33 : decode cX10_top 33 = .ok (.goto 9, 3) := by decide +kernel
theorem dX10_top_42 : decode cX10_top 42 = .ok (.lreturn, 1) := by decide +kernel
theorem dX10_two_0 : decode cX10_two 0 = .ok (.aload_n 0, 1) := by decide +kernel
theorem dX10_two_1 : decode cX10_two 1 = .ok (.getfield 7, 3) := by decide +kernel
theorem dX10_two_4 : decode cX10_two 4 = .ok (.iload_n 1, 1) := by decide +kernel
theorem dX10_two_5 : decode cX10_two 5 = .ok (.iaload, 1) := by decide +kernel
theorem dX10_two_6 : decode cX10_two 6 = .ok (.bipush 8, 2) := by decide +kernel
theorem dX10_two_8 : decode cX10_two 8 = .ok (.ishl, 1) := by decide +kernel
theorem dX10_two_9 : decode cX10_two 9 = .ok (.aload_n 0, 1) := by decide +kernel
theorem dX10_two_10 : decode cX10_two 10 = .ok (.getfield 7, 3) := by decide +kernel
theorem dX10_two_13 : decode cX10_two 13 = .ok (.iload_n 1, 1) := by decide +kernel
theorem dX10_two_14 : decode cX10_two 14 = .ok (.iconst 1, 1) := by decide +kernel
theorem dX10_two_15 : decode cX10_two 15 = .ok (.iadd, 1) := by decide +kernel
theorem dX10_two_16 : decode cX10_two 16 = .ok (.iaload, 1) := by decide +kernel
theorem dX10_two_17 : decode cX10_two 17 = .ok (.ior, 1) := by decide +kernel
theorem dX10_two_18 : decode cX10_two 18 = .ok (.ireturn, 1) := by decide +kernel
theorem dX10_type_0 : decode cX10_type 0 = .ok (.aload_n 0, 1) := by decide +kernel
theorem dX10_type_1 : decode cX10_type 1 = .ok (.iconst 0, 1) := by decide +kernel
theorem dX10_type_2 : decode cX10_type 2 = .ok (.putfield 137, 3) := by decide +kernel
theorem dX10_type_5 : decode cX10_type 5 = .ok (.aload_n 0, 1) := by decide +kernel
theorem dX10_type_6 : decode cX10_type 6 = .ok (.aload_n 0, 1) := by decide +kernel
theorem dX10_type_7 : decode cX10_type 7 = .ok (.getfield 168, 3) := by decide +kernel
theorem dX10_type_10 : decode cX10_type 10 = .ok (.bipush 8, 2) := by decide +kernel
theorem dX10_type_12 : decode cX10_type 12 = .ok (.iadd, 1) := by decide +kernel
theorem dX10_type_13 : decode cX10_type 13 = .ok (.sipush 2000, 3) := by decide +kernel
theorem dX10_type_16 : decode cX10_type 16 = .ok (.if_icmp .le 7, 3) := by decide +kernel
theorem dX10_type_23 : decode cX10_type 23 = .ok (.iconst 0, 1) := by decide +kernel
theorem dX10_type_24 : decode cX10_type 24 = .ok (.iconst 1, 1) := by decide +kernel
theorem dX10_type_25 : decode cX10_type 25 = .ok (.invokevirtual 171, 3) := by decide +kernel
theorem dX10_type_28 : decode cX10_type 28 = .ok (.ifCond .eq 5, 3) := by decide +kernel
theorem dX10_type_33 : decode cX10_type 33 = .ok (.aload_n 0, 1) := by decide +kernel
theorem dX10_type_34 : decode cX10_type 34 = .ok (.iconst 0, 1) := by decide +kernel
theorem dX10_type_35 : decode cX10_type 35 = .ok (.aload_n 0, 1) := by decide +kernel
theorem dX10_type_36 : decode cX10_type 36 = .ok (.getfield 168, 3) := by decide +kernel
theorem dX10_type_39 : decode cX10_type 39 = .ok (.iadd, 1) := by decide +kernel
theorem dX10_type_40 : decode cX10_type 40 = .ok (.lload_n 1, 1) := by decide +kernel
theorem dX10_type_41 : decode cX10_type 41 = .ok (.invokevirtual 175, 3) := by decide +kernel
theorem dX10_type_44 : decode cX10_type 44 = .ok (.aload_n 0, 1) := by decide +kernel
theorem dX10_type_45 : decode cX10_type 45 = .ok (.dup, 1) := by decide +kernel
theorem dX10_type_46 : decode cX10_type 46 = .ok (.getfield 168, 3) := by decide +kernel
theorem dX10_type_49 : decode cX10_type 49 = .ok (.bipush 8, 2) := by decide +kernel
theorem dX10_type_51 : decode cX10_type 51 = .ok (.iadd, 1) := by decide +kernel
theorem dX10_type_52 : decode cX10_type 52 = .ok (.putfield 168, 3) := by decide +kernel
theorem dX10_type_55 : decode cX10_type 55 = .ok (.aload_n 0, 1) := by decide +kernel
theorem dX10_type_56 : decode cX10_type 56 = .ok (.getfield 168, 3) := by decide +kernel
theorem dX10_type_59 : decode cX10_type 59 = .ok (.ireturn, 1) := by decide +kernel
