theorem dX8_open_34 : decode cX8_open 34 = .ok (.return_, 1) := by decide +kernel
theorem dX8_sealedSize_0 : decode cX8_sealedSize 0 = .ok (.bipush 36, 2) := by decide +kernel
theorem dX8_sealedSize_2 : decode cX8_sealedSize 2 = .ok (.aload_n 1, 1) := by decide +kernel
theorem dX8_sealedSize_3 : decode cX8_sealedSize 3 = .ok (.invokevirtual 56, 3) := by decide +kernel
theorem dX8_sealedSize_6 : decode cX8_sealedSize 6 = .ok (.iadd, 1) := by decide +kernel
theorem dX8_sealedSize_7 : decode cX8_sealedSize 7 = .ok (.aload_n 1, 1) := by decide +kernel
theorem dX8_sealedSize_8 : decode cX8_sealedSize 8 = .ok (.invokestatic 62, 3) := by decide +kernel
theorem dX8_sealedSize_11 : decode cX8_sealedSize 11 = .ok (.iadd, 1) := by decide +kernel
theorem dX8_sealedSize_12 : decode cX8_sealedSize 12 = .ok (.iconst 2, 1) := by decide +kernel
theorem dX8_sealedSize_13 : decode cX8_sealedSize 13 = .ok (.iadd, 1) := by decide +kernel
theorem dX8_sealedSize_14 : decode cX8_sealedSize 14 = .ok (.ireturn, 1) := by decide +kernel
theorem dX8_seenBits_0 : decode cX8_seenBits 0 = .ok (.aload_n 0, 1) := by decide +kernel
theorem dX8_seenBits_1 : decode cX8_seenBits 1 = .ok (.getfield 38, 3) := by decide +kernel
theorem dX8_seenBits_4 : decode cX8_seenBits 4 = .ok (.lreturn, 1) := by decide +kernel
theorem dX8_stamp_0 : decode cX8_stamp 0 = .ok (.aload_n 0, 1) := by decide +kernel
theorem dX8_stamp_1 : decode cX8_stamp 1 = .ok (.getfield 25, 3) := by decide +kernel
theorem dX8_stamp_4 : decode cX8_stamp 4 = .ok (.lstore 5, 2) := by decide +kernel
theorem dX8_stamp_6 : decode cX8_stamp 6 = .ok (.bipush 20, 2) := by decide +kernel
theorem dX8_stamp_8 : decode cX8_stamp 8 = .ok (.istore 7, 2) := by decide +kernel
theorem dX8_stamp_10 : decode cX8_stamp 10 = .ok (.iload 7, 2) := by decide +kernel
theorem dX8_stamp_12 : decode cX8_stamp 12 = .ok (.iload_n 2, 1) := by decide +kernel
theorem dX8_stamp_13 : decode cX8_stamp 13 = .ok (.if_icmp .ge 22, 3) := by decide +kernel
theorem dX8_stamp_16 : decode cX8_stamp 16 = .ok (.lload 5, 2) := by decide +kernel
theorem dX8_stamp_18 : decode cX8_stamp 18 = .ok (.aload_n 1, 1) := by decide +kernel
theorem dX8_stamp_19 : decode cX8_stamp 19 = .ok (.iload 7, 2) := by decide +kernel
theorem dX8_stamp_21 : decode cX8_stamp 21 = .ok (.invokevirtual 95, 3) := by decide +kernel
theorem dX8_stamp_24 : decode cX8_stamp 24 = .ok (.invokestatic 99, 3) := by decide +kernel
theorem dX8_stamp_27 : decode cX8_stamp 27 = .ok (.lstore 5, 2) := by decide +kernel
theorem dX8_stamp_29 : decode cX8_stamp 29 = .ok (.iinc 7 1, 3) := by decide +kernel
theorem dX8_stamp_32 : decode cX8_stamp 32 = .ok (.goto (-22), 3) := by decide +kernel
theorem dX8_stamp_35 : decode cX8_stamp 35 = .ok (.aload_n 0, 1) := by decide +kernel
theorem dX8_stamp_36 : decode cX8_stamp 36 = .ok (.getfield 28, 3) := by decide +kernel
theorem dX8_stamp_39 : decode cX8_stamp 39 = .ok (.ifCond .eq 36, 3) := by decide +kernel
theorem dX8_stamp_42 : decode cX8_stamp 42 = .ok (.bipush 56, 2) := by decide +kernel
theorem dX8_stamp_44 : decode cX8_stamp 44 = .ok (.istore 7, 2) := by decide +kernel
theorem dX8_stamp_46 : decode cX8_stamp 46 = .ok (.iload 7, 2) := by decide +kernel
theorem dX8_stamp_48 : decode cX8_stamp 48 = .ok (.bipush 32, 2) := by decide +kernel
theorem dX8_stamp_50 : decode cX8_stamp 50 = .ok (.if_icmp .lt 25, 3) := by decide +kernel
theorem dX8_stamp_53 : decode cX8_stamp 53 = .ok (.lload 5, 2) := by decide +kernel
theorem dX8_stamp_55 : decode cX8_stamp 55 = .ok (.lload_n 3, 1) := by decide +kernel
theorem dX8_stamp_56 : decode cX8_stamp 56 = .ok (.iload 7, 2) := by decide +kernel
theorem dX8_stamp_58 : decode cX8_stamp 58 = .ok (.lushr, 1) := by decide +kernel
theorem dX8_stamp_59 : decode cX8_stamp 59 = .ok (.l2i, 1) := by decide +kernel
theorem dX8_stamp_60 : decode cX8_stamp 60 = .ok (.sipush 255, 3) := by decide +kernel
theorem dX8_stamp_63 : decode cX8_stamp 63 = .ok (.iand, 1) := by decide +kernel
theorem dX8_stamp_64 : decode cX8_stamp 64 = .ok (.invokestatic 99, 3) := by decide +kernel
theorem dX8_stamp_67 : decode cX8_stamp 67 = .ok (.lstore 5, 2) := by decide +kernel
theorem dX8_stamp_69 : decode cX8_stamp 69 = .ok (.iinc 7 (-8), 3) := by decide +kernel
theorem dX8_stamp_72 : decode cX8_stamp 72 = .ok (.goto (-26), 3) := by decide +kernel
theorem dX8_stamp_75 : decode cX8_stamp 75 = .ok (.lload 5, 2) := by decide +kernel
theorem dX8_stamp_77 : decode cX8_stamp 77 = .ok (.lload 5, 2) := by decide +kernel
theorem dX8_stamp_79 : decode cX8_stamp 79 = .ok (.bipush 32, 2) := by decide +kernel
theorem dX8_stamp_81 : decode cX8_stamp 81 = .ok (.lushr, 1) := by decide +kernel
theorem dX8_stamp_82 : decode cX8_stamp 82 = .ok (.lxor, 1) := by decide +kernel
theorem dX8_stamp_83 : decode cX8_stamp 83 = .ok (.lreturn, 1) := by decide +kernel
theorem dX8_stampByte_0 : decode cX8_stampByte 0 = .ok (.lload_n 0, 1) := by decide +kernel
theorem dX8_stampByte_1 : decode cX8_stampByte 1 = .ok (.iload_n 2, 1) := by decide +kernel
theorem dX8_stampByte_2 : decode cX8_stampByte 2 = .ok (.i2l, 1) := by decide +kernel
theorem dX8_stampByte_3 : decode cX8_stampByte 3 = .ok (.lxor, 1) := by decide +kernel
theorem dX8_stampByte_4 : decode cX8_stampByte 4 = .ok (.ldc2_w 103, 3) := by decide +kernel
theorem dX8_stampByte_7 : decode cX8_stampByte 7 = .ok (.lmul, 1) := by decide +kernel
theorem dX8_stampByte_8 : decode cX8_stampByte 8 = .ok (.lreturn, 1) := by decide +kernel
theorem dX8_stream_0 : decode cX8_stream 0 = .ok (.aload_n 0, 1) := by decide +kernel
theorem dX8_stream_1 : decode cX8_stream 1 = .ok (.getfield 21, 3) := by decide +kernel
theorem dX8_stream_4 : decode cX8_stream 4 = .ok (.lload 4, 2) := by decide +kernel
theorem dX8_stream_6 : decode cX8_stream 6 = .ok (.ldc2_w 89, 3) := by decide +kernel
theorem dX8_stream_9 : decode cX8_stream 9 = .ok (.lmul, 1) := by decide +kernel
theorem dX8_stream_10 : decode cX8_stream 10 = .ok (.lxor, 1) := by decide +kernel
theorem dX8_stream_11 : decode cX8_stream 11 = .ok (.lstore 6, 2) := by decide +kernel
theorem dX8_stream_13 : decode cX8_stream 13 = .ok (.iload_n 2, 1) := by decide +kernel
theorem dX8_stream_14 : decode cX8_stream 14 = .ok (.istore 8, 2) := by decide +kernel
theorem dX8_stream_16 : decode cX8_stream 16 = .ok (.iload 8, 2) := by decide +kernel
theorem dX8_stream_18 : decode cX8_stream 18 = .ok (.iload_n 3, 1) := by decide +kernel
theorem dX8_stream_19 : decode cX8_stream 19 = .ok (.if_icmp .ge 40, 3) := by decide +kernel
theorem dX8_stream_22 : decode cX8_stream 22 = .ok (.lload 6, 2) := by decide +kernel
theorem dX8_stream_24 : decode cX8_stream 24 = .ok (.ldc2_w 91, 3) := by decide +kernel
theorem dX8_stream_27 : decode cX8_stream 27 = .ok (.lmul, 1) := by decide +kernel
theorem dX8_stream_28 : decode cX8_stream 28 = .ok (.ldc2_w 93, 3) := by decide +kernel
theorem dX8_stream_31 : decode cX8_stream 31 = .ok (.ladd, 1) := by decide +kernel
theorem dX8_stream_32 : decode cX8_stream 32 = .ok (.lstore 6, 2) := by decide +kernel
theorem dX8_stream_34 : decode cX8_stream 34 = .ok (.aload_n 1, 1) := by decide +kernel
theorem dX8_stream_35 : decode cX8_stream 35 = .ok (.iload 8, 2) := by decide +kernel
theorem dX8_stream_37 : decode cX8_stream 37 = .ok (.aload_n 1, 1) := by decide +kernel
theorem dX8_stream_38 : decode cX8_stream 38 = .ok (.iload 8, 2) := by decide +kernel
theorem dX8_stream_40 : decode cX8_stream 40 = .ok (.invokevirtual 95, 3) := by decide +kernel
theorem dX8_stream_43 : decode cX8_stream 43 = .ok (.lload 6, 2) := by decide +kernel
theorem dX8_stream_45 : decode cX8_stream 45 = .ok (.bipush 56, 2) := by decide +kernel
theorem dX8_stream_47 : decode cX8_stream 47 = .ok (.lushr, 1) := by decide +kernel
theorem dX8_stream_48 : decode cX8_stream 48 = .ok (.l2i, 1) := by decide +kernel
theorem dX8_stream_49 : decode cX8_stream 49 = .ok (.ixor, 1) := by decide +kernel
theorem dX8_stream_50 : decode cX8_stream 50 = .ok (.invokevirtual 74, 3) := by decide +kernel
theorem dX8_stream_53 : decode cX8_stream 53 = .ok (.iinc 8 1, 3) := by decide +kernel
theorem dX8_stream_56 : decode cX8_stream 56 = .ok (.goto (-40), 3) := by decide +kernel
theorem dX8_stream_59 : decode cX8_stream 59 = .ok (.return_, 1) := by decide +kernel
theorem dX8_tunnel_0 : decode cX8_tunnel 0 = .ok (.aload_n 0, 1) := by decide +kernel
theorem dX8_tunnel_1 : decode cX8_tunnel 1 = .ok (.getfield 15, 3) := by decide +kernel
theorem dX8_tunnel_4 : decode cX8_tunnel 4 = .ok (.ireturn, 1) := by decide +kernel
theorem dX8_wasSeen_0 : decode cX8_wasSeen 0 = .ok (.aload_n 0, 1) := by decide +kernel
theorem dX8_wasSeen_1 : decode cX8_wasSeen 1 = .ok (.getfield 35, 3) := by decide +kernel
theorem dX8_wasSeen_4 : decode cX8_wasSeen 4 = .ok (.lload_n 1, 1) := by decide +kernel
theorem dX8_wasSeen_5 : decode cX8_wasSeen 5 = .ok (.lsub, 1) := by decide +kernel
theorem dX8_wasSeen_6 : decode cX8_wasSeen 6 = .ok (.lstore_n 3, 1) := by decide +kernel
theorem dX8_wasSeen_7 : decode cX8_wasSeen 7 = .ok (.lload_n 3, 1) := by decide +kernel
theorem dX8_wasSeen_8 : decode cX8_wasSeen 8 = .ok (.lconst 0, 1) := by decide +kernel
theorem dX8_wasSeen_9 : decode cX8_wasSeen 9 = .ok (.lcmp, 1) := by decide +kernel
theorem dX8_wasSeen_10 : decode cX8_wasSeen 10 = .ok (.ifCond .lt 29, 3) := by decide +kernel
theorem dX8_wasSeen_13 : decode cX8_wasSeen 13 = .ok (.lload_n 3, 1) := by decide +kernel
theorem dX8_wasSeen_14 : decode cX8_wasSeen 14 = .ok (.ldc2_w 114, 3) := by decide +kernel
theorem dX8_wasSeen_17 : decode cX8_wasSeen 17 = .ok (.lcmp, 1) := by decide +kernel
theorem dX8_wasSeen_18 : decode cX8_wasSeen 18 = .ok (.ifCond .ge 21, 3) := by decide +kernel
theorem dX8_wasSeen_21 : decode cX8_wasSeen 21 = .ok (.aload_n 0, 1) := by decide +kernel
theorem dX8_wasSeen_22 : decode cX8_wasSeen 22 = .ok (.getfield 38, 3) := by decide +kernel
theorem dX8_wasSeen_25 : decode cX8_wasSeen 25 = .ok (.lload_n 3, 1) := by decide +kernel
theorem dX8_wasSeen_26 : decode cX8_wasSeen 26 = .ok (.l2i, 1) := by decide +kernel
theorem dX8_wasSeen_27 : decode cX8_wasSeen 27 = .ok (.lushr, 1) := by decide +kernel
theorem dX8_wasSeen_28 : decode cX8_wasSeen 28 = .ok (.lconst 1, 1) := by decide +kernel
theorem dX8_wasSeen_29 : decode cX8_wasSeen 29 = .ok (.land, 1) := by decide +kernel
theorem dX8_wasSeen_30 : decode cX8_wasSeen 30 = .ok (.lconst 0, 1) := by decide +kernel
theorem dX8_wasSeen_31 : decode cX8_wasSeen 31 = .ok (.lcmp, 1) := by decide +kernel
theorem dX8_wasSeen_32 : decode cX8_wasSeen 32 = .ok (.ifCond .eq 7, 3) := by decide +kernel
theorem dX8_wasSeen_35 : decode cX8_wasSeen 35 = .ok (.iconst 1, 1) := by decide +kernel
theorem dX8_wasSeen_36 : decode cX8_wasSeen 36 = .ok (.goto 4, 3) := by decide +kernel
theorem dX8_wasSeen_39 : decode cX8_wasSeen 39 = .ok (.iconst 0, 1) := by decide +kernel
theorem dX8_wasSeen_40 : decode cX8_wasSeen 40 = .ok (.ireturn, 1) := by decide +kernel
theorem dX8_way_0 : decode cX8_way 0 = .ok (.aload_n 0, 1) := by decide +kernel
theorem dX8_way_1 : decode cX8_way 1 = .ok (.getfield 11, 3) := by decide +kernel
theorem dX8_way_4 : decode cX8_way 4 = .ok (.ireturn, 1) := by decide +kernel
theorem dX8_wholeNumber_0 : decode cX8_wholeNumber 0 = .ok (.iload_n 1, 1) := by decide +kernel
theorem dX8_wholeNumber_1 : decode cX8_wholeNumber 1 = .ok (.i2l, 1) := by decide +kernel
theorem dX8_wholeNumber_2 : decode cX8_wholeNumber 2 = .ok (.ldc2_w 46, 3) := by decide +kernel
theorem dX8_wholeNumber_5 : decode cX8_wholeNumber 5 = .ok (.land, 1) := by decide +kernel
theorem dX8_wholeNumber_6 : decode cX8_wholeNumber 6 = .ok (.lstore_n 2, 1) := by decide +kernel
theorem dX8_wholeNumber_7 : decode cX8_wholeNumber 7 = .ok (.aload_n 0, 1) := by decide +kernel
theorem dX8_wholeNumber_8 : decode cX8_wholeNumber 8 = .ok (.getfield 28, 3) := by decide +kernel
theorem dX8_wholeNumber_11 : decode cX8_wholeNumber 11 = .ok (.ifCond .ne 5, 3) := by decide +kernel
theorem dX8_wholeNumber_14 : decode cX8_wholeNumber 14 = .ok (.lload_n 2, 1) := by decide +kernel
theorem dX8_wholeNumber_15 : decode cX8_wholeNumber 15 = .ok (.lreturn, 1) := by decide +kernel
theorem dX8_wholeNumber_16 : decode cX8_wholeNumber 16 = .ok (.aload_n 0, 1) := by decide +kernel
theorem dX8_wholeNumber_17 : decode cX8_wholeNumber 17 = .ok (.getfield 35, 3) := by decide +kernel
theorem dX8_wholeNumber_20 : decode cX8_wholeNumber 20 = .ok (.bipush 32, 2) := by decide +kernel
theorem dX8_wholeNumber_22 : decode cX8_wholeNumber 22 = .ok (.lushr, 1) := by decide +kernel
theorem dX8_wholeNumber_23 : decode cX8_wholeNumber 23 = .ok (.lstore 4, 2) := by decide +kernel
theorem dX8_wholeNumber_25 : decode cX8_wholeNumber 25 = .ok (.aload_n 0, 1) := by decide +kernel
theorem dX8_wholeNumber_26 : decode cX8_wholeNumber 26 = .ok (.getfield 35, 3) := by decide +kernel
theorem dX8_wholeNumber_29 : decode cX8_wholeNumber 29 = .ok (.ldc2_w 46, 3) := by decide +kernel
theorem dX8_wholeNumber_32 : decode cX8_wholeNumber 32 = .ok (.land, 1) := by decide +kernel
theorem dX8_wholeNumber_33 : decode cX8_wholeNumber 33 = .ok (.ldc2_w 108, 3) := by decide +kernel
theorem dX8_wholeNumber_36 : decode cX8_wholeNumber 36 = .ok (.lsub, 1) := by decide +kernel
theorem dX8_wholeNumber_37 : decode cX8_wholeNumber 37 = .ok (.lstore 6, 2) := by decide +kernel
theorem dX8_wholeNumber_39 : decode cX8_wholeNumber 39 = .ok (.lload 6, 2) := by decide +kernel
theorem dX8_wholeNumber_41 : decode cX8_wholeNumber 41 = .ok (.lconst 0, 1) := by decide +kernel
theorem dX8_wholeNumber_42 : decode cX8_wholeNumber 42 = .ok (.lcmp, 1) := by decide +kernel
theorem dX8_wholeNumber_43 : decode cX8_wholeNumber 43 = .ok (.ifCond .lt 19, 3) := by decide +kernel
theorem dX8_wholeNumber_46 : decode cX8_wholeNumber 46 = .ok (.lload_n 2, 1) := by decide +kernel
theorem dX8_wholeNumber_47 : decode cX8_wholeNumber 47 = .ok (.lload 6, 2) := by decide +kernel
theorem dX8_wholeNumber_49 : decode cX8_wholeNumber 49 = .ok (.lcmp, 1) := by decide +kernel
theorem dX8_wholeNumber_50 : decode cX8_wholeNumber 50 = .ok (.ifCond .ge 12, 3) := by decide +kernel
theorem dX8_wholeNumber_53 : decode cX8_wholeNumber 53 = .ok (.lload 4, 2) := by decide +kernel
theorem dX8_wholeNumber_55 : decode cX8_wholeNumber 55 = .ok (.lconst 1, 1) := by decide +kernel
theorem dX8_wholeNumber_56 : decode cX8_wholeNumber 56 = .ok (.ladd, 1) := by decide +kernel
theorem dX8_wholeNumber_57 : decode cX8_wholeNumber 57 = .ok (.lstore 4, 2) := by decide +kernel
theorem dX8_wholeNumber_59 : decode cX8_wholeNumber 59 = .ok (.goto 29, 3) := by decide +kernel
theorem dX8_wholeNumber_62 : decode cX8_wholeNumber 62 = .ok (.lload 6, 2) := by decide +kernel
theorem dX8_wholeNumber_64 : decode cX8_wholeNumber 64 = .ok (.lconst 0, 1) := by decide +kernel
theorem dX8_wholeNumber_65 : decode cX8_wholeNumber 65 = .ok (.lcmp, 1) := by decide +kernel
theorem dX8_wholeNumber_66 : decode cX8_wholeNumber 66 = .ok (.ifCond .ge 22, 3) := by decide +kernel
theorem dX8_wholeNumber_69 : decode cX8_wholeNumber 69 = .ok (.lload_n 2, 1) := by decide +kernel
theorem dX8_wholeNumber_70 : decode cX8_wholeNumber 70 = .ok (.lload 6, 2) := by decide +kernel
theorem dX8_wholeNumber_72 : decode cX8_wholeNumber 72 = .ok (.ldc2_w 46, 3) := by decide +kernel
theorem dX8_wholeNumber_75 : decode cX8_wholeNumber 75 = .ok (.ladd, 1) := by decide +kernel
theorem dX8_wholeNumber_76 : decode cX8_wholeNumber 76 = .ok (.lconst 1, 1) := by decide +kernel
theorem dX8_wholeNumber_77 : decode cX8_wholeNumber 77 = .ok (.ladd, 1) := by decide +kernel
theorem dX8_wholeNumber_78 : decode cX8_wholeNumber 78 = .ok (.lcmp, 1) := by decide +kernel
theorem dX8_wholeNumber_79 : decode cX8_wholeNumber 79 = .ok (.ifCond .lt 9, 3) := by decide +kernel
theorem dX8_wholeNumber_82 : decode cX8_wholeNumber 82 = .ok (.lload 4, 2) := by decide +kernel
theorem dX8_wholeNumber_84 : decode cX8_wholeNumber 84 = .ok (.lconst 1, 1) := by decide +kernel
theorem dX8_wholeNumber_85 : decode cX8_wholeNumber 85 = .ok (.lsub, 1) := by decide +kernel
theorem dX8_wholeNumber_86 : decode cX8_wholeNumber 86 = .ok (.lstore 4, 2) := by decide +kernel
theorem dX8_wholeNumber_88 : decode cX8_wholeNumber 88 = .ok (.lload 4, 2) := by decide +kernel
theorem dX8_wholeNumber_90 : decode cX8_wholeNumber 90 = .ok (.lconst 0, 1) := by decide +kernel
theorem dX8_wholeNumber_91 : decode cX8_wholeNumber 91 = .ok (.lcmp, 1) := by decide +kernel
theorem dX8_wholeNumber_92 : decode cX8_wholeNumber 92 = .ok (.ifCond .lt 12, 3) := by decide +kernel
theorem dX8_wholeNumber_95 : decode cX8_wholeNumber 95 = .ok (.lload 4, 2) := by decide +kernel
theorem dX8_wholeNumber_97 : decode cX8_wholeNumber 97 = .ok (.ldc2_w 110, 3) := by decide +kernel
theorem dX8_wholeNumber_100 : decode cX8_wholeNumber 100 = .ok (.lcmp, 1) := by decide +kernel
theorem dX8_wholeNumber_101 : decode cX8_wholeNumber 101 = .ok (.ifCond .le 9, 3) := by decide +kernel
theorem dX8_wholeNumber_104 : decode cX8_wholeNumber 104 = .ok (.ldc2_w 112, 3) := by decide +kernel
theorem dX8_wholeNumber_107 : decode cX8_wholeNumber 107 = .ok (.goto 10, 3) := by decide +kernel
theorem dX8_wholeNumber_110 : decode cX8_wholeNumber 110 = .ok (.lload 4, 2) := by decide +kernel
theorem dX8_wholeNumber_112 : decode cX8_wholeNumber 112 = .ok (.bipush 32, 2) := by decide +kernel
theorem dX8_wholeNumber_114 : decode cX8_wholeNumber 114 = .ok (.lshl, 1) := by decide +kernel
theorem dX8_wholeNumber_115 : decode cX8_wholeNumber 115 = .ok (.lload_n 2, 1) := by decide +kernel
theorem dX8_wholeNumber_116 : decode cX8_wholeNumber 116 = .ok (.lor, 1) := by decide +kernel
theorem dX8_wholeNumber_117 : decode cX8_wholeNumber 117 = .ok (.lreturn, 1) := by decide +kernel
theorem dX9_at_0 : decode cX9_at 0 = .ok (.iload_n 1, 1) := by decide +kernel
theorem dX9_at_1 : decode cX9_at 1 = .ok (.ifCond .lt 14, 3) := by decide +kernel
theorem dX9_at_4 : decode cX9_at 4 = .ok (.iload_n 1, 1) := by decide +kernel
theorem dX9_at_5 : decode cX9_at 5 = .ok (.aload_n 0, 1) := by decide +kernel
theorem dX9_at_6 : decode cX9_at 6 = .ok (.getfield 10, 3) := by decide +kernel
theorem dX9_at_9 : decode cX9_at 9 = .ok (.invokevirtual 76, 3) := by decide +kernel
theorem dX9_at_12 : decode cX9_at 12 = .ok (.if_icmp .lt 13, 3) := by decide +kernel
theorem dX9_at_15 : decode cX9_at 15 = .ok (.new 114, 3) := by decide +kernel
theorem dX9_at_18 : decode cX9_at 18 = .ok (.dup, 1) := by decide +kernel
theorem dX9_at_19 : decode cX9_at 19 = .ok (.ldc 116, 2) := by decide +kernel
theorem dX9_at_21 : decode cX9_at 21 = .ok (.invokespecial 118, 3) := by decide +kernel
theorem dX9_at_24 : decode cX9_at 24 = .ok (.athrow, 1) := by decide +kernel
theorem dX9_at_25 : decode cX9_at 25 = .ok (.aload_n 0, 1) := by decide +kernel
theorem dX9_at_26 : decode cX9_at 26 = .ok (.getfield 10, 3) := by decide +kernel
theorem dX9_at_29 : decode cX9_at 29 = .ok (.iload_n 1, 1) := by decide +kernel
theorem dX9_at_30 : decode cX9_at 30 = .ok (.invokevirtual 119, 3) := by decide +kernel
theorem dX9_at_33 : decode cX9_at 33 = .ok (.ireturn, 1) := by decide +kernel
theorem dX9_clear_0 : decode cX9_clear 0 = .ok (.aload_n 0, 1) := by decide +kernel
theorem dX9_clear_1 : decode cX9_clear 1 = .ok (.getfield 10, 3) := by decide +kernel
theorem dX9_clear_4 : decode cX9_clear 4 = .ok (.iconst 0, 1) := by decide +kernel
theorem dX9_clear_5 : decode cX9_clear 5 = .ok (.invokevirtual 87, 3) := by decide +kernel
theorem dX9_clear_8 : decode cX9_clear 8 = .ok (.aload_n 0, 1) := by decide +kernel
theorem dX9_clear_9 : decode cX9_clear 9 = .ok (.getfield 22, 3) := by decide +kernel
theorem dX9_clear_12 : decode cX9_clear 12 = .ok (.iconst 0, 1) := by decide +kernel
theorem dX9_clear_13 : decode cX9_clear 13 = .ok (.invokevirtual 87, 3) := by decide +kernel
theorem dX9_clear_16 : decode cX9_clear 16 = .ok (.aload_n 0, 1) := by decide +kernel
theorem dX9_clear_17 : decode cX9_clear 17 = .ok (.getfield 25, 3) := by decide +kernel
theorem dX9_clear_20 : decode cX9_clear 20 = .ok (.iconst 0, 1) := by decide +kernel
theorem dX9_clear_21 : decode cX9_clear 21 = .ok (.invokevirtual 87, 3) := by decide +kernel
theorem dX9_clear_24 : decode cX9_clear 24 = .ok (.aload_n 0, 1) := by decide +kernel
theorem dX9_clear_25 : decode cX9_clear 25 = .ok (.iconst (-1), 1) := by decide +kernel
theorem dX9_clear_26 : decode cX9_clear 26 = .ok (.putfield 28, 3) := by decide +kernel
theorem dX9_clear_29 : decode cX9_clear 29 = .ok (.aload_n 0, 1) := by decide +kernel
theorem dX9_clear_30 : decode cX9_clear 30 = .ok (.getfield 35, 3) := by decide +kernel
theorem dX9_clear_33 : decode cX9_clear 33 = .ok (.invokevirtual 281, 3) := by decide +kernel
theorem dX9_clear_36 : decode cX9_clear 36 = .ok (.aload_n 0, 1) := by decide +kernel
theorem dX9_clear_37 : decode cX9_clear 37 = .ok (.getfield 42, 3) := by decide +kernel
theorem dX9_clear_40 : decode cX9_clear 40 = .ok (.invokevirtual 284, 3) := by decide +kernel
theorem dX9_clear_43 : decode cX9_clear 43 = .ok (.aload_n 0, 1) := by decide +kernel
theorem dX9_clear_44 : decode cX9_clear 44 = .ok (.getfield 46, 3) := by decide +kernel
theorem dX9_clear_47 : decode cX9_clear 47 = .ok (.iconst 0, 1) := by decide +kernel
theorem dX9_clear_48 : decode cX9_clear 48 = .ok (.invokestatic 285, 3) := by decide +kernel
theorem dX9_clear_51 : decode cX9_clear 51 = .ok (.aload_n 0, 1) := by decide +kernel
theorem dX9_clear_52 : decode cX9_clear 52 = .ok (.iconst 0, 1) := by decide +kernel
theorem dX9_clear_53 : decode cX9_clear 53 = .ok (.putfield 178, 3) := by decide +kernel
theorem dX9_clear_56 : decode cX9_clear 56 = .ok (.aload_n 0, 1) := by decide +kernel
theorem dX9_clear_57 : decode cX9_clear 57 = .ok (.iconst 0, 1) := by decide +kernel
theorem dX9_clear_58 : decode cX9_clear 58 = .ok (.putfield 275, 3) := by decide +kernel
theorem dX9_clear_61 : decode cX9_clear 61 = .ok (.aload_n 0, 1) := by decide +kernel
theorem dX9_clear_62 : decode cX9_clear 62 = .ok (.getfield 59, 3) := by decide +kernel
theorem dX9_clear_65 : decode cX9_clear 65 = .ok (.invokevirtual 291, 3) := by decide +kernel
theorem dX9_clear_68 : decode cX9_clear 68 = .ok (.aload_n 0, 1) := by decide +kernel
theorem dX9_clear_69 : decode cX9_clear 69 = .ok (.getfield 66, 3) := by decide +kernel
theorem dX9_clear_72 : decode cX9_clear 72 = .ok (.invokevirtual 292, 3) := by decide +kernel
theorem dX9_clear_75 : decode cX9_clear 75 = .ok (.aload_n 0, 1) := by decide +kernel
theorem dX9_clear_76 : decode cX9_clear 76 = .ok (.getfield 70, 3) := by decide +kernel
theorem dX9_clear_79 : decode cX9_clear 79 = .ok (.iconst 0, 1) := by decide +kernel
theorem dX9_clear_80 : decode cX9_clear 80 = .ok (.invokestatic 285, 3) := by decide +kernel
theorem dX9_clear_83 : decode cX9_clear 83 = .ok (.return_, 1) := by decide +kernel
theorem dX9_come_0 : decode cX9_come 0 = .ok (.iload_n 1, 1) := by decide +kernel
theorem dX9_come_1 : decode cX9_come 1 = .ok (.invokestatic 136, 3) := by decide +kernel
theorem dX9_come_4 : decode cX9_come 4 = .ok (.ifCond .ne 13, 3) := by decide +kernel
theorem dX9_come_7 : decode cX9_come 7 = .ok (.new 95, 3) := by decide +kernel
theorem dX9_come_10 : decode cX9_come 10 = .ok (.dup, 1) := by decide +kernel
theorem dX9_come_11 : decode cX9_come 11 = .ok (.ldc 212, 2) := by decide +kernel
theorem dX9_come_13 : decode cX9_come 13 = .ok (.invokespecial 99, 3) := by decide +kernel
theorem dX9_come_16 : decode cX9_come 16 = .ok (.athrow, 1) := by decide +kernel
theorem dX9_come_17 : decode cX9_come 17 = .ok (.aload_n 0, 1) := by decide +kernel
theorem dX9_come_18 : decode cX9_come 18 = .ok (.getfield 16, 3) := by decide +kernel
theorem dX9_come_21 : decode cX9_come 21 = .ok (.aload_n 0, 1) := by decide +kernel
theorem dX9_come_22 : decode cX9_come 22 = .ok (.getfield 10, 3) := by decide +kernel
theorem dX9_come_25 : decode cX9_come 25 = .ok (.invokevirtual 214, 3) := by decide +kernel
theorem dX9_come_28 : decode cX9_come 28 = .ok (.iload_n 1, 1) := by decide +kernel
theorem dX9_come_29 : decode cX9_come 29 = .ok (.ifCond .ne 10, 3) := by decide +kernel
theorem dX9_come_32 : decode cX9_come 32 = .ok (.aload_n 0, 1) := by decide +kernel
theorem dX9_come_33 : decode cX9_come 33 = .ok (.invokevirtual 218, 3) := by decide +kernel
theorem dX9_come_36 : decode cX9_come 36 = .ok (.goto 7, 3) := by decide +kernel
theorem dX9_come_39 : decode cX9_come 39 = .ok (.aload_n 0, 1) := by decide +kernel
theorem dX9_come_40 : decode cX9_come 40 = .ok (.invokevirtual 221, 3) := by decide +kernel
theorem dX9_come_43 : decode cX9_come 43 = .ok (.istore_n 2, 1) := by decide +kernel
theorem dX9_come_44 : decode cX9_come 44 = .ok (.iload_n 2, 1) := by decide +kernel
theorem dX9_come_45 : decode cX9_come 45 = .ok (.ifCond .lt 22, 3) := by decide +kernel
theorem dX9_come_48 : decode cX9_come 48 = .ok (.iload_n 2, 1) := by decide +kernel
theorem dX9_come_49 : decode cX9_come 49 = .ok (.aload_n 0, 1) := by decide +kernel
theorem dX9_come_50 : decode cX9_come 50 = .ok (.getfield 70, 3) := by decide +kernel
theorem dX9_come_53 : decode cX9_come 53 = .ok (.arraylength, 1) := by decide +kernel
theorem dX9_come_54 : decode cX9_come 54 = .ok (.if_icmp .ge 13, 3) := by decide +kernel
theorem dX9_come_57 : decode cX9_come 57 = .ok (.aload_n 0, 1) := by decide +kernel
theorem dX9_come_58 : decode cX9_come 58 = .ok (.getfield 70, 3) := by decide +kernel
theorem dX9_come_61 : decode cX9_come 61 = .ok (.iload_n 2, 1) := by decide +kernel
theorem dX9_come_62 : decode cX9_come 62 = .ok (.dup2, 1) := by decide +kernel
theorem dX9_come_63 : decode cX9_come 63 = .ok (.iaload, 1) := by decide +kernel
theorem dX9_come_64 : decode cX9_come 64 = .ok (.iconst 1, 1) := by decide +kernel
theorem dX9_come_65 : decode cX9_come 65 = .ok (.iadd, 1) := by decide +kernel
theorem dX9_come_66 : decode cX9_come 66 = .ok (.iastore, 1) := by decide +kernel
theorem dX9_come_67 : decode cX9_come 67 = .ok (.iload_n 2, 1) := by decide +kernel
theorem dX9_come_68 : decode cX9_come 68 = .ok (.ireturn, 1) := by decide +kernel
theorem dX9_count_0 : decode cX9_count 0 = .ok (.aload_n 0, 1) := by decide +kernel
theorem dX9_count_1 : decode cX9_count 1 = .ok (.iload_n 1, 1) := by decide +kernel
theorem dX9_count_2 : decode cX9_count 2 = .ok (.invokevirtual 190, 3) := by decide +kernel
theorem dX9_count_5 : decode cX9_count 5 = .ok (.astore 4, 2) := by decide +kernel
theorem dX9_count_7 : decode cX9_count 7 = .ok (.lload_n 2, 1) := by decide +kernel
theorem dX9_count_8 : decode cX9_count 8 = .ok (.lconst 0, 1) := by decide +kernel
theorem dX9_count_9 : decode cX9_count 9 = .ok (.lcmp, 1) := by decide +kernel
theorem dX9_count_10 : decode cX9_count 10 = .ok (.ifCond .lt 13, 3) := by decide +kernel
theorem dX9_count_13 : decode cX9_count 13 = .ok (.lload_n 2, 1) := by decide +kernel
theorem dX9_count_14 : decode cX9_count 14 = .ok (.aload 4, 2) := by decide +kernel
theorem dX9_count_16 : decode cX9_count 16 = .ok (.invokevirtual 199, 3) := by decide +kernel
theorem dX9_count_19 : decode cX9_count 19 = .ok (.lcmp, 1) := by decide +kernel
theorem dX9_count_20 : decode cX9_count 20 = .ok (.ifCond .le 13, 3) := by decide +kernel
theorem dX9_count_23 : decode cX9_count 23 = .ok (.new 95, 3) := by decide +kernel
theorem dX9_count_26 : decode cX9_count 26 = .ok (.dup, 1) := by decide +kernel
theorem dX9_count_27 : decode cX9_count 27 = .ok (.ldc 203, 2) := by decide +kernel
theorem dX9_count_29 : decode cX9_count 29 = .ok (.invokespecial 99, 3) := by decide +kernel
theorem dX9_count_32 : decode cX9_count 32 = .ok (.athrow, 1) := by decide +kernel
theorem dX9_count_33 : decode cX9_count 33 = .ok (.aload 4, 2) := by decide +kernel
theorem dX9_count_35 : decode cX9_count 35 = .ok (.invokevirtual 205, 3) := by decide +kernel
theorem dX9_count_38 : decode cX9_count 38 = .ok (.lstore 5, 2) := by decide +kernel
theorem dX9_count_40 : decode cX9_count 40 = .ok (.aload 4, 2) := by decide +kernel
theorem dX9_count_42 : decode cX9_count 42 = .ok (.lload_n 2, 1) := by decide +kernel
theorem dX9_count_43 : decode cX9_count 43 = .ok (.invokevirtual 208, 3) := by decide +kernel
theorem dX9_count_46 : decode cX9_count 46 = .ok (.lload 5, 2) := by decide +kernel
theorem dX9_count_48 : decode cX9_count 48 = .ok (.lreturn, 1) := by decide +kernel
theorem dX9_ended_0 : decode cX9_ended 0 = .ok (.iload_n 1, 1) := by decide +kernel
theorem dX9_ended_1 : decode cX9_ended 1 = .ok (.ifCond .lt 19, 3) := by decide +kernel
theorem dX9_ended_4 : decode cX9_ended 4 = .ok (.iload_n 1, 1) := by decide +kernel
theorem dX9_ended_5 : decode cX9_ended 5 = .ok (.aload_n 0, 1) := by decide +kernel
theorem dX9_ended_6 : decode cX9_ended 6 = .ok (.getfield 70, 3) := by decide +kernel
theorem dX9_ended_9 : decode cX9_ended 9 = .ok (.arraylength, 1) := by decide +kernel
theorem dX9_ended_10 : decode cX9_ended 10 = .ok (.if_icmp .ge 10, 3) := by decide +kernel
theorem dX9_ended_13 : decode cX9_ended 13 = .ok (.aload_n 0, 1) := by decide +kernel
theorem dX9_ended_14 : decode cX9_ended 14 = .ok (.getfield 70, 3) := by decide +kernel
theorem dX9_ended_17 : decode cX9_ended 17 = .ok (.iload_n 1, 1) := by decide +kernel
theorem dX9_ended_18 : decode cX9_ended 18 = .ok (.iaload, 1) := by decide +kernel
theorem dX9_ended_19 : decode cX9_ended 19 = .ok (.ireturn, 1) := by decide +kernel
theorem dX9_ended_20 : decode cX9_ended 20 = .ok (.iload_n 1, 1) := by decide +kernel
theorem dX9_ended_21 : decode cX9_ended 21 = .ok (.tableswitch 45 18 20 #[27, 32, 37], 27) := by decide +kernel
theorem dX9_ended_48 : decode cX9_ended 48 = .ok (.aload_n 0, 1) := by decide +kernel
theorem dX9_ended_49 : decode cX9_ended 49 = .ok (.getfield 178, 3) := by decide +kernel
theorem dX9_ended_52 : decode cX9_ended 52 = .ok (.ireturn, 1) := by decide +kernel
theorem dX9_ended_53 : decode cX9_ended 53 = .ok (.aload_n 0, 1) := by decide +kernel
theorem dX9_ended_54 : decode cX9_ended 54 = .ok (.getfield 275, 3) := by decide +kernel
theorem dX9_ended_57 : decode cX9_ended 57 = .ok (.ireturn, 1) := by decide +kernel
theorem dX9_ended_58 : decode cX9_ended 58 = .ok (.aload_n 0, 1) := by decide +kernel
theorem dX9_ended_59 : decode cX9_ended 59 = .ok (.getfield 59, 3) := by decide +kernel
theorem dX9_ended_62 : decode cX9_ended 62 = .ok (.invokevirtual 278, 3) := by decide +kernel
theorem dX9_ended_65 : decode cX9_ended 65 = .ok (.ireturn, 1) := by decide +kernel
theorem dX9_ended_66 : decode cX9_ended 66 = .ok (.new 114, 3) := by decide +kernel
theorem dX9_ended_69 : decode cX9_ended 69 = .ok (.dup, 1) := by decide +kernel
theorem dX9_ended_70 : decode cX9_ended 70 = .ok (.ldc_w 279, 3) := by decide +kernel
theorem dX9_ended_73 : decode cX9_ended 73 = .ok (.invokespecial 118, 3) := by decide +kernel
theorem dX9_ended_76 : decode cX9_ended 76 = .ok (.athrow, 1) := by decide +kernel
theorem dX9_isByte_0 : decode cX9_isByte 0 = .ok (.iload_n 0, 1) := by decide +kernel
theorem dX9_isByte_1 : decode cX9_isByte 1 = .ok (.ifCond .lt 14, 3) := by decide +kernel
theorem dX9_isByte_4 : decode cX9_isByte 4 = .ok (.iload_n 0, 1) := by decide +kernel
theorem dX9_isByte_5 : decode cX9_isByte 5 = .ok (.sipush 255, 3) := by decide +kernel
theorem dX9_isByte_8 : decode cX9_isByte 8 = .ok (.if_icmp .gt 7, 3) := by decide +kernel
theorem dX9_isByte_11 : decode cX9_isByte 11 = .ok (.iconst 1, 1) := by decide +kernel
theorem dX9_isByte_12 : decode cX9_isByte 12 = .ok (.goto 4, 3) := by decide +kernel
theorem dX9_isByte_15 : decode cX9_isByte 15 = .ok (.iconst 0, 1) := by decide +kernel
theorem dX9_isByte_16 : decode cX9_isByte 16 = .ok (.ireturn, 1) := by decide +kernel
theorem dX9_isPortOrWay_0 : decode cX9_isPortOrWay 0 = .ok (.iload_n 0, 1) := by decide +kernel
theorem dX9_isPortOrWay_1 : decode cX9_isPortOrWay 1 = .ok (.ifCond .eq 8, 3) := by decide +kernel
theorem dX9_isPortOrWay_4 : decode cX9_isPortOrWay 4 = .ok (.iload_n 0, 1) := by decide +kernel
theorem dX9_isPortOrWay_5 : decode cX9_isPortOrWay 5 = .ok (.iconst 1, 1) := by decide +kernel
theorem dX9_isPortOrWay_6 : decode cX9_isPortOrWay 6 = .ok (.if_icmp .ne 7, 3) := by decide +kernel
theorem dX9_isPortOrWay_9 : decode cX9_isPortOrWay 9 = .ok (.iconst 1, 1) := by decide +kernel
theorem dX9_isPortOrWay_10 : decode cX9_isPortOrWay 10 = .ok (.goto 4, 3) := by decide +kernel
theorem dX9_isPortOrWay_13 : decode cX9_isPortOrWay 13 = .ok (.iconst 0, 1) := by decide +kernel
theorem dX9_isPortOrWay_14 : decode cX9_isPortOrWay 14 = .ok (.ireturn, 1) := by decide +kernel
theorem dX9_isTunnel_0 : decode cX9_isTunnel 0 = .ok (.iload_n 0, 1) := by decide +kernel
theorem dX9_isTunnel_1 : decode cX9_isTunnel 1 = .ok (.ifCond .lt 12, 3) := by decide +kernel
theorem dX9_isTunnel_4 : decode cX9_isTunnel 4 = .ok (.iload_n 0, 1) := by decide +kernel
theorem dX9_isTunnel_5 : decode cX9_isTunnel 5 = .ok (.iconst 4, 1) := by decide +kernel
theorem dX9_isTunnel_6 : decode cX9_isTunnel 6 = .ok (.if_icmp .ge 7, 3) := by decide +kernel
theorem dX9_isTunnel_9 : decode cX9_isTunnel 9 = .ok (.iconst 1, 1) := by decide +kernel
theorem dX9_isTunnel_10 : decode cX9_isTunnel 10 = .ok (.goto 4, 3) := by decide +kernel
theorem dX9_isTunnel_13 : decode cX9_isTunnel 13 = .ok (.iconst 0, 1) := by decide +kernel
theorem dX9_isTunnel_14 : decode cX9_isTunnel 14 = .ok (.ireturn, 1) := by decide +kernel
theorem dX9_isWidth_0 : decode cX9_isWidth 0 = .ok (.iload_n 0, 1) := by decide +kernel
theorem dX9_isWidth_1 : decode cX9_isWidth 1 = .ok (.ifCond .lt 13, 3) := by decide +kernel
theorem dX9_isWidth_4 : decode cX9_isWidth 4 = .ok (.iload_n 0, 1) := by decide +kernel
theorem dX9_isWidth_5 : decode cX9_isWidth 5 = .ok (.bipush 32, 2) := by decide +kernel
theorem dX9_isWidth_7 : decode cX9_isWidth 7 = .ok (.if_icmp .gt 7, 3) := by decide +kernel
theorem dX9_isWidth_10 : decode cX9_isWidth 10 = .ok (.iconst 1, 1) := by decide +kernel
theorem dX9_isWidth_11 : decode cX9_isWidth 11 = .ok (.goto 4, 3) := by decide +kernel
theorem dX9_isWidth_14 : decode cX9_isWidth 14 = .ok (.iconst 0, 1) := by decide +kernel
theorem dX9_isWidth_15 : decode cX9_isWidth 15 = .ok (.ireturn, 1) := by decide +kernel
theorem dX9_keep_0 : decode cX9_keep 0 = .ok (.iload_n 1, 1) := by decide +kernel
theorem dX9_keep_1 : decode cX9_keep 1 = .ok (.ifCond .lt 14, 3) := by decide +kernel
theorem dX9_keep_4 : decode cX9_keep 4 = .ok (.iload_n 1, 1) := by decide +kernel
theorem dX9_keep_5 : decode cX9_keep 5 = .ok (.aload_n 0, 1) := by decide +kernel
theorem dX9_keep_6 : decode cX9_keep 6 = .ok (.getfield 10, 3) := by decide +kernel
theorem dX9_keep_9 : decode cX9_keep 9 = .ok (.invokevirtual 76, 3) := by decide +kernel
theorem dX9_keep_12 : decode cX9_keep 12 = .ok (.if_icmp .le 13, 3) := by decide +kernel
theorem dX9_keep_15 : decode cX9_keep 15 = .ok (.new 95, 3) := by decide +kernel
theorem dX9_keep_18 : decode cX9_keep 18 = .ok (.dup, 1) := by decide +kernel
theorem dX9_keep_19 : decode cX9_keep 19 = .ok (.ldc 97, 2) := by decide +kernel
theorem dX9_keep_21 : decode cX9_keep 21 = .ok (.invokespecial 99, 3) := by decide +kernel
theorem dX9_keep_24 : decode cX9_keep 24 = .ok (.athrow, 1) := by decide +kernel
theorem dX9_keep_25 : decode cX9_keep 25 = .ok (.aload_n 0, 1) := by decide +kernel
theorem dX9_keep_26 : decode cX9_keep 26 = .ok (.getfield 10, 3) := by decide +kernel
theorem dX9_keep_29 : decode cX9_keep 29 = .ok (.iload_n 1, 1) := by decide +kernel
theorem dX9_keep_30 : decode cX9_keep 30 = .ok (.invokevirtual 87, 3) := by decide +kernel
theorem dX9_keep_33 : decode cX9_keep 33 = .ok (.return_, 1) := by decide +kernel
theorem dX9_latestUsable_0 : decode cX9_latestUsable 0 = .ok (.aload_n 0, 1) := by decide +kernel
theorem dX9_latestUsable_1 : decode cX9_latestUsable 1 = .ok (.getfield 178, 3) := by decide +kernel
theorem dX9_latestUsable_4 : decode cX9_latestUsable 4 = .ok (.bipush 16, 2) := by decide +kernel
theorem dX9_latestUsable_6 : decode cX9_latestUsable 6 = .ok (.invokestatic 336, 3) := by decide +kernel
theorem dX9_latestUsable_9 : decode cX9_latestUsable 9 = .ok (.iconst 1, 1) := by decide +kernel
theorem dX9_latestUsable_10 : decode cX9_latestUsable 10 = .ok (.isub, 1) := by decide +kernel
theorem dX9_latestUsable_11 : decode cX9_latestUsable 11 = .ok (.istore_n 2, 1) := by decide +kernel
theorem dX9_latestUsable_12 : decode cX9_latestUsable 12 = .ok (.iload_n 2, 1) := by decide +kernel
theorem dX9_latestUsable_13 : decode cX9_latestUsable 13 = .ok (.ifCond .lt 30, 3) := by decide +kernel
theorem dX9_latestUsable_16 : decode cX9_latestUsable 16 = .ok (.aload_n 0, 1) := by decide +kernel
theorem dX9_latestUsable_17 : decode cX9_latestUsable 17 = .ok (.getfield 52, 3) := by decide +kernel
theorem dX9_latestUsable_20 : decode cX9_latestUsable 20 = .ok (.iload_n 2, 1) := by decide +kernel
theorem dX9_latestUsable_21 : decode cX9_latestUsable 21 = .ok (.aaload, 1) := by decide +kernel
theorem dX9_latestUsable_22 : decode cX9_latestUsable 22 = .ok (.astore_n 3, 1) := by decide +kernel
theorem dX9_latestUsable_23 : decode cX9_latestUsable 23 = .ok (.aload_n 3, 1) := by decide +kernel
theorem dX9_latestUsable_24 : decode cX9_latestUsable 24 = .ok (.ifnull 13, 3) := by decide +kernel
theorem dX9_latestUsable_27 : decode cX9_latestUsable 27 = .ok (.aload_n 3, 1) := by decide +kernel
theorem dX9_latestUsable_28 : decode cX9_latestUsable 28 = .ok (.iload_n 1, 1) := by decide +kernel
theorem dX9_latestUsable_29 : decode cX9_latestUsable 29 = .ok (.invokevirtual 341, 3) := by decide +kernel
theorem dX9_latestUsable_32 : decode cX9_latestUsable 32 = .ok (.ifCond .eq 5, 3) := by decide +kernel
theorem dX9_latestUsable_35 : decode cX9_latestUsable 35 = .ok (.aload_n 3, 1) := by decide +kernel
theorem dX9_latestUsable_36 : decode cX9_latestUsable 36 = .ok (.areturn, 1) := by decide +kernel
theorem dX9_latestUsable_37 : decode cX9_latestUsable 37 = .ok (.iinc 2 (-1), 3) := by decide +kernel
theorem dX9_latestUsable_40 : decode cX9_latestUsable 40 = .ok (.goto (-28), 3) := by decide +kernel
theorem dX9_latestUsable_43 : decode cX9_latestUsable 43 = .ok (.aconst_null, 1) := by decide +kernel
theorem dX9_latestUsable_44 : decode cX9_latestUsable 44 = .ok (.areturn, 1) := by decide +kernel
theorem dX9_letIn_0 : decode cX9_letIn 0 = .ok (.aload_n 0, 1) := by decide +kernel
theorem dX9_letIn_1 : decode cX9_letIn 1 = .ok (.getfield 42, 3) := by decide +kernel
theorem dX9_letIn_4 : decode cX9_letIn 4 = .ok (.iconst 1, 1) := by decide +kernel
theorem dX9_letIn_5 : decode cX9_letIn 5 = .ok (.aload_n 1, 1) := by decide +kernel
theorem dX9_letIn_6 : decode cX9_letIn 6 = .ok (.invokevirtual 299, 3) := by decide +kernel
theorem dX9_letIn_9 : decode cX9_letIn 9 = .ok (.iload_n 2, 1) := by decide +kernel
theorem dX9_letIn_10 : decode cX9_letIn 10 = .ok (.if_icmp .eq 19, 3) := by decide +kernel
theorem dX9_letIn_13 : decode cX9_letIn 13 = .ok (.aload_n 0, 1) := by decide +kernel
theorem dX9_letIn_14 : decode cX9_letIn 14 = .ok (.getfield 66, 3) := by decide +kernel
theorem dX9_letIn_17 : decode cX9_letIn 17 = .ok (.bipush 16, 2) := by decide +kernel
theorem dX9_letIn_19 : decode cX9_letIn 19 = .ok (.aload_n 1, 1) := by decide +kernel
theorem dX9_letIn_20 : decode cX9_letIn 20 = .ok (.iload_n 3, 1) := by decide +kernel
theorem dX9_letIn_21 : decode cX9_letIn 21 = .ok (.iload 4, 2) := by decide +kernel
theorem dX9_letIn_23 : decode cX9_letIn 23 = .ok (.invokevirtual 374, 3) := by decide +kernel
theorem dX9_letIn_26 : decode cX9_letIn 26 = .ok (.bipush 16, 2) := by decide +kernel
theorem dX9_letIn_28 : decode cX9_letIn 28 = .ok (.ireturn, 1) := by decide +kernel
theorem dX9_letIn_29 : decode cX9_letIn 29 = .ok (.aload_n 1, 1) := by decide +kernel
theorem dX9_letIn_30 : decode cX9_letIn 30 = .ok (.invokevirtual 293, 3) := by decide +kernel
theorem dX9_letIn_33 : decode cX9_letIn 33 = .ok (.iconst 1, 1) := by decide +kernel
theorem dX9_letIn_34 : decode cX9_letIn 34 = .ok (.if_icmp .gt 5, 3) := by decide +kernel
theorem dX9_letIn_37 : decode cX9_letIn 37 = .ok (.iconst 2, 1) := by decide +kernel
theorem dX9_letIn_38 : decode cX9_letIn 38 = .ok (.ireturn, 1) := by decide +kernel
theorem dX9_letIn_39 : decode cX9_letIn 39 = .ok (.aload_n 0, 1) := by decide +kernel
theorem dX9_letIn_40 : decode cX9_letIn 40 = .ok (.getfield 35, 3) := by decide +kernel
theorem dX9_letIn_43 : decode cX9_letIn 43 = .ok (.aload_n 1, 1) := by decide +kernel
theorem dX9_letIn_44 : decode cX9_letIn 44 = .ok (.invokevirtual 296, 3) := by decide +kernel
theorem dX9_letIn_47 : decode cX9_letIn 47 = .ok (.invokevirtual 236, 3) := by decide +kernel
theorem dX9_letIn_50 : decode cX9_letIn 50 = .ok (.ifCond .eq 5, 3) := by decide +kernel
theorem dX9_letIn_53 : decode cX9_letIn 53 = .ok (.iconst 3, 1) := by decide +kernel
theorem dX9_letIn_54 : decode cX9_letIn 54 = .ok (.ireturn, 1) := by decide +kernel
theorem dX9_letIn_55 : decode cX9_letIn 55 = .ok (.aload_n 0, 1) := by decide +kernel
theorem dX9_letIn_56 : decode cX9_letIn 56 = .ok (.aload_n 1, 1) := by decide +kernel
theorem dX9_letIn_57 : decode cX9_letIn 57 = .ok (.iconst 0, 1) := by decide +kernel
theorem dX9_letIn_58 : decode cX9_letIn 58 = .ok (.invokevirtual 302, 3) := by decide +kernel
theorem dX9_letIn_61 : decode cX9_letIn 61 = .ok (.ireturn, 1) := by decide +kernel
theorem dX9_log_0 : decode cX9_log 0 = .ok (.iload_n 1, 1) := by decide +kernel
theorem dX9_log_1 : decode cX9_log 1 = .ok (.ifCond .lt 23, 3) := by decide +kernel
theorem dX9_log_4 : decode cX9_log 4 = .ok (.iload_n 1, 1) := by decide +kernel
theorem dX9_log_5 : decode cX9_log 5 = .ok (.aload_n 0, 1) := by decide +kernel
theorem dX9_log_6 : decode cX9_log 6 = .ok (.getfield 66, 3) := by decide +kernel
theorem dX9_log_9 : decode cX9_log 9 = .ok (.invokevirtual 268, 3) := by decide +kernel
theorem dX9_log_12 : decode cX9_log 12 = .ok (.if_icmp .ge 12, 3) := by decide +kernel
theorem dX9_log_15 : decode cX9_log 15 = .ok (.iload_n 2, 1) := by decide +kernel
theorem dX9_log_16 : decode cX9_log 16 = .ok (.ifCond .lt 8, 3) := by decide +kernel
theorem dX9_log_19 : decode cX9_log 19 = .ok (.iload_n 2, 1) := by decide +kernel
theorem dX9_log_20 : decode cX9_log 20 = .ok (.iconst 5, 1) := by decide +kernel
theorem dX9_log_21 : decode cX9_log 21 = .ok (.if_icmp .lt 14, 3) := by decide +kernel
theorem dX9_log_24 : decode cX9_log 24 = .ok (.new 114, 3) := by decide +kernel
theorem dX9_log_27 : decode cX9_log 27 = .ok (.dup, 1) := by decide +kernel
theorem dX9_log_28 : decode cX9_log 28 = .ok (.ldc_w 269, 3) := by decide +kernel
theorem dX9_log_31 : decode cX9_log 31 = .ok (.invokespecial 118, 3) := by decide +kernel
theorem dX9_log_34 : decode cX9_log 34 = .ok (.athrow, 1) := by decide +kernel
theorem dX9_log_35 : decode cX9_log 35 = .ok (.aload_n 0, 1) := by decide +kernel
theorem dX9_log_36 : decode cX9_log 36 = .ok (.getfield 66, 3) := by decide +kernel
theorem dX9_log_39 : decode cX9_log 39 = .ok (.iload_n 1, 1) := by decide +kernel
theorem dX9_log_40 : decode cX9_log 40 = .ok (.iload_n 2, 1) := by decide +kernel
theorem dX9_log_41 : decode cX9_log 41 = .ok (.invokevirtual 271, 3) := by decide +kernel
theorem dX9_log_44 : decode cX9_log 44 = .ok (.ireturn, 1) := by decide +kernel
theorem dX9_make_0 : decode cX9_make 0 = .ok (.iload_n 3, 1) := by decide +kernel
theorem dX9_make_1 : decode cX9_make 1 = .ok (.invokestatic 104, 3) := by decide +kernel
theorem dX9_make_4 : decode cX9_make 4 = .ok (.ifCond .eq 24, 3) := by decide +kernel
theorem dX9_make_7 : decode cX9_make 7 = .ok (.iload 4, 2) := by decide +kernel
theorem dX9_make_9 : decode cX9_make 9 = .ok (.invokestatic 104, 3) := by decide +kernel
theorem dX9_make_12 : decode cX9_make 12 = .ok (.ifCond .eq 16, 3) := by decide +kernel
theorem dX9_make_15 : decode cX9_make 15 = .ok (.iload 5, 2) := by decide +kernel
theorem dX9_make_17 : decode cX9_make 17 = .ok (.ifCond .lt 11, 3) := by decide +kernel
theorem dX9_make_20 : decode cX9_make 20 = .ok (.iload 5, 2) := by decide +kernel
theorem dX9_make_22 : decode cX9_make 22 = .ok (.sipush 1480, 3) := by decide +kernel
theorem dX9_make_25 : decode cX9_make 25 = .ok (.if_icmp .le 13, 3) := by decide +kernel
theorem dX9_make_28 : decode cX9_make 28 = .ok (.new 95, 3) := by decide +kernel
theorem dX9_make_31 : decode cX9_make 31 = .ok (.dup, 1) := by decide +kernel
theorem dX9_make_32 : decode cX9_make 32 = .ok (.ldc 122, 2) := by decide +kernel
theorem dX9_make_34 : decode cX9_make 34 = .ok (.invokespecial 99, 3) := by decide +kernel
theorem dX9_make_37 : decode cX9_make 37 = .ok (.athrow, 1) := by decide +kernel
theorem dX9_make_38 : decode cX9_make 38 = .ok (.aload_n 0, 1) := by decide +kernel
theorem dX9_make_39 : decode cX9_make 39 = .ok (.getfield 10, 3) := by decide +kernel
theorem dX9_make_42 : decode cX9_make 42 = .ok (.bipush 20, 2) := by decide +kernel
theorem dX9_make_44 : decode cX9_make 44 = .ok (.iload 5, 2) := by decide +kernel
theorem dX9_make_46 : decode cX9_make 46 = .ok (.iadd, 1) := by decide +kernel
theorem dX9_make_47 : decode cX9_make 47 = .ok (.invokevirtual 87, 3) := by decide +kernel
theorem dX9_make_50 : decode cX9_make 50 = .ok (.aload_n 0, 1) := by decide +kernel
theorem dX9_make_51 : decode cX9_make 51 = .ok (.getfield 10, 3) := by decide +kernel
theorem dX9_make_54 : decode cX9_make 54 = .ok (.iload_n 1, 1) := by decide +kernel
theorem dX9_make_55 : decode cX9_make 55 = .ok (.iload_n 2, 1) := by decide +kernel
theorem dX9_make_56 : decode cX9_make 56 = .ok (.iload_n 3, 1) := by decide +kernel
theorem dX9_make_57 : decode cX9_make 57 = .ok (.iload 4, 2) := by decide +kernel
theorem dX9_make_59 : decode cX9_make 59 = .ok (.invokevirtual 124, 3) := by decide +kernel
theorem dX9_make_62 : decode cX9_make 62 = .ok (.iconst 0, 1) := by decide +kernel
theorem dX9_make_63 : decode cX9_make 63 = .ok (.istore 7, 2) := by decide +kernel
theorem dX9_make_65 : decode cX9_make 65 = .ok (.iload 7, 2) := by decide +kernel
theorem dX9_make_67 : decode cX9_make 67 = .ok (.iload 5, 2) := by decide +kernel
theorem dX9_make_69 : decode cX9_make 69 = .ok (.if_icmp .ge 26, 3) := by decide +kernel
theorem dX9_make_72 : decode cX9_make 72 = .ok (.aload_n 0, 1) := by decide +kernel
theorem dX9_make_73 : decode cX9_make 73 = .ok (.getfield 10, 3) := by decide +kernel
theorem dX9_make_76 : decode cX9_make 76 = .ok (.bipush 20, 2) := by decide +kernel
theorem dX9_make_78 : decode cX9_make 78 = .ok (.iload 7, 2) := by decide +kernel
theorem dX9_make_80 : decode cX9_make 80 = .ok (.iadd, 1) := by decide +kernel
theorem dX9_make_81 : decode cX9_make 81 = .ok (.iload 7, 2) := by decide +kernel
theorem dX9_make_83 : decode cX9_make 83 = .ok (.iload 6, 2) := by decide +kernel
theorem dX9_make_85 : decode cX9_make 85 = .ok (.iadd, 1) := by decide +kernel
theorem dX9_make_86 : decode cX9_make 86 = .ok (.invokevirtual 110, 3) := by decide +kernel
theorem dX9_make_89 : decode cX9_make 89 = .ok (.iinc 7 1, 3) := by decide +kernel
theorem dX9_make_92 : decode cX9_make 92 = .ok (.goto (-27), 3) := by decide +kernel
theorem dX9_make_95 : decode cX9_make 95 = .ok (.aload_n 0, 1) := by decide +kernel
theorem dX9_make_96 : decode cX9_make 96 = .ok (.getfield 10, 3) := by decide +kernel
theorem dX9_make_99 : decode cX9_make 99 = .ok (.invokevirtual 128, 3) := by decide +kernel
theorem dX9_make_102 : decode cX9_make 102 = .ok (.pop, 1) := by decide +kernel
theorem dX9_make_103 : decode cX9_make 103 = .ok (.aload_n 0, 1) := by decide +kernel
theorem dX9_make_104 : decode cX9_make 104 = .ok (.getfield 10, 3) := by decide +kernel
theorem dX9_make_107 : decode cX9_make 107 = .ok (.invokevirtual 76, 3) := by decide +kernel
theorem dX9_make_110 : decode cX9_make 110 = .ok (.ireturn, 1) := by decide +kernel
theorem dX9_meaning_0 : decode cX9_meaning 0 = .ok (.iload_n 1, 1) := by decide +kernel
theorem dX9_meaning_1 : decode cX9_meaning 1 = .ok (.invokestatic 136, 3) := by decide +kernel
theorem dX9_meaning_4 : decode cX9_meaning 4 = .ok (.ifCond .ne 13, 3) := by decide +kernel
theorem dX9_meaning_7 : decode cX9_meaning 7 = .ok (.new 95, 3) := by decide +kernel
theorem dX9_meaning_10 : decode cX9_meaning 10 = .ok (.dup, 1) := by decide +kernel
theorem dX9_meaning_11 : decode cX9_meaning 11 = .ok (.ldc 224, 2) := by decide +kernel
theorem dX9_meaning_13 : decode cX9_meaning 13 = .ok (.invokespecial 99, 3) := by decide +kernel
theorem dX9_meaning_16 : decode cX9_meaning 16 = .ok (.athrow, 1) := by decide +kernel
theorem dX9_meaning_17 : decode cX9_meaning 17 = .ok (.aload_n 0, 1) := by decide +kernel
theorem dX9_meaning_18 : decode cX9_meaning 18 = .ok (.getfield 16, 3) := by decide +kernel
theorem dX9_meaning_21 : decode cX9_meaning 21 = .ok (.aload_n 0, 1) := by decide +kernel
theorem dX9_meaning_22 : decode cX9_meaning 22 = .ok (.getfield 10, 3) := by decide +kernel
theorem dX9_meaning_25 : decode cX9_meaning 25 = .ok (.invokevirtual 214, 3) := by decide +kernel
theorem dX9_meaning_28 : decode cX9_meaning 28 = .ok (.aload_n 0, 1) := by decide +kernel
theorem dX9_meaning_29 : decode cX9_meaning 29 = .ok (.getfield 16, 3) := by decide +kernel
theorem dX9_meaning_32 : decode cX9_meaning 32 = .ok (.invokevirtual 226, 3) := by decide +kernel
theorem dX9_meaning_35 : decode cX9_meaning 35 = .ok (.ifCond .eq 5, 3) := by decide +kernel
theorem dX9_meaning_38 : decode cX9_meaning 38 = .ok (.iconst (-1), 1) := by decide +kernel
theorem dX9_meaning_39 : decode cX9_meaning 39 = .ok (.ireturn, 1) := by decide +kernel
theorem dX9_meaning_40 : decode cX9_meaning 40 = .ok (.aload_n 0, 1) := by decide +kernel
theorem dX9_meaning_41 : decode cX9_meaning 41 = .ok (.getfield 16, 3) := by decide +kernel
theorem dX9_meaning_44 : decode cX9_meaning 44 = .ok (.invokevirtual 229, 3) := by decide +kernel
theorem dX9_meaning_47 : decode cX9_meaning 47 = .ok (.aload_n 0, 1) := by decide +kernel
theorem dX9_meaning_48 : decode cX9_meaning 48 = .ok (.getfield 42, 3) := by decide +kernel
theorem dX9_meaning_51 : decode cX9_meaning 51 = .ok (.iload_n 1, 1) := by decide +kernel
theorem dX9_meaning_52 : decode cX9_meaning 52 = .ok (.aload_n 0, 1) := by decide +kernel
theorem dX9_meaning_53 : decode cX9_meaning 53 = .ok (.getfield 16, 3) := by decide +kernel
theorem dX9_meaning_56 : decode cX9_meaning 56 = .ok (.invokevirtual 232, 3) := by decide +kernel
theorem dX9_meaning_59 : decode cX9_meaning 59 = .ok (.ireturn, 1) := by decide +kernel
theorem dX9_meant_0 : decode cX9_meant 0 = .ok (.iload_n 1, 1) := by decide +kernel
theorem dX9_meant_1 : decode cX9_meant 1 = .ok (.invokestatic 104, 3) := by decide +kernel
theorem dX9_meant_4 : decode cX9_meant 4 = .ok (.ifCond .eq 18, 3) := by decide +kernel
theorem dX9_meant_7 : decode cX9_meant 7 = .ok (.iload_n 2, 1) := by decide +kernel
theorem dX9_meant_8 : decode cX9_meant 8 = .ok (.ifCond .lt 14, 3) := by decide +kernel
theorem dX9_meant_11 : decode cX9_meant 11 = .ok (.iload_n 2, 1) := by decide +kernel
theorem dX9_meant_12 : decode cX9_meant 12 = .ok (.iload_n 3, 1) := by decide +kernel
theorem dX9_meant_13 : decode cX9_meant 13 = .ok (.if_icmp .gt 9, 3) := by decide +kernel
theorem dX9_meant_16 : decode cX9_meant 16 = .ok (.iload_n 3, 1) := by decide +kernel
theorem dX9_meant_17 : decode cX9_meant 17 = .ok (.ldc 160, 2) := by decide +kernel
theorem dX9_meant_19 : decode cX9_meant 19 = .ok (.if_icmp .le 13, 3) := by decide +kernel
theorem dX9_meant_22 : decode cX9_meant 22 = .ok (.new 95, 3) := by decide +kernel
theorem dX9_meant_25 : decode cX9_meant 25 = .ok (.dup, 1) := by decide +kernel
theorem dX9_meant_26 : decode cX9_meant 26 = .ok (.ldc 161, 2) := by decide +kernel
theorem dX9_meant_28 : decode cX9_meant 28 = .ok (.invokespecial 99, 3) := by decide +kernel
theorem dX9_meant_31 : decode cX9_meant 31 = .ok (.athrow, 1) := by decide +kernel
theorem dX9_meant_32 : decode cX9_meant 32 = .ok (.aload_n 0, 1) := by decide +kernel
theorem dX9_meant_33 : decode cX9_meant 33 = .ok (.getfield 42, 3) := by decide +kernel
theorem dX9_meant_36 : decode cX9_meant 36 = .ok (.iload_n 1, 1) := by decide +kernel
theorem dX9_meant_37 : decode cX9_meant 37 = .ok (.iload_n 2, 1) := by decide +kernel
theorem dX9_meant_38 : decode cX9_meant 38 = .ok (.iload_n 3, 1) := by decide +kernel
theorem dX9_meant_39 : decode cX9_meant 39 = .ok (.invokevirtual 163, 3) := by decide +kernel
theorem dX9_meant_42 : decode cX9_meant 42 = .ok (.return_, 1) := by decide +kernel
theorem dX9_passOn_0 : decode cX9_passOn 0 = .ok (.aload_n 1, 1) := by decide +kernel
theorem dX9_passOn_1 : decode cX9_passOn 1 = .ok (.invokevirtual 323, 3) := by decide +kernel
theorem dX9_passOn_4 : decode cX9_passOn 4 = .ok (.ifCond .eq 6, 3) := by decide +kernel
theorem dX9_passOn_7 : decode cX9_passOn 7 = .ok (.bipush 6, 2) := by decide +kernel
theorem dX9_passOn_9 : decode cX9_passOn 9 = .ok (.ireturn, 1) := by decide +kernel
theorem dX9_passOn_10 : decode cX9_passOn 10 = .ok (.aload_n 1, 1) := by decide +kernel
theorem dX9_passOn_11 : decode cX9_passOn 11 = .ok (.invokevirtual 326, 3) := by decide +kernel
theorem dX9_passOn_14 : decode cX9_passOn 14 = .ok (.aload_n 0, 1) := by decide +kernel
theorem dX9_passOn_15 : decode cX9_passOn 15 = .ok (.aload_n 1, 1) := by decide +kernel
theorem dX9_passOn_16 : decode cX9_passOn 16 = .ok (.iload_n 2, 1) := by decide +kernel
theorem dX9_passOn_17 : decode cX9_passOn 17 = .ok (.invokevirtual 333, 3) := by decide +kernel
theorem dX9_passOn_20 : decode cX9_passOn 20 = .ok (.iconst 0, 1) := by decide +kernel
theorem dX9_passOn_21 : decode cX9_passOn 21 = .ok (.ireturn, 1) := by decide +kernel
theorem dX9_peer_0 : decode cX9_peer 0 = .ok (.iload_n 1, 1) := by decide +kernel
theorem dX9_peer_1 : decode cX9_peer 1 = .ok (.invokestatic 155, 3) := by decide +kernel
theorem dX9_peer_4 : decode cX9_peer 4 = .ok (.ifCond .ne 13, 3) := by decide +kernel
theorem dX9_peer_7 : decode cX9_peer 7 = .ok (.new 114, 3) := by decide +kernel
theorem dX9_peer_10 : decode cX9_peer 10 = .ok (.dup, 1) := by decide +kernel
theorem dX9_peer_11 : decode cX9_peer 11 = .ok (.ldc 158, 2) := by decide +kernel
theorem dX9_peer_13 : decode cX9_peer 13 = .ok (.invokespecial 118, 3) := by decide +kernel
theorem dX9_peer_16 : decode cX9_peer 16 = .ok (.athrow, 1) := by decide +kernel
theorem dX9_peer_17 : decode cX9_peer 17 = .ok (.aload_n 0, 1) := by decide +kernel
theorem dX9_peer_18 : decode cX9_peer 18 = .ok (.getfield 46, 3) := by decide +kernel
theorem dX9_peer_21 : decode cX9_peer 21 = .ok (.iload_n 1, 1) := by decide +kernel
theorem dX9_peer_22 : decode cX9_peer 22 = .ok (.iaload, 1) := by decide +kernel
theorem dX9_peer_23 : decode cX9_peer 23 = .ok (.istore_n 3, 1) := by decide +kernel
theorem dX9_peer_24 : decode cX9_peer 24 = .ok (.aload_n 0, 1) := by decide +kernel
theorem dX9_peer_25 : decode cX9_peer 25 = .ok (.getfield 46, 3) := by decide +kernel
theorem dX9_peer_28 : decode cX9_peer 28 = .ok (.iload_n 1, 1) := by decide +kernel
theorem dX9_peer_29 : decode cX9_peer 29 = .ok (.iload_n 2, 1) := by decide +kernel
theorem dX9_peer_30 : decode cX9_peer 30 = .ok (.iastore, 1) := by decide +kernel
theorem dX9_peer_31 : decode cX9_peer 31 = .ok (.iload_n 3, 1) := by decide +kernel
theorem dX9_peer_32 : decode cX9_peer 32 = .ok (.ireturn, 1) := by decide +kernel
theorem dX9_peerOf_0 : decode cX9_peerOf 0 = .ok (.iload_n 1, 1) := by decide +kernel
theorem dX9_peerOf_1 : decode cX9_peerOf 1 = .ok (.invokestatic 155, 3) := by decide +kernel
theorem dX9_peerOf_4 : decode cX9_peerOf 4 = .ok (.ifCond .eq 12, 3) := by decide +kernel
theorem dX9_peerOf_7 : decode cX9_peerOf 7 = .ok (.aload_n 0, 1) := by decide +kernel
theorem dX9_peerOf_8 : decode cX9_peerOf 8 = .ok (.getfield 46, 3) := by decide +kernel
theorem dX9_peerOf_11 : decode cX9_peerOf 11 = .ok (.iload_n 1, 1) := by decide +kernel
theorem dX9_peerOf_12 : decode cX9_peerOf 12 = .ok (.iaload, 1) := by decide +kernel
theorem dX9_peerOf_13 : decode cX9_peerOf 13 = .ok (.goto 4, 3) := by decide +kernel
theorem dX9_peerOf_16 : decode cX9_peerOf 16 = .ok (.iconst 0, 1) := by decide +kernel
theorem dX9_peerOf_17 : decode cX9_peerOf 17 = .ok (.ireturn, 1) := by decide +kernel
theorem dX9_poke_0 : decode cX9_poke 0 = .ok (.aload_n 0, 1) := by decide +kernel
theorem dX9_poke_1 : decode cX9_poke 1 = .ok (.iload_n 1, 1) := by decide +kernel
theorem dX9_poke_2 : decode cX9_poke 2 = .ok (.invokevirtual 100, 3) := by decide +kernel
theorem dX9_poke_5 : decode cX9_poke 5 = .ok (.istore_n 3, 1) := by decide +kernel
theorem dX9_poke_6 : decode cX9_poke 6 = .ok (.iload_n 2, 1) := by decide +kernel
theorem dX9_poke_7 : decode cX9_poke 7 = .ok (.invokestatic 104, 3) := by decide +kernel
theorem dX9_poke_10 : decode cX9_poke 10 = .ok (.ifCond .ne 13, 3) := by decide +kernel
theorem dX9_poke_13 : decode cX9_poke 13 = .ok (.new 95, 3) := by decide +kernel
theorem dX9_poke_16 : decode cX9_poke 16 = .ok (.dup, 1) := by decide +kernel
theorem dX9_poke_17 : decode cX9_poke 17 = .ok (.ldc 108, 2) := by decide +kernel
theorem dX9_poke_19 : decode cX9_poke 19 = .ok (.invokespecial 99, 3) := by decide +kernel
theorem dX9_poke_22 : decode cX9_poke 22 = .ok (.athrow, 1) := by decide +kernel
theorem dX9_poke_23 : decode cX9_poke 23 = .ok (.aload_n 0, 1) := by decide +kernel
theorem dX9_poke_24 : decode cX9_poke 24 = .ok (.getfield 10, 3) := by decide +kernel
theorem dX9_poke_27 : decode cX9_poke 27 = .ok (.iload_n 1, 1) := by decide +kernel
theorem dX9_poke_28 : decode cX9_poke 28 = .ok (.iload_n 2, 1) := by decide +kernel
theorem dX9_poke_29 : decode cX9_poke 29 = .ok (.invokevirtual 110, 3) := by decide +kernel
theorem dX9_poke_32 : decode cX9_poke 32 = .ok (.iload_n 3, 1) := by decide +kernel
theorem dX9_poke_33 : decode cX9_poke 33 = .ok (.ireturn, 1) := by decide +kernel
theorem dX9_policy_0 : decode cX9_policy 0 = .ok (.iload_n 1, 1) := by decide +kernel
theorem dX9_policy_1 : decode cX9_policy 1 = .ok (.invokestatic 136, 3) := by decide +kernel
theorem dX9_policy_4 : decode cX9_policy 4 = .ok (.ifCond .eq 31, 3) := by decide +kernel
theorem dX9_policy_7 : decode cX9_policy 7 = .ok (.iload_n 3, 1) := by decide +kernel
theorem dX9_policy_8 : decode cX9_policy 8 = .ok (.invokestatic 133, 3) := by decide +kernel
theorem dX9_policy_11 : decode cX9_policy 11 = .ok (.ifCond .eq 24, 3) := by decide +kernel
theorem dX9_policy_14 : decode cX9_policy 14 = .ok (.iload 5, 2) := by decide +kernel
theorem dX9_policy_16 : decode cX9_policy 16 = .ok (.invokestatic 133, 3) := by decide +kernel
theorem dX9_policy_19 : decode cX9_policy 19 = .ok (.ifCond .eq 16, 3) := by decide +kernel
theorem dX9_policy_22 : decode cX9_policy 22 = .ok (.iload 6, 2) := by decide +kernel
theorem dX9_policy_24 : decode cX9_policy 24 = .ok (.bipush (-2), 2) := by decide +kernel
theorem dX9_policy_26 : decode cX9_policy 26 = .ok (.if_icmp .lt 9, 3) := by decide +kernel
theorem dX9_policy_29 : decode cX9_policy 29 = .ok (.iload 6, 2) := by decide +kernel
theorem dX9_policy_31 : decode cX9_policy 31 = .ok (.iconst 4, 1) := by decide +kernel
theorem dX9_policy_32 : decode cX9_policy 32 = .ok (.if_icmp .lt 13, 3) := by decide +kernel
theorem dX9_policy_35 : decode cX9_policy 35 = .ok (.new 95, 3) := by decide +kernel
theorem dX9_policy_38 : decode cX9_policy 38 = .ok (.dup, 1) := by decide +kernel
theorem dX9_policy_39 : decode cX9_policy 39 = .ok (.ldc 167, 2) := by decide +kernel
theorem dX9_policy_41 : decode cX9_policy 41 = .ok (.invokespecial 99, 3) := by decide +kernel
theorem dX9_policy_44 : decode cX9_policy 44 = .ok (.athrow, 1) := by decide +kernel
theorem dX9_policy_45 : decode cX9_policy 45 = .ok (.aload_n 0, 1) := by decide +kernel
theorem dX9_policy_46 : decode cX9_policy 46 = .ok (.getfield 42, 3) := by decide +kernel
theorem dX9_policy_49 : decode cX9_policy 49 = .ok (.invokevirtual 169, 3) := by decide +kernel
theorem dX9_policy_52 : decode cX9_policy 52 = .ok (.ifCond .eq 13, 3) := by decide +kernel
theorem dX9_policy_55 : decode cX9_policy 55 = .ok (.new 80, 3) := by decide +kernel
theorem dX9_policy_58 : decode cX9_policy 58 = .ok (.dup, 1) := by decide +kernel
theorem dX9_policy_59 : decode cX9_policy 59 = .ok (.ldc 170, 2) := by decide +kernel
theorem dX9_policy_61 : decode cX9_policy 61 = .ok (.invokespecial 84, 3) := by decide +kernel
theorem dX9_policy_64 : decode cX9_policy 64 = .ok (.athrow, 1) := by decide +kernel
theorem dX9_policy_65 : decode cX9_policy 65 = .ok (.aload_n 0, 1) := by decide +kernel
theorem dX9_policy_66 : decode cX9_policy 66 = .ok (.getfield 42, 3) := by decide +kernel
theorem dX9_policy_69 : decode cX9_policy 69 = .ok (.iload_n 1, 1) := by decide +kernel
theorem dX9_policy_70 : decode cX9_policy 70 = .ok (.new 147, 3) := by decide +kernel
theorem dX9_policy_73 : decode cX9_policy 73 = .ok (.dup, 1) := by decide +kernel
theorem dX9_policy_74 : decode cX9_policy 74 = .ok (.iload_n 2, 1) := by decide +kernel
theorem dX9_policy_75 : decode cX9_policy 75 = .ok (.iload_n 3, 1) := by decide +kernel
theorem dX9_policy_76 : decode cX9_policy 76 = .ok (.invokespecial 149, 3) := by decide +kernel
theorem dX9_policy_79 : decode cX9_policy 79 = .ok (.new 147, 3) := by decide +kernel
theorem dX9_policy_82 : decode cX9_policy 82 = .ok (.dup, 1) := by decide +kernel
theorem dX9_policy_83 : decode cX9_policy 83 = .ok (.iload 4, 2) := by decide +kernel
theorem dX9_policy_85 : decode cX9_policy 85 = .ok (.iload 5, 2) := by decide +kernel
theorem dX9_policy_87 : decode cX9_policy 87 = .ok (.invokespecial 149, 3) := by decide +kernel
theorem dX9_policy_90 : decode cX9_policy 90 = .ok (.iload 6, 2) := by decide +kernel
theorem dX9_policy_92 : decode cX9_policy 92 = .ok (.invokevirtual 172, 3) := by decide +kernel
theorem dX9_policy_95 : decode cX9_policy 95 = .ok (.ireturn, 1) := by decide +kernel
theorem dX9_route_0 : decode cX9_route 0 = .ok (.iload_n 2, 1) := by decide +kernel
theorem dX9_route_1 : decode cX9_route 1 = .ok (.invokestatic 133, 3) := by decide +kernel
theorem dX9_route_4 : decode cX9_route 4 = .ok (.ifCond .eq 10, 3) := by decide +kernel
theorem dX9_route_7 : decode cX9_route 7 = .ok (.iload_n 3, 1) := by decide +kernel
theorem dX9_route_8 : decode cX9_route 8 = .ok (.invokestatic 136, 3) := by decide +kernel
theorem dX9_route_11 : decode cX9_route 11 = .ok (.ifCond .ne 13, 3) := by decide +kernel
theorem dX9_route_14 : decode cX9_route 14 = .ok (.new 95, 3) := by decide +kernel
theorem dX9_route_17 : decode cX9_route 17 = .ok (.dup, 1) := by decide +kernel
theorem dX9_route_18 : decode cX9_route 18 = .ok (.ldc 139, 2) := by decide +kernel
theorem dX9_route_20 : decode cX9_route 20 = .ok (.invokespecial 99, 3) := by decide +kernel
theorem dX9_route_23 : decode cX9_route 23 = .ok (.athrow, 1) := by decide +kernel
theorem dX9_route_24 : decode cX9_route 24 = .ok (.aload_n 0, 1) := by decide +kernel
theorem dX9_route_25 : decode cX9_route 25 = .ok (.getfield 35, 3) := by decide +kernel
theorem dX9_route_28 : decode cX9_route 28 = .ok (.invokevirtual 141, 3) := by decide +kernel
theorem dX9_route_31 : decode cX9_route 31 = .ok (.ifCond .eq 13, 3) := by decide +kernel
theorem dX9_route_34 : decode cX9_route 34 = .ok (.new 80, 3) := by decide +kernel
theorem dX9_route_37 : decode cX9_route 37 = .ok (.dup, 1) := by decide +kernel
theorem dX9_route_38 : decode cX9_route 38 = .ok (.ldc 145, 2) := by decide +kernel
theorem dX9_route_40 : decode cX9_route 40 = .ok (.invokespecial 84, 3) := by decide +kernel
theorem dX9_route_43 : decode cX9_route 43 = .ok (.athrow, 1) := by decide +kernel
theorem dX9_route_44 : decode cX9_route 44 = .ok (.aload_n 0, 1) := by decide +kernel
theorem dX9_route_45 : decode cX9_route 45 = .ok (.getfield 35, 3) := by decide +kernel
theorem dX9_route_48 : decode cX9_route 48 = .ok (.new 147, 3) := by decide +kernel
theorem dX9_route_51 : decode cX9_route 51 = .ok (.dup, 1) := by decide +kernel
theorem dX9_route_52 : decode cX9_route 52 = .ok (.iload_n 1, 1) := by decide +kernel
theorem dX9_route_53 : decode cX9_route 53 = .ok (.iload_n 2, 1) := by decide +kernel
theorem dX9_route_54 : decode cX9_route 54 = .ok (.invokespecial 149, 3) := by decide +kernel
theorem dX9_route_57 : decode cX9_route 57 = .ok (.iload_n 3, 1) := by decide +kernel
theorem dX9_route_58 : decode cX9_route 58 = .ok (.invokevirtual 151, 3) := by decide +kernel
theorem dX9_route_61 : decode cX9_route 61 = .ok (.ireturn, 1) := by decide +kernel
theorem dX9_routed_0 : decode cX9_routed 0 = .ok (.aload_n 0, 1) := by decide +kernel
theorem dX9_routed_1 : decode cX9_routed 1 = .ok (.getfield 35, 3) := by decide +kernel
theorem dX9_routed_4 : decode cX9_routed 4 = .ok (.iload_n 1, 1) := by decide +kernel
theorem dX9_routed_5 : decode cX9_routed 5 = .ok (.invokevirtual 236, 3) := by decide +kernel
theorem dX9_routed_8 : decode cX9_routed 8 = .ok (.ireturn, 1) := by decide +kernel
theorem dX9_seal_0 : decode cX9_seal 0 = .ok (.iload_n 2, 1) := by decide +kernel
theorem dX9_seal_1 : decode cX9_seal 1 = .ok (.invokestatic 155, 3) := by decide +kernel
theorem dX9_seal_4 : decode cX9_seal 4 = .ok (.ifCond .ne 13, 3) := by decide +kernel
theorem dX9_seal_7 : decode cX9_seal 7 = .ok (.new 114, 3) := by decide +kernel
theorem dX9_seal_10 : decode cX9_seal 10 = .ok (.dup, 1) := by decide +kernel
theorem dX9_seal_11 : decode cX9_seal 11 = .ok (.ldc 158, 2) := by decide +kernel
theorem dX9_seal_13 : decode cX9_seal 13 = .ok (.invokespecial 118, 3) := by decide +kernel
theorem dX9_seal_16 : decode cX9_seal 16 = .ok (.athrow, 1) := by decide +kernel
theorem dX9_seal_17 : decode cX9_seal 17 = .ok (.iload_n 1, 1) := by decide +kernel
theorem dX9_seal_18 : decode cX9_seal 18 = .ok (.invokestatic 136, 3) := by decide +kernel
theorem dX9_seal_21 : decode cX9_seal 21 = .ok (.ifCond .eq 23, 3) := by decide +kernel
theorem dX9_seal_24 : decode cX9_seal 24 = .ok (.iload_n 3, 1) := by decide +kernel
theorem dX9_seal_25 : decode cX9_seal 25 = .ok (.sipush 256, 3) := by decide +kernel
theorem dX9_seal_28 : decode cX9_seal 28 = .ok (.if_icmp .lt 16, 3) := by decide +kernel
theorem dX9_seal_31 : decode cX9_seal 31 = .ok (.iload 9, 2) := by decide +kernel
theorem dX9_seal_33 : decode cX9_seal 33 = .ok (.iconst 1, 1) := by decide +kernel
theorem dX9_seal_34 : decode cX9_seal 34 = .ok (.if_icmp .lt 10, 3) := by decide +kernel
theorem dX9_seal_37 : decode cX9_seal 37 = .ok (.iload 9, 2) := by decide +kernel
theorem dX9_seal_39 : decode cX9_seal 39 = .ok (.ldc 175, 2) := by decide +kernel
theorem dX9_seal_41 : decode cX9_seal 41 = .ok (.if_icmp .le 13, 3) := by decide +kernel
theorem dX9_seal_44 : decode cX9_seal 44 = .ok (.new 95, 3) := by decide +kernel
theorem dX9_seal_47 : decode cX9_seal 47 = .ok (.dup, 1) := by decide +kernel
theorem dX9_seal_48 : decode cX9_seal 48 = .ok (.ldc 176, 2) := by decide +kernel
theorem dX9_seal_50 : decode cX9_seal 50 = .ok (.invokespecial 99, 3) := by decide +kernel
theorem dX9_seal_53 : decode cX9_seal 53 = .ok (.athrow, 1) := by decide +kernel
theorem dX9_seal_54 : decode cX9_seal 54 = .ok (.aload_n 0, 1) := by decide +kernel
theorem dX9_seal_55 : decode cX9_seal 55 = .ok (.getfield 178, 3) := by decide +kernel
theorem dX9_seal_58 : decode cX9_seal 58 = .ok (.ifCond .lt 20, 3) := by decide +kernel
theorem dX9_seal_61 : decode cX9_seal 61 = .ok (.aload_n 0, 1) := by decide +kernel
theorem dX9_seal_62 : decode cX9_seal 62 = .ok (.getfield 178, 3) := by decide +kernel
theorem dX9_seal_65 : decode cX9_seal 65 = .ok (.bipush 16, 2) := by decide +kernel
theorem dX9_seal_67 : decode cX9_seal 67 = .ok (.if_icmp .ge 11, 3) := by decide +kernel
theorem dX9_seal_70 : decode cX9_seal 70 = .ok (.aload_n 0, 1) := by decide +kernel
theorem dX9_seal_71 : decode cX9_seal 71 = .ok (.iload_n 3, 1) := by decide +kernel
theorem dX9_seal_72 : decode cX9_seal 72 = .ok (.invokevirtual 181, 3) := by decide +kernel
theorem dX9_seal_75 : decode cX9_seal 75 = .ok (.ifnull 13, 3) := by decide +kernel
theorem dX9_seal_78 : decode cX9_seal 78 = .ok (.new 80, 3) := by decide +kernel
theorem dX9_seal_81 : decode cX9_seal 81 = .ok (.dup, 1) := by decide +kernel
theorem dX9_seal_82 : decode cX9_seal 82 = .ok (.ldc 185, 2) := by decide +kernel
theorem dX9_seal_84 : decode cX9_seal 84 = .ok (.invokespecial 84, 3) := by decide +kernel
theorem dX9_seal_87 : decode cX9_seal 87 = .ok (.athrow, 1) := by decide +kernel
theorem dX9_seal_88 : decode cX9_seal 88 = .ok (.aload_n 0, 1) := by decide +kernel
theorem dX9_seal_89 : decode cX9_seal 89 = .ok (.getfield 52, 3) := by decide +kernel
theorem dX9_seal_92 : decode cX9_seal 92 = .ok (.aload_n 0, 1) := by decide +kernel
theorem dX9_seal_93 : decode cX9_seal 93 = .ok (.getfield 178, 3) := by decide +kernel
theorem dX9_seal_96 : decode cX9_seal 96 = .ok (.new 50, 3) := by decide +kernel
theorem dX9_seal_99 : decode cX9_seal 99 = .ok (.dup, 1) := by decide +kernel
theorem dX9_seal_100 : decode cX9_seal 100 = .ok (.iload_n 1, 1) := by decide +kernel
theorem dX9_seal_101 : decode cX9_seal 101 = .ok (.iload_n 2, 1) := by decide +kernel
theorem dX9_seal_102 : decode cX9_seal 102 = .ok (.iload_n 3, 1) := by decide +kernel
theorem dX9_seal_103 : decode cX9_seal 103 = .ok (.lload 4, 2) := by decide +kernel
theorem dX9_seal_105 : decode cX9_seal 105 = .ok (.lload 6, 2) := by decide +kernel
theorem dX9_seal_107 : decode cX9_seal 107 = .ok (.iload 8, 2) := by decide +kernel
theorem dX9_seal_109 : decode cX9_seal 109 = .ok (.iload 9, 2) := by decide +kernel
theorem dX9_seal_111 : decode cX9_seal 111 = .ok (.invokespecial 187, 3) := by decide +kernel
theorem dX9_seal_114 : decode cX9_seal 114 = .ok (.aastore, 1) := by decide +kernel
theorem dX9_seal_115 : decode cX9_seal 115 = .ok (.aload_n 0, 1) := by decide +kernel
theorem dX9_seal_116 : decode cX9_seal 116 = .ok (.dup, 1) := by decide +kernel
theorem dX9_seal_117 : decode cX9_seal 117 = .ok (.getfield 178, 3) := by decide +kernel
theorem dX9_seal_120 : decode cX9_seal 120 = .ok (.dup_x1, 1) := by decide +kernel
theorem dX9_seal_121 : decode cX9_seal 121 = .ok (.iconst 1, 1) := by decide +kernel
theorem dX9_seal_122 : decode cX9_seal 122 = .ok (.iadd, 1) := by decide +kernel
theorem dX9_seal_123 : decode cX9_seal 123 = .ok (.putfield 178, 3) := by decide +kernel
theorem dX9_seal_126 : decode cX9_seal 126 = .ok (.ireturn, 1) := by decide +kernel
theorem dX9_sealAt_0 : decode cX9_sealAt 0 = .ok (.iload_n 1, 1) := by decide +kernel
theorem dX9_sealAt_1 : decode cX9_sealAt 1 = .ok (.ifCond .lt 26, 3) := by decide +kernel
theorem dX9_sealAt_4 : decode cX9_sealAt 4 = .ok (.iload_n 1, 1) := by decide +kernel
theorem dX9_sealAt_5 : decode cX9_sealAt 5 = .ok (.aload_n 0, 1) := by decide +kernel
theorem dX9_sealAt_6 : decode cX9_sealAt 6 = .ok (.getfield 178, 3) := by decide +kernel
theorem dX9_sealAt_9 : decode cX9_sealAt 9 = .ok (.if_icmp .ge 18, 3) := by decide +kernel
theorem dX9_sealAt_12 : decode cX9_sealAt 12 = .ok (.iload_n 1, 1) := by decide +kernel
theorem dX9_sealAt_13 : decode cX9_sealAt 13 = .ok (.bipush 16, 2) := by decide +kernel
theorem dX9_sealAt_15 : decode cX9_sealAt 15 = .ok (.if_icmp .ge 12, 3) := by decide +kernel
theorem dX9_sealAt_18 : decode cX9_sealAt 18 = .ok (.aload_n 0, 1) := by decide +kernel
theorem dX9_sealAt_19 : decode cX9_sealAt 19 = .ok (.getfield 52, 3) := by decide +kernel
theorem dX9_sealAt_22 : decode cX9_sealAt 22 = .ok (.iload_n 1, 1) := by decide +kernel
theorem dX9_sealAt_23 : decode cX9_sealAt 23 = .ok (.aaload, 1) := by decide +kernel
theorem dX9_sealAt_24 : decode cX9_sealAt 24 = .ok (.goto 4, 3) := by decide +kernel
theorem dX9_sealAt_27 : decode cX9_sealAt 27 = .ok (.aconst_null, 1) := by decide +kernel
theorem dX9_sealAt_28 : decode cX9_sealAt 28 = .ok (.astore_n 2, 1) := by decide +kernel
theorem dX9_sealAt_29 : decode cX9_sealAt 29 = .ok (.aload_n 2, 1) := by decide +kernel
theorem dX9_sealAt_30 : decode cX9_sealAt 30 = .ok (.ifnonnull 14, 3) := by decide +kernel
theorem dX9_sealAt_33 : decode cX9_sealAt 33 = .ok (.new 114, 3) := by decide +kernel
theorem dX9_sealAt_36 : decode cX9_sealAt 36 = .ok (.dup, 1) := by decide +kernel
theorem dX9_sealAt_37 : decode cX9_sealAt 37 = .ok (.ldc_w 422, 3) := by decide +kernel
theorem dX9_sealAt_40 : decode cX9_sealAt 40 = .ok (.invokespecial 118, 3) := by decide +kernel
theorem dX9_sealAt_43 : decode cX9_sealAt 43 = .ok (.athrow, 1) := by decide +kernel
theorem dX9_sealAt_44 : decode cX9_sealAt 44 = .ok (.aload_n 2, 1) := by decide +kernel
theorem dX9_sealAt_45 : decode cX9_sealAt 45 = .ok (.areturn, 1) := by decide +kernel
theorem dX9_sealInto_0 : decode cX9_sealInto 0 = .ok (.aload_n 0, 1) := by decide +kernel
theorem dX9_sealInto_1 : decode cX9_sealInto 1 = .ok (.iload_n 1, 1) := by decide +kernel
theorem dX9_sealInto_2 : decode cX9_sealInto 2 = .ok (.invokevirtual 309, 3) := by decide +kernel
theorem dX9_sealInto_5 : decode cX9_sealInto 5 = .ok (.astore_n 2, 1) := by decide +kernel
theorem dX9_sealInto_6 : decode cX9_sealInto 6 = .ok (.aload_n 2, 1) := by decide +kernel
theorem dX9_sealInto_7 : decode cX9_sealInto 7 = .ok (.ifnonnull 5, 3) := by decide +kernel
theorem dX9_sealInto_10 : decode cX9_sealInto 10 = .ok (.iconst 5, 1) := by decide +kernel
theorem dX9_sealInto_11 : decode cX9_sealInto 11 = .ok (.ireturn, 1) := by decide +kernel
theorem dX9_sealInto_12 : decode cX9_sealInto 12 = .ok (.aload_n 0, 1) := by decide +kernel
theorem dX9_sealInto_13 : decode cX9_sealInto 13 = .ok (.getfield 19, 3) := by decide +kernel
theorem dX9_sealInto_16 : decode cX9_sealInto 16 = .ok (.aload_n 2, 1) := by decide +kernel
theorem dX9_sealInto_17 : decode cX9_sealInto 17 = .ok (.aload_n 0, 1) := by decide +kernel
theorem dX9_sealInto_18 : decode cX9_sealInto 18 = .ok (.getfield 16, 3) := by decide +kernel
theorem dX9_sealInto_21 : decode cX9_sealInto 21 = .ok (.invokevirtual 312, 3) := by decide +kernel
theorem dX9_sealInto_24 : decode cX9_sealInto 24 = .ok (.invokevirtual 87, 3) := by decide +kernel
theorem dX9_sealInto_27 : decode cX9_sealInto 27 = .ok (.aload_n 0, 1) := by decide +kernel
theorem dX9_sealInto_28 : decode cX9_sealInto 28 = .ok (.getfield 19, 3) := by decide +kernel
theorem dX9_sealInto_31 : decode cX9_sealInto 31 = .ok (.aload_n 0, 1) := by decide +kernel
theorem dX9_sealInto_32 : decode cX9_sealInto 32 = .ok (.getfield 73, 3) := by decide +kernel
theorem dX9_sealInto_35 : decode cX9_sealInto 35 = .ok (.aload_n 0, 1) := by decide +kernel
theorem dX9_sealInto_36 : decode cX9_sealInto 36 = .ok (.iload_n 1, 1) := by decide +kernel
theorem dX9_sealInto_37 : decode cX9_sealInto 37 = .ok (.invokevirtual 316, 3) := by decide +kernel
theorem dX9_sealInto_40 : decode cX9_sealInto 40 = .ok (.bipush 50, 2) := by decide +kernel
theorem dX9_sealInto_42 : decode cX9_sealInto 42 = .ok (.bipush 64, 2) := by decide +kernel
theorem dX9_sealInto_44 : decode cX9_sealInto 44 = .ok (.invokevirtual 124, 3) := by decide +kernel
theorem dX9_sealInto_47 : decode cX9_sealInto 47 = .ok (.aload_n 0, 1) := by decide +kernel
theorem dX9_sealInto_48 : decode cX9_sealInto 48 = .ok (.getfield 19, 3) := by decide +kernel
theorem dX9_sealInto_51 : decode cX9_sealInto 51 = .ok (.aload_n 0, 1) := by decide +kernel
theorem dX9_sealInto_52 : decode cX9_sealInto 52 = .ok (.getfield 16, 3) := by decide +kernel
theorem dX9_sealInto_55 : decode cX9_sealInto 55 = .ok (.aload_n 0, 1) := by decide +kernel
theorem dX9_sealInto_56 : decode cX9_sealInto 56 = .ok (.getfield 275, 3) := by decide +kernel
theorem dX9_sealInto_59 : decode cX9_sealInto 59 = .ok (.invokevirtual 319, 3) := by decide +kernel
theorem dX9_sealInto_62 : decode cX9_sealInto 62 = .ok (.aload_n 0, 1) := by decide +kernel
theorem dX9_sealInto_63 : decode cX9_sealInto 63 = .ok (.getfield 19, 3) := by decide +kernel
theorem dX9_sealInto_66 : decode cX9_sealInto 66 = .ok (.invokevirtual 323, 3) := by decide +kernel
theorem dX9_sealInto_69 : decode cX9_sealInto 69 = .ok (.ifCond .eq 6, 3) := by decide +kernel
theorem dX9_sealInto_72 : decode cX9_sealInto 72 = .ok (.bipush 6, 2) := by decide +kernel
theorem dX9_sealInto_74 : decode cX9_sealInto 74 = .ok (.ireturn, 1) := by decide +kernel
theorem dX9_sealInto_75 : decode cX9_sealInto 75 = .ok (.aload_n 0, 1) := by decide +kernel
theorem dX9_sealInto_76 : decode cX9_sealInto 76 = .ok (.getfield 16, 3) := by decide +kernel
theorem dX9_sealInto_79 : decode cX9_sealInto 79 = .ok (.invokevirtual 326, 3) := by decide +kernel
theorem dX9_sealInto_82 : decode cX9_sealInto 82 = .ok (.aload_n 2, 1) := by decide +kernel
theorem dX9_sealInto_83 : decode cX9_sealInto 83 = .ok (.aload_n 0, 1) := by decide +kernel
theorem dX9_sealInto_84 : decode cX9_sealInto 84 = .ok (.getfield 16, 3) := by decide +kernel
theorem dX9_sealInto_87 : decode cX9_sealInto 87 = .ok (.aload_n 0, 1) := by decide +kernel
theorem dX9_sealInto_88 : decode cX9_sealInto 88 = .ok (.getfield 19, 3) := by decide +kernel
theorem dX9_sealInto_91 : decode cX9_sealInto 91 = .ok (.invokevirtual 329, 3) := by decide +kernel
theorem dX9_sealInto_94 : decode cX9_sealInto 94 = .ok (.aload_n 0, 1) := by decide +kernel
theorem dX9_sealInto_95 : decode cX9_sealInto 95 = .ok (.getfield 19, 3) := by decide +kernel
theorem dX9_sealInto_98 : decode cX9_sealInto 98 = .ok (.invokevirtual 128, 3) := by decide +kernel
theorem dX9_sealInto_101 : decode cX9_sealInto 101 = .ok (.pop, 1) := by decide +kernel
theorem dX9_sealInto_102 : decode cX9_sealInto 102 = .ok (.aload_n 0, 1) := by decide +kernel
theorem dX9_sealInto_103 : decode cX9_sealInto 103 = .ok (.dup, 1) := by decide +kernel
theorem dX9_sealInto_104 : decode cX9_sealInto 104 = .ok (.getfield 275, 3) := by decide +kernel
theorem dX9_sealInto_107 : decode cX9_sealInto 107 = .ok (.iconst 1, 1) := by decide +kernel
theorem dX9_sealInto_108 : decode cX9_sealInto 108 = .ok (.iadd, 1) := by decide +kernel
theorem dX9_sealInto_109 : decode cX9_sealInto 109 = .ok (.putfield 275, 3) := by decide +kernel
theorem dX9_sealInto_112 : decode cX9_sealInto 112 = .ok (.aload_n 0, 1) := by decide +kernel
theorem dX9_sealInto_113 : decode cX9_sealInto 113 = .ok (.aload_n 0, 1) := by decide +kernel
theorem dX9_sealInto_114 : decode cX9_sealInto 114 = .ok (.getfield 19, 3) := by decide +kernel
theorem dX9_sealInto_117 : decode cX9_sealInto 117 = .ok (.iconst 1, 1) := by decide +kernel
theorem dX9_sealInto_118 : decode cX9_sealInto 118 = .ok (.invokevirtual 333, 3) := by decide +kernel
theorem dX9_sealInto_121 : decode cX9_sealInto 121 = .ok (.iconst 0, 1) := by decide +kernel
theorem dX9_sealInto_122 : decode cX9_sealInto 122 = .ok (.ireturn, 1) := by decide +kernel
theorem dX9_sealNamed_0 : decode cX9_sealNamed 0 = .ok (.iconst 0, 1) := by decide +kernel
theorem dX9_sealNamed_1 : decode cX9_sealNamed 1 = .ok (.istore_n 2, 1) := by decide +kernel
theorem dX9_sealNamed_2 : decode cX9_sealNamed 2 = .ok (.iload_n 2, 1) := by decide +kernel
theorem dX9_sealNamed_3 : decode cX9_sealNamed 3 = .ok (.aload_n 0, 1) := by decide +kernel
theorem dX9_sealNamed_4 : decode cX9_sealNamed 4 = .ok (.getfield 178, 3) := by decide +kernel
theorem dX9_sealNamed_7 : decode cX9_sealNamed 7 = .ok (.if_icmp .ge 44, 3) := by decide +kernel
theorem dX9_sealNamed_10 : decode cX9_sealNamed 10 = .ok (.iload_n 2, 1) := by decide +kernel
theorem dX9_sealNamed_11 : decode cX9_sealNamed 11 = .ok (.bipush 16, 2) := by decide +kernel
theorem dX9_sealNamed_13 : decode cX9_sealNamed 13 = .ok (.if_icmp .ge 38, 3) := by decide +kernel
theorem dX9_sealNamed_16 : decode cX9_sealNamed 16 = .ok (.aload_n 0, 1) := by decide +kernel
theorem dX9_sealNamed_17 : decode cX9_sealNamed 17 = .ok (.getfield 52, 3) := by decide +kernel
theorem dX9_sealNamed_20 : decode cX9_sealNamed 20 = .ok (.iload_n 2, 1) := by decide +kernel
theorem dX9_sealNamed_21 : decode cX9_sealNamed 21 = .ok (.aaload, 1) := by decide +kernel
theorem dX9_sealNamed_22 : decode cX9_sealNamed 22 = .ok (.astore_n 3, 1) := by decide +kernel
theorem dX9_sealNamed_23 : decode cX9_sealNamed 23 = .ok (.aload_n 3, 1) := by decide +kernel
theorem dX9_sealNamed_24 : decode cX9_sealNamed 24 = .ok (.ifnull 21, 3) := by decide +kernel
theorem dX9_sealNamed_27 : decode cX9_sealNamed 27 = .ok (.aload_n 3, 1) := by decide +kernel
