theorem dJ7_fill_031fb_0 : decode cJ7_fill_031fb 0 = .ok (.iconst 0, 1) := by decide +kernel
theorem dJ7_fill_031fb_1 : decode cJ7_fill_031fb 1 = .ok (.istore_n 2, 1) := by decide +kernel
theorem dJ7_fill_031fb_2 : decode cJ7_fill_031fb 2 = .ok (.aload_n 0, 1) := by decide +kernel
theorem dJ7_fill_031fb_3 : decode cJ7_fill_031fb 3 = .ok (.arraylength, 1) := by decide +kernel
theorem dJ7_fill_031fb_4 : decode cJ7_fill_031fb 4 = .ok (.istore_n 3, 1) := by decide +kernel
theorem dJ7_fill_031fb_5 : decode cJ7_fill_031fb 5 = .ok (.iload_n 2, 1) := by decide +kernel
theorem dJ7_fill_031fb_6 : decode cJ7_fill_031fb 6 = .ok (.iload_n 3, 1) := by decide +kernel
theorem dJ7_fill_031fb_7 : decode cJ7_fill_031fb 7 = .ok (.if_icmp .ge 13, 3) := by decide +kernel
theorem dJ7_fill_031fb_10 : decode cJ7_fill_031fb 10 = .ok (.aload_n 0, 1) := by decide +kernel
theorem dJ7_fill_031fb_11 : decode cJ7_fill_031fb 11 = .ok (.iload_n 2, 1) := by decide +kernel
theorem dJ7_fill_031fb_12 : decode cJ7_fill_031fb 12 = .ok (.iload_n 1, 1) := by decide +kernel
theorem dJ7_fill_031fb_13 : decode cJ7_fill_031fb 13 = .ok (.bastore, 1) := by decide +kernel
theorem dJ7_fill_031fb_14 : decode cJ7_fill_031fb 14 = .ok (.iinc 2 1, 3) := by decide +kernel
theorem dJ7_fill_031fb_17 : decode cJ7_fill_031fb 17 = .ok (.goto (-12), 3) := by decide +kernel
theorem dJ7_fill_031fb_20 : decode cJ7_fill_031fb 20 = .ok (.return_, 1) := by decide +kernel
theorem dJ7_fill_53178_0 : decode cJ7_fill_53178 0 = .ok (.iconst 0, 1) := by decide +kernel
theorem dJ7_fill_53178_1 : decode cJ7_fill_53178 1 = .ok (.istore_n 2, 1) := by decide +kernel
theorem dJ7_fill_53178_2 : decode cJ7_fill_53178 2 = .ok (.aload_n 0, 1) := by decide +kernel
theorem dJ7_fill_53178_3 : decode cJ7_fill_53178 3 = .ok (.arraylength, 1) := by decide +kernel
theorem dJ7_fill_53178_4 : decode cJ7_fill_53178 4 = .ok (.istore_n 3, 1) := by decide +kernel
theorem dJ7_fill_53178_5 : decode cJ7_fill_53178 5 = .ok (.iload_n 2, 1) := by decide +kernel
theorem dJ7_fill_53178_6 : decode cJ7_fill_53178 6 = .ok (.iload_n 3, 1) := by decide +kernel
theorem dJ7_fill_53178_7 : decode cJ7_fill_53178 7 = .ok (.if_icmp .ge 13, 3) := by decide +kernel
theorem dJ7_fill_53178_10 : decode cJ7_fill_53178 10 = .ok (.aload_n 0, 1) := by decide +kernel
theorem dJ7_fill_53178_11 : decode cJ7_fill_53178 11 = .ok (.iload_n 2, 1) := by decide +kernel
theorem dJ7_fill_53178_12 : decode cJ7_fill_53178 12 = .ok (.iload_n 1, 1) := by decide +kernel
theorem dJ7_fill_53178_13 : decode cJ7_fill_53178 13 = .ok (.iastore, 1) := by decide +kernel
theorem dJ7_fill_53178_14 : decode cJ7_fill_53178 14 = .ok (.iinc 2 1, 3) := by decide +kernel
theorem dJ7_fill_53178_17 : decode cJ7_fill_53178 17 = .ok (.goto (-12), 3) := by decide +kernel
theorem dJ7_fill_53178_20 : decode cJ7_fill_53178 20 = .ok (.return_, 1) := by decide +kernel
theorem dX0_begin_0 : decode cX0_begin 0 = .ok (.aload_n 0, 1) := by decide +kernel
theorem dX0_begin_1 : decode cX0_begin 1 = .ok (.getfield 12, 3) := by decide +kernel
theorem dX0_begin_4 : decode cX0_begin 4 = .ok (.sipush 2000, 3) := by decide +kernel
theorem dX0_begin_7 : decode cX0_begin 7 = .ok (.invokevirtual 22, 3) := by decide +kernel
theorem dX0_begin_10 : decode cX0_begin 10 = .ok (.aload_n 0, 1) := by decide +kernel
theorem dX0_begin_11 : decode cX0_begin 11 = .ok (.getfield 18, 3) := by decide +kernel
theorem dX0_begin_14 : decode cX0_begin 14 = .ok (.iconst 0, 1) := by decide +kernel
theorem dX0_begin_15 : decode cX0_begin 15 = .ok (.invokestatic 26, 3) := by decide +kernel
theorem dX0_begin_18 : decode cX0_begin 18 = .ok (.aload_n 0, 1) := by decide +kernel
theorem dX0_begin_19 : decode cX0_begin 19 = .ok (.aload_n 1, 1) := by decide +kernel
theorem dX0_begin_20 : decode cX0_begin 20 = .ok (.invokevirtual 32, 3) := by decide +kernel
theorem dX0_begin_23 : decode cX0_begin 23 = .ok (.putfield 36, 3) := by decide +kernel
theorem dX0_begin_26 : decode cX0_begin 26 = .ok (.aload_n 0, 1) := by decide +kernel
theorem dX0_begin_27 : decode cX0_begin 27 = .ok (.aload_n 1, 1) := by decide +kernel
theorem dX0_begin_28 : decode cX0_begin 28 = .ok (.invokevirtual 39, 3) := by decide +kernel
theorem dX0_begin_31 : decode cX0_begin 31 = .ok (.putfield 42, 3) := by decide +kernel
theorem dX0_begin_34 : decode cX0_begin 34 = .ok (.aload_n 0, 1) := by decide +kernel
theorem dX0_begin_35 : decode cX0_begin 35 = .ok (.iconst 0, 1) := by decide +kernel
theorem dX0_begin_36 : decode cX0_begin 36 = .ok (.putfield 44, 3) := by decide +kernel
theorem dX0_begin_39 : decode cX0_begin 39 = .ok (.aload_n 0, 1) := by decide +kernel
theorem dX0_begin_40 : decode cX0_begin 40 = .ok (.iconst 0, 1) := by decide +kernel
theorem dX0_begin_41 : decode cX0_begin 41 = .ok (.putfield 47, 3) := by decide +kernel
theorem dX0_begin_44 : decode cX0_begin 44 = .ok (.aload_n 0, 1) := by decide +kernel
theorem dX0_begin_45 : decode cX0_begin 45 = .ok (.iconst (-1), 1) := by decide +kernel
theorem dX0_begin_46 : decode cX0_begin 46 = .ok (.putfield 50, 3) := by decide +kernel
theorem dX0_begin_49 : decode cX0_begin 49 = .ok (.aload_n 0, 1) := by decide +kernel
theorem dX0_begin_50 : decode cX0_begin 50 = .ok (.iconst 0, 1) := by decide +kernel
theorem dX0_begin_51 : decode cX0_begin 51 = .ok (.putfield 53, 3) := by decide +kernel
theorem dX0_begin_54 : decode cX0_begin 54 = .ok (.return_, 1) := by decide +kernel
theorem dX0_hasByteOf_0 : decode cX0_hasByteOf 0 = .ok (.iload_n 1, 1) := by decide +kernel
theorem dX0_hasByteOf_1 : decode cX0_hasByteOf 1 = .ok (.istore_n 3, 1) := by decide +kernel
theorem dX0_hasByteOf_2 : decode cX0_hasByteOf 2 = .ok (.iload_n 3, 1) := by decide +kernel
theorem dX0_hasByteOf_3 : decode cX0_hasByteOf 3 = .ok (.iload_n 2, 1) := by decide +kernel
theorem dX0_hasByteOf_4 : decode cX0_hasByteOf 4 = .ok (.if_icmp .ge 31, 3) := by decide +kernel
theorem dX0_hasByteOf_7 : decode cX0_hasByteOf 7 = .ok (.iload_n 3, 1) := by decide +kernel
theorem dX0_hasByteOf_8 : decode cX0_hasByteOf 8 = .ok (.sipush 1980, 3) := by decide +kernel
theorem dX0_hasByteOf_11 : decode cX0_hasByteOf 11 = .ok (.if_icmp .ge 24, 3) := by decide +kernel
theorem dX0_hasByteOf_14 : decode cX0_hasByteOf 14 = .ok (.iload_n 3, 1) := by decide +kernel
theorem dX0_hasByteOf_15 : decode cX0_hasByteOf 15 = .ok (.ifCond .lt 14, 3) := by decide +kernel
theorem dX0_hasByteOf_18 : decode cX0_hasByteOf 18 = .ok (.aload_n 0, 1) := by decide +kernel
theorem dX0_hasByteOf_19 : decode cX0_hasByteOf 19 = .ok (.getfield 18, 3) := by decide +kernel
theorem dX0_hasByteOf_22 : decode cX0_hasByteOf 22 = .ok (.iload_n 3, 1) := by decide +kernel
theorem dX0_hasByteOf_23 : decode cX0_hasByteOf 23 = .ok (.baload, 1) := by decide +kernel
theorem dX0_hasByteOf_24 : decode cX0_hasByteOf 24 = .ok (.ifCond .eq 5, 3) := by decide +kernel
theorem dX0_hasByteOf_27 : decode cX0_hasByteOf 27 = .ok (.iconst 1, 1) := by decide +kernel
theorem dX0_hasByteOf_28 : decode cX0_hasByteOf 28 = .ok (.ireturn, 1) := by decide +kernel
theorem dX0_hasByteOf_29 : decode cX0_hasByteOf 29 = .ok (.iinc 3 1, 3) := by decide +kernel
theorem dX0_hasByteOf_32 : decode cX0_hasByteOf 32 = .ok (.goto (-30), 3) := by decide +kernel
theorem dX0_hasByteOf_35 : decode cX0_hasByteOf 35 = .ok (.iconst 0, 1) := by decide +kernel
theorem dX0_hasByteOf_36 : decode cX0_hasByteOf 36 = .ok (.ireturn, 1) := by decide +kernel
theorem dX0_init_0 : decode cX0_init 0 = .ok (.aload_n 0, 1) := by decide +kernel
theorem dX0_init_1 : decode cX0_init 1 = .ok (.invokespecial 3, 3) := by decide +kernel
theorem dX0_init_4 : decode cX0_init 4 = .ok (.aload_n 0, 1) := by decide +kernel
theorem dX0_init_5 : decode cX0_init 5 = .ok (.new 9, 3) := by decide +kernel
theorem dX0_init_8 : decode cX0_init 8 = .ok (.dup, 1) := by decide +kernel
theorem dX0_init_9 : decode cX0_init 9 = .ok (.invokespecial 11, 3) := by decide +kernel
theorem dX0_init_12 : decode cX0_init 12 = .ok (.putfield 12, 3) := by decide +kernel
theorem dX0_init_15 : decode cX0_init 15 = .ok (.aload_n 0, 1) := by decide +kernel
theorem dX0_init_16 : decode cX0_init 16 = .ok (.sipush 1980, 3) := by decide +kernel
theorem dX0_init_19 : decode cX0_init 19 = .ok (.newarray .byte, 2) := by decide +kernel
theorem dX0_init_21 : decode cX0_init 21 = .ok (.putfield 18, 3) := by decide +kernel
theorem dX0_init_24 : decode cX0_init 24 = .ok (.return_, 1) := by decide +kernel
theorem dX0_isMisshapen_0 : decode cX0_isMisshapen 0 = .ok (.aload_n 0, 1) := by decide +kernel
theorem dX0_isMisshapen_1 : decode cX0_isMisshapen 1 = .ok (.invokevirtual 56, 3) := by decide +kernel
theorem dX0_isMisshapen_4 : decode cX0_isMisshapen 4 = .ok (.bipush 20, 2) := by decide +kernel
theorem dX0_isMisshapen_6 : decode cX0_isMisshapen 6 = .ok (.isub, 1) := by decide +kernel
theorem dX0_isMisshapen_7 : decode cX0_isMisshapen 7 = .ok (.istore_n 1, 1) := by decide +kernel
theorem dX0_isMisshapen_8 : decode cX0_isMisshapen 8 = .ok (.aload_n 0, 1) := by decide +kernel
theorem dX0_isMisshapen_9 : decode cX0_isMisshapen 9 = .ok (.invokevirtual 59, 3) := by decide +kernel
theorem dX0_isMisshapen_12 : decode cX0_isMisshapen 12 = .ok (.ifCond .eq 14, 3) := by decide +kernel
theorem dX0_isMisshapen_15 : decode cX0_isMisshapen 15 = .ok (.iload_n 1, 1) := by decide +kernel
theorem dX0_isMisshapen_16 : decode cX0_isMisshapen 16 = .ok (.ifCond .eq 20, 3) := by decide +kernel
theorem dX0_isMisshapen_19 : decode cX0_isMisshapen 19 = .ok (.iload_n 1, 1) := by decide +kernel
theorem dX0_isMisshapen_20 : decode cX0_isMisshapen 20 = .ok (.bipush 7, 2) := by decide +kernel
theorem dX0_isMisshapen_22 : decode cX0_isMisshapen 22 = .ok (.iand, 1) := by decide +kernel
theorem dX0_isMisshapen_23 : decode cX0_isMisshapen 23 = .ok (.ifCond .ne 13, 3) := by decide +kernel
theorem dX0_isMisshapen_26 : decode cX0_isMisshapen 26 = .ok (.aload_n 0, 1) := by decide +kernel
theorem dX0_isMisshapen_27 : decode cX0_isMisshapen 27 = .ok (.invokevirtual 63, 3) := by decide +kernel
theorem dX0_isMisshapen_30 : decode cX0_isMisshapen 30 = .ok (.sipush 1980, 3) := by decide +kernel
theorem dX0_isMisshapen_33 : decode cX0_isMisshapen 33 = .ok (.if_icmp .le 7, 3) := by decide +kernel
theorem dX0_isMisshapen_36 : decode cX0_isMisshapen 36 = .ok (.iconst 1, 1) := by decide +kernel
theorem dX0_isMisshapen_37 : decode cX0_isMisshapen 37 = .ok (.goto 4, 3) := by decide +kernel
theorem dX0_isMisshapen_40 : decode cX0_isMisshapen 40 = .ok (.iconst 0, 1) := by decide +kernel
theorem dX0_isMisshapen_41 : decode cX0_isMisshapen 41 = .ok (.ireturn, 1) := by decide +kernel
theorem dX0_isOf_0 : decode cX0_isOf 0 = .ok (.aload_n 0, 1) := by decide +kernel
theorem dX0_isOf_1 : decode cX0_isOf 1 = .ok (.getfield 36, 3) := by decide +kernel
theorem dX0_isOf_4 : decode cX0_isOf 4 = .ok (.aload_n 1, 1) := by decide +kernel
theorem dX0_isOf_5 : decode cX0_isOf 5 = .ok (.invokevirtual 32, 3) := by decide +kernel
theorem dX0_isOf_8 : decode cX0_isOf 8 = .ok (.if_icmp .ne 18, 3) := by decide +kernel
theorem dX0_isOf_11 : decode cX0_isOf 11 = .ok (.aload_n 0, 1) := by decide +kernel
theorem dX0_isOf_12 : decode cX0_isOf 12 = .ok (.getfield 42, 3) := by decide +kernel
theorem dX0_isOf_15 : decode cX0_isOf 15 = .ok (.aload_n 1, 1) := by decide +kernel
theorem dX0_isOf_16 : decode cX0_isOf 16 = .ok (.invokevirtual 39, 3) := by decide +kernel
theorem dX0_isOf_19 : decode cX0_isOf 19 = .ok (.if_icmp .ne 7, 3) := by decide +kernel
theorem dX0_isOf_22 : decode cX0_isOf 22 = .ok (.iconst 1, 1) := by decide +kernel
theorem dX0_isOf_23 : decode cX0_isOf 23 = .ok (.goto 4, 3) := by decide +kernel
theorem dX0_isOf_26 : decode cX0_isOf 26 = .ok (.iconst 0, 1) := by decide +kernel
theorem dX0_isOf_27 : decode cX0_isOf 27 = .ok (.ireturn, 1) := by decide +kernel
theorem dX0_isOver_0 : decode cX0_isOver 0 = .ok (.aload_n 0, 1) := by decide +kernel
theorem dX0_isOver_1 : decode cX0_isOver 1 = .ok (.dup, 1) := by decide +kernel
theorem dX0_isOver_2 : decode cX0_isOver 2 = .ok (.getfield 53, 3) := by decide +kernel
theorem dX0_isOver_5 : decode cX0_isOver 5 = .ok (.iconst 1, 1) := by decide +kernel
theorem dX0_isOver_6 : decode cX0_isOver 6 = .ok (.iadd, 1) := by decide +kernel
theorem dX0_isOver_7 : decode cX0_isOver 7 = .ok (.putfield 53, 3) := by decide +kernel
theorem dX0_isOver_10 : decode cX0_isOver 10 = .ok (.aload_n 0, 1) := by decide +kernel
theorem dX0_isOver_11 : decode cX0_isOver 11 = .ok (.getfield 53, 3) := by decide +kernel
theorem dX0_isOver_14 : decode cX0_isOver 14 = .ok (.bipush 8, 2) := by decide +kernel
theorem dX0_isOver_16 : decode cX0_isOver 16 = .ok (.if_icmp .lt 7, 3) := by decide +kernel
theorem dX0_isOver_19 : decode cX0_isOver 19 = .ok (.iconst 1, 1) := by decide +kernel
theorem dX0_isOver_20 : decode cX0_isOver 20 = .ok (.goto 4, 3) := by decide +kernel
theorem dX0_isOver_23 : decode cX0_isOver 23 = .ok (.iconst 0, 1) := by decide +kernel
theorem dX0_isOver_24 : decode cX0_isOver 24 = .ok (.ireturn, 1) := by decide +kernel
theorem dX0_isWhole_0 : decode cX0_isWhole 0 = .ok (.aload_n 0, 1) := by decide +kernel
theorem dX0_isWhole_1 : decode cX0_isWhole 1 = .ok (.getfield 44, 3) := by decide +kernel
theorem dX0_isWhole_4 : decode cX0_isWhole 4 = .ok (.aload_n 0, 1) := by decide +kernel
theorem dX0_isWhole_5 : decode cX0_isWhole 5 = .ok (.getfield 50, 3) := by decide +kernel
theorem dX0_isWhole_8 : decode cX0_isWhole 8 = .ok (.if_icmp .ne 7, 3) := by decide +kernel
theorem dX0_isWhole_11 : decode cX0_isWhole 11 = .ok (.iconst 1, 1) := by decide +kernel
theorem dX0_isWhole_12 : decode cX0_isWhole 12 = .ok (.goto 4, 3) := by decide +kernel
theorem dX0_isWhole_15 : decode cX0_isWhole 15 = .ok (.iconst 0, 1) := by decide +kernel
theorem dX0_isWhole_16 : decode cX0_isWhole 16 = .ok (.ireturn, 1) := by decide +kernel
theorem dX0_lay_0 : decode cX0_lay 0 = .ok (.aload_n 1, 1) := by decide +kernel
theorem dX0_lay_1 : decode cX0_lay 1 = .ok (.invokevirtual 65, 3) := by decide +kernel
theorem dX0_lay_4 : decode cX0_lay 4 = .ok (.istore_n 2, 1) := by decide +kernel
theorem dX0_lay_5 : decode cX0_lay 5 = .ok (.aload_n 1, 1) := by decide +kernel
theorem dX0_lay_6 : decode cX0_lay 6 = .ok (.invokevirtual 63, 3) := by decide +kernel
theorem dX0_lay_9 : decode cX0_lay 9 = .ok (.istore_n 3, 1) := by decide +kernel
theorem dX0_lay_10 : decode cX0_lay 10 = .ok (.aload_n 0, 1) := by decide +kernel
theorem dX0_lay_11 : decode cX0_lay 11 = .ok (.getfield 12, 3) := by decide +kernel
theorem dX0_lay_14 : decode cX0_lay 14 = .ok (.aload_n 1, 1) := by decide +kernel
theorem dX0_lay_15 : decode cX0_lay 15 = .ok (.bipush 20, 2) := by decide +kernel
theorem dX0_lay_17 : decode cX0_lay 17 = .ok (.bipush 20, 2) := by decide +kernel
theorem dX0_lay_19 : decode cX0_lay 19 = .ok (.iload_n 2, 1) := by decide +kernel
theorem dX0_lay_20 : decode cX0_lay 20 = .ok (.iadd, 1) := by decide +kernel
theorem dX0_lay_21 : decode cX0_lay 21 = .ok (.iload_n 3, 1) := by decide +kernel
theorem dX0_lay_22 : decode cX0_lay 22 = .ok (.iload_n 2, 1) := by decide +kernel
theorem dX0_lay_23 : decode cX0_lay 23 = .ok (.isub, 1) := by decide +kernel
theorem dX0_lay_24 : decode cX0_lay 24 = .ok (.invokevirtual 72, 3) := by decide +kernel
theorem dX0_lay_27 : decode cX0_lay 27 = .ok (.iload_n 2, 1) := by decide +kernel
theorem dX0_lay_28 : decode cX0_lay 28 = .ok (.ifCond .ne 15, 3) := by decide +kernel
theorem dX0_lay_31 : decode cX0_lay 31 = .ok (.aload_n 0, 1) := by decide +kernel
theorem dX0_lay_32 : decode cX0_lay 32 = .ok (.getfield 12, 3) := by decide +kernel
theorem dX0_lay_35 : decode cX0_lay 35 = .ok (.aload_n 1, 1) := by decide +kernel
theorem dX0_lay_36 : decode cX0_lay 36 = .ok (.iconst 0, 1) := by decide +kernel
theorem dX0_lay_37 : decode cX0_lay 37 = .ok (.iconst 0, 1) := by decide +kernel
theorem dX0_lay_38 : decode cX0_lay 38 = .ok (.bipush 20, 2) := by decide +kernel
theorem dX0_lay_40 : decode cX0_lay 40 = .ok (.invokevirtual 72, 3) := by decide +kernel
theorem dX0_lay_43 : decode cX0_lay 43 = .ok (.iload_n 2, 1) := by decide +kernel
theorem dX0_lay_44 : decode cX0_lay 44 = .ok (.istore 4, 2) := by decide +kernel
theorem dX0_lay_46 : decode cX0_lay 46 = .ok (.iload 4, 2) := by decide +kernel
theorem dX0_lay_48 : decode cX0_lay 48 = .ok (.iload_n 3, 1) := by decide +kernel
theorem dX0_lay_49 : decode cX0_lay 49 = .ok (.if_icmp .ge 30, 3) := by decide +kernel
theorem dX0_lay_52 : decode cX0_lay 52 = .ok (.iload 4, 2) := by decide +kernel
theorem dX0_lay_54 : decode cX0_lay 54 = .ok (.sipush 1980, 3) := by decide +kernel
theorem dX0_lay_57 : decode cX0_lay 57 = .ok (.if_icmp .ge 22, 3) := by decide +kernel
theorem dX0_lay_60 : decode cX0_lay 60 = .ok (.iload 4, 2) := by decide +kernel
theorem dX0_lay_62 : decode cX0_lay 62 = .ok (.ifCond .lt 11, 3) := by decide +kernel
theorem dX0_lay_65 : decode cX0_lay 65 = .ok (.aload_n 0, 1) := by decide +kernel
theorem dX0_lay_66 : decode cX0_lay 66 = .ok (.getfield 18, 3) := by decide +kernel
theorem dX0_lay_69 : decode cX0_lay 69 = .ok (.iload 4, 2) := by decide +kernel
theorem dX0_lay_71 : decode cX0_lay 71 = .ok (.iconst 1, 1) := by decide +kernel
theorem dX0_lay_72 : decode cX0_lay 72 = .ok (.bastore, 1) := by decide +kernel
theorem dX0_lay_73 : decode cX0_lay 73 = .ok (.iinc 4 1, 3) := by decide +kernel
theorem dX0_lay_76 : decode cX0_lay 76 = .ok (.goto (-30), 3) := by decide +kernel
theorem dX0_lay_79 : decode cX0_lay 79 = .ok (.aload_n 0, 1) := by decide +kernel
theorem dX0_lay_80 : decode cX0_lay 80 = .ok (.dup, 1) := by decide +kernel
theorem dX0_lay_81 : decode cX0_lay 81 = .ok (.getfield 44, 3) := by decide +kernel
theorem dX0_lay_84 : decode cX0_lay 84 = .ok (.iload_n 3, 1) := by decide +kernel
theorem dX0_lay_85 : decode cX0_lay 85 = .ok (.iload_n 2, 1) := by decide +kernel
theorem dX0_lay_86 : decode cX0_lay 86 = .ok (.isub, 1) := by decide +kernel
theorem dX0_lay_87 : decode cX0_lay 87 = .ok (.iadd, 1) := by decide +kernel
theorem dX0_lay_88 : decode cX0_lay 88 = .ok (.putfield 44, 3) := by decide +kernel
theorem dX0_lay_91 : decode cX0_lay 91 = .ok (.aload_n 0, 1) := by decide +kernel
theorem dX0_lay_92 : decode cX0_lay 92 = .ok (.aload_n 0, 1) := by decide +kernel
theorem dX0_lay_93 : decode cX0_lay 93 = .ok (.getfield 47, 3) := by decide +kernel
theorem dX0_lay_96 : decode cX0_lay 96 = .ok (.iload_n 3, 1) := by decide +kernel
theorem dX0_lay_97 : decode cX0_lay 97 = .ok (.invokestatic 76, 3) := by decide +kernel
theorem dX0_lay_100 : decode cX0_lay 100 = .ok (.putfield 47, 3) := by decide +kernel
theorem dX0_lay_103 : decode cX0_lay 103 = .ok (.aload_n 1, 1) := by decide +kernel
theorem dX0_lay_104 : decode cX0_lay 104 = .ok (.invokevirtual 59, 3) := by decide +kernel
theorem dX0_lay_107 : decode cX0_lay 107 = .ok (.ifCond .ne 8, 3) := by decide +kernel
theorem dX0_lay_110 : decode cX0_lay 110 = .ok (.aload_n 0, 1) := by decide +kernel
theorem dX0_lay_111 : decode cX0_lay 111 = .ok (.iload_n 3, 1) := by decide +kernel
theorem dX0_lay_112 : decode cX0_lay 112 = .ok (.putfield 50, 3) := by decide +kernel
theorem dX0_lay_115 : decode cX0_lay 115 = .ok (.return_, 1) := by decide +kernel
theorem dX0_refuses_0 : decode cX0_refuses 0 = .ok (.aload_n 1, 1) := by decide +kernel
theorem dX0_refuses_1 : decode cX0_refuses 1 = .ok (.invokevirtual 63, 3) := by decide +kernel
theorem dX0_refuses_4 : decode cX0_refuses 4 = .ok (.istore_n 2, 1) := by decide +kernel
theorem dX0_refuses_5 : decode cX0_refuses 5 = .ok (.aload_n 0, 1) := by decide +kernel
theorem dX0_refuses_6 : decode cX0_refuses 6 = .ok (.getfield 50, 3) := by decide +kernel
theorem dX0_refuses_9 : decode cX0_refuses 9 = .ok (.iconst (-1), 1) := by decide +kernel
theorem dX0_refuses_10 : decode cX0_refuses 10 = .ok (.if_icmp .eq 20, 3) := by decide +kernel
theorem dX0_refuses_13 : decode cX0_refuses 13 = .ok (.iload_n 2, 1) := by decide +kernel
theorem dX0_refuses_14 : decode cX0_refuses 14 = .ok (.aload_n 0, 1) := by decide +kernel
theorem dX0_refuses_15 : decode cX0_refuses 15 = .ok (.getfield 50, 3) := by decide +kernel
theorem dX0_refuses_18 : decode cX0_refuses 18 = .ok (.if_icmp .gt 10, 3) := by decide +kernel
theorem dX0_refuses_21 : decode cX0_refuses 21 = .ok (.aload_n 1, 1) := by decide +kernel
theorem dX0_refuses_22 : decode cX0_refuses 22 = .ok (.invokevirtual 59, 3) := by decide +kernel
theorem dX0_refuses_25 : decode cX0_refuses 25 = .ok (.ifCond .ne 5, 3) := by decide +kernel
theorem dX0_refuses_28 : decode cX0_refuses 28 = .ok (.iconst 1, 1) := by decide +kernel
theorem dX0_refuses_29 : decode cX0_refuses 29 = .ok (.ireturn, 1) := by decide +kernel
theorem dX0_refuses_30 : decode cX0_refuses 30 = .ok (.aload_n 1, 1) := by decide +kernel
theorem dX0_refuses_31 : decode cX0_refuses 31 = .ok (.invokevirtual 59, 3) := by decide +kernel
theorem dX0_refuses_34 : decode cX0_refuses 34 = .ok (.ifCond .ne 11, 3) := by decide +kernel
theorem dX0_refuses_37 : decode cX0_refuses 37 = .ok (.aload_n 0, 1) := by decide +kernel
theorem dX0_refuses_38 : decode cX0_refuses 38 = .ok (.getfield 47, 3) := by decide +kernel
theorem dX0_refuses_41 : decode cX0_refuses 41 = .ok (.iload_n 2, 1) := by decide +kernel
theorem dX0_refuses_42 : decode cX0_refuses 42 = .ok (.if_icmp .gt 15, 3) := by decide +kernel
theorem dX0_refuses_45 : decode cX0_refuses 45 = .ok (.aload_n 0, 1) := by decide +kernel
theorem dX0_refuses_46 : decode cX0_refuses 46 = .ok (.aload_n 1, 1) := by decide +kernel
theorem dX0_refuses_47 : decode cX0_refuses 47 = .ok (.invokevirtual 65, 3) := by decide +kernel
theorem dX0_refuses_50 : decode cX0_refuses 50 = .ok (.iload_n 2, 1) := by decide +kernel
theorem dX0_refuses_51 : decode cX0_refuses 51 = .ok (.invokevirtual 68, 3) := by decide +kernel
theorem dX0_refuses_54 : decode cX0_refuses 54 = .ok (.ifCond .eq 7, 3) := by decide +kernel
theorem dX0_refuses_57 : decode cX0_refuses 57 = .ok (.iconst 1, 1) := by decide +kernel
theorem dX0_refuses_58 : decode cX0_refuses 58 = .ok (.goto 4, 3) := by decide +kernel
theorem dX0_refuses_61 : decode cX0_refuses 61 = .ok (.iconst 0, 1) := by decide +kernel
theorem dX0_refuses_62 : decode cX0_refuses 62 = .ok (.ireturn, 1) := by decide +kernel
theorem dX0_writeWhole_0 : decode cX0_writeWhole 0 = .ok (.aload_n 1, 1) := by decide +kernel
theorem dX0_writeWhole_1 : decode cX0_writeWhole 1 = .ok (.aload_n 0, 1) := by decide +kernel
theorem dX0_writeWhole_2 : decode cX0_writeWhole 2 = .ok (.getfield 12, 3) := by decide +kernel
theorem dX0_writeWhole_5 : decode cX0_writeWhole 5 = .ok (.iconst 0, 1) := by decide +kernel
theorem dX0_writeWhole_6 : decode cX0_writeWhole 6 = .ok (.aload_n 0, 1) := by decide +kernel
theorem dX0_writeWhole_7 : decode cX0_writeWhole 7 = .ok (.getfield 50, 3) := by decide +kernel
theorem dX0_writeWhole_10 : decode cX0_writeWhole 10 = .ok (.invokevirtual 82, 3) := by decide +kernel
theorem dX0_writeWhole_13 : decode cX0_writeWhole 13 = .ok (.aload_n 1, 1) := by decide +kernel
theorem dX0_writeWhole_14 : decode cX0_writeWhole 14 = .ok (.invokevirtual 86, 3) := by decide +kernel
theorem dX0_writeWhole_17 : decode cX0_writeWhole 17 = .ok (.return_, 1) := by decide +kernel
theorem dX1_accept_0 : decode cX1_accept 0 = .ok (.aload_n 0, 1) := by decide +kernel
theorem dX1_accept_1 : decode cX1_accept 1 = .ok (.aload_n 1, 1) := by decide +kernel
theorem dX1_accept_2 : decode cX1_accept 2 = .ok (.invokevirtual 35, 3) := by decide +kernel
theorem dX1_accept_5 : decode cX1_accept 5 = .ok (.istore_n 2, 1) := by decide +kernel
theorem dX1_accept_6 : decode cX1_accept 6 = .ok (.aload_n 0, 1) := by decide +kernel
theorem dX1_accept_7 : decode cX1_accept 7 = .ok (.iload_n 2, 1) := by decide +kernel
theorem dX1_accept_8 : decode cX1_accept 8 = .ok (.invokevirtual 39, 3) := by decide +kernel
theorem dX1_accept_11 : decode cX1_accept 11 = .ok (.astore_n 3, 1) := by decide +kernel
theorem dX1_accept_12 : decode cX1_accept 12 = .ok (.aload_n 1, 1) := by decide +kernel
theorem dX1_accept_13 : decode cX1_accept 13 = .ok (.invokestatic 43, 3) := by decide +kernel
theorem dX1_accept_16 : decode cX1_accept 16 = .ok (.ifCond .ne 15, 3) := by decide +kernel
theorem dX1_accept_19 : decode cX1_accept 19 = .ok (.aload_n 3, 1) := by decide +kernel
theorem dX1_accept_20 : decode cX1_accept 20 = .ok (.ifnull 18, 3) := by decide +kernel
theorem dX1_accept_23 : decode cX1_accept 23 = .ok (.aload_n 3, 1) := by decide +kernel
theorem dX1_accept_24 : decode cX1_accept 24 = .ok (.aload_n 1, 1) := by decide +kernel
theorem dX1_accept_25 : decode cX1_accept 25 = .ok (.invokevirtual 47, 3) := by decide +kernel
theorem dX1_accept_28 : decode cX1_accept 28 = .ok (.ifCond .eq 10, 3) := by decide +kernel
theorem dX1_accept_31 : decode cX1_accept 31 = .ok (.aload_n 0, 1) := by decide +kernel
theorem dX1_accept_32 : decode cX1_accept 32 = .ok (.iload_n 2, 1) := by decide +kernel
theorem dX1_accept_33 : decode cX1_accept 33 = .ok (.invokevirtual 31, 3) := by decide +kernel
theorem dX1_accept_36 : decode cX1_accept 36 = .ok (.iconst 0, 1) := by decide +kernel
theorem dX1_accept_37 : decode cX1_accept 37 = .ok (.ireturn, 1) := by decide +kernel
theorem dX1_accept_38 : decode cX1_accept 38 = .ok (.aload_n 3, 1) := by decide +kernel
theorem dX1_accept_39 : decode cX1_accept 39 = .ok (.ifnonnull 9, 3) := by decide +kernel
theorem dX1_accept_42 : decode cX1_accept 42 = .ok (.aload_n 0, 1) := by decide +kernel
theorem dX1_accept_43 : decode cX1_accept 43 = .ok (.aload_n 1, 1) := by decide +kernel
theorem dX1_accept_44 : decode cX1_accept 44 = .ok (.invokevirtual 50, 3) := by decide +kernel
theorem dX1_accept_47 : decode cX1_accept 47 = .ok (.astore_n 3, 1) := by decide +kernel
theorem dX1_accept_48 : decode cX1_accept 48 = .ok (.aload_n 3, 1) := by decide +kernel
theorem dX1_accept_49 : decode cX1_accept 49 = .ok (.aload_n 1, 1) := by decide +kernel
theorem dX1_accept_50 : decode cX1_accept 50 = .ok (.invokevirtual 54, 3) := by decide +kernel
theorem dX1_accept_53 : decode cX1_accept 53 = .ok (.iconst 1, 1) := by decide +kernel
theorem dX1_accept_54 : decode cX1_accept 54 = .ok (.ireturn, 1) := by decide +kernel
theorem dX1_begin_0 : decode cX1_begin 0 = .ok (.aload_n 0, 1) := by decide +kernel
theorem dX1_begin_1 : decode cX1_begin 1 = .ok (.getfield 17, 3) := by decide +kernel
theorem dX1_begin_4 : decode cX1_begin 4 = .ok (.iconst 4, 1) := by decide +kernel
theorem dX1_begin_5 : decode cX1_begin 5 = .ok (.if_icmp .lt 8, 3) := by decide +kernel
theorem dX1_begin_8 : decode cX1_begin 8 = .ok (.aload_n 0, 1) := by decide +kernel
theorem dX1_begin_9 : decode cX1_begin 9 = .ok (.iconst 0, 1) := by decide +kernel
theorem dX1_begin_10 : decode cX1_begin 10 = .ok (.invokevirtual 31, 3) := by decide +kernel
theorem dX1_begin_13 : decode cX1_begin 13 = .ok (.aload_n 0, 1) := by decide +kernel
theorem dX1_begin_14 : decode cX1_begin 14 = .ok (.getfield 17, 3) := by decide +kernel
theorem dX1_begin_17 : decode cX1_begin 17 = .ok (.ifCond .lt 23, 3) := by decide +kernel
theorem dX1_begin_20 : decode cX1_begin 20 = .ok (.aload_n 0, 1) := by decide +kernel
theorem dX1_begin_21 : decode cX1_begin 21 = .ok (.getfield 17, 3) := by decide +kernel
theorem dX1_begin_24 : decode cX1_begin 24 = .ok (.iconst 4, 1) := by decide +kernel
theorem dX1_begin_25 : decode cX1_begin 25 = .ok (.if_icmp .ge 15, 3) := by decide +kernel
theorem dX1_begin_28 : decode cX1_begin 28 = .ok (.aload_n 0, 1) := by decide +kernel
theorem dX1_begin_29 : decode cX1_begin 29 = .ok (.getfield 13, 3) := by decide +kernel
theorem dX1_begin_32 : decode cX1_begin 32 = .ok (.aload_n 0, 1) := by decide +kernel
theorem dX1_begin_33 : decode cX1_begin 33 = .ok (.getfield 17, 3) := by decide +kernel
theorem dX1_begin_36 : decode cX1_begin 36 = .ok (.aaload, 1) := by decide +kernel
theorem dX1_begin_37 : decode cX1_begin 37 = .ok (.goto 4, 3) := by decide +kernel
theorem dX1_begin_40 : decode cX1_begin 40 = .ok (.aconst_null, 1) := by decide +kernel
theorem dX1_begin_41 : decode cX1_begin 41 = .ok (.astore_n 2, 1) := by decide +kernel
theorem dX1_begin_42 : decode cX1_begin 42 = .ok (.aload_n 2, 1) := by decide +kernel
theorem dX1_begin_43 : decode cX1_begin 43 = .ok (.ifnonnull 11, 3) := by decide +kernel
theorem dX1_begin_46 : decode cX1_begin 46 = .ok (.new 11, 3) := by decide +kernel
theorem dX1_begin_49 : decode cX1_begin 49 = .ok (.dup, 1) := by decide +kernel
theorem dX1_begin_50 : decode cX1_begin 50 = .ok (.invokespecial 67, 3) := by decide +kernel
theorem dX1_begin_53 : decode cX1_begin 53 = .ok (.astore_n 2, 1) := by decide +kernel
theorem dX1_begin_54 : decode cX1_begin 54 = .ok (.aload_n 0, 1) := by decide +kernel
theorem dX1_begin_55 : decode cX1_begin 55 = .ok (.getfield 17, 3) := by decide +kernel
theorem dX1_begin_58 : decode cX1_begin 58 = .ok (.ifCond .lt 31, 3) := by decide +kernel
theorem dX1_begin_61 : decode cX1_begin 61 = .ok (.aload_n 0, 1) := by decide +kernel
theorem dX1_begin_62 : decode cX1_begin 62 = .ok (.getfield 17, 3) := by decide +kernel
theorem dX1_begin_65 : decode cX1_begin 65 = .ok (.iconst 4, 1) := by decide +kernel
theorem dX1_begin_66 : decode cX1_begin 66 = .ok (.if_icmp .ge 23, 3) := by decide +kernel
theorem dX1_begin_69 : decode cX1_begin 69 = .ok (.aload_n 0, 1) := by decide +kernel
theorem dX1_begin_70 : decode cX1_begin 70 = .ok (.getfield 13, 3) := by decide +kernel
theorem dX1_begin_73 : decode cX1_begin 73 = .ok (.aload_n 0, 1) := by decide +kernel
theorem dX1_begin_74 : decode cX1_begin 74 = .ok (.getfield 17, 3) := by decide +kernel
theorem dX1_begin_77 : decode cX1_begin 77 = .ok (.aload_n 2, 1) := by decide +kernel
theorem dX1_begin_78 : decode cX1_begin 78 = .ok (.aastore, 1) := by decide +kernel
theorem dX1_begin_79 : decode cX1_begin 79 = .ok (.aload_n 0, 1) := by decide +kernel
theorem dX1_begin_80 : decode cX1_begin 80 = .ok (.dup, 1) := by decide +kernel
theorem dX1_begin_81 : decode cX1_begin 81 = .ok (.getfield 17, 3) := by decide +kernel
theorem dX1_begin_84 : decode cX1_begin 84 = .ok (.iconst 1, 1) := by decide +kernel
theorem dX1_begin_85 : decode cX1_begin 85 = .ok (.iadd, 1) := by decide +kernel
theorem dX1_begin_86 : decode cX1_begin 86 = .ok (.putfield 17, 3) := by decide +kernel
theorem dX1_begin_89 : decode cX1_begin 89 = .ok (.aload_n 2, 1) := by decide +kernel
theorem dX1_begin_90 : decode cX1_begin 90 = .ok (.aload_n 1, 1) := by decide +kernel
theorem dX1_begin_91 : decode cX1_begin 91 = .ok (.invokevirtual 68, 3) := by decide +kernel
theorem dX1_begin_94 : decode cX1_begin 94 = .ok (.aload_n 2, 1) := by decide +kernel
theorem dX1_begin_95 : decode cX1_begin 95 = .ok (.areturn, 1) := by decide +kernel
theorem dX1_drop_0 : decode cX1_drop 0 = .ok (.aload_n 0, 1) := by decide +kernel
theorem dX1_drop_1 : decode cX1_drop 1 = .ok (.iload_n 1, 1) := by decide +kernel
theorem dX1_drop_2 : decode cX1_drop 2 = .ok (.invokevirtual 39, 3) := by decide +kernel
theorem dX1_drop_5 : decode cX1_drop 5 = .ok (.astore_n 2, 1) := by decide +kernel
theorem dX1_drop_6 : decode cX1_drop 6 = .ok (.aload_n 2, 1) := by decide +kernel
theorem dX1_drop_7 : decode cX1_drop 7 = .ok (.ifnonnull 4, 3) := by decide +kernel
theorem dX1_drop_10 : decode cX1_drop 10 = .ok (.return_, 1) := by decide +kernel
theorem dX1_drop_11 : decode cX1_drop 11 = .ok (.iload_n 1, 1) := by decide +kernel
theorem dX1_drop_12 : decode cX1_drop 12 = .ok (.istore_n 3, 1) := by decide +kernel
theorem dX1_drop_13 : decode cX1_drop 13 = .ok (.iload_n 3, 1) := by decide +kernel
theorem dX1_drop_14 : decode cX1_drop 14 = .ok (.aload_n 0, 1) := by decide +kernel
theorem dX1_drop_15 : decode cX1_drop 15 = .ok (.getfield 17, 3) := by decide +kernel
theorem dX1_drop_18 : decode cX1_drop 18 = .ok (.iconst 1, 1) := by decide +kernel
theorem dX1_drop_19 : decode cX1_drop 19 = .ok (.isub, 1) := by decide +kernel
theorem dX1_drop_20 : decode cX1_drop 20 = .ok (.if_icmp .ge 28, 3) := by decide +kernel
theorem dX1_drop_23 : decode cX1_drop 23 = .ok (.iload_n 3, 1) := by decide +kernel
theorem dX1_drop_24 : decode cX1_drop 24 = .ok (.iconst 3, 1) := by decide +kernel
theorem dX1_drop_25 : decode cX1_drop 25 = .ok (.if_icmp .ge 23, 3) := by decide +kernel
theorem dX1_drop_28 : decode cX1_drop 28 = .ok (.aload_n 0, 1) := by decide +kernel
theorem dX1_drop_29 : decode cX1_drop 29 = .ok (.getfield 13, 3) := by decide +kernel
theorem dX1_drop_32 : decode cX1_drop 32 = .ok (.iload_n 3, 1) := by decide +kernel
theorem dX1_drop_33 : decode cX1_drop 33 = .ok (.aload_n 0, 1) := by decide +kernel
theorem dX1_drop_34 : decode cX1_drop 34 = .ok (.getfield 13, 3) := by decide +kernel
theorem dX1_drop_37 : decode cX1_drop 37 = .ok (.iload_n 3, 1) := by decide +kernel
theorem dX1_drop_38 : decode cX1_drop 38 = .ok (.iconst 1, 1) := by decide +kernel
theorem dX1_drop_39 : decode cX1_drop 39 = .ok (.iadd, 1) := by decide +kernel
theorem dX1_drop_40 : decode cX1_drop 40 = .ok (.aaload, 1) := by decide +kernel
theorem dX1_drop_41 : decode cX1_drop 41 = .ok (.aastore, 1) := by decide +kernel
theorem dX1_drop_42 : decode cX1_drop 42 = .ok (.iinc 3 1, 3) := by decide +kernel
theorem dX1_drop_45 : decode cX1_drop 45 = .ok (.goto (-32), 3) := by decide +kernel
theorem dX1_drop_48 : decode cX1_drop 48 = .ok (.aload_n 0, 1) := by decide +kernel
theorem dX1_drop_49 : decode cX1_drop 49 = .ok (.dup, 1) := by decide +kernel
theorem dX1_drop_50 : decode cX1_drop 50 = .ok (.getfield 17, 3) := by decide +kernel
theorem dX1_drop_53 : decode cX1_drop 53 = .ok (.iconst 1, 1) := by decide +kernel
theorem dX1_drop_54 : decode cX1_drop 54 = .ok (.isub, 1) := by decide +kernel
theorem dX1_drop_55 : decode cX1_drop 55 = .ok (.putfield 17, 3) := by decide +kernel
theorem dX1_drop_58 : decode cX1_drop 58 = .ok (.aload_n 0, 1) := by decide +kernel
theorem dX1_drop_59 : decode cX1_drop 59 = .ok (.getfield 17, 3) := by decide +kernel
theorem dX1_drop_62 : decode cX1_drop 62 = .ok (.ifCond .lt 21, 3) := by decide +kernel
theorem dX1_drop_65 : decode cX1_drop 65 = .ok (.aload_n 0, 1) := by decide +kernel
theorem dX1_drop_66 : decode cX1_drop 66 = .ok (.getfield 17, 3) := by decide +kernel
theorem dX1_drop_69 : decode cX1_drop 69 = .ok (.iconst 4, 1) := by decide +kernel
theorem dX1_drop_70 : decode cX1_drop 70 = .ok (.if_icmp .ge 13, 3) := by decide +kernel
theorem dX1_drop_73 : decode cX1_drop 73 = .ok (.aload_n 0, 1) := by decide +kernel
theorem dX1_drop_74 : decode cX1_drop 74 = .ok (.getfield 13, 3) := by decide +kernel
theorem dX1_drop_77 : decode cX1_drop 77 = .ok (.aload_n 0, 1) := by decide +kernel
theorem dX1_drop_78 : decode cX1_drop 78 = .ok (.getfield 17, 3) := by decide +kernel
theorem dX1_drop_81 : decode cX1_drop 81 = .ok (.aload_n 2, 1) := by decide +kernel
theorem dX1_drop_82 : decode cX1_drop 82 = .ok (.aastore, 1) := by decide +kernel
theorem dX1_drop_83 : decode cX1_drop 83 = .ok (.return_, 1) := by decide +kernel
theorem dX1_empty_0 : decode cX1_empty 0 = .ok (.aload_n 0, 1) := by decide +kernel
theorem dX1_empty_1 : decode cX1_empty 1 = .ok (.iconst 0, 1) := by decide +kernel
theorem dX1_empty_2 : decode cX1_empty 2 = .ok (.putfield 17, 3) := by decide +kernel
theorem dX1_empty_5 : decode cX1_empty 5 = .ok (.return_, 1) := by decide +kernel
theorem dX1_giveWhole_0 : decode cX1_giveWhole 0 = .ok (.aload_n 0, 1) := by decide +kernel
theorem dX1_giveWhole_1 : decode cX1_giveWhole 1 = .ok (.aload_n 1, 1) := by decide +kernel
theorem dX1_giveWhole_2 : decode cX1_giveWhole 2 = .ok (.invokevirtual 35, 3) := by decide +kernel
theorem dX1_giveWhole_5 : decode cX1_giveWhole 5 = .ok (.istore_n 2, 1) := by decide +kernel
theorem dX1_giveWhole_6 : decode cX1_giveWhole 6 = .ok (.aload_n 0, 1) := by decide +kernel
theorem dX1_giveWhole_7 : decode cX1_giveWhole 7 = .ok (.iload_n 2, 1) := by decide +kernel
theorem dX1_giveWhole_8 : decode cX1_giveWhole 8 = .ok (.invokevirtual 39, 3) := by decide +kernel
theorem dX1_giveWhole_11 : decode cX1_giveWhole 11 = .ok (.astore_n 3, 1) := by decide +kernel
theorem dX1_giveWhole_12 : decode cX1_giveWhole 12 = .ok (.aload_n 3, 1) := by decide +kernel
theorem dX1_giveWhole_13 : decode cX1_giveWhole 13 = .ok (.ifnull 10, 3) := by decide +kernel
theorem dX1_giveWhole_16 : decode cX1_giveWhole 16 = .ok (.aload_n 3, 1) := by decide +kernel
theorem dX1_giveWhole_17 : decode cX1_giveWhole 17 = .ok (.invokevirtual 58, 3) := by decide +kernel
theorem dX1_giveWhole_20 : decode cX1_giveWhole 20 = .ok (.ifCond .ne 5, 3) := by decide +kernel
theorem dX1_giveWhole_23 : decode cX1_giveWhole 23 = .ok (.iconst 0, 1) := by decide +kernel
theorem dX1_giveWhole_24 : decode cX1_giveWhole 24 = .ok (.ireturn, 1) := by decide +kernel
theorem dX1_giveWhole_25 : decode cX1_giveWhole 25 = .ok (.aload_n 3, 1) := by decide +kernel
theorem dX1_giveWhole_26 : decode cX1_giveWhole 26 = .ok (.aload_n 1, 1) := by decide +kernel
theorem dX1_giveWhole_27 : decode cX1_giveWhole 27 = .ok (.invokevirtual 61, 3) := by decide +kernel
theorem dX1_giveWhole_30 : decode cX1_giveWhole 30 = .ok (.aload_n 0, 1) := by decide +kernel
theorem dX1_giveWhole_31 : decode cX1_giveWhole 31 = .ok (.iload_n 2, 1) := by decide +kernel
theorem dX1_giveWhole_32 : decode cX1_giveWhole 32 = .ok (.invokevirtual 31, 3) := by decide +kernel
theorem dX1_giveWhole_35 : decode cX1_giveWhole 35 = .ok (.iconst 1, 1) := by decide +kernel
theorem dX1_giveWhole_36 : decode cX1_giveWhole 36 = .ok (.ireturn, 1) := by decide +kernel
theorem dX1_heapAt_0 : decode cX1_heapAt 0 = .ok (.iload_n 1, 1) := by decide +kernel
theorem dX1_heapAt_1 : decode cX1_heapAt 1 = .ok (.ifCond .lt 25, 3) := by decide +kernel
theorem dX1_heapAt_4 : decode cX1_heapAt 4 = .ok (.iload_n 1, 1) := by decide +kernel
theorem dX1_heapAt_5 : decode cX1_heapAt 5 = .ok (.aload_n 0, 1) := by decide +kernel
theorem dX1_heapAt_6 : decode cX1_heapAt 6 = .ok (.getfield 17, 3) := by decide +kernel
theorem dX1_heapAt_9 : decode cX1_heapAt 9 = .ok (.if_icmp .ge 17, 3) := by decide +kernel
theorem dX1_heapAt_12 : decode cX1_heapAt 12 = .ok (.iload_n 1, 1) := by decide +kernel
theorem dX1_heapAt_13 : decode cX1_heapAt 13 = .ok (.iconst 4, 1) := by decide +kernel
theorem dX1_heapAt_14 : decode cX1_heapAt 14 = .ok (.if_icmp .ge 12, 3) := by decide +kernel
theorem dX1_heapAt_17 : decode cX1_heapAt 17 = .ok (.aload_n 0, 1) := by decide +kernel
theorem dX1_heapAt_18 : decode cX1_heapAt 18 = .ok (.getfield 13, 3) := by decide +kernel
theorem dX1_heapAt_21 : decode cX1_heapAt 21 = .ok (.iload_n 1, 1) := by decide +kernel
theorem dX1_heapAt_22 : decode cX1_heapAt 22 = .ok (.aaload, 1) := by decide +kernel
theorem dX1_heapAt_23 : decode cX1_heapAt 23 = .ok (.goto 4, 3) := by decide +kernel
theorem dX1_heapAt_26 : decode cX1_heapAt 26 = .ok (.aconst_null, 1) := by decide +kernel
theorem dX1_heapAt_27 : decode cX1_heapAt 27 = .ok (.areturn, 1) := by decide +kernel
theorem dX1_hearTick_0 : decode cX1_hearTick 0 = .ok (.iconst 0, 1) := by decide +kernel
theorem dX1_hearTick_1 : decode cX1_hearTick 1 = .ok (.istore_n 1, 1) := by decide +kernel
theorem dX1_hearTick_2 : decode cX1_hearTick 2 = .ok (.aload_n 0, 1) := by decide +kernel
theorem dX1_hearTick_3 : decode cX1_hearTick 3 = .ok (.getfield 17, 3) := by decide +kernel
theorem dX1_hearTick_6 : decode cX1_hearTick 6 = .ok (.iconst 4, 1) := by decide +kernel
theorem dX1_hearTick_7 : decode cX1_hearTick 7 = .ok (.invokestatic 21, 3) := by decide +kernel
theorem dX1_hearTick_10 : decode cX1_hearTick 10 = .ok (.iconst 1, 1) := by decide +kernel
theorem dX1_hearTick_11 : decode cX1_hearTick 11 = .ok (.isub, 1) := by decide +kernel
theorem dX1_hearTick_12 : decode cX1_hearTick 12 = .ok (.istore_n 2, 1) := by decide +kernel
theorem dX1_hearTick_13 : decode cX1_hearTick 13 = .ok (.iload_n 2, 1) := by decide +kernel
theorem dX1_hearTick_14 : decode cX1_hearTick 14 = .ok (.ifCond .lt 35, 3) := by decide +kernel
theorem dX1_hearTick_17 : decode cX1_hearTick 17 = .ok (.aload_n 0, 1) := by decide +kernel
theorem dX1_hearTick_18 : decode cX1_hearTick 18 = .ok (.getfield 13, 3) := by decide +kernel
theorem dX1_hearTick_21 : decode cX1_hearTick 21 = .ok (.iload_n 2, 1) := by decide +kernel
theorem dX1_hearTick_22 : decode cX1_hearTick 22 = .ok (.aaload, 1) := by decide +kernel
theorem dX1_hearTick_23 : decode cX1_hearTick 23 = .ok (.astore_n 3, 1) := by decide +kernel
theorem dX1_hearTick_24 : decode cX1_hearTick 24 = .ok (.aload_n 3, 1) := by decide +kernel
theorem dX1_hearTick_25 : decode cX1_hearTick 25 = .ok (.ifnull 18, 3) := by decide +kernel
theorem dX1_hearTick_28 : decode cX1_hearTick 28 = .ok (.aload_n 3, 1) := by decide +kernel
theorem dX1_hearTick_29 : decode cX1_hearTick 29 = .ok (.invokevirtual 27, 3) := by decide +kernel
theorem dX1_hearTick_32 : decode cX1_hearTick 32 = .ok (.ifCond .eq 11, 3) := by decide +kernel
theorem dX1_hearTick_35 : decode cX1_hearTick 35 = .ok (.aload_n 0, 1) := by decide +kernel
theorem dX1_hearTick_36 : decode cX1_hearTick 36 = .ok (.iload_n 2, 1) := by decide +kernel
theorem dX1_hearTick_37 : decode cX1_hearTick 37 = .ok (.invokevirtual 31, 3) := by decide +kernel
theorem dX1_hearTick_40 : decode cX1_hearTick 40 = .ok (.iinc 1 1, 3) := by decide +kernel
theorem dX1_hearTick_43 : decode cX1_hearTick 43 = .ok (.iinc 2 (-1), 3) := by decide +kernel
theorem dX1_hearTick_46 : decode cX1_hearTick 46 = .ok (.goto (-33), 3) := by decide +kernel
theorem dX1_hearTick_49 : decode cX1_hearTick 49 = .ok (.iload_n 1, 1) := by decide +kernel
theorem dX1_hearTick_50 : decode cX1_hearTick 50 = .ok (.ireturn, 1) := by decide +kernel
theorem dX1_placeOf_0 : decode cX1_placeOf 0 = .ok (.iconst 0, 1) := by decide +kernel
theorem dX1_placeOf_1 : decode cX1_placeOf 1 = .ok (.istore_n 2, 1) := by decide +kernel
theorem dX1_placeOf_2 : decode cX1_placeOf 2 = .ok (.iload_n 2, 1) := by decide +kernel
theorem dX1_placeOf_3 : decode cX1_placeOf 3 = .ok (.aload_n 0, 1) := by decide +kernel
theorem dX1_placeOf_4 : decode cX1_placeOf 4 = .ok (.getfield 17, 3) := by decide +kernel
theorem dX1_placeOf_7 : decode cX1_placeOf 7 = .ok (.if_icmp .ge 35, 3) := by decide +kernel
theorem dX1_placeOf_10 : decode cX1_placeOf 10 = .ok (.iload_n 2, 1) := by decide +kernel
theorem dX1_placeOf_11 : decode cX1_placeOf 11 = .ok (.iconst 4, 1) := by decide +kernel
theorem dX1_placeOf_12 : decode cX1_placeOf 12 = .ok (.if_icmp .ge 30, 3) := by decide +kernel
theorem dX1_placeOf_15 : decode cX1_placeOf 15 = .ok (.aload_n 0, 1) := by decide +kernel
theorem dX1_placeOf_16 : decode cX1_placeOf 16 = .ok (.getfield 13, 3) := by decide +kernel
theorem dX1_placeOf_19 : decode cX1_placeOf 19 = .ok (.iload_n 2, 1) := by decide +kernel
theorem dX1_placeOf_20 : decode cX1_placeOf 20 = .ok (.aaload, 1) := by decide +kernel
theorem dX1_placeOf_21 : decode cX1_placeOf 21 = .ok (.astore_n 3, 1) := by decide +kernel
theorem dX1_placeOf_22 : decode cX1_placeOf 22 = .ok (.aload_n 3, 1) := by decide +kernel
theorem dX1_placeOf_23 : decode cX1_placeOf 23 = .ok (.ifnull 13, 3) := by decide +kernel
theorem dX1_placeOf_26 : decode cX1_placeOf 26 = .ok (.aload_n 3, 1) := by decide +kernel
theorem dX1_placeOf_27 : decode cX1_placeOf 27 = .ok (.aload_n 1, 1) := by decide +kernel
theorem dX1_placeOf_28 : decode cX1_placeOf 28 = .ok (.invokevirtual 64, 3) := by decide +kernel
theorem dX1_placeOf_31 : decode cX1_placeOf 31 = .ok (.ifCond .eq 5, 3) := by decide +kernel
theorem dX1_placeOf_34 : decode cX1_placeOf 34 = .ok (.iload_n 2, 1) := by decide +kernel
theorem dX1_placeOf_35 : decode cX1_placeOf 35 = .ok (.ireturn, 1) := by decide +kernel
theorem dX1_placeOf_36 : decode cX1_placeOf 36 = .ok (.iinc 2 1, 3) := by decide +kernel
theorem dX1_placeOf_39 : decode cX1_placeOf 39 = .ok (.goto (-37), 3) := by decide +kernel
theorem dX1_placeOf_42 : decode cX1_placeOf 42 = .ok (.iconst (-1), 1) := by decide +kernel
theorem dX1_placeOf_43 : decode cX1_placeOf 43 = .ok (.ireturn, 1) := by decide +kernel
theorem dX1_size_0 : decode cX1_size 0 = .ok (.aload_n 0, 1) := by decide +kernel
theorem dX1_size_1 : decode cX1_size 1 = .ok (.getfield 17, 3) := by decide +kernel
theorem dX1_size_4 : decode cX1_size 4 = .ok (.ireturn, 1) := by decide +kernel
theorem dX2_cell_0 : decode cX2_cell 0 = .ok (.iload_n 1, 1) := by decide +kernel
theorem dX2_cell_1 : decode cX2_cell 1 = .ok (.ifCond .lt 30, 3) := by decide +kernel
theorem dX2_cell_4 : decode cX2_cell 4 = .ok (.iload_n 1, 1) := by decide +kernel
theorem dX2_cell_5 : decode cX2_cell 5 = .ok (.aload_n 0, 1) := by decide +kernel
theorem dX2_cell_6 : decode cX2_cell 6 = .ok (.getfield 13, 3) := by decide +kernel
theorem dX2_cell_9 : decode cX2_cell 9 = .ok (.if_icmp .ge 22, 3) := by decide +kernel
theorem dX2_cell_12 : decode cX2_cell 12 = .ok (.iload_n 1, 1) := by decide +kernel
theorem dX2_cell_13 : decode cX2_cell 13 = .ok (.bipush 16, 2) := by decide +kernel
theorem dX2_cell_15 : decode cX2_cell 15 = .ok (.if_icmp .ge 16, 3) := by decide +kernel
theorem dX2_cell_18 : decode cX2_cell 18 = .ok (.iload_n 2, 1) := by decide +kernel
theorem dX2_cell_19 : decode cX2_cell 19 = .ok (.ifCond .lt 12, 3) := by decide +kernel
theorem dX2_cell_22 : decode cX2_cell 22 = .ok (.iload_n 2, 1) := by decide +kernel
theorem dX2_cell_23 : decode cX2_cell 23 = .ok (.iconst 5, 1) := by decide +kernel
theorem dX2_cell_24 : decode cX2_cell 24 = .ok (.if_icmp .ge 7, 3) := by decide +kernel
theorem dX2_cell_27 : decode cX2_cell 27 = .ok (.iconst 1, 1) := by decide +kernel
theorem dX2_cell_28 : decode cX2_cell 28 = .ok (.goto 4, 3) := by decide +kernel
theorem dX2_cell_31 : decode cX2_cell 31 = .ok (.iconst 0, 1) := by decide +kernel
theorem dX2_cell_32 : decode cX2_cell 32 = .ok (.istore_n 3, 1) := by decide +kernel
theorem dX2_cell_33 : decode cX2_cell 33 = .ok (.iload_n 3, 1) := by decide +kernel
theorem dX2_cell_34 : decode cX2_cell 34 = .ok (.ifCond .eq 16, 3) := by decide +kernel
theorem dX2_cell_37 : decode cX2_cell 37 = .ok (.aload_n 0, 1) := by decide +kernel
theorem dX2_cell_38 : decode cX2_cell 38 = .ok (.getfield 9, 3) := by decide +kernel
theorem dX2_cell_41 : decode cX2_cell 41 = .ok (.iload_n 1, 1) := by decide +kernel
theorem dX2_cell_42 : decode cX2_cell 42 = .ok (.iconst 5, 1) := by decide +kernel
theorem dX2_cell_43 : decode cX2_cell 43 = .ok (.imul, 1) := by decide +kernel
theorem dX2_cell_44 : decode cX2_cell 44 = .ok (.iload_n 2, 1) := by decide +kernel
theorem dX2_cell_45 : decode cX2_cell 45 = .ok (.iadd, 1) := by decide +kernel
theorem dX2_cell_46 : decode cX2_cell 46 = .ok (.iaload, 1) := by decide +kernel
theorem dX2_cell_47 : decode cX2_cell 47 = .ok (.goto 4, 3) := by decide +kernel
theorem dX2_cell_50 : decode cX2_cell 50 = .ok (.iconst 0, 1) := by decide +kernel
theorem dX2_cell_51 : decode cX2_cell 51 = .ok (.ireturn, 1) := by decide +kernel
theorem dX2_empty_0 : decode cX2_empty 0 = .ok (.aload_n 0, 1) := by decide +kernel
theorem dX2_empty_1 : decode cX2_empty 1 = .ok (.iconst 0, 1) := by decide +kernel
theorem dX2_empty_2 : decode cX2_empty 2 = .ok (.putfield 13, 3) := by decide +kernel
theorem dX2_empty_5 : decode cX2_empty 5 = .ok (.return_, 1) := by decide +kernel
theorem dX2_note_0 : decode cX2_note 0 = .ok (.bipush 79, 2) := by decide +kernel
theorem dX2_note_2 : decode cX2_note 2 = .ok (.istore 5, 2) := by decide +kernel
theorem dX2_note_4 : decode cX2_note 4 = .ok (.iload 5, 2) := by decide +kernel
theorem dX2_note_6 : decode cX2_note 6 = .ok (.iconst 5, 1) := by decide +kernel
theorem dX2_note_7 : decode cX2_note 7 = .ok (.if_icmp .lt 25, 3) := by decide +kernel
theorem dX2_note_10 : decode cX2_note 10 = .ok (.aload_n 0, 1) := by decide +kernel
theorem dX2_note_11 : decode cX2_note 11 = .ok (.getfield 9, 3) := by decide +kernel
theorem dX2_note_14 : decode cX2_note 14 = .ok (.iload 5, 2) := by decide +kernel
theorem dX2_note_16 : decode cX2_note 16 = .ok (.aload_n 0, 1) := by decide +kernel
theorem dX2_note_17 : decode cX2_note 17 = .ok (.getfield 9, 3) := by decide +kernel
theorem dX2_note_20 : decode cX2_note 20 = .ok (.iload 5, 2) := by decide +kernel
theorem dX2_note_22 : decode cX2_note 22 = .ok (.iconst 5, 1) := by decide +kernel
theorem dX2_note_23 : decode cX2_note 23 = .ok (.isub, 1) := by decide +kernel
theorem dX2_note_24 : decode cX2_note 24 = .ok (.iaload, 1) := by decide +kernel
theorem dX2_note_25 : decode cX2_note 25 = .ok (.iastore, 1) := by decide +kernel
theorem dX2_note_26 : decode cX2_note 26 = .ok (.iinc 5 (-1), 3) := by decide +kernel
theorem dX2_note_29 : decode cX2_note 29 = .ok (.goto (-25), 3) := by decide +kernel
theorem dX2_note_32 : decode cX2_note 32 = .ok (.aload_n 0, 1) := by decide +kernel
theorem dX2_note_33 : decode cX2_note 33 = .ok (.getfield 9, 3) := by decide +kernel
theorem dX2_note_36 : decode cX2_note 36 = .ok (.iconst 0, 1) := by decide +kernel
theorem dX2_note_37 : decode cX2_note 37 = .ok (.iload_n 1, 1) := by decide +kernel
theorem dX2_note_38 : decode cX2_note 38 = .ok (.iastore, 1) := by decide +kernel
theorem dX2_note_39 : decode cX2_note 39 = .ok (.aload_n 0, 1) := by decide +kernel
theorem dX2_note_40 : decode cX2_note 40 = .ok (.getfield 9, 3) := by decide +kernel
theorem dX2_note_43 : decode cX2_note 43 = .ok (.iconst 1, 1) := by decide +kernel
theorem dX2_note_44 : decode cX2_note 44 = .ok (.aload_n 2, 1) := by decide +kernel
theorem dX2_note_45 : decode cX2_note 45 = .ok (.invokevirtual 17, 3) := by decide +kernel
theorem dX2_note_48 : decode cX2_note 48 = .ok (.iastore, 1) := by decide +kernel
theorem dX2_note_49 : decode cX2_note 49 = .ok (.aload_n 0, 1) := by decide +kernel
theorem dX2_note_50 : decode cX2_note 50 = .ok (.getfield 9, 3) := by decide +kernel
theorem dX2_note_53 : decode cX2_note 53 = .ok (.iconst 2, 1) := by decide +kernel
theorem dX2_note_54 : decode cX2_note 54 = .ok (.aload_n 2, 1) := by decide +kernel
theorem dX2_note_55 : decode cX2_note 55 = .ok (.invokevirtual 23, 3) := by decide +kernel
theorem dX2_note_58 : decode cX2_note 58 = .ok (.iastore, 1) := by decide +kernel
theorem dX2_note_59 : decode cX2_note 59 = .ok (.aload_n 0, 1) := by decide +kernel
theorem dX2_note_60 : decode cX2_note 60 = .ok (.getfield 9, 3) := by decide +kernel
theorem dX2_note_63 : decode cX2_note 63 = .ok (.iconst 3, 1) := by decide +kernel
theorem dX2_note_64 : decode cX2_note 64 = .ok (.iload_n 3, 1) := by decide +kernel
theorem dX2_note_65 : decode cX2_note 65 = .ok (.iastore, 1) := by decide +kernel
theorem dX2_note_66 : decode cX2_note 66 = .ok (.aload_n 0, 1) := by decide +kernel
theorem dX2_note_67 : decode cX2_note 67 = .ok (.getfield 9, 3) := by decide +kernel
theorem dX2_note_70 : decode cX2_note 70 = .ok (.iconst 4, 1) := by decide +kernel
theorem dX2_note_71 : decode cX2_note 71 = .ok (.iload 4, 2) := by decide +kernel
theorem dX2_note_73 : decode cX2_note 73 = .ok (.iastore, 1) := by decide +kernel
theorem dX2_note_74 : decode cX2_note 74 = .ok (.aload_n 0, 1) := by decide +kernel
theorem dX2_note_75 : decode cX2_note 75 = .ok (.aload_n 0, 1) := by decide +kernel
theorem dX2_note_76 : decode cX2_note 76 = .ok (.getfield 13, 3) := by decide +kernel
theorem dX2_note_79 : decode cX2_note 79 = .ok (.iconst 1, 1) := by decide +kernel
theorem dX2_note_80 : decode cX2_note 80 = .ok (.iadd, 1) := by decide +kernel
theorem dX2_note_81 : decode cX2_note 81 = .ok (.bipush 16, 2) := by decide +kernel
theorem dX2_note_83 : decode cX2_note 83 = .ok (.invokestatic 26, 3) := by decide +kernel
theorem dX2_note_86 : decode cX2_note 86 = .ok (.putfield 13, 3) := by decide +kernel
theorem dX2_note_89 : decode cX2_note 89 = .ok (.return_, 1) := by decide +kernel
theorem dX2_size_0 : decode cX2_size 0 = .ok (.aload_n 0, 1) := by decide +kernel
theorem dX2_size_1 : decode cX2_size 1 = .ok (.getfield 13, 3) := by decide +kernel
theorem dX2_size_4 : decode cX2_size 4 = .ok (.ireturn, 1) := by decide +kernel
theorem dX3_has_0 : decode cX3_has 0 = .ok (.aload_n 0, 1) := by decide +kernel
theorem dX3_has_1 : decode cX3_has 1 = .ok (.getfield 13, 3) := by decide +kernel
theorem dX3_has_4 : decode cX3_has 4 = .ok (.ifCond .eq 20, 3) := by decide +kernel
theorem dX3_has_7 : decode cX3_has 7 = .ok (.aload_n 0, 1) := by decide +kernel
theorem dX3_has_8 : decode cX3_has 8 = .ok (.getfield 7, 3) := by decide +kernel
theorem dX3_has_11 : decode cX3_has 11 = .ok (.iload_n 1, 1) := by decide +kernel
theorem dX3_has_12 : decode cX3_has 12 = .ok (.ixor, 1) := by decide +kernel
theorem dX3_has_13 : decode cX3_has 13 = .ok (.bipush 32, 2) := by decide +kernel
theorem dX3_has_15 : decode cX3_has 15 = .ok (.aload_n 0, 1) := by decide +kernel
theorem dX3_has_16 : decode cX3_has 16 = .ok (.getfield 13, 3) := by decide +kernel
theorem dX3_has_19 : decode cX3_has 19 = .ok (.isub, 1) := by decide +kernel
theorem dX3_has_20 : decode cX3_has 20 = .ok (.iushr, 1) := by decide +kernel
theorem dX3_has_21 : decode cX3_has 21 = .ok (.ifCond .ne 7, 3) := by decide +kernel
theorem dX3_has_24 : decode cX3_has 24 = .ok (.iconst 1, 1) := by decide +kernel
theorem dX3_has_25 : decode cX3_has 25 = .ok (.goto 4, 3) := by decide +kernel
theorem dX3_has_28 : decode cX3_has 28 = .ok (.iconst 0, 1) := by decide +kernel
theorem dX3_has_29 : decode cX3_has 29 = .ok (.ireturn, 1) := by decide +kernel
theorem dX3_init_0 : decode cX3_init 0 = .ok (.aload_n 0, 1) := by decide +kernel
theorem dX3_init_1 : decode cX3_init 1 = .ok (.invokespecial 1, 3) := by decide +kernel
theorem dX3_init_4 : decode cX3_init 4 = .ok (.aload_n 0, 1) := by decide +kernel
theorem dX3_init_5 : decode cX3_init 5 = .ok (.iload_n 1, 1) := by decide +kernel
theorem dX3_init_6 : decode cX3_init 6 = .ok (.putfield 7, 3) := by decide +kernel
theorem dX3_init_9 : decode cX3_init 9 = .ok (.aload_n 0, 1) := by decide +kernel
theorem dX3_init_10 : decode cX3_init 10 = .ok (.iload_n 2, 1) := by decide +kernel
theorem dX3_init_11 : decode cX3_init 11 = .ok (.putfield 13, 3) := by decide +kernel
theorem dX3_init_14 : decode cX3_init 14 = .ok (.return_, 1) := by decide +kernel
theorem dX3_width_0 : decode cX3_width 0 = .ok (.aload_n 0, 1) := by decide +kernel
theorem dX3_width_1 : decode cX3_width 1 = .ok (.getfield 13, 3) := by decide +kernel
theorem dX3_width_4 : decode cX3_width 4 = .ok (.ireturn, 1) := by decide +kernel
theorem dX4_addHead_0 : decode cX4_addHead 0 = .ok (.iconst 0, 1) := by decide +kernel
theorem dX4_addHead_1 : decode cX4_addHead 1 = .ok (.istore_n 1, 1) := by decide +kernel
theorem dX4_addHead_2 : decode cX4_addHead 2 = .ok (.iconst 0, 1) := by decide +kernel
theorem dX4_addHead_3 : decode cX4_addHead 3 = .ok (.istore_n 2, 1) := by decide +kernel
theorem dX4_addHead_4 : decode cX4_addHead 4 = .ok (.iload_n 2, 1) := by decide +kernel
theorem dX4_addHead_5 : decode cX4_addHead 5 = .ok (.bipush 20, 2) := by decide +kernel
theorem dX4_addHead_7 : decode cX4_addHead 7 = .ok (.if_icmp .ge 17, 3) := by decide +kernel
theorem dX4_addHead_10 : decode cX4_addHead 10 = .ok (.iload_n 1, 1) := by decide +kernel
theorem dX4_addHead_11 : decode cX4_addHead 11 = .ok (.aload_n 0, 1) := by decide +kernel
theorem dX4_addHead_12 : decode cX4_addHead 12 = .ok (.iload_n 2, 1) := by decide +kernel
theorem dX4_addHead_13 : decode cX4_addHead 13 = .ok (.invokevirtual 52, 3) := by decide +kernel
theorem dX4_addHead_16 : decode cX4_addHead 16 = .ok (.iadd, 1) := by decide +kernel
theorem dX4_addHead_17 : decode cX4_addHead 17 = .ok (.istore_n 1, 1) := by decide +kernel
theorem dX4_addHead_18 : decode cX4_addHead 18 = .ok (.iinc 2 2, 3) := by decide +kernel
theorem dX4_addHead_21 : decode cX4_addHead 21 = .ok (.goto (-17), 3) := by decide +kernel
theorem dX4_addHead_24 : decode cX4_addHead 24 = .ok (.iload_n 1, 1) := by decide +kernel
theorem dX4_addHead_25 : decode cX4_addHead 25 = .ok (.ldc 72, 2) := by decide +kernel
theorem dX4_addHead_27 : decode cX4_addHead 27 = .ok (.iand, 1) := by decide +kernel
theorem dX4_addHead_28 : decode cX4_addHead 28 = .ok (.iload_n 1, 1) := by decide +kernel
theorem dX4_addHead_29 : decode cX4_addHead 29 = .ok (.bipush 16, 2) := by decide +kernel
theorem dX4_addHead_31 : decode cX4_addHead 31 = .ok (.iushr, 1) := by decide +kernel
theorem dX4_addHead_32 : decode cX4_addHead 32 = .ok (.iadd, 1) := by decide +kernel
theorem dX4_addHead_33 : decode cX4_addHead 33 = .ok (.istore_n 1, 1) := by decide +kernel
theorem dX4_addHead_34 : decode cX4_addHead 34 = .ok (.iload_n 1, 1) := by decide +kernel
theorem dX4_addHead_35 : decode cX4_addHead 35 = .ok (.ldc 72, 2) := by decide +kernel
theorem dX4_addHead_37 : decode cX4_addHead 37 = .ok (.iand, 1) := by decide +kernel
theorem dX4_addHead_38 : decode cX4_addHead 38 = .ok (.iload_n 1, 1) := by decide +kernel
theorem dX4_addHead_39 : decode cX4_addHead 39 = .ok (.bipush 16, 2) := by decide +kernel
theorem dX4_addHead_41 : decode cX4_addHead 41 = .ok (.iushr, 1) := by decide +kernel
theorem dX4_addHead_42 : decode cX4_addHead 42 = .ok (.iadd, 1) := by decide +kernel
theorem dX4_addHead_43 : decode cX4_addHead 43 = .ok (.ireturn, 1) := by decide +kernel
theorem dX4_becomePart_0 : decode cX4_becomePart 0 = .ok (.aload_n 0, 1) := by decide +kernel
theorem dX4_becomePart_1 : decode cX4_becomePart 1 = .ok (.bipush 20, 2) := by decide +kernel
theorem dX4_becomePart_3 : decode cX4_becomePart 3 = .ok (.iload_n 3, 1) := by decide +kernel
theorem dX4_becomePart_4 : decode cX4_becomePart 4 = .ok (.iadd, 1) := by decide +kernel
theorem dX4_becomePart_5 : decode cX4_becomePart 5 = .ok (.invokevirtual 38, 3) := by decide +kernel
theorem dX4_becomePart_8 : decode cX4_becomePart 8 = .ok (.aload_n 0, 1) := by decide +kernel
theorem dX4_becomePart_9 : decode cX4_becomePart 9 = .ok (.aload_n 1, 1) := by decide +kernel
theorem dX4_becomePart_10 : decode cX4_becomePart 10 = .ok (.iconst 0, 1) := by decide +kernel
theorem dX4_becomePart_11 : decode cX4_becomePart 11 = .ok (.iconst 0, 1) := by decide +kernel
theorem dX4_becomePart_12 : decode cX4_becomePart 12 = .ok (.bipush 20, 2) := by decide +kernel
theorem dX4_becomePart_14 : decode cX4_becomePart 14 = .ok (.invokevirtual 42, 3) := by decide +kernel
theorem dX4_becomePart_17 : decode cX4_becomePart 17 = .ok (.aload_n 0, 1) := by decide +kernel
theorem dX4_becomePart_18 : decode cX4_becomePart 18 = .ok (.aload_n 1, 1) := by decide +kernel
theorem dX4_becomePart_19 : decode cX4_becomePart 19 = .ok (.bipush 20, 2) := by decide +kernel
theorem dX4_becomePart_21 : decode cX4_becomePart 21 = .ok (.iload_n 2, 1) := by decide +kernel
theorem dX4_becomePart_22 : decode cX4_becomePart 22 = .ok (.iadd, 1) := by decide +kernel
theorem dX4_becomePart_23 : decode cX4_becomePart 23 = .ok (.bipush 20, 2) := by decide +kernel
theorem dX4_becomePart_25 : decode cX4_becomePart 25 = .ok (.iload_n 3, 1) := by decide +kernel
theorem dX4_becomePart_26 : decode cX4_becomePart 26 = .ok (.invokevirtual 42, 3) := by decide +kernel
theorem dX4_becomePart_29 : decode cX4_becomePart 29 = .ok (.aload_n 0, 1) := by decide +kernel
theorem dX4_becomePart_30 : decode cX4_becomePart 30 = .ok (.iconst 2, 1) := by decide +kernel
theorem dX4_becomePart_31 : decode cX4_becomePart 31 = .ok (.aload_n 0, 1) := by decide +kernel
theorem dX4_becomePart_32 : decode cX4_becomePart 32 = .ok (.getfield 15, 3) := by decide +kernel
theorem dX4_becomePart_35 : decode cX4_becomePart 35 = .ok (.invokevirtual 31, 3) := by decide +kernel
theorem dX4_becomePart_38 : decode cX4_becomePart 38 = .ok (.return_, 1) := by decide +kernel
theorem dX4_byteAt_0 : decode cX4_byteAt 0 = .ok (.iload_n 1, 1) := by decide +kernel
theorem dX4_byteAt_1 : decode cX4_byteAt 1 = .ok (.ifCond .lt 24, 3) := by decide +kernel
theorem dX4_byteAt_4 : decode cX4_byteAt 4 = .ok (.iload_n 1, 1) := by decide +kernel
theorem dX4_byteAt_5 : decode cX4_byteAt 5 = .ok (.aload_n 0, 1) := by decide +kernel
theorem dX4_byteAt_6 : decode cX4_byteAt 6 = .ok (.getfield 15, 3) := by decide +kernel
theorem dX4_byteAt_9 : decode cX4_byteAt 9 = .ok (.if_icmp .ge 16, 3) := by decide +kernel
theorem dX4_byteAt_12 : decode cX4_byteAt 12 = .ok (.aload_n 0, 1) := by decide +kernel
theorem dX4_byteAt_13 : decode cX4_byteAt 13 = .ok (.getfield 11, 3) := by decide +kernel
theorem dX4_byteAt_16 : decode cX4_byteAt 16 = .ok (.iload_n 1, 1) := by decide +kernel
theorem dX4_byteAt_17 : decode cX4_byteAt 17 = .ok (.baload, 1) := by decide +kernel
theorem dX4_byteAt_18 : decode cX4_byteAt 18 = .ok (.sipush 255, 3) := by decide +kernel
theorem dX4_byteAt_21 : decode cX4_byteAt 21 = .ok (.iand, 1) := by decide +kernel
theorem dX4_byteAt_22 : decode cX4_byteAt 22 = .ok (.goto 4, 3) := by decide +kernel
theorem dX4_byteAt_25 : decode cX4_byteAt 25 = .ok (.iconst 0, 1) := by decide +kernel
theorem dX4_byteAt_26 : decode cX4_byteAt 26 = .ok (.ireturn, 1) := by decide +kernel
theorem dX4_copy_0 : decode cX4_copy 0 = .ok (.aload_n 0, 1) := by decide +kernel
theorem dX4_copy_1 : decode cX4_copy 1 = .ok (.aload_n 1, 1) := by decide +kernel
theorem dX4_copy_2 : decode cX4_copy 2 = .ok (.getfield 15, 3) := by decide +kernel
theorem dX4_copy_5 : decode cX4_copy 5 = .ok (.invokevirtual 38, 3) := by decide +kernel
theorem dX4_copy_8 : decode cX4_copy 8 = .ok (.aload_n 0, 1) := by decide +kernel
theorem dX4_copy_9 : decode cX4_copy 9 = .ok (.aload_n 1, 1) := by decide +kernel
theorem dX4_copy_10 : decode cX4_copy 10 = .ok (.iconst 0, 1) := by decide +kernel
theorem dX4_copy_11 : decode cX4_copy 11 = .ok (.iconst 0, 1) := by decide +kernel
theorem dX4_copy_12 : decode cX4_copy 12 = .ok (.aload_n 1, 1) := by decide +kernel
theorem dX4_copy_13 : decode cX4_copy 13 = .ok (.getfield 15, 3) := by decide +kernel
theorem dX4_copy_16 : decode cX4_copy 16 = .ok (.invokevirtual 42, 3) := by decide +kernel
theorem dX4_copy_19 : decode cX4_copy 19 = .ok (.return_, 1) := by decide +kernel
theorem dX4_copyBytes_0 : decode cX4_copyBytes 0 = .ok (.iload 4, 2) := by decide +kernel
theorem dX4_copyBytes_2 : decode cX4_copyBytes 2 = .ok (.ifCond .le 48, 3) := by decide +kernel
theorem dX4_copyBytes_5 : decode cX4_copyBytes 5 = .ok (.iload_n 2, 1) := by decide +kernel
theorem dX4_copyBytes_6 : decode cX4_copyBytes 6 = .ok (.ifCond .lt 44, 3) := by decide +kernel
theorem dX4_copyBytes_9 : decode cX4_copyBytes 9 = .ok (.iload_n 3, 1) := by decide +kernel
theorem dX4_copyBytes_10 : decode cX4_copyBytes 10 = .ok (.ifCond .lt 40, 3) := by decide +kernel
theorem dX4_copyBytes_13 : decode cX4_copyBytes 13 = .ok (.iload_n 2, 1) := by decide +kernel
theorem dX4_copyBytes_14 : decode cX4_copyBytes 14 = .ok (.aload_n 1, 1) := by decide +kernel
theorem dX4_copyBytes_15 : decode cX4_copyBytes 15 = .ok (.getfield 15, 3) := by decide +kernel
theorem dX4_copyBytes_18 : decode cX4_copyBytes 18 = .ok (.iload 4, 2) := by decide +kernel
theorem dX4_copyBytes_20 : decode cX4_copyBytes 20 = .ok (.isub, 1) := by decide +kernel
theorem dX4_copyBytes_21 : decode cX4_copyBytes 21 = .ok (.if_icmp .gt 29, 3) := by decide +kernel
theorem dX4_copyBytes_24 : decode cX4_copyBytes 24 = .ok (.iload_n 3, 1) := by decide +kernel
theorem dX4_copyBytes_25 : decode cX4_copyBytes 25 = .ok (.aload_n 0, 1) := by decide +kernel
theorem dX4_copyBytes_26 : decode cX4_copyBytes 26 = .ok (.getfield 15, 3) := by decide +kernel
theorem dX4_copyBytes_29 : decode cX4_copyBytes 29 = .ok (.iload 4, 2) := by decide +kernel
theorem dX4_copyBytes_31 : decode cX4_copyBytes 31 = .ok (.isub, 1) := by decide +kernel
theorem dX4_copyBytes_32 : decode cX4_copyBytes 32 = .ok (.if_icmp .gt 18, 3) := by decide +kernel
theorem dX4_copyBytes_35 : decode cX4_copyBytes 35 = .ok (.aload_n 1, 1) := by decide +kernel
theorem dX4_copyBytes_36 : decode cX4_copyBytes 36 = .ok (.getfield 11, 3) := by decide +kernel
theorem dX4_copyBytes_39 : decode cX4_copyBytes 39 = .ok (.iload_n 2, 1) := by decide +kernel
theorem dX4_copyBytes_40 : decode cX4_copyBytes 40 = .ok (.aload_n 0, 1) := by decide +kernel
theorem dX4_copyBytes_41 : decode cX4_copyBytes 41 = .ok (.getfield 11, 3) := by decide +kernel
theorem dX4_copyBytes_44 : decode cX4_copyBytes 44 = .ok (.iload_n 3, 1) := by decide +kernel
theorem dX4_copyBytes_45 : decode cX4_copyBytes 45 = .ok (.iload 4, 2) := by decide +kernel
theorem dX4_copyBytes_47 : decode cX4_copyBytes 47 = .ok (.invokestatic 46, 3) := by decide +kernel
theorem dX4_copyBytes_50 : decode cX4_copyBytes 50 = .ok (.return_, 1) := by decide +kernel
theorem dX4_countsUp_0 : decode cX4_countsUp 0 = .ok (.iconst 0, 1) := by decide +kernel
theorem dX4_countsUp_1 : decode cX4_countsUp 1 = .ok (.istore_n 3, 1) := by decide +kernel
theorem dX4_countsUp_2 : decode cX4_countsUp 2 = .ok (.iload_n 3, 1) := by decide +kernel
theorem dX4_countsUp_3 : decode cX4_countsUp 3 = .ok (.iload_n 2, 1) := by decide +kernel
theorem dX4_countsUp_4 : decode cX4_countsUp 4 = .ok (.if_icmp .ge 24, 3) := by decide +kernel
theorem dX4_countsUp_7 : decode cX4_countsUp 7 = .ok (.aload_n 0, 1) := by decide +kernel
theorem dX4_countsUp_8 : decode cX4_countsUp 8 = .ok (.iload_n 1, 1) := by decide +kernel
theorem dX4_countsUp_9 : decode cX4_countsUp 9 = .ok (.iload_n 3, 1) := by decide +kernel
theorem dX4_countsUp_10 : decode cX4_countsUp 10 = .ok (.iadd, 1) := by decide +kernel
theorem dX4_countsUp_11 : decode cX4_countsUp 11 = .ok (.invokevirtual 55, 3) := by decide +kernel
theorem dX4_countsUp_14 : decode cX4_countsUp 14 = .ok (.iload_n 3, 1) := by decide +kernel
theorem dX4_countsUp_15 : decode cX4_countsUp 15 = .ok (.iconst 1, 1) := by decide +kernel
theorem dX4_countsUp_16 : decode cX4_countsUp 16 = .ok (.iadd, 1) := by decide +kernel
theorem dX4_countsUp_17 : decode cX4_countsUp 17 = .ok (.if_icmp .eq 5, 3) := by decide +kernel
theorem dX4_countsUp_20 : decode cX4_countsUp 20 = .ok (.iconst 0, 1) := by decide +kernel
theorem dX4_countsUp_21 : decode cX4_countsUp 21 = .ok (.ireturn, 1) := by decide +kernel
theorem dX4_countsUp_22 : decode cX4_countsUp 22 = .ok (.iinc 3 1, 3) := by decide +kernel
theorem dX4_countsUp_25 : decode cX4_countsUp 25 = .ok (.goto (-23), 3) := by decide +kernel
theorem dX4_countsUp_28 : decode cX4_countsUp 28 = .ok (.iconst 1, 1) := by decide +kernel
theorem dX4_countsUp_29 : decode cX4_countsUp 29 = .ok (.ireturn, 1) := by decide +kernel
theorem dX4_cutToLength_0 : decode cX4_cutToLength 0 = .ok (.aload_n 0, 1) := by decide +kernel
theorem dX4_cutToLength_1 : decode cX4_cutToLength 1 = .ok (.aload_n 0, 1) := by decide +kernel
theorem dX4_cutToLength_2 : decode cX4_cutToLength 2 = .ok (.invokevirtual 66, 3) := by decide +kernel
theorem dX4_cutToLength_5 : decode cX4_cutToLength 5 = .ok (.aload_n 0, 1) := by decide +kernel
theorem dX4_cutToLength_6 : decode cX4_cutToLength 6 = .ok (.getfield 15, 3) := by decide +kernel
theorem dX4_cutToLength_9 : decode cX4_cutToLength 9 = .ok (.invokestatic 19, 3) := by decide +kernel
theorem dX4_cutToLength_12 : decode cX4_cutToLength 12 = .ok (.invokevirtual 38, 3) := by decide +kernel
theorem dX4_cutToLength_15 : decode cX4_cutToLength 15 = .ok (.return_, 1) := by decide +kernel
theorem dX4_door_0 : decode cX4_door 0 = .ok (.aload_n 0, 1) := by decide +kernel
theorem dX4_door_1 : decode cX4_door 1 = .ok (.invokevirtual 58, 3) := by decide +kernel
theorem dX4_door_4 : decode cX4_door 4 = .ok (.bipush 6, 2) := by decide +kernel
theorem dX4_door_6 : decode cX4_door 6 = .ok (.if_icmp .eq 12, 3) := by decide +kernel
theorem dX4_door_9 : decode cX4_door 9 = .ok (.aload_n 0, 1) := by decide +kernel
theorem dX4_door_10 : decode cX4_door 10 = .ok (.invokevirtual 58, 3) := by decide +kernel
theorem dX4_door_13 : decode cX4_door 13 = .ok (.bipush 17, 2) := by decide +kernel
theorem dX4_door_15 : decode cX4_door 15 = .ok (.if_icmp .ne 7, 3) := by decide +kernel
theorem dX4_door_18 : decode cX4_door 18 = .ok (.iconst 1, 1) := by decide +kernel
theorem dX4_door_19 : decode cX4_door 19 = .ok (.goto 4, 3) := by decide +kernel
theorem dX4_door_22 : decode cX4_door 22 = .ok (.iconst 0, 1) := by decide +kernel
theorem dX4_door_23 : decode cX4_door 23 = .ok (.istore_n 1, 1) := by decide +kernel
theorem dX4_door_24 : decode cX4_door 24 = .ok (.iload_n 1, 1) := by decide +kernel
theorem dX4_door_25 : decode cX4_door 25 = .ok (.ifCond .eq 28, 3) := by decide +kernel
theorem dX4_door_28 : decode cX4_door 28 = .ok (.aload_n 0, 1) := by decide +kernel
theorem dX4_door_29 : decode cX4_door 29 = .ok (.invokevirtual 62, 3) := by decide +kernel
theorem dX4_door_32 : decode cX4_door 32 = .ok (.ifCond .ne 21, 3) := by decide +kernel
theorem dX4_door_35 : decode cX4_door 35 = .ok (.aload_n 0, 1) := by decide +kernel
theorem dX4_door_36 : decode cX4_door 36 = .ok (.getfield 15, 3) := by decide +kernel
theorem dX4_door_39 : decode cX4_door 39 = .ok (.bipush 24, 2) := by decide +kernel
theorem dX4_door_41 : decode cX4_door 41 = .ok (.if_icmp .lt 12, 3) := by decide +kernel
theorem dX4_door_44 : decode cX4_door 44 = .ok (.aload_n 0, 1) := by decide +kernel
theorem dX4_door_45 : decode cX4_door 45 = .ok (.bipush 22, 2) := by decide +kernel
theorem dX4_door_47 : decode cX4_door 47 = .ok (.invokevirtual 52, 3) := by decide +kernel
theorem dX4_door_50 : decode cX4_door 50 = .ok (.goto 4, 3) := by decide +kernel
theorem dX4_door_53 : decode cX4_door 53 = .ok (.iconst (-1), 1) := by decide +kernel
theorem dX4_door_54 : decode cX4_door 54 = .ok (.ireturn, 1) := by decide +kernel
theorem dX4_end_0 : decode cX4_end 0 = .ok (.bipush 8, 2) := by decide +kernel
theorem dX4_end_2 : decode cX4_end 2 = .ok (.aload_n 0, 1) := by decide +kernel
theorem dX4_end_3 : decode cX4_end 3 = .ok (.bipush 6, 2) := by decide +kernel
theorem dX4_end_5 : decode cX4_end 5 = .ok (.invokevirtual 52, 3) := by decide +kernel
theorem dX4_end_8 : decode cX4_end 8 = .ok (.sipush 8191, 3) := by decide +kernel
theorem dX4_end_11 : decode cX4_end 11 = .ok (.iand, 1) := by decide +kernel
theorem dX4_end_12 : decode cX4_end 12 = .ok (.imul, 1) := by decide +kernel
theorem dX4_end_13 : decode cX4_end 13 = .ok (.aload_n 0, 1) := by decide +kernel
theorem dX4_end_14 : decode cX4_end 14 = .ok (.getfield 15, 3) := by decide +kernel
theorem dX4_end_17 : decode cX4_end 17 = .ok (.iadd, 1) := by decide +kernel
theorem dX4_end_18 : decode cX4_end 18 = .ok (.bipush 20, 2) := by decide +kernel
theorem dX4_end_20 : decode cX4_end 20 = .ok (.isub, 1) := by decide +kernel
theorem dX4_end_21 : decode cX4_end 21 = .ok (.ireturn, 1) := by decide +kernel
theorem dX4_from_0 : decode cX4_from 0 = .ok (.aload_n 0, 1) := by decide +kernel
theorem dX4_from_1 : decode cX4_from 1 = .ok (.bipush 12, 2) := by decide +kernel
theorem dX4_from_3 : decode cX4_from 3 = .ok (.invokevirtual 25, 3) := by decide +kernel
theorem dX4_from_6 : decode cX4_from 6 = .ok (.ireturn, 1) := by decide +kernel
theorem dX4_hasMore_0 : decode cX4_hasMore 0 = .ok (.aload_n 0, 1) := by decide +kernel
theorem dX4_hasMore_1 : decode cX4_hasMore 1 = .ok (.bipush 6, 2) := by decide +kernel
theorem dX4_hasMore_3 : decode cX4_hasMore 3 = .ok (.invokevirtual 52, 3) := by decide +kernel
theorem dX4_hasMore_6 : decode cX4_hasMore 6 = .ok (.sipush 8192, 3) := by decide +kernel
theorem dX4_hasMore_9 : decode cX4_hasMore 9 = .ok (.iand, 1) := by decide +kernel
theorem dX4_hasMore_10 : decode cX4_hasMore 10 = .ok (.ifCond .eq 7, 3) := by decide +kernel
theorem dX4_hasMore_13 : decode cX4_hasMore 13 = .ok (.iconst 1, 1) := by decide +kernel
theorem dX4_hasMore_14 : decode cX4_hasMore 14 = .ok (.goto 4, 3) := by decide +kernel
theorem dX4_hasMore_17 : decode cX4_hasMore 17 = .ok (.iconst 0, 1) := by decide +kernel
theorem dX4_hasMore_18 : decode cX4_hasMore 18 = .ok (.ireturn, 1) := by decide +kernel
theorem dX4_hops_0 : decode cX4_hops 0 = .ok (.aload_n 0, 1) := by decide +kernel
theorem dX4_hops_1 : decode cX4_hops 1 = .ok (.bipush 8, 2) := by decide +kernel
theorem dX4_hops_3 : decode cX4_hops 3 = .ok (.invokevirtual 55, 3) := by decide +kernel
theorem dX4_hops_6 : decode cX4_hops 6 = .ok (.ireturn, 1) := by decide +kernel
theorem dX4_init_0 : decode cX4_init 0 = .ok (.aload_n 0, 1) := by decide +kernel
theorem dX4_init_1 : decode cX4_init 1 = .ok (.invokespecial 3, 3) := by decide +kernel
theorem dX4_init_4 : decode cX4_init 4 = .ok (.aload_n 0, 1) := by decide +kernel
theorem dX4_init_5 : decode cX4_init 5 = .ok (.sipush 2040, 3) := by decide +kernel
theorem dX4_init_8 : decode cX4_init 8 = .ok (.newarray .byte, 2) := by decide +kernel
theorem dX4_init_10 : decode cX4_init 10 = .ok (.putfield 11, 3) := by decide +kernel
theorem dX4_init_13 : decode cX4_init 13 = .ok (.return_, 1) := by decide +kernel
theorem dX4_isBroken_0 : decode cX4_isBroken 0 = .ok (.aload_n 0, 1) := by decide +kernel
theorem dX4_isBroken_1 : decode cX4_isBroken 1 = .ok (.getfield 15, 3) := by decide +kernel
theorem dX4_isBroken_4 : decode cX4_isBroken 4 = .ok (.bipush 20, 2) := by decide +kernel
theorem dX4_isBroken_6 : decode cX4_isBroken 6 = .ok (.if_icmp .lt 13, 3) := by decide +kernel
theorem dX4_isBroken_9 : decode cX4_isBroken 9 = .ok (.aload_n 0, 1) := by decide +kernel
theorem dX4_isBroken_10 : decode cX4_isBroken 10 = .ok (.iconst 0, 1) := by decide +kernel
theorem dX4_isBroken_11 : decode cX4_isBroken 11 = .ok (.invokevirtual 55, 3) := by decide +kernel
theorem dX4_isBroken_14 : decode cX4_isBroken 14 = .ok (.bipush 69, 2) := by decide +kernel
theorem dX4_isBroken_16 : decode cX4_isBroken 16 = .ok (.if_icmp .eq 5, 3) := by decide +kernel
theorem dX4_isBroken_19 : decode cX4_isBroken 19 = .ok (.iconst 1, 1) := by decide +kernel
theorem dX4_isBroken_20 : decode cX4_isBroken 20 = .ok (.ireturn, 1) := by decide +kernel
theorem dX4_isBroken_21 : decode cX4_isBroken 21 = .ok (.aload_n 0, 1) := by decide +kernel
theorem dX4_isBroken_22 : decode cX4_isBroken 22 = .ok (.invokevirtual 66, 3) := by decide +kernel
theorem dX4_isBroken_25 : decode cX4_isBroken 25 = .ok (.bipush 20, 2) := by decide +kernel
theorem dX4_isBroken_27 : decode cX4_isBroken 27 = .ok (.if_icmp .lt 23, 3) := by decide +kernel
theorem dX4_isBroken_30 : decode cX4_isBroken 30 = .ok (.aload_n 0, 1) := by decide +kernel
theorem dX4_isBroken_31 : decode cX4_isBroken 31 = .ok (.invokevirtual 66, 3) := by decide +kernel
theorem dX4_isBroken_34 : decode cX4_isBroken 34 = .ok (.aload_n 0, 1) := by decide +kernel
theorem dX4_isBroken_35 : decode cX4_isBroken 35 = .ok (.getfield 15, 3) := by decide +kernel
theorem dX4_isBroken_38 : decode cX4_isBroken 38 = .ok (.if_icmp .gt 12, 3) := by decide +kernel
theorem dX4_isBroken_41 : decode cX4_isBroken 41 = .ok (.aload_n 0, 1) := by decide +kernel
theorem dX4_isBroken_42 : decode cX4_isBroken 42 = .ok (.invokevirtual 69, 3) := by decide +kernel
theorem dX4_isBroken_45 : decode cX4_isBroken 45 = .ok (.ldc 72, 2) := by decide +kernel
theorem dX4_isBroken_47 : decode cX4_isBroken 47 = .ok (.if_icmp .eq 7, 3) := by decide +kernel
theorem dX4_isBroken_50 : decode cX4_isBroken 50 = .ok (.iconst 1, 1) := by decide +kernel
theorem dX4_isBroken_51 : decode cX4_isBroken 51 = .ok (.goto 4, 3) := by decide +kernel
theorem dX4_isBroken_54 : decode cX4_isBroken 54 = .ok (.iconst 0, 1) := by decide +kernel
theorem dX4_isBroken_55 : decode cX4_isBroken 55 = .ok (.ireturn, 1) := by decide +kernel
theorem dX4_isPart_0 : decode cX4_isPart 0 = .ok (.aload_n 0, 1) := by decide +kernel
theorem dX4_isPart_1 : decode cX4_isPart 1 = .ok (.bipush 6, 2) := by decide +kernel
theorem dX4_isPart_3 : decode cX4_isPart 3 = .ok (.invokevirtual 52, 3) := by decide +kernel
theorem dX4_isPart_6 : decode cX4_isPart 6 = .ok (.sipush 16383, 3) := by decide +kernel
theorem dX4_isPart_9 : decode cX4_isPart 9 = .ok (.iand, 1) := by decide +kernel
theorem dX4_isPart_10 : decode cX4_isPart 10 = .ok (.ifCond .eq 7, 3) := by decide +kernel
theorem dX4_isPart_13 : decode cX4_isPart 13 = .ok (.iconst 1, 1) := by decide +kernel
theorem dX4_isPart_14 : decode cX4_isPart 14 = .ok (.goto 4, 3) := by decide +kernel
theorem dX4_isPart_17 : decode cX4_isPart 17 = .ok (.iconst 0, 1) := by decide +kernel
theorem dX4_isPart_18 : decode cX4_isPart 18 = .ok (.ireturn, 1) := by decide +kernel
theorem dX4_isTooMuch_0 : decode cX4_isTooMuch 0 = .ok (.aload_n 0, 1) := by decide +kernel
theorem dX4_isTooMuch_1 : decode cX4_isTooMuch 1 = .ok (.getfield 15, 3) := by decide +kernel
theorem dX4_isTooMuch_4 : decode cX4_isTooMuch 4 = .ok (.sipush 1500, 3) := by decide +kernel
theorem dX4_isTooMuch_7 : decode cX4_isTooMuch 7 = .ok (.if_icmp .le 20, 3) := by decide +kernel
theorem dX4_isTooMuch_10 : decode cX4_isTooMuch 10 = .ok (.aload_n 0, 1) := by decide +kernel
theorem dX4_isTooMuch_11 : decode cX4_isTooMuch 11 = .ok (.bipush 6, 2) := by decide +kernel
theorem dX4_isTooMuch_13 : decode cX4_isTooMuch 13 = .ok (.invokevirtual 52, 3) := by decide +kernel
theorem dX4_isTooMuch_16 : decode cX4_isTooMuch 16 = .ok (.sipush 16384, 3) := by decide +kernel
theorem dX4_isTooMuch_19 : decode cX4_isTooMuch 19 = .ok (.iand, 1) := by decide +kernel
theorem dX4_isTooMuch_20 : decode cX4_isTooMuch 20 = .ok (.ifCond .eq 7, 3) := by decide +kernel
theorem dX4_isTooMuch_23 : decode cX4_isTooMuch 23 = .ok (.iconst 1, 1) := by decide +kernel
theorem dX4_isTooMuch_24 : decode cX4_isTooMuch 24 = .ok (.goto 4, 3) := by decide +kernel
theorem dX4_isTooMuch_27 : decode cX4_isTooMuch 27 = .ok (.iconst 0, 1) := by decide +kernel
theorem dX4_isTooMuch_28 : decode cX4_isTooMuch 28 = .ok (.ireturn, 1) := by decide +kernel
theorem dX4_kind_0 : decode cX4_kind 0 = .ok (.aload_n 0, 1) := by decide +kernel
theorem dX4_kind_1 : decode cX4_kind 1 = .ok (.bipush 9, 2) := by decide +kernel
theorem dX4_kind_3 : decode cX4_kind 3 = .ok (.invokevirtual 55, 3) := by decide +kernel
theorem dX4_kind_6 : decode cX4_kind 6 = .ok (.ireturn, 1) := by decide +kernel
theorem dX4_length_0 : decode cX4_length 0 = .ok (.aload_n 0, 1) := by decide +kernel
theorem dX4_length_1 : decode cX4_length 1 = .ok (.iconst 2, 1) := by decide +kernel
theorem dX4_length_2 : decode cX4_length 2 = .ok (.invokevirtual 52, 3) := by decide +kernel
theorem dX4_length_5 : decode cX4_length 5 = .ok (.ireturn, 1) := by decide +kernel
theorem dX4_longAt_0 : decode cX4_longAt 0 = .ok (.aload_n 0, 1) := by decide +kernel
theorem dX4_longAt_1 : decode cX4_longAt 1 = .ok (.iload_n 1, 1) := by decide +kernel
theorem dX4_longAt_2 : decode cX4_longAt 2 = .ok (.invokevirtual 25, 3) := by decide +kernel
theorem dX4_longAt_5 : decode cX4_longAt 5 = .ok (.i2l, 1) := by decide +kernel
theorem dX4_longAt_6 : decode cX4_longAt 6 = .ok (.bipush 32, 2) := by decide +kernel
theorem dX4_longAt_8 : decode cX4_longAt 8 = .ok (.lshl, 1) := by decide +kernel
theorem dX4_longAt_9 : decode cX4_longAt 9 = .ok (.aload_n 0, 1) := by decide +kernel
theorem dX4_longAt_10 : decode cX4_longAt 10 = .ok (.iload_n 1, 1) := by decide +kernel
theorem dX4_longAt_11 : decode cX4_longAt 11 = .ok (.iconst 4, 1) := by decide +kernel
theorem dX4_longAt_12 : decode cX4_longAt 12 = .ok (.iadd, 1) := by decide +kernel
theorem dX4_longAt_13 : decode cX4_longAt 13 = .ok (.invokevirtual 25, 3) := by decide +kernel
theorem dX4_longAt_16 : decode cX4_longAt 16 = .ok (.i2l, 1) := by decide +kernel
theorem dX4_longAt_17 : decode cX4_longAt 17 = .ok (.ldc2_w 29, 3) := by decide +kernel
theorem dX4_longAt_20 : decode cX4_longAt 20 = .ok (.land, 1) := by decide +kernel
theorem dX4_longAt_21 : decode cX4_longAt 21 = .ok (.lor, 1) := by decide +kernel
theorem dX4_longAt_22 : decode cX4_longAt 22 = .ok (.lreturn, 1) := by decide +kernel
theorem dX4_loseHop_0 : decode cX4_loseHop 0 = .ok (.aload_n 0, 1) := by decide +kernel
theorem dX4_loseHop_1 : decode cX4_loseHop 1 = .ok (.bipush 8, 2) := by decide +kernel
theorem dX4_loseHop_3 : decode cX4_loseHop 3 = .ok (.aload_n 0, 1) := by decide +kernel
theorem dX4_loseHop_4 : decode cX4_loseHop 4 = .ok (.invokevirtual 73, 3) := by decide +kernel
theorem dX4_loseHop_7 : decode cX4_loseHop 7 = .ok (.iconst 1, 1) := by decide +kernel
theorem dX4_loseHop_8 : decode cX4_loseHop 8 = .ok (.isub, 1) := by decide +kernel
theorem dX4_loseHop_9 : decode cX4_loseHop 9 = .ok (.invokevirtual 76, 3) := by decide +kernel
