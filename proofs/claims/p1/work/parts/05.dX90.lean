theorem dX9_at_0 : decode cX9_at 0 = .ok (.iload_n 1, 1) := by decide +kernel
theorem dX9_at_1 : decode cX9_at 1 = .ok (.ifCond .lt 14, 3) := by decide +kernel
theorem dX9_at_4 : decode cX9_at 4 = .ok (.iload_n 1, 1) := by decide +kernel
theorem dX9_at_5 : decode cX9_at 5 = .ok (.aload_n 0, 1) := by decide +kernel
theorem dX9_at_6 : decode cX9_at 6 = .ok (.getfield 10, 3) := by decide +kernel
theorem dX9_at_9 : decode cX9_at 9 = .ok (.invokevirtual 76, 3) := by decide +kernel
theorem dX9_at_12 : decode cX9_at 12 = .ok (.if_icmp .lt 13, 3) := by decide +kernel
theorem dX9_at_15 : decode cX9_at 15 = .ok (.new 114, 3) := by decide +kernel
theorem dX9_at_18 : decode cX9_at 18 = .ok (.dup, 1) := by decide +kernel
theorem dX9_at_19 : decode cX9_at 19 = .ok (.ldc 116, 2) := by decide +kernel
theorem dX9_at_21 : decode cX9_at 21 = .ok (.invokespecial 118, 3) := by decide +kernel
theorem dX9_at_24 : decode cX9_at 24 = .ok (.athrow, 1) := by decide +kernel
theorem dX9_clear_0 : decode cX9_clear 0 = .ok (.aload_n 0, 1) := by decide +kernel
theorem dX9_clear_1 : decode cX9_clear 1 = .ok (.getfield 10, 3) := by decide +kernel
theorem dX9_clear_4 : decode cX9_clear 4 = .ok (.iconst 0, 1) := by decide +kernel
theorem dX9_clear_5 : decode cX9_clear 5 = .ok (.invokevirtual 87, 3) := by decide +kernel
theorem dX9_clear_8 : decode cX9_clear 8 = .ok (.aload_n 0, 1) := by decide +kernel
theorem dX9_clear_9 : decode cX9_clear 9 = .ok (.getfield 22, 3) := by decide +kernel
theorem dX9_clear_12 : decode cX9_clear 12 = .ok (.iconst 0, 1) := by decide +kernel
theorem dX9_clear_13 : decode cX9_clear 13 = .ok (.invokevirtual 87, 3) := by decide +kernel
theorem dX9_clear_16 : decode cX9_clear 16 = .ok (.aload_n 0, 1) := by decide +kernel
theorem dX9_clear_17 : decode cX9_clear 17 = .ok (.getfield 25, 3) := by decide +kernel
theorem dX9_clear_20 : decode cX9_clear 20 = .ok (.iconst 0, 1) := by decide +kernel
theorem dX9_clear_21 : decode cX9_clear 21 = .ok (.invokevirtual 87, 3) := by decide +kernel
theorem dX9_clear_24 : decode cX9_clear 24 = .ok (.aload_n 0, 1) := by decide +kernel
theorem dX9_clear_25 : decode cX9_clear 25 = .ok (.iconst (-1), 1) := by decide +kernel
theorem dX9_clear_26 : decode cX9_clear 26 = .ok (.putfield 28, 3) := by decide +kernel
theorem dX9_clear_29 : decode cX9_clear 29 = .ok (.aload_n 0, 1) := by decide +kernel
theorem dX9_clear_30 : decode cX9_clear 30 = .ok (.getfield 35, 3) := by decide +kernel
theorem dX9_clear_33 : decode cX9_clear 33 = .ok (.invokevirtual 281, 3) := by decide +kernel
theorem dX9_clear_36 : decode cX9_clear 36 = .ok (.aload_n 0, 1) := by decide +kernel
theorem dX9_clear_37 : decode cX9_clear 37 = .ok (.getfield 42, 3) := by decide +kernel
theorem dX9_clear_40 : decode cX9_clear 40 = .ok (.invokevirtual 284, 3) := by decide +kernel
theorem dX9_clear_43 : decode cX9_clear 43 = .ok (.aload_n 0, 1) := by decide +kernel
theorem dX9_clear_44 : decode cX9_clear 44 = .ok (.getfield 46, 3) := by decide +kernel
theorem dX9_clear_47 : decode cX9_clear 47 = .ok (.iconst 0, 1) := by decide +kernel
theorem dX9_clear_48 : decode cX9_clear 48 = .ok (.invokestatic 285, 3) := by decide +kernel
theorem dX9_clear_51 : decode cX9_clear 51 = .ok (.aload_n 0, 1) := by decide +kernel
theorem dX9_clear_52 : decode cX9_clear 52 = .ok (.iconst 0, 1) := by decide +kernel
theorem dX9_clear_53 : decode cX9_clear 53 = .ok (.putfield 178, 3) := by decide +kernel
theorem dX9_clear_56 : decode cX9_clear 56 = .ok (.aload_n 0, 1) := by decide +kernel
theorem dX9_clear_57 : decode cX9_clear 57 = .ok (.iconst 0, 1) := by decide +kernel
theorem dX9_clear_58 : decode cX9_clear 58 = .ok (.putfield 275, 3) := by decide +kernel
theorem dX9_clear_61 : decode cX9_clear 61 = .ok (.aload_n 0, 1) := by decide +kernel
theorem dX9_clear_62 : decode cX9_clear 62 = .ok (.getfield 59, 3) := by decide +kernel
theorem dX9_clear_65 : decode cX9_clear 65 = .ok (.invokevirtual 291, 3) := by decide +kernel
theorem dX9_clear_68 : decode cX9_clear 68 = .ok (.aload_n 0, 1) := by decide +kernel
theorem dX9_clear_69 : decode cX9_clear 69 = .ok (.getfield 66, 3) := by decide +kernel
theorem dX9_clear_72 : decode cX9_clear 72 = .ok (.invokevirtual 292, 3) := by decide +kernel
theorem dX9_clear_75 : decode cX9_clear 75 = .ok (.aload_n 0, 1) := by decide +kernel
theorem dX9_clear_76 : decode cX9_clear 76 = .ok (.getfield 70, 3) := by decide +kernel
theorem dX9_clear_79 : decode cX9_clear 79 = .ok (.iconst 0, 1) := by decide +kernel
theorem dX9_clear_80 : decode cX9_clear 80 = .ok (.invokestatic 285, 3) := by decide +kernel
theorem dX9_clear_83 : decode cX9_clear 83 = .ok (.return_, 1) := by decide +kernel
theorem dX9_come_0 : decode cX9_come 0 = .ok (.iload_n 1, 1) := by decide +kernel
theorem dX9_come_1 : decode cX9_come 1 = .ok (.invokestatic 136, 3) := by decide +kernel
theorem dX9_come_4 : decode cX9_come 4 = .ok (.ifCond .ne 13, 3) := by decide +kernel
theorem dX9_come_7 : decode cX9_come 7 = .ok (.new 95, 3) := by decide +kernel
theorem dX9_come_10 : decode cX9_come 10 = .ok (.dup, 1) := by decide +kernel
theorem dX9_come_11 : decode cX9_come 11 = .ok (.ldc 212, 2) := by decide +kernel
theorem dX9_come_13 : decode cX9_come 13 = .ok (.invokespecial 99, 3) := by decide +kernel
theorem dX9_come_16 : decode cX9_come 16 = .ok (.athrow, 1) := by decide +kernel
theorem dX9_come_17 : decode cX9_come 17 = .ok (.aload_n 0, 1) := by decide +kernel
theorem dX9_come_18 : decode cX9_come 18 = .ok (.getfield 16, 3) := by decide +kernel
theorem dX9_come_21 : decode cX9_come 21 = .ok (.aload_n 0, 1) := by decide +kernel
theorem dX9_come_22 : decode cX9_come 22 = .ok (.getfield 10, 3) := by decide +kernel
theorem dX9_come_25 : decode cX9_come 25 = .ok (.invokevirtual 214, 3) := by decide +kernel
theorem dX9_come_28 : decode cX9_come 28 = .ok (.iload_n 1, 1) := by decide +kernel
theorem dX9_come_29 : decode cX9_come 29 = .ok (.ifCond .ne 10, 3) := by decide +kernel
theorem dX9_come_32 : decode cX9_come 32 = .ok (.aload_n 0, 1) := by decide +kernel
theorem dX9_come_33 : decode cX9_come 33 = .ok (.invokevirtual 218, 3) := by decide +kernel
theorem dX9_come_36 : decode cX9_come 36 = .ok (.goto 7, 3) := by decide +kernel
theorem dX9_come_39 : decode cX9_come 39 = .ok (.aload_n 0, 1) := by decide +kernel
theorem dX9_come_40 : decode cX9_come 40 = .ok (.invokevirtual 221, 3) := by decide +kernel
theorem dX9_come_43 : decode cX9_come 43 = .ok (.istore_n 2, 1) := by decide +kernel
theorem dX9_come_44 : decode cX9_come 44 = .ok (.iload_n 2, 1) := by decide +kernel
theorem dX9_come_45 : decode cX9_come 45 = .ok (.ifCond .lt 22, 3) := by decide +kernel
theorem dX9_come_48 : decode cX9_come 48 = .ok (.iload_n 2, 1) := by decide +kernel
theorem dX9_come_49 : decode cX9_come 49 = .ok (.aload_n 0, 1) := by decide +kernel
theorem dX9_come_50 : decode cX9_come 50 = .ok (.getfield 70, 3) := by decide +kernel
theorem dX9_come_53 : decode cX9_come 53 = .ok (.arraylength, 1) := by decide +kernel
theorem dX9_come_54 : decode cX9_come 54 = .ok (.if_icmp .ge 13, 3) := by decide +kernel
theorem dX9_come_57 : decode cX9_come 57 = .ok (.aload_n 0, 1) := by decide +kernel
theorem dX9_come_58 : decode cX9_come 58 = .ok (.getfield 70, 3) := by decide +kernel
theorem dX9_come_61 : decode cX9_come 61 = .ok (.iload_n 2, 1) := by decide +kernel
theorem dX9_come_62 : decode cX9_come 62 = .ok (.dup2, 1) := by decide +kernel
theorem dX9_come_63 : decode cX9_come 63 = .ok (.iaload, 1) := by decide +kernel
theorem dX9_come_64 : decode cX9_come 64 = .ok (.iconst 1, 1) := by decide +kernel
theorem dX9_come_65 : decode cX9_come 65 = .ok (.iadd, 1) := by decide +kernel
theorem dX9_come_66 : decode cX9_come 66 = .ok (.iastore, 1) := by decide +kernel
theorem dX9_come_67 : decode cX9_come 67 = .ok (.iload_n 2, 1) := by decide +kernel
theorem dX9_come_68 : decode cX9_come 68 = .ok (.ireturn, 1) := by decide +kernel
theorem dX9_count_0 : decode cX9_count 0 = .ok (.aload_n 0, 1) := by decide +kernel
theorem dX9_count_1 : decode cX9_count 1 = .ok (.iload_n 1, 1) := by decide +kernel
theorem dX9_count_2 : decode cX9_count 2 = .ok (.invokevirtual 190, 3) := by decide +kernel
theorem dX9_ended_0 : decode cX9_ended 0 = .ok (.iload_n 1, 1) := by decide +kernel
theorem dX9_ended_1 : decode cX9_ended 1 = .ok (.ifCond .lt 19, 3) := by decide +kernel
theorem dX9_ended_4 : decode cX9_ended 4 = .ok (.iload_n 1, 1) := by decide +kernel
theorem dX9_ended_5 : decode cX9_ended 5 = .ok (.aload_n 0, 1) := by decide +kernel
theorem dX9_ended_6 : decode cX9_ended 6 = .ok (.getfield 70, 3) := by decide +kernel
theorem dX9_ended_9 : decode cX9_ended 9 = .ok (.arraylength, 1) := by decide +kernel
theorem dX9_ended_10 : decode cX9_ended 10 = .ok (.if_icmp .ge 10, 3) := by decide +kernel
theorem dX9_ended_13 : decode cX9_ended 13 = .ok (.aload_n 0, 1) := by decide +kernel
theorem dX9_ended_14 : decode cX9_ended 14 = .ok (.getfield 70, 3) := by decide +kernel
theorem dX9_ended_17 : decode cX9_ended 17 = .ok (.iload_n 1, 1) := by decide +kernel
theorem dX9_ended_18 : decode cX9_ended 18 = .ok (.iaload, 1) := by decide +kernel
theorem dX9_ended_19 : decode cX9_ended 19 = .ok (.ireturn, 1) := by decide +kernel
theorem dX9_ended_20 : decode cX9_ended 20 = .ok (.iload_n 1, 1) := by decide +kernel
theorem dX9_ended_21 : decode cX9_ended 21 = .ok (.tableswitch 45 18 20 #[27, 32, 37], 27) := by decide +kernel
theorem dX9_ended_48 : decode cX9_ended 48 = .ok (.aload_n 0, 1) := by decide +kernel
theorem dX9_ended_49 : decode cX9_ended 49 = .ok (.getfield 178, 3) := by decide +kernel
theorem dX9_ended_52 : decode cX9_ended 52 = .ok (.ireturn, 1) := by decide +kernel
theorem dX9_ended_53 : decode cX9_ended 53 = .ok (.aload_n 0, 1) := by decide +kernel
theorem dX9_ended_54 : decode cX9_ended 54 = .ok (.getfield 275, 3) := by decide +kernel
theorem dX9_ended_57 : decode cX9_ended 57 = .ok (.ireturn, 1) := by decide +kernel
theorem dX9_ended_58 : decode cX9_ended 58 = .ok (.aload_n 0, 1) := by decide +kernel
theorem dX9_ended_59 : decode cX9_ended 59 = .ok (.getfield 59, 3) := by decide +kernel
theorem dX9_ended_62 : decode cX9_ended 62 = .ok (.invokevirtual 278, 3) := by decide +kernel
theorem dX9_ended_65 : decode cX9_ended 65 = .ok (.ireturn, 1) := by decide +kernel
theorem dX9_ended_66 : decode cX9_ended 66 = .ok (.new 114, 3) := by decide +kernel
theorem dX9_ended_69 : decode cX9_ended 69 = .ok (.dup, 1) := by decide +kernel
theorem dX9_ended_70 : decode cX9_ended 70 = .ok (.ldc_w 279, 3) := by decide +kernel
theorem dX9_ended_73 : decode cX9_ended 73 = .ok (.invokespecial 118, 3) := by decide +kernel
theorem dX9_ended_76 : decode cX9_ended 76 = .ok (.athrow, 1) := by decide +kernel
theorem dX9_init_0 : decode cX9_init 0 = .ok (.aload_n 0, 1) := by decide +kernel
theorem dX9_init_1 : decode cX9_init 1 = .ok (.invokespecial 1, 3) := by decide +kernel
theorem dX9_init_4 : decode cX9_init 4 = .ok (.aload_n 0, 1) := by decide +kernel
theorem dX9_init_5 : decode cX9_init 5 = .ok (.new 7, 3) := by decide +kernel
theorem dX9_init_8 : decode cX9_init 8 = .ok (.dup, 1) := by decide +kernel
theorem dX9_init_9 : decode cX9_init 9 = .ok (.invokespecial 9, 3) := by decide +kernel
theorem dX9_init_12 : decode cX9_init 12 = .ok (.putfield 10, 3) := by decide +kernel
theorem dX9_init_15 : decode cX9_init 15 = .ok (.aload_n 0, 1) := by decide +kernel
theorem dX9_init_16 : decode cX9_init 16 = .ok (.new 7, 3) := by decide +kernel
theorem dX9_init_19 : decode cX9_init 19 = .ok (.dup, 1) := by decide +kernel
theorem dX9_init_20 : decode cX9_init 20 = .ok (.invokespecial 9, 3) := by decide +kernel
theorem dX9_init_23 : decode cX9_init 23 = .ok (.putfield 16, 3) := by decide +kernel
theorem dX9_init_26 : decode cX9_init 26 = .ok (.aload_n 0, 1) := by decide +kernel
theorem dX9_init_27 : decode cX9_init 27 = .ok (.new 7, 3) := by decide +kernel
theorem dX9_init_30 : decode cX9_init 30 = .ok (.dup, 1) := by decide +kernel
theorem dX9_init_31 : decode cX9_init 31 = .ok (.invokespecial 9, 3) := by decide +kernel
theorem dX9_init_34 : decode cX9_init 34 = .ok (.putfield 19, 3) := by decide +kernel
theorem dX9_init_37 : decode cX9_init 37 = .ok (.aload_n 0, 1) := by decide +kernel
theorem dX9_init_38 : decode cX9_init 38 = .ok (.new 7, 3) := by decide +kernel
theorem dX9_init_41 : decode cX9_init 41 = .ok (.dup, 1) := by decide +kernel
theorem dX9_init_42 : decode cX9_init 42 = .ok (.invokespecial 9, 3) := by decide +kernel
theorem dX9_init_45 : decode cX9_init 45 = .ok (.putfield 22, 3) := by decide +kernel
theorem dX9_init_48 : decode cX9_init 48 = .ok (.aload_n 0, 1) := by decide +kernel
theorem dX9_init_49 : decode cX9_init 49 = .ok (.new 7, 3) := by decide +kernel
theorem dX9_init_52 : decode cX9_init 52 = .ok (.dup, 1) := by decide +kernel
theorem dX9_init_53 : decode cX9_init 53 = .ok (.invokespecial 9, 3) := by decide +kernel
theorem dX9_init_56 : decode cX9_init 56 = .ok (.putfield 25, 3) := by decide +kernel
theorem dX9_init_59 : decode cX9_init 59 = .ok (.aload_n 0, 1) := by decide +kernel
theorem dX9_init_60 : decode cX9_init 60 = .ok (.iconst (-1), 1) := by decide +kernel
theorem dX9_init_61 : decode cX9_init 61 = .ok (.putfield 28, 3) := by decide +kernel
theorem dX9_init_64 : decode cX9_init 64 = .ok (.aload_n 0, 1) := by decide +kernel
theorem dX9_init_65 : decode cX9_init 65 = .ok (.new 32, 3) := by decide +kernel
theorem dX9_init_68 : decode cX9_init 68 = .ok (.dup, 1) := by decide +kernel
theorem dX9_init_69 : decode cX9_init 69 = .ok (.invokespecial 34, 3) := by decide +kernel
theorem dX9_init_72 : decode cX9_init 72 = .ok (.putfield 35, 3) := by decide +kernel
theorem dX9_init_75 : decode cX9_init 75 = .ok (.aload_n 0, 1) := by decide +kernel
theorem dX9_init_76 : decode cX9_init 76 = .ok (.new 39, 3) := by decide +kernel
theorem dX9_init_79 : decode cX9_init 79 = .ok (.dup, 1) := by decide +kernel
theorem dX9_init_80 : decode cX9_init 80 = .ok (.invokespecial 41, 3) := by decide +kernel
theorem dX9_init_83 : decode cX9_init 83 = .ok (.putfield 42, 3) := by decide +kernel
theorem dX9_init_86 : decode cX9_init 86 = .ok (.aload_n 0, 1) := by decide +kernel
theorem dX9_init_87 : decode cX9_init 87 = .ok (.iconst 4, 1) := by decide +kernel
theorem dX9_init_88 : decode cX9_init 88 = .ok (.newarray .int, 2) := by decide +kernel
theorem dX9_init_90 : decode cX9_init 90 = .ok (.putfield 46, 3) := by decide +kernel
theorem dX9_init_93 : decode cX9_init 93 = .ok (.aload_n 0, 1) := by decide +kernel
theorem dX9_init_94 : decode cX9_init 94 = .ok (.bipush 16, 2) := by decide +kernel
theorem dX9_init_96 : decode cX9_init 96 = .ok (.anewarray 50, 3) := by decide +kernel
theorem dX9_init_99 : decode cX9_init 99 = .ok (.putfield 52, 3) := by decide +kernel
theorem dX9_init_102 : decode cX9_init 102 = .ok (.aload_n 0, 1) := by decide +kernel
theorem dX9_init_103 : decode cX9_init 103 = .ok (.new 56, 3) := by decide +kernel
theorem dX9_init_106 : decode cX9_init 106 = .ok (.dup, 1) := by decide +kernel
theorem dX9_init_107 : decode cX9_init 107 = .ok (.invokespecial 58, 3) := by decide +kernel
theorem dX9_init_110 : decode cX9_init 110 = .ok (.putfield 59, 3) := by decide +kernel
theorem dX9_init_113 : decode cX9_init 113 = .ok (.aload_n 0, 1) := by decide +kernel
theorem dX9_init_114 : decode cX9_init 114 = .ok (.new 63, 3) := by decide +kernel
theorem dX9_init_117 : decode cX9_init 117 = .ok (.dup, 1) := by decide +kernel
theorem dX9_init_118 : decode cX9_init 118 = .ok (.invokespecial 65, 3) := by decide +kernel
theorem dX9_init_121 : decode cX9_init 121 = .ok (.putfield 66, 3) := by decide +kernel
theorem dX9_init_124 : decode cX9_init 124 = .ok (.aload_n 0, 1) := by decide +kernel
theorem dX9_init_125 : decode cX9_init 125 = .ok (.bipush 18, 2) := by decide +kernel
theorem dX9_init_127 : decode cX9_init 127 = .ok (.newarray .int, 2) := by decide +kernel
theorem dX9_init_129 : decode cX9_init 129 = .ok (.putfield 70, 3) := by decide +kernel
theorem dX9_init_132 : decode cX9_init 132 = .ok (.aload_n 0, 1) := by decide +kernel
theorem dX9_init_133 : decode cX9_init 133 = .ok (.iload_n 1, 1) := by decide +kernel
theorem dX9_init_134 : decode cX9_init 134 = .ok (.putfield 73, 3) := by decide +kernel
theorem dX9_init_137 : decode cX9_init 137 = .ok (.return_, 1) := by decide +kernel
theorem dX9_isByte_0 : decode cX9_isByte 0 = .ok (.iload_n 0, 1) := by decide +kernel
theorem dX9_isByte_1 : decode cX9_isByte 1 = .ok (.ifCond .lt 14, 3) := by decide +kernel
theorem dX9_isByte_4 : decode cX9_isByte 4 = .ok (.iload_n 0, 1) := by decide +kernel
theorem dX9_isByte_5 : decode cX9_isByte 5 = .ok (.sipush 255, 3) := by decide +kernel
theorem dX9_isByte_8 : decode cX9_isByte 8 = .ok (.if_icmp .gt 7, 3) := by decide +kernel
theorem dX9_isByte_11 : decode cX9_isByte 11 = .ok (.iconst 1, 1) := by decide +kernel
theorem dX9_isByte_12 : decode cX9_isByte 12 = .ok (.goto 4, 3) := by decide +kernel
theorem dX9_isByte_15 : decode cX9_isByte 15 = .ok (.iconst 0, 1) := by decide +kernel
theorem dX9_isByte_16 : decode cX9_isByte 16 = .ok (.ireturn, 1) := by decide +kernel
theorem dX9_isPortOrWay_0 : decode cX9_isPortOrWay 0 = .ok (.iload_n 0, 1) := by decide +kernel
theorem dX9_isPortOrWay_1 : decode cX9_isPortOrWay 1 = .ok (.ifCond .eq 8, 3) := by decide +kernel
theorem dX9_isPortOrWay_4 : decode cX9_isPortOrWay 4 = .ok (.iload_n 0, 1) := by decide +kernel
theorem dX9_isPortOrWay_5 : decode cX9_isPortOrWay 5 = .ok (.iconst 1, 1) := by decide +kernel
theorem dX9_isPortOrWay_6 : decode cX9_isPortOrWay 6 = .ok (.if_icmp .ne 7, 3) := by decide +kernel
theorem dX9_isPortOrWay_9 : decode cX9_isPortOrWay 9 = .ok (.iconst 1, 1) := by decide +kernel
theorem dX9_isPortOrWay_10 : decode cX9_isPortOrWay 10 = .ok (.goto 4, 3) := by decide +kernel
theorem dX9_isPortOrWay_13 : decode cX9_isPortOrWay 13 = .ok (.iconst 0, 1) := by decide +kernel
theorem dX9_isPortOrWay_14 : decode cX9_isPortOrWay 14 = .ok (.ireturn, 1) := by decide +kernel
theorem dX9_isTunnel_0 : decode cX9_isTunnel 0 = .ok (.iload_n 0, 1) := by decide +kernel
theorem dX9_isTunnel_1 : decode cX9_isTunnel 1 = .ok (.ifCond .lt 12, 3) := by decide +kernel
theorem dX9_isTunnel_4 : decode cX9_isTunnel 4 = .ok (.iload_n 0, 1) := by decide +kernel
theorem dX9_isTunnel_5 : decode cX9_isTunnel 5 = .ok (.iconst 4, 1) := by decide +kernel
theorem dX9_isTunnel_6 : decode cX9_isTunnel 6 = .ok (.if_icmp .ge 7, 3) := by decide +kernel
theorem dX9_isTunnel_9 : decode cX9_isTunnel 9 = .ok (.iconst 1, 1) := by decide +kernel
theorem dX9_isTunnel_10 : decode cX9_isTunnel 10 = .ok (.goto 4, 3) := by decide +kernel
theorem dX9_isTunnel_13 : decode cX9_isTunnel 13 = .ok (.iconst 0, 1) := by decide +kernel
theorem dX9_isTunnel_14 : decode cX9_isTunnel 14 = .ok (.ireturn, 1) := by decide +kernel
theorem dX9_isWidth_0 : decode cX9_isWidth 0 = .ok (.iload_n 0, 1) := by decide +kernel
theorem dX9_isWidth_1 : decode cX9_isWidth 1 = .ok (.ifCond .lt 13, 3) := by decide +kernel
theorem dX9_isWidth_4 : decode cX9_isWidth 4 = .ok (.iload_n 0, 1) := by decide +kernel
theorem dX9_isWidth_5 : decode cX9_isWidth 5 = .ok (.bipush 32, 2) := by decide +kernel
theorem dX9_isWidth_7 : decode cX9_isWidth 7 = .ok (.if_icmp .gt 7, 3) := by decide +kernel
theorem dX9_isWidth_10 : decode cX9_isWidth 10 = .ok (.iconst 1, 1) := by decide +kernel
theorem dX9_isWidth_11 : decode cX9_isWidth 11 = .ok (.goto 4, 3) := by decide +kernel
theorem dX9_isWidth_14 : decode cX9_isWidth 14 = .ok (.iconst 0, 1) := by decide +kernel
theorem dX9_isWidth_15 : decode cX9_isWidth 15 = .ok (.ireturn, 1) := by decide +kernel
theorem dX9_keep_0 : decode cX9_keep 0 = .ok (.iload_n 1, 1) := by decide +kernel
theorem dX9_keep_1 : decode cX9_keep 1 = .ok (.ifCond .lt 14, 3) := by decide +kernel
theorem dX9_keep_4 : decode cX9_keep 4 = .ok (.iload_n 1, 1) := by decide +kernel
theorem dX9_keep_5 : decode cX9_keep 5 = .ok (.aload_n 0, 1) := by decide +kernel
theorem dX9_keep_6 : decode cX9_keep 6 = .ok (.getfield 10, 3) := by decide +kernel
theorem dX9_keep_9 : decode cX9_keep 9 = .ok (.invokevirtual 76, 3) := by decide +kernel
theorem dX9_keep_12 : decode cX9_keep 12 = .ok (.if_icmp .le 13, 3) := by decide +kernel
theorem dX9_keep_15 : decode cX9_keep 15 = .ok (.new 95, 3) := by decide +kernel
theorem dX9_keep_18 : decode cX9_keep 18 = .ok (.dup, 1) := by decide +kernel
theorem dX9_keep_19 : decode cX9_keep 19 = .ok (.ldc 97, 2) := by decide +kernel
theorem dX9_keep_21 : decode cX9_keep 21 = .ok (.invokespecial 99, 3) := by decide +kernel
theorem dX9_keep_24 : decode cX9_keep 24 = .ok (.athrow, 1) := by decide +kernel
theorem dX9_keep_25 : decode cX9_keep 25 = .ok (.aload_n 0, 1) := by decide +kernel
theorem dX9_keep_26 : decode cX9_keep 26 = .ok (.getfield 10, 3) := by decide +kernel
theorem dX9_keep_29 : decode cX9_keep 29 = .ok (.iload_n 1, 1) := by decide +kernel
theorem dX9_keep_30 : decode cX9_keep 30 = .ok (.invokevirtual 87, 3) := by decide +kernel
theorem dX9_keep_33 : decode cX9_keep 33 = .ok (.return_, 1) := by decide +kernel
theorem dX9_log_0 : decode cX9_log 0 = .ok (.iload_n 1, 1) := by decide +kernel
theorem dX9_log_1 : decode cX9_log 1 = .ok (.ifCond .lt 23, 3) := by decide +kernel
theorem dX9_log_4 : decode cX9_log 4 = .ok (.iload_n 1, 1) := by decide +kernel
theorem dX9_log_5 : decode cX9_log 5 = .ok (.aload_n 0, 1) := by decide +kernel
theorem dX9_log_6 : decode cX9_log 6 = .ok (.getfield 66, 3) := by decide +kernel
theorem dX9_log_9 : decode cX9_log 9 = .ok (.invokevirtual 268, 3) := by decide +kernel
theorem dX9_log_12 : decode cX9_log 12 = .ok (.if_icmp .ge 12, 3) := by decide +kernel
theorem dX9_log_24 : decode cX9_log 24 = .ok (.new 114, 3) := by decide +kernel
theorem dX9_log_27 : decode cX9_log 27 = .ok (.dup, 1) := by decide +kernel
theorem dX9_log_28 : decode cX9_log 28 = .ok (.ldc_w 269, 3) := by decide +kernel
theorem dX9_log_31 : decode cX9_log 31 = .ok (.invokespecial 118, 3) := by decide +kernel
theorem dX9_log_34 : decode cX9_log 34 = .ok (.athrow, 1) := by decide +kernel
theorem dX9_make_0 : decode cX9_make 0 = .ok (.iload_n 3, 1) := by decide +kernel
theorem dX9_make_1 : decode cX9_make 1 = .ok (.invokestatic 104, 3) := by decide +kernel
theorem dX9_make_4 : decode cX9_make 4 = .ok (.ifCond .eq 24, 3) := by decide +kernel
theorem dX9_make_7 : decode cX9_make 7 = .ok (.iload 4, 2) := by decide +kernel
theorem dX9_make_9 : decode cX9_make 9 = .ok (.invokestatic 104, 3) := by decide +kernel
theorem dX9_make_12 : decode cX9_make 12 = .ok (.ifCond .eq 16, 3) := by decide +kernel
theorem dX9_make_15 : decode cX9_make 15 = .ok (.iload 5, 2) := by decide +kernel
theorem dX9_make_17 : decode cX9_make 17 = .ok (.ifCond .lt 11, 3) := by decide +kernel
theorem dX9_make_20 : decode cX9_make 20 = .ok (.iload 5, 2) := by decide +kernel
theorem dX9_make_22 : decode cX9_make 22 = .ok (.sipush 1480, 3) := by decide +kernel
theorem dX9_make_25 : decode cX9_make 25 = .ok (.if_icmp .le 13, 3) := by decide +kernel
theorem dX9_make_28 : decode cX9_make 28 = .ok (.new 95, 3) := by decide +kernel
theorem dX9_make_31 : decode cX9_make 31 = .ok (.dup, 1) := by decide +kernel
theorem dX9_make_32 : decode cX9_make 32 = .ok (.ldc 122, 2) := by decide +kernel
theorem dX9_make_34 : decode cX9_make 34 = .ok (.invokespecial 99, 3) := by decide +kernel
theorem dX9_make_37 : decode cX9_make 37 = .ok (.athrow, 1) := by decide +kernel
theorem dX9_make_38 : decode cX9_make 38 = .ok (.aload_n 0, 1) := by decide +kernel
theorem dX9_make_39 : decode cX9_make 39 = .ok (.getfield 10, 3) := by decide +kernel
theorem dX9_make_42 : decode cX9_make 42 = .ok (.bipush 20, 2) := by decide +kernel
theorem dX9_make_44 : decode cX9_make 44 = .ok (.iload 5, 2) := by decide +kernel
theorem dX9_make_46 : decode cX9_make 46 = .ok (.iadd, 1) := by decide +kernel
theorem dX9_make_47 : decode cX9_make 47 = .ok (.invokevirtual 87, 3) := by decide +kernel
theorem dX9_make_50 : decode cX9_make 50 = .ok (.aload_n 0, 1) := by decide +kernel
theorem dX9_make_51 : decode cX9_make 51 = .ok (.getfield 10, 3) := by decide +kernel
theorem dX9_make_54 : decode cX9_make 54 = .ok (.iload_n 1, 1) := by decide +kernel
theorem dX9_make_55 : decode cX9_make 55 = .ok (.iload_n 2, 1) := by decide +kernel
theorem dX9_make_56 : decode cX9_make 56 = .ok (.iload_n 3, 1) := by decide +kernel
theorem dX9_make_57 : decode cX9_make 57 = .ok (.iload 4, 2) := by decide +kernel
theorem dX9_make_59 : decode cX9_make 59 = .ok (.invokevirtual 124, 3) := by decide +kernel
theorem dX9_make_62 : decode cX9_make 62 = .ok (.iconst 0, 1) := by decide +kernel
theorem dX9_make_63 : decode cX9_make 63 = .ok (.istore 7, 2) := by decide +kernel
theorem dX9_make_65 : decode cX9_make 65 = .ok (.iload 7, 2) := by decide +kernel
theorem dX9_make_67 : decode cX9_make 67 = .ok (.iload 5, 2) := by decide +kernel
theorem dX9_make_69 : decode cX9_make 69 = .ok (.if_icmp .ge 26, 3) := by decide +kernel
theorem dX9_make_72 : decode cX9_make 72 = .ok (.aload_n 0, 1) := by decide +kernel
theorem dX9_make_73 : decode cX9_make 73 = .ok (.getfield 10, 3) := by decide +kernel
theorem dX9_make_76 : decode cX9_make 76 = .ok (.bipush 20, 2) := by decide +kernel
theorem dX9_make_78 : decode cX9_make 78 = .ok (.iload 7, 2) := by decide +kernel
theorem dX9_make_80 : decode cX9_make 80 = .ok (.iadd, 1) := by decide +kernel
theorem dX9_make_81 : decode cX9_make 81 = .ok (.iload 7, 2) := by decide +kernel
theorem dX9_make_83 : decode cX9_make 83 = .ok (.iload 6, 2) := by decide +kernel
theorem dX9_make_85 : decode cX9_make 85 = .ok (.iadd, 1) := by decide +kernel
theorem dX9_make_86 : decode cX9_make 86 = .ok (.invokevirtual 110, 3) := by decide +kernel
theorem dX9_make_89 : decode cX9_make 89 = .ok (.iinc 7 1, 3) := by decide +kernel
theorem dX9_make_92 : decode cX9_make 92 = .ok (.goto (-27), 3) := by decide +kernel
theorem dX9_make_95 : decode cX9_make 95 = .ok (.aload_n 0, 1) := by decide +kernel
theorem dX9_make_96 : decode cX9_make 96 = .ok (.getfield 10, 3) := by decide +kernel
theorem dX9_make_99 : decode cX9_make 99 = .ok (.invokevirtual 128, 3) := by decide +kernel
theorem dX9_make_102 : decode cX9_make 102 = .ok (.pop, 1) := by decide +kernel
theorem dX9_make_103 : decode cX9_make 103 = .ok (.aload_n 0, 1) := by decide +kernel
theorem dX9_make_104 : decode cX9_make 104 = .ok (.getfield 10, 3) := by decide +kernel
theorem dX9_make_107 : decode cX9_make 107 = .ok (.invokevirtual 76, 3) := by decide +kernel
theorem dX9_make_110 : decode cX9_make 110 = .ok (.ireturn, 1) := by decide +kernel
theorem dX9_meaning_0 : decode cX9_meaning 0 = .ok (.iload_n 1, 1) := by decide +kernel
theorem dX9_meaning_1 : decode cX9_meaning 1 = .ok (.invokestatic 136, 3) := by decide +kernel
theorem dX9_meaning_4 : decode cX9_meaning 4 = .ok (.ifCond .ne 13, 3) := by decide +kernel
theorem dX9_meaning_7 : decode cX9_meaning 7 = .ok (.new 95, 3) := by decide +kernel
theorem dX9_meaning_10 : decode cX9_meaning 10 = .ok (.dup, 1) := by decide +kernel
theorem dX9_meaning_11 : decode cX9_meaning 11 = .ok (.ldc 224, 2) := by decide +kernel
theorem dX9_meaning_13 : decode cX9_meaning 13 = .ok (.invokespecial 99, 3) := by decide +kernel
theorem dX9_meaning_16 : decode cX9_meaning 16 = .ok (.athrow, 1) := by decide +kernel
theorem dX9_meaning_17 : decode cX9_meaning 17 = .ok (.aload_n 0, 1) := by decide +kernel
theorem dX9_meaning_18 : decode cX9_meaning 18 = .ok (.getfield 16, 3) := by decide +kernel
theorem dX9_meaning_21 : decode cX9_meaning 21 = .ok (.aload_n 0, 1) := by decide +kernel
theorem dX9_meaning_22 : decode cX9_meaning 22 = .ok (.getfield 10, 3) := by decide +kernel
theorem dX9_meaning_25 : decode cX9_meaning 25 = .ok (.invokevirtual 214, 3) := by decide +kernel
theorem dX9_meaning_28 : decode cX9_meaning 28 = .ok (.aload_n 0, 1) := by decide +kernel
theorem dX9_meaning_29 : decode cX9_meaning 29 = .ok (.getfield 16, 3) := by decide +kernel
theorem dX9_meaning_32 : decode cX9_meaning 32 = .ok (.invokevirtual 226, 3) := by decide +kernel
theorem dX9_meaning_35 : decode cX9_meaning 35 = .ok (.ifCond .eq 5, 3) := by decide +kernel
theorem dX9_meaning_38 : decode cX9_meaning 38 = .ok (.iconst (-1), 1) := by decide +kernel
theorem dX9_meaning_39 : decode cX9_meaning 39 = .ok (.ireturn, 1) := by decide +kernel
theorem dX9_meant_0 : decode cX9_meant 0 = .ok (.iload_n 1, 1) := by decide +kernel
theorem dX9_meant_1 : decode cX9_meant 1 = .ok (.invokestatic 104, 3) := by decide +kernel
theorem dX9_meant_4 : decode cX9_meant 4 = .ok (.ifCond .eq 18, 3) := by decide +kernel
theorem dX9_meant_7 : decode cX9_meant 7 = .ok (.iload_n 2, 1) := by decide +kernel
theorem dX9_meant_8 : decode cX9_meant 8 = .ok (.ifCond .lt 14, 3) := by decide +kernel
theorem dX9_meant_11 : decode cX9_meant 11 = .ok (.iload_n 2, 1) := by decide +kernel
theorem dX9_meant_12 : decode cX9_meant 12 = .ok (.iload_n 3, 1) := by decide +kernel
theorem dX9_meant_13 : decode cX9_meant 13 = .ok (.if_icmp .gt 9, 3) := by decide +kernel
theorem dX9_meant_16 : decode cX9_meant 16 = .ok (.iload_n 3, 1) := by decide +kernel
theorem dX9_meant_17 : decode cX9_meant 17 = .ok (.ldc 160, 2) := by decide +kernel
theorem dX9_meant_19 : decode cX9_meant 19 = .ok (.if_icmp .le 13, 3) := by decide +kernel
theorem dX9_meant_22 : decode cX9_meant 22 = .ok (.new 95, 3) := by decide +kernel
theorem dX9_meant_25 : decode cX9_meant 25 = .ok (.dup, 1) := by decide +kernel
theorem dX9_meant_26 : decode cX9_meant 26 = .ok (.ldc 161, 2) := by decide +kernel
theorem dX9_meant_28 : decode cX9_meant 28 = .ok (.invokespecial 99, 3) := by decide +kernel
theorem dX9_meant_31 : decode cX9_meant 31 = .ok (.athrow, 1) := by decide +kernel
theorem dX9_meant_32 : decode cX9_meant 32 = .ok (.aload_n 0, 1) := by decide +kernel
theorem dX9_meant_33 : decode cX9_meant 33 = .ok (.getfield 42, 3) := by decide +kernel
theorem dX9_meant_36 : decode cX9_meant 36 = .ok (.iload_n 1, 1) := by decide +kernel
theorem dX9_meant_37 : decode cX9_meant 37 = .ok (.iload_n 2, 1) := by decide +kernel
theorem dX9_meant_38 : decode cX9_meant 38 = .ok (.iload_n 3, 1) := by decide +kernel
theorem dX9_meant_39 : decode cX9_meant 39 = .ok (.invokevirtual 163, 3) := by decide +kernel
theorem dX9_meant_42 : decode cX9_meant 42 = .ok (.return_, 1) := by decide +kernel
theorem dX9_peer_0 : decode cX9_peer 0 = .ok (.iload_n 1, 1) := by decide +kernel
theorem dX9_peer_1 : decode cX9_peer 1 = .ok (.invokestatic 155, 3) := by decide +kernel
theorem dX9_peer_4 : decode cX9_peer 4 = .ok (.ifCond .ne 13, 3) := by decide +kernel
theorem dX9_peer_7 : decode cX9_peer 7 = .ok (.new 114, 3) := by decide +kernel
theorem dX9_peer_10 : decode cX9_peer 10 = .ok (.dup, 1) := by decide +kernel
theorem dX9_peer_11 : decode cX9_peer 11 = .ok (.ldc 158, 2) := by decide +kernel
theorem dX9_peer_13 : decode cX9_peer 13 = .ok (.invokespecial 118, 3) := by decide +kernel
theorem dX9_peer_16 : decode cX9_peer 16 = .ok (.athrow, 1) := by decide +kernel
theorem dX9_peer_17 : decode cX9_peer 17 = .ok (.aload_n 0, 1) := by decide +kernel
theorem dX9_peer_18 : decode cX9_peer 18 = .ok (.getfield 46, 3) := by decide +kernel
theorem dX9_peer_21 : decode cX9_peer 21 = .ok (.iload_n 1, 1) := by decide +kernel
theorem dX9_peer_22 : decode cX9_peer 22 = .ok (.iaload, 1) := by decide +kernel
theorem dX9_peer_23 : decode cX9_peer 23 = .ok (.istore_n 3, 1) := by decide +kernel
theorem dX9_peer_24 : decode cX9_peer 24 = .ok (.aload_n 0, 1) := by decide +kernel
theorem dX9_peer_25 : decode cX9_peer 25 = .ok (.getfield 46, 3) := by decide +kernel
theorem dX9_peer_28 : decode cX9_peer 28 = .ok (.iload_n 1, 1) := by decide +kernel
theorem dX9_peer_29 : decode cX9_peer 29 = .ok (.iload_n 2, 1) := by decide +kernel
theorem dX9_peer_30 : decode cX9_peer 30 = .ok (.iastore, 1) := by decide +kernel
theorem dX9_peer_31 : decode cX9_peer 31 = .ok (.iload_n 3, 1) := by decide +kernel
theorem dX9_peer_32 : decode cX9_peer 32 = .ok (.ireturn, 1) := by decide +kernel
theorem dX9_poke_0 : decode cX9_poke 0 = .ok (.aload_n 0, 1) := by decide +kernel
theorem dX9_poke_1 : decode cX9_poke 1 = .ok (.iload_n 1, 1) := by decide +kernel
theorem dX9_poke_2 : decode cX9_poke 2 = .ok (.invokevirtual 100, 3) := by decide +kernel
theorem dX9_policy_0 : decode cX9_policy 0 = .ok (.iload_n 1, 1) := by decide +kernel
theorem dX9_policy_1 : decode cX9_policy 1 = .ok (.invokestatic 136, 3) := by decide +kernel
theorem dX9_policy_4 : decode cX9_policy 4 = .ok (.ifCond .eq 31, 3) := by decide +kernel
theorem dX9_policy_7 : decode cX9_policy 7 = .ok (.iload_n 3, 1) := by decide +kernel
theorem dX9_policy_8 : decode cX9_policy 8 = .ok (.invokestatic 133, 3) := by decide +kernel
theorem dX9_policy_11 : decode cX9_policy 11 = .ok (.ifCond .eq 24, 3) := by decide +kernel
theorem dX9_policy_14 : decode cX9_policy 14 = .ok (.iload 5, 2) := by decide +kernel
theorem dX9_policy_16 : decode cX9_policy 16 = .ok (.invokestatic 133, 3) := by decide +kernel
theorem dX9_policy_19 : decode cX9_policy 19 = .ok (.ifCond .eq 16, 3) := by decide +kernel
theorem dX9_policy_22 : decode cX9_policy 22 = .ok (.iload 6, 2) := by decide +kernel
theorem dX9_policy_24 : decode cX9_policy 24 = .ok (.bipush (-2), 2) := by decide +kernel
theorem dX9_policy_26 : decode cX9_policy 26 = .ok (.if_icmp .lt 9, 3) := by decide +kernel
theorem dX9_policy_29 : decode cX9_policy 29 = .ok (.iload 6, 2) := by decide +kernel
theorem dX9_policy_31 : decode cX9_policy 31 = .ok (.iconst 4, 1) := by decide +kernel
theorem dX9_policy_32 : decode cX9_policy 32 = .ok (.if_icmp .lt 13, 3) := by decide +kernel
theorem dX9_policy_35 : decode cX9_policy 35 = .ok (.new 95, 3) := by decide +kernel
theorem dX9_policy_38 : decode cX9_policy 38 = .ok (.dup, 1) := by decide +kernel
theorem dX9_policy_39 : decode cX9_policy 39 = .ok (.ldc 167, 2) := by decide +kernel
theorem dX9_policy_41 : decode cX9_policy 41 = .ok (.invokespecial 99, 3) := by decide +kernel
theorem dX9_policy_44 : decode cX9_policy 44 = .ok (.athrow, 1) := by decide +kernel
theorem dX9_policy_45 : decode cX9_policy 45 = .ok (.aload_n 0, 1) := by decide +kernel
theorem dX9_policy_46 : decode cX9_policy 46 = .ok (.getfield 42, 3) := by decide +kernel
theorem dX9_policy_49 : decode cX9_policy 49 = .ok (.invokevirtual 169, 3) := by decide +kernel
theorem dX9_policy_52 : decode cX9_policy 52 = .ok (.ifCond .eq 13, 3) := by decide +kernel
theorem dX9_policy_65 : decode cX9_policy 65 = .ok (.aload_n 0, 1) := by decide +kernel
theorem dX9_policy_66 : decode cX9_policy 66 = .ok (.getfield 42, 3) := by decide +kernel
theorem dX9_policy_69 : decode cX9_policy 69 = .ok (.iload_n 1, 1) := by decide +kernel
theorem dX9_policy_70 : decode cX9_policy 70 = .ok (.new 147, 3) := by decide +kernel
theorem dX9_policy_73 : decode cX9_policy 73 = .ok (.dup, 1) := by decide +kernel
theorem dX9_policy_74 : decode cX9_policy 74 = .ok (.iload_n 2, 1) := by decide +kernel
theorem dX9_policy_75 : decode cX9_policy 75 = .ok (.iload_n 3, 1) := by decide +kernel
theorem dX9_policy_76 : decode cX9_policy 76 = .ok (.invokespecial 149, 3) := by decide +kernel
theorem dX9_policy_79 : decode cX9_policy 79 = .ok (.new 147, 3) := by decide +kernel
theorem dX9_policy_82 : decode cX9_policy 82 = .ok (.dup, 1) := by decide +kernel
theorem dX9_policy_83 : decode cX9_policy 83 = .ok (.iload 4, 2) := by decide +kernel
theorem dX9_policy_85 : decode cX9_policy 85 = .ok (.iload 5, 2) := by decide +kernel
theorem dX9_policy_87 : decode cX9_policy 87 = .ok (.invokespecial 149, 3) := by decide +kernel
theorem dX9_policy_90 : decode cX9_policy 90 = .ok (.iload 6, 2) := by decide +kernel
theorem dX9_policy_92 : decode cX9_policy 92 = .ok (.invokevirtual 172, 3) := by decide +kernel
theorem dX9_policy_95 : decode cX9_policy 95 = .ok (.ireturn, 1) := by decide +kernel
theorem dX9_route_0 : decode cX9_route 0 = .ok (.iload_n 2, 1) := by decide +kernel
theorem dX9_route_1 : decode cX9_route 1 = .ok (.invokestatic 133, 3) := by decide +kernel
theorem dX9_route_4 : decode cX9_route 4 = .ok (.ifCond .eq 10, 3) := by decide +kernel
theorem dX9_route_7 : decode cX9_route 7 = .ok (.iload_n 3, 1) := by decide +kernel
theorem dX9_route_8 : decode cX9_route 8 = .ok (.invokestatic 136, 3) := by decide +kernel
theorem dX9_route_11 : decode cX9_route 11 = .ok (.ifCond .ne 13, 3) := by decide +kernel
theorem dX9_route_14 : decode cX9_route 14 = .ok (.new 95, 3) := by decide +kernel
theorem dX9_route_17 : decode cX9_route 17 = .ok (.dup, 1) := by decide +kernel
theorem dX9_route_18 : decode cX9_route 18 = .ok (.ldc 139, 2) := by decide +kernel
theorem dX9_route_20 : decode cX9_route 20 = .ok (.invokespecial 99, 3) := by decide +kernel
theorem dX9_route_23 : decode cX9_route 23 = .ok (.athrow, 1) := by decide +kernel
theorem dX9_route_24 : decode cX9_route 24 = .ok (.aload_n 0, 1) := by decide +kernel
theorem dX9_route_25 : decode cX9_route 25 = .ok (.getfield 35, 3) := by decide +kernel
theorem dX9_route_28 : decode cX9_route 28 = .ok (.invokevirtual 141, 3) := by decide +kernel
theorem dX9_route_31 : decode cX9_route 31 = .ok (.ifCond .eq 13, 3) := by decide +kernel
theorem dX9_route_44 : decode cX9_route 44 = .ok (.aload_n 0, 1) := by decide +kernel
theorem dX9_route_45 : decode cX9_route 45 = .ok (.getfield 35, 3) := by decide +kernel
theorem dX9_route_48 : decode cX9_route 48 = .ok (.new 147, 3) := by decide +kernel
theorem dX9_route_51 : decode cX9_route 51 = .ok (.dup, 1) := by decide +kernel
theorem dX9_route_52 : decode cX9_route 52 = .ok (.iload_n 1, 1) := by decide +kernel
theorem dX9_route_53 : decode cX9_route 53 = .ok (.iload_n 2, 1) := by decide +kernel
theorem dX9_route_54 : decode cX9_route 54 = .ok (.invokespecial 149, 3) := by decide +kernel
theorem dX9_route_57 : decode cX9_route 57 = .ok (.iload_n 3, 1) := by decide +kernel
theorem dX9_route_58 : decode cX9_route 58 = .ok (.invokevirtual 151, 3) := by decide +kernel
theorem dX9_route_61 : decode cX9_route 61 = .ok (.ireturn, 1) := by decide +kernel
theorem dX9_routed_0 : decode cX9_routed 0 = .ok (.aload_n 0, 1) := by decide +kernel
theorem dX9_routed_1 : decode cX9_routed 1 = .ok (.getfield 35, 3) := by decide +kernel
theorem dX9_routed_4 : decode cX9_routed 4 = .ok (.iload_n 1, 1) := by decide +kernel
theorem dX9_routed_5 : decode cX9_routed 5 = .ok (.invokevirtual 236, 3) := by decide +kernel
theorem dX9_routed_8 : decode cX9_routed 8 = .ok (.ireturn, 1) := by decide +kernel
theorem dX9_seal_0 : decode cX9_seal 0 = .ok (.iload_n 2, 1) := by decide +kernel
theorem dX9_seal_1 : decode cX9_seal 1 = .ok (.invokestatic 155, 3) := by decide +kernel
theorem dX9_seal_4 : decode cX9_seal 4 = .ok (.ifCond .ne 13, 3) := by decide +kernel
theorem dX9_seal_7 : decode cX9_seal 7 = .ok (.new 114, 3) := by decide +kernel
theorem dX9_seal_10 : decode cX9_seal 10 = .ok (.dup, 1) := by decide +kernel
theorem dX9_seal_11 : decode cX9_seal 11 = .ok (.ldc 158, 2) := by decide +kernel
theorem dX9_seal_13 : decode cX9_seal 13 = .ok (.invokespecial 118, 3) := by decide +kernel
theorem dX9_seal_16 : decode cX9_seal 16 = .ok (.athrow, 1) := by decide +kernel
theorem dX9_seal_17 : decode cX9_seal 17 = .ok (.iload_n 1, 1) := by decide +kernel
theorem dX9_seal_18 : decode cX9_seal 18 = .ok (.invokestatic 136, 3) := by decide +kernel
theorem dX9_seal_21 : decode cX9_seal 21 = .ok (.ifCond .eq 23, 3) := by decide +kernel
theorem dX9_seal_24 : decode cX9_seal 24 = .ok (.iload_n 3, 1) := by decide +kernel
theorem dX9_seal_25 : decode cX9_seal 25 = .ok (.sipush 256, 3) := by decide +kernel
theorem dX9_seal_28 : decode cX9_seal 28 = .ok (.if_icmp .lt 16, 3) := by decide +kernel
theorem dX9_seal_31 : decode cX9_seal 31 = .ok (.iload 9, 2) := by decide +kernel
theorem dX9_seal_33 : decode cX9_seal 33 = .ok (.iconst 1, 1) := by decide +kernel
theorem dX9_seal_34 : decode cX9_seal 34 = .ok (.if_icmp .lt 10, 3) := by decide +kernel
theorem dX9_seal_37 : decode cX9_seal 37 = .ok (.iload 9, 2) := by decide +kernel
theorem dX9_seal_39 : decode cX9_seal 39 = .ok (.ldc 175, 2) := by decide +kernel
theorem dX9_seal_41 : decode cX9_seal 41 = .ok (.if_icmp .le 13, 3) := by decide +kernel
theorem dX9_seal_44 : decode cX9_seal 44 = .ok (.new 95, 3) := by decide +kernel
theorem dX9_seal_47 : decode cX9_seal 47 = .ok (.dup, 1) := by decide +kernel
theorem dX9_seal_48 : decode cX9_seal 48 = .ok (.ldc 176, 2) := by decide +kernel
theorem dX9_seal_50 : decode cX9_seal 50 = .ok (.invokespecial 99, 3) := by decide +kernel
theorem dX9_seal_53 : decode cX9_seal 53 = .ok (.athrow, 1) := by decide +kernel
theorem dX9_seal_54 : decode cX9_seal 54 = .ok (.aload_n 0, 1) := by decide +kernel
theorem dX9_seal_55 : decode cX9_seal 55 = .ok (.getfield 178, 3) := by decide +kernel
theorem dX9_seal_58 : decode cX9_seal 58 = .ok (.ifCond .lt 20, 3) := by decide +kernel
theorem dX9_seal_61 : decode cX9_seal 61 = .ok (.aload_n 0, 1) := by decide +kernel
theorem dX9_seal_62 : decode cX9_seal 62 = .ok (.getfield 178, 3) := by decide +kernel
theorem dX9_seal_65 : decode cX9_seal 65 = .ok (.bipush 16, 2) := by decide +kernel
theorem dX9_seal_67 : decode cX9_seal 67 = .ok (.if_icmp .ge 11, 3) := by decide +kernel
theorem dX9_seal_70 : decode cX9_seal 70 = .ok (.aload_n 0, 1) := by decide +kernel
theorem dX9_seal_71 : decode cX9_seal 71 = .ok (.iload_n 3, 1) := by decide +kernel
theorem dX9_seal_72 : decode cX9_seal 72 = .ok (.invokevirtual 181, 3) := by decide +kernel
theorem dX9_seal_75 : decode cX9_seal 75 = .ok (.ifnull 13, 3) := by decide +kernel
theorem dX9_seal_88 : decode cX9_seal 88 = .ok (.aload_n 0, 1) := by decide +kernel
theorem dX9_seal_89 : decode cX9_seal 89 = .ok (.getfield 52, 3) := by decide +kernel
theorem dX9_seal_92 : decode cX9_seal 92 = .ok (.aload_n 0, 1) := by decide +kernel
theorem dX9_seal_93 : decode cX9_seal 93 = .ok (.getfield 178, 3) := by decide +kernel
theorem dX9_seal_96 : decode cX9_seal 96 = .ok (.new 50, 3) := by decide +kernel
theorem dX9_seal_99 : decode cX9_seal 99 = .ok (.dup, 1) := by decide +kernel
theorem dX9_seal_100 : decode cX9_seal 100 = .ok (.iload_n 1, 1) := by decide +kernel
theorem dX9_seal_101 : decode cX9_seal 101 = .ok (.iload_n 2, 1) := by decide +kernel
theorem dX9_seal_102 : decode cX9_seal 102 = .ok (.iload_n 3, 1) := by decide +kernel
theorem dX9_seal_103 : decode cX9_seal 103 = .ok (.lload 4, 2) := by decide +kernel
theorem dX9_seal_105 : decode cX9_seal 105 = .ok (.lload 6, 2) := by decide +kernel
theorem dX9_seal_107 : decode cX9_seal 107 = .ok (.iload 8, 2) := by decide +kernel
theorem dX9_seal_109 : decode cX9_seal 109 = .ok (.iload 9, 2) := by decide +kernel
theorem dX9_seal_111 : decode cX9_seal 111 = .ok (.invokespecial 187, 3) := by decide +kernel
theorem dX9_seal_114 : decode cX9_seal 114 = .ok (.aastore, 1) := by decide +kernel
theorem dX9_seal_115 : decode cX9_seal 115 = .ok (.aload_n 0, 1) := by decide +kernel
theorem dX9_seal_116 : decode cX9_seal 116 = .ok (.dup, 1) := by decide +kernel
theorem dX9_seal_117 : decode cX9_seal 117 = .ok (.getfield 178, 3) := by decide +kernel
theorem dX9_seal_120 : decode cX9_seal 120 = .ok (.dup_x1, 1) := by decide +kernel
theorem dX9_seal_121 : decode cX9_seal 121 = .ok (.iconst 1, 1) := by decide +kernel
theorem dX9_seal_122 : decode cX9_seal 122 = .ok (.iadd, 1) := by decide +kernel
theorem dX9_seal_123 : decode cX9_seal 123 = .ok (.putfield 178, 3) := by decide +kernel
theorem dX9_seal_126 : decode cX9_seal 126 = .ok (.ireturn, 1) := by decide +kernel
theorem dX9_sealAt_0 : decode cX9_sealAt 0 = .ok (.iload_n 1, 1) := by decide +kernel
theorem dX9_sealAt_1 : decode cX9_sealAt 1 = .ok (.ifCond .lt 26, 3) := by decide +kernel
theorem dX9_sealAt_4 : decode cX9_sealAt 4 = .ok (.iload_n 1, 1) := by decide +kernel
theorem dX9_sealAt_5 : decode cX9_sealAt 5 = .ok (.aload_n 0, 1) := by decide +kernel
theorem dX9_sealAt_6 : decode cX9_sealAt 6 = .ok (.getfield 178, 3) := by decide +kernel
theorem dX9_sealAt_9 : decode cX9_sealAt 9 = .ok (.if_icmp .ge 18, 3) := by decide +kernel
theorem dX9_sealAt_27 : decode cX9_sealAt 27 = .ok (.aconst_null, 1) := by decide +kernel
theorem dX9_sealAt_28 : decode cX9_sealAt 28 = .ok (.astore_n 2, 1) := by decide +kernel
theorem dX9_sealAt_29 : decode cX9_sealAt 29 = .ok (.aload_n 2, 1) := by decide +kernel
theorem dX9_sealAt_30 : decode cX9_sealAt 30 = .ok (.ifnonnull 14, 3) := by decide +kernel
theorem dX9_sealAt_33 : decode cX9_sealAt 33 = .ok (.new 114, 3) := by decide +kernel
theorem dX9_sealAt_36 : decode cX9_sealAt 36 = .ok (.dup, 1) := by decide +kernel
theorem dX9_sealAt_37 : decode cX9_sealAt 37 = .ok (.ldc_w 422, 3) := by decide +kernel
theorem dX9_sealAt_40 : decode cX9_sealAt 40 = .ok (.invokespecial 118, 3) := by decide +kernel
theorem dX9_sealAt_43 : decode cX9_sealAt 43 = .ok (.athrow, 1) := by decide +kernel
theorem dX9_sealNamed_0 : decode cX9_sealNamed 0 = .ok (.iconst 0, 1) := by decide +kernel
theorem dX9_sealNamed_1 : decode cX9_sealNamed 1 = .ok (.istore_n 2, 1) := by decide +kernel
theorem dX9_sealNamed_2 : decode cX9_sealNamed 2 = .ok (.iload_n 2, 1) := by decide +kernel
theorem dX9_sealNamed_3 : decode cX9_sealNamed 3 = .ok (.aload_n 0, 1) := by decide +kernel
theorem dX9_sealNamed_4 : decode cX9_sealNamed 4 = .ok (.getfield 178, 3) := by decide +kernel
theorem dX9_sealNamed_7 : decode cX9_sealNamed 7 = .ok (.if_icmp .ge 44, 3) := by decide +kernel
theorem dX9_sealNamed_51 : decode cX9_sealNamed 51 = .ok (.aconst_null, 1) := by decide +kernel
theorem dX9_sealNamed_52 : decode cX9_sealNamed 52 = .ok (.areturn, 1) := by decide +kernel
theorem dX9_seen_0 : decode cX9_seen 0 = .ok (.aload_n 0, 1) := by decide +kernel
theorem dX9_seen_1 : decode cX9_seen 1 = .ok (.iload_n 1, 1) := by decide +kernel
theorem dX9_seen_2 : decode cX9_seen 2 = .ok (.invokevirtual 190, 3) := by decide +kernel
theorem dX9_sent_0 : decode cX9_sent 0 = .ok (.aload_n 0, 1) := by decide +kernel
theorem dX9_sent_1 : decode cX9_sent 1 = .ok (.iload_n 1, 1) := by decide +kernel
theorem dX9_sent_2 : decode cX9_sent 2 = .ok (.invokevirtual 239, 3) := by decide +kernel
theorem dX9_sent_5 : decode cX9_sent 5 = .ok (.astore_n 3, 1) := by decide +kernel
theorem dX9_sent_6 : decode cX9_sent 6 = .ok (.iload_n 2, 1) := by decide +kernel
theorem dX9_sent_7 : decode cX9_sent 7 = .ok (.iconst (-1), 1) := by decide +kernel
theorem dX9_sent_8 : decode cX9_sent 8 = .ok (.if_icmp .ne 8, 3) := by decide +kernel
theorem dX9_sent_11 : decode cX9_sent 11 = .ok (.aload_n 3, 1) := by decide +kernel
theorem dX9_sent_12 : decode cX9_sent 12 = .ok (.invokevirtual 76, 3) := by decide +kernel
theorem dX9_sent_15 : decode cX9_sent 15 = .ok (.ireturn, 1) := by decide +kernel
theorem dX9_sent_16 : decode cX9_sent 16 = .ok (.iload_n 2, 1) := by decide +kernel
theorem dX9_sent_17 : decode cX9_sent 17 = .ok (.bipush (-2), 2) := by decide +kernel
theorem dX9_sent_19 : decode cX9_sent 19 = .ok (.if_icmp .ne 19, 3) := by decide +kernel
theorem dX9_sent_22 : decode cX9_sent 22 = .ok (.aload_n 3, 1) := by decide +kernel
theorem dX9_sent_23 : decode cX9_sent 23 = .ok (.invokevirtual 76, 3) := by decide +kernel
theorem dX9_sent_26 : decode cX9_sent 26 = .ok (.ifCond .ne 7, 3) := by decide +kernel
theorem dX9_sent_29 : decode cX9_sent 29 = .ok (.iconst (-1), 1) := by decide +kernel
theorem dX9_sent_30 : decode cX9_sent 30 = .ok (.goto 7, 3) := by decide +kernel
theorem dX9_sent_37 : decode cX9_sent 37 = .ok (.ireturn, 1) := by decide +kernel
theorem dX9_sent_38 : decode cX9_sent 38 = .ok (.iload_n 2, 1) := by decide +kernel
theorem dX9_sent_39 : decode cX9_sent 39 = .ok (.ifCond .lt 11, 3) := by decide +kernel
theorem dX9_sent_42 : decode cX9_sent 42 = .ok (.iload_n 2, 1) := by decide +kernel
theorem dX9_sent_43 : decode cX9_sent 43 = .ok (.aload_n 3, 1) := by decide +kernel
theorem dX9_sent_44 : decode cX9_sent 44 = .ok (.invokevirtual 76, 3) := by decide +kernel
theorem dX9_sent_47 : decode cX9_sent 47 = .ok (.if_icmp .lt 13, 3) := by decide +kernel
theorem dX9_sent_50 : decode cX9_sent 50 = .ok (.new 114, 3) := by decide +kernel
theorem dX9_sent_53 : decode cX9_sent 53 = .ok (.dup, 1) := by decide +kernel
theorem dX9_sent_54 : decode cX9_sent 54 = .ok (.ldc 116, 2) := by decide +kernel
theorem dX9_sent_56 : decode cX9_sent 56 = .ok (.invokespecial 118, 3) := by decide +kernel
theorem dX9_sent_59 : decode cX9_sent 59 = .ok (.athrow, 1) := by decide +kernel
theorem dX9_sentPacket_0 : decode cX9_sentPacket 0 = .ok (.iload_n 1, 1) := by decide +kernel
theorem dX9_sentPacket_1 : decode cX9_sentPacket 1 = .ok (.ifCond .eq 18, 3) := by decide +kernel
theorem dX9_sentPacket_4 : decode cX9_sentPacket 4 = .ok (.iload_n 1, 1) := by decide +kernel
theorem dX9_sentPacket_5 : decode cX9_sentPacket 5 = .ok (.iconst 1, 1) := by decide +kernel
theorem dX9_sentPacket_6 : decode cX9_sentPacket 6 = .ok (.if_icmp .eq 13, 3) := by decide +kernel
theorem dX9_sentPacket_9 : decode cX9_sentPacket 9 = .ok (.new 114, 3) := by decide +kernel
theorem dX9_sentPacket_12 : decode cX9_sentPacket 12 = .ok (.dup, 1) := by decide +kernel
theorem dX9_sentPacket_13 : decode cX9_sentPacket 13 = .ok (.ldc 122, 2) := by decide +kernel
theorem dX9_sentPacket_15 : decode cX9_sentPacket 15 = .ok (.invokespecial 118, 3) := by decide +kernel
theorem dX9_sentPacket_18 : decode cX9_sentPacket 18 = .ok (.athrow, 1) := by decide +kernel
theorem dX9_sentPacket_19 : decode cX9_sentPacket 19 = .ok (.iload_n 1, 1) := by decide +kernel
theorem dX9_sentPacket_20 : decode cX9_sentPacket 20 = .ok (.ifCond .ne 10, 3) := by decide +kernel
theorem dX9_sentPacket_23 : decode cX9_sentPacket 23 = .ok (.aload_n 0, 1) := by decide +kernel
theorem dX9_sentPacket_24 : decode cX9_sentPacket 24 = .ok (.getfield 22, 3) := by decide +kernel
theorem dX9_sentPacket_27 : decode cX9_sentPacket 27 = .ok (.goto 7, 3) := by decide +kernel
theorem dX9_sentPacket_30 : decode cX9_sentPacket 30 = .ok (.aload_n 0, 1) := by decide +kernel
theorem dX9_sentPacket_31 : decode cX9_sentPacket 31 = .ok (.getfield 25, 3) := by decide +kernel
theorem dX9_sentPacket_34 : decode cX9_sentPacket 34 = .ok (.areturn, 1) := by decide +kernel
theorem dX9_stop_0 : decode cX9_stop 0 = .ok (.aload_n 0, 1) := by decide +kernel
theorem dX9_stop_1 : decode cX9_stop 1 = .ok (.iload_n 1, 1) := by decide +kernel
theorem dX9_stop_2 : decode cX9_stop 2 = .ok (.invokevirtual 190, 3) := by decide +kernel
theorem dX9_sum_0 : decode cX9_sum 0 = .ok (.aload_n 0, 1) := by decide +kernel
theorem dX9_sum_1 : decode cX9_sum 1 = .ok (.getfield 10, 3) := by decide +kernel
theorem dX9_sum_4 : decode cX9_sum 4 = .ok (.invokevirtual 76, 3) := by decide +kernel
theorem dX9_sum_7 : decode cX9_sum 7 = .ok (.bipush 20, 2) := by decide +kernel
theorem dX9_sum_9 : decode cX9_sum 9 = .ok (.if_icmp .ge 13, 3) := by decide +kernel
theorem dX9_sum_12 : decode cX9_sum 12 = .ok (.new 80, 3) := by decide +kernel
theorem dX9_sum_15 : decode cX9_sum 15 = .ok (.dup, 1) := by decide +kernel
theorem dX9_sum_16 : decode cX9_sum 16 = .ok (.ldc 131, 2) := by decide +kernel
theorem dX9_sum_18 : decode cX9_sum 18 = .ok (.invokespecial 84, 3) := by decide +kernel
theorem dX9_sum_21 : decode cX9_sum 21 = .ok (.athrow, 1) := by decide +kernel
theorem dX9_take_0 : decode cX9_take 0 = .ok (.aload_n 0, 1) := by decide +kernel
theorem dX9_take_1 : decode cX9_take 1 = .ok (.iload_n 1, 1) := by decide +kernel
theorem dX9_take_2 : decode cX9_take 2 = .ok (.invokevirtual 239, 3) := by decide +kernel
theorem dX9_take_5 : decode cX9_take 5 = .ok (.astore_n 2, 1) := by decide +kernel
theorem dX9_take_6 : decode cX9_take 6 = .ok (.aload_n 2, 1) := by decide +kernel
theorem dX9_take_7 : decode cX9_take 7 = .ok (.invokevirtual 76, 3) := by decide +kernel
theorem dX9_take_10 : decode cX9_take 10 = .ok (.ifCond .ne 13, 3) := by decide +kernel
theorem dX9_take_13 : decode cX9_take 13 = .ok (.new 80, 3) := by decide +kernel
theorem dX9_take_16 : decode cX9_take 16 = .ok (.dup, 1) := by decide +kernel
theorem dX9_take_17 : decode cX9_take 17 = .ok (.ldc 243, 2) := by decide +kernel
theorem dX9_take_19 : decode cX9_take 19 = .ok (.invokespecial 84, 3) := by decide +kernel
theorem dX9_take_22 : decode cX9_take 22 = .ok (.athrow, 1) := by decide +kernel
theorem dX9_throughInner_0 : decode cX9_throughInner 0 = .ok (.aload_n 0, 1) := by decide +kernel
theorem dX9_throughInner_1 : decode cX9_throughInner 1 = .ok (.getfield 16, 3) := by decide +kernel
theorem dX9_throughInner_4 : decode cX9_throughInner 4 = .ok (.invokevirtual 226, 3) := by decide +kernel
theorem dX9_throughInner_7 : decode cX9_throughInner 7 = .ok (.ifCond .eq 5, 3) := by decide +kernel
theorem dX9_throughInner_10 : decode cX9_throughInner 10 = .ok (.iconst 1, 1) := by decide +kernel
theorem dX9_throughInner_11 : decode cX9_throughInner 11 = .ok (.ireturn, 1) := by decide +kernel
theorem dX9_throughOuter_0 : decode cX9_throughOuter 0 = .ok (.aload_n 0, 1) := by decide +kernel
theorem dX9_throughOuter_1 : decode cX9_throughOuter 1 = .ok (.getfield 16, 3) := by decide +kernel
theorem dX9_throughOuter_4 : decode cX9_throughOuter 4 = .ok (.invokevirtual 226, 3) := by decide +kernel
theorem dX9_throughOuter_7 : decode cX9_throughOuter 7 = .ok (.ifCond .eq 5, 3) := by decide +kernel
theorem dX9_throughOuter_10 : decode cX9_throughOuter 10 = .ok (.iconst 1, 1) := by decide +kernel
theorem dX9_throughOuter_11 : decode cX9_throughOuter 11 = .ok (.ireturn, 1) := by decide +kernel
theorem dX9_tick_0 : decode cX9_tick 0 = .ok (.aload_n 0, 1) := by decide +kernel
theorem dX9_tick_1 : decode cX9_tick 1 = .ok (.getfield 59, 3) := by decide +kernel
theorem dX9_tick_4 : decode cX9_tick 4 = .ok (.invokevirtual 265, 3) := by decide +kernel
theorem dX9_tick_7 : decode cX9_tick 7 = .ok (.ireturn, 1) := by decide +kernel
theorem dX9_told_0 : decode cX9_told 0 = .ok (.aload_n 0, 1) := by decide +kernel
theorem dX9_told_1 : decode cX9_told 1 = .ok (.iload_n 1, 1) := by decide +kernel
theorem dX9_told_2 : decode cX9_told 2 = .ok (.invokevirtual 190, 3) := by decide +kernel
theorem dX9_top_0 : decode cX9_top 0 = .ok (.aload_n 0, 1) := by decide +kernel
theorem dX9_top_1 : decode cX9_top 1 = .ok (.iload_n 1, 1) := by decide +kernel
theorem dX9_top_2 : decode cX9_top 2 = .ok (.invokevirtual 190, 3) := by decide +kernel
theorem dX9_type_0 : decode cX9_type 0 = .ok (.aload_n 0, 1) := by decide +kernel
theorem dX9_type_1 : decode cX9_type 1 = .ok (.getfield 10, 3) := by decide +kernel
theorem dX9_type_4 : decode cX9_type 4 = .ok (.invokevirtual 76, 3) := by decide +kernel
theorem dX9_type_7 : decode cX9_type 7 = .ok (.istore_n 3, 1) := by decide +kernel
theorem dX9_type_8 : decode cX9_type 8 = .ok (.iload_n 3, 1) := by decide +kernel
theorem dX9_type_9 : decode cX9_type 9 = .ok (.bipush 8, 2) := by decide +kernel
theorem dX9_type_11 : decode cX9_type 11 = .ok (.iadd, 1) := by decide +kernel
theorem dX9_type_12 : decode cX9_type 12 = .ok (.sipush 2000, 3) := by decide +kernel
theorem dX9_type_15 : decode cX9_type 15 = .ok (.if_icmp .le 13, 3) := by decide +kernel
theorem dX9_type_28 : decode cX9_type 28 = .ok (.aload_n 0, 1) := by decide +kernel
theorem dX9_type_29 : decode cX9_type 29 = .ok (.getfield 10, 3) := by decide +kernel
theorem dX9_type_32 : decode cX9_type 32 = .ok (.iload_n 3, 1) := by decide +kernel
theorem dX9_type_33 : decode cX9_type 33 = .ok (.bipush 8, 2) := by decide +kernel
theorem dX9_type_35 : decode cX9_type 35 = .ok (.iadd, 1) := by decide +kernel
theorem dX9_type_36 : decode cX9_type 36 = .ok (.invokevirtual 87, 3) := by decide +kernel
theorem dX9_type_39 : decode cX9_type 39 = .ok (.aload_n 0, 1) := by decide +kernel
theorem dX9_type_40 : decode cX9_type 40 = .ok (.getfield 10, 3) := by decide +kernel
theorem dX9_type_43 : decode cX9_type 43 = .ok (.iload_n 3, 1) := by decide +kernel
theorem dX9_type_44 : decode cX9_type 44 = .ok (.lload_n 1, 1) := by decide +kernel
theorem dX9_type_45 : decode cX9_type 45 = .ok (.invokevirtual 91, 3) := by decide +kernel
theorem dX9_type_48 : decode cX9_type 48 = .ok (.aload_n 0, 1) := by decide +kernel
theorem dX9_type_49 : decode cX9_type 49 = .ok (.getfield 10, 3) := by decide +kernel
theorem dX9_type_52 : decode cX9_type 52 = .ok (.invokevirtual 76, 3) := by decide +kernel
theorem dX9_type_55 : decode cX9_type 55 = .ok (.ireturn, 1) := by decide +kernel
