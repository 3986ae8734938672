theorem dX9_sealNamed_28 : decode cX9_sealNamed 28 = .ok (.invokevirtual 245, 3) := by decide +kernel
theorem dX9_sealNamed_31 : decode cX9_sealNamed 31 = .ok (.iconst 1, 1) := by decide +kernel
theorem dX9_sealNamed_32 : decode cX9_sealNamed 32 = .ok (.if_icmp .ne 13, 3) := by decide +kernel
theorem dX9_sealNamed_35 : decode cX9_sealNamed 35 = .ok (.aload_n 3, 1) := by decide +kernel
theorem dX9_sealNamed_36 : decode cX9_sealNamed 36 = .ok (.invokevirtual 251, 3) := by decide +kernel
theorem dX9_sealNamed_39 : decode cX9_sealNamed 39 = .ok (.iload_n 1, 1) := by decide +kernel
theorem dX9_sealNamed_40 : decode cX9_sealNamed 40 = .ok (.if_icmp .ne 5, 3) := by decide +kernel
theorem dX9_sealNamed_43 : decode cX9_sealNamed 43 = .ok (.aload_n 3, 1) := by decide +kernel
theorem dX9_sealNamed_44 : decode cX9_sealNamed 44 = .ok (.areturn, 1) := by decide +kernel
theorem dX9_sealNamed_45 : decode cX9_sealNamed 45 = .ok (.iinc 2 1, 3) := by decide +kernel
theorem dX9_sealNamed_48 : decode cX9_sealNamed 48 = .ok (.goto (-46), 3) := by decide +kernel
theorem dX9_sealNamed_51 : decode cX9_sealNamed 51 = .ok (.aconst_null, 1) := by decide +kernel
theorem dX9_sealNamed_52 : decode cX9_sealNamed 52 = .ok (.areturn, 1) := by decide +kernel
theorem dX9_seen_0 : decode cX9_seen 0 = .ok (.aload_n 0, 1) := by decide +kernel
theorem dX9_seen_1 : decode cX9_seen 1 = .ok (.iload_n 1, 1) := by decide +kernel
theorem dX9_seen_2 : decode cX9_seen 2 = .ok (.invokevirtual 190, 3) := by decide +kernel
theorem dX9_seen_5 : decode cX9_seen 5 = .ok (.invokevirtual 262, 3) := by decide +kernel
theorem dX9_seen_8 : decode cX9_seen 8 = .ok (.lreturn, 1) := by decide +kernel
theorem dX9_send_0 : decode cX9_send 0 = .ok (.aload_n 0, 1) := by decide +kernel
theorem dX9_send_1 : decode cX9_send 1 = .ok (.iload_n 2, 1) := by decide +kernel
theorem dX9_send_2 : decode cX9_send 2 = .ok (.putfield 28, 3) := by decide +kernel
theorem dX9_send_5 : decode cX9_send 5 = .ok (.aload_n 1, 1) := by decide +kernel
theorem dX9_send_6 : decode cX9_send 6 = .ok (.invokevirtual 76, 3) := by decide +kernel
theorem dX9_send_9 : decode cX9_send 9 = .ok (.sipush 1500, 3) := by decide +kernel
theorem dX9_send_12 : decode cX9_send 12 = .ok (.if_icmp .gt 20, 3) := by decide +kernel
theorem dX9_send_15 : decode cX9_send 15 = .ok (.aload_n 0, 1) := by decide +kernel
theorem dX9_send_16 : decode cX9_send 16 = .ok (.getfield 22, 3) := by decide +kernel
theorem dX9_send_19 : decode cX9_send 19 = .ok (.aload_n 1, 1) := by decide +kernel
theorem dX9_send_20 : decode cX9_send 20 = .ok (.invokevirtual 214, 3) := by decide +kernel
theorem dX9_send_23 : decode cX9_send 23 = .ok (.aload_n 0, 1) := by decide +kernel
theorem dX9_send_24 : decode cX9_send 24 = .ok (.getfield 25, 3) := by decide +kernel
theorem dX9_send_27 : decode cX9_send 27 = .ok (.iconst 0, 1) := by decide +kernel
theorem dX9_send_28 : decode cX9_send 28 = .ok (.invokevirtual 87, 3) := by decide +kernel
theorem dX9_send_31 : decode cX9_send 31 = .ok (.return_, 1) := by decide +kernel
theorem dX9_send_32 : decode cX9_send 32 = .ok (.aload_n 0, 1) := by decide +kernel
theorem dX9_send_33 : decode cX9_send 33 = .ok (.getfield 22, 3) := by decide +kernel
theorem dX9_send_36 : decode cX9_send 36 = .ok (.aload_n 1, 1) := by decide +kernel
theorem dX9_send_37 : decode cX9_send 37 = .ok (.iconst 0, 1) := by decide +kernel
theorem dX9_send_38 : decode cX9_send 38 = .ok (.sipush 1480, 3) := by decide +kernel
theorem dX9_send_41 : decode cX9_send 41 = .ok (.invokevirtual 412, 3) := by decide +kernel
theorem dX9_send_44 : decode cX9_send 44 = .ok (.aload_n 0, 1) := by decide +kernel
theorem dX9_send_45 : decode cX9_send 45 = .ok (.getfield 22, 3) := by decide +kernel
theorem dX9_send_48 : decode cX9_send 48 = .ok (.invokevirtual 416, 3) := by decide +kernel
theorem dX9_send_51 : decode cX9_send 51 = .ok (.aload_n 0, 1) := by decide +kernel
theorem dX9_send_52 : decode cX9_send 52 = .ok (.getfield 22, 3) := by decide +kernel
theorem dX9_send_55 : decode cX9_send 55 = .ok (.invokevirtual 128, 3) := by decide +kernel
theorem dX9_send_58 : decode cX9_send 58 = .ok (.pop, 1) := by decide +kernel
theorem dX9_send_59 : decode cX9_send 59 = .ok (.aload_n 0, 1) := by decide +kernel
theorem dX9_send_60 : decode cX9_send 60 = .ok (.getfield 25, 3) := by decide +kernel
theorem dX9_send_63 : decode cX9_send 63 = .ok (.aload_n 1, 1) := by decide +kernel
theorem dX9_send_64 : decode cX9_send 64 = .ok (.sipush 1480, 3) := by decide +kernel
theorem dX9_send_67 : decode cX9_send 67 = .ok (.aload_n 1, 1) := by decide +kernel
theorem dX9_send_68 : decode cX9_send 68 = .ok (.invokevirtual 76, 3) := by decide +kernel
theorem dX9_send_71 : decode cX9_send 71 = .ok (.bipush 20, 2) := by decide +kernel
theorem dX9_send_73 : decode cX9_send 73 = .ok (.isub, 1) := by decide +kernel
theorem dX9_send_74 : decode cX9_send 74 = .ok (.sipush 1480, 3) := by decide +kernel
theorem dX9_send_77 : decode cX9_send 77 = .ok (.isub, 1) := by decide +kernel
theorem dX9_send_78 : decode cX9_send 78 = .ok (.invokevirtual 412, 3) := by decide +kernel
theorem dX9_send_81 : decode cX9_send 81 = .ok (.aload_n 0, 1) := by decide +kernel
theorem dX9_send_82 : decode cX9_send 82 = .ok (.getfield 25, 3) := by decide +kernel
theorem dX9_send_85 : decode cX9_send 85 = .ok (.sipush 185, 3) := by decide +kernel
theorem dX9_send_88 : decode cX9_send 88 = .ok (.invokevirtual 419, 3) := by decide +kernel
theorem dX9_send_91 : decode cX9_send 91 = .ok (.aload_n 0, 1) := by decide +kernel
theorem dX9_send_92 : decode cX9_send 92 = .ok (.getfield 25, 3) := by decide +kernel
theorem dX9_send_95 : decode cX9_send 95 = .ok (.invokevirtual 128, 3) := by decide +kernel
theorem dX9_send_98 : decode cX9_send 98 = .ok (.pop, 1) := by decide +kernel
theorem dX9_send_99 : decode cX9_send 99 = .ok (.return_, 1) := by decide +kernel
theorem dX9_sent_0 : decode cX9_sent 0 = .ok (.aload_n 0, 1) := by decide +kernel
theorem dX9_sent_1 : decode cX9_sent 1 = .ok (.iload_n 1, 1) := by decide +kernel
theorem dX9_sent_2 : decode cX9_sent 2 = .ok (.invokevirtual 239, 3) := by decide +kernel
theorem dX9_sent_5 : decode cX9_sent 5 = .ok (.astore_n 3, 1) := by decide +kernel
theorem dX9_sent_6 : decode cX9_sent 6 = .ok (.iload_n 2, 1) := by decide +kernel
theorem dX9_sent_7 : decode cX9_sent 7 = .ok (.iconst (-1), 1) := by decide +kernel
theorem dX9_sent_8 : decode cX9_sent 8 = .ok (.if_icmp .ne 8, 3) := by decide +kernel
theorem dX9_sent_11 : decode cX9_sent 11 = .ok (.aload_n 3, 1) := by decide +kernel
theorem dX9_sent_12 : decode cX9_sent 12 = .ok (.invokevirtual 76, 3) := by decide +kernel
theorem dX9_sent_15 : decode cX9_sent 15 = .ok (.ireturn, 1) := by decide +kernel
theorem dX9_sent_16 : decode cX9_sent 16 = .ok (.iload_n 2, 1) := by decide +kernel
theorem dX9_sent_17 : decode cX9_sent 17 = .ok (.bipush (-2), 2) := by decide +kernel
theorem dX9_sent_19 : decode cX9_sent 19 = .ok (.if_icmp .ne 19, 3) := by decide +kernel
theorem dX9_sent_22 : decode cX9_sent 22 = .ok (.aload_n 3, 1) := by decide +kernel
theorem dX9_sent_23 : decode cX9_sent 23 = .ok (.invokevirtual 76, 3) := by decide +kernel
theorem dX9_sent_26 : decode cX9_sent 26 = .ok (.ifCond .ne 7, 3) := by decide +kernel
theorem dX9_sent_29 : decode cX9_sent 29 = .ok (.iconst (-1), 1) := by decide +kernel
theorem dX9_sent_30 : decode cX9_sent 30 = .ok (.goto 7, 3) := by decide +kernel
theorem dX9_sent_33 : decode cX9_sent 33 = .ok (.aload_n 0, 1) := by decide +kernel
theorem dX9_sent_34 : decode cX9_sent 34 = .ok (.getfield 28, 3) := by decide +kernel
theorem dX9_sent_37 : decode cX9_sent 37 = .ok (.ireturn, 1) := by decide +kernel
theorem dX9_sent_38 : decode cX9_sent 38 = .ok (.iload_n 2, 1) := by decide +kernel
theorem dX9_sent_39 : decode cX9_sent 39 = .ok (.ifCond .lt 11, 3) := by decide +kernel
theorem dX9_sent_42 : decode cX9_sent 42 = .ok (.iload_n 2, 1) := by decide +kernel
theorem dX9_sent_43 : decode cX9_sent 43 = .ok (.aload_n 3, 1) := by decide +kernel
theorem dX9_sent_44 : decode cX9_sent 44 = .ok (.invokevirtual 76, 3) := by decide +kernel
theorem dX9_sent_47 : decode cX9_sent 47 = .ok (.if_icmp .lt 13, 3) := by decide +kernel
theorem dX9_sent_50 : decode cX9_sent 50 = .ok (.new 114, 3) := by decide +kernel
theorem dX9_sent_53 : decode cX9_sent 53 = .ok (.dup, 1) := by decide +kernel
theorem dX9_sent_54 : decode cX9_sent 54 = .ok (.ldc 116, 2) := by decide +kernel
theorem dX9_sent_56 : decode cX9_sent 56 = .ok (.invokespecial 118, 3) := by decide +kernel
theorem dX9_sent_59 : decode cX9_sent 59 = .ok (.athrow, 1) := by decide +kernel
theorem dX9_sent_60 : decode cX9_sent 60 = .ok (.aload_n 3, 1) := by decide +kernel
theorem dX9_sent_61 : decode cX9_sent 61 = .ok (.iload_n 2, 1) := by decide +kernel
theorem dX9_sent_62 : decode cX9_sent 62 = .ok (.invokevirtual 119, 3) := by decide +kernel
theorem dX9_sent_65 : decode cX9_sent 65 = .ok (.ireturn, 1) := by decide +kernel
theorem dX9_sentPacket_0 : decode cX9_sentPacket 0 = .ok (.iload_n 1, 1) := by decide +kernel
theorem dX9_sentPacket_1 : decode cX9_sentPacket 1 = .ok (.ifCond .eq 18, 3) := by decide +kernel
theorem dX9_sentPacket_4 : decode cX9_sentPacket 4 = .ok (.iload_n 1, 1) := by decide +kernel
theorem dX9_sentPacket_5 : decode cX9_sentPacket 5 = .ok (.iconst 1, 1) := by decide +kernel
theorem dX9_sentPacket_6 : decode cX9_sentPacket 6 = .ok (.if_icmp .eq 13, 3) := by decide +kernel
theorem dX9_sentPacket_9 : decode cX9_sentPacket 9 = .ok (.new 114, 3) := by decide +kernel
theorem dX9_sentPacket_12 : decode cX9_sentPacket 12 = .ok (.dup, 1) := by decide +kernel
theorem dX9_sentPacket_13 : decode cX9_sentPacket 13 = .ok (.ldc 122, 2) := by decide +kernel
theorem dX9_sentPacket_15 : decode cX9_sentPacket 15 = .ok (.invokespecial 118, 3) := by decide +kernel
theorem dX9_sentPacket_18 : decode cX9_sentPacket 18 = .ok (.athrow, 1) := by decide +kernel
theorem dX9_sentPacket_19 : decode cX9_sentPacket 19 = .ok (.iload_n 1, 1) := by decide +kernel
theorem dX9_sentPacket_20 : decode cX9_sentPacket 20 = .ok (.ifCond .ne 10, 3) := by decide +kernel
theorem dX9_sentPacket_23 : decode cX9_sentPacket 23 = .ok (.aload_n 0, 1) := by decide +kernel
theorem dX9_sentPacket_24 : decode cX9_sentPacket 24 = .ok (.getfield 22, 3) := by decide +kernel
theorem dX9_sentPacket_27 : decode cX9_sentPacket 27 = .ok (.goto 7, 3) := by decide +kernel
theorem dX9_sentPacket_30 : decode cX9_sentPacket 30 = .ok (.aload_n 0, 1) := by decide +kernel
theorem dX9_sentPacket_31 : decode cX9_sentPacket 31 = .ok (.getfield 25, 3) := by decide +kernel
theorem dX9_sentPacket_34 : decode cX9_sentPacket 34 = .ok (.areturn, 1) := by decide +kernel
theorem dX9_stop_0 : decode cX9_stop 0 = .ok (.aload_n 0, 1) := by decide +kernel
theorem dX9_stop_1 : decode cX9_stop 1 = .ok (.iload_n 1, 1) := by decide +kernel
theorem dX9_stop_2 : decode cX9_stop 2 = .ok (.invokevirtual 190, 3) := by decide +kernel
theorem dX9_stop_5 : decode cX9_stop 5 = .ok (.astore_n 2, 1) := by decide +kernel
theorem dX9_stop_6 : decode cX9_stop 6 = .ok (.aload_n 2, 1) := by decide +kernel
theorem dX9_stop_7 : decode cX9_stop 7 = .ok (.invokevirtual 193, 3) := by decide +kernel
theorem dX9_stop_10 : decode cX9_stop 10 = .ok (.ifCond .ne 7, 3) := by decide +kernel
theorem dX9_stop_13 : decode cX9_stop 13 = .ok (.iconst 1, 1) := by decide +kernel
theorem dX9_stop_14 : decode cX9_stop 14 = .ok (.goto 4, 3) := by decide +kernel
theorem dX9_stop_17 : decode cX9_stop 17 = .ok (.iconst 0, 1) := by decide +kernel
theorem dX9_stop_18 : decode cX9_stop 18 = .ok (.istore_n 3, 1) := by decide +kernel
theorem dX9_stop_19 : decode cX9_stop 19 = .ok (.aload_n 2, 1) := by decide +kernel
theorem dX9_stop_20 : decode cX9_stop 20 = .ok (.invokevirtual 196, 3) := by decide +kernel
theorem dX9_stop_23 : decode cX9_stop 23 = .ok (.iload_n 3, 1) := by decide +kernel
theorem dX9_stop_24 : decode cX9_stop 24 = .ok (.ireturn, 1) := by decide +kernel
theorem dX9_sum_0 : decode cX9_sum 0 = .ok (.aload_n 0, 1) := by decide +kernel
theorem dX9_sum_1 : decode cX9_sum 1 = .ok (.getfield 10, 3) := by decide +kernel
theorem dX9_sum_4 : decode cX9_sum 4 = .ok (.invokevirtual 76, 3) := by decide +kernel
theorem dX9_sum_7 : decode cX9_sum 7 = .ok (.bipush 20, 2) := by decide +kernel
theorem dX9_sum_9 : decode cX9_sum 9 = .ok (.if_icmp .ge 13, 3) := by decide +kernel
theorem dX9_sum_12 : decode cX9_sum 12 = .ok (.new 80, 3) := by decide +kernel
theorem dX9_sum_15 : decode cX9_sum 15 = .ok (.dup, 1) := by decide +kernel
theorem dX9_sum_16 : decode cX9_sum 16 = .ok (.ldc 131, 2) := by decide +kernel
theorem dX9_sum_18 : decode cX9_sum 18 = .ok (.invokespecial 84, 3) := by decide +kernel
theorem dX9_sum_21 : decode cX9_sum 21 = .ok (.athrow, 1) := by decide +kernel
theorem dX9_sum_22 : decode cX9_sum 22 = .ok (.aload_n 0, 1) := by decide +kernel
theorem dX9_sum_23 : decode cX9_sum 23 = .ok (.getfield 10, 3) := by decide +kernel
theorem dX9_sum_26 : decode cX9_sum 26 = .ok (.invokevirtual 128, 3) := by decide +kernel
theorem dX9_sum_29 : decode cX9_sum 29 = .ok (.ireturn, 1) := by decide +kernel
theorem dX9_take_0 : decode cX9_take 0 = .ok (.aload_n 0, 1) := by decide +kernel
theorem dX9_take_1 : decode cX9_take 1 = .ok (.iload_n 1, 1) := by decide +kernel
theorem dX9_take_2 : decode cX9_take 2 = .ok (.invokevirtual 239, 3) := by decide +kernel
theorem dX9_take_5 : decode cX9_take 5 = .ok (.astore_n 2, 1) := by decide +kernel
theorem dX9_take_6 : decode cX9_take 6 = .ok (.aload_n 2, 1) := by decide +kernel
theorem dX9_take_7 : decode cX9_take 7 = .ok (.invokevirtual 76, 3) := by decide +kernel
theorem dX9_take_10 : decode cX9_take 10 = .ok (.ifCond .ne 13, 3) := by decide +kernel
theorem dX9_take_13 : decode cX9_take 13 = .ok (.new 80, 3) := by decide +kernel
theorem dX9_take_16 : decode cX9_take 16 = .ok (.dup, 1) := by decide +kernel
theorem dX9_take_17 : decode cX9_take 17 = .ok (.ldc 243, 2) := by decide +kernel
theorem dX9_take_19 : decode cX9_take 19 = .ok (.invokespecial 84, 3) := by decide +kernel
theorem dX9_take_22 : decode cX9_take 22 = .ok (.athrow, 1) := by decide +kernel
theorem dX9_take_23 : decode cX9_take 23 = .ok (.aload_n 0, 1) := by decide +kernel
theorem dX9_take_24 : decode cX9_take 24 = .ok (.getfield 10, 3) := by decide +kernel
theorem dX9_take_27 : decode cX9_take 27 = .ok (.aload_n 2, 1) := by decide +kernel
theorem dX9_take_28 : decode cX9_take 28 = .ok (.invokevirtual 214, 3) := by decide +kernel
theorem dX9_take_31 : decode cX9_take 31 = .ok (.aload_n 0, 1) := by decide +kernel
theorem dX9_take_32 : decode cX9_take 32 = .ok (.getfield 10, 3) := by decide +kernel
theorem dX9_take_35 : decode cX9_take 35 = .ok (.invokevirtual 76, 3) := by decide +kernel
theorem dX9_take_38 : decode cX9_take 38 = .ok (.ireturn, 1) := by decide +kernel
theorem dX9_throughInner_0 : decode cX9_throughInner 0 = .ok (.aload_n 0, 1) := by decide +kernel
theorem dX9_throughInner_1 : decode cX9_throughInner 1 = .ok (.getfield 16, 3) := by decide +kernel
theorem dX9_throughInner_4 : decode cX9_throughInner 4 = .ok (.invokevirtual 226, 3) := by decide +kernel
theorem dX9_throughInner_7 : decode cX9_throughInner 7 = .ok (.ifCond .eq 5, 3) := by decide +kernel
theorem dX9_throughInner_10 : decode cX9_throughInner 10 = .ok (.iconst 1, 1) := by decide +kernel
theorem dX9_throughInner_11 : decode cX9_throughInner 11 = .ok (.ireturn, 1) := by decide +kernel
theorem dX9_throughInner_12 : decode cX9_throughInner 12 = .ok (.aload_n 0, 1) := by decide +kernel
theorem dX9_throughInner_13 : decode cX9_throughInner 13 = .ok (.getfield 16, 3) := by decide +kernel
theorem dX9_throughInner_16 : decode cX9_throughInner 16 = .ok (.invokevirtual 229, 3) := by decide +kernel
theorem dX9_throughInner_19 : decode cX9_throughInner 19 = .ok (.aload_n 0, 1) := by decide +kernel
theorem dX9_throughInner_20 : decode cX9_throughInner 20 = .ok (.getfield 16, 3) := by decide +kernel
theorem dX9_throughInner_23 : decode cX9_throughInner 23 = .ok (.invokevirtual 293, 3) := by decide +kernel
theorem dX9_throughInner_26 : decode cX9_throughInner 26 = .ok (.iconst 1, 1) := by decide +kernel
theorem dX9_throughInner_27 : decode cX9_throughInner 27 = .ok (.if_icmp .gt 5, 3) := by decide +kernel
theorem dX9_throughInner_30 : decode cX9_throughInner 30 = .ok (.iconst 2, 1) := by decide +kernel
theorem dX9_throughInner_31 : decode cX9_throughInner 31 = .ok (.ireturn, 1) := by decide +kernel
theorem dX9_throughInner_32 : decode cX9_throughInner 32 = .ok (.aload_n 0, 1) := by decide +kernel
theorem dX9_throughInner_33 : decode cX9_throughInner 33 = .ok (.getfield 35, 3) := by decide +kernel
theorem dX9_throughInner_36 : decode cX9_throughInner 36 = .ok (.aload_n 0, 1) := by decide +kernel
theorem dX9_throughInner_37 : decode cX9_throughInner 37 = .ok (.getfield 16, 3) := by decide +kernel
theorem dX9_throughInner_40 : decode cX9_throughInner 40 = .ok (.invokevirtual 296, 3) := by decide +kernel
theorem dX9_throughInner_43 : decode cX9_throughInner 43 = .ok (.invokevirtual 236, 3) := by decide +kernel
theorem dX9_throughInner_46 : decode cX9_throughInner 46 = .ok (.iconst 1, 1) := by decide +kernel
theorem dX9_throughInner_47 : decode cX9_throughInner 47 = .ok (.if_icmp .eq 5, 3) := by decide +kernel
theorem dX9_throughInner_50 : decode cX9_throughInner 50 = .ok (.iconst 3, 1) := by decide +kernel
theorem dX9_throughInner_51 : decode cX9_throughInner 51 = .ok (.ireturn, 1) := by decide +kernel
theorem dX9_throughInner_52 : decode cX9_throughInner 52 = .ok (.aload_n 0, 1) := by decide +kernel
theorem dX9_throughInner_53 : decode cX9_throughInner 53 = .ok (.getfield 42, 3) := by decide +kernel
theorem dX9_throughInner_56 : decode cX9_throughInner 56 = .ok (.iconst 0, 1) := by decide +kernel
theorem dX9_throughInner_57 : decode cX9_throughInner 57 = .ok (.aload_n 0, 1) := by decide +kernel
theorem dX9_throughInner_58 : decode cX9_throughInner 58 = .ok (.getfield 16, 3) := by decide +kernel
theorem dX9_throughInner_61 : decode cX9_throughInner 61 = .ok (.invokevirtual 299, 3) := by decide +kernel
theorem dX9_throughInner_64 : decode cX9_throughInner 64 = .ok (.istore_n 1, 1) := by decide +kernel
theorem dX9_throughInner_65 : decode cX9_throughInner 65 = .ok (.iload_n 1, 1) := by decide +kernel
theorem dX9_throughInner_66 : decode cX9_throughInner 66 = .ok (.bipush (-2), 2) := by decide +kernel
theorem dX9_throughInner_68 : decode cX9_throughInner 68 = .ok (.if_icmp .ne 5, 3) := by decide +kernel
theorem dX9_throughInner_71 : decode cX9_throughInner 71 = .ok (.iconst 4, 1) := by decide +kernel
theorem dX9_throughInner_72 : decode cX9_throughInner 72 = .ok (.ireturn, 1) := by decide +kernel
theorem dX9_throughInner_73 : decode cX9_throughInner 73 = .ok (.iload_n 1, 1) := by decide +kernel
theorem dX9_throughInner_74 : decode cX9_throughInner 74 = .ok (.iconst (-1), 1) := by decide +kernel
theorem dX9_throughInner_75 : decode cX9_throughInner 75 = .ok (.if_icmp .ne 15, 3) := by decide +kernel
theorem dX9_throughInner_78 : decode cX9_throughInner 78 = .ok (.aload_n 0, 1) := by decide +kernel
theorem dX9_throughInner_79 : decode cX9_throughInner 79 = .ok (.aload_n 0, 1) := by decide +kernel
theorem dX9_throughInner_80 : decode cX9_throughInner 80 = .ok (.getfield 16, 3) := by decide +kernel
theorem dX9_throughInner_83 : decode cX9_throughInner 83 = .ok (.iconst 1, 1) := by decide +kernel
theorem dX9_throughInner_84 : decode cX9_throughInner 84 = .ok (.invokevirtual 302, 3) := by decide +kernel
theorem dX9_throughInner_87 : decode cX9_throughInner 87 = .ok (.goto 8, 3) := by decide +kernel
theorem dX9_throughInner_90 : decode cX9_throughInner 90 = .ok (.aload_n 0, 1) := by decide +kernel
theorem dX9_throughInner_91 : decode cX9_throughInner 91 = .ok (.iload_n 1, 1) := by decide +kernel
theorem dX9_throughInner_92 : decode cX9_throughInner 92 = .ok (.invokevirtual 306, 3) := by decide +kernel
theorem dX9_throughInner_95 : decode cX9_throughInner 95 = .ok (.ireturn, 1) := by decide +kernel
theorem dX9_throughOuter_0 : decode cX9_throughOuter 0 = .ok (.aload_n 0, 1) := by decide +kernel
theorem dX9_throughOuter_1 : decode cX9_throughOuter 1 = .ok (.getfield 16, 3) := by decide +kernel
theorem dX9_throughOuter_4 : decode cX9_throughOuter 4 = .ok (.invokevirtual 226, 3) := by decide +kernel
theorem dX9_throughOuter_7 : decode cX9_throughOuter 7 = .ok (.ifCond .eq 5, 3) := by decide +kernel
theorem dX9_throughOuter_10 : decode cX9_throughOuter 10 = .ok (.iconst 1, 1) := by decide +kernel
theorem dX9_throughOuter_11 : decode cX9_throughOuter 11 = .ok (.ireturn, 1) := by decide +kernel
theorem dX9_throughOuter_12 : decode cX9_throughOuter 12 = .ok (.aload_n 0, 1) := by decide +kernel
theorem dX9_throughOuter_13 : decode cX9_throughOuter 13 = .ok (.getfield 16, 3) := by decide +kernel
theorem dX9_throughOuter_16 : decode cX9_throughOuter 16 = .ok (.invokevirtual 229, 3) := by decide +kernel
theorem dX9_throughOuter_19 : decode cX9_throughOuter 19 = .ok (.aload_n 0, 1) := by decide +kernel
theorem dX9_throughOuter_20 : decode cX9_throughOuter 20 = .ok (.getfield 16, 3) := by decide +kernel
theorem dX9_throughOuter_23 : decode cX9_throughOuter 23 = .ok (.invokevirtual 344, 3) := by decide +kernel
theorem dX9_throughOuter_26 : decode cX9_throughOuter 26 = .ok (.bipush 50, 2) := by decide +kernel
theorem dX9_throughOuter_28 : decode cX9_throughOuter 28 = .ok (.if_icmp .ne 17, 3) := by decide +kernel
theorem dX9_throughOuter_31 : decode cX9_throughOuter 31 = .ok (.aload_n 0, 1) := by decide +kernel
theorem dX9_throughOuter_32 : decode cX9_throughOuter 32 = .ok (.getfield 16, 3) := by decide +kernel
theorem dX9_throughOuter_35 : decode cX9_throughOuter 35 = .ok (.invokevirtual 296, 3) := by decide +kernel
theorem dX9_throughOuter_38 : decode cX9_throughOuter 38 = .ok (.aload_n 0, 1) := by decide +kernel
theorem dX9_throughOuter_39 : decode cX9_throughOuter 39 = .ok (.getfield 73, 3) := by decide +kernel
theorem dX9_throughOuter_42 : decode cX9_throughOuter 42 = .ok (.if_icmp .eq 15, 3) := by decide +kernel
theorem dX9_throughOuter_45 : decode cX9_throughOuter 45 = .ok (.aload_n 0, 1) := by decide +kernel
theorem dX9_throughOuter_46 : decode cX9_throughOuter 46 = .ok (.aload_n 0, 1) := by decide +kernel
theorem dX9_throughOuter_47 : decode cX9_throughOuter 47 = .ok (.getfield 16, 3) := by decide +kernel
theorem dX9_throughOuter_50 : decode cX9_throughOuter 50 = .ok (.iconst (-1), 1) := by decide +kernel
theorem dX9_throughOuter_51 : decode cX9_throughOuter 51 = .ok (.iconst 0, 1) := by decide +kernel
theorem dX9_throughOuter_52 : decode cX9_throughOuter 52 = .ok (.iconst 0, 1) := by decide +kernel
theorem dX9_throughOuter_53 : decode cX9_throughOuter 53 = .ok (.invokevirtual 347, 3) := by decide +kernel
theorem dX9_throughOuter_56 : decode cX9_throughOuter 56 = .ok (.ireturn, 1) := by decide +kernel
theorem dX9_throughOuter_57 : decode cX9_throughOuter 57 = .ok (.aload_n 0, 1) := by decide +kernel
theorem dX9_throughOuter_58 : decode cX9_throughOuter 58 = .ok (.getfield 16, 3) := by decide +kernel
theorem dX9_throughOuter_61 : decode cX9_throughOuter 61 = .ok (.invokevirtual 351, 3) := by decide +kernel
theorem dX9_throughOuter_64 : decode cX9_throughOuter 64 = .ok (.ifCond .eq 37, 3) := by decide +kernel
theorem dX9_throughOuter_67 : decode cX9_throughOuter 67 = .ok (.aload_n 0, 1) := by decide +kernel
theorem dX9_throughOuter_68 : decode cX9_throughOuter 68 = .ok (.getfield 59, 3) := by decide +kernel
theorem dX9_throughOuter_71 : decode cX9_throughOuter 71 = .ok (.aload_n 0, 1) := by decide +kernel
theorem dX9_throughOuter_72 : decode cX9_throughOuter 72 = .ok (.getfield 16, 3) := by decide +kernel
theorem dX9_throughOuter_75 : decode cX9_throughOuter 75 = .ok (.invokevirtual 354, 3) := by decide +kernel
theorem dX9_throughOuter_78 : decode cX9_throughOuter 78 = .ok (.ifCond .ne 6, 3) := by decide +kernel
theorem dX9_throughOuter_81 : decode cX9_throughOuter 81 = .ok (.bipush 17, 2) := by decide +kernel
theorem dX9_throughOuter_83 : decode cX9_throughOuter 83 = .ok (.ireturn, 1) := by decide +kernel
theorem dX9_throughOuter_84 : decode cX9_throughOuter 84 = .ok (.aload_n 0, 1) := by decide +kernel
theorem dX9_throughOuter_85 : decode cX9_throughOuter 85 = .ok (.getfield 59, 3) := by decide +kernel
theorem dX9_throughOuter_88 : decode cX9_throughOuter 88 = .ok (.aload_n 0, 1) := by decide +kernel
theorem dX9_throughOuter_89 : decode cX9_throughOuter 89 = .ok (.getfield 16, 3) := by decide +kernel
theorem dX9_throughOuter_92 : decode cX9_throughOuter 92 = .ok (.invokevirtual 358, 3) := by decide +kernel
theorem dX9_throughOuter_95 : decode cX9_throughOuter 95 = .ok (.ifCond .ne 6, 3) := by decide +kernel
theorem dX9_throughOuter_98 : decode cX9_throughOuter 98 = .ok (.bipush 7, 2) := by decide +kernel
theorem dX9_throughOuter_100 : decode cX9_throughOuter 100 = .ok (.ireturn, 1) := by decide +kernel
theorem dX9_throughOuter_101 : decode cX9_throughOuter 101 = .ok (.aload_n 0, 1) := by decide +kernel
theorem dX9_throughOuter_102 : decode cX9_throughOuter 102 = .ok (.getfield 16, 3) := by decide +kernel
theorem dX9_throughOuter_105 : decode cX9_throughOuter 105 = .ok (.invokestatic 361, 3) := by decide +kernel
theorem dX9_throughOuter_108 : decode cX9_throughOuter 108 = .ok (.ifCond .ne 6, 3) := by decide +kernel
theorem dX9_throughOuter_111 : decode cX9_throughOuter 111 = .ok (.bipush 8, 2) := by decide +kernel
theorem dX9_throughOuter_113 : decode cX9_throughOuter 113 = .ok (.ireturn, 1) := by decide +kernel
theorem dX9_throughOuter_114 : decode cX9_throughOuter 114 = .ok (.aload_n 0, 1) := by decide +kernel
theorem dX9_throughOuter_115 : decode cX9_throughOuter 115 = .ok (.getfield 16, 3) := by decide +kernel
theorem dX9_throughOuter_118 : decode cX9_throughOuter 118 = .ok (.invokestatic 364, 3) := by decide +kernel
theorem dX9_throughOuter_121 : decode cX9_throughOuter 121 = .ok (.istore_n 1, 1) := by decide +kernel
theorem dX9_throughOuter_122 : decode cX9_throughOuter 122 = .ok (.aload_n 0, 1) := by decide +kernel
theorem dX9_throughOuter_123 : decode cX9_throughOuter 123 = .ok (.getfield 16, 3) := by decide +kernel
theorem dX9_throughOuter_126 : decode cX9_throughOuter 126 = .ok (.invokestatic 367, 3) := by decide +kernel
theorem dX9_throughOuter_129 : decode cX9_throughOuter 129 = .ok (.istore_n 2, 1) := by decide +kernel
theorem dX9_throughOuter_130 : decode cX9_throughOuter 130 = .ok (.aload_n 0, 1) := by decide +kernel
theorem dX9_throughOuter_131 : decode cX9_throughOuter 131 = .ok (.iload_n 1, 1) := by decide +kernel
theorem dX9_throughOuter_132 : decode cX9_throughOuter 132 = .ok (.invokevirtual 181, 3) := by decide +kernel
theorem dX9_throughOuter_135 : decode cX9_throughOuter 135 = .ok (.astore_n 3, 1) := by decide +kernel
theorem dX9_throughOuter_136 : decode cX9_throughOuter 136 = .ok (.aload_n 0, 1) := by decide +kernel
theorem dX9_throughOuter_137 : decode cX9_throughOuter 137 = .ok (.aload_n 3, 1) := by decide +kernel
theorem dX9_throughOuter_138 : decode cX9_throughOuter 138 = .ok (.iload_n 2, 1) := by decide +kernel
theorem dX9_throughOuter_139 : decode cX9_throughOuter 139 = .ok (.invokevirtual 370, 3) := by decide +kernel
theorem dX9_throughOuter_142 : decode cX9_throughOuter 142 = .ok (.istore 4, 2) := by decide +kernel
theorem dX9_throughOuter_144 : decode cX9_throughOuter 144 = .ok (.iload 4, 2) := by decide +kernel
theorem dX9_throughOuter_146 : decode cX9_throughOuter 146 = .ok (.bipush 9, 2) := by decide +kernel
theorem dX9_throughOuter_148 : decode cX9_throughOuter 148 = .ok (.if_icmp .lt 25, 3) := by decide +kernel
theorem dX9_throughOuter_151 : decode cX9_throughOuter 151 = .ok (.iload 4, 2) := by decide +kernel
theorem dX9_throughOuter_153 : decode cX9_throughOuter 153 = .ok (.bipush 12, 2) := by decide +kernel
theorem dX9_throughOuter_155 : decode cX9_throughOuter 155 = .ok (.if_icmp .gt 18, 3) := by decide +kernel
theorem dX9_throughOuter_158 : decode cX9_throughOuter 158 = .ok (.aload_n 0, 1) := by decide +kernel
theorem dX9_throughOuter_159 : decode cX9_throughOuter 159 = .ok (.getfield 66, 3) := by decide +kernel
theorem dX9_throughOuter_162 : decode cX9_throughOuter 162 = .ok (.iload 4, 2) := by decide +kernel
theorem dX9_throughOuter_164 : decode cX9_throughOuter 164 = .ok (.aload_n 0, 1) := by decide +kernel
theorem dX9_throughOuter_165 : decode cX9_throughOuter 165 = .ok (.getfield 16, 3) := by decide +kernel
theorem dX9_throughOuter_168 : decode cX9_throughOuter 168 = .ok (.iload_n 1, 1) := by decide +kernel
theorem dX9_throughOuter_169 : decode cX9_throughOuter 169 = .ok (.iload_n 2, 1) := by decide +kernel
theorem dX9_throughOuter_170 : decode cX9_throughOuter 170 = .ok (.invokevirtual 374, 3) := by decide +kernel
theorem dX9_throughOuter_173 : decode cX9_throughOuter 173 = .ok (.aload_n 3, 1) := by decide +kernel
theorem dX9_throughOuter_174 : decode cX9_throughOuter 174 = .ok (.ifnull 8, 3) := by decide +kernel
theorem dX9_throughOuter_177 : decode cX9_throughOuter 177 = .ok (.iload 4, 2) := by decide +kernel
theorem dX9_throughOuter_179 : decode cX9_throughOuter 179 = .ok (.ifCond .eq 8, 3) := by decide +kernel
theorem dX9_throughOuter_182 : decode cX9_throughOuter 182 = .ok (.iload 4, 2) := by decide +kernel
theorem dX9_throughOuter_184 : decode cX9_throughOuter 184 = .ok (.goto 17, 3) := by decide +kernel
theorem dX9_throughOuter_187 : decode cX9_throughOuter 187 = .ok (.aload_n 0, 1) := by decide +kernel
theorem dX9_throughOuter_188 : decode cX9_throughOuter 188 = .ok (.aload_n 0, 1) := by decide +kernel
theorem dX9_throughOuter_189 : decode cX9_throughOuter 189 = .ok (.getfield 19, 3) := by decide +kernel
theorem dX9_throughOuter_192 : decode cX9_throughOuter 192 = .ok (.aload_n 3, 1) := by decide +kernel
theorem dX9_throughOuter_193 : decode cX9_throughOuter 193 = .ok (.invokevirtual 248, 3) := by decide +kernel
theorem dX9_throughOuter_196 : decode cX9_throughOuter 196 = .ok (.iload_n 1, 1) := by decide +kernel
theorem dX9_throughOuter_197 : decode cX9_throughOuter 197 = .ok (.iload_n 2, 1) := by decide +kernel
theorem dX9_throughOuter_198 : decode cX9_throughOuter 198 = .ok (.invokevirtual 347, 3) := by decide +kernel
theorem dX9_throughOuter_201 : decode cX9_throughOuter 201 = .ok (.ireturn, 1) := by decide +kernel
theorem dX9_tick_0 : decode cX9_tick 0 = .ok (.aload_n 0, 1) := by decide +kernel
theorem dX9_tick_1 : decode cX9_tick 1 = .ok (.getfield 59, 3) := by decide +kernel
theorem dX9_tick_4 : decode cX9_tick 4 = .ok (.invokevirtual 265, 3) := by decide +kernel
theorem dX9_tick_7 : decode cX9_tick 7 = .ok (.ireturn, 1) := by decide +kernel
theorem dX9_told_0 : decode cX9_told 0 = .ok (.aload_n 0, 1) := by decide +kernel
theorem dX9_told_1 : decode cX9_told 1 = .ok (.iload_n 1, 1) := by decide +kernel
theorem dX9_told_2 : decode cX9_told 2 = .ok (.invokevirtual 190, 3) := by decide +kernel
theorem dX9_told_5 : decode cX9_told 5 = .ok (.astore_n 3, 1) := by decide +kernel
theorem dX9_told_6 : decode cX9_told 6 = .ok (.iload_n 2, 1) := by decide +kernel
theorem dX9_told_7 : decode cX9_told 7 = .ok (.tableswitch 83 0 5 #[37, 42, 47, 52, 57, 70], 37) := by decide +kernel
theorem dX9_told_44 : decode cX9_told 44 = .ok (.aload_n 3, 1) := by decide +kernel
theorem dX9_told_45 : decode cX9_told 45 = .ok (.invokevirtual 245, 3) := by decide +kernel
theorem dX9_told_48 : decode cX9_told 48 = .ok (.ireturn, 1) := by decide +kernel
theorem dX9_told_49 : decode cX9_told 49 = .ok (.aload_n 3, 1) := by decide +kernel
theorem dX9_told_50 : decode cX9_told 50 = .ok (.invokevirtual 248, 3) := by decide +kernel
theorem dX9_told_53 : decode cX9_told 53 = .ok (.ireturn, 1) := by decide +kernel
theorem dX9_told_54 : decode cX9_told 54 = .ok (.aload_n 3, 1) := by decide +kernel
theorem dX9_told_55 : decode cX9_told 55 = .ok (.invokevirtual 251, 3) := by decide +kernel
theorem dX9_told_58 : decode cX9_told 58 = .ok (.ireturn, 1) := by decide +kernel
theorem dX9_told_59 : decode cX9_told 59 = .ok (.aload_n 3, 1) := by decide +kernel
theorem dX9_told_60 : decode cX9_told 60 = .ok (.invokevirtual 254, 3) := by decide +kernel
theorem dX9_told_63 : decode cX9_told 63 = .ok (.ireturn, 1) := by decide +kernel
theorem dX9_told_64 : decode cX9_told 64 = .ok (.aload_n 3, 1) := by decide +kernel
theorem dX9_told_65 : decode cX9_told 65 = .ok (.invokevirtual 193, 3) := by decide +kernel
theorem dX9_told_68 : decode cX9_told 68 = .ok (.ifCond .eq 7, 3) := by decide +kernel
theorem dX9_told_71 : decode cX9_told 71 = .ok (.iconst 1, 1) := by decide +kernel
theorem dX9_told_72 : decode cX9_told 72 = .ok (.goto 4, 3) := by decide +kernel
theorem dX9_told_75 : decode cX9_told 75 = .ok (.iconst 0, 1) := by decide +kernel
theorem dX9_told_76 : decode cX9_told 76 = .ok (.ireturn, 1) := by decide +kernel
theorem dX9_told_77 : decode cX9_told 77 = .ok (.aload_n 3, 1) := by decide +kernel
theorem dX9_told_78 : decode cX9_told 78 = .ok (.invokevirtual 257, 3) := by decide +kernel
theorem dX9_told_81 : decode cX9_told 81 = .ok (.ifCond .eq 7, 3) := by decide +kernel
theorem dX9_told_84 : decode cX9_told 84 = .ok (.iconst 1, 1) := by decide +kernel
theorem dX9_told_85 : decode cX9_told 85 = .ok (.goto 4, 3) := by decide +kernel
theorem dX9_told_88 : decode cX9_told 88 = .ok (.iconst 0, 1) := by decide +kernel
theorem dX9_told_89 : decode cX9_told 89 = .ok (.ireturn, 1) := by decide +kernel
theorem dX9_told_90 : decode cX9_told 90 = .ok (.new 114, 3) := by decide +kernel
theorem dX9_told_93 : decode cX9_told 93 = .ok (.dup, 1) := by decide +kernel
theorem dX9_told_94 : decode cX9_told 94 = .ok (.ldc_w 260, 3) := by decide +kernel
theorem dX9_told_97 : decode cX9_told 97 = .ok (.invokespecial 118, 3) := by decide +kernel
theorem dX9_told_100 : decode cX9_told 100 = .ok (.athrow, 1) := by decide +kernel
theorem dX9_top_0 : decode cX9_top 0 = .ok (.aload_n 0, 1) := by decide +kernel
theorem dX9_top_1 : decode cX9_top 1 = .ok (.iload_n 1, 1) := by decide +kernel
theorem dX9_top_2 : decode cX9_top 2 = .ok (.invokevirtual 190, 3) := by decide +kernel
theorem dX9_top_5 : decode cX9_top 5 = .ok (.invokevirtual 205, 3) := by decide +kernel
theorem dX9_top_8 : decode cX9_top 8 = .ok (.lreturn, 1) := by decide +kernel
theorem dX9_type_0 : decode cX9_type 0 = .ok (.aload_n 0, 1) := by decide +kernel
theorem dX9_type_1 : decode cX9_type 1 = .ok (.getfield 10, 3) := by decide +kernel
theorem dX9_type_4 : decode cX9_type 4 = .ok (.invokevirtual 76, 3) := by decide +kernel
theorem dX9_type_7 : decode cX9_type 7 = .ok (.istore_n 3, 1) := by decide +kernel
theorem dX9_type_8 : decode cX9_type 8 = .ok (.iload_n 3, 1) := by decide +kernel
theorem dX9_type_9 : decode cX9_type 9 = .ok (.bipush 8, 2) := by decide +kernel
theorem dX9_type_11 : decode cX9_type 11 = .ok (.iadd, 1) := by decide +kernel
theorem dX9_type_12 : decode cX9_type 12 = .ok (.sipush 2000, 3) := by decide +kernel
theorem dX9_type_15 : decode cX9_type 15 = .ok (.if_icmp .le 13, 3) := by decide +kernel
theorem dX9_type_18 : decode cX9_type 18 = .ok (.new 80, 3) := by decide +kernel
theorem dX9_type_21 : decode cX9_type 21 = .ok (.dup, 1) := by decide +kernel
theorem dX9_type_22 : decode cX9_type 22 = .ok (.ldc 82, 2) := by decide +kernel
theorem dX9_type_24 : decode cX9_type 24 = .ok (.invokespecial 84, 3) := by decide +kernel
theorem dX9_type_27 : decode cX9_type 27 = .ok (.athrow, 1) := by decide +kernel
theorem dX9_type_28 : decode cX9_type 28 = .ok (.aload_n 0, 1) := by decide +kernel
theorem dX9_type_29 : decode cX9_type 29 = .ok (.getfield 10, 3) := by decide +kernel
theorem dX9_type_32 : decode cX9_type 32 = .ok (.iload_n 3, 1) := by decide +kernel
theorem dX9_type_33 : decode cX9_type 33 = .ok (.bipush 8, 2) := by decide +kernel
theorem dX9_type_35 : decode cX9_type 35 = .ok (.iadd, 1) := by decide +kernel
theorem dX9_type_36 : decode cX9_type 36 = .ok (.invokevirtual 87, 3) := by decide +kernel
theorem dX9_type_39 : decode cX9_type 39 = .ok (.aload_n 0, 1) := by decide +kernel
theorem dX9_type_40 : decode cX9_type 40 = .ok (.getfield 10, 3) := by decide +kernel
theorem dX9_type_43 : decode cX9_type 43 = .ok (.iload_n 3, 1) := by decide +kernel
theorem dX9_type_44 : decode cX9_type 44 = .ok (.lload_n 1, 1) := by decide +kernel
theorem dX9_type_45 : decode cX9_type 45 = .ok (.invokevirtual 91, 3) := by decide +kernel
theorem dX9_type_48 : decode cX9_type 48 = .ok (.aload_n 0, 1) := by decide +kernel
theorem dX9_type_49 : decode cX9_type 49 = .ok (.getfield 10, 3) := by decide +kernel
theorem dX9_type_52 : decode cX9_type 52 = .ok (.invokevirtual 76, 3) := by decide +kernel
theorem dX9_type_55 : decode cX9_type 55 = .ok (.ireturn, 1) := by decide +kernel
theorem dX9_uncover_0 : decode cX9_uncover 0 = .ok (.aload_n 0, 1) := by decide +kernel
theorem dX9_uncover_1 : decode cX9_uncover 1 = .ok (.aload_n 0, 1) := by decide +kernel
theorem dX9_uncover_2 : decode cX9_uncover 2 = .ok (.invokevirtual 76, 3) := by decide +kernel
theorem dX9_uncover_5 : decode cX9_uncover 5 = .ok (.iconst 1, 1) := by decide +kernel
theorem dX9_uncover_6 : decode cX9_uncover 6 = .ok (.isub, 1) := by decide +kernel
theorem dX9_uncover_7 : decode cX9_uncover 7 = .ok (.invokevirtual 119, 3) := by decide +kernel
theorem dX9_uncover_10 : decode cX9_uncover 10 = .ok (.istore_n 1, 1) := by decide +kernel
theorem dX9_uncover_11 : decode cX9_uncover 11 = .ok (.aload_n 0, 1) := by decide +kernel
theorem dX9_uncover_12 : decode cX9_uncover 12 = .ok (.aload_n 0, 1) := by decide +kernel
theorem dX9_uncover_13 : decode cX9_uncover 13 = .ok (.invokevirtual 76, 3) := by decide +kernel
theorem dX9_uncover_16 : decode cX9_uncover 16 = .ok (.iconst 2, 1) := by decide +kernel
theorem dX9_uncover_17 : decode cX9_uncover 17 = .ok (.isub, 1) := by decide +kernel
theorem dX9_uncover_18 : decode cX9_uncover 18 = .ok (.invokevirtual 119, 3) := by decide +kernel
theorem dX9_uncover_21 : decode cX9_uncover 21 = .ok (.istore_n 2, 1) := by decide +kernel
theorem dX9_uncover_22 : decode cX9_uncover 22 = .ok (.aload_n 0, 1) := by decide +kernel
theorem dX9_uncover_23 : decode cX9_uncover 23 = .ok (.invokevirtual 76, 3) := by decide +kernel
theorem dX9_uncover_26 : decode cX9_uncover 26 = .ok (.iconst 2, 1) := by decide +kernel
theorem dX9_uncover_27 : decode cX9_uncover 27 = .ok (.isub, 1) := by decide +kernel
theorem dX9_uncover_28 : decode cX9_uncover 28 = .ok (.iload_n 2, 1) := by decide +kernel
theorem dX9_uncover_29 : decode cX9_uncover 29 = .ok (.isub, 1) := by decide +kernel
theorem dX9_uncover_30 : decode cX9_uncover 30 = .ok (.istore_n 3, 1) := by decide +kernel
theorem dX9_uncover_31 : decode cX9_uncover 31 = .ok (.iload_n 3, 1) := by decide +kernel
theorem dX9_uncover_32 : decode cX9_uncover 32 = .ok (.ifCond .lt 12, 3) := by decide +kernel
theorem dX9_uncover_35 : decode cX9_uncover 35 = .ok (.aload_n 0, 1) := by decide +kernel
theorem dX9_uncover_36 : decode cX9_uncover 36 = .ok (.iload_n 3, 1) := by decide +kernel
theorem dX9_uncover_37 : decode cX9_uncover 37 = .ok (.iload_n 2, 1) := by decide +kernel
theorem dX9_uncover_38 : decode cX9_uncover 38 = .ok (.invokevirtual 405, 3) := by decide +kernel
theorem dX9_uncover_41 : decode cX9_uncover 41 = .ok (.ifCond .ne 6, 3) := by decide +kernel
theorem dX9_uncover_44 : decode cX9_uncover 44 = .ok (.bipush 13, 2) := by decide +kernel
theorem dX9_uncover_46 : decode cX9_uncover 46 = .ok (.ireturn, 1) := by decide +kernel
theorem dX9_uncover_47 : decode cX9_uncover 47 = .ok (.iload_n 1, 1) := by decide +kernel
theorem dX9_uncover_48 : decode cX9_uncover 48 = .ok (.iconst 4, 1) := by decide +kernel
theorem dX9_uncover_49 : decode cX9_uncover 49 = .ok (.if_icmp .eq 17, 3) := by decide +kernel
theorem dX9_uncover_52 : decode cX9_uncover 52 = .ok (.iload_n 1, 1) := by decide +kernel
theorem dX9_uncover_53 : decode cX9_uncover 53 = .ok (.bipush 59, 2) := by decide +kernel
theorem dX9_uncover_55 : decode cX9_uncover 55 = .ok (.if_icmp .ne 8, 3) := by decide +kernel
theorem dX9_uncover_58 : decode cX9_uncover 58 = .ok (.bipush 14, 2) := by decide +kernel
theorem dX9_uncover_60 : decode cX9_uncover 60 = .ok (.goto 5, 3) := by decide +kernel
theorem dX9_uncover_63 : decode cX9_uncover 63 = .ok (.bipush 13, 2) := by decide +kernel
theorem dX9_uncover_65 : decode cX9_uncover 65 = .ok (.ireturn, 1) := by decide +kernel
theorem dX9_uncover_66 : decode cX9_uncover 66 = .ok (.aload_n 0, 1) := by decide +kernel
theorem dX9_uncover_67 : decode cX9_uncover 67 = .ok (.iload_n 3, 1) := by decide +kernel
theorem dX9_uncover_68 : decode cX9_uncover 68 = .ok (.invokevirtual 87, 3) := by decide +kernel
theorem dX9_uncover_71 : decode cX9_uncover 71 = .ok (.aload_n 0, 1) := by decide +kernel
theorem dX9_uncover_72 : decode cX9_uncover 72 = .ok (.invokevirtual 226, 3) := by decide +kernel
theorem dX9_uncover_75 : decode cX9_uncover 75 = .ok (.ifCond .ne 11, 3) := by decide +kernel
theorem dX9_uncover_78 : decode cX9_uncover 78 = .ok (.aload_n 0, 1) := by decide +kernel
theorem dX9_uncover_79 : decode cX9_uncover 79 = .ok (.invokevirtual 409, 3) := by decide +kernel
theorem dX9_uncover_82 : decode cX9_uncover 82 = .ok (.iload_n 3, 1) := by decide +kernel
theorem dX9_uncover_83 : decode cX9_uncover 83 = .ok (.if_icmp .eq 8, 3) := by decide +kernel
theorem dX9_uncover_86 : decode cX9_uncover 86 = .ok (.bipush 15, 2) := by decide +kernel
theorem dX9_uncover_88 : decode cX9_uncover 88 = .ok (.goto 4, 3) := by decide +kernel
theorem dX9_uncover_91 : decode cX9_uncover 91 = .ok (.iconst 0, 1) := by decide +kernel
theorem dX9_uncover_92 : decode cX9_uncover 92 = .ok (.ireturn, 1) := by decide +kernel
theorem dX9_unseal_0 : decode cX9_unseal 0 = .ok (.aload_n 1, 1) := by decide +kernel
theorem dX9_unseal_1 : decode cX9_unseal 1 = .ok (.ifnull 28, 3) := by decide +kernel
theorem dX9_unseal_4 : decode cX9_unseal 4 = .ok (.aload_n 1, 1) := by decide +kernel
theorem dX9_unseal_5 : decode cX9_unseal 5 = .ok (.invokevirtual 193, 3) := by decide +kernel
theorem dX9_unseal_8 : decode cX9_unseal 8 = .ok (.ifCond .ne 21, 3) := by decide +kernel
theorem dX9_unseal_11 : decode cX9_unseal 11 = .ok (.aload_n 0, 1) := by decide +kernel
theorem dX9_unseal_12 : decode cX9_unseal 12 = .ok (.getfield 16, 3) := by decide +kernel
theorem dX9_unseal_15 : decode cX9_unseal 15 = .ok (.invokevirtual 378, 3) := by decide +kernel
theorem dX9_unseal_18 : decode cX9_unseal 18 = .ok (.aload_n 0, 1) := by decide +kernel
theorem dX9_unseal_19 : decode cX9_unseal 19 = .ok (.aload_n 1, 1) := by decide +kernel
theorem dX9_unseal_20 : decode cX9_unseal 20 = .ok (.invokevirtual 248, 3) := by decide +kernel
theorem dX9_unseal_23 : decode cX9_unseal 23 = .ok (.invokevirtual 316, 3) := by decide +kernel
theorem dX9_unseal_26 : decode cX9_unseal 26 = .ok (.if_icmp .eq 6, 3) := by decide +kernel
theorem dX9_unseal_29 : decode cX9_unseal 29 = .ok (.bipush 9, 2) := by decide +kernel
theorem dX9_unseal_31 : decode cX9_unseal 31 = .ok (.ireturn, 1) := by decide +kernel
theorem dX9_unseal_32 : decode cX9_unseal 32 = .ok (.aload_n 1, 1) := by decide +kernel
theorem dX9_unseal_33 : decode cX9_unseal 33 = .ok (.iload_n 2, 1) := by decide +kernel
theorem dX9_unseal_34 : decode cX9_unseal 34 = .ok (.invokevirtual 381, 3) := by decide +kernel
theorem dX9_unseal_37 : decode cX9_unseal 37 = .ok (.lstore_n 3, 1) := by decide +kernel
theorem dX9_unseal_38 : decode cX9_unseal 38 = .ok (.aload_n 1, 1) := by decide +kernel
theorem dX9_unseal_39 : decode cX9_unseal 39 = .ok (.lload_n 3, 1) := by decide +kernel
theorem dX9_unseal_40 : decode cX9_unseal 40 = .ok (.invokevirtual 385, 3) := by decide +kernel
theorem dX9_unseal_43 : decode cX9_unseal 43 = .ok (.ifCond .eq 6, 3) := by decide +kernel
theorem dX9_unseal_46 : decode cX9_unseal 46 = .ok (.bipush 10, 2) := by decide +kernel
theorem dX9_unseal_48 : decode cX9_unseal 48 = .ok (.ireturn, 1) := by decide +kernel
theorem dX9_unseal_49 : decode cX9_unseal 49 = .ok (.aload_n 1, 1) := by decide +kernel
theorem dX9_unseal_50 : decode cX9_unseal 50 = .ok (.lload_n 3, 1) := by decide +kernel
theorem dX9_unseal_51 : decode cX9_unseal 51 = .ok (.invokevirtual 389, 3) := by decide +kernel
theorem dX9_unseal_54 : decode cX9_unseal 54 = .ok (.ifCond .eq 6, 3) := by decide +kernel
theorem dX9_unseal_57 : decode cX9_unseal 57 = .ok (.bipush 11, 2) := by decide +kernel
theorem dX9_unseal_59 : decode cX9_unseal 59 = .ok (.ireturn, 1) := by decide +kernel
theorem dX9_unseal_60 : decode cX9_unseal 60 = .ok (.aload_n 1, 1) := by decide +kernel
theorem dX9_unseal_61 : decode cX9_unseal 61 = .ok (.aload_n 0, 1) := by decide +kernel
theorem dX9_unseal_62 : decode cX9_unseal 62 = .ok (.getfield 16, 3) := by decide +kernel
theorem dX9_unseal_65 : decode cX9_unseal 65 = .ok (.lload_n 3, 1) := by decide +kernel
theorem dX9_unseal_66 : decode cX9_unseal 66 = .ok (.invokevirtual 392, 3) := by decide +kernel
theorem dX9_unseal_69 : decode cX9_unseal 69 = .ok (.ifCond .ne 6, 3) := by decide +kernel
theorem dX9_unseal_72 : decode cX9_unseal 72 = .ok (.bipush 12, 2) := by decide +kernel
theorem dX9_unseal_74 : decode cX9_unseal 74 = .ok (.ireturn, 1) := by decide +kernel
theorem dX9_unseal_75 : decode cX9_unseal 75 = .ok (.aload_n 1, 1) := by decide +kernel
theorem dX9_unseal_76 : decode cX9_unseal 76 = .ok (.lload_n 3, 1) := by decide +kernel
theorem dX9_unseal_77 : decode cX9_unseal 77 = .ok (.invokevirtual 396, 3) := by decide +kernel
theorem dX9_unseal_80 : decode cX9_unseal 80 = .ok (.aload_n 1, 1) := by decide +kernel
theorem dX9_unseal_81 : decode cX9_unseal 81 = .ok (.aload_n 0, 1) := by decide +kernel
theorem dX9_unseal_82 : decode cX9_unseal 82 = .ok (.getfield 16, 3) := by decide +kernel
theorem dX9_unseal_85 : decode cX9_unseal 85 = .ok (.aload_n 0, 1) := by decide +kernel
theorem dX9_unseal_86 : decode cX9_unseal 86 = .ok (.getfield 19, 3) := by decide +kernel
theorem dX9_unseal_89 : decode cX9_unseal 89 = .ok (.lload_n 3, 1) := by decide +kernel
theorem dX9_unseal_90 : decode cX9_unseal 90 = .ok (.invokevirtual 398, 3) := by decide +kernel
theorem dX9_unseal_93 : decode cX9_unseal 93 = .ok (.aload_n 0, 1) := by decide +kernel
theorem dX9_unseal_94 : decode cX9_unseal 94 = .ok (.getfield 19, 3) := by decide +kernel
theorem dX9_unseal_97 : decode cX9_unseal 97 = .ok (.invokestatic 402, 3) := by decide +kernel
theorem dX9_unseal_100 : decode cX9_unseal 100 = .ok (.ireturn, 1) := by decide +kernel
