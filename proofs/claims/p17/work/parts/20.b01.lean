theorem dX4_loseHop_12 : decode cX4_loseHop 12 = .ok (.aload_n 0, 1) := by decide +kernel
theorem dX4_loseHop_13 : decode cX4_loseHop 13 = .ok (.invokevirtual 79, 3) := by decide +kernel
theorem dX4_loseHop_16 : decode cX4_loseHop 16 = .ok (.pop, 1) := by decide +kernel
theorem dX4_loseHop_17 : decode cX4_loseHop 17 = .ok (.return_, 1) := by decide +kernel
theorem dX4_mendSum_0 : decode cX4_mendSum 0 = .ok (.aload_n 0, 1) := by decide +kernel
theorem dX4_mendSum_1 : decode cX4_mendSum 1 = .ok (.bipush 10, 2) := by decide +kernel
theorem dX4_mendSum_3 : decode cX4_mendSum 3 = .ok (.iconst 0, 1) := by decide +kernel
theorem dX4_mendSum_4 : decode cX4_mendSum 4 = .ok (.invokevirtual 31, 3) := by decide +kernel
theorem dX4_mendSum_7 : decode cX4_mendSum 7 = .ok (.ldc 72, 2) := by decide +kernel
theorem dX4_mendSum_9 : decode cX4_mendSum 9 = .ok (.aload_n 0, 1) := by decide +kernel
theorem dX4_mendSum_10 : decode cX4_mendSum 10 = .ok (.invokevirtual 69, 3) := by decide +kernel
theorem dX4_mendSum_13 : decode cX4_mendSum 13 = .ok (.isub, 1) := by decide +kernel
theorem dX4_mendSum_14 : decode cX4_mendSum 14 = .ok (.istore_n 1, 1) := by decide +kernel
theorem dX4_mendSum_15 : decode cX4_mendSum 15 = .ok (.aload_n 0, 1) := by decide +kernel
theorem dX4_mendSum_16 : decode cX4_mendSum 16 = .ok (.bipush 10, 2) := by decide +kernel
theorem dX4_mendSum_18 : decode cX4_mendSum 18 = .ok (.iload_n 1, 1) := by decide +kernel
theorem dX4_mendSum_19 : decode cX4_mendSum 19 = .ok (.invokevirtual 31, 3) := by decide +kernel
theorem dX4_mendSum_22 : decode cX4_mendSum 22 = .ok (.iload_n 1, 1) := by decide +kernel
theorem dX4_mendSum_23 : decode cX4_mendSum 23 = .ok (.ireturn, 1) := by decide +kernel
theorem dX4_moveOffset_0 : decode cX4_moveOffset 0 = .ok (.aload_n 0, 1) := by decide +kernel
theorem dX4_moveOffset_1 : decode cX4_moveOffset 1 = .ok (.bipush 6, 2) := by decide +kernel
theorem dX4_moveOffset_3 : decode cX4_moveOffset 3 = .ok (.invokevirtual 52, 3) := by decide +kernel
theorem dX4_moveOffset_6 : decode cX4_moveOffset 6 = .ok (.istore_n 2, 1) := by decide +kernel
theorem dX4_moveOffset_7 : decode cX4_moveOffset 7 = .ok (.aload_n 0, 1) := by decide +kernel
theorem dX4_moveOffset_8 : decode cX4_moveOffset 8 = .ok (.bipush 6, 2) := by decide +kernel
theorem dX4_moveOffset_10 : decode cX4_moveOffset 10 = .ok (.iload_n 2, 1) := by decide +kernel
theorem dX4_moveOffset_11 : decode cX4_moveOffset 11 = .ok (.sipush (-8192), 3) := by decide +kernel
theorem dX4_moveOffset_14 : decode cX4_moveOffset 14 = .ok (.iand, 1) := by decide +kernel
theorem dX4_moveOffset_15 : decode cX4_moveOffset 15 = .ok (.iload_n 2, 1) := by decide +kernel
theorem dX4_moveOffset_16 : decode cX4_moveOffset 16 = .ok (.iload_n 1, 1) := by decide +kernel
theorem dX4_moveOffset_17 : decode cX4_moveOffset 17 = .ok (.iadd, 1) := by decide +kernel
theorem dX4_moveOffset_18 : decode cX4_moveOffset 18 = .ok (.sipush 8191, 3) := by decide +kernel
theorem dX4_moveOffset_21 : decode cX4_moveOffset 21 = .ok (.iand, 1) := by decide +kernel
theorem dX4_moveOffset_22 : decode cX4_moveOffset 22 = .ok (.ior, 1) := by decide +kernel
theorem dX4_moveOffset_23 : decode cX4_moveOffset 23 = .ok (.invokevirtual 31, 3) := by decide +kernel
theorem dX4_moveOffset_26 : decode cX4_moveOffset 26 = .ok (.return_, 1) := by decide +kernel
theorem dX4_number_0 : decode cX4_number 0 = .ok (.aload_n 0, 1) := by decide +kernel
theorem dX4_number_1 : decode cX4_number 1 = .ok (.iconst 4, 1) := by decide +kernel
theorem dX4_number_2 : decode cX4_number 2 = .ok (.invokevirtual 52, 3) := by decide +kernel
theorem dX4_number_5 : decode cX4_number 5 = .ok (.ireturn, 1) := by decide +kernel
theorem dX4_pairAt_0 : decode cX4_pairAt 0 = .ok (.iload_n 1, 1) := by decide +kernel
theorem dX4_pairAt_1 : decode cX4_pairAt 1 = .ok (.ifCond .lt 42, 3) := by decide +kernel
theorem dX4_pairAt_4 : decode cX4_pairAt 4 = .ok (.iload_n 1, 1) := by decide +kernel
theorem dX4_pairAt_5 : decode cX4_pairAt 5 = .ok (.aload_n 0, 1) := by decide +kernel
theorem dX4_pairAt_6 : decode cX4_pairAt 6 = .ok (.getfield 15, 3) := by decide +kernel
theorem dX4_pairAt_9 : decode cX4_pairAt 9 = .ok (.iconst 1, 1) := by decide +kernel
theorem dX4_pairAt_10 : decode cX4_pairAt 10 = .ok (.isub, 1) := by decide +kernel
theorem dX4_pairAt_11 : decode cX4_pairAt 11 = .ok (.if_icmp .ge 32, 3) := by decide +kernel
theorem dX4_pairAt_14 : decode cX4_pairAt 14 = .ok (.aload_n 0, 1) := by decide +kernel
theorem dX4_pairAt_15 : decode cX4_pairAt 15 = .ok (.getfield 11, 3) := by decide +kernel
theorem dX4_pairAt_18 : decode cX4_pairAt 18 = .ok (.iload_n 1, 1) := by decide +kernel
theorem dX4_pairAt_19 : decode cX4_pairAt 19 = .ok (.baload, 1) := by decide +kernel
theorem dX4_pairAt_20 : decode cX4_pairAt 20 = .ok (.sipush 255, 3) := by decide +kernel
theorem dX4_pairAt_23 : decode cX4_pairAt 23 = .ok (.iand, 1) := by decide +kernel
theorem dX4_pairAt_24 : decode cX4_pairAt 24 = .ok (.bipush 8, 2) := by decide +kernel
theorem dX4_pairAt_26 : decode cX4_pairAt 26 = .ok (.ishl, 1) := by decide +kernel
theorem dX4_pairAt_27 : decode cX4_pairAt 27 = .ok (.aload_n 0, 1) := by decide +kernel
theorem dX4_pairAt_28 : decode cX4_pairAt 28 = .ok (.getfield 11, 3) := by decide +kernel
theorem dX4_pairAt_31 : decode cX4_pairAt 31 = .ok (.iload_n 1, 1) := by decide +kernel
theorem dX4_pairAt_32 : decode cX4_pairAt 32 = .ok (.iconst 1, 1) := by decide +kernel
theorem dX4_pairAt_33 : decode cX4_pairAt 33 = .ok (.iadd, 1) := by decide +kernel
theorem dX4_pairAt_34 : decode cX4_pairAt 34 = .ok (.baload, 1) := by decide +kernel
theorem dX4_pairAt_35 : decode cX4_pairAt 35 = .ok (.sipush 255, 3) := by decide +kernel
theorem dX4_pairAt_38 : decode cX4_pairAt 38 = .ok (.iand, 1) := by decide +kernel
theorem dX4_pairAt_39 : decode cX4_pairAt 39 = .ok (.ior, 1) := by decide +kernel
theorem dX4_pairAt_40 : decode cX4_pairAt 40 = .ok (.goto 4, 3) := by decide +kernel
theorem dX4_pairAt_43 : decode cX4_pairAt 43 = .ok (.iconst 0, 1) := by decide +kernel
theorem dX4_pairAt_44 : decode cX4_pairAt 44 = .ok (.ireturn, 1) := by decide +kernel
theorem dX4_resize_0 : decode cX4_resize 0 = .ok (.aload_n 0, 1) := by decide +kernel
theorem dX4_resize_1 : decode cX4_resize 1 = .ok (.iload_n 1, 1) := by decide +kernel
theorem dX4_resize_2 : decode cX4_resize 2 = .ok (.ifCond .ge 7, 3) := by decide +kernel
theorem dX4_resize_5 : decode cX4_resize 5 = .ok (.iconst 0, 1) := by decide +kernel
theorem dX4_resize_6 : decode cX4_resize 6 = .ok (.goto 10, 3) := by decide +kernel
theorem dX4_resize_9 : decode cX4_resize 9 = .ok (.iload_n 1, 1) := by decide +kernel
theorem dX4_resize_10 : decode cX4_resize 10 = .ok (.sipush 2040, 3) := by decide +kernel
theorem dX4_resize_13 : decode cX4_resize 13 = .ok (.invokestatic 19, 3) := by decide +kernel
theorem dX4_resize_16 : decode cX4_resize 16 = .ok (.putfield 15, 3) := by decide +kernel
theorem dX4_resize_19 : decode cX4_resize 19 = .ok (.return_, 1) := by decide +kernel
theorem dX4_setByte_0 : decode cX4_setByte 0 = .ok (.iload_n 1, 1) := by decide +kernel
theorem dX4_setByte_1 : decode cX4_setByte 1 = .ok (.ifCond .lt 19, 3) := by decide +kernel
theorem dX4_setByte_4 : decode cX4_setByte 4 = .ok (.iload_n 1, 1) := by decide +kernel
theorem dX4_setByte_5 : decode cX4_setByte 5 = .ok (.aload_n 0, 1) := by decide +kernel
theorem dX4_setByte_6 : decode cX4_setByte 6 = .ok (.getfield 15, 3) := by decide +kernel
theorem dX4_setByte_9 : decode cX4_setByte 9 = .ok (.if_icmp .ge 11, 3) := by decide +kernel
theorem dX4_setByte_12 : decode cX4_setByte 12 = .ok (.aload_n 0, 1) := by decide +kernel
theorem dX4_setByte_13 : decode cX4_setByte 13 = .ok (.getfield 11, 3) := by decide +kernel
theorem dX4_setByte_16 : decode cX4_setByte 16 = .ok (.iload_n 1, 1) := by decide +kernel
theorem dX4_setByte_17 : decode cX4_setByte 17 = .ok (.iload_n 2, 1) := by decide +kernel
theorem dX4_setByte_18 : decode cX4_setByte 18 = .ok (.i2b, 1) := by decide +kernel
theorem dX4_setByte_19 : decode cX4_setByte 19 = .ok (.bastore, 1) := by decide +kernel
theorem dX4_setByte_20 : decode cX4_setByte 20 = .ok (.return_, 1) := by decide +kernel
theorem dX4_setLong_0 : decode cX4_setLong 0 = .ok (.aload_n 0, 1) := by decide +kernel
theorem dX4_setLong_1 : decode cX4_setLong 1 = .ok (.iload_n 1, 1) := by decide +kernel
theorem dX4_setLong_2 : decode cX4_setLong 2 = .ok (.lload_n 2, 1) := by decide +kernel
theorem dX4_setLong_3 : decode cX4_setLong 3 = .ok (.bipush 32, 2) := by decide +kernel
theorem dX4_setLong_5 : decode cX4_setLong 5 = .ok (.lushr, 1) := by decide +kernel
theorem dX4_setLong_6 : decode cX4_setLong 6 = .ok (.l2i, 1) := by decide +kernel
theorem dX4_setLong_7 : decode cX4_setLong 7 = .ok (.invokevirtual 35, 3) := by decide +kernel
theorem dX4_setLong_10 : decode cX4_setLong 10 = .ok (.aload_n 0, 1) := by decide +kernel
theorem dX4_setLong_11 : decode cX4_setLong 11 = .ok (.iload_n 1, 1) := by decide +kernel
theorem dX4_setLong_12 : decode cX4_setLong 12 = .ok (.iconst 4, 1) := by decide +kernel
theorem dX4_setLong_13 : decode cX4_setLong 13 = .ok (.iadd, 1) := by decide +kernel
theorem dX4_setLong_14 : decode cX4_setLong 14 = .ok (.lload_n 2, 1) := by decide +kernel
theorem dX4_setLong_15 : decode cX4_setLong 15 = .ok (.l2i, 1) := by decide +kernel
theorem dX4_setLong_16 : decode cX4_setLong 16 = .ok (.invokevirtual 35, 3) := by decide +kernel
theorem dX4_setLong_19 : decode cX4_setLong 19 = .ok (.return_, 1) := by decide +kernel
theorem dX4_setMore_0 : decode cX4_setMore 0 = .ok (.aload_n 0, 1) := by decide +kernel
theorem dX4_setMore_1 : decode cX4_setMore 1 = .ok (.bipush 6, 2) := by decide +kernel
theorem dX4_setMore_3 : decode cX4_setMore 3 = .ok (.aload_n 0, 1) := by decide +kernel
theorem dX4_setMore_4 : decode cX4_setMore 4 = .ok (.bipush 6, 2) := by decide +kernel
theorem dX4_setMore_6 : decode cX4_setMore 6 = .ok (.invokevirtual 52, 3) := by decide +kernel
theorem dX4_setMore_9 : decode cX4_setMore 9 = .ok (.sipush 8192, 3) := by decide +kernel
theorem dX4_setMore_12 : decode cX4_setMore 12 = .ok (.ior, 1) := by decide +kernel
theorem dX4_setMore_13 : decode cX4_setMore 13 = .ok (.invokevirtual 31, 3) := by decide +kernel
theorem dX4_setMore_16 : decode cX4_setMore 16 = .ok (.return_, 1) := by decide +kernel
theorem dX4_setPair_0 : decode cX4_setPair 0 = .ok (.iload_n 1, 1) := by decide +kernel
theorem dX4_setPair_1 : decode cX4_setPair 1 = .ok (.ifCond .lt 34, 3) := by decide +kernel
theorem dX4_setPair_4 : decode cX4_setPair 4 = .ok (.iload_n 1, 1) := by decide +kernel
theorem dX4_setPair_5 : decode cX4_setPair 5 = .ok (.aload_n 0, 1) := by decide +kernel
theorem dX4_setPair_6 : decode cX4_setPair 6 = .ok (.getfield 15, 3) := by decide +kernel
theorem dX4_setPair_9 : decode cX4_setPair 9 = .ok (.iconst 1, 1) := by decide +kernel
theorem dX4_setPair_10 : decode cX4_setPair 10 = .ok (.isub, 1) := by decide +kernel
theorem dX4_setPair_11 : decode cX4_setPair 11 = .ok (.if_icmp .ge 24, 3) := by decide +kernel
theorem dX4_setPair_14 : decode cX4_setPair 14 = .ok (.aload_n 0, 1) := by decide +kernel
theorem dX4_setPair_15 : decode cX4_setPair 15 = .ok (.getfield 11, 3) := by decide +kernel
theorem dX4_setPair_18 : decode cX4_setPair 18 = .ok (.iload_n 1, 1) := by decide +kernel
theorem dX4_setPair_19 : decode cX4_setPair 19 = .ok (.iload_n 2, 1) := by decide +kernel
theorem dX4_setPair_20 : decode cX4_setPair 20 = .ok (.bipush 8, 2) := by decide +kernel
theorem dX4_setPair_22 : decode cX4_setPair 22 = .ok (.iushr, 1) := by decide +kernel
theorem dX4_setPair_23 : decode cX4_setPair 23 = .ok (.i2b, 1) := by decide +kernel
theorem dX4_setPair_24 : decode cX4_setPair 24 = .ok (.bastore, 1) := by decide +kernel
theorem dX4_setPair_25 : decode cX4_setPair 25 = .ok (.aload_n 0, 1) := by decide +kernel
theorem dX4_setPair_26 : decode cX4_setPair 26 = .ok (.getfield 11, 3) := by decide +kernel
theorem dX4_setPair_29 : decode cX4_setPair 29 = .ok (.iload_n 1, 1) := by decide +kernel
theorem dX4_setPair_30 : decode cX4_setPair 30 = .ok (.iconst 1, 1) := by decide +kernel
theorem dX4_setPair_31 : decode cX4_setPair 31 = .ok (.iadd, 1) := by decide +kernel
theorem dX4_setPair_32 : decode cX4_setPair 32 = .ok (.iload_n 2, 1) := by decide +kernel
theorem dX4_setPair_33 : decode cX4_setPair 33 = .ok (.i2b, 1) := by decide +kernel
theorem dX4_setPair_34 : decode cX4_setPair 34 = .ok (.bastore, 1) := by decide +kernel
theorem dX4_setPair_35 : decode cX4_setPair 35 = .ok (.return_, 1) := by decide +kernel
theorem dX4_setWord_0 : decode cX4_setWord 0 = .ok (.aload_n 0, 1) := by decide +kernel
theorem dX4_setWord_1 : decode cX4_setWord 1 = .ok (.iload_n 1, 1) := by decide +kernel
theorem dX4_setWord_2 : decode cX4_setWord 2 = .ok (.iload_n 2, 1) := by decide +kernel
theorem dX4_setWord_3 : decode cX4_setWord 3 = .ok (.bipush 16, 2) := by decide +kernel
theorem dX4_setWord_5 : decode cX4_setWord 5 = .ok (.iushr, 1) := by decide +kernel
theorem dX4_setWord_6 : decode cX4_setWord 6 = .ok (.invokevirtual 31, 3) := by decide +kernel
theorem dX4_setWord_9 : decode cX4_setWord 9 = .ok (.aload_n 0, 1) := by decide +kernel
theorem dX4_setWord_10 : decode cX4_setWord 10 = .ok (.iload_n 1, 1) := by decide +kernel
theorem dX4_setWord_11 : decode cX4_setWord 11 = .ok (.iconst 2, 1) := by decide +kernel
theorem dX4_setWord_12 : decode cX4_setWord 12 = .ok (.iadd, 1) := by decide +kernel
theorem dX4_setWord_13 : decode cX4_setWord 13 = .ok (.iload_n 2, 1) := by decide +kernel
theorem dX4_setWord_14 : decode cX4_setWord 14 = .ok (.invokevirtual 31, 3) := by decide +kernel
theorem dX4_setWord_17 : decode cX4_setWord 17 = .ok (.return_, 1) := by decide +kernel
theorem dX4_size_0 : decode cX4_size 0 = .ok (.aload_n 0, 1) := by decide +kernel
theorem dX4_size_1 : decode cX4_size 1 = .ok (.getfield 15, 3) := by decide +kernel
theorem dX4_size_4 : decode cX4_size 4 = .ok (.ireturn, 1) := by decide +kernel
theorem dX4_start_0 : decode cX4_start 0 = .ok (.bipush 8, 2) := by decide +kernel
theorem dX4_start_2 : decode cX4_start 2 = .ok (.aload_n 0, 1) := by decide +kernel
theorem dX4_start_3 : decode cX4_start 3 = .ok (.bipush 6, 2) := by decide +kernel
theorem dX4_start_5 : decode cX4_start 5 = .ok (.invokevirtual 52, 3) := by decide +kernel
theorem dX4_start_8 : decode cX4_start 8 = .ok (.sipush 8191, 3) := by decide +kernel
theorem dX4_start_11 : decode cX4_start 11 = .ok (.iand, 1) := by decide +kernel
theorem dX4_start_12 : decode cX4_start 12 = .ok (.imul, 1) := by decide +kernel
theorem dX4_start_13 : decode cX4_start 13 = .ok (.ireturn, 1) := by decide +kernel
theorem dX4_takeOver_0 : decode cX4_takeOver 0 = .ok (.aload_n 0, 1) := by decide +kernel
theorem dX4_takeOver_1 : decode cX4_takeOver 1 = .ok (.iconst 1, 1) := by decide +kernel
theorem dX4_takeOver_2 : decode cX4_takeOver 2 = .ok (.aload_n 1, 1) := by decide +kernel
theorem dX4_takeOver_3 : decode cX4_takeOver 3 = .ok (.iconst 1, 1) := by decide +kernel
theorem dX4_takeOver_4 : decode cX4_takeOver 4 = .ok (.invokevirtual 55, 3) := by decide +kernel
theorem dX4_takeOver_7 : decode cX4_takeOver 7 = .ok (.invokevirtual 76, 3) := by decide +kernel
theorem dX4_takeOver_10 : decode cX4_takeOver 10 = .ok (.aload_n 0, 1) := by decide +kernel
theorem dX4_takeOver_11 : decode cX4_takeOver 11 = .ok (.iconst 4, 1) := by decide +kernel
theorem dX4_takeOver_12 : decode cX4_takeOver 12 = .ok (.iload_n 2, 1) := by decide +kernel
theorem dX4_takeOver_13 : decode cX4_takeOver 13 = .ok (.invokevirtual 31, 3) := by decide +kernel
theorem dX4_takeOver_16 : decode cX4_takeOver 16 = .ok (.aload_n 0, 1) := by decide +kernel
theorem dX4_takeOver_17 : decode cX4_takeOver 17 = .ok (.bipush 6, 2) := by decide +kernel
theorem dX4_takeOver_19 : decode cX4_takeOver 19 = .ok (.aload_n 1, 1) := by decide +kernel
theorem dX4_takeOver_20 : decode cX4_takeOver 20 = .ok (.bipush 6, 2) := by decide +kernel
theorem dX4_takeOver_22 : decode cX4_takeOver 22 = .ok (.invokevirtual 52, 3) := by decide +kernel
theorem dX4_takeOver_25 : decode cX4_takeOver 25 = .ok (.sipush 16384, 3) := by decide +kernel
theorem dX4_takeOver_28 : decode cX4_takeOver 28 = .ok (.iand, 1) := by decide +kernel
theorem dX4_takeOver_29 : decode cX4_takeOver 29 = .ok (.invokevirtual 31, 3) := by decide +kernel
theorem dX4_takeOver_32 : decode cX4_takeOver 32 = .ok (.return_, 1) := by decide +kernel
theorem dX4_to_0 : decode cX4_to 0 = .ok (.aload_n 0, 1) := by decide +kernel
theorem dX4_to_1 : decode cX4_to 1 = .ok (.bipush 16, 2) := by decide +kernel
theorem dX4_to_3 : decode cX4_to 3 = .ok (.invokevirtual 25, 3) := by decide +kernel
theorem dX4_to_6 : decode cX4_to 6 = .ok (.ireturn, 1) := by decide +kernel
theorem dX4_unsetMore_0 : decode cX4_unsetMore 0 = .ok (.aload_n 0, 1) := by decide +kernel
theorem dX4_unsetMore_1 : decode cX4_unsetMore 1 = .ok (.bipush 6, 2) := by decide +kernel
theorem dX4_unsetMore_3 : decode cX4_unsetMore 3 = .ok (.aload_n 0, 1) := by decide +kernel
theorem dX4_unsetMore_4 : decode cX4_unsetMore 4 = .ok (.bipush 6, 2) := by decide +kernel
theorem dX4_unsetMore_6 : decode cX4_unsetMore 6 = .ok (.invokevirtual 52, 3) := by decide +kernel
theorem dX4_unsetMore_9 : decode cX4_unsetMore 9 = .ok (.sipush (-8193), 3) := by decide +kernel
theorem dX4_unsetMore_12 : decode cX4_unsetMore 12 = .ok (.iand, 1) := by decide +kernel
theorem dX4_unsetMore_13 : decode cX4_unsetMore 13 = .ok (.invokevirtual 31, 3) := by decide +kernel
theorem dX4_unsetMore_16 : decode cX4_unsetMore 16 = .ok (.return_, 1) := by decide +kernel
theorem dX4_wordAt_0 : decode cX4_wordAt 0 = .ok (.iload_n 1, 1) := by decide +kernel
theorem dX4_wordAt_1 : decode cX4_wordAt 1 = .ok (.ifCond .lt 17, 3) := by decide +kernel
theorem dX4_wordAt_4 : decode cX4_wordAt 4 = .ok (.iload_n 1, 1) := by decide +kernel
theorem dX4_wordAt_5 : decode cX4_wordAt 5 = .ok (.aload_n 0, 1) := by decide +kernel
theorem dX4_wordAt_6 : decode cX4_wordAt 6 = .ok (.getfield 15, 3) := by decide +kernel
theorem dX4_wordAt_9 : decode cX4_wordAt 9 = .ok (.iconst 3, 1) := by decide +kernel
theorem dX4_wordAt_10 : decode cX4_wordAt 10 = .ok (.isub, 1) := by decide +kernel
theorem dX4_wordAt_11 : decode cX4_wordAt 11 = .ok (.if_icmp .ge 7, 3) := by decide +kernel
theorem dX4_wordAt_14 : decode cX4_wordAt 14 = .ok (.iconst 1, 1) := by decide +kernel
theorem dX4_wordAt_15 : decode cX4_wordAt 15 = .ok (.goto 4, 3) := by decide +kernel
theorem dX4_wordAt_18 : decode cX4_wordAt 18 = .ok (.iconst 0, 1) := by decide +kernel
theorem dX4_wordAt_19 : decode cX4_wordAt 19 = .ok (.istore_n 2, 1) := by decide +kernel
theorem dX4_wordAt_20 : decode cX4_wordAt 20 = .ok (.iload_n 2, 1) := by decide +kernel
theorem dX4_wordAt_21 : decode cX4_wordAt 21 = .ok (.ifCond .eq 60, 3) := by decide +kernel
theorem dX4_wordAt_24 : decode cX4_wordAt 24 = .ok (.aload_n 0, 1) := by decide +kernel
theorem dX4_wordAt_25 : decode cX4_wordAt 25 = .ok (.getfield 11, 3) := by decide +kernel
theorem dX4_wordAt_28 : decode cX4_wordAt 28 = .ok (.iload_n 1, 1) := by decide +kernel
theorem dX4_wordAt_29 : decode cX4_wordAt 29 = .ok (.baload, 1) := by decide +kernel
theorem dX4_wordAt_30 : decode cX4_wordAt 30 = .ok (.bipush 24, 2) := by decide +kernel
theorem dX4_wordAt_32 : decode cX4_wordAt 32 = .ok (.ishl, 1) := by decide +kernel
theorem dX4_wordAt_33 : decode cX4_wordAt 33 = .ok (.aload_n 0, 1) := by decide +kernel
theorem dX4_wordAt_34 : decode cX4_wordAt 34 = .ok (.getfield 11, 3) := by decide +kernel
theorem dX4_wordAt_37 : decode cX4_wordAt 37 = .ok (.iload_n 1, 1) := by decide +kernel
theorem dX4_wordAt_38 : decode cX4_wordAt 38 = .ok (.iconst 1, 1) := by decide +kernel
theorem dX4_wordAt_39 : decode cX4_wordAt 39 = .ok (.iadd, 1) := by decide +kernel
theorem dX4_wordAt_40 : decode cX4_wordAt 40 = .ok (.baload, 1) := by decide +kernel
theorem dX4_wordAt_41 : decode cX4_wordAt 41 = .ok (.sipush 255, 3) := by decide +kernel
theorem dX4_wordAt_44 : decode cX4_wordAt 44 = .ok (.iand, 1) := by decide +kernel
theorem dX4_wordAt_45 : decode cX4_wordAt 45 = .ok (.bipush 16, 2) := by decide +kernel
theorem dX4_wordAt_47 : decode cX4_wordAt 47 = .ok (.ishl, 1) := by decide +kernel
theorem dX4_wordAt_48 : decode cX4_wordAt 48 = .ok (.ior, 1) := by decide +kernel
theorem dX4_wordAt_49 : decode cX4_wordAt 49 = .ok (.aload_n 0, 1) := by decide +kernel
theorem dX4_wordAt_50 : decode cX4_wordAt 50 = .ok (.getfield 11, 3) := by decide +kernel
theorem dX4_wordAt_53 : decode cX4_wordAt 53 = .ok (.iload_n 1, 1) := by decide +kernel
theorem dX4_wordAt_54 : decode cX4_wordAt 54 = .ok (.iconst 2, 1) := by decide +kernel
theorem dX4_wordAt_55 : decode cX4_wordAt 55 = .ok (.iadd, 1) := by decide +kernel
theorem dX4_wordAt_56 : decode cX4_wordAt 56 = .ok (.baload, 1) := by decide +kernel
theorem dX4_wordAt_57 : decode cX4_wordAt 57 = .ok (.sipush 255, 3) := by decide +kernel
theorem dX4_wordAt_60 : decode cX4_wordAt 60 = .ok (.iand, 1) := by decide +kernel
theorem dX4_wordAt_61 : decode cX4_wordAt 61 = .ok (.bipush 8, 2) := by decide +kernel
theorem dX4_wordAt_63 : decode cX4_wordAt 63 = .ok (.ishl, 1) := by decide +kernel
theorem dX4_wordAt_64 : decode cX4_wordAt 64 = .ok (.ior, 1) := by decide +kernel
theorem dX4_wordAt_65 : decode cX4_wordAt 65 = .ok (.aload_n 0, 1) := by decide +kernel
theorem dX4_wordAt_66 : decode cX4_wordAt 66 = .ok (.getfield 11, 3) := by decide +kernel
theorem dX4_wordAt_69 : decode cX4_wordAt 69 = .ok (.iload_n 1, 1) := by decide +kernel
theorem dX4_wordAt_70 : decode cX4_wordAt 70 = .ok (.iconst 3, 1) := by decide +kernel
theorem dX4_wordAt_71 : decode cX4_wordAt 71 = .ok (.iadd, 1) := by decide +kernel
theorem dX4_wordAt_72 : decode cX4_wordAt 72 = .ok (.baload, 1) := by decide +kernel
theorem dX4_wordAt_73 : decode cX4_wordAt 73 = .ok (.sipush 255, 3) := by decide +kernel
theorem dX4_wordAt_76 : decode cX4_wordAt 76 = .ok (.iand, 1) := by decide +kernel
theorem dX4_wordAt_77 : decode cX4_wordAt 77 = .ok (.ior, 1) := by decide +kernel
theorem dX4_wordAt_78 : decode cX4_wordAt 78 = .ok (.goto 4, 3) := by decide +kernel
theorem dX4_wordAt_81 : decode cX4_wordAt 81 = .ok (.iconst 0, 1) := by decide +kernel
theorem dX4_wordAt_82 : decode cX4_wordAt 82 = .ok (.ireturn, 1) := by decide +kernel
theorem dX4_writeHead_0 : decode cX4_writeHead 0 = .ok (.aload_n 0, 1) := by decide +kernel
theorem dX4_writeHead_1 : decode cX4_writeHead 1 = .ok (.iconst 0, 1) := by decide +kernel
theorem dX4_writeHead_2 : decode cX4_writeHead 2 = .ok (.sipush 17664, 3) := by decide +kernel
theorem dX4_writeHead_5 : decode cX4_writeHead 5 = .ok (.invokevirtual 31, 3) := by decide +kernel
theorem dX4_writeHead_8 : decode cX4_writeHead 8 = .ok (.aload_n 0, 1) := by decide +kernel
theorem dX4_writeHead_9 : decode cX4_writeHead 9 = .ok (.iconst 2, 1) := by decide +kernel
theorem dX4_writeHead_10 : decode cX4_writeHead 10 = .ok (.aload_n 0, 1) := by decide +kernel
theorem dX4_writeHead_11 : decode cX4_writeHead 11 = .ok (.getfield 15, 3) := by decide +kernel
theorem dX4_writeHead_14 : decode cX4_writeHead 14 = .ok (.invokevirtual 31, 3) := by decide +kernel
theorem dX4_writeHead_17 : decode cX4_writeHead 17 = .ok (.aload_n 0, 1) := by decide +kernel
theorem dX4_writeHead_18 : decode cX4_writeHead 18 = .ok (.iconst 4, 1) := by decide +kernel
theorem dX4_writeHead_19 : decode cX4_writeHead 19 = .ok (.iconst 0, 1) := by decide +kernel
theorem dX4_writeHead_20 : decode cX4_writeHead 20 = .ok (.invokevirtual 31, 3) := by decide +kernel
theorem dX4_writeHead_23 : decode cX4_writeHead 23 = .ok (.aload_n 0, 1) := by decide +kernel
theorem dX4_writeHead_24 : decode cX4_writeHead 24 = .ok (.bipush 6, 2) := by decide +kernel
theorem dX4_writeHead_26 : decode cX4_writeHead 26 = .ok (.iconst 0, 1) := by decide +kernel
theorem dX4_writeHead_27 : decode cX4_writeHead 27 = .ok (.invokevirtual 31, 3) := by decide +kernel
theorem dX4_writeHead_30 : decode cX4_writeHead 30 = .ok (.aload_n 0, 1) := by decide +kernel
theorem dX4_writeHead_31 : decode cX4_writeHead 31 = .ok (.bipush 8, 2) := by decide +kernel
theorem dX4_writeHead_33 : decode cX4_writeHead 33 = .ok (.iload 4, 2) := by decide +kernel
theorem dX4_writeHead_35 : decode cX4_writeHead 35 = .ok (.invokevirtual 76, 3) := by decide +kernel
theorem dX4_writeHead_38 : decode cX4_writeHead 38 = .ok (.aload_n 0, 1) := by decide +kernel
theorem dX4_writeHead_39 : decode cX4_writeHead 39 = .ok (.bipush 9, 2) := by decide +kernel
theorem dX4_writeHead_41 : decode cX4_writeHead 41 = .ok (.iload_n 3, 1) := by decide +kernel
theorem dX4_writeHead_42 : decode cX4_writeHead 42 = .ok (.invokevirtual 76, 3) := by decide +kernel
theorem dX4_writeHead_45 : decode cX4_writeHead 45 = .ok (.aload_n 0, 1) := by decide +kernel
theorem dX4_writeHead_46 : decode cX4_writeHead 46 = .ok (.bipush 12, 2) := by decide +kernel
theorem dX4_writeHead_48 : decode cX4_writeHead 48 = .ok (.iload_n 1, 1) := by decide +kernel
theorem dX4_writeHead_49 : decode cX4_writeHead 49 = .ok (.invokevirtual 35, 3) := by decide +kernel
theorem dX4_writeHead_52 : decode cX4_writeHead 52 = .ok (.aload_n 0, 1) := by decide +kernel
theorem dX4_writeHead_53 : decode cX4_writeHead 53 = .ok (.bipush 16, 2) := by decide +kernel
theorem dX4_writeHead_55 : decode cX4_writeHead 55 = .ok (.iload_n 2, 1) := by decide +kernel
theorem dX4_writeHead_56 : decode cX4_writeHead 56 = .ok (.invokevirtual 35, 3) := by decide +kernel
theorem dX4_writeHead_59 : decode cX4_writeHead 59 = .ok (.return_, 1) := by decide +kernel
theorem dX5_append_0 : decode cX5_append 0 = .ok (.aload_n 0, 1) := by decide +kernel
theorem dX5_append_1 : decode cX5_append 1 = .ok (.getfield 22, 3) := by decide +kernel
theorem dX5_append_4 : decode cX5_append 4 = .ok (.ifCond .lt 55, 3) := by decide +kernel
theorem dX5_append_7 : decode cX5_append 7 = .ok (.aload_n 0, 1) := by decide +kernel
theorem dX5_append_8 : decode cX5_append 8 = .ok (.getfield 22, 3) := by decide +kernel
theorem dX5_append_11 : decode cX5_append 11 = .ok (.bipush 24, 2) := by decide +kernel
theorem dX5_append_13 : decode cX5_append 13 = .ok (.if_icmp .ge 46, 3) := by decide +kernel
theorem dX5_append_16 : decode cX5_append 16 = .ok (.aload_n 0, 1) := by decide +kernel
theorem dX5_append_17 : decode cX5_append 17 = .ok (.getfield 13, 3) := by decide +kernel
theorem dX5_append_20 : decode cX5_append 20 = .ok (.aload_n 0, 1) := by decide +kernel
theorem dX5_append_21 : decode cX5_append 21 = .ok (.getfield 22, 3) := by decide +kernel
theorem dX5_append_24 : decode cX5_append 24 = .ok (.new 11, 3) := by decide +kernel
theorem dX5_append_27 : decode cX5_append 27 = .ok (.dup, 1) := by decide +kernel
theorem dX5_append_28 : decode cX5_append 28 = .ok (.iload_n 1, 1) := by decide +kernel
theorem dX5_append_29 : decode cX5_append 29 = .ok (.aload_n 2, 1) := by decide +kernel
theorem dX5_append_30 : decode cX5_append 30 = .ok (.aload_n 3, 1) := by decide +kernel
theorem dX5_append_31 : decode cX5_append 31 = .ok (.iload 4, 2) := by decide +kernel
theorem dX5_append_33 : decode cX5_append 33 = .ok (.aload_n 0, 1) := by decide +kernel
theorem dX5_append_34 : decode cX5_append 34 = .ok (.getfield 25, 3) := by decide +kernel
theorem dX5_append_37 : decode cX5_append 37 = .ok (.aload_n 0, 1) := by decide +kernel
theorem dX5_append_38 : decode cX5_append 38 = .ok (.getfield 28, 3) := by decide +kernel
theorem dX5_append_41 : decode cX5_append 41 = .ok (.aload_n 0, 1) := by decide +kernel
theorem dX5_append_42 : decode cX5_append 42 = .ok (.getfield 18, 3) := by decide +kernel
theorem dX5_append_45 : decode cX5_append 45 = .ok (.invokespecial 31, 3) := by decide +kernel
theorem dX5_append_48 : decode cX5_append 48 = .ok (.aastore, 1) := by decide +kernel
theorem dX5_append_49 : decode cX5_append 49 = .ok (.aload_n 0, 1) := by decide +kernel
theorem dX5_append_50 : decode cX5_append 50 = .ok (.dup, 1) := by decide +kernel
theorem dX5_append_51 : decode cX5_append 51 = .ok (.getfield 22, 3) := by decide +kernel
theorem dX5_append_54 : decode cX5_append 54 = .ok (.iconst 1, 1) := by decide +kernel
theorem dX5_append_55 : decode cX5_append 55 = .ok (.iadd, 1) := by decide +kernel
theorem dX5_append_56 : decode cX5_append 56 = .ok (.putfield 22, 3) := by decide +kernel
theorem dX5_append_59 : decode cX5_append 59 = .ok (.aload_n 0, 1) := by decide +kernel
theorem dX5_append_60 : decode cX5_append 60 = .ok (.iconst 0, 1) := by decide +kernel
theorem dX5_append_61 : decode cX5_append 61 = .ok (.iconst 0, 1) := by decide +kernel
theorem dX5_append_62 : decode cX5_append 62 = .ok (.ldc 17, 2) := by decide +kernel
theorem dX5_append_64 : decode cX5_append 64 = .ok (.invokevirtual 34, 3) := by decide +kernel
theorem dX5_append_67 : decode cX5_append 67 = .ok (.aload_n 0, 1) := by decide +kernel
theorem dX5_append_68 : decode cX5_append 68 = .ok (.getfield 22, 3) := by decide +kernel
theorem dX5_append_71 : decode cX5_append 71 = .ok (.ireturn, 1) := by decide +kernel
theorem dX5_doneWith_0 : decode cX5_doneWith 0 = .ok (.aload_n 0, 1) := by decide +kernel
theorem dX5_doneWith_1 : decode cX5_doneWith 1 = .ok (.iload_n 1, 1) := by decide +kernel
theorem dX5_doneWith_2 : decode cX5_doneWith 2 = .ok (.aload_n 2, 1) := by decide +kernel
theorem dX5_doneWith_3 : decode cX5_doneWith 3 = .ok (.invokevirtual 57, 3) := by decide +kernel
theorem dX5_doneWith_6 : decode cX5_doneWith 6 = .ok (.istore_n 3, 1) := by decide +kernel
theorem dX5_doneWith_7 : decode cX5_doneWith 7 = .ok (.iload_n 3, 1) := by decide +kernel
theorem dX5_doneWith_8 : decode cX5_doneWith 8 = .ok (.ifCond .lt 18, 3) := by decide +kernel
theorem dX5_doneWith_11 : decode cX5_doneWith 11 = .ok (.iload_n 3, 1) := by decide +kernel
theorem dX5_doneWith_12 : decode cX5_doneWith 12 = .ok (.bipush 24, 2) := by decide +kernel
theorem dX5_doneWith_14 : decode cX5_doneWith 14 = .ok (.if_icmp .ge 12, 3) := by decide +kernel
theorem dX5_doneWith_17 : decode cX5_doneWith 17 = .ok (.aload_n 0, 1) := by decide +kernel
theorem dX5_doneWith_18 : decode cX5_doneWith 18 = .ok (.getfield 13, 3) := by decide +kernel
theorem dX5_doneWith_21 : decode cX5_doneWith 21 = .ok (.iload_n 3, 1) := by decide +kernel
theorem dX5_doneWith_22 : decode cX5_doneWith 22 = .ok (.aaload, 1) := by decide +kernel
theorem dX5_doneWith_23 : decode cX5_doneWith 23 = .ok (.goto 4, 3) := by decide +kernel
theorem dX5_doneWith_26 : decode cX5_doneWith 26 = .ok (.aconst_null, 1) := by decide +kernel
theorem dX5_doneWith_27 : decode cX5_doneWith 27 = .ok (.astore 4, 2) := by decide +kernel
theorem dX5_doneWith_29 : decode cX5_doneWith 29 = .ok (.aload 4, 2) := by decide +kernel
theorem dX5_doneWith_31 : decode cX5_doneWith 31 = .ok (.ifnonnull 8, 3) := by decide +kernel
theorem dX5_doneWith_34 : decode cX5_doneWith 34 = .ok (.bipush (-2), 2) := by decide +kernel
theorem dX5_doneWith_36 : decode cX5_doneWith 36 = .ok (.goto 8, 3) := by decide +kernel
theorem dX5_doneWith_39 : decode cX5_doneWith 39 = .ok (.aload 4, 2) := by decide +kernel
theorem dX5_doneWith_41 : decode cX5_doneWith 41 = .ok (.invokevirtual 61, 3) := by decide +kernel
theorem dX5_doneWith_44 : decode cX5_doneWith 44 = .ok (.ireturn, 1) := by decide +kernel
theorem dX5_empty_0 : decode cX5_empty 0 = .ok (.aload_n 0, 1) := by decide +kernel
theorem dX5_empty_1 : decode cX5_empty 1 = .ok (.iconst 0, 1) := by decide +kernel
theorem dX5_empty_2 : decode cX5_empty 2 = .ok (.putfield 22, 3) := by decide +kernel
theorem dX5_empty_5 : decode cX5_empty 5 = .ok (.aload_n 0, 1) := by decide +kernel
theorem dX5_empty_6 : decode cX5_empty 6 = .ok (.iconst 0, 1) := by decide +kernel
theorem dX5_empty_7 : decode cX5_empty 7 = .ok (.iconst 0, 1) := by decide +kernel
theorem dX5_empty_8 : decode cX5_empty 8 = .ok (.ldc 17, 2) := by decide +kernel
theorem dX5_empty_10 : decode cX5_empty 10 = .ok (.invokevirtual 34, 3) := by decide +kernel
theorem dX5_empty_13 : decode cX5_empty 13 = .ok (.return_, 1) := by decide +kernel
theorem dX5_isFull_0 : decode cX5_isFull 0 = .ok (.aload_n 0, 1) := by decide +kernel
theorem dX5_isFull_1 : decode cX5_isFull 1 = .ok (.getfield 22, 3) := by decide +kernel
theorem dX5_isFull_4 : decode cX5_isFull 4 = .ok (.bipush 24, 2) := by decide +kernel
theorem dX5_isFull_6 : decode cX5_isFull 6 = .ok (.if_icmp .lt 7, 3) := by decide +kernel
theorem dX5_isFull_9 : decode cX5_isFull 9 = .ok (.iconst 1, 1) := by decide +kernel
theorem dX5_isFull_10 : decode cX5_isFull 10 = .ok (.goto 4, 3) := by decide +kernel
theorem dX5_isFull_13 : decode cX5_isFull 13 = .ok (.iconst 0, 1) := by decide +kernel
theorem dX5_isFull_14 : decode cX5_isFull 14 = .ok (.ireturn, 1) := by decide +kernel
theorem dX5_nextMeans_0 : decode cX5_nextMeans 0 = .ok (.aload_n 0, 1) := by decide +kernel
theorem dX5_nextMeans_1 : decode cX5_nextMeans 1 = .ok (.iload_n 1, 1) := by decide +kernel
theorem dX5_nextMeans_2 : decode cX5_nextMeans 2 = .ok (.putfield 25, 3) := by decide +kernel
theorem dX5_nextMeans_5 : decode cX5_nextMeans 5 = .ok (.aload_n 0, 1) := by decide +kernel
theorem dX5_nextMeans_6 : decode cX5_nextMeans 6 = .ok (.iload_n 2, 1) := by decide +kernel
theorem dX5_nextMeans_7 : decode cX5_nextMeans 7 = .ok (.putfield 28, 3) := by decide +kernel
theorem dX5_nextMeans_10 : decode cX5_nextMeans 10 = .ok (.aload_n 0, 1) := by decide +kernel
theorem dX5_nextMeans_11 : decode cX5_nextMeans 11 = .ok (.iload_n 3, 1) := by decide +kernel
theorem dX5_nextMeans_12 : decode cX5_nextMeans 12 = .ok (.putfield 18, 3) := by decide +kernel
theorem dX5_nextMeans_15 : decode cX5_nextMeans 15 = .ok (.return_, 1) := by decide +kernel
theorem dX5_placeFor_0 : decode cX5_placeFor 0 = .ok (.aload_n 2, 1) := by decide +kernel
theorem dX5_placeFor_1 : decode cX5_placeFor 1 = .ok (.invokevirtual 38, 3) := by decide +kernel
theorem dX5_placeFor_4 : decode cX5_placeFor 4 = .ok (.istore_n 3, 1) := by decide +kernel
theorem dX5_placeFor_5 : decode cX5_placeFor 5 = .ok (.aload_n 2, 1) := by decide +kernel
theorem dX5_placeFor_6 : decode cX5_placeFor 6 = .ok (.invokevirtual 44, 3) := by decide +kernel
theorem dX5_placeFor_9 : decode cX5_placeFor 9 = .ok (.istore 4, 2) := by decide +kernel
theorem dX5_placeFor_11 : decode cX5_placeFor 11 = .ok (.aload_n 2, 1) := by decide +kernel
theorem dX5_placeFor_12 : decode cX5_placeFor 12 = .ok (.invokevirtual 47, 3) := by decide +kernel
theorem dX5_placeFor_15 : decode cX5_placeFor 15 = .ok (.istore 5, 2) := by decide +kernel
theorem dX5_placeFor_17 : decode cX5_placeFor 17 = .ok (.aload_n 2, 1) := by decide +kernel
theorem dX5_placeFor_18 : decode cX5_placeFor 18 = .ok (.invokevirtual 50, 3) := by decide +kernel
theorem dX5_placeFor_21 : decode cX5_placeFor 21 = .ok (.istore 6, 2) := by decide +kernel
theorem dX5_placeFor_23 : decode cX5_placeFor 23 = .ok (.iconst 0, 1) := by decide +kernel
theorem dX5_placeFor_24 : decode cX5_placeFor 24 = .ok (.istore 7, 2) := by decide +kernel
theorem dX5_placeFor_26 : decode cX5_placeFor 26 = .ok (.iload 7, 2) := by decide +kernel
theorem dX5_placeFor_28 : decode cX5_placeFor 28 = .ok (.aload_n 0, 1) := by decide +kernel
theorem dX5_placeFor_29 : decode cX5_placeFor 29 = .ok (.getfield 22, 3) := by decide +kernel
theorem dX5_placeFor_32 : decode cX5_placeFor 32 = .ok (.if_icmp .ge 49, 3) := by decide +kernel
theorem dX5_placeFor_35 : decode cX5_placeFor 35 = .ok (.iload 7, 2) := by decide +kernel
theorem dX5_placeFor_37 : decode cX5_placeFor 37 = .ok (.bipush 24, 2) := by decide +kernel
theorem dX5_placeFor_39 : decode cX5_placeFor 39 = .ok (.if_icmp .ge 42, 3) := by decide +kernel
theorem dX5_placeFor_42 : decode cX5_placeFor 42 = .ok (.aload_n 0, 1) := by decide +kernel
theorem dX5_placeFor_43 : decode cX5_placeFor 43 = .ok (.getfield 13, 3) := by decide +kernel
theorem dX5_placeFor_46 : decode cX5_placeFor 46 = .ok (.iload 7, 2) := by decide +kernel
theorem dX5_placeFor_48 : decode cX5_placeFor 48 = .ok (.aaload, 1) := by decide +kernel
theorem dX5_placeFor_49 : decode cX5_placeFor 49 = .ok (.astore 8, 2) := by decide +kernel
theorem dX5_placeFor_51 : decode cX5_placeFor 51 = .ok (.aload 8, 2) := by decide +kernel
theorem dX5_placeFor_53 : decode cX5_placeFor 53 = .ok (.ifnull 22, 3) := by decide +kernel
theorem dX5_placeFor_56 : decode cX5_placeFor 56 = .ok (.aload 8, 2) := by decide +kernel
theorem dX5_placeFor_58 : decode cX5_placeFor 58 = .ok (.iload_n 1, 1) := by decide +kernel
theorem dX5_placeFor_59 : decode cX5_placeFor 59 = .ok (.iload_n 3, 1) := by decide +kernel
theorem dX5_placeFor_60 : decode cX5_placeFor 60 = .ok (.iload 4, 2) := by decide +kernel
theorem dX5_placeFor_62 : decode cX5_placeFor 62 = .ok (.iload 5, 2) := by decide +kernel
theorem dX5_placeFor_64 : decode cX5_placeFor 64 = .ok (.iload 6, 2) := by decide +kernel
theorem dX5_placeFor_66 : decode cX5_placeFor 66 = .ok (.invokevirtual 53, 3) := by decide +kernel
theorem dX5_placeFor_69 : decode cX5_placeFor 69 = .ok (.ifCond .eq 6, 3) := by decide +kernel
theorem dX5_placeFor_72 : decode cX5_placeFor 72 = .ok (.iload 7, 2) := by decide +kernel
theorem dX5_placeFor_74 : decode cX5_placeFor 74 = .ok (.ireturn, 1) := by decide +kernel
theorem dX5_placeFor_75 : decode cX5_placeFor 75 = .ok (.iinc 7 1, 3) := by decide +kernel
theorem dX5_placeFor_78 : decode cX5_placeFor 78 = .ok (.goto (-52), 3) := by decide +kernel
theorem dX5_placeFor_81 : decode cX5_placeFor 81 = .ok (.iconst (-1), 1) := by decide +kernel
theorem dX5_placeFor_82 : decode cX5_placeFor 82 = .ok (.ireturn, 1) := by decide +kernel
theorem dX6_done_0 : decode cX6_done 0 = .ok (.aload_n 0, 1) := by decide +kernel
theorem dX6_done_1 : decode cX6_done 1 = .ok (.getfield 22, 3) := by decide +kernel
theorem dX6_done_4 : decode cX6_done 4 = .ok (.ireturn, 1) := by decide +kernel
theorem dX6_init_0 : decode cX6_init 0 = .ok (.aload_n 0, 1) := by decide +kernel
theorem dX6_init_1 : decode cX6_init 1 = .ok (.invokespecial 3, 3) := by decide +kernel
theorem dX6_init_4 : decode cX6_init 4 = .ok (.aload_n 0, 1) := by decide +kernel
theorem dX6_init_5 : decode cX6_init 5 = .ok (.iload_n 1, 1) := by decide +kernel
theorem dX6_init_6 : decode cX6_init 6 = .ok (.putfield 9, 3) := by decide +kernel
theorem dX6_init_9 : decode cX6_init 9 = .ok (.aload_n 0, 1) := by decide +kernel
theorem dX6_init_10 : decode cX6_init 10 = .ok (.aload_n 2, 1) := by decide +kernel
theorem dX6_init_11 : decode cX6_init 11 = .ok (.putfield 15, 3) := by decide +kernel
theorem dX6_init_14 : decode cX6_init 14 = .ok (.aload_n 0, 1) := by decide +kernel
theorem dX6_init_15 : decode cX6_init 15 = .ok (.aload_n 3, 1) := by decide +kernel
theorem dX6_init_16 : decode cX6_init 16 = .ok (.putfield 19, 3) := by decide +kernel
theorem dX6_init_19 : decode cX6_init 19 = .ok (.aload_n 0, 1) := by decide +kernel
theorem dX6_init_20 : decode cX6_init 20 = .ok (.iload 4, 2) := by decide +kernel
theorem dX6_init_22 : decode cX6_init 22 = .ok (.putfield 22, 3) := by decide +kernel
theorem dX6_init_25 : decode cX6_init 25 = .ok (.aload_n 0, 1) := by decide +kernel
theorem dX6_init_26 : decode cX6_init 26 = .ok (.iload 5, 2) := by decide +kernel
theorem dX6_init_28 : decode cX6_init 28 = .ok (.putfield 25, 3) := by decide +kernel
theorem dX6_init_31 : decode cX6_init 31 = .ok (.aload_n 0, 1) := by decide +kernel
theorem dX6_init_32 : decode cX6_init 32 = .ok (.iload 6, 2) := by decide +kernel
theorem dX6_init_34 : decode cX6_init 34 = .ok (.putfield 28, 3) := by decide +kernel
theorem dX6_init_37 : decode cX6_init 37 = .ok (.aload_n 0, 1) := by decide +kernel
theorem dX6_init_38 : decode cX6_init 38 = .ok (.iload 7, 2) := by decide +kernel
theorem dX6_init_40 : decode cX6_init 40 = .ok (.putfield 31, 3) := by decide +kernel
theorem dX6_init_43 : decode cX6_init 43 = .ok (.return_, 1) := by decide +kernel
theorem dX6_means_0 : decode cX6_means 0 = .ok (.aload_n 0, 1) := by decide +kernel
theorem dX6_means_1 : decode cX6_means 1 = .ok (.getfield 9, 3) := by decide +kernel
theorem dX6_means_4 : decode cX6_means 4 = .ok (.iload_n 1, 1) := by decide +kernel
theorem dX6_means_5 : decode cX6_means 5 = .ok (.if_icmp .ne 54, 3) := by decide +kernel
theorem dX6_means_8 : decode cX6_means 8 = .ok (.aload_n 0, 1) := by decide +kernel
theorem dX6_means_9 : decode cX6_means 9 = .ok (.getfield 15, 3) := by decide +kernel
theorem dX6_means_12 : decode cX6_means 12 = .ok (.iload_n 2, 1) := by decide +kernel
theorem dX6_means_13 : decode cX6_means 13 = .ok (.invokevirtual 34, 3) := by decide +kernel
theorem dX6_means_16 : decode cX6_means 16 = .ok (.ifCond .eq 43, 3) := by decide +kernel
theorem dX6_means_19 : decode cX6_means 19 = .ok (.aload_n 0, 1) := by decide +kernel
theorem dX6_means_20 : decode cX6_means 20 = .ok (.getfield 19, 3) := by decide +kernel
theorem dX6_means_23 : decode cX6_means 23 = .ok (.iload_n 3, 1) := by decide +kernel
theorem dX6_means_24 : decode cX6_means 24 = .ok (.invokevirtual 34, 3) := by decide +kernel
theorem dX6_means_27 : decode cX6_means 27 = .ok (.ifCond .eq 32, 3) := by decide +kernel
theorem dX6_means_30 : decode cX6_means 30 = .ok (.aload_n 0, 1) := by decide +kernel
theorem dX6_means_31 : decode cX6_means 31 = .ok (.getfield 25, 3) := by decide +kernel
theorem dX6_means_34 : decode cX6_means 34 = .ok (.ifCond .eq 12, 3) := by decide +kernel
theorem dX6_means_37 : decode cX6_means 37 = .ok (.aload_n 0, 1) := by decide +kernel
theorem dX6_means_38 : decode cX6_means 38 = .ok (.getfield 25, 3) := by decide +kernel
theorem dX6_means_41 : decode cX6_means 41 = .ok (.iload 4, 2) := by decide +kernel
theorem dX6_means_43 : decode cX6_means 43 = .ok (.if_icmp .ne 16, 3) := by decide +kernel
theorem dX6_means_46 : decode cX6_means 46 = .ok (.aload_n 0, 1) := by decide +kernel
theorem dX6_means_47 : decode cX6_means 47 = .ok (.iload 5, 2) := by decide +kernel
theorem dX6_means_49 : decode cX6_means 49 = .ok (.invokevirtual 40, 3) := by decide +kernel
theorem dX6_means_52 : decode cX6_means 52 = .ok (.ifCond .eq 7, 3) := by decide +kernel
theorem dX6_means_55 : decode cX6_means 55 = .ok (.iconst 1, 1) := by decide +kernel
theorem dX6_means_56 : decode cX6_means 56 = .ok (.goto 4, 3) := by decide +kernel
theorem dX6_means_59 : decode cX6_means 59 = .ok (.iconst 0, 1) := by decide +kernel
theorem dX6_means_60 : decode cX6_means 60 = .ok (.ireturn, 1) := by decide +kernel
theorem dX6_meansDoor_0 : decode cX6_meansDoor 0 = .ok (.aload_n 0, 1) := by decide +kernel
theorem dX6_meansDoor_1 : decode cX6_meansDoor 1 = .ok (.getfield 28, 3) := by decide +kernel
theorem dX6_meansDoor_4 : decode cX6_meansDoor 4 = .ok (.ifCond .ne 16, 3) := by decide +kernel
theorem dX6_meansDoor_7 : decode cX6_meansDoor 7 = .ok (.aload_n 0, 1) := by decide +kernel
theorem dX6_meansDoor_8 : decode cX6_meansDoor 8 = .ok (.getfield 31, 3) := by decide +kernel
theorem dX6_meansDoor_11 : decode cX6_meansDoor 11 = .ok (.ldc 45, 2) := by decide +kernel
theorem dX6_meansDoor_13 : decode cX6_meansDoor 13 = .ok (.if_icmp .ne 7, 3) := by decide +kernel
theorem dX6_meansDoor_16 : decode cX6_meansDoor 16 = .ok (.iconst 1, 1) := by decide +kernel
theorem dX6_meansDoor_17 : decode cX6_meansDoor 17 = .ok (.goto 4, 3) := by decide +kernel
theorem dX6_meansDoor_20 : decode cX6_meansDoor 20 = .ok (.iconst 0, 1) := by decide +kernel
theorem dX6_meansDoor_21 : decode cX6_meansDoor 21 = .ok (.istore_n 2, 1) := by decide +kernel
theorem dX6_meansDoor_22 : decode cX6_meansDoor 22 = .ok (.iload_n 2, 1) := by decide +kernel
theorem dX6_meansDoor_23 : decode cX6_meansDoor 23 = .ok (.ifCond .ne 24, 3) := by decide +kernel
theorem dX6_meansDoor_26 : decode cX6_meansDoor 26 = .ok (.iload_n 1, 1) := by decide +kernel
theorem dX6_meansDoor_27 : decode cX6_meansDoor 27 = .ok (.iconst (-1), 1) := by decide +kernel
theorem dX6_meansDoor_28 : decode cX6_meansDoor 28 = .ok (.if_icmp .eq 23, 3) := by decide +kernel
theorem dX6_meansDoor_31 : decode cX6_meansDoor 31 = .ok (.iload_n 1, 1) := by decide +kernel
theorem dX6_meansDoor_32 : decode cX6_meansDoor 32 = .ok (.aload_n 0, 1) := by decide +kernel
theorem dX6_meansDoor_33 : decode cX6_meansDoor 33 = .ok (.getfield 28, 3) := by decide +kernel
theorem dX6_meansDoor_36 : decode cX6_meansDoor 36 = .ok (.if_icmp .lt 15, 3) := by decide +kernel
theorem dX6_meansDoor_39 : decode cX6_meansDoor 39 = .ok (.iload_n 1, 1) := by decide +kernel
theorem dX6_meansDoor_40 : decode cX6_meansDoor 40 = .ok (.aload_n 0, 1) := by decide +kernel
theorem dX6_meansDoor_41 : decode cX6_meansDoor 41 = .ok (.getfield 31, 3) := by decide +kernel
theorem dX6_meansDoor_44 : decode cX6_meansDoor 44 = .ok (.if_icmp .gt 7, 3) := by decide +kernel
theorem dX6_meansDoor_47 : decode cX6_meansDoor 47 = .ok (.iconst 1, 1) := by decide +kernel
theorem dX6_meansDoor_48 : decode cX6_meansDoor 48 = .ok (.goto 4, 3) := by decide +kernel
theorem dX6_meansDoor_51 : decode cX6_meansDoor 51 = .ok (.iconst 0, 1) := by decide +kernel
theorem dX6_meansDoor_52 : decode cX6_meansDoor 52 = .ok (.ireturn, 1) := by decide +kernel
theorem dX7_append_0 : decode cX7_append 0 = .ok (.aload_n 0, 1) := by decide +kernel
theorem dX7_append_1 : decode cX7_append 1 = .ok (.getfield 21, 3) := by decide +kernel
theorem dX7_append_4 : decode cX7_append 4 = .ok (.ifCond .lt 42, 3) := by decide +kernel
theorem dX7_append_7 : decode cX7_append 7 = .ok (.aload_n 0, 1) := by decide +kernel
theorem dX7_append_8 : decode cX7_append 8 = .ok (.getfield 21, 3) := by decide +kernel
theorem dX7_append_11 : decode cX7_append 11 = .ok (.bipush 16, 2) := by decide +kernel
theorem dX7_append_13 : decode cX7_append 13 = .ok (.if_icmp .ge 33, 3) := by decide +kernel
theorem dX7_append_16 : decode cX7_append 16 = .ok (.aload_n 0, 1) := by decide +kernel
theorem dX7_append_17 : decode cX7_append 17 = .ok (.getfield 13, 3) := by decide +kernel
theorem dX7_append_20 : decode cX7_append 20 = .ok (.aload_n 0, 1) := by decide +kernel
theorem dX7_append_21 : decode cX7_append 21 = .ok (.getfield 21, 3) := by decide +kernel
theorem dX7_append_24 : decode cX7_append 24 = .ok (.aload_n 1, 1) := by decide +kernel
theorem dX7_append_25 : decode cX7_append 25 = .ok (.aastore, 1) := by decide +kernel
theorem dX7_append_26 : decode cX7_append 26 = .ok (.aload_n 0, 1) := by decide +kernel
theorem dX7_append_27 : decode cX7_append 27 = .ok (.getfield 17, 3) := by decide +kernel
theorem dX7_append_30 : decode cX7_append 30 = .ok (.aload_n 0, 1) := by decide +kernel
theorem dX7_append_31 : decode cX7_append 31 = .ok (.getfield 21, 3) := by decide +kernel
theorem dX7_append_34 : decode cX7_append 34 = .ok (.iload_n 2, 1) := by decide +kernel
theorem dX7_append_35 : decode cX7_append 35 = .ok (.iastore, 1) := by decide +kernel
theorem dX7_append_36 : decode cX7_append 36 = .ok (.aload_n 0, 1) := by decide +kernel
theorem dX7_append_37 : decode cX7_append 37 = .ok (.dup, 1) := by decide +kernel
theorem dX7_append_38 : decode cX7_append 38 = .ok (.getfield 21, 3) := by decide +kernel
theorem dX7_append_41 : decode cX7_append 41 = .ok (.iconst 1, 1) := by decide +kernel
theorem dX7_append_42 : decode cX7_append 42 = .ok (.iadd, 1) := by decide +kernel
theorem dX7_append_43 : decode cX7_append 43 = .ok (.putfield 21, 3) := by decide +kernel
theorem dX7_append_46 : decode cX7_append 46 = .ok (.aload_n 0, 1) := by decide +kernel
theorem dX7_append_47 : decode cX7_append 47 = .ok (.getfield 21, 3) := by decide +kernel
theorem dX7_append_50 : decode cX7_append 50 = .ok (.ireturn, 1) := by decide +kernel
theorem dX7_empty_0 : decode cX7_empty 0 = .ok (.aload_n 0, 1) := by decide +kernel
theorem dX7_empty_1 : decode cX7_empty 1 = .ok (.iconst 0, 1) := by decide +kernel
theorem dX7_empty_2 : decode cX7_empty 2 = .ok (.putfield 21, 3) := by decide +kernel
theorem dX7_empty_5 : decode cX7_empty 5 = .ok (.return_, 1) := by decide +kernel
theorem dX7_isFull_0 : decode cX7_isFull 0 = .ok (.aload_n 0, 1) := by decide +kernel
theorem dX7_isFull_1 : decode cX7_isFull 1 = .ok (.getfield 21, 3) := by decide +kernel
theorem dX7_isFull_4 : decode cX7_isFull 4 = .ok (.bipush 16, 2) := by decide +kernel
theorem dX7_isFull_6 : decode cX7_isFull 6 = .ok (.if_icmp .lt 7, 3) := by decide +kernel
theorem dX7_isFull_9 : decode cX7_isFull 9 = .ok (.iconst 1, 1) := by decide +kernel
theorem dX7_isFull_10 : decode cX7_isFull 10 = .ok (.goto 4, 3) := by decide +kernel
theorem dX7_isFull_13 : decode cX7_isFull 13 = .ok (.iconst 0, 1) := by decide +kernel
theorem dX7_isFull_14 : decode cX7_isFull 14 = .ok (.ireturn, 1) := by decide +kernel
theorem dX7_portOf_0 : decode cX7_portOf 0 = .ok (.iconst (-1), 1) := by decide +kernel
theorem dX7_portOf_1 : decode cX7_portOf 1 = .ok (.istore_n 2, 1) := by decide +kernel
theorem dX7_portOf_2 : decode cX7_portOf 2 = .ok (.iconst (-1), 1) := by decide +kernel
theorem dX7_portOf_3 : decode cX7_portOf 3 = .ok (.istore_n 3, 1) := by decide +kernel
theorem dX7_portOf_4 : decode cX7_portOf 4 = .ok (.iconst 0, 1) := by decide +kernel
theorem dX7_portOf_5 : decode cX7_portOf 5 = .ok (.istore 4, 2) := by decide +kernel
theorem dX7_portOf_7 : decode cX7_portOf 7 = .ok (.iload 4, 2) := by decide +kernel
theorem dX7_portOf_9 : decode cX7_portOf 9 = .ok (.aload_n 0, 1) := by decide +kernel
theorem dX7_portOf_10 : decode cX7_portOf 10 = .ok (.getfield 21, 3) := by decide +kernel
theorem dX7_portOf_13 : decode cX7_portOf 13 = .ok (.if_icmp .ge 62, 3) := by decide +kernel
theorem dX7_portOf_16 : decode cX7_portOf 16 = .ok (.iload 4, 2) := by decide +kernel
theorem dX7_portOf_18 : decode cX7_portOf 18 = .ok (.bipush 16, 2) := by decide +kernel
theorem dX7_portOf_20 : decode cX7_portOf 20 = .ok (.if_icmp .ge 55, 3) := by decide +kernel
theorem dX7_portOf_23 : decode cX7_portOf 23 = .ok (.aload_n 0, 1) := by decide +kernel
theorem dX7_portOf_24 : decode cX7_portOf 24 = .ok (.getfield 13, 3) := by decide +kernel
theorem dX7_portOf_27 : decode cX7_portOf 27 = .ok (.iload 4, 2) := by decide +kernel
theorem dX7_portOf_29 : decode cX7_portOf 29 = .ok (.aaload, 1) := by decide +kernel
theorem dX7_portOf_30 : decode cX7_portOf 30 = .ok (.astore 5, 2) := by decide +kernel
theorem dX7_portOf_32 : decode cX7_portOf 32 = .ok (.aload 5, 2) := by decide +kernel
theorem dX7_portOf_34 : decode cX7_portOf 34 = .ok (.ifnull 35, 3) := by decide +kernel
theorem dX7_portOf_37 : decode cX7_portOf 37 = .ok (.aload 5, 2) := by decide +kernel
theorem dX7_portOf_39 : decode cX7_portOf 39 = .ok (.invokevirtual 25, 3) := by decide +kernel
theorem dX7_portOf_42 : decode cX7_portOf 42 = .ok (.iload_n 2, 1) := by decide +kernel
theorem dX7_portOf_43 : decode cX7_portOf 43 = .ok (.if_icmp .lt 26, 3) := by decide +kernel
theorem dX7_portOf_46 : decode cX7_portOf 46 = .ok (.aload 5, 2) := by decide +kernel
theorem dX7_portOf_48 : decode cX7_portOf 48 = .ok (.iload_n 1, 1) := by decide +kernel
theorem dX7_portOf_49 : decode cX7_portOf 49 = .ok (.invokevirtual 29, 3) := by decide +kernel
theorem dX7_portOf_52 : decode cX7_portOf 52 = .ok (.ifCond .eq 17, 3) := by decide +kernel
theorem dX7_portOf_55 : decode cX7_portOf 55 = .ok (.aload 5, 2) := by decide +kernel
theorem dX7_portOf_57 : decode cX7_portOf 57 = .ok (.invokevirtual 25, 3) := by decide +kernel
theorem dX7_portOf_60 : decode cX7_portOf 60 = .ok (.istore_n 2, 1) := by decide +kernel
theorem dX7_portOf_61 : decode cX7_portOf 61 = .ok (.aload_n 0, 1) := by decide +kernel
theorem dX7_portOf_62 : decode cX7_portOf 62 = .ok (.getfield 17, 3) := by decide +kernel
theorem dX7_portOf_65 : decode cX7_portOf 65 = .ok (.iload 4, 2) := by decide +kernel
theorem dX7_portOf_67 : decode cX7_portOf 67 = .ok (.iaload, 1) := by decide +kernel
theorem dX7_portOf_68 : decode cX7_portOf 68 = .ok (.istore_n 3, 1) := by decide +kernel
theorem dX7_portOf_69 : decode cX7_portOf 69 = .ok (.iinc 4 1, 3) := by decide +kernel
theorem dX7_portOf_72 : decode cX7_portOf 72 = .ok (.goto (-65), 3) := by decide +kernel
theorem dX7_portOf_75 : decode cX7_portOf 75 = .ok (.iload_n 3, 1) := by decide +kernel
theorem dX7_portOf_76 : decode cX7_portOf 76 = .ok (.ireturn, 1) := by decide +kernel
theorem dX8_accept_0 : decode cX8_accept 0 = .ok (.lload_n 1, 1) := by decide +kernel
theorem dX8_accept_1 : decode cX8_accept 1 = .ok (.aload_n 0, 1) := by decide +kernel
theorem dX8_accept_2 : decode cX8_accept 2 = .ok (.getfield 35, 3) := by decide +kernel
theorem dX8_accept_5 : decode cX8_accept 5 = .ok (.lsub, 1) := by decide +kernel
theorem dX8_accept_6 : decode cX8_accept 6 = .ok (.lstore_n 3, 1) := by decide +kernel
theorem dX8_accept_7 : decode cX8_accept 7 = .ok (.lload_n 3, 1) := by decide +kernel
theorem dX8_accept_8 : decode cX8_accept 8 = .ok (.lconst 0, 1) := by decide +kernel
theorem dX8_accept_9 : decode cX8_accept 9 = .ok (.lcmp, 1) := by decide +kernel
theorem dX8_accept_10 : decode cX8_accept 10 = .ok (.ifCond .le 36, 3) := by decide +kernel
theorem dX8_accept_13 : decode cX8_accept 13 = .ok (.aload_n 0, 1) := by decide +kernel
theorem dX8_accept_14 : decode cX8_accept 14 = .ok (.lload_n 3, 1) := by decide +kernel
theorem dX8_accept_15 : decode cX8_accept 15 = .ok (.ldc2_w 114, 3) := by decide +kernel
theorem dX8_accept_18 : decode cX8_accept 18 = .ok (.lcmp, 1) := by decide +kernel
theorem dX8_accept_19 : decode cX8_accept 19 = .ok (.ifCond .ge 15, 3) := by decide +kernel
theorem dX8_accept_22 : decode cX8_accept 22 = .ok (.aload_n 0, 1) := by decide +kernel
theorem dX8_accept_23 : decode cX8_accept 23 = .ok (.getfield 38, 3) := by decide +kernel
theorem dX8_accept_26 : decode cX8_accept 26 = .ok (.lload_n 3, 1) := by decide +kernel
theorem dX8_accept_27 : decode cX8_accept 27 = .ok (.l2i, 1) := by decide +kernel
theorem dX8_accept_28 : decode cX8_accept 28 = .ok (.lshl, 1) := by decide +kernel
theorem dX8_accept_29 : decode cX8_accept 29 = .ok (.lconst 1, 1) := by decide +kernel
theorem dX8_accept_30 : decode cX8_accept 30 = .ok (.lor, 1) := by decide +kernel
theorem dX8_accept_31 : decode cX8_accept 31 = .ok (.goto 4, 3) := by decide +kernel
theorem dX8_accept_34 : decode cX8_accept 34 = .ok (.lconst 1, 1) := by decide +kernel
theorem dX8_accept_35 : decode cX8_accept 35 = .ok (.putfield 38, 3) := by decide +kernel
theorem dX8_accept_38 : decode cX8_accept 38 = .ok (.aload_n 0, 1) := by decide +kernel
theorem dX8_accept_39 : decode cX8_accept 39 = .ok (.lload_n 1, 1) := by decide +kernel
theorem dX8_accept_40 : decode cX8_accept 40 = .ok (.putfield 35, 3) := by decide +kernel
theorem dX8_accept_43 : decode cX8_accept 43 = .ok (.goto 25, 3) := by decide +kernel
theorem dX8_accept_46 : decode cX8_accept 46 = .ok (.lload_n 3, 1) := by decide +kernel
theorem dX8_accept_47 : decode cX8_accept 47 = .ok (.ldc2_w 120, 3) := by decide +kernel
theorem dX8_accept_50 : decode cX8_accept 50 = .ok (.lcmp, 1) := by decide +kernel
theorem dX8_accept_51 : decode cX8_accept 51 = .ok (.ifCond .le 17, 3) := by decide +kernel
theorem dX8_accept_54 : decode cX8_accept 54 = .ok (.aload_n 0, 1) := by decide +kernel
theorem dX8_accept_55 : decode cX8_accept 55 = .ok (.dup, 1) := by decide +kernel
theorem dX8_accept_56 : decode cX8_accept 56 = .ok (.getfield 38, 3) := by decide +kernel
theorem dX8_accept_59 : decode cX8_accept 59 = .ok (.lconst 1, 1) := by decide +kernel
theorem dX8_accept_60 : decode cX8_accept 60 = .ok (.lload_n 3, 1) := by decide +kernel
theorem dX8_accept_61 : decode cX8_accept 61 = .ok (.lneg, 1) := by decide +kernel
theorem dX8_accept_62 : decode cX8_accept 62 = .ok (.l2i, 1) := by decide +kernel
theorem dX8_accept_63 : decode cX8_accept 63 = .ok (.lshl, 1) := by decide +kernel
theorem dX8_accept_64 : decode cX8_accept 64 = .ok (.lor, 1) := by decide +kernel
theorem dX8_accept_65 : decode cX8_accept 65 = .ok (.putfield 38, 3) := by decide +kernel
theorem dX8_accept_68 : decode cX8_accept 68 = .ok (.aload_n 0, 1) := by decide +kernel
theorem dX8_accept_69 : decode cX8_accept 69 = .ok (.dup, 1) := by decide +kernel
theorem dX8_accept_70 : decode cX8_accept 70 = .ok (.getfield 32, 3) := by decide +kernel
theorem dX8_accept_73 : decode cX8_accept 73 = .ok (.iconst 1, 1) := by decide +kernel
theorem dX8_accept_74 : decode cX8_accept 74 = .ok (.isub, 1) := by decide +kernel
theorem dX8_accept_75 : decode cX8_accept 75 = .ok (.putfield 32, 3) := by decide +kernel
theorem dX8_accept_78 : decode cX8_accept 78 = .ok (.return_, 1) := by decide +kernel
theorem dX8_canClose_0 : decode cX8_canClose 0 = .ok (.aload_n 0, 1) := by decide +kernel
theorem dX8_canClose_1 : decode cX8_canClose 1 = .ok (.getfield 11, 3) := by decide +kernel
theorem dX8_canClose_4 : decode cX8_canClose 4 = .ok (.ifCond .ne 34, 3) := by decide +kernel
theorem dX8_canClose_7 : decode cX8_canClose 7 = .ok (.aload_n 0, 1) := by decide +kernel
theorem dX8_canClose_8 : decode cX8_canClose 8 = .ok (.getfield 15, 3) := by decide +kernel
theorem dX8_canClose_11 : decode cX8_canClose 11 = .ok (.iload_n 1, 1) := by decide +kernel
theorem dX8_canClose_12 : decode cX8_canClose 12 = .ok (.if_icmp .ne 26, 3) := by decide +kernel
theorem dX8_canClose_15 : decode cX8_canClose 15 = .ok (.aload_n 0, 1) := by decide +kernel
theorem dX8_canClose_16 : decode cX8_canClose 16 = .ok (.invokevirtual 48, 3) := by decide +kernel
theorem dX8_canClose_19 : decode cX8_canClose 19 = .ok (.ifCond .ne 19, 3) := by decide +kernel
theorem dX8_canClose_22 : decode cX8_canClose 22 = .ok (.aload_n 0, 1) := by decide +kernel
theorem dX8_canClose_23 : decode cX8_canClose 23 = .ok (.getfield 35, 3) := by decide +kernel
theorem dX8_canClose_26 : decode cX8_canClose 26 = .ok (.aload_n 0, 1) := by decide +kernel
theorem dX8_canClose_27 : decode cX8_canClose 27 = .ok (.invokevirtual 52, 3) := by decide +kernel
theorem dX8_canClose_30 : decode cX8_canClose 30 = .ok (.lcmp, 1) := by decide +kernel
theorem dX8_canClose_31 : decode cX8_canClose 31 = .ok (.ifCond .ge 7, 3) := by decide +kernel
theorem dX8_canClose_34 : decode cX8_canClose 34 = .ok (.iconst 1, 1) := by decide +kernel
theorem dX8_canClose_35 : decode cX8_canClose 35 = .ok (.goto 4, 3) := by decide +kernel
theorem dX8_canClose_38 : decode cX8_canClose 38 = .ok (.iconst 0, 1) := by decide +kernel
theorem dX8_canClose_39 : decode cX8_canClose 39 = .ok (.ireturn, 1) := by decide +kernel
theorem dX8_close_0 : decode cX8_close 0 = .ok (.aload_n 0, 1) := by decide +kernel
theorem dX8_close_1 : decode cX8_close 1 = .ok (.dup, 1) := by decide +kernel
theorem dX8_close_2 : decode cX8_close 2 = .ok (.getfield 35, 3) := by decide +kernel
theorem dX8_close_5 : decode cX8_close 5 = .ok (.lconst 1, 1) := by decide +kernel
theorem dX8_close_6 : decode cX8_close 6 = .ok (.ladd, 1) := by decide +kernel
theorem dX8_close_7 : decode cX8_close 7 = .ok (.putfield 35, 3) := by decide +kernel
theorem dX8_close_10 : decode cX8_close 10 = .ok (.aload_n 0, 1) := by decide +kernel
theorem dX8_close_11 : decode cX8_close 11 = .ok (.dup, 1) := by decide +kernel
theorem dX8_close_12 : decode cX8_close 12 = .ok (.getfield 32, 3) := by decide +kernel
theorem dX8_close_15 : decode cX8_close 15 = .ok (.iconst 1, 1) := by decide +kernel
theorem dX8_close_16 : decode cX8_close 16 = .ok (.isub, 1) := by decide +kernel
theorem dX8_close_17 : decode cX8_close 17 = .ok (.putfield 32, 3) := by decide +kernel
theorem dX8_close_20 : decode cX8_close 20 = .ok (.aload_n 1, 1) := by decide +kernel
theorem dX8_close_21 : decode cX8_close 21 = .ok (.invokestatic 62, 3) := by decide +kernel
theorem dX8_close_24 : decode cX8_close 24 = .ok (.istore_n 3, 1) := by decide +kernel
theorem dX8_close_25 : decode cX8_close 25 = .ok (.bipush 28, 2) := by decide +kernel
theorem dX8_close_27 : decode cX8_close 27 = .ok (.aload_n 1, 1) := by decide +kernel
theorem dX8_close_28 : decode cX8_close 28 = .ok (.invokevirtual 56, 3) := by decide +kernel
theorem dX8_close_31 : decode cX8_close 31 = .ok (.iadd, 1) := by decide +kernel
theorem dX8_close_32 : decode cX8_close 32 = .ok (.iload_n 3, 1) := by decide +kernel
theorem dX8_close_33 : decode cX8_close 33 = .ok (.iadd, 1) := by decide +kernel
theorem dX8_close_34 : decode cX8_close 34 = .ok (.istore 4, 2) := by decide +kernel
theorem dX8_close_36 : decode cX8_close 36 = .ok (.aload_n 2, 1) := by decide +kernel
theorem dX8_close_37 : decode cX8_close 37 = .ok (.bipush 20, 2) := by decide +kernel
theorem dX8_close_39 : decode cX8_close 39 = .ok (.aload_n 0, 1) := by decide +kernel
theorem dX8_close_40 : decode cX8_close 40 = .ok (.getfield 18, 3) := by decide +kernel
theorem dX8_close_43 : decode cX8_close 43 = .ok (.invokevirtual 66, 3) := by decide +kernel
theorem dX8_close_46 : decode cX8_close 46 = .ok (.aload_n 2, 1) := by decide +kernel
theorem dX8_close_47 : decode cX8_close 47 = .ok (.bipush 24, 2) := by decide +kernel
theorem dX8_close_49 : decode cX8_close 49 = .ok (.aload_n 0, 1) := by decide +kernel
theorem dX8_close_50 : decode cX8_close 50 = .ok (.getfield 35, 3) := by decide +kernel
theorem dX8_close_53 : decode cX8_close 53 = .ok (.l2i, 1) := by decide +kernel
theorem dX8_close_54 : decode cX8_close 54 = .ok (.invokevirtual 66, 3) := by decide +kernel
theorem dX8_close_57 : decode cX8_close 57 = .ok (.aload_n 2, 1) := by decide +kernel
theorem dX8_close_58 : decode cX8_close 58 = .ok (.aload_n 1, 1) := by decide +kernel
theorem dX8_close_59 : decode cX8_close 59 = .ok (.iconst 0, 1) := by decide +kernel
theorem dX8_close_60 : decode cX8_close 60 = .ok (.bipush 28, 2) := by decide +kernel
theorem dX8_close_62 : decode cX8_close 62 = .ok (.aload_n 1, 1) := by decide +kernel
theorem dX8_close_63 : decode cX8_close 63 = .ok (.invokevirtual 56, 3) := by decide +kernel
theorem dX8_close_66 : decode cX8_close 66 = .ok (.invokevirtual 70, 3) := by decide +kernel
theorem dX8_close_69 : decode cX8_close 69 = .ok (.iconst 0, 1) := by decide +kernel
theorem dX8_close_70 : decode cX8_close 70 = .ok (.istore 5, 2) := by decide +kernel
theorem dX8_close_72 : decode cX8_close 72 = .ok (.iload 5, 2) := by decide +kernel
theorem dX8_close_74 : decode cX8_close 74 = .ok (.iload_n 3, 1) := by decide +kernel
theorem dX8_close_75 : decode cX8_close 75 = .ok (.if_icmp .ge 27, 3) := by decide +kernel
theorem dX8_close_78 : decode cX8_close 78 = .ok (.aload_n 2, 1) := by decide +kernel
theorem dX8_close_79 : decode cX8_close 79 = .ok (.bipush 28, 2) := by decide +kernel
theorem dX8_close_81 : decode cX8_close 81 = .ok (.aload_n 1, 1) := by decide +kernel
theorem dX8_close_82 : decode cX8_close 82 = .ok (.invokevirtual 56, 3) := by decide +kernel
theorem dX8_close_85 : decode cX8_close 85 = .ok (.iadd, 1) := by decide +kernel
theorem dX8_close_86 : decode cX8_close 86 = .ok (.iload 5, 2) := by decide +kernel
theorem dX8_close_88 : decode cX8_close 88 = .ok (.iadd, 1) := by decide +kernel
theorem dX8_close_89 : decode cX8_close 89 = .ok (.iload 5, 2) := by decide +kernel
theorem dX8_close_91 : decode cX8_close 91 = .ok (.iconst 1, 1) := by decide +kernel
theorem dX8_close_92 : decode cX8_close 92 = .ok (.iadd, 1) := by decide +kernel
theorem dX8_close_93 : decode cX8_close 93 = .ok (.invokevirtual 74, 3) := by decide +kernel
theorem dX8_close_96 : decode cX8_close 96 = .ok (.iinc 5 1, 3) := by decide +kernel
theorem dX8_close_99 : decode cX8_close 99 = .ok (.goto (-27), 3) := by decide +kernel
theorem dX8_close_102 : decode cX8_close 102 = .ok (.aload_n 2, 1) := by decide +kernel
theorem dX8_close_103 : decode cX8_close 103 = .ok (.iload 4, 2) := by decide +kernel
theorem dX8_close_105 : decode cX8_close 105 = .ok (.iload_n 3, 1) := by decide +kernel
theorem dX8_close_106 : decode cX8_close 106 = .ok (.invokevirtual 74, 3) := by decide +kernel
theorem dX8_close_109 : decode cX8_close 109 = .ok (.aload_n 2, 1) := by decide +kernel
theorem dX8_close_110 : decode cX8_close 110 = .ok (.iload 4, 2) := by decide +kernel
theorem dX8_close_112 : decode cX8_close 112 = .ok (.iconst 1, 1) := by decide +kernel
theorem dX8_close_113 : decode cX8_close 113 = .ok (.iadd, 1) := by decide +kernel
theorem dX8_close_114 : decode cX8_close 114 = .ok (.iconst 4, 1) := by decide +kernel
theorem dX8_close_115 : decode cX8_close 115 = .ok (.invokevirtual 74, 3) := by decide +kernel
theorem dX8_close_118 : decode cX8_close 118 = .ok (.aload_n 0, 1) := by decide +kernel
theorem dX8_close_119 : decode cX8_close 119 = .ok (.aload_n 2, 1) := by decide +kernel
theorem dX8_close_120 : decode cX8_close 120 = .ok (.bipush 28, 2) := by decide +kernel
theorem dX8_close_122 : decode cX8_close 122 = .ok (.iload 4, 2) := by decide +kernel
theorem dX8_close_124 : decode cX8_close 124 = .ok (.iconst 2, 1) := by decide +kernel
theorem dX8_close_125 : decode cX8_close 125 = .ok (.iadd, 1) := by decide +kernel
theorem dX8_close_126 : decode cX8_close 126 = .ok (.aload_n 0, 1) := by decide +kernel
theorem dX8_close_127 : decode cX8_close 127 = .ok (.getfield 35, 3) := by decide +kernel
theorem dX8_close_130 : decode cX8_close 130 = .ok (.invokevirtual 77, 3) := by decide +kernel
theorem dX8_close_133 : decode cX8_close 133 = .ok (.aload_n 2, 1) := by decide +kernel
theorem dX8_close_134 : decode cX8_close 134 = .ok (.iload 4, 2) := by decide +kernel
theorem dX8_close_136 : decode cX8_close 136 = .ok (.iconst 2, 1) := by decide +kernel
theorem dX8_close_137 : decode cX8_close 137 = .ok (.iadd, 1) := by decide +kernel
theorem dX8_close_138 : decode cX8_close 138 = .ok (.aload_n 0, 1) := by decide +kernel
theorem dX8_close_139 : decode cX8_close 139 = .ok (.aload_n 2, 1) := by decide +kernel
theorem dX8_close_140 : decode cX8_close 140 = .ok (.iload 4, 2) := by decide +kernel
theorem dX8_close_142 : decode cX8_close 142 = .ok (.iconst 2, 1) := by decide +kernel
theorem dX8_close_143 : decode cX8_close 143 = .ok (.iadd, 1) := by decide +kernel
theorem dX8_close_144 : decode cX8_close 144 = .ok (.aload_n 0, 1) := by decide +kernel
theorem dX8_close_145 : decode cX8_close 145 = .ok (.getfield 35, 3) := by decide +kernel
theorem dX8_close_148 : decode cX8_close 148 = .ok (.invokevirtual 81, 3) := by decide +kernel
theorem dX8_close_151 : decode cX8_close 151 = .ok (.invokevirtual 85, 3) := by decide +kernel
theorem dX8_close_154 : decode cX8_close 154 = .ok (.return_, 1) := by decide +kernel
theorem dX8_countFrom_0 : decode cX8_countFrom 0 = .ok (.aload_n 0, 1) := by decide +kernel
theorem dX8_countFrom_1 : decode cX8_countFrom 1 = .ok (.lload_n 1, 1) := by decide +kernel
theorem dX8_countFrom_2 : decode cX8_countFrom 2 = .ok (.putfield 35, 3) := by decide +kernel
theorem dX8_countFrom_5 : decode cX8_countFrom 5 = .ok (.aload_n 0, 1) := by decide +kernel
theorem dX8_countFrom_6 : decode cX8_countFrom 6 = .ok (.aload_n 0, 1) := by decide +kernel
theorem dX8_countFrom_7 : decode cX8_countFrom 7 = .ok (.getfield 11, 3) := by decide +kernel
theorem dX8_countFrom_10 : decode cX8_countFrom 10 = .ok (.iconst 1, 1) := by decide +kernel
theorem dX8_countFrom_11 : decode cX8_countFrom 11 = .ok (.if_icmp .ne 13, 3) := by decide +kernel
theorem dX8_countFrom_14 : decode cX8_countFrom 14 = .ok (.lload_n 1, 1) := by decide +kernel
theorem dX8_countFrom_15 : decode cX8_countFrom 15 = .ok (.lconst 0, 1) := by decide +kernel
theorem dX8_countFrom_16 : decode cX8_countFrom 16 = .ok (.lcmp, 1) := by decide +kernel
theorem dX8_countFrom_17 : decode cX8_countFrom 17 = .ok (.ifCond .eq 7, 3) := by decide +kernel
theorem dX8_countFrom_20 : decode cX8_countFrom 20 = .ok (.lconst 1, 1) := by decide +kernel
theorem dX8_countFrom_21 : decode cX8_countFrom 21 = .ok (.goto 4, 3) := by decide +kernel
theorem dX8_countFrom_24 : decode cX8_countFrom 24 = .ok (.lconst 0, 1) := by decide +kernel
theorem dX8_countFrom_25 : decode cX8_countFrom 25 = .ok (.putfield 38, 3) := by decide +kernel
theorem dX8_countFrom_28 : decode cX8_countFrom 28 = .ok (.return_, 1) := by decide +kernel
theorem dX8_counter_0 : decode cX8_counter 0 = .ok (.aload_n 0, 1) := by decide +kernel
theorem dX8_counter_1 : decode cX8_counter 1 = .ok (.getfield 35, 3) := by decide +kernel
theorem dX8_counter_4 : decode cX8_counter 4 = .ok (.lreturn, 1) := by decide +kernel
theorem dX8_end_0 : decode cX8_end 0 = .ok (.aload_n 0, 1) := by decide +kernel
theorem dX8_end_1 : decode cX8_end 1 = .ok (.iconst 1, 1) := by decide +kernel
theorem dX8_end_2 : decode cX8_end 2 = .ok (.putfield 41, 3) := by decide +kernel
theorem dX8_end_5 : decode cX8_end 5 = .ok (.return_, 1) := by decide +kernel
theorem dX8_fillFor_0 : decode cX8_fillFor 0 = .ok (.aload_n 0, 1) := by decide +kernel
theorem dX8_fillFor_1 : decode cX8_fillFor 1 = .ok (.invokevirtual 56, 3) := by decide +kernel
theorem dX8_fillFor_4 : decode cX8_fillFor 4 = .ok (.iconst 2, 1) := by decide +kernel
theorem dX8_fillFor_5 : decode cX8_fillFor 5 = .ok (.iadd, 1) := by decide +kernel
theorem dX8_fillFor_6 : decode cX8_fillFor 6 = .ok (.ineg, 1) := by decide +kernel
theorem dX8_fillFor_7 : decode cX8_fillFor 7 = .ok (.iconst 3, 1) := by decide +kernel
theorem dX8_fillFor_8 : decode cX8_fillFor 8 = .ok (.iand, 1) := by decide +kernel
theorem dX8_fillFor_9 : decode cX8_fillFor 9 = .ok (.ireturn, 1) := by decide +kernel
theorem dX8_fitsStamp_0 : decode cX8_fitsStamp 0 = .ok (.aload_n 1, 1) := by decide +kernel
theorem dX8_fitsStamp_1 : decode cX8_fitsStamp 1 = .ok (.invokevirtual 56, 3) := by decide +kernel
theorem dX8_fitsStamp_4 : decode cX8_fitsStamp 4 = .ok (.bipush 8, 2) := by decide +kernel
theorem dX8_fitsStamp_6 : decode cX8_fitsStamp 6 = .ok (.isub, 1) := by decide +kernel
theorem dX8_fitsStamp_7 : decode cX8_fitsStamp 7 = .ok (.istore 4, 2) := by decide +kernel
theorem dX8_fitsStamp_9 : decode cX8_fitsStamp 9 = .ok (.aload_n 0, 1) := by decide +kernel
theorem dX8_fitsStamp_10 : decode cX8_fitsStamp 10 = .ok (.aload_n 1, 1) := by decide +kernel
theorem dX8_fitsStamp_11 : decode cX8_fitsStamp 11 = .ok (.iload 4, 2) := by decide +kernel
theorem dX8_fitsStamp_13 : decode cX8_fitsStamp 13 = .ok (.lload_n 2, 1) := by decide +kernel
theorem dX8_fitsStamp_14 : decode cX8_fitsStamp 14 = .ok (.invokevirtual 81, 3) := by decide +kernel
theorem dX8_fitsStamp_17 : decode cX8_fitsStamp 17 = .ok (.aload_n 1, 1) := by decide +kernel
theorem dX8_fitsStamp_18 : decode cX8_fitsStamp 18 = .ok (.iload 4, 2) := by decide +kernel
theorem dX8_fitsStamp_20 : decode cX8_fitsStamp 20 = .ok (.invokevirtual 116, 3) := by decide +kernel
theorem dX8_fitsStamp_23 : decode cX8_fitsStamp 23 = .ok (.lcmp, 1) := by decide +kernel
theorem dX8_fitsStamp_24 : decode cX8_fitsStamp 24 = .ok (.ifCond .ne 7, 3) := by decide +kernel
theorem dX8_fitsStamp_27 : decode cX8_fitsStamp 27 = .ok (.iconst 1, 1) := by decide +kernel
theorem dX8_fitsStamp_28 : decode cX8_fitsStamp 28 = .ok (.goto 4, 3) := by decide +kernel
theorem dX8_fitsStamp_31 : decode cX8_fitsStamp 31 = .ok (.iconst 0, 1) := by decide +kernel
theorem dX8_fitsStamp_32 : decode cX8_fitsStamp 32 = .ok (.ireturn, 1) := by decide +kernel
theorem dX8_hasShape_0 : decode cX8_hasShape 0 = .ok (.aload_n 0, 1) := by decide +kernel
theorem dX8_hasShape_1 : decode cX8_hasShape 1 = .ok (.invokevirtual 56, 3) := by decide +kernel
theorem dX8_hasShape_4 : decode cX8_hasShape 4 = .ok (.bipush 36, 2) := by decide +kernel
theorem dX8_hasShape_6 : decode cX8_hasShape 6 = .ok (.isub, 1) := by decide +kernel
theorem dX8_hasShape_7 : decode cX8_hasShape 7 = .ok (.istore_n 1, 1) := by decide +kernel
theorem dX8_hasShape_8 : decode cX8_hasShape 8 = .ok (.iload_n 1, 1) := by decide +kernel
theorem dX8_hasShape_9 : decode cX8_hasShape 9 = .ok (.iconst 4, 1) := by decide +kernel
theorem dX8_hasShape_10 : decode cX8_hasShape 10 = .ok (.if_icmp .lt 13, 3) := by decide +kernel
theorem dX8_hasShape_13 : decode cX8_hasShape 13 = .ok (.iload_n 1, 1) := by decide +kernel
theorem dX8_hasShape_14 : decode cX8_hasShape 14 = .ok (.iconst 3, 1) := by decide +kernel
theorem dX8_hasShape_15 : decode cX8_hasShape 15 = .ok (.iand, 1) := by decide +kernel
theorem dX8_hasShape_16 : decode cX8_hasShape 16 = .ok (.ifCond .ne 7, 3) := by decide +kernel
theorem dX8_hasShape_19 : decode cX8_hasShape 19 = .ok (.iconst 1, 1) := by decide +kernel
theorem dX8_hasShape_20 : decode cX8_hasShape 20 = .ok (.goto 4, 3) := by decide +kernel
theorem dX8_hasShape_23 : decode cX8_hasShape 23 = .ok (.iconst 0, 1) := by decide +kernel
theorem dX8_hasShape_24 : decode cX8_hasShape 24 = .ok (.ireturn, 1) := by decide +kernel
theorem dX8_init_0 : decode cX8_init 0 = .ok (.aload_n 0, 1) := by decide +kernel
theorem dX8_init_1 : decode cX8_init 1 = .ok (.invokespecial 5, 3) := by decide +kernel
theorem dX8_init_4 : decode cX8_init 4 = .ok (.aload_n 0, 1) := by decide +kernel
theorem dX8_init_5 : decode cX8_init 5 = .ok (.iload_n 1, 1) := by decide +kernel
theorem dX8_init_6 : decode cX8_init 6 = .ok (.putfield 11, 3) := by decide +kernel
theorem dX8_init_9 : decode cX8_init 9 = .ok (.aload_n 0, 1) := by decide +kernel
theorem dX8_init_10 : decode cX8_init 10 = .ok (.iload_n 2, 1) := by decide +kernel
theorem dX8_init_11 : decode cX8_init 11 = .ok (.putfield 15, 3) := by decide +kernel
theorem dX8_init_14 : decode cX8_init 14 = .ok (.aload_n 0, 1) := by decide +kernel
theorem dX8_init_15 : decode cX8_init 15 = .ok (.iload_n 3, 1) := by decide +kernel
theorem dX8_init_16 : decode cX8_init 16 = .ok (.putfield 18, 3) := by decide +kernel
theorem dX8_init_19 : decode cX8_init 19 = .ok (.aload_n 0, 1) := by decide +kernel
theorem dX8_init_20 : decode cX8_init 20 = .ok (.lload 4, 2) := by decide +kernel
theorem dX8_init_22 : decode cX8_init 22 = .ok (.putfield 21, 3) := by decide +kernel
theorem dX8_init_25 : decode cX8_init 25 = .ok (.aload_n 0, 1) := by decide +kernel
theorem dX8_init_26 : decode cX8_init 26 = .ok (.lload 6, 2) := by decide +kernel
theorem dX8_init_28 : decode cX8_init 28 = .ok (.putfield 25, 3) := by decide +kernel
theorem dX8_init_31 : decode cX8_init 31 = .ok (.aload_n 0, 1) := by decide +kernel
theorem dX8_init_32 : decode cX8_init 32 = .ok (.iload 8, 2) := by decide +kernel
theorem dX8_init_34 : decode cX8_init 34 = .ok (.putfield 28, 3) := by decide +kernel
theorem dX8_init_37 : decode cX8_init 37 = .ok (.aload_n 0, 1) := by decide +kernel
theorem dX8_init_38 : decode cX8_init 38 = .ok (.iload 9, 2) := by decide +kernel
theorem dX8_init_40 : decode cX8_init 40 = .ok (.putfield 32, 3) := by decide +kernel
theorem dX8_init_43 : decode cX8_init 43 = .ok (.return_, 1) := by decide +kernel
theorem dX8_isDead_0 : decode cX8_isDead 0 = .ok (.aload_n 0, 1) := by decide +kernel
theorem dX8_isDead_1 : decode cX8_isDead 1 = .ok (.getfield 41, 3) := by decide +kernel
theorem dX8_isDead_4 : decode cX8_isDead 4 = .ok (.ifCond .ne 10, 3) := by decide +kernel
theorem dX8_isDead_7 : decode cX8_isDead 7 = .ok (.aload_n 0, 1) := by decide +kernel
theorem dX8_isDead_8 : decode cX8_isDead 8 = .ok (.getfield 32, 3) := by decide +kernel
theorem dX8_isDead_11 : decode cX8_isDead 11 = .ok (.ifCond .gt 7, 3) := by decide +kernel
theorem dX8_isDead_14 : decode cX8_isDead 14 = .ok (.iconst 1, 1) := by decide +kernel
theorem dX8_isDead_15 : decode cX8_isDead 15 = .ok (.goto 4, 3) := by decide +kernel
theorem dX8_isDead_18 : decode cX8_isDead 18 = .ok (.iconst 0, 1) := by decide +kernel
theorem dX8_isDead_19 : decode cX8_isDead 19 = .ok (.ireturn, 1) := by decide +kernel
theorem dX8_isLong_0 : decode cX8_isLong 0 = .ok (.aload_n 0, 1) := by decide +kernel
theorem dX8_isLong_1 : decode cX8_isLong 1 = .ok (.getfield 28, 3) := by decide +kernel
theorem dX8_isLong_4 : decode cX8_isLong 4 = .ok (.ireturn, 1) := by decide +kernel
theorem dX8_isOld_0 : decode cX8_isOld 0 = .ok (.lload_n 1, 1) := by decide +kernel
theorem dX8_isOld_1 : decode cX8_isOld 1 = .ok (.lconst 0, 1) := by decide +kernel
theorem dX8_isOld_2 : decode cX8_isOld 2 = .ok (.lcmp, 1) := by decide +kernel
theorem dX8_isOld_3 : decode cX8_isOld 3 = .ok (.ifCond .le 16, 3) := by decide +kernel
theorem dX8_isOld_6 : decode cX8_isOld 6 = .ok (.lload_n 1, 1) := by decide +kernel
theorem dX8_isOld_7 : decode cX8_isOld 7 = .ok (.aload_n 0, 1) := by decide +kernel
theorem dX8_isOld_8 : decode cX8_isOld 8 = .ok (.getfield 35, 3) := by decide +kernel
theorem dX8_isOld_11 : decode cX8_isOld 11 = .ok (.ldc2_w 108, 3) := by decide +kernel
theorem dX8_isOld_14 : decode cX8_isOld 14 = .ok (.lsub, 1) := by decide +kernel
theorem dX8_isOld_15 : decode cX8_isOld 15 = .ok (.lcmp, 1) := by decide +kernel
theorem dX8_isOld_16 : decode cX8_isOld 16 = .ok (.ifCond .ge 7, 3) := by decide +kernel
theorem dX8_isOld_19 : decode cX8_isOld 19 = .ok (.iconst 1, 1) := by decide +kernel
theorem dX8_isOld_20 : decode cX8_isOld 20 = .ok (.goto 4, 3) := by decide +kernel
theorem dX8_isOld_23 : decode cX8_isOld 23 = .ok (.iconst 0, 1) := by decide +kernel
theorem dX8_isOld_24 : decode cX8_isOld 24 = .ok (.ireturn, 1) := by decide +kernel
theorem dX8_lastNumber_0 : decode cX8_lastNumber 0 = .ok (.aload_n 0, 1) := by decide +kernel
theorem dX8_lastNumber_1 : decode cX8_lastNumber 1 = .ok (.getfield 28, 3) := by decide +kernel
theorem dX8_lastNumber_4 : decode cX8_lastNumber 4 = .ok (.ifCond .eq 9, 3) := by decide +kernel
theorem dX8_lastNumber_7 : decode cX8_lastNumber 7 = .ok (.ldc2_w 44, 3) := by decide +kernel
theorem dX8_lastNumber_10 : decode cX8_lastNumber 10 = .ok (.goto 6, 3) := by decide +kernel
theorem dX8_lastNumber_13 : decode cX8_lastNumber 13 = .ok (.ldc2_w 46, 3) := by decide +kernel
theorem dX8_lastNumber_16 : decode cX8_lastNumber 16 = .ok (.lreturn, 1) := by decide +kernel
theorem dX8_life_0 : decode cX8_life 0 = .ok (.aload_n 0, 1) := by decide +kernel
theorem dX8_life_1 : decode cX8_life 1 = .ok (.getfield 32, 3) := by decide +kernel
theorem dX8_life_4 : decode cX8_life 4 = .ok (.ireturn, 1) := by decide +kernel
theorem dX8_lowNumberIn_0 : decode cX8_lowNumberIn 0 = .ok (.aload_n 0, 1) := by decide +kernel
theorem dX8_lowNumberIn_1 : decode cX8_lowNumberIn 1 = .ok (.bipush 24, 2) := by decide +kernel
theorem dX8_lowNumberIn_3 : decode cX8_lowNumberIn 3 = .ok (.invokevirtual 105, 3) := by decide +kernel
theorem dX8_lowNumberIn_6 : decode cX8_lowNumberIn 6 = .ok (.ireturn, 1) := by decide +kernel
theorem dX8_name_0 : decode cX8_name 0 = .ok (.aload_n 0, 1) := by decide +kernel
theorem dX8_name_1 : decode cX8_name 1 = .ok (.getfield 18, 3) := by decide +kernel
theorem dX8_name_4 : decode cX8_name 4 = .ok (.ireturn, 1) := by decide +kernel
theorem dX8_nameIn_0 : decode cX8_nameIn 0 = .ok (.aload_n 0, 1) := by decide +kernel
theorem dX8_nameIn_1 : decode cX8_nameIn 1 = .ok (.bipush 20, 2) := by decide +kernel
theorem dX8_nameIn_3 : decode cX8_nameIn 3 = .ok (.invokevirtual 105, 3) := by decide +kernel
theorem dX8_nameIn_6 : decode cX8_nameIn 6 = .ok (.ireturn, 1) := by decide +kernel
theorem dX8_open_0 : decode cX8_open 0 = .ok (.aload_n 1, 1) := by decide +kernel
theorem dX8_open_1 : decode cX8_open 1 = .ok (.invokevirtual 56, 3) := by decide +kernel
theorem dX8_open_4 : decode cX8_open 4 = .ok (.bipush 36, 2) := by decide +kernel
theorem dX8_open_6 : decode cX8_open 6 = .ok (.isub, 1) := by decide +kernel
theorem dX8_open_7 : decode cX8_open 7 = .ok (.istore 5, 2) := by decide +kernel
theorem dX8_open_9 : decode cX8_open 9 = .ok (.aload_n 2, 1) := by decide +kernel
theorem dX8_open_10 : decode cX8_open 10 = .ok (.iload 5, 2) := by decide +kernel
theorem dX8_open_12 : decode cX8_open 12 = .ok (.invokevirtual 122, 3) := by decide +kernel
theorem dX8_open_15 : decode cX8_open 15 = .ok (.aload_n 2, 1) := by decide +kernel
theorem dX8_open_16 : decode cX8_open 16 = .ok (.aload_n 1, 1) := by decide +kernel
theorem dX8_open_17 : decode cX8_open 17 = .ok (.bipush 28, 2) := by decide +kernel
theorem dX8_open_19 : decode cX8_open 19 = .ok (.iconst 0, 1) := by decide +kernel
theorem dX8_open_20 : decode cX8_open 20 = .ok (.iload 5, 2) := by decide +kernel
theorem dX8_open_22 : decode cX8_open 22 = .ok (.invokevirtual 70, 3) := by decide +kernel
theorem dX8_open_25 : decode cX8_open 25 = .ok (.aload_n 0, 1) := by decide +kernel
theorem dX8_open_26 : decode cX8_open 26 = .ok (.aload_n 2, 1) := by decide +kernel
theorem dX8_open_27 : decode cX8_open 27 = .ok (.iconst 0, 1) := by decide +kernel
theorem dX8_open_28 : decode cX8_open 28 = .ok (.iload 5, 2) := by decide +kernel
theorem dX8_open_30 : decode cX8_open 30 = .ok (.lload_n 3, 1) := by decide +kernel
theorem dX8_open_31 : decode cX8_open 31 = .ok (.invokevirtual 77, 3) := by decide +kernel
