theorem dX4_addHead_0 : decode cX4_addHead 0 = .ok (.iconst 0, 1) := by decide +kernel
theorem dX4_addHead_1 : decode cX4_addHead 1 = .ok (.istore_n 1, 1) := by decide +kernel
theorem dX4_addHead_2 : decode cX4_addHead 2 = .ok (.iconst 0, 1) := by decide +kernel
theorem dX4_addHead_3 : decode cX4_addHead 3 = .ok (.istore_n 2, 1) := by decide +kernel
theorem dX4_addHead_4 : decode cX4_addHead 4 = .ok (.iload_n 2, 1) := by decide +kernel
theorem dX4_addHead_5 : decode cX4_addHead 5 = .ok (.bipush 20, 2) := by decide +kernel
theorem dX4_addHead_7 : decode cX4_addHead 7 = .ok (.if_icmp .ge 17, 3) := by decide +kernel
theorem dX4_addHead_10 : decode cX4_addHead 10 = .ok (.iload_n 1, 1) := by decide +kernel
theorem dX4_addHead_11 : decode cX4_addHead 11 = .ok (.aload_n 0, 1) := by decide +kernel
theorem dX4_addHead_12 : decode cX4_addHead 12 = .ok (.iload_n 2, 1) := by decide +kernel
theorem dX4_addHead_13 : decode cX4_addHead 13 = .ok (.invokevirtual 52, 3) := by decide +kernel
theorem dX4_addHead_16 : decode cX4_addHead 16 = .ok (.iadd, 1) := by decide +kernel
theorem dX4_addHead_17 : decode cX4_addHead 17 = .ok (.istore_n 1, 1) := by decide +kernel
theorem dX4_addHead_18 : decode cX4_addHead 18 = .ok (.iinc 2 2, 3) := by decide +kernel
theorem dX4_addHead_21 : decode cX4_addHead 21 = .ok (.goto (-17), 3) := by decide +kernel
theorem dX4_addHead_24 : decode cX4_addHead 24 = .ok (.iload_n 1, 1) := by decide +kernel
theorem dX4_addHead_25 : decode cX4_addHead 25 = .ok (.ldc 72, 2) := by decide +kernel
theorem dX4_addHead_27 : decode cX4_addHead 27 = .ok (.iand, 1) := by decide +kernel
theorem dX4_addHead_28 : decode cX4_addHead 28 = .ok (.iload_n 1, 1) := by decide +kernel
theorem dX4_addHead_29 : decode cX4_addHead 29 = .ok (.bipush 16, 2) := by decide +kernel
theorem dX4_addHead_31 : decode cX4_addHead 31 = .ok (.iushr, 1) := by decide +kernel
theorem dX4_addHead_32 : decode cX4_addHead 32 = .ok (.iadd, 1) := by decide +kernel
theorem dX4_addHead_33 : decode cX4_addHead 33 = .ok (.istore_n 1, 1) := by decide +kernel
theorem dX4_addHead_34 : decode cX4_addHead 34 = .ok (.iload_n 1, 1) := by decide +kernel
theorem dX4_addHead_35 : decode cX4_addHead 35 = .ok (.ldc 72, 2) := by decide +kernel
theorem dX4_addHead_37 : decode cX4_addHead 37 = .ok (.iand, 1) := by decide +kernel
theorem dX4_addHead_38 : decode cX4_addHead 38 = .ok (.iload_n 1, 1) := by decide +kernel
theorem dX4_addHead_39 : decode cX4_addHead 39 = .ok (.bipush 16, 2) := by decide +kernel
theorem dX4_addHead_41 : decode cX4_addHead 41 = .ok (.iushr, 1) := by decide +kernel
theorem dX4_addHead_42 : decode cX4_addHead 42 = .ok (.iadd, 1) := by decide +kernel
theorem dX4_addHead_43 : decode cX4_addHead 43 = .ok (.ireturn, 1) := by decide +kernel
theorem dX4_byteAt_0 : decode cX4_byteAt 0 = .ok (.iload_n 1, 1) := by decide +kernel
theorem dX4_byteAt_1 : decode cX4_byteAt 1 = .ok (.ifCond .lt 24, 3) := by decide +kernel
theorem dX4_byteAt_4 : decode cX4_byteAt 4 = .ok (.iload_n 1, 1) := by decide +kernel
theorem dX4_byteAt_5 : decode cX4_byteAt 5 = .ok (.aload_n 0, 1) := by decide +kernel
theorem dX4_byteAt_6 : decode cX4_byteAt 6 = .ok (.getfield 15, 3) := by decide +kernel
theorem dX4_byteAt_9 : decode cX4_byteAt 9 = .ok (.if_icmp .ge 16, 3) := by decide +kernel
theorem dX4_byteAt_12 : decode cX4_byteAt 12 = .ok (.aload_n 0, 1) := by decide +kernel
theorem dX4_byteAt_13 : decode cX4_byteAt 13 = .ok (.getfield 11, 3) := by decide +kernel
theorem dX4_byteAt_16 : decode cX4_byteAt 16 = .ok (.iload_n 1, 1) := by decide +kernel
theorem dX4_byteAt_17 : decode cX4_byteAt 17 = .ok (.baload, 1) := by decide +kernel
theorem dX4_byteAt_18 : decode cX4_byteAt 18 = .ok (.sipush 255, 3) := by decide +kernel
theorem dX4_byteAt_21 : decode cX4_byteAt 21 = .ok (.iand, 1) := by decide +kernel
theorem dX4_byteAt_22 : decode cX4_byteAt 22 = .ok (.goto 4, 3) := by decide +kernel
theorem dX4_byteAt_25 : decode cX4_byteAt 25 = .ok (.iconst 0, 1) := by decide +kernel
theorem dX4_byteAt_26 : decode cX4_byteAt 26 = .ok (.ireturn, 1) := by decide +kernel
theorem dX4_copy_0 : decode cX4_copy 0 = .ok (.aload_n 0, 1) := by decide +kernel
theorem dX4_copy_1 : decode cX4_copy 1 = .ok (.aload_n 1, 1) := by decide +kernel
theorem dX4_copy_2 : decode cX4_copy 2 = .ok (.getfield 15, 3) := by decide +kernel
theorem dX4_copy_5 : decode cX4_copy 5 = .ok (.invokevirtual 38, 3) := by decide +kernel
theorem dX4_copy_8 : decode cX4_copy 8 = .ok (.aload_n 0, 1) := by decide +kernel
theorem dX4_copy_9 : decode cX4_copy 9 = .ok (.aload_n 1, 1) := by decide +kernel
theorem dX4_copy_10 : decode cX4_copy 10 = .ok (.iconst 0, 1) := by decide +kernel
theorem dX4_copy_11 : decode cX4_copy 11 = .ok (.iconst 0, 1) := by decide +kernel
theorem dX4_copy_12 : decode cX4_copy 12 = .ok (.aload_n 1, 1) := by decide +kernel
theorem dX4_copy_13 : decode cX4_copy 13 = .ok (.getfield 15, 3) := by decide +kernel
theorem dX4_copy_16 : decode cX4_copy 16 = .ok (.invokevirtual 42, 3) := by decide +kernel
theorem dX4_copy_19 : decode cX4_copy 19 = .ok (.return_, 1) := by decide +kernel
theorem dX4_copyBytes_0 : decode cX4_copyBytes 0 = .ok (.iload 4, 2) := by decide +kernel
theorem dX4_copyBytes_2 : decode cX4_copyBytes 2 = .ok (.ifCond .le 48, 3) := by decide +kernel
theorem dX4_copyBytes_50 : decode cX4_copyBytes 50 = .ok (.return_, 1) := by decide +kernel
theorem dX4_init_0 : decode cX4_init 0 = .ok (.aload_n 0, 1) := by decide +kernel
theorem dX4_init_1 : decode cX4_init 1 = .ok (.invokespecial 3, 3) := by decide +kernel
theorem dX4_init_4 : decode cX4_init 4 = .ok (.aload_n 0, 1) := by decide +kernel
theorem dX4_init_5 : decode cX4_init 5 = .ok (.sipush 2040, 3) := by decide +kernel
theorem dX4_init_8 : decode cX4_init 8 = .ok (.newarray .byte, 2) := by decide +kernel
theorem dX4_init_10 : decode cX4_init 10 = .ok (.putfield 11, 3) := by decide +kernel
theorem dX4_init_13 : decode cX4_init 13 = .ok (.return_, 1) := by decide +kernel
theorem dX4_isBroken_0 : decode cX4_isBroken 0 = .ok (.aload_n 0, 1) := by decide +kernel
theorem dX4_isBroken_1 : decode cX4_isBroken 1 = .ok (.getfield 15, 3) := by decide +kernel
theorem dX4_isBroken_4 : decode cX4_isBroken 4 = .ok (.bipush 20, 2) := by decide +kernel
theorem dX4_isBroken_6 : decode cX4_isBroken 6 = .ok (.if_icmp .lt 13, 3) := by decide +kernel
theorem dX4_isBroken_19 : decode cX4_isBroken 19 = .ok (.iconst 1, 1) := by decide +kernel
theorem dX4_isBroken_20 : decode cX4_isBroken 20 = .ok (.ireturn, 1) := by decide +kernel
theorem dX4_mendSum_0 : decode cX4_mendSum 0 = .ok (.aload_n 0, 1) := by decide +kernel
theorem dX4_mendSum_1 : decode cX4_mendSum 1 = .ok (.bipush 10, 2) := by decide +kernel
theorem dX4_mendSum_3 : decode cX4_mendSum 3 = .ok (.iconst 0, 1) := by decide +kernel
theorem dX4_mendSum_4 : decode cX4_mendSum 4 = .ok (.invokevirtual 31, 3) := by decide +kernel
theorem dX4_mendSum_7 : decode cX4_mendSum 7 = .ok (.ldc 72, 2) := by decide +kernel
theorem dX4_mendSum_9 : decode cX4_mendSum 9 = .ok (.aload_n 0, 1) := by decide +kernel
theorem dX4_mendSum_10 : decode cX4_mendSum 10 = .ok (.invokevirtual 69, 3) := by decide +kernel
theorem dX4_mendSum_13 : decode cX4_mendSum 13 = .ok (.isub, 1) := by decide +kernel
theorem dX4_mendSum_14 : decode cX4_mendSum 14 = .ok (.istore_n 1, 1) := by decide +kernel
theorem dX4_mendSum_15 : decode cX4_mendSum 15 = .ok (.aload_n 0, 1) := by decide +kernel
theorem dX4_mendSum_16 : decode cX4_mendSum 16 = .ok (.bipush 10, 2) := by decide +kernel
theorem dX4_mendSum_18 : decode cX4_mendSum 18 = .ok (.iload_n 1, 1) := by decide +kernel
theorem dX4_mendSum_19 : decode cX4_mendSum 19 = .ok (.invokevirtual 31, 3) := by decide +kernel
theorem dX4_mendSum_22 : decode cX4_mendSum 22 = .ok (.iload_n 1, 1) := by decide +kernel
theorem dX4_mendSum_23 : decode cX4_mendSum 23 = .ok (.ireturn, 1) := by decide +kernel
theorem dX4_pairAt_0 : decode cX4_pairAt 0 = .ok (.iload_n 1, 1) := by decide +kernel
theorem dX4_pairAt_1 : decode cX4_pairAt 1 = .ok (.ifCond .lt 42, 3) := by decide +kernel
theorem dX4_pairAt_4 : decode cX4_pairAt 4 = .ok (.iload_n 1, 1) := by decide +kernel
theorem dX4_pairAt_5 : decode cX4_pairAt 5 = .ok (.aload_n 0, 1) := by decide +kernel
theorem dX4_pairAt_6 : decode cX4_pairAt 6 = .ok (.getfield 15, 3) := by decide +kernel
theorem dX4_pairAt_9 : decode cX4_pairAt 9 = .ok (.iconst 1, 1) := by decide +kernel
theorem dX4_pairAt_10 : decode cX4_pairAt 10 = .ok (.isub, 1) := by decide +kernel
theorem dX4_pairAt_11 : decode cX4_pairAt 11 = .ok (.if_icmp .ge 32, 3) := by decide +kernel
theorem dX4_pairAt_14 : decode cX4_pairAt 14 = .ok (.aload_n 0, 1) := by decide +kernel
theorem dX4_pairAt_15 : decode cX4_pairAt 15 = .ok (.getfield 11, 3) := by decide +kernel
theorem dX4_pairAt_18 : decode cX4_pairAt 18 = .ok (.iload_n 1, 1) := by decide +kernel
theorem dX4_pairAt_19 : decode cX4_pairAt 19 = .ok (.baload, 1) := by decide +kernel
theorem dX4_pairAt_20 : decode cX4_pairAt 20 = .ok (.sipush 255, 3) := by decide +kernel
theorem dX4_pairAt_23 : decode cX4_pairAt 23 = .ok (.iand, 1) := by decide +kernel
theorem dX4_pairAt_24 : decode cX4_pairAt 24 = .ok (.bipush 8, 2) := by decide +kernel
theorem dX4_pairAt_26 : decode cX4_pairAt 26 = .ok (.ishl, 1) := by decide +kernel
theorem dX4_pairAt_27 : decode cX4_pairAt 27 = .ok (.aload_n 0, 1) := by decide +kernel
theorem dX4_pairAt_28 : decode cX4_pairAt 28 = .ok (.getfield 11, 3) := by decide +kernel
theorem dX4_pairAt_31 : decode cX4_pairAt 31 = .ok (.iload_n 1, 1) := by decide +kernel
theorem dX4_pairAt_32 : decode cX4_pairAt 32 = .ok (.iconst 1, 1) := by decide +kernel
theorem dX4_pairAt_33 : decode cX4_pairAt 33 = .ok (.iadd, 1) := by decide +kernel
theorem dX4_pairAt_34 : decode cX4_pairAt 34 = .ok (.baload, 1) := by decide +kernel
theorem dX4_pairAt_35 : decode cX4_pairAt 35 = .ok (.sipush 255, 3) := by decide +kernel
theorem dX4_pairAt_38 : decode cX4_pairAt 38 = .ok (.iand, 1) := by decide +kernel
theorem dX4_pairAt_39 : decode cX4_pairAt 39 = .ok (.ior, 1) := by decide +kernel
theorem dX4_pairAt_40 : decode cX4_pairAt 40 = .ok (.goto 4, 3) := by decide +kernel
theorem dX4_pairAt_43 : decode cX4_pairAt 43 = .ok (.iconst 0, 1) := by decide +kernel
theorem dX4_pairAt_44 : decode cX4_pairAt 44 = .ok (.ireturn, 1) := by decide +kernel
theorem dX4_resize_0 : decode cX4_resize 0 = .ok (.aload_n 0, 1) := by decide +kernel
theorem dX4_resize_1 : decode cX4_resize 1 = .ok (.iload_n 1, 1) := by decide +kernel
theorem dX4_resize_2 : decode cX4_resize 2 = .ok (.ifCond .ge 7, 3) := by decide +kernel
theorem dX4_resize_5 : decode cX4_resize 5 = .ok (.iconst 0, 1) := by decide +kernel
theorem dX4_resize_6 : decode cX4_resize 6 = .ok (.goto 10, 3) := by decide +kernel
theorem dX4_resize_9 : decode cX4_resize 9 = .ok (.iload_n 1, 1) := by decide +kernel
theorem dX4_resize_10 : decode cX4_resize 10 = .ok (.sipush 2040, 3) := by decide +kernel
theorem dX4_resize_13 : decode cX4_resize 13 = .ok (.invokestatic 19, 3) := by decide +kernel
theorem dX4_resize_16 : decode cX4_resize 16 = .ok (.putfield 15, 3) := by decide +kernel
theorem dX4_resize_19 : decode cX4_resize 19 = .ok (.return_, 1) := by decide +kernel
theorem dX4_setByte_0 : decode cX4_setByte 0 = .ok (.iload_n 1, 1) := by decide +kernel
theorem dX4_setByte_1 : decode cX4_setByte 1 = .ok (.ifCond .lt 19, 3) := by decide +kernel
theorem dX4_setByte_4 : decode cX4_setByte 4 = .ok (.iload_n 1, 1) := by decide +kernel
theorem dX4_setByte_5 : decode cX4_setByte 5 = .ok (.aload_n 0, 1) := by decide +kernel
theorem dX4_setByte_6 : decode cX4_setByte 6 = .ok (.getfield 15, 3) := by decide +kernel
theorem dX4_setByte_9 : decode cX4_setByte 9 = .ok (.if_icmp .ge 11, 3) := by decide +kernel
theorem dX4_setByte_12 : decode cX4_setByte 12 = .ok (.aload_n 0, 1) := by decide +kernel
theorem dX4_setByte_13 : decode cX4_setByte 13 = .ok (.getfield 11, 3) := by decide +kernel
theorem dX4_setByte_16 : decode cX4_setByte 16 = .ok (.iload_n 1, 1) := by decide +kernel
theorem dX4_setByte_17 : decode cX4_setByte 17 = .ok (.iload_n 2, 1) := by decide +kernel
theorem dX4_setByte_18 : decode cX4_setByte 18 = .ok (.i2b, 1) := by decide +kernel
theorem dX4_setByte_19 : decode cX4_setByte 19 = .ok (.bastore, 1) := by decide +kernel
theorem dX4_setByte_20 : decode cX4_setByte 20 = .ok (.return_, 1) := by decide +kernel
theorem dX4_setLong_0 : decode cX4_setLong 0 = .ok (.aload_n 0, 1) := by decide +kernel
theorem dX4_setLong_1 : decode cX4_setLong 1 = .ok (.iload_n 1, 1) := by decide +kernel
theorem dX4_setLong_2 : decode cX4_setLong 2 = .ok (.lload_n 2, 1) := by decide +kernel
theorem dX4_setLong_3 : decode cX4_setLong 3 = .ok (.bipush 32, 2) := by decide +kernel
theorem dX4_setLong_5 : decode cX4_setLong 5 = .ok (.lushr, 1) := by decide +kernel
theorem dX4_setLong_6 : decode cX4_setLong 6 = .ok (.l2i, 1) := by decide +kernel
theorem dX4_setLong_7 : decode cX4_setLong 7 = .ok (.invokevirtual 35, 3) := by decide +kernel
theorem dX4_setLong_10 : decode cX4_setLong 10 = .ok (.aload_n 0, 1) := by decide +kernel
theorem dX4_setLong_11 : decode cX4_setLong 11 = .ok (.iload_n 1, 1) := by decide +kernel
theorem dX4_setLong_12 : decode cX4_setLong 12 = .ok (.iconst 4, 1) := by decide +kernel
theorem dX4_setLong_13 : decode cX4_setLong 13 = .ok (.iadd, 1) := by decide +kernel
theorem dX4_setLong_14 : decode cX4_setLong 14 = .ok (.lload_n 2, 1) := by decide +kernel
theorem dX4_setLong_15 : decode cX4_setLong 15 = .ok (.l2i, 1) := by decide +kernel
theorem dX4_setLong_16 : decode cX4_setLong 16 = .ok (.invokevirtual 35, 3) := by decide +kernel
theorem dX4_setLong_19 : decode cX4_setLong 19 = .ok (.return_, 1) := by decide +kernel
theorem dX4_setPair_0 : decode cX4_setPair 0 = .ok (.iload_n 1, 1) := by decide +kernel
theorem dX4_setPair_1 : decode cX4_setPair 1 = .ok (.ifCond .lt 34, 3) := by decide +kernel
theorem dX4_setPair_4 : decode cX4_setPair 4 = .ok (.iload_n 1, 1) := by decide +kernel
theorem dX4_setPair_5 : decode cX4_setPair 5 = .ok (.aload_n 0, 1) := by decide +kernel
theorem dX4_setPair_6 : decode cX4_setPair 6 = .ok (.getfield 15, 3) := by decide +kernel
theorem dX4_setPair_9 : decode cX4_setPair 9 = .ok (.iconst 1, 1) := by decide +kernel
theorem dX4_setPair_10 : decode cX4_setPair 10 = .ok (.isub, 1) := by decide +kernel
theorem dX4_setPair_11 : decode cX4_setPair 11 = .ok (.if_icmp .ge 24, 3) := by decide +kernel
theorem dX4_setPair_14 : decode cX4_setPair 14 = .ok (.aload_n 0, 1) := by decide +kernel
theorem dX4_setPair_15 : decode cX4_setPair 15 = .ok (.getfield 11, 3) := by decide +kernel
theorem dX4_setPair_18 : decode cX4_setPair 18 = .ok (.iload_n 1, 1) := by decide +kernel
theorem dX4_setPair_19 : decode cX4_setPair 19 = .ok (.iload_n 2, 1) := by decide +kernel
theorem dX4_setPair_20 : decode cX4_setPair 20 = .ok (.bipush 8, 2) := by decide +kernel
theorem dX4_setPair_22 : decode cX4_setPair 22 = .ok (.iushr, 1) := by decide +kernel
theorem dX4_setPair_23 : decode cX4_setPair 23 = .ok (.i2b, 1) := by decide +kernel
theorem dX4_setPair_24 : decode cX4_setPair 24 = .ok (.bastore, 1) := by decide +kernel
theorem dX4_setPair_25 : decode cX4_setPair 25 = .ok (.aload_n 0, 1) := by decide +kernel
theorem dX4_setPair_26 : decode cX4_setPair 26 = .ok (.getfield 11, 3) := by decide +kernel
theorem dX4_setPair_29 : decode cX4_setPair 29 = .ok (.iload_n 1, 1) := by decide +kernel
theorem dX4_setPair_30 : decode cX4_setPair 30 = .ok (.iconst 1, 1) := by decide +kernel
theorem dX4_setPair_31 : decode cX4_setPair 31 = .ok (.iadd, 1) := by decide +kernel
theorem dX4_setPair_32 : decode cX4_setPair 32 = .ok (.iload_n 2, 1) := by decide +kernel
theorem dX4_setPair_33 : decode cX4_setPair 33 = .ok (.i2b, 1) := by decide +kernel
theorem dX4_setPair_34 : decode cX4_setPair 34 = .ok (.bastore, 1) := by decide +kernel
theorem dX4_setPair_35 : decode cX4_setPair 35 = .ok (.return_, 1) := by decide +kernel
theorem dX4_setWord_0 : decode cX4_setWord 0 = .ok (.aload_n 0, 1) := by decide +kernel
theorem dX4_setWord_1 : decode cX4_setWord 1 = .ok (.iload_n 1, 1) := by decide +kernel
theorem dX4_setWord_2 : decode cX4_setWord 2 = .ok (.iload_n 2, 1) := by decide +kernel
theorem dX4_setWord_3 : decode cX4_setWord 3 = .ok (.bipush 16, 2) := by decide +kernel
theorem dX4_setWord_5 : decode cX4_setWord 5 = .ok (.iushr, 1) := by decide +kernel
theorem dX4_setWord_6 : decode cX4_setWord 6 = .ok (.invokevirtual 31, 3) := by decide +kernel
theorem dX4_setWord_9 : decode cX4_setWord 9 = .ok (.aload_n 0, 1) := by decide +kernel
theorem dX4_setWord_10 : decode cX4_setWord 10 = .ok (.iload_n 1, 1) := by decide +kernel
theorem dX4_setWord_11 : decode cX4_setWord 11 = .ok (.iconst 2, 1) := by decide +kernel
theorem dX4_setWord_12 : decode cX4_setWord 12 = .ok (.iadd, 1) := by decide +kernel
theorem dX4_setWord_13 : decode cX4_setWord 13 = .ok (.iload_n 2, 1) := by decide +kernel
theorem dX4_setWord_14 : decode cX4_setWord 14 = .ok (.invokevirtual 31, 3) := by decide +kernel
theorem dX4_setWord_17 : decode cX4_setWord 17 = .ok (.return_, 1) := by decide +kernel
theorem dX4_size_0 : decode cX4_size 0 = .ok (.aload_n 0, 1) := by decide +kernel
theorem dX4_size_1 : decode cX4_size 1 = .ok (.getfield 15, 3) := by decide +kernel
theorem dX4_size_4 : decode cX4_size 4 = .ok (.ireturn, 1) := by decide +kernel
theorem dX4_writeHead_0 : decode cX4_writeHead 0 = .ok (.aload_n 0, 1) := by decide +kernel
theorem dX4_writeHead_1 : decode cX4_writeHead 1 = .ok (.iconst 0, 1) := by decide +kernel
theorem dX4_writeHead_2 : decode cX4_writeHead 2 = .ok (.sipush 17664, 3) := by decide +kernel
theorem dX4_writeHead_5 : decode cX4_writeHead 5 = .ok (.invokevirtual 31, 3) := by decide +kernel
theorem dX4_writeHead_8 : decode cX4_writeHead 8 = .ok (.aload_n 0, 1) := by decide +kernel
theorem dX4_writeHead_9 : decode cX4_writeHead 9 = .ok (.iconst 2, 1) := by decide +kernel
theorem dX4_writeHead_10 : decode cX4_writeHead 10 = .ok (.aload_n 0, 1) := by decide +kernel
theorem dX4_writeHead_11 : decode cX4_writeHead 11 = .ok (.getfield 15, 3) := by decide +kernel
theorem dX4_writeHead_14 : decode cX4_writeHead 14 = .ok (.invokevirtual 31, 3) := by decide +kernel
theorem dX4_writeHead_17 : decode cX4_writeHead 17 = .ok (.aload_n 0, 1) := by decide +kernel
theorem dX4_writeHead_18 : decode cX4_writeHead 18 = .ok (.iconst 4, 1) := by decide +kernel
theorem dX4_writeHead_19 : decode cX4_writeHead 19 = .ok (.iconst 0, 1) := by decide +kernel
theorem dX4_writeHead_20 : decode cX4_writeHead 20 = .ok (.invokevirtual 31, 3) := by decide +kernel
theorem dX4_writeHead_23 : decode cX4_writeHead 23 = .ok (.aload_n 0, 1) := by decide +kernel
theorem dX4_writeHead_24 : decode cX4_writeHead 24 = .ok (.bipush 6, 2) := by decide +kernel
theorem dX4_writeHead_26 : decode cX4_writeHead 26 = .ok (.iconst 0, 1) := by decide +kernel
theorem dX4_writeHead_27 : decode cX4_writeHead 27 = .ok (.invokevirtual 31, 3) := by decide +kernel
theorem dX4_writeHead_30 : decode cX4_writeHead 30 = .ok (.aload_n 0, 1) := by decide +kernel
theorem dX4_writeHead_31 : decode cX4_writeHead 31 = .ok (.bipush 8, 2) := by decide +kernel
theorem dX4_writeHead_33 : decode cX4_writeHead 33 = .ok (.iload 4, 2) := by decide +kernel
theorem dX4_writeHead_35 : decode cX4_writeHead 35 = .ok (.invokevirtual 76, 3) := by decide +kernel
theorem dX4_writeHead_38 : decode cX4_writeHead 38 = .ok (.aload_n 0, 1) := by decide +kernel
theorem dX4_writeHead_39 : decode cX4_writeHead 39 = .ok (.bipush 9, 2) := by decide +kernel
theorem dX4_writeHead_41 : decode cX4_writeHead 41 = .ok (.iload_n 3, 1) := by decide +kernel
theorem dX4_writeHead_42 : decode cX4_writeHead 42 = .ok (.invokevirtual 76, 3) := by decide +kernel
theorem dX4_writeHead_45 : decode cX4_writeHead 45 = .ok (.aload_n 0, 1) := by decide +kernel
theorem dX4_writeHead_46 : decode cX4_writeHead 46 = .ok (.bipush 12, 2) := by decide +kernel
theorem dX4_writeHead_48 : decode cX4_writeHead 48 = .ok (.iload_n 1, 1) := by decide +kernel
theorem dX4_writeHead_49 : decode cX4_writeHead 49 = .ok (.invokevirtual 35, 3) := by decide +kernel
theorem dX4_writeHead_52 : decode cX4_writeHead 52 = .ok (.aload_n 0, 1) := by decide +kernel
theorem dX4_writeHead_53 : decode cX4_writeHead 53 = .ok (.bipush 16, 2) := by decide +kernel
theorem dX4_writeHead_55 : decode cX4_writeHead 55 = .ok (.iload_n 2, 1) := by decide +kernel
theorem dX4_writeHead_56 : decode cX4_writeHead 56 = .ok (.invokevirtual 35, 3) := by decide +kernel
theorem dX4_writeHead_59 : decode cX4_writeHead 59 = .ok (.return_, 1) := by decide +kernel
