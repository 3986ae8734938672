theorem dX5_append_0 : decode cX5_append 0 = .ok (.aload_n 0, 1) := by decide +kernel
theorem dX5_append_1 : decode cX5_append 1 = .ok (.getfield 22, 3) := by decide +kernel
theorem dX5_append_4 : decode cX5_append 4 = .ok (.ifCond .lt 55, 3) := by decide +kernel
theorem dX5_append_7 : decode cX5_append 7 = .ok (.aload_n 0, 1) := by decide +kernel
theorem dX5_append_8 : decode cX5_append 8 = .ok (.getfield 22, 3) := by decide +kernel
theorem dX5_append_11 : decode cX5_append 11 = .ok (.bipush 24, 2) := by decide +kernel
theorem dX5_append_13 : decode cX5_append 13 = .ok (.if_icmp .ge 46, 3) := by decide +kernel
theorem dX5_append_16 : decode cX5_append 16 = .ok (.aload_n 0, 1) := by decide +kernel
theorem dX5_append_17 : decode cX5_append 17 = .ok (.getfield 13, 3) := by decide +kernel
theorem dX5_append_20 : decode cX5_append 20 = .ok (.aload_n 0, 1) := by decide +kernel
theorem dX5_append_21 : decode cX5_append 21 = .ok (.getfield 22, 3) := by decide +kernel
theorem dX5_append_24 : decode cX5_append 24 = .ok (.new 11, 3) := by decide +kernel
theorem dX5_append_27 : decode cX5_append 27 = .ok (.dup, 1) := by decide +kernel
theorem dX5_append_28 : decode cX5_append 28 = .ok (.iload_n 1, 1) := by decide +kernel
theorem dX5_append_29 : decode cX5_append 29 = .ok (.aload_n 2, 1) := by decide +kernel
theorem dX5_append_30 : decode cX5_append 30 = .ok (.aload_n 3, 1) := by decide +kernel
theorem dX5_append_31 : decode cX5_append 31 = .ok (.iload 4, 2) := by decide +kernel
theorem dX5_append_33 : decode cX5_append 33 = .ok (.aload_n 0, 1) := by decide +kernel
theorem dX5_append_34 : decode cX5_append 34 = .ok (.getfield 25, 3) := by decide +kernel
theorem dX5_append_37 : decode cX5_append 37 = .ok (.aload_n 0, 1) := by decide +kernel
theorem dX5_append_38 : decode cX5_append 38 = .ok (.getfield 28, 3) := by decide +kernel
theorem dX5_append_41 : decode cX5_append 41 = .ok (.aload_n 0, 1) := by decide +kernel
theorem dX5_append_42 : decode cX5_append 42 = .ok (.getfield 18, 3) := by decide +kernel
theorem dX5_append_45 : decode cX5_append 45 = .ok (.invokespecial 31, 3) := by decide +kernel
theorem dX5_append_48 : decode cX5_append 48 = .ok (.aastore, 1) := by decide +kernel
theorem dX5_append_49 : decode cX5_append 49 = .ok (.aload_n 0, 1) := by decide +kernel
theorem dX5_append_50 : decode cX5_append 50 = .ok (.dup, 1) := by decide +kernel
theorem dX5_append_51 : decode cX5_append 51 = .ok (.getfield 22, 3) := by decide +kernel
theorem dX5_append_54 : decode cX5_append 54 = .ok (.iconst 1, 1) := by decide +kernel
theorem dX5_append_55 : decode cX5_append 55 = .ok (.iadd, 1) := by decide +kernel
theorem dX5_append_56 : decode cX5_append 56 = .ok (.putfield 22, 3) := by decide +kernel
theorem dX5_append_59 : decode cX5_append 59 = .ok (.aload_n 0, 1) := by decide +kernel
theorem dX5_append_60 : decode cX5_append 60 = .ok (.iconst 0, 1) := by decide +kernel
theorem dX5_append_61 : decode cX5_append 61 = .ok (.iconst 0, 1) := by decide +kernel
theorem dX5_append_62 : decode cX5_append 62 = .ok (.ldc 17, 2) := by decide +kernel
theorem dX5_append_64 : decode cX5_append 64 = .ok (.invokevirtual 34, 3) := by decide +kernel
theorem dX5_append_67 : decode cX5_append 67 = .ok (.aload_n 0, 1) := by decide +kernel
theorem dX5_append_68 : decode cX5_append 68 = .ok (.getfield 22, 3) := by decide +kernel
theorem dX5_append_71 : decode cX5_append 71 = .ok (.ireturn, 1) := by decide +kernel
theorem dX5_empty_0 : decode cX5_empty 0 = .ok (.aload_n 0, 1) := by decide +kernel
theorem dX5_empty_1 : decode cX5_empty 1 = .ok (.iconst 0, 1) := by decide +kernel
theorem dX5_empty_2 : decode cX5_empty 2 = .ok (.putfield 22, 3) := by decide +kernel
theorem dX5_empty_5 : decode cX5_empty 5 = .ok (.aload_n 0, 1) := by decide +kernel
theorem dX5_empty_6 : decode cX5_empty 6 = .ok (.iconst 0, 1) := by decide +kernel
theorem dX5_empty_7 : decode cX5_empty 7 = .ok (.iconst 0, 1) := by decide +kernel
theorem dX5_empty_8 : decode cX5_empty 8 = .ok (.ldc 17, 2) := by decide +kernel
theorem dX5_empty_10 : decode cX5_empty 10 = .ok (.invokevirtual 34, 3) := by decide +kernel
theorem dX5_empty_13 : decode cX5_empty 13 = .ok (.return_, 1) := by decide +kernel
theorem dX5_init_0 : decode cX5_init 0 = .ok (.aload_n 0, 1) := by decide +kernel
theorem dX5_init_1 : decode cX5_init 1 = .ok (.invokespecial 3, 3) := by decide +kernel
theorem dX5_init_4 : decode cX5_init 4 = .ok (.aload_n 0, 1) := by decide +kernel
theorem dX5_init_5 : decode cX5_init 5 = .ok (.bipush 24, 2) := by decide +kernel
theorem dX5_init_7 : decode cX5_init 7 = .ok (.anewarray 11, 3) := by decide +kernel
theorem dX5_init_10 : decode cX5_init 10 = .ok (.putfield 13, 3) := by decide +kernel
theorem dX5_init_13 : decode cX5_init 13 = .ok (.aload_n 0, 1) := by decide +kernel
theorem dX5_init_14 : decode cX5_init 14 = .ok (.ldc 17, 2) := by decide +kernel
theorem dX5_init_16 : decode cX5_init 16 = .ok (.putfield 18, 3) := by decide +kernel
theorem dX5_init_19 : decode cX5_init 19 = .ok (.return_, 1) := by decide +kernel
theorem dX5_isFull_0 : decode cX5_isFull 0 = .ok (.aload_n 0, 1) := by decide +kernel
theorem dX5_isFull_1 : decode cX5_isFull 1 = .ok (.getfield 22, 3) := by decide +kernel
theorem dX5_isFull_4 : decode cX5_isFull 4 = .ok (.bipush 24, 2) := by decide +kernel
theorem dX5_isFull_6 : decode cX5_isFull 6 = .ok (.if_icmp .lt 7, 3) := by decide +kernel
theorem dX5_isFull_13 : decode cX5_isFull 13 = .ok (.iconst 0, 1) := by decide +kernel
theorem dX5_isFull_14 : decode cX5_isFull 14 = .ok (.ireturn, 1) := by decide +kernel
theorem dX5_nextMeans_0 : decode cX5_nextMeans 0 = .ok (.aload_n 0, 1) := by decide +kernel
theorem dX5_nextMeans_1 : decode cX5_nextMeans 1 = .ok (.iload_n 1, 1) := by decide +kernel
theorem dX5_nextMeans_2 : decode cX5_nextMeans 2 = .ok (.putfield 25, 3) := by decide +kernel
theorem dX5_nextMeans_5 : decode cX5_nextMeans 5 = .ok (.aload_n 0, 1) := by decide +kernel
theorem dX5_nextMeans_6 : decode cX5_nextMeans 6 = .ok (.iload_n 2, 1) := by decide +kernel
theorem dX5_nextMeans_7 : decode cX5_nextMeans 7 = .ok (.putfield 28, 3) := by decide +kernel
theorem dX5_nextMeans_10 : decode cX5_nextMeans 10 = .ok (.aload_n 0, 1) := by decide +kernel
theorem dX5_nextMeans_11 : decode cX5_nextMeans 11 = .ok (.iload_n 3, 1) := by decide +kernel
theorem dX5_nextMeans_12 : decode cX5_nextMeans 12 = .ok (.putfield 18, 3) := by decide +kernel
theorem dX5_nextMeans_15 : decode cX5_nextMeans 15 = .ok (.return_, 1) := by decide +kernel
