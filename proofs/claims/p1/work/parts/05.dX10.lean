theorem dX1_empty_0 : decode cX1_empty 0 = .ok (.aload_n 0, 1) := by decide +kernel
theorem dX1_empty_1 : decode cX1_empty 1 = .ok (.iconst 0, 1) := by decide +kernel
theorem dX1_empty_2 : decode cX1_empty 2 = .ok (.putfield 17, 3) := by decide +kernel
theorem dX1_empty_5 : decode cX1_empty 5 = .ok (.return_, 1) := by decide +kernel
theorem dX1_hearTick_0 : decode cX1_hearTick 0 = .ok (.iconst 0, 1) := by decide +kernel
theorem dX1_hearTick_1 : decode cX1_hearTick 1 = .ok (.istore_n 1, 1) := by decide +kernel
theorem dX1_hearTick_2 : decode cX1_hearTick 2 = .ok (.aload_n 0, 1) := by decide +kernel
theorem dX1_hearTick_3 : decode cX1_hearTick 3 = .ok (.getfield 17, 3) := by decide +kernel
theorem dX1_hearTick_6 : decode cX1_hearTick 6 = .ok (.iconst 4, 1) := by decide +kernel
theorem dX1_hearTick_7 : decode cX1_hearTick 7 = .ok (.invokestatic 21, 3) := by decide +kernel
theorem dX1_hearTick_10 : decode cX1_hearTick 10 = .ok (.iconst 1, 1) := by decide +kernel
theorem dX1_hearTick_11 : decode cX1_hearTick 11 = .ok (.isub, 1) := by decide +kernel
theorem dX1_hearTick_12 : decode cX1_hearTick 12 = .ok (.istore_n 2, 1) := by decide +kernel
theorem dX1_hearTick_13 : decode cX1_hearTick 13 = .ok (.iload_n 2, 1) := by decide +kernel
theorem dX1_hearTick_14 : decode cX1_hearTick 14 = .ok (.ifCond .lt 35, 3) := by decide +kernel
theorem dX1_hearTick_49 : decode cX1_hearTick 49 = .ok (.iload_n 1, 1) := by decide +kernel
theorem dX1_hearTick_50 : decode cX1_hearTick 50 = .ok (.ireturn, 1) := by decide +kernel
theorem dX1_init_0 : decode cX1_init 0 = .ok (.aload_n 0, 1) := by decide +kernel
theorem dX1_init_1 : decode cX1_init 1 = .ok (.invokespecial 3, 3) := by decide +kernel
theorem dX1_init_4 : decode cX1_init 4 = .ok (.aload_n 0, 1) := by decide +kernel
theorem dX1_init_5 : decode cX1_init 5 = .ok (.iconst 4, 1) := by decide +kernel
theorem dX1_init_6 : decode cX1_init 6 = .ok (.anewarray 11, 3) := by decide +kernel
theorem dX1_init_9 : decode cX1_init 9 = .ok (.putfield 13, 3) := by decide +kernel
theorem dX1_init_12 : decode cX1_init 12 = .ok (.return_, 1) := by decide +kernel
theorem dX1_size_0 : decode cX1_size 0 = .ok (.aload_n 0, 1) := by decide +kernel
theorem dX1_size_1 : decode cX1_size 1 = .ok (.getfield 17, 3) := by decide +kernel
theorem dX1_size_4 : decode cX1_size 4 = .ok (.ireturn, 1) := by decide +kernel
