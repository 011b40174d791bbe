theorem dX9_init_0 : decode cX9_init 0 = .ok (.aload_n 0, 1) := by decide +kernel
theorem dX9_init_1 : decode cX9_init 1 = .ok (.invokespecial 1, 3) := by decide +kernel
theorem dX9_init_4 : decode cX9_init 4 = .ok (.aload_n 0, 1) := by decide +kernel
theorem dX9_init_5 : decode cX9_init 5 = .ok (.iload_n 1, 1) := by decide +kernel
theorem dX9_init_6 : decode cX9_init 6 = .ok (.putfield 7, 3) := by decide +kernel
theorem dX9_init_9 : decode cX9_init 9 = .ok (.return_, 1) := by decide +kernel
theorem dX9_of_0 : decode cX9_of 0 = .ok (.aload_n 0, 1) := by decide +kernel
theorem dX9_of_1 : decode cX9_of 1 = .ok (.ldc 13, 2) := by decide +kernel
theorem dX9_of_3 : decode cX9_of 3 = .ok (.aload_n 0, 1) := by decide +kernel
theorem dX9_of_4 : decode cX9_of 4 = .ok (.getfield 7, 3) := by decide +kernel
theorem dX9_of_7 : decode cX9_of 7 = .ok (.imul, 1) := by decide +kernel
theorem dX9_of_8 : decode cX9_of 8 = .ok (.sipush 12345, 3) := by decide +kernel
theorem dX9_of_11 : decode cX9_of 11 = .ok (.iadd, 1) := by decide +kernel
theorem dX9_of_12 : decode cX9_of 12 = .ok (.putfield 7, 3) := by decide +kernel
theorem dX9_of_15 : decode cX9_of 15 = .ok (.aload_n 0, 1) := by decide +kernel
theorem dX9_of_16 : decode cX9_of 16 = .ok (.getfield 7, 3) := by decide +kernel
theorem dX9_of_19 : decode cX9_of 19 = .ok (.bipush 16, 2) := by decide +kernel
theorem dX9_of_21 : decode cX9_of 21 = .ok (.iushr, 1) := by decide +kernel
theorem dX9_of_22 : decode cX9_of 22 = .ok (.sipush 32767, 3) := by decide +kernel
theorem dX9_of_25 : decode cX9_of 25 = .ok (.iand, 1) := by decide +kernel
theorem dX9_of_26 : decode cX9_of 26 = .ok (.iload_n 1, 1) := by decide +kernel
theorem dX9_of_27 : decode cX9_of 27 = .ok (.irem, 1) := by decide +kernel
theorem dX9_of_28 : decode cX9_of 28 = .ok (.ireturn, 1) := by decide +kernel
