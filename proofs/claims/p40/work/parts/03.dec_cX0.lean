theorem dX0_init_0 : decode cX0_init 0 = .ok (.aload_n 0, 1) := by decide +kernel
theorem dX0_init_1 : decode cX0_init 1 = .ok (.invokespecial 1, 3) := by decide +kernel
theorem dX0_init_4 : decode cX0_init 4 = .ok (.return_, 1) := by decide +kernel
theorem dX0_nextDay_0 : decode cX0_nextDay 0 = .ok (.aload_n 0, 1) := by decide +kernel
theorem dX0_nextDay_1 : decode cX0_nextDay 1 = .ok (.dup, 1) := by decide +kernel
theorem dX0_nextDay_2 : decode cX0_nextDay 2 = .ok (.getfield 7, 3) := by decide +kernel
theorem dX0_nextDay_5 : decode cX0_nextDay 5 = .ok (.iconst 1, 1) := by decide +kernel
theorem dX0_nextDay_6 : decode cX0_nextDay 6 = .ok (.iadd, 1) := by decide +kernel
theorem dX0_nextDay_7 : decode cX0_nextDay 7 = .ok (.putfield 7, 3) := by decide +kernel
theorem dX0_nextDay_10 : decode cX0_nextDay 10 = .ok (.aload_n 0, 1) := by decide +kernel
theorem dX0_nextDay_11 : decode cX0_nextDay 11 = .ok (.bipush 75, 2) := by decide +kernel
theorem dX0_nextDay_13 : decode cX0_nextDay 13 = .ok (.aload_n 0, 1) := by decide +kernel
theorem dX0_nextDay_14 : decode cX0_nextDay 14 = .ok (.getfield 13, 3) := by decide +kernel
theorem dX0_nextDay_17 : decode cX0_nextDay 17 = .ok (.imul, 1) := by decide +kernel
theorem dX0_nextDay_18 : decode cX0_nextDay 18 = .ok (.bipush 74, 2) := by decide +kernel
theorem dX0_nextDay_20 : decode cX0_nextDay 20 = .ok (.iadd, 1) := by decide +kernel
theorem dX0_nextDay_21 : decode cX0_nextDay 21 = .ok (.ldc 16, 2) := by decide +kernel
theorem dX0_nextDay_23 : decode cX0_nextDay 23 = .ok (.irem, 1) := by decide +kernel
theorem dX0_nextDay_24 : decode cX0_nextDay 24 = .ok (.putfield 13, 3) := by decide +kernel
theorem dX0_nextDay_27 : decode cX0_nextDay 27 = .ok (.return_, 1) := by decide +kernel
theorem dX0_wavesToday_0 : decode cX0_wavesToday 0 = .ok (.aload_n 0, 1) := by decide +kernel
theorem dX0_wavesToday_1 : decode cX0_wavesToday 1 = .ok (.getfield 13, 3) := by decide +kernel
theorem dX0_wavesToday_4 : decode cX0_wavesToday 4 = .ok (.bipush 10, 2) := by decide +kernel
theorem dX0_wavesToday_6 : decode cX0_wavesToday 6 = .ok (.irem, 1) := by decide +kernel
theorem dX0_wavesToday_7 : decode cX0_wavesToday 7 = .ok (.ireturn, 1) := by decide +kernel
theorem dX0_isForWork_0 : decode cX0_isForWork 0 = .ok (.aload_n 0, 1) := by decide +kernel
theorem dX0_isForWork_1 : decode cX0_isForWork 1 = .ok (.invokevirtual 17, 3) := by decide +kernel
theorem dX0_isForWork_4 : decode cX0_isForWork 4 = .ok (.bipush 6, 2) := by decide +kernel
theorem dX0_isForWork_6 : decode cX0_isForWork 6 = .ok (.if_icmp .gt 18, 3) := by decide +kernel
theorem dX0_isForWork_9 : decode cX0_isForWork 9 = .ok (.aload_n 0, 1) := by decide +kernel
theorem dX0_isForWork_10 : decode cX0_isForWork 10 = .ok (.getfield 21, 3) := by decide +kernel
theorem dX0_isForWork_13 : decode cX0_isForWork 13 = .ok (.aload_n 0, 1) := by decide +kernel
theorem dX0_isForWork_14 : decode cX0_isForWork 14 = .ok (.getfield 7, 3) := by decide +kernel
theorem dX0_isForWork_17 : decode cX0_isForWork 17 = .ok (.if_icmp .gt 7, 3) := by decide +kernel
theorem dX0_isForWork_20 : decode cX0_isForWork 20 = .ok (.iconst 1, 1) := by decide +kernel
theorem dX0_isForWork_21 : decode cX0_isForWork 21 = .ok (.goto 4, 3) := by decide +kernel
theorem dX0_isForWork_24 : decode cX0_isForWork 24 = .ok (.iconst 0, 1) := by decide +kernel
theorem dX0_isForWork_25 : decode cX0_isForWork 25 = .ok (.ireturn, 1) := by decide +kernel
