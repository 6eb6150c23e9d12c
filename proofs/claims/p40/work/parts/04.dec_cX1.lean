theorem dX1_init_0 : decode cX1_init 0 = .ok (.aload_n 0, 1) := by decide +kernel
theorem dX1_init_1 : decode cX1_init 1 = .ok (.invokespecial 3, 3) := by decide +kernel
theorem dX1_init_4 : decode cX1_init 4 = .ok (.aload_n 0, 1) := by decide +kernel
theorem dX1_init_5 : decode cX1_init 5 = .ok (.new 9, 3) := by decide +kernel
theorem dX1_init_8 : decode cX1_init 8 = .ok (.dup, 1) := by decide +kernel
theorem dX1_init_9 : decode cX1_init 9 = .ok (.invokespecial 11, 3) := by decide +kernel
theorem dX1_init_12 : decode cX1_init 12 = .ok (.putfield 12, 3) := by decide +kernel
theorem dX1_init_15 : decode cX1_init 15 = .ok (.return_, 1) := by decide +kernel
theorem dX1_putIn_0 : decode cX1_putIn 0 = .ok (.aload_n 0, 1) := by decide +kernel
theorem dX1_putIn_1 : decode cX1_putIn 1 = .ok (.getfield 12, 3) := by decide +kernel
theorem dX1_putIn_4 : decode cX1_putIn 4 = .ok (.iload_n 1, 1) := by decide +kernel
theorem dX1_putIn_5 : decode cX1_putIn 5 = .ok (.iload_n 2, 1) := by decide +kernel
theorem dX1_putIn_6 : decode cX1_putIn 6 = .ok (.iload_n 3, 1) := by decide +kernel
theorem dX1_putIn_7 : decode cX1_putIn 7 = .ok (.iload 4, 2) := by decide +kernel
theorem dX1_putIn_9 : decode cX1_putIn 9 = .ok (.invokevirtual 18, 3) := by decide +kernel
theorem dX1_putIn_12 : decode cX1_putIn 12 = .ok (.return_, 1) := by decide +kernel
theorem dX1_cutOut_0 : decode cX1_cutOut 0 = .ok (.aload_n 0, 1) := by decide +kernel
theorem dX1_cutOut_1 : decode cX1_cutOut 1 = .ok (.getfield 12, 3) := by decide +kernel
theorem dX1_cutOut_4 : decode cX1_cutOut 4 = .ok (.iload_n 1, 1) := by decide +kernel
theorem dX1_cutOut_5 : decode cX1_cutOut 5 = .ok (.iconst (-1), 1) := by decide +kernel
theorem dX1_cutOut_6 : decode cX1_cutOut 6 = .ok (.iconst (-1), 1) := by decide +kernel
theorem dX1_cutOut_7 : decode cX1_cutOut 7 = .ok (.iload_n 2, 1) := by decide +kernel
theorem dX1_cutOut_8 : decode cX1_cutOut 8 = .ok (.invokevirtual 18, 3) := by decide +kernel
theorem dX1_cutOut_11 : decode cX1_cutOut 11 = .ok (.return_, 1) := by decide +kernel
theorem dX1_metreAt_0 : decode cX1_metreAt 0 = .ok (.iload_n 1, 1) := by decide +kernel
theorem dX1_metreAt_1 : decode cX1_metreAt 1 = .ok (.istore_n 2, 1) := by decide +kernel
theorem dX1_metreAt_2 : decode cX1_metreAt 2 = .ok (.aload_n 0, 1) := by decide +kernel
theorem dX1_metreAt_3 : decode cX1_metreAt 3 = .ok (.getfield 12, 3) := by decide +kernel
theorem dX1_metreAt_6 : decode cX1_metreAt 6 = .ok (.getfield 22, 3) := by decide +kernel
theorem dX1_metreAt_9 : decode cX1_metreAt 9 = .ok (.iconst 1, 1) := by decide +kernel
theorem dX1_metreAt_10 : decode cX1_metreAt 10 = .ok (.isub, 1) := by decide +kernel
theorem dX1_metreAt_11 : decode cX1_metreAt 11 = .ok (.istore_n 3, 1) := by decide +kernel
theorem dX1_metreAt_12 : decode cX1_metreAt 12 = .ok (.iload_n 3, 1) := by decide +kernel
theorem dX1_metreAt_13 : decode cX1_metreAt 13 = .ok (.ifCond .lt 102, 3) := by decide +kernel
theorem dX1_metreAt_16 : decode cX1_metreAt 16 = .ok (.aload_n 0, 1) := by decide +kernel
theorem dX1_metreAt_17 : decode cX1_metreAt 17 = .ok (.getfield 12, 3) := by decide +kernel
theorem dX1_metreAt_20 : decode cX1_metreAt 20 = .ok (.iload_n 3, 1) := by decide +kernel
theorem dX1_metreAt_21 : decode cX1_metreAt 21 = .ok (.iconst 1, 1) := by decide +kernel
theorem dX1_metreAt_22 : decode cX1_metreAt 22 = .ok (.invokevirtual 26, 3) := by decide +kernel
theorem dX1_metreAt_25 : decode cX1_metreAt 25 = .ok (.istore 4, 2) := by decide +kernel
theorem dX1_metreAt_27 : decode cX1_metreAt 27 = .ok (.aload_n 0, 1) := by decide +kernel
theorem dX1_metreAt_28 : decode cX1_metreAt 28 = .ok (.getfield 12, 3) := by decide +kernel
theorem dX1_metreAt_31 : decode cX1_metreAt 31 = .ok (.iload_n 3, 1) := by decide +kernel
theorem dX1_metreAt_32 : decode cX1_metreAt 32 = .ok (.iconst 3, 1) := by decide +kernel
theorem dX1_metreAt_33 : decode cX1_metreAt 33 = .ok (.invokevirtual 26, 3) := by decide +kernel
theorem dX1_metreAt_36 : decode cX1_metreAt 36 = .ok (.istore 5, 2) := by decide +kernel
theorem dX1_metreAt_38 : decode cX1_metreAt 38 = .ok (.iload_n 2, 1) := by decide +kernel
theorem dX1_metreAt_39 : decode cX1_metreAt 39 = .ok (.aload_n 0, 1) := by decide +kernel
theorem dX1_metreAt_40 : decode cX1_metreAt 40 = .ok (.getfield 12, 3) := by decide +kernel
theorem dX1_metreAt_43 : decode cX1_metreAt 43 = .ok (.iload_n 3, 1) := by decide +kernel
theorem dX1_metreAt_44 : decode cX1_metreAt 44 = .ok (.iconst 0, 1) := by decide +kernel
theorem dX1_metreAt_45 : decode cX1_metreAt 45 = .ok (.invokevirtual 26, 3) := by decide +kernel
theorem dX1_metreAt_48 : decode cX1_metreAt 48 = .ok (.isub, 1) := by decide +kernel
theorem dX1_metreAt_49 : decode cX1_metreAt 49 = .ok (.istore 6, 2) := by decide +kernel
theorem dX1_metreAt_51 : decode cX1_metreAt 51 = .ok (.iload 6, 2) := by decide +kernel
theorem dX1_metreAt_53 : decode cX1_metreAt 53 = .ok (.ifCond .lt 17, 3) := by decide +kernel
theorem dX1_metreAt_56 : decode cX1_metreAt 56 = .ok (.iload 4, 2) := by decide +kernel
theorem dX1_metreAt_58 : decode cX1_metreAt 58 = .ok (.iconst (-1), 1) := by decide +kernel
theorem dX1_metreAt_59 : decode cX1_metreAt 59 = .ok (.if_icmp .ne 11, 3) := by decide +kernel
theorem dX1_metreAt_62 : decode cX1_metreAt 62 = .ok (.iload_n 2, 1) := by decide +kernel
theorem dX1_metreAt_63 : decode cX1_metreAt 63 = .ok (.iload 5, 2) := by decide +kernel
theorem dX1_metreAt_65 : decode cX1_metreAt 65 = .ok (.iadd, 1) := by decide +kernel
theorem dX1_metreAt_66 : decode cX1_metreAt 66 = .ok (.istore_n 2, 1) := by decide +kernel
theorem dX1_metreAt_67 : decode cX1_metreAt 67 = .ok (.goto 42, 3) := by decide +kernel
theorem dX1_metreAt_70 : decode cX1_metreAt 70 = .ok (.iload 6, 2) := by decide +kernel
theorem dX1_metreAt_72 : decode cX1_metreAt 72 = .ok (.iload 5, 2) := by decide +kernel
theorem dX1_metreAt_74 : decode cX1_metreAt 74 = .ok (.if_icmp .lt 11, 3) := by decide +kernel
theorem dX1_metreAt_77 : decode cX1_metreAt 77 = .ok (.iload_n 2, 1) := by decide +kernel
theorem dX1_metreAt_78 : decode cX1_metreAt 78 = .ok (.iload 5, 2) := by decide +kernel
theorem dX1_metreAt_80 : decode cX1_metreAt 80 = .ok (.isub, 1) := by decide +kernel
theorem dX1_metreAt_81 : decode cX1_metreAt 81 = .ok (.istore_n 2, 1) := by decide +kernel
theorem dX1_metreAt_82 : decode cX1_metreAt 82 = .ok (.goto 27, 3) := by decide +kernel
theorem dX1_metreAt_85 : decode cX1_metreAt 85 = .ok (.iload 6, 2) := by decide +kernel
theorem dX1_metreAt_87 : decode cX1_metreAt 87 = .ok (.ifCond .lt 22, 3) := by decide +kernel
theorem dX1_metreAt_90 : decode cX1_metreAt 90 = .ok (.ldc 30, 2) := by decide +kernel
theorem dX1_metreAt_92 : decode cX1_metreAt 92 = .ok (.iload 4, 2) := by decide +kernel
theorem dX1_metreAt_94 : decode cX1_metreAt 94 = .ok (.imul, 1) := by decide +kernel
theorem dX1_metreAt_95 : decode cX1_metreAt 95 = .ok (.aload_n 0, 1) := by decide +kernel
theorem dX1_metreAt_96 : decode cX1_metreAt 96 = .ok (.getfield 12, 3) := by decide +kernel
theorem dX1_metreAt_99 : decode cX1_metreAt 99 = .ok (.iload_n 3, 1) := by decide +kernel
theorem dX1_metreAt_100 : decode cX1_metreAt 100 = .ok (.iconst 2, 1) := by decide +kernel
theorem dX1_metreAt_101 : decode cX1_metreAt 101 = .ok (.invokevirtual 26, 3) := by decide +kernel
theorem dX1_metreAt_104 : decode cX1_metreAt 104 = .ok (.iadd, 1) := by decide +kernel
theorem dX1_metreAt_105 : decode cX1_metreAt 105 = .ok (.iload 6, 2) := by decide +kernel
theorem dX1_metreAt_107 : decode cX1_metreAt 107 = .ok (.iadd, 1) := by decide +kernel
theorem dX1_metreAt_108 : decode cX1_metreAt 108 = .ok (.ireturn, 1) := by decide +kernel
theorem dX1_metreAt_109 : decode cX1_metreAt 109 = .ok (.iinc 3 (-1), 3) := by decide +kernel
theorem dX1_metreAt_112 : decode cX1_metreAt 112 = .ok (.goto (-100), 3) := by decide +kernel
theorem dX1_metreAt_115 : decode cX1_metreAt 115 = .ok (.iconst (-1), 1) := by decide +kernel
theorem dX1_metreAt_116 : decode cX1_metreAt 116 = .ok (.ireturn, 1) := by decide +kernel
