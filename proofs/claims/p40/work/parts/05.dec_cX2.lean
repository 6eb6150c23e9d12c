theorem dX2_init_0 : decode cX2_init 0 = .ok (.aload_n 0, 1) := by decide +kernel
theorem dX2_init_1 : decode cX2_init 1 = .ok (.invokespecial 3, 3) := by decide +kernel
theorem dX2_init_4 : decode cX2_init 4 = .ok (.aload_n 0, 1) := by decide +kernel
theorem dX2_init_5 : decode cX2_init 5 = .ok (.new 9, 3) := by decide +kernel
theorem dX2_init_8 : decode cX2_init 8 = .ok (.dup, 1) := by decide +kernel
theorem dX2_init_9 : decode cX2_init 9 = .ok (.invokespecial 11, 3) := by decide +kernel
theorem dX2_init_12 : decode cX2_init 12 = .ok (.putfield 12, 3) := by decide +kernel
theorem dX2_init_15 : decode cX2_init 15 = .ok (.return_, 1) := by decide +kernel
theorem dX2_beginAnew_0 : decode cX2_beginAnew 0 = .ok (.iconst 0, 1) := by decide +kernel
theorem dX2_beginAnew_1 : decode cX2_beginAnew 1 = .ok (.istore_n 2, 1) := by decide +kernel
theorem dX2_beginAnew_2 : decode cX2_beginAnew 2 = .ok (.iload_n 2, 1) := by decide +kernel
theorem dX2_beginAnew_3 : decode cX2_beginAnew 3 = .ok (.aload_n 0, 1) := by decide +kernel
theorem dX2_beginAnew_4 : decode cX2_beginAnew 4 = .ok (.getfield 12, 3) := by decide +kernel
theorem dX2_beginAnew_7 : decode cX2_beginAnew 7 = .ok (.getfield 18, 3) := by decide +kernel
theorem dX2_beginAnew_10 : decode cX2_beginAnew 10 = .ok (.if_icmp .ge 29, 3) := by decide +kernel
theorem dX2_beginAnew_13 : decode cX2_beginAnew 13 = .ok (.aload_n 0, 1) := by decide +kernel
theorem dX2_beginAnew_14 : decode cX2_beginAnew 14 = .ok (.getfield 12, 3) := by decide +kernel
theorem dX2_beginAnew_17 : decode cX2_beginAnew 17 = .ok (.iload_n 2, 1) := by decide +kernel
theorem dX2_beginAnew_18 : decode cX2_beginAnew 18 = .ok (.iconst 2, 1) := by decide +kernel
theorem dX2_beginAnew_19 : decode cX2_beginAnew 19 = .ok (.iconst 0, 1) := by decide +kernel
theorem dX2_beginAnew_20 : decode cX2_beginAnew 20 = .ok (.invokevirtual 29, 3) := by decide +kernel
theorem dX2_beginAnew_23 : decode cX2_beginAnew 23 = .ok (.aload_n 0, 1) := by decide +kernel
theorem dX2_beginAnew_24 : decode cX2_beginAnew 24 = .ok (.getfield 12, 3) := by decide +kernel
theorem dX2_beginAnew_27 : decode cX2_beginAnew 27 = .ok (.iload_n 2, 1) := by decide +kernel
theorem dX2_beginAnew_28 : decode cX2_beginAnew 28 = .ok (.iconst 3, 1) := by decide +kernel
theorem dX2_beginAnew_29 : decode cX2_beginAnew 29 = .ok (.iload_n 1, 1) := by decide +kernel
theorem dX2_beginAnew_30 : decode cX2_beginAnew 30 = .ok (.invokevirtual 29, 3) := by decide +kernel
theorem dX2_beginAnew_33 : decode cX2_beginAnew 33 = .ok (.iinc 2 1, 3) := by decide +kernel
theorem dX2_beginAnew_36 : decode cX2_beginAnew 36 = .ok (.goto (-34), 3) := by decide +kernel
theorem dX2_beginAnew_39 : decode cX2_beginAnew 39 = .ok (.return_, 1) := by decide +kernel
theorem dX2_dropFrom_0 : decode cX2_dropFrom 0 = .ok (.aload_n 0, 1) := by decide +kernel
theorem dX2_dropFrom_1 : decode cX2_dropFrom 1 = .ok (.getfield 12, 3) := by decide +kernel
theorem dX2_dropFrom_4 : decode cX2_dropFrom 4 = .ok (.getfield 18, 3) := by decide +kernel
theorem dX2_dropFrom_7 : decode cX2_dropFrom 7 = .ok (.iconst 1, 1) := by decide +kernel
theorem dX2_dropFrom_8 : decode cX2_dropFrom 8 = .ok (.isub, 1) := by decide +kernel
theorem dX2_dropFrom_9 : decode cX2_dropFrom 9 = .ok (.istore_n 2, 1) := by decide +kernel
theorem dX2_dropFrom_10 : decode cX2_dropFrom 10 = .ok (.iload_n 2, 1) := by decide +kernel
theorem dX2_dropFrom_11 : decode cX2_dropFrom 11 = .ok (.ifCond .lt 30, 3) := by decide +kernel
theorem dX2_dropFrom_14 : decode cX2_dropFrom 14 = .ok (.aload_n 0, 1) := by decide +kernel
theorem dX2_dropFrom_15 : decode cX2_dropFrom 15 = .ok (.getfield 12, 3) := by decide +kernel
theorem dX2_dropFrom_18 : decode cX2_dropFrom 18 = .ok (.iload_n 2, 1) := by decide +kernel
theorem dX2_dropFrom_19 : decode cX2_dropFrom 19 = .ok (.iconst 1, 1) := by decide +kernel
theorem dX2_dropFrom_20 : decode cX2_dropFrom 20 = .ok (.invokevirtual 25, 3) := by decide +kernel
theorem dX2_dropFrom_23 : decode cX2_dropFrom 23 = .ok (.iload_n 1, 1) := by decide +kernel
theorem dX2_dropFrom_24 : decode cX2_dropFrom 24 = .ok (.if_icmp .lt 11, 3) := by decide +kernel
theorem dX2_dropFrom_27 : decode cX2_dropFrom 27 = .ok (.aload_n 0, 1) := by decide +kernel
theorem dX2_dropFrom_28 : decode cX2_dropFrom 28 = .ok (.getfield 12, 3) := by decide +kernel
theorem dX2_dropFrom_31 : decode cX2_dropFrom 31 = .ok (.iload_n 2, 1) := by decide +kernel
theorem dX2_dropFrom_32 : decode cX2_dropFrom 32 = .ok (.invokevirtual 33, 3) := by decide +kernel
theorem dX2_dropFrom_35 : decode cX2_dropFrom 35 = .ok (.iinc 2 (-1), 3) := by decide +kernel
theorem dX2_dropFrom_38 : decode cX2_dropFrom 38 = .ok (.goto (-28), 3) := by decide +kernel
theorem dX2_dropFrom_41 : decode cX2_dropFrom 41 = .ok (.return_, 1) := by decide +kernel
theorem dX2_cutOut_0 : decode cX2_cutOut 0 = .ok (.iconst 0, 1) := by decide +kernel
theorem dX2_cutOut_1 : decode cX2_cutOut 1 = .ok (.istore 4, 2) := by decide +kernel
theorem dX2_cutOut_3 : decode cX2_cutOut 3 = .ok (.aload_n 0, 1) := by decide +kernel
theorem dX2_cutOut_4 : decode cX2_cutOut 4 = .ok (.getfield 12, 3) := by decide +kernel
theorem dX2_cutOut_7 : decode cX2_cutOut 7 = .ok (.getfield 18, 3) := by decide +kernel
theorem dX2_cutOut_10 : decode cX2_cutOut 10 = .ok (.iconst 1, 1) := by decide +kernel
theorem dX2_cutOut_11 : decode cX2_cutOut 11 = .ok (.isub, 1) := by decide +kernel
theorem dX2_cutOut_12 : decode cX2_cutOut 12 = .ok (.istore 5, 2) := by decide +kernel
theorem dX2_cutOut_14 : decode cX2_cutOut 14 = .ok (.iload 5, 2) := by decide +kernel
theorem dX2_cutOut_16 : decode cX2_cutOut 16 = .ok (.ifCond .lt 62, 3) := by decide +kernel
theorem dX2_cutOut_19 : decode cX2_cutOut 19 = .ok (.aload_n 0, 1) := by decide +kernel
theorem dX2_cutOut_20 : decode cX2_cutOut 20 = .ok (.getfield 12, 3) := by decide +kernel
theorem dX2_cutOut_23 : decode cX2_cutOut 23 = .ok (.iload 5, 2) := by decide +kernel
theorem dX2_cutOut_25 : decode cX2_cutOut 25 = .ok (.iconst 1, 1) := by decide +kernel
theorem dX2_cutOut_26 : decode cX2_cutOut 26 = .ok (.invokevirtual 25, 3) := by decide +kernel
theorem dX2_cutOut_29 : decode cX2_cutOut 29 = .ok (.istore 6, 2) := by decide +kernel
theorem dX2_cutOut_31 : decode cX2_cutOut 31 = .ok (.iload 6, 2) := by decide +kernel
theorem dX2_cutOut_33 : decode cX2_cutOut 33 = .ok (.iload_n 2, 1) := by decide +kernel
theorem dX2_cutOut_34 : decode cX2_cutOut 34 = .ok (.if_icmp .lt 20, 3) := by decide +kernel
theorem dX2_cutOut_37 : decode cX2_cutOut 37 = .ok (.aload_n 0, 1) := by decide +kernel
theorem dX2_cutOut_38 : decode cX2_cutOut 38 = .ok (.getfield 12, 3) := by decide +kernel
theorem dX2_cutOut_41 : decode cX2_cutOut 41 = .ok (.iload 5, 2) := by decide +kernel
theorem dX2_cutOut_43 : decode cX2_cutOut 43 = .ok (.iconst 1, 1) := by decide +kernel
theorem dX2_cutOut_44 : decode cX2_cutOut 44 = .ok (.iload 6, 2) := by decide +kernel
theorem dX2_cutOut_46 : decode cX2_cutOut 46 = .ok (.iload_n 3, 1) := by decide +kernel
theorem dX2_cutOut_47 : decode cX2_cutOut 47 = .ok (.iadd, 1) := by decide +kernel
theorem dX2_cutOut_48 : decode cX2_cutOut 48 = .ok (.invokevirtual 29, 3) := by decide +kernel
theorem dX2_cutOut_51 : decode cX2_cutOut 51 = .ok (.goto 21, 3) := by decide +kernel
theorem dX2_cutOut_54 : decode cX2_cutOut 54 = .ok (.iload 6, 2) := by decide +kernel
theorem dX2_cutOut_56 : decode cX2_cutOut 56 = .ok (.iload_n 1, 1) := by decide +kernel
theorem dX2_cutOut_57 : decode cX2_cutOut 57 = .ok (.if_icmp .lt 15, 3) := by decide +kernel
theorem dX2_cutOut_60 : decode cX2_cutOut 60 = .ok (.aload_n 0, 1) := by decide +kernel
theorem dX2_cutOut_61 : decode cX2_cutOut 61 = .ok (.getfield 12, 3) := by decide +kernel
theorem dX2_cutOut_64 : decode cX2_cutOut 64 = .ok (.iload 5, 2) := by decide +kernel
theorem dX2_cutOut_66 : decode cX2_cutOut 66 = .ok (.invokevirtual 33, 3) := by decide +kernel
theorem dX2_cutOut_69 : decode cX2_cutOut 69 = .ok (.iinc 4 1, 3) := by decide +kernel
theorem dX2_cutOut_72 : decode cX2_cutOut 72 = .ok (.iinc 5 (-1), 3) := by decide +kernel
theorem dX2_cutOut_75 : decode cX2_cutOut 75 = .ok (.goto (-61), 3) := by decide +kernel
theorem dX2_cutOut_78 : decode cX2_cutOut 78 = .ok (.iload 4, 2) := by decide +kernel
theorem dX2_cutOut_80 : decode cX2_cutOut 80 = .ok (.ireturn, 1) := by decide +kernel
