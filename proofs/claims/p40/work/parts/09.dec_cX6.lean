theorem dX6_init_0 : decode cX6_init 0 = .ok (.aload_n 0, 1) := by decide +kernel
theorem dX6_init_1 : decode cX6_init 1 = .ok (.invokespecial 3, 3) := by decide +kernel
theorem dX6_init_4 : decode cX6_init 4 = .ok (.aload_n 0, 1) := by decide +kernel
theorem dX6_init_5 : decode cX6_init 5 = .ok (.bipush 100, 2) := by decide +kernel
theorem dX6_init_7 : decode cX6_init 7 = .ok (.newarray .int, 2) := by decide +kernel
theorem dX6_init_9 : decode cX6_init 9 = .ok (.putfield 9, 3) := by decide +kernel
theorem dX6_init_12 : decode cX6_init 12 = .ok (.aload_n 0, 1) := by decide +kernel
theorem dX6_init_13 : decode cX6_init 13 = .ok (.bipush 100, 2) := by decide +kernel
theorem dX6_init_15 : decode cX6_init 15 = .ok (.newarray .int, 2) := by decide +kernel
theorem dX6_init_17 : decode cX6_init 17 = .ok (.putfield 15, 3) := by decide +kernel
theorem dX6_init_20 : decode cX6_init 20 = .ok (.aload_n 0, 1) := by decide +kernel
theorem dX6_init_21 : decode cX6_init 21 = .ok (.bipush 100, 2) := by decide +kernel
theorem dX6_init_23 : decode cX6_init 23 = .ok (.newarray .boolean, 2) := by decide +kernel
theorem dX6_init_25 : decode cX6_init 25 = .ok (.putfield 18, 3) := by decide +kernel
theorem dX6_init_28 : decode cX6_init 28 = .ok (.aload_n 0, 1) := by decide +kernel
theorem dX6_init_29 : decode cX6_init 29 = .ok (.bipush 100, 2) := by decide +kernel
theorem dX6_init_31 : decode cX6_init 31 = .ok (.newarray .int, 2) := by decide +kernel
theorem dX6_init_33 : decode cX6_init 33 = .ok (.putfield 22, 3) := by decide +kernel
theorem dX6_init_36 : decode cX6_init 36 = .ok (.aload_n 0, 1) := by decide +kernel
theorem dX6_init_37 : decode cX6_init 37 = .ok (.getfield 9, 3) := by decide +kernel
theorem dX6_init_40 : decode cX6_init 40 = .ok (.bipush 100, 2) := by decide +kernel
theorem dX6_init_42 : decode cX6_init 42 = .ok (.invokestatic 25, 3) := by decide +kernel
theorem dX6_init_45 : decode cX6_init 45 = .ok (.aload_n 0, 1) := by decide +kernel
theorem dX6_init_46 : decode cX6_init 46 = .ok (.getfield 15, 3) := by decide +kernel
theorem dX6_init_49 : decode cX6_init 49 = .ok (.sipush 501, 3) := by decide +kernel
theorem dX6_init_52 : decode cX6_init 52 = .ok (.invokestatic 25, 3) := by decide +kernel
theorem dX6_init_55 : decode cX6_init 55 = .ok (.return_, 1) := by decide +kernel
theorem dX6_takeSounding_0 : decode cX6_takeSounding 0 = .ok (.iload_n 1, 1) := by decide +kernel
theorem dX6_takeSounding_1 : decode cX6_takeSounding 1 = .ok (.invokestatic 31, 3) := by decide +kernel
theorem dX6_takeSounding_4 : decode cX6_takeSounding 4 = .ok (.ifCond .eq 27, 3) := by decide +kernel
theorem dX6_takeSounding_7 : decode cX6_takeSounding 7 = .ok (.iload_n 3, 1) := by decide +kernel
theorem dX6_takeSounding_8 : decode cX6_takeSounding 8 = .ok (.aload_n 0, 1) := by decide +kernel
theorem dX6_takeSounding_9 : decode cX6_takeSounding 9 = .ok (.getfield 15, 3) := by decide +kernel
theorem dX6_takeSounding_12 : decode cX6_takeSounding 12 = .ok (.iload_n 1, 1) := by decide +kernel
theorem dX6_takeSounding_13 : decode cX6_takeSounding 13 = .ok (.iaload, 1) := by decide +kernel
theorem dX6_takeSounding_14 : decode cX6_takeSounding 14 = .ok (.if_icmp .gt 17, 3) := by decide +kernel
theorem dX6_takeSounding_17 : decode cX6_takeSounding 17 = .ok (.aload_n 0, 1) := by decide +kernel
theorem dX6_takeSounding_18 : decode cX6_takeSounding 18 = .ok (.getfield 9, 3) := by decide +kernel
theorem dX6_takeSounding_21 : decode cX6_takeSounding 21 = .ok (.iload_n 1, 1) := by decide +kernel
theorem dX6_takeSounding_22 : decode cX6_takeSounding 22 = .ok (.iload_n 2, 1) := by decide +kernel
theorem dX6_takeSounding_23 : decode cX6_takeSounding 23 = .ok (.iastore, 1) := by decide +kernel
theorem dX6_takeSounding_24 : decode cX6_takeSounding 24 = .ok (.aload_n 0, 1) := by decide +kernel
theorem dX6_takeSounding_25 : decode cX6_takeSounding 25 = .ok (.getfield 15, 3) := by decide +kernel
theorem dX6_takeSounding_28 : decode cX6_takeSounding 28 = .ok (.iload_n 1, 1) := by decide +kernel
theorem dX6_takeSounding_29 : decode cX6_takeSounding 29 = .ok (.iload_n 3, 1) := by decide +kernel
theorem dX6_takeSounding_30 : decode cX6_takeSounding 30 = .ok (.iastore, 1) := by decide +kernel
theorem dX6_takeSounding_31 : decode cX6_takeSounding 31 = .ok (.return_, 1) := by decide +kernel
theorem dX6_depthOf_0 : decode cX6_depthOf 0 = .ok (.iload_n 1, 1) := by decide +kernel
theorem dX6_depthOf_1 : decode cX6_depthOf 1 = .ok (.invokestatic 31, 3) := by decide +kernel
theorem dX6_depthOf_4 : decode cX6_depthOf 4 = .ok (.ifCond .eq 12, 3) := by decide +kernel
theorem dX6_depthOf_7 : decode cX6_depthOf 7 = .ok (.aload_n 0, 1) := by decide +kernel
theorem dX6_depthOf_8 : decode cX6_depthOf 8 = .ok (.getfield 9, 3) := by decide +kernel
theorem dX6_depthOf_11 : decode cX6_depthOf 11 = .ok (.iload_n 1, 1) := by decide +kernel
theorem dX6_depthOf_12 : decode cX6_depthOf 12 = .ok (.iaload, 1) := by decide +kernel
theorem dX6_depthOf_13 : decode cX6_depthOf 13 = .ok (.goto 4, 3) := by decide +kernel
theorem dX6_depthOf_16 : decode cX6_depthOf 16 = .ok (.iconst 0, 1) := by decide +kernel
theorem dX6_depthOf_17 : decode cX6_depthOf 17 = .ok (.ireturn, 1) := by decide +kernel
theorem dX6_groundOf_0 : decode cX6_groundOf 0 = .ok (.aload_n 0, 1) := by decide +kernel
theorem dX6_groundOf_1 : decode cX6_groundOf 1 = .ok (.iload_n 1, 1) := by decide +kernel
theorem dX6_groundOf_2 : decode cX6_groundOf 2 = .ok (.invokevirtual 35, 3) := by decide +kernel
theorem dX6_groundOf_5 : decode cX6_groundOf 5 = .ok (.aload_n 0, 1) := by decide +kernel
theorem dX6_groundOf_6 : decode cX6_groundOf 6 = .ok (.iload_n 1, 1) := by decide +kernel
theorem dX6_groundOf_7 : decode cX6_groundOf 7 = .ok (.iconst 1, 1) := by decide +kernel
theorem dX6_groundOf_8 : decode cX6_groundOf 8 = .ok (.isub, 1) := by decide +kernel
theorem dX6_groundOf_9 : decode cX6_groundOf 9 = .ok (.invokevirtual 35, 3) := by decide +kernel
theorem dX6_groundOf_12 : decode cX6_groundOf 12 = .ok (.isub, 1) := by decide +kernel
theorem dX6_groundOf_13 : decode cX6_groundOf 13 = .ok (.istore_n 2, 1) := by decide +kernel
theorem dX6_groundOf_14 : decode cX6_groundOf 14 = .ok (.sipush 1000, 3) := by decide +kernel
theorem dX6_groundOf_17 : decode cX6_groundOf 17 = .ok (.iload_n 2, 1) := by decide +kernel
theorem dX6_groundOf_18 : decode cX6_groundOf 18 = .ok (.iload_n 2, 1) := by decide +kernel
theorem dX6_groundOf_19 : decode cX6_groundOf 19 = .ok (.imul, 1) := by decide +kernel
theorem dX6_groundOf_20 : decode cX6_groundOf 20 = .ok (.sipush 2000, 3) := by decide +kernel
theorem dX6_groundOf_23 : decode cX6_groundOf 23 = .ok (.idiv, 1) := by decide +kernel
theorem dX6_groundOf_24 : decode cX6_groundOf 24 = .ok (.iadd, 1) := by decide +kernel
theorem dX6_groundOf_25 : decode cX6_groundOf 25 = .ok (.ireturn, 1) := by decide +kernel
theorem dX6_hasWreck_0 : decode cX6_hasWreck 0 = .ok (.iload_n 1, 1) := by decide +kernel
theorem dX6_hasWreck_1 : decode cX6_hasWreck 1 = .ok (.invokestatic 31, 3) := by decide +kernel
theorem dX6_hasWreck_4 : decode cX6_hasWreck 4 = .ok (.ifCond .eq 16, 3) := by decide +kernel
theorem dX6_hasWreck_7 : decode cX6_hasWreck 7 = .ok (.aload_n 0, 1) := by decide +kernel
theorem dX6_hasWreck_8 : decode cX6_hasWreck 8 = .ok (.getfield 18, 3) := by decide +kernel
theorem dX6_hasWreck_11 : decode cX6_hasWreck 11 = .ok (.iload_n 1, 1) := by decide +kernel
theorem dX6_hasWreck_12 : decode cX6_hasWreck 12 = .ok (.baload, 1) := by decide +kernel
theorem dX6_hasWreck_13 : decode cX6_hasWreck 13 = .ok (.ifCond .eq 7, 3) := by decide +kernel
theorem dX6_hasWreck_16 : decode cX6_hasWreck 16 = .ok (.iconst 1, 1) := by decide +kernel
theorem dX6_hasWreck_17 : decode cX6_hasWreck 17 = .ok (.goto 4, 3) := by decide +kernel
theorem dX6_hasWreck_20 : decode cX6_hasWreck 20 = .ok (.iconst 0, 1) := by decide +kernel
theorem dX6_hasWreck_21 : decode cX6_hasWreck 21 = .ok (.ireturn, 1) := by decide +kernel
theorem dX6_crossingOf_0 : decode cX6_crossingOf 0 = .ok (.iload_n 1, 1) := by decide +kernel
theorem dX6_crossingOf_1 : decode cX6_crossingOf 1 = .ok (.invokestatic 31, 3) := by decide +kernel
theorem dX6_crossingOf_4 : decode cX6_crossingOf 4 = .ok (.ifCond .eq 12, 3) := by decide +kernel
theorem dX6_crossingOf_7 : decode cX6_crossingOf 7 = .ok (.aload_n 0, 1) := by decide +kernel
theorem dX6_crossingOf_8 : decode cX6_crossingOf 8 = .ok (.getfield 22, 3) := by decide +kernel
theorem dX6_crossingOf_11 : decode cX6_crossingOf 11 = .ok (.iload_n 1, 1) := by decide +kernel
theorem dX6_crossingOf_12 : decode cX6_crossingOf 12 = .ok (.iaload, 1) := by decide +kernel
theorem dX6_crossingOf_13 : decode cX6_crossingOf 13 = .ok (.goto 4, 3) := by decide +kernel
theorem dX6_crossingOf_16 : decode cX6_crossingOf 16 = .ok (.iconst 0, 1) := by decide +kernel
theorem dX6_crossingOf_17 : decode cX6_crossingOf 17 = .ok (.ireturn, 1) := by decide +kernel
theorem dX6_isOpen_0 : decode cX6_isOpen 0 = .ok (.aload_n 0, 1) := by decide +kernel
theorem dX6_isOpen_1 : decode cX6_isOpen 1 = .ok (.iload_n 1, 1) := by decide +kernel
theorem dX6_isOpen_2 : decode cX6_isOpen 2 = .ok (.invokevirtual 39, 3) := by decide +kernel
theorem dX6_isOpen_5 : decode cX6_isOpen 5 = .ok (.ifCond .ne 16, 3) := by decide +kernel
theorem dX6_isOpen_8 : decode cX6_isOpen 8 = .ok (.aload_n 0, 1) := by decide +kernel
theorem dX6_isOpen_9 : decode cX6_isOpen 9 = .ok (.iload_n 1, 1) := by decide +kernel
theorem dX6_isOpen_10 : decode cX6_isOpen 10 = .ok (.invokevirtual 42, 3) := by decide +kernel
theorem dX6_isOpen_13 : decode cX6_isOpen 13 = .ok (.iconst 1, 1) := by decide +kernel
theorem dX6_isOpen_14 : decode cX6_isOpen 14 = .ok (.if_icmp .eq 7, 3) := by decide +kernel
theorem dX6_isOpen_17 : decode cX6_isOpen 17 = .ok (.iconst 1, 1) := by decide +kernel
theorem dX6_isOpen_18 : decode cX6_isOpen 18 = .ok (.goto 4, 3) := by decide +kernel
theorem dX6_isOpen_21 : decode cX6_isOpen 21 = .ok (.iconst 0, 1) := by decide +kernel
theorem dX6_isOpen_22 : decode cX6_isOpen 22 = .ok (.ireturn, 1) := by decide +kernel
