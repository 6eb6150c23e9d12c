theorem dX4_init_0 : decode cX4_init 0 = .ok (.aload_n 0, 1) := by decide +kernel
theorem dX4_init_1 : decode cX4_init 1 = .ok (.invokespecial 3, 3) := by decide +kernel
theorem dX4_init_4 : decode cX4_init 4 = .ok (.aload_n 0, 1) := by decide +kernel
theorem dX4_init_5 : decode cX4_init 5 = .ok (.new 9, 3) := by decide +kernel
theorem dX4_init_8 : decode cX4_init 8 = .ok (.dup, 1) := by decide +kernel
theorem dX4_init_9 : decode cX4_init 9 = .ok (.invokespecial 11, 3) := by decide +kernel
theorem dX4_init_12 : decode cX4_init 12 = .ok (.putfield 12, 3) := by decide +kernel
theorem dX4_init_15 : decode cX4_init 15 = .ok (.aload_n 0, 1) := by decide +kernel
theorem dX4_init_16 : decode cX4_init 16 = .ok (.new 9, 3) := by decide +kernel
theorem dX4_init_19 : decode cX4_init 19 = .ok (.dup, 1) := by decide +kernel
theorem dX4_init_20 : decode cX4_init 20 = .ok (.invokespecial 11, 3) := by decide +kernel
theorem dX4_init_23 : decode cX4_init 23 = .ok (.putfield 18, 3) := by decide +kernel
theorem dX4_init_26 : decode cX4_init 26 = .ok (.aload_n 0, 1) := by decide +kernel
theorem dX4_init_27 : decode cX4_init 27 = .ok (.iconst 4, 1) := by decide +kernel
theorem dX4_init_28 : decode cX4_init 28 = .ok (.newarray .int, 2) := by decide +kernel
theorem dX4_init_30 : decode cX4_init 30 = .ok (.putfield 21, 3) := by decide +kernel
theorem dX4_init_33 : decode cX4_init 33 = .ok (.aload_n 0, 1) := by decide +kernel
theorem dX4_init_34 : decode cX4_init 34 = .ok (.getfield 12, 3) := by decide +kernel
theorem dX4_init_37 : decode cX4_init 37 = .ok (.iconst 0, 1) := by decide +kernel
theorem dX4_init_38 : decode cX4_init 38 = .ok (.iconst 1, 1) := by decide +kernel
theorem dX4_init_39 : decode cX4_init 39 = .ok (.bipush 8, 2) := by decide +kernel
theorem dX4_init_41 : decode cX4_init 41 = .ok (.iconst 0, 1) := by decide +kernel
theorem dX4_init_42 : decode cX4_init 42 = .ok (.invokevirtual 25, 3) := by decide +kernel
theorem dX4_init_45 : decode cX4_init 45 = .ok (.return_, 1) := by decide +kernel
theorem dX4_wayOf_0 : decode cX4_wayOf 0 = .ok (.aload_n 0, 1) := by decide +kernel
theorem dX4_wayOf_1 : decode cX4_wayOf 1 = .ok (.getfield 18, 3) := by decide +kernel
theorem dX4_wayOf_4 : decode cX4_wayOf 4 = .ok (.iload_n 1, 1) := by decide +kernel
theorem dX4_wayOf_5 : decode cX4_wayOf 5 = .ok (.iconst 3, 1) := by decide +kernel
theorem dX4_wayOf_6 : decode cX4_wayOf 6 = .ok (.invokevirtual 29, 3) := by decide +kernel
theorem dX4_wayOf_9 : decode cX4_wayOf 9 = .ok (.ireturn, 1) := by decide +kernel
theorem dX4_toldDead_0 : decode cX4_toldDead 0 = .ok (.iconst 0, 1) := by decide +kernel
theorem dX4_toldDead_1 : decode cX4_toldDead 1 = .ok (.istore_n 1, 1) := by decide +kernel
theorem dX4_toldDead_2 : decode cX4_toldDead 2 = .ok (.iconst 0, 1) := by decide +kernel
theorem dX4_toldDead_3 : decode cX4_toldDead 3 = .ok (.istore_n 2, 1) := by decide +kernel
theorem dX4_toldDead_4 : decode cX4_toldDead 4 = .ok (.iload_n 2, 1) := by decide +kernel
theorem dX4_toldDead_5 : decode cX4_toldDead 5 = .ok (.aload_n 0, 1) := by decide +kernel
theorem dX4_toldDead_6 : decode cX4_toldDead 6 = .ok (.getfield 12, 3) := by decide +kernel
theorem dX4_toldDead_9 : decode cX4_toldDead 9 = .ok (.getfield 33, 3) := by decide +kernel
theorem dX4_toldDead_12 : decode cX4_toldDead 12 = .ok (.if_icmp .ge 28, 3) := by decide +kernel
theorem dX4_toldDead_15 : decode cX4_toldDead 15 = .ok (.aload_n 0, 1) := by decide +kernel
theorem dX4_toldDead_16 : decode cX4_toldDead 16 = .ok (.getfield 12, 3) := by decide +kernel
theorem dX4_toldDead_19 : decode cX4_toldDead 19 = .ok (.iload_n 2, 1) := by decide +kernel
theorem dX4_toldDead_20 : decode cX4_toldDead 20 = .ok (.iconst 3, 1) := by decide +kernel
theorem dX4_toldDead_21 : decode cX4_toldDead 21 = .ok (.invokevirtual 29, 3) := by decide +kernel
theorem dX4_toldDead_24 : decode cX4_toldDead 24 = .ok (.iconst 1, 1) := by decide +kernel
theorem dX4_toldDead_25 : decode cX4_toldDead 25 = .ok (.if_icmp .ne 9, 3) := by decide +kernel
theorem dX4_toldDead_28 : decode cX4_toldDead 28 = .ok (.iload_n 1, 1) := by decide +kernel
theorem dX4_toldDead_29 : decode cX4_toldDead 29 = .ok (.iconst 1, 1) := by decide +kernel
theorem dX4_toldDead_30 : decode cX4_toldDead 30 = .ok (.iload_n 2, 1) := by decide +kernel
theorem dX4_toldDead_31 : decode cX4_toldDead 31 = .ok (.ishl, 1) := by decide +kernel
theorem dX4_toldDead_32 : decode cX4_toldDead 32 = .ok (.ior, 1) := by decide +kernel
theorem dX4_toldDead_33 : decode cX4_toldDead 33 = .ok (.istore_n 1, 1) := by decide +kernel
theorem dX4_toldDead_34 : decode cX4_toldDead 34 = .ok (.iinc 2 1, 3) := by decide +kernel
theorem dX4_toldDead_37 : decode cX4_toldDead 37 = .ok (.goto (-33), 3) := by decide +kernel
theorem dX4_toldDead_40 : decode cX4_toldDead 40 = .ok (.iload_n 1, 1) := by decide +kernel
theorem dX4_toldDead_41 : decode cX4_toldDead 41 = .ok (.ireturn, 1) := by decide +kernel
theorem dX4_takeOff_0 : decode cX4_takeOff 0 = .ok (.iconst 0, 1) := by decide +kernel
theorem dX4_takeOff_1 : decode cX4_takeOff 1 = .ok (.istore_n 2, 1) := by decide +kernel
theorem dX4_takeOff_2 : decode cX4_takeOff 2 = .ok (.iload_n 2, 1) := by decide +kernel
theorem dX4_takeOff_3 : decode cX4_takeOff 3 = .ok (.aload_n 0, 1) := by decide +kernel
theorem dX4_takeOff_4 : decode cX4_takeOff 4 = .ok (.getfield 18, 3) := by decide +kernel
theorem dX4_takeOff_7 : decode cX4_takeOff 7 = .ok (.getfield 33, 3) := by decide +kernel
theorem dX4_takeOff_10 : decode cX4_takeOff 10 = .ok (.if_icmp .ge 29, 3) := by decide +kernel
theorem dX4_takeOff_13 : decode cX4_takeOff 13 = .ok (.aload_n 0, 1) := by decide +kernel
theorem dX4_takeOff_14 : decode cX4_takeOff 14 = .ok (.iload_n 2, 1) := by decide +kernel
theorem dX4_takeOff_15 : decode cX4_takeOff 15 = .ok (.invokevirtual 37, 3) := by decide +kernel
theorem dX4_takeOff_18 : decode cX4_takeOff 18 = .ok (.iload_n 1, 1) := by decide +kernel
theorem dX4_takeOff_19 : decode cX4_takeOff 19 = .ok (.iand, 1) := by decide +kernel
theorem dX4_takeOff_20 : decode cX4_takeOff 20 = .ok (.ifCond .eq 13, 3) := by decide +kernel
theorem dX4_takeOff_23 : decode cX4_takeOff 23 = .ok (.aload_n 0, 1) := by decide +kernel
theorem dX4_takeOff_24 : decode cX4_takeOff 24 = .ok (.getfield 18, 3) := by decide +kernel
theorem dX4_takeOff_27 : decode cX4_takeOff 27 = .ok (.iload_n 2, 1) := by decide +kernel
theorem dX4_takeOff_28 : decode cX4_takeOff 28 = .ok (.iconst 3, 1) := by decide +kernel
theorem dX4_takeOff_29 : decode cX4_takeOff 29 = .ok (.iconst 0, 1) := by decide +kernel
theorem dX4_takeOff_30 : decode cX4_takeOff 30 = .ok (.invokevirtual 41, 3) := by decide +kernel
theorem dX4_takeOff_33 : decode cX4_takeOff 33 = .ok (.iinc 2 1, 3) := by decide +kernel
theorem dX4_takeOff_36 : decode cX4_takeOff 36 = .ok (.goto (-34), 3) := by decide +kernel
theorem dX4_takeOff_39 : decode cX4_takeOff 39 = .ok (.return_, 1) := by decide +kernel
theorem dX4_carryDark_0 : decode cX4_carryDark 0 = .ok (.iconst 0, 1) := by decide +kernel
theorem dX4_carryDark_1 : decode cX4_carryDark 1 = .ok (.istore_n 2, 1) := by decide +kernel
theorem dX4_carryDark_2 : decode cX4_carryDark 2 = .ok (.iconst 0, 1) := by decide +kernel
theorem dX4_carryDark_3 : decode cX4_carryDark 3 = .ok (.istore_n 3, 1) := by decide +kernel
theorem dX4_carryDark_4 : decode cX4_carryDark 4 = .ok (.iload_n 3, 1) := by decide +kernel
theorem dX4_carryDark_5 : decode cX4_carryDark 5 = .ok (.aload_n 0, 1) := by decide +kernel
theorem dX4_carryDark_6 : decode cX4_carryDark 6 = .ok (.getfield 18, 3) := by decide +kernel
theorem dX4_carryDark_9 : decode cX4_carryDark 9 = .ok (.getfield 33, 3) := by decide +kernel
theorem dX4_carryDark_12 : decode cX4_carryDark 12 = .ok (.if_icmp .ge 34, 3) := by decide +kernel
theorem dX4_carryDark_15 : decode cX4_carryDark 15 = .ok (.aload_n 0, 1) := by decide +kernel
theorem dX4_carryDark_16 : decode cX4_carryDark 16 = .ok (.iload_n 3, 1) := by decide +kernel
theorem dX4_carryDark_17 : decode cX4_carryDark 17 = .ok (.invokevirtual 37, 3) := by decide +kernel
theorem dX4_carryDark_20 : decode cX4_carryDark 20 = .ok (.ifCond .ne 9, 3) := by decide +kernel
theorem dX4_carryDark_23 : decode cX4_carryDark 23 = .ok (.aload_n 0, 1) := by decide +kernel
theorem dX4_carryDark_24 : decode cX4_carryDark 24 = .ok (.iload_n 3, 1) := by decide +kernel
theorem dX4_carryDark_25 : decode cX4_carryDark 25 = .ok (.iload_n 1, 1) := by decide +kernel
theorem dX4_carryDark_26 : decode cX4_carryDark 26 = .ok (.invokevirtual 45, 3) := by decide +kernel
theorem dX4_carryDark_29 : decode cX4_carryDark 29 = .ok (.aload_n 0, 1) := by decide +kernel
theorem dX4_carryDark_30 : decode cX4_carryDark 30 = .ok (.iload_n 3, 1) := by decide +kernel
theorem dX4_carryDark_31 : decode cX4_carryDark 31 = .ok (.invokevirtual 37, 3) := by decide +kernel
theorem dX4_carryDark_34 : decode cX4_carryDark 34 = .ok (.ifCond .ne 6, 3) := by decide +kernel
theorem dX4_carryDark_37 : decode cX4_carryDark 37 = .ok (.iinc 2 1, 3) := by decide +kernel
theorem dX4_carryDark_40 : decode cX4_carryDark 40 = .ok (.iinc 3 1, 3) := by decide +kernel
theorem dX4_carryDark_43 : decode cX4_carryDark 43 = .ok (.goto (-39), 3) := by decide +kernel
theorem dX4_carryDark_46 : decode cX4_carryDark 46 = .ok (.iload_n 2, 1) := by decide +kernel
theorem dX4_carryDark_47 : decode cX4_carryDark 47 = .ok (.ireturn, 1) := by decide +kernel
theorem dX4_carry_0 : decode cX4_carry 0 = .ok (.aload_n 0, 1) := by decide +kernel
theorem dX4_carry_1 : decode cX4_carry 1 = .ok (.aload_n 0, 1) := by decide +kernel
theorem dX4_carry_2 : decode cX4_carry 2 = .ok (.getfield 18, 3) := by decide +kernel
theorem dX4_carry_5 : decode cX4_carry 5 = .ok (.iload_n 1, 1) := by decide +kernel
theorem dX4_carry_6 : decode cX4_carry 6 = .ok (.iconst 2, 1) := by decide +kernel
theorem dX4_carry_7 : decode cX4_carry 7 = .ok (.invokevirtual 29, 3) := by decide +kernel
theorem dX4_carry_10 : decode cX4_carry 10 = .ok (.iload_n 2, 1) := by decide +kernel
theorem dX4_carry_11 : decode cX4_carry 11 = .ok (.invokevirtual 49, 3) := by decide +kernel
theorem dX4_carry_14 : decode cX4_carry 14 = .ok (.istore_n 3, 1) := by decide +kernel
theorem dX4_carry_15 : decode cX4_carry 15 = .ok (.aload_n 0, 1) := by decide +kernel
theorem dX4_carry_16 : decode cX4_carry 16 = .ok (.aload_n 0, 1) := by decide +kernel
theorem dX4_carry_17 : decode cX4_carry 17 = .ok (.getfield 18, 3) := by decide +kernel
theorem dX4_carry_20 : decode cX4_carry 20 = .ok (.iload_n 1, 1) := by decide +kernel
theorem dX4_carry_21 : decode cX4_carry 21 = .ok (.iconst 1, 1) := by decide +kernel
theorem dX4_carry_22 : decode cX4_carry 22 = .ok (.invokevirtual 29, 3) := by decide +kernel
theorem dX4_carry_25 : decode cX4_carry 25 = .ok (.iload_n 3, 1) := by decide +kernel
theorem dX4_carry_26 : decode cX4_carry 26 = .ok (.invokevirtual 52, 3) := by decide +kernel
theorem dX4_carry_29 : decode cX4_carry 29 = .ok (.aload_n 0, 1) := by decide +kernel
theorem dX4_carry_30 : decode cX4_carry 30 = .ok (.getfield 18, 3) := by decide +kernel
theorem dX4_carry_33 : decode cX4_carry 33 = .ok (.iload_n 1, 1) := by decide +kernel
theorem dX4_carry_34 : decode cX4_carry 34 = .ok (.iconst 3, 1) := by decide +kernel
theorem dX4_carry_35 : decode cX4_carry 35 = .ok (.aload_n 0, 1) := by decide +kernel
theorem dX4_carry_36 : decode cX4_carry 36 = .ok (.aload_n 0, 1) := by decide +kernel
theorem dX4_carry_37 : decode cX4_carry 37 = .ok (.getfield 18, 3) := by decide +kernel
theorem dX4_carry_40 : decode cX4_carry 40 = .ok (.iload_n 1, 1) := by decide +kernel
theorem dX4_carry_41 : decode cX4_carry 41 = .ok (.iconst 0, 1) := by decide +kernel
theorem dX4_carry_42 : decode cX4_carry 42 = .ok (.invokevirtual 29, 3) := by decide +kernel
theorem dX4_carry_45 : decode cX4_carry 45 = .ok (.iload_n 3, 1) := by decide +kernel
theorem dX4_carry_46 : decode cX4_carry 46 = .ok (.invokevirtual 55, 3) := by decide +kernel
theorem dX4_carry_49 : decode cX4_carry 49 = .ok (.invokevirtual 41, 3) := by decide +kernel
theorem dX4_carry_52 : decode cX4_carry 52 = .ok (.return_, 1) := by decide +kernel
theorem dX4_usableLinks_0 : decode cX4_usableLinks 0 = .ok (.iconst 0, 1) := by decide +kernel
theorem dX4_usableLinks_1 : decode cX4_usableLinks 1 = .ok (.istore_n 3, 1) := by decide +kernel
theorem dX4_usableLinks_2 : decode cX4_usableLinks 2 = .ok (.iconst 0, 1) := by decide +kernel
theorem dX4_usableLinks_3 : decode cX4_usableLinks 3 = .ok (.istore 4, 2) := by decide +kernel
theorem dX4_usableLinks_5 : decode cX4_usableLinks 5 = .ok (.iload 4, 2) := by decide +kernel
theorem dX4_usableLinks_7 : decode cX4_usableLinks 7 = .ok (.aload_n 0, 1) := by decide +kernel
theorem dX4_usableLinks_8 : decode cX4_usableLinks 8 = .ok (.getfield 12, 3) := by decide +kernel
theorem dX4_usableLinks_11 : decode cX4_usableLinks 11 = .ok (.getfield 33, 3) := by decide +kernel
theorem dX4_usableLinks_14 : decode cX4_usableLinks 14 = .ok (.if_icmp .ge 35, 3) := by decide +kernel
theorem dX4_usableLinks_17 : decode cX4_usableLinks 17 = .ok (.iload_n 2, 1) := by decide +kernel
theorem dX4_usableLinks_18 : decode cX4_usableLinks 18 = .ok (.iload 4, 2) := by decide +kernel
theorem dX4_usableLinks_20 : decode cX4_usableLinks 20 = .ok (.ishr, 1) := by decide +kernel
theorem dX4_usableLinks_21 : decode cX4_usableLinks 21 = .ok (.iconst 1, 1) := by decide +kernel
theorem dX4_usableLinks_22 : decode cX4_usableLinks 22 = .ok (.iand, 1) := by decide +kernel
theorem dX4_usableLinks_23 : decode cX4_usableLinks 23 = .ok (.ifCond .ne 20, 3) := by decide +kernel
theorem dX4_usableLinks_26 : decode cX4_usableLinks 26 = .ok (.aload_n 0, 1) := by decide +kernel
theorem dX4_usableLinks_27 : decode cX4_usableLinks 27 = .ok (.iload 4, 2) := by decide +kernel
theorem dX4_usableLinks_29 : decode cX4_usableLinks 29 = .ok (.invokevirtual 58, 3) := by decide +kernel
theorem dX4_usableLinks_32 : decode cX4_usableLinks 32 = .ok (.iload_n 1, 1) := by decide +kernel
theorem dX4_usableLinks_33 : decode cX4_usableLinks 33 = .ok (.if_icmp .lt 10, 3) := by decide +kernel
theorem dX4_usableLinks_36 : decode cX4_usableLinks 36 = .ok (.iload_n 3, 1) := by decide +kernel
theorem dX4_usableLinks_37 : decode cX4_usableLinks 37 = .ok (.iconst 1, 1) := by decide +kernel
theorem dX4_usableLinks_38 : decode cX4_usableLinks 38 = .ok (.iload 4, 2) := by decide +kernel
theorem dX4_usableLinks_40 : decode cX4_usableLinks 40 = .ok (.ishl, 1) := by decide +kernel
theorem dX4_usableLinks_41 : decode cX4_usableLinks 41 = .ok (.ior, 1) := by decide +kernel
theorem dX4_usableLinks_42 : decode cX4_usableLinks 42 = .ok (.istore_n 3, 1) := by decide +kernel
theorem dX4_usableLinks_43 : decode cX4_usableLinks 43 = .ok (.iinc 4 1, 3) := by decide +kernel
theorem dX4_usableLinks_46 : decode cX4_usableLinks 46 = .ok (.goto (-41), 3) := by decide +kernel
theorem dX4_usableLinks_49 : decode cX4_usableLinks 49 = .ok (.iload_n 3, 1) := by decide +kernel
theorem dX4_usableLinks_50 : decode cX4_usableLinks 50 = .ok (.ireturn, 1) := by decide +kernel
theorem dX4_freeOn_0 : decode cX4_freeOn 0 = .ok (.aload_n 0, 1) := by decide +kernel
theorem dX4_freeOn_1 : decode cX4_freeOn 1 = .ok (.getfield 12, 3) := by decide +kernel
theorem dX4_freeOn_4 : decode cX4_freeOn 4 = .ok (.iload_n 1, 1) := by decide +kernel
theorem dX4_freeOn_5 : decode cX4_freeOn 5 = .ok (.iconst 2, 1) := by decide +kernel
theorem dX4_freeOn_6 : decode cX4_freeOn 6 = .ok (.invokevirtual 29, 3) := by decide +kernel
theorem dX4_freeOn_9 : decode cX4_freeOn 9 = .ok (.istore_n 2, 1) := by decide +kernel
theorem dX4_freeOn_10 : decode cX4_freeOn 10 = .ok (.iconst 0, 1) := by decide +kernel
theorem dX4_freeOn_11 : decode cX4_freeOn 11 = .ok (.istore_n 3, 1) := by decide +kernel
theorem dX4_freeOn_12 : decode cX4_freeOn 12 = .ok (.iload_n 3, 1) := by decide +kernel
theorem dX4_freeOn_13 : decode cX4_freeOn 13 = .ok (.aload_n 0, 1) := by decide +kernel
theorem dX4_freeOn_14 : decode cX4_freeOn 14 = .ok (.getfield 18, 3) := by decide +kernel
theorem dX4_freeOn_17 : decode cX4_freeOn 17 = .ok (.getfield 33, 3) := by decide +kernel
theorem dX4_freeOn_20 : decode cX4_freeOn 20 = .ok (.if_icmp .ge 34, 3) := by decide +kernel
theorem dX4_freeOn_23 : decode cX4_freeOn 23 = .ok (.aload_n 0, 1) := by decide +kernel
theorem dX4_freeOn_24 : decode cX4_freeOn 24 = .ok (.iload_n 3, 1) := by decide +kernel
theorem dX4_freeOn_25 : decode cX4_freeOn 25 = .ok (.invokevirtual 37, 3) := by decide +kernel
theorem dX4_freeOn_28 : decode cX4_freeOn 28 = .ok (.iload_n 1, 1) := by decide +kernel
theorem dX4_freeOn_29 : decode cX4_freeOn 29 = .ok (.ishr, 1) := by decide +kernel
theorem dX4_freeOn_30 : decode cX4_freeOn 30 = .ok (.iconst 1, 1) := by decide +kernel
theorem dX4_freeOn_31 : decode cX4_freeOn 31 = .ok (.iand, 1) := by decide +kernel
theorem dX4_freeOn_32 : decode cX4_freeOn 32 = .ok (.iconst 1, 1) := by decide +kernel
theorem dX4_freeOn_33 : decode cX4_freeOn 33 = .ok (.if_icmp .ne 15, 3) := by decide +kernel
theorem dX4_freeOn_36 : decode cX4_freeOn 36 = .ok (.iload_n 2, 1) := by decide +kernel
theorem dX4_freeOn_37 : decode cX4_freeOn 37 = .ok (.aload_n 0, 1) := by decide +kernel
theorem dX4_freeOn_38 : decode cX4_freeOn 38 = .ok (.getfield 18, 3) := by decide +kernel
theorem dX4_freeOn_41 : decode cX4_freeOn 41 = .ok (.iload_n 3, 1) := by decide +kernel
theorem dX4_freeOn_42 : decode cX4_freeOn 42 = .ok (.iconst 2, 1) := by decide +kernel
theorem dX4_freeOn_43 : decode cX4_freeOn 43 = .ok (.invokevirtual 29, 3) := by decide +kernel
theorem dX4_freeOn_46 : decode cX4_freeOn 46 = .ok (.isub, 1) := by decide +kernel
theorem dX4_freeOn_47 : decode cX4_freeOn 47 = .ok (.istore_n 2, 1) := by decide +kernel
theorem dX4_freeOn_48 : decode cX4_freeOn 48 = .ok (.iinc 3 1, 3) := by decide +kernel
theorem dX4_freeOn_51 : decode cX4_freeOn 51 = .ok (.goto (-39), 3) := by decide +kernel
theorem dX4_freeOn_54 : decode cX4_freeOn 54 = .ok (.iload_n 2, 1) := by decide +kernel
theorem dX4_freeOn_55 : decode cX4_freeOn 55 = .ok (.ireturn, 1) := by decide +kernel
theorem dX4_countSteps_0 : decode cX4_countSteps 0 = .ok (.aload_n 0, 1) := by decide +kernel
theorem dX4_countSteps_1 : decode cX4_countSteps 1 = .ok (.getfield 21, 3) := by decide +kernel
theorem dX4_countSteps_4 : decode cX4_countSteps 4 = .ok (.iconst 4, 1) := by decide +kernel
theorem dX4_countSteps_5 : decode cX4_countSteps 5 = .ok (.invokestatic 61, 3) := by decide +kernel
theorem dX4_countSteps_8 : decode cX4_countSteps 8 = .ok (.iload_n 1, 1) := by decide +kernel
theorem dX4_countSteps_9 : decode cX4_countSteps 9 = .ok (.ifCond .lt 19, 3) := by decide +kernel
theorem dX4_countSteps_12 : decode cX4_countSteps 12 = .ok (.iload_n 1, 1) := by decide +kernel
theorem dX4_countSteps_13 : decode cX4_countSteps 13 = .ok (.aload_n 0, 1) := by decide +kernel
theorem dX4_countSteps_14 : decode cX4_countSteps 14 = .ok (.getfield 21, 3) := by decide +kernel
theorem dX4_countSteps_17 : decode cX4_countSteps 17 = .ok (.arraylength, 1) := by decide +kernel
theorem dX4_countSteps_18 : decode cX4_countSteps 18 = .ok (.if_icmp .ge 10, 3) := by decide +kernel
theorem dX4_countSteps_21 : decode cX4_countSteps 21 = .ok (.aload_n 0, 1) := by decide +kernel
theorem dX4_countSteps_22 : decode cX4_countSteps 22 = .ok (.getfield 21, 3) := by decide +kernel
theorem dX4_countSteps_25 : decode cX4_countSteps 25 = .ok (.iload_n 1, 1) := by decide +kernel
theorem dX4_countSteps_26 : decode cX4_countSteps 26 = .ok (.iconst 0, 1) := by decide +kernel
theorem dX4_countSteps_27 : decode cX4_countSteps 27 = .ok (.iastore, 1) := by decide +kernel
theorem dX4_countSteps_28 : decode cX4_countSteps 28 = .ok (.iconst 1, 1) := by decide +kernel
theorem dX4_countSteps_29 : decode cX4_countSteps 29 = .ok (.istore_n 3, 1) := by decide +kernel
theorem dX4_countSteps_30 : decode cX4_countSteps 30 = .ok (.iload_n 3, 1) := by decide +kernel
theorem dX4_countSteps_31 : decode cX4_countSteps 31 = .ok (.iconst 4, 1) := by decide +kernel
theorem dX4_countSteps_32 : decode cX4_countSteps 32 = .ok (.if_icmp .ge 88, 3) := by decide +kernel
theorem dX4_countSteps_35 : decode cX4_countSteps 35 = .ok (.iconst 0, 1) := by decide +kernel
theorem dX4_countSteps_36 : decode cX4_countSteps 36 = .ok (.istore 4, 2) := by decide +kernel
theorem dX4_countSteps_38 : decode cX4_countSteps 38 = .ok (.iload 4, 2) := by decide +kernel
theorem dX4_countSteps_40 : decode cX4_countSteps 40 = .ok (.aload_n 0, 1) := by decide +kernel
theorem dX4_countSteps_41 : decode cX4_countSteps 41 = .ok (.getfield 12, 3) := by decide +kernel
theorem dX4_countSteps_44 : decode cX4_countSteps 44 = .ok (.getfield 33, 3) := by decide +kernel
theorem dX4_countSteps_47 : decode cX4_countSteps 47 = .ok (.if_icmp .ge 67, 3) := by decide +kernel
theorem dX4_countSteps_50 : decode cX4_countSteps 50 = .ok (.iload_n 2, 1) := by decide +kernel
theorem dX4_countSteps_51 : decode cX4_countSteps 51 = .ok (.iload 4, 2) := by decide +kernel
theorem dX4_countSteps_53 : decode cX4_countSteps 53 = .ok (.ishr, 1) := by decide +kernel
theorem dX4_countSteps_54 : decode cX4_countSteps 54 = .ok (.iconst 1, 1) := by decide +kernel
theorem dX4_countSteps_55 : decode cX4_countSteps 55 = .ok (.iand, 1) := by decide +kernel
theorem dX4_countSteps_56 : decode cX4_countSteps 56 = .ok (.iconst 1, 1) := by decide +kernel
theorem dX4_countSteps_57 : decode cX4_countSteps 57 = .ok (.if_icmp .ne 51, 3) := by decide +kernel
theorem dX4_countSteps_60 : decode cX4_countSteps 60 = .ok (.aload_n 0, 1) := by decide +kernel
theorem dX4_countSteps_61 : decode cX4_countSteps 61 = .ok (.aload_n 0, 1) := by decide +kernel
theorem dX4_countSteps_62 : decode cX4_countSteps 62 = .ok (.getfield 12, 3) := by decide +kernel
theorem dX4_countSteps_65 : decode cX4_countSteps 65 = .ok (.iload 4, 2) := by decide +kernel
theorem dX4_countSteps_67 : decode cX4_countSteps 67 = .ok (.iconst 0, 1) := by decide +kernel
theorem dX4_countSteps_68 : decode cX4_countSteps 68 = .ok (.invokevirtual 29, 3) := by decide +kernel
theorem dX4_countSteps_71 : decode cX4_countSteps 71 = .ok (.aload_n 0, 1) := by decide +kernel
theorem dX4_countSteps_72 : decode cX4_countSteps 72 = .ok (.getfield 12, 3) := by decide +kernel
theorem dX4_countSteps_75 : decode cX4_countSteps 75 = .ok (.iload 4, 2) := by decide +kernel
theorem dX4_countSteps_77 : decode cX4_countSteps 77 = .ok (.iconst 1, 1) := by decide +kernel
theorem dX4_countSteps_78 : decode cX4_countSteps 78 = .ok (.invokevirtual 29, 3) := by decide +kernel
theorem dX4_countSteps_81 : decode cX4_countSteps 81 = .ok (.invokevirtual 67, 3) := by decide +kernel
theorem dX4_countSteps_84 : decode cX4_countSteps 84 = .ok (.aload_n 0, 1) := by decide +kernel
theorem dX4_countSteps_85 : decode cX4_countSteps 85 = .ok (.aload_n 0, 1) := by decide +kernel
theorem dX4_countSteps_86 : decode cX4_countSteps 86 = .ok (.getfield 12, 3) := by decide +kernel
theorem dX4_countSteps_89 : decode cX4_countSteps 89 = .ok (.iload 4, 2) := by decide +kernel
theorem dX4_countSteps_91 : decode cX4_countSteps 91 = .ok (.iconst 1, 1) := by decide +kernel
theorem dX4_countSteps_92 : decode cX4_countSteps 92 = .ok (.invokevirtual 29, 3) := by decide +kernel
theorem dX4_countSteps_95 : decode cX4_countSteps 95 = .ok (.aload_n 0, 1) := by decide +kernel
theorem dX4_countSteps_96 : decode cX4_countSteps 96 = .ok (.getfield 12, 3) := by decide +kernel
theorem dX4_countSteps_99 : decode cX4_countSteps 99 = .ok (.iload 4, 2) := by decide +kernel
theorem dX4_countSteps_101 : decode cX4_countSteps 101 = .ok (.iconst 0, 1) := by decide +kernel
theorem dX4_countSteps_102 : decode cX4_countSteps 102 = .ok (.invokevirtual 29, 3) := by decide +kernel
theorem dX4_countSteps_105 : decode cX4_countSteps 105 = .ok (.invokevirtual 67, 3) := by decide +kernel
theorem dX4_countSteps_108 : decode cX4_countSteps 108 = .ok (.iinc 4 1, 3) := by decide +kernel
theorem dX4_countSteps_111 : decode cX4_countSteps 111 = .ok (.goto (-73), 3) := by decide +kernel
theorem dX4_countSteps_114 : decode cX4_countSteps 114 = .ok (.iinc 3 1, 3) := by decide +kernel
theorem dX4_countSteps_117 : decode cX4_countSteps 117 = .ok (.goto (-87), 3) := by decide +kernel
theorem dX4_countSteps_120 : decode cX4_countSteps 120 = .ok (.return_, 1) := by decide +kernel
theorem dX4_shorten_0 : decode cX4_shorten 0 = .ok (.iload_n 1, 1) := by decide +kernel
theorem dX4_shorten_1 : decode cX4_shorten 1 = .ok (.ifCond .lt 41, 3) := by decide +kernel
theorem dX4_shorten_4 : decode cX4_shorten 4 = .ok (.iload_n 1, 1) := by decide +kernel
theorem dX4_shorten_5 : decode cX4_shorten 5 = .ok (.aload_n 0, 1) := by decide +kernel
theorem dX4_shorten_6 : decode cX4_shorten 6 = .ok (.getfield 21, 3) := by decide +kernel
theorem dX4_shorten_9 : decode cX4_shorten 9 = .ok (.arraylength, 1) := by decide +kernel
theorem dX4_shorten_10 : decode cX4_shorten 10 = .ok (.if_icmp .ge 32, 3) := by decide +kernel
theorem dX4_shorten_13 : decode cX4_shorten 13 = .ok (.aload_n 0, 1) := by decide +kernel
theorem dX4_shorten_14 : decode cX4_shorten 14 = .ok (.iload_n 2, 1) := by decide +kernel
theorem dX4_shorten_15 : decode cX4_shorten 15 = .ok (.invokevirtual 70, 3) := by decide +kernel
theorem dX4_shorten_18 : decode cX4_shorten 18 = .ok (.iconst 1, 1) := by decide +kernel
theorem dX4_shorten_19 : decode cX4_shorten 19 = .ok (.iadd, 1) := by decide +kernel
theorem dX4_shorten_20 : decode cX4_shorten 20 = .ok (.aload_n 0, 1) := by decide +kernel
theorem dX4_shorten_21 : decode cX4_shorten 21 = .ok (.getfield 21, 3) := by decide +kernel
theorem dX4_shorten_24 : decode cX4_shorten 24 = .ok (.iload_n 1, 1) := by decide +kernel
theorem dX4_shorten_25 : decode cX4_shorten 25 = .ok (.iaload, 1) := by decide +kernel
theorem dX4_shorten_26 : decode cX4_shorten 26 = .ok (.if_icmp .ge 16, 3) := by decide +kernel
theorem dX4_shorten_29 : decode cX4_shorten 29 = .ok (.aload_n 0, 1) := by decide +kernel
theorem dX4_shorten_30 : decode cX4_shorten 30 = .ok (.getfield 21, 3) := by decide +kernel
theorem dX4_shorten_33 : decode cX4_shorten 33 = .ok (.iload_n 1, 1) := by decide +kernel
theorem dX4_shorten_34 : decode cX4_shorten 34 = .ok (.aload_n 0, 1) := by decide +kernel
theorem dX4_shorten_35 : decode cX4_shorten 35 = .ok (.iload_n 2, 1) := by decide +kernel
theorem dX4_shorten_36 : decode cX4_shorten 36 = .ok (.invokevirtual 70, 3) := by decide +kernel
theorem dX4_shorten_39 : decode cX4_shorten 39 = .ok (.iconst 1, 1) := by decide +kernel
theorem dX4_shorten_40 : decode cX4_shorten 40 = .ok (.iadd, 1) := by decide +kernel
theorem dX4_shorten_41 : decode cX4_shorten 41 = .ok (.iastore, 1) := by decide +kernel
theorem dX4_shorten_42 : decode cX4_shorten 42 = .ok (.return_, 1) := by decide +kernel
theorem dX4_stepsFrom_0 : decode cX4_stepsFrom 0 = .ok (.iload_n 1, 1) := by decide +kernel
theorem dX4_stepsFrom_1 : decode cX4_stepsFrom 1 = .ok (.ifCond .lt 21, 3) := by decide +kernel
theorem dX4_stepsFrom_4 : decode cX4_stepsFrom 4 = .ok (.iload_n 1, 1) := by decide +kernel
theorem dX4_stepsFrom_5 : decode cX4_stepsFrom 5 = .ok (.aload_n 0, 1) := by decide +kernel
theorem dX4_stepsFrom_6 : decode cX4_stepsFrom 6 = .ok (.getfield 21, 3) := by decide +kernel
theorem dX4_stepsFrom_9 : decode cX4_stepsFrom 9 = .ok (.arraylength, 1) := by decide +kernel
theorem dX4_stepsFrom_10 : decode cX4_stepsFrom 10 = .ok (.if_icmp .ge 12, 3) := by decide +kernel
theorem dX4_stepsFrom_13 : decode cX4_stepsFrom 13 = .ok (.aload_n 0, 1) := by decide +kernel
theorem dX4_stepsFrom_14 : decode cX4_stepsFrom 14 = .ok (.getfield 21, 3) := by decide +kernel
theorem dX4_stepsFrom_17 : decode cX4_stepsFrom 17 = .ok (.iload_n 1, 1) := by decide +kernel
theorem dX4_stepsFrom_18 : decode cX4_stepsFrom 18 = .ok (.iaload, 1) := by decide +kernel
theorem dX4_stepsFrom_19 : decode cX4_stepsFrom 19 = .ok (.goto 4, 3) := by decide +kernel
theorem dX4_stepsFrom_22 : decode cX4_stepsFrom 22 = .ok (.iconst 4, 1) := by decide +kernel
theorem dX4_stepsFrom_23 : decode cX4_stepsFrom 23 = .ok (.ireturn, 1) := by decide +kernel
theorem dX4_bestWay_0 : decode cX4_bestWay 0 = .ok (.iconst 0, 1) := by decide +kernel
theorem dX4_bestWay_1 : decode cX4_bestWay 1 = .ok (.istore_n 3, 1) := by decide +kernel
theorem dX4_bestWay_2 : decode cX4_bestWay 2 = .ok (.iload_n 1, 1) := by decide +kernel
theorem dX4_bestWay_3 : decode cX4_bestWay 3 = .ok (.istore 4, 2) := by decide +kernel
theorem dX4_bestWay_5 : decode cX4_bestWay 5 = .ok (.aload_n 0, 1) := by decide +kernel
theorem dX4_bestWay_6 : decode cX4_bestWay 6 = .ok (.iload_n 1, 1) := by decide +kernel
theorem dX4_bestWay_7 : decode cX4_bestWay 7 = .ok (.invokevirtual 70, 3) := by decide +kernel
theorem dX4_bestWay_10 : decode cX4_bestWay 10 = .ok (.istore 5, 2) := by decide +kernel
theorem dX4_bestWay_12 : decode cX4_bestWay 12 = .ok (.iload 5, 2) := by decide +kernel
theorem dX4_bestWay_14 : decode cX4_bestWay 14 = .ok (.ifCond .le 99, 3) := by decide +kernel
theorem dX4_bestWay_17 : decode cX4_bestWay 17 = .ok (.iload 5, 2) := by decide +kernel
theorem dX4_bestWay_19 : decode cX4_bestWay 19 = .ok (.iconst 4, 1) := by decide +kernel
theorem dX4_bestWay_20 : decode cX4_bestWay 20 = .ok (.if_icmp .ge 93, 3) := by decide +kernel
theorem dX4_bestWay_23 : decode cX4_bestWay 23 = .ok (.iconst (-1), 1) := by decide +kernel
theorem dX4_bestWay_24 : decode cX4_bestWay 24 = .ok (.istore 6, 2) := by decide +kernel
theorem dX4_bestWay_26 : decode cX4_bestWay 26 = .ok (.iconst 0, 1) := by decide +kernel
theorem dX4_bestWay_27 : decode cX4_bestWay 27 = .ok (.istore 7, 2) := by decide +kernel
theorem dX4_bestWay_29 : decode cX4_bestWay 29 = .ok (.iload 7, 2) := by decide +kernel
theorem dX4_bestWay_31 : decode cX4_bestWay 31 = .ok (.aload_n 0, 1) := by decide +kernel
theorem dX4_bestWay_32 : decode cX4_bestWay 32 = .ok (.getfield 12, 3) := by decide +kernel
theorem dX4_bestWay_35 : decode cX4_bestWay 35 = .ok (.getfield 33, 3) := by decide +kernel
theorem dX4_bestWay_38 : decode cX4_bestWay 38 = .ok (.if_icmp .ge 65, 3) := by decide +kernel
theorem dX4_bestWay_41 : decode cX4_bestWay 41 = .ok (.iload 6, 2) := by decide +kernel
theorem dX4_bestWay_43 : decode cX4_bestWay 43 = .ok (.iconst (-1), 1) := by decide +kernel
theorem dX4_bestWay_44 : decode cX4_bestWay 44 = .ok (.if_icmp .ne 59, 3) := by decide +kernel
theorem dX4_bestWay_47 : decode cX4_bestWay 47 = .ok (.aload_n 0, 1) := by decide +kernel
theorem dX4_bestWay_48 : decode cX4_bestWay 48 = .ok (.iload 7, 2) := by decide +kernel
theorem dX4_bestWay_50 : decode cX4_bestWay 50 = .ok (.iload 4, 2) := by decide +kernel
theorem dX4_bestWay_52 : decode cX4_bestWay 52 = .ok (.invokevirtual 73, 3) := by decide +kernel
theorem dX4_bestWay_55 : decode cX4_bestWay 55 = .ok (.istore 8, 2) := by decide +kernel
theorem dX4_bestWay_57 : decode cX4_bestWay 57 = .ok (.iload_n 2, 1) := by decide +kernel
theorem dX4_bestWay_58 : decode cX4_bestWay 58 = .ok (.iload 7, 2) := by decide +kernel
theorem dX4_bestWay_60 : decode cX4_bestWay 60 = .ok (.ishr, 1) := by decide +kernel
theorem dX4_bestWay_61 : decode cX4_bestWay 61 = .ok (.iconst 1, 1) := by decide +kernel
theorem dX4_bestWay_62 : decode cX4_bestWay 62 = .ok (.iand, 1) := by decide +kernel
theorem dX4_bestWay_63 : decode cX4_bestWay 63 = .ok (.iconst 1, 1) := by decide +kernel
theorem dX4_bestWay_64 : decode cX4_bestWay 64 = .ok (.if_icmp .ne 33, 3) := by decide +kernel
theorem dX4_bestWay_67 : decode cX4_bestWay 67 = .ok (.iload 8, 2) := by decide +kernel
theorem dX4_bestWay_69 : decode cX4_bestWay 69 = .ok (.iconst (-1), 1) := by decide +kernel
theorem dX4_bestWay_70 : decode cX4_bestWay 70 = .ok (.if_icmp .eq 27, 3) := by decide +kernel
theorem dX4_bestWay_73 : decode cX4_bestWay 73 = .ok (.aload_n 0, 1) := by decide +kernel
theorem dX4_bestWay_74 : decode cX4_bestWay 74 = .ok (.iload 8, 2) := by decide +kernel
theorem dX4_bestWay_76 : decode cX4_bestWay 76 = .ok (.invokevirtual 70, 3) := by decide +kernel
theorem dX4_bestWay_79 : decode cX4_bestWay 79 = .ok (.iload 5, 2) := by decide +kernel
theorem dX4_bestWay_81 : decode cX4_bestWay 81 = .ok (.iconst 1, 1) := by decide +kernel
theorem dX4_bestWay_82 : decode cX4_bestWay 82 = .ok (.isub, 1) := by decide +kernel
theorem dX4_bestWay_83 : decode cX4_bestWay 83 = .ok (.if_icmp .ne 14, 3) := by decide +kernel
theorem dX4_bestWay_86 : decode cX4_bestWay 86 = .ok (.iload 8, 2) := by decide +kernel
theorem dX4_bestWay_88 : decode cX4_bestWay 88 = .ok (.istore 6, 2) := by decide +kernel
theorem dX4_bestWay_90 : decode cX4_bestWay 90 = .ok (.iload_n 3, 1) := by decide +kernel
theorem dX4_bestWay_91 : decode cX4_bestWay 91 = .ok (.iconst 1, 1) := by decide +kernel
theorem dX4_bestWay_92 : decode cX4_bestWay 92 = .ok (.iload 7, 2) := by decide +kernel
theorem dX4_bestWay_94 : decode cX4_bestWay 94 = .ok (.ishl, 1) := by decide +kernel
theorem dX4_bestWay_95 : decode cX4_bestWay 95 = .ok (.ior, 1) := by decide +kernel
theorem dX4_bestWay_96 : decode cX4_bestWay 96 = .ok (.istore_n 3, 1) := by decide +kernel
theorem dX4_bestWay_97 : decode cX4_bestWay 97 = .ok (.iinc 7 1, 3) := by decide +kernel
theorem dX4_bestWay_100 : decode cX4_bestWay 100 = .ok (.goto (-71), 3) := by decide +kernel
theorem dX4_bestWay_103 : decode cX4_bestWay 103 = .ok (.iload 6, 2) := by decide +kernel
theorem dX4_bestWay_105 : decode cX4_bestWay 105 = .ok (.istore 4, 2) := by decide +kernel
theorem dX4_bestWay_107 : decode cX4_bestWay 107 = .ok (.iinc 5 (-1), 3) := by decide +kernel
theorem dX4_bestWay_110 : decode cX4_bestWay 110 = .ok (.goto (-98), 3) := by decide +kernel
theorem dX4_bestWay_113 : decode cX4_bestWay 113 = .ok (.iload_n 3, 1) := by decide +kernel
theorem dX4_bestWay_114 : decode cX4_bestWay 114 = .ok (.ireturn, 1) := by decide +kernel
theorem dX4_otherEnd_0 : decode cX4_otherEnd 0 = .ok (.aload_n 0, 1) := by decide +kernel
theorem dX4_otherEnd_1 : decode cX4_otherEnd 1 = .ok (.getfield 12, 3) := by decide +kernel
theorem dX4_otherEnd_4 : decode cX4_otherEnd 4 = .ok (.iload_n 1, 1) := by decide +kernel
theorem dX4_otherEnd_5 : decode cX4_otherEnd 5 = .ok (.iconst 0, 1) := by decide +kernel
theorem dX4_otherEnd_6 : decode cX4_otherEnd 6 = .ok (.invokevirtual 29, 3) := by decide +kernel
theorem dX4_otherEnd_9 : decode cX4_otherEnd 9 = .ok (.iload_n 2, 1) := by decide +kernel
theorem dX4_otherEnd_10 : decode cX4_otherEnd 10 = .ok (.if_icmp .ne 13, 3) := by decide +kernel
theorem dX4_otherEnd_13 : decode cX4_otherEnd 13 = .ok (.aload_n 0, 1) := by decide +kernel
theorem dX4_otherEnd_14 : decode cX4_otherEnd 14 = .ok (.getfield 12, 3) := by decide +kernel
theorem dX4_otherEnd_17 : decode cX4_otherEnd 17 = .ok (.iload_n 1, 1) := by decide +kernel
theorem dX4_otherEnd_18 : decode cX4_otherEnd 18 = .ok (.iconst 1, 1) := by decide +kernel
theorem dX4_otherEnd_19 : decode cX4_otherEnd 19 = .ok (.invokevirtual 29, 3) := by decide +kernel
theorem dX4_otherEnd_22 : decode cX4_otherEnd 22 = .ok (.ireturn, 1) := by decide +kernel
theorem dX4_otherEnd_23 : decode cX4_otherEnd 23 = .ok (.aload_n 0, 1) := by decide +kernel
theorem dX4_otherEnd_24 : decode cX4_otherEnd 24 = .ok (.getfield 12, 3) := by decide +kernel
theorem dX4_otherEnd_27 : decode cX4_otherEnd 27 = .ok (.iload_n 1, 1) := by decide +kernel
theorem dX4_otherEnd_28 : decode cX4_otherEnd 28 = .ok (.iconst 1, 1) := by decide +kernel
theorem dX4_otherEnd_29 : decode cX4_otherEnd 29 = .ok (.invokevirtual 29, 3) := by decide +kernel
theorem dX4_otherEnd_32 : decode cX4_otherEnd 32 = .ok (.iload_n 2, 1) := by decide +kernel
theorem dX4_otherEnd_33 : decode cX4_otherEnd 33 = .ok (.if_icmp .ne 15, 3) := by decide +kernel
theorem dX4_otherEnd_36 : decode cX4_otherEnd 36 = .ok (.aload_n 0, 1) := by decide +kernel
theorem dX4_otherEnd_37 : decode cX4_otherEnd 37 = .ok (.getfield 12, 3) := by decide +kernel
theorem dX4_otherEnd_40 : decode cX4_otherEnd 40 = .ok (.iload_n 1, 1) := by decide +kernel
theorem dX4_otherEnd_41 : decode cX4_otherEnd 41 = .ok (.iconst 0, 1) := by decide +kernel
theorem dX4_otherEnd_42 : decode cX4_otherEnd 42 = .ok (.invokevirtual 29, 3) := by decide +kernel
theorem dX4_otherEnd_45 : decode cX4_otherEnd 45 = .ok (.goto 4, 3) := by decide +kernel
theorem dX4_otherEnd_48 : decode cX4_otherEnd 48 = .ok (.iconst (-1), 1) := by decide +kernel
theorem dX4_otherEnd_49 : decode cX4_otherEnd 49 = .ok (.ireturn, 1) := by decide +kernel
