theorem dX5_init_0 : decode cX5_init 0 = .ok (.aload_n 0, 1) := by decide +kernel
theorem dX5_init_1 : decode cX5_init 1 = .ok (.invokespecial 3, 3) := by decide +kernel
theorem dX5_init_4 : decode cX5_init 4 = .ok (.aload_n 0, 1) := by decide +kernel
theorem dX5_init_5 : decode cX5_init 5 = .ok (.new 9, 3) := by decide +kernel
theorem dX5_init_8 : decode cX5_init 8 = .ok (.dup, 1) := by decide +kernel
theorem dX5_init_9 : decode cX5_init 9 = .ok (.invokespecial 11, 3) := by decide +kernel
theorem dX5_init_12 : decode cX5_init 12 = .ok (.putfield 12, 3) := by decide +kernel
theorem dX5_init_15 : decode cX5_init 15 = .ok (.aload_n 0, 1) := by decide +kernel
theorem dX5_init_16 : decode cX5_init 16 = .ok (.new 18, 3) := by decide +kernel
theorem dX5_init_19 : decode cX5_init 19 = .ok (.dup, 1) := by decide +kernel
theorem dX5_init_20 : decode cX5_init 20 = .ok (.invokespecial 20, 3) := by decide +kernel
theorem dX5_init_23 : decode cX5_init 23 = .ok (.putfield 21, 3) := by decide +kernel
theorem dX5_init_26 : decode cX5_init 26 = .ok (.aload_n 0, 1) := by decide +kernel
theorem dX5_init_27 : decode cX5_init 27 = .ok (.bipush 100, 2) := by decide +kernel
theorem dX5_init_29 : decode cX5_init 29 = .ok (.newarray .int, 2) := by decide +kernel
theorem dX5_init_31 : decode cX5_init 31 = .ok (.putfield 25, 3) := by decide +kernel
theorem dX5_init_34 : decode cX5_init 34 = .ok (.return_, 1) := by decide +kernel
theorem dX5_beginOf_0 : decode cX5_beginOf 0 = .ok (.iconst 0, 1) := by decide +kernel
theorem dX5_beginOf_1 : decode cX5_beginOf 1 = .ok (.istore_n 2, 1) := by decide +kernel
theorem dX5_beginOf_2 : decode cX5_beginOf 2 = .ok (.iconst 0, 1) := by decide +kernel
theorem dX5_beginOf_3 : decode cX5_beginOf 3 = .ok (.istore_n 3, 1) := by decide +kernel
theorem dX5_beginOf_4 : decode cX5_beginOf 4 = .ok (.iload_n 3, 1) := by decide +kernel
theorem dX5_beginOf_5 : decode cX5_beginOf 5 = .ok (.iload_n 1, 1) := by decide +kernel
theorem dX5_beginOf_6 : decode cX5_beginOf 6 = .ok (.if_icmp .ge 25, 3) := by decide +kernel
theorem dX5_beginOf_9 : decode cX5_beginOf 9 = .ok (.iload_n 3, 1) := by decide +kernel
theorem dX5_beginOf_10 : decode cX5_beginOf 10 = .ok (.aload_n 0, 1) := by decide +kernel
theorem dX5_beginOf_11 : decode cX5_beginOf 11 = .ok (.getfield 29, 3) := by decide +kernel
theorem dX5_beginOf_14 : decode cX5_beginOf 14 = .ok (.if_icmp .ge 17, 3) := by decide +kernel
theorem dX5_beginOf_17 : decode cX5_beginOf 17 = .ok (.iload_n 2, 1) := by decide +kernel
theorem dX5_beginOf_18 : decode cX5_beginOf 18 = .ok (.aload_n 0, 1) := by decide +kernel
theorem dX5_beginOf_19 : decode cX5_beginOf 19 = .ok (.iload_n 3, 1) := by decide +kernel
theorem dX5_beginOf_20 : decode cX5_beginOf 20 = .ok (.invokevirtual 33, 3) := by decide +kernel
theorem dX5_beginOf_23 : decode cX5_beginOf 23 = .ok (.iadd, 1) := by decide +kernel
theorem dX5_beginOf_24 : decode cX5_beginOf 24 = .ok (.istore_n 2, 1) := by decide +kernel
theorem dX5_beginOf_25 : decode cX5_beginOf 25 = .ok (.iinc 3 1, 3) := by decide +kernel
theorem dX5_beginOf_28 : decode cX5_beginOf 28 = .ok (.goto (-24), 3) := by decide +kernel
theorem dX5_beginOf_31 : decode cX5_beginOf 31 = .ok (.iload_n 2, 1) := by decide +kernel
theorem dX5_beginOf_32 : decode cX5_beginOf 32 = .ok (.ireturn, 1) := by decide +kernel
theorem dX5_metresIn_0 : decode cX5_metresIn 0 = .ok (.iload_n 1, 1) := by decide +kernel
theorem dX5_metresIn_1 : decode cX5_metresIn 1 = .ok (.invokestatic 37, 3) := by decide +kernel
theorem dX5_metresIn_4 : decode cX5_metresIn 4 = .ok (.ifCond .eq 12, 3) := by decide +kernel
theorem dX5_metresIn_7 : decode cX5_metresIn 7 = .ok (.aload_n 0, 1) := by decide +kernel
theorem dX5_metresIn_8 : decode cX5_metresIn 8 = .ok (.getfield 25, 3) := by decide +kernel
theorem dX5_metresIn_11 : decode cX5_metresIn 11 = .ok (.iload_n 1, 1) := by decide +kernel
theorem dX5_metresIn_12 : decode cX5_metresIn 12 = .ok (.iaload, 1) := by decide +kernel
theorem dX5_metresIn_13 : decode cX5_metresIn 13 = .ok (.goto 4, 3) := by decide +kernel
theorem dX5_metresIn_16 : decode cX5_metresIn 16 = .ok (.iconst 0, 1) := by decide +kernel
theorem dX5_metresIn_17 : decode cX5_metresIn 17 = .ok (.ireturn, 1) := by decide +kernel
theorem dX5_endCell_0 : decode cX5_endCell 0 = .ok (.aload_n 0, 1) := by decide +kernel
theorem dX5_endCell_1 : decode cX5_endCell 1 = .ok (.getfield 29, 3) := by decide +kernel
theorem dX5_endCell_4 : decode cX5_endCell 4 = .ok (.invokestatic 37, 3) := by decide +kernel
theorem dX5_endCell_7 : decode cX5_endCell 7 = .ok (.ifCond .eq 23, 3) := by decide +kernel
theorem dX5_endCell_10 : decode cX5_endCell 10 = .ok (.aload_n 0, 1) := by decide +kernel
theorem dX5_endCell_11 : decode cX5_endCell 11 = .ok (.getfield 25, 3) := by decide +kernel
theorem dX5_endCell_14 : decode cX5_endCell 14 = .ok (.aload_n 0, 1) := by decide +kernel
theorem dX5_endCell_15 : decode cX5_endCell 15 = .ok (.getfield 29, 3) := by decide +kernel
theorem dX5_endCell_18 : decode cX5_endCell 18 = .ok (.iload_n 1, 1) := by decide +kernel
theorem dX5_endCell_19 : decode cX5_endCell 19 = .ok (.iastore, 1) := by decide +kernel
theorem dX5_endCell_20 : decode cX5_endCell 20 = .ok (.aload_n 0, 1) := by decide +kernel
theorem dX5_endCell_21 : decode cX5_endCell 21 = .ok (.dup, 1) := by decide +kernel
theorem dX5_endCell_22 : decode cX5_endCell 22 = .ok (.getfield 29, 3) := by decide +kernel
theorem dX5_endCell_25 : decode cX5_endCell 25 = .ok (.iconst 1, 1) := by decide +kernel
theorem dX5_endCell_26 : decode cX5_endCell 26 = .ok (.iadd, 1) := by decide +kernel
theorem dX5_endCell_27 : decode cX5_endCell 27 = .ok (.putfield 29, 3) := by decide +kernel
theorem dX5_endCell_30 : decode cX5_endCell 30 = .ok (.return_, 1) := by decide +kernel
theorem dX5_lastKind_0 : decode cX5_lastKind 0 = .ok (.aload_n 0, 1) := by decide +kernel
theorem dX5_lastKind_1 : decode cX5_lastKind 1 = .ok (.getfield 12, 3) := by decide +kernel
theorem dX5_lastKind_4 : decode cX5_lastKind 4 = .ok (.aload_n 0, 1) := by decide +kernel
theorem dX5_lastKind_5 : decode cX5_lastKind 5 = .ok (.getfield 12, 3) := by decide +kernel
theorem dX5_lastKind_8 : decode cX5_lastKind 8 = .ok (.getfield 41, 3) := by decide +kernel
theorem dX5_lastKind_11 : decode cX5_lastKind 11 = .ok (.iconst 1, 1) := by decide +kernel
theorem dX5_lastKind_12 : decode cX5_lastKind 12 = .ok (.isub, 1) := by decide +kernel
theorem dX5_lastKind_13 : decode cX5_lastKind 13 = .ok (.iconst 0, 1) := by decide +kernel
theorem dX5_lastKind_14 : decode cX5_lastKind 14 = .ok (.invokevirtual 44, 3) := by decide +kernel
theorem dX5_lastKind_17 : decode cX5_lastKind 17 = .ok (.ireturn, 1) := by decide +kernel
theorem dX5_count_0 : decode cX5_count 0 = .ok (.iconst 0, 1) := by decide +kernel
theorem dX5_count_1 : decode cX5_count 1 = .ok (.istore_n 2, 1) := by decide +kernel
theorem dX5_count_2 : decode cX5_count 2 = .ok (.iconst 0, 1) := by decide +kernel
theorem dX5_count_3 : decode cX5_count 3 = .ok (.istore_n 3, 1) := by decide +kernel
theorem dX5_count_4 : decode cX5_count 4 = .ok (.iload_n 3, 1) := by decide +kernel
theorem dX5_count_5 : decode cX5_count 5 = .ok (.aload_n 0, 1) := by decide +kernel
theorem dX5_count_6 : decode cX5_count 6 = .ok (.getfield 12, 3) := by decide +kernel
theorem dX5_count_9 : decode cX5_count 9 = .ok (.getfield 41, 3) := by decide +kernel
theorem dX5_count_12 : decode cX5_count 12 = .ok (.if_icmp .ge 25, 3) := by decide +kernel
theorem dX5_count_15 : decode cX5_count 15 = .ok (.aload_n 0, 1) := by decide +kernel
theorem dX5_count_16 : decode cX5_count 16 = .ok (.getfield 12, 3) := by decide +kernel
theorem dX5_count_19 : decode cX5_count 19 = .ok (.iload_n 3, 1) := by decide +kernel
theorem dX5_count_20 : decode cX5_count 20 = .ok (.iconst 0, 1) := by decide +kernel
theorem dX5_count_21 : decode cX5_count 21 = .ok (.invokevirtual 44, 3) := by decide +kernel
theorem dX5_count_24 : decode cX5_count 24 = .ok (.iload_n 1, 1) := by decide +kernel
theorem dX5_count_25 : decode cX5_count 25 = .ok (.if_icmp .ne 6, 3) := by decide +kernel
theorem dX5_count_28 : decode cX5_count 28 = .ok (.iinc 2 1, 3) := by decide +kernel
theorem dX5_count_31 : decode cX5_count 31 = .ok (.iinc 3 1, 3) := by decide +kernel
theorem dX5_count_34 : decode cX5_count 34 = .ok (.goto (-30), 3) := by decide +kernel
theorem dX5_count_37 : decode cX5_count 37 = .ok (.iload_n 2, 1) := by decide +kernel
theorem dX5_count_38 : decode cX5_count 38 = .ok (.ireturn, 1) := by decide +kernel
theorem dX5_addBare_0 : decode cX5_addBare 0 = .ok (.aload_n 0, 1) := by decide +kernel
theorem dX5_addBare_1 : decode cX5_addBare 1 = .ok (.getfield 12, 3) := by decide +kernel
theorem dX5_addBare_4 : decode cX5_addBare 4 = .ok (.iload_n 1, 1) := by decide +kernel
theorem dX5_addBare_5 : decode cX5_addBare 5 = .ok (.iconst (-1), 1) := by decide +kernel
theorem dX5_addBare_6 : decode cX5_addBare 6 = .ok (.iconst (-1), 1) := by decide +kernel
theorem dX5_addBare_7 : decode cX5_addBare 7 = .ok (.iconst 0, 1) := by decide +kernel
theorem dX5_addBare_8 : decode cX5_addBare 8 = .ok (.invokevirtual 48, 3) := by decide +kernel
theorem dX5_addBare_11 : decode cX5_addBare 11 = .ok (.return_, 1) := by decide +kernel
theorem dX5_append_0 : decode cX5_append 0 = .ok (.aload_n 0, 1) := by decide +kernel
theorem dX5_append_1 : decode cX5_append 1 = .ok (.getfield 21, 3) := by decide +kernel
theorem dX5_append_4 : decode cX5_append 4 = .ok (.aload_n 0, 1) := by decide +kernel
theorem dX5_append_5 : decode cX5_append 5 = .ok (.getfield 52, 3) := by decide +kernel
theorem dX5_append_8 : decode cX5_append 8 = .ok (.iload_n 1, 1) := by decide +kernel
theorem dX5_append_9 : decode cX5_append 9 = .ok (.iload_n 2, 1) := by decide +kernel
theorem dX5_append_10 : decode cX5_append 10 = .ok (.iload_n 3, 1) := by decide +kernel
theorem dX5_append_11 : decode cX5_append 11 = .ok (.invokevirtual 55, 3) := by decide +kernel
theorem dX5_append_14 : decode cX5_append 14 = .ok (.aload_n 0, 1) := by decide +kernel
theorem dX5_append_15 : decode cX5_append 15 = .ok (.dup, 1) := by decide +kernel
theorem dX5_append_16 : decode cX5_append 16 = .ok (.getfield 52, 3) := by decide +kernel
theorem dX5_append_19 : decode cX5_append 19 = .ok (.iload_n 3, 1) := by decide +kernel
theorem dX5_append_20 : decode cX5_append 20 = .ok (.iadd, 1) := by decide +kernel
theorem dX5_append_21 : decode cX5_append 21 = .ok (.putfield 52, 3) := by decide +kernel
theorem dX5_append_24 : decode cX5_append 24 = .ok (.aload_n 0, 1) := by decide +kernel
theorem dX5_append_25 : decode cX5_append 25 = .ok (.getfield 12, 3) := by decide +kernel
theorem dX5_append_28 : decode cX5_append 28 = .ok (.getfield 41, 3) := by decide +kernel
theorem dX5_append_31 : decode cX5_append 31 = .ok (.iconst 1, 1) := by decide +kernel
theorem dX5_append_32 : decode cX5_append 32 = .ok (.isub, 1) := by decide +kernel
theorem dX5_append_33 : decode cX5_append 33 = .ok (.istore 4, 2) := by decide +kernel
theorem dX5_append_35 : decode cX5_append 35 = .ok (.aload_n 0, 1) := by decide +kernel
theorem dX5_append_36 : decode cX5_append 36 = .ok (.invokevirtual 58, 3) := by decide +kernel
theorem dX5_append_39 : decode cX5_append 39 = .ok (.ifCond .ne 7, 3) := by decide +kernel
theorem dX5_append_42 : decode cX5_append 42 = .ok (.iconst 1, 1) := by decide +kernel
theorem dX5_append_43 : decode cX5_append 43 = .ok (.goto 4, 3) := by decide +kernel
theorem dX5_append_46 : decode cX5_append 46 = .ok (.iconst 0, 1) := by decide +kernel
theorem dX5_append_47 : decode cX5_append 47 = .ok (.istore 5, 2) := by decide +kernel
theorem dX5_append_49 : decode cX5_append 49 = .ok (.iload 5, 2) := by decide +kernel
theorem dX5_append_51 : decode cX5_append 51 = .ok (.ifCond .eq 37, 3) := by decide +kernel
theorem dX5_append_54 : decode cX5_append 54 = .ok (.aload_n 0, 1) := by decide +kernel
theorem dX5_append_55 : decode cX5_append 55 = .ok (.iload 4, 2) := by decide +kernel
theorem dX5_append_57 : decode cX5_append 57 = .ok (.iload_n 1, 1) := by decide +kernel
theorem dX5_append_58 : decode cX5_append 58 = .ok (.iload_n 2, 1) := by decide +kernel
theorem dX5_append_59 : decode cX5_append 59 = .ok (.invokevirtual 62, 3) := by decide +kernel
theorem dX5_append_62 : decode cX5_append 62 = .ok (.ifCond .eq 26, 3) := by decide +kernel
theorem dX5_append_65 : decode cX5_append 65 = .ok (.aload_n 0, 1) := by decide +kernel
theorem dX5_append_66 : decode cX5_append 66 = .ok (.getfield 12, 3) := by decide +kernel
theorem dX5_append_69 : decode cX5_append 69 = .ok (.iload 4, 2) := by decide +kernel
theorem dX5_append_71 : decode cX5_append 71 = .ok (.iconst 3, 1) := by decide +kernel
theorem dX5_append_72 : decode cX5_append 72 = .ok (.aload_n 0, 1) := by decide +kernel
theorem dX5_append_73 : decode cX5_append 73 = .ok (.getfield 12, 3) := by decide +kernel
theorem dX5_append_76 : decode cX5_append 76 = .ok (.iload 4, 2) := by decide +kernel
theorem dX5_append_78 : decode cX5_append 78 = .ok (.iconst 3, 1) := by decide +kernel
theorem dX5_append_79 : decode cX5_append 79 = .ok (.invokevirtual 44, 3) := by decide +kernel
theorem dX5_append_82 : decode cX5_append 82 = .ok (.iload_n 3, 1) := by decide +kernel
theorem dX5_append_83 : decode cX5_append 83 = .ok (.iadd, 1) := by decide +kernel
theorem dX5_append_84 : decode cX5_append 84 = .ok (.invokevirtual 66, 3) := by decide +kernel
theorem dX5_append_87 : decode cX5_append 87 = .ok (.return_, 1) := by decide +kernel
theorem dX5_append_88 : decode cX5_append 88 = .ok (.iload 5, 2) := by decide +kernel
theorem dX5_append_90 : decode cX5_append 90 = .ok (.ifCond .eq 8, 3) := by decide +kernel
theorem dX5_append_93 : decode cX5_append 93 = .ok (.aload_n 0, 1) := by decide +kernel
theorem dX5_append_94 : decode cX5_append 94 = .ok (.iconst 1, 1) := by decide +kernel
theorem dX5_append_95 : decode cX5_append 95 = .ok (.invokevirtual 70, 3) := by decide +kernel
theorem dX5_append_98 : decode cX5_append 98 = .ok (.aload_n 0, 1) := by decide +kernel
theorem dX5_append_99 : decode cX5_append 99 = .ok (.getfield 12, 3) := by decide +kernel
theorem dX5_append_102 : decode cX5_append 102 = .ok (.iconst 0, 1) := by decide +kernel
theorem dX5_append_103 : decode cX5_append 103 = .ok (.iload_n 1, 1) := by decide +kernel
theorem dX5_append_104 : decode cX5_append 104 = .ok (.iload_n 2, 1) := by decide +kernel
theorem dX5_append_105 : decode cX5_append 105 = .ok (.iload_n 3, 1) := by decide +kernel
theorem dX5_append_106 : decode cX5_append 106 = .ok (.invokevirtual 48, 3) := by decide +kernel
theorem dX5_append_109 : decode cX5_append 109 = .ok (.return_, 1) := by decide +kernel
theorem dX5_goesOn_0 : decode cX5_goesOn 0 = .ok (.aload_n 0, 1) := by decide +kernel
theorem dX5_goesOn_1 : decode cX5_goesOn 1 = .ok (.getfield 12, 3) := by decide +kernel
theorem dX5_goesOn_4 : decode cX5_goesOn 4 = .ok (.iload_n 1, 1) := by decide +kernel
theorem dX5_goesOn_5 : decode cX5_goesOn 5 = .ok (.iconst 1, 1) := by decide +kernel
theorem dX5_goesOn_6 : decode cX5_goesOn 6 = .ok (.invokevirtual 44, 3) := by decide +kernel
theorem dX5_goesOn_9 : decode cX5_goesOn 9 = .ok (.iload_n 2, 1) := by decide +kernel
theorem dX5_goesOn_10 : decode cX5_goesOn 10 = .ok (.if_icmp .ne 30, 3) := by decide +kernel
theorem dX5_goesOn_13 : decode cX5_goesOn 13 = .ok (.aload_n 0, 1) := by decide +kernel
theorem dX5_goesOn_14 : decode cX5_goesOn 14 = .ok (.getfield 12, 3) := by decide +kernel
theorem dX5_goesOn_17 : decode cX5_goesOn 17 = .ok (.iload_n 1, 1) := by decide +kernel
theorem dX5_goesOn_18 : decode cX5_goesOn 18 = .ok (.iconst 2, 1) := by decide +kernel
theorem dX5_goesOn_19 : decode cX5_goesOn 19 = .ok (.invokevirtual 44, 3) := by decide +kernel
theorem dX5_goesOn_22 : decode cX5_goesOn 22 = .ok (.aload_n 0, 1) := by decide +kernel
theorem dX5_goesOn_23 : decode cX5_goesOn 23 = .ok (.getfield 12, 3) := by decide +kernel
theorem dX5_goesOn_26 : decode cX5_goesOn 26 = .ok (.iload_n 1, 1) := by decide +kernel
theorem dX5_goesOn_27 : decode cX5_goesOn 27 = .ok (.iconst 3, 1) := by decide +kernel
theorem dX5_goesOn_28 : decode cX5_goesOn 28 = .ok (.invokevirtual 44, 3) := by decide +kernel
theorem dX5_goesOn_31 : decode cX5_goesOn 31 = .ok (.iadd, 1) := by decide +kernel
theorem dX5_goesOn_32 : decode cX5_goesOn 32 = .ok (.iload_n 3, 1) := by decide +kernel
theorem dX5_goesOn_33 : decode cX5_goesOn 33 = .ok (.if_icmp .ne 7, 3) := by decide +kernel
theorem dX5_goesOn_36 : decode cX5_goesOn 36 = .ok (.iconst 1, 1) := by decide +kernel
theorem dX5_goesOn_37 : decode cX5_goesOn 37 = .ok (.goto 4, 3) := by decide +kernel
theorem dX5_goesOn_40 : decode cX5_goesOn 40 = .ok (.iconst 0, 1) := by decide +kernel
theorem dX5_goesOn_41 : decode cX5_goesOn 41 = .ok (.ireturn, 1) := by decide +kernel
theorem dX5_loseEnd_0 : decode cX5_loseEnd 0 = .ok (.iload_n 1, 1) := by decide +kernel
theorem dX5_loseEnd_1 : decode cX5_loseEnd 1 = .ok (.ifCond .gt 4, 3) := by decide +kernel
theorem dX5_loseEnd_4 : decode cX5_loseEnd 4 = .ok (.return_, 1) := by decide +kernel
theorem dX5_loseEnd_5 : decode cX5_loseEnd 5 = .ok (.aload_n 0, 1) := by decide +kernel
theorem dX5_loseEnd_6 : decode cX5_loseEnd 6 = .ok (.dup, 1) := by decide +kernel
theorem dX5_loseEnd_7 : decode cX5_loseEnd 7 = .ok (.getfield 52, 3) := by decide +kernel
theorem dX5_loseEnd_10 : decode cX5_loseEnd 10 = .ok (.iload_n 1, 1) := by decide +kernel
theorem dX5_loseEnd_11 : decode cX5_loseEnd 11 = .ok (.isub, 1) := by decide +kernel
theorem dX5_loseEnd_12 : decode cX5_loseEnd 12 = .ok (.putfield 52, 3) := by decide +kernel
theorem dX5_loseEnd_15 : decode cX5_loseEnd 15 = .ok (.aload_n 0, 1) := by decide +kernel
theorem dX5_loseEnd_16 : decode cX5_loseEnd 16 = .ok (.getfield 21, 3) := by decide +kernel
theorem dX5_loseEnd_19 : decode cX5_loseEnd 19 = .ok (.aload_n 0, 1) := by decide +kernel
theorem dX5_loseEnd_20 : decode cX5_loseEnd 20 = .ok (.getfield 52, 3) := by decide +kernel
theorem dX5_loseEnd_23 : decode cX5_loseEnd 23 = .ok (.iload_n 1, 1) := by decide +kernel
theorem dX5_loseEnd_24 : decode cX5_loseEnd 24 = .ok (.invokevirtual 74, 3) := by decide +kernel
theorem dX5_loseEnd_27 : decode cX5_loseEnd 27 = .ok (.aload_n 0, 1) := by decide +kernel
theorem dX5_loseEnd_28 : decode cX5_loseEnd 28 = .ok (.iload_n 1, 1) := by decide +kernel
theorem dX5_loseEnd_29 : decode cX5_loseEnd 29 = .ok (.ineg, 1) := by decide +kernel
theorem dX5_loseEnd_30 : decode cX5_loseEnd 30 = .ok (.invokevirtual 78, 3) := by decide +kernel
theorem dX5_loseEnd_33 : decode cX5_loseEnd 33 = .ok (.iload_n 1, 1) := by decide +kernel
theorem dX5_loseEnd_34 : decode cX5_loseEnd 34 = .ok (.istore_n 2, 1) := by decide +kernel
theorem dX5_loseEnd_35 : decode cX5_loseEnd 35 = .ok (.aload_n 0, 1) := by decide +kernel
theorem dX5_loseEnd_36 : decode cX5_loseEnd 36 = .ok (.getfield 12, 3) := by decide +kernel
theorem dX5_loseEnd_39 : decode cX5_loseEnd 39 = .ok (.getfield 41, 3) := by decide +kernel
theorem dX5_loseEnd_42 : decode cX5_loseEnd 42 = .ok (.iconst 1, 1) := by decide +kernel
theorem dX5_loseEnd_43 : decode cX5_loseEnd 43 = .ok (.isub, 1) := by decide +kernel
theorem dX5_loseEnd_44 : decode cX5_loseEnd 44 = .ok (.istore_n 3, 1) := by decide +kernel
theorem dX5_loseEnd_45 : decode cX5_loseEnd 45 = .ok (.iload_n 3, 1) := by decide +kernel
theorem dX5_loseEnd_46 : decode cX5_loseEnd 46 = .ok (.ifCond .lt 65, 3) := by decide +kernel
theorem dX5_loseEnd_49 : decode cX5_loseEnd 49 = .ok (.aload_n 0, 1) := by decide +kernel
theorem dX5_loseEnd_50 : decode cX5_loseEnd 50 = .ok (.getfield 12, 3) := by decide +kernel
theorem dX5_loseEnd_53 : decode cX5_loseEnd 53 = .ok (.iload_n 3, 1) := by decide +kernel
theorem dX5_loseEnd_54 : decode cX5_loseEnd 54 = .ok (.iconst 3, 1) := by decide +kernel
theorem dX5_loseEnd_55 : decode cX5_loseEnd 55 = .ok (.invokevirtual 44, 3) := by decide +kernel
theorem dX5_loseEnd_58 : decode cX5_loseEnd 58 = .ok (.istore 4, 2) := by decide +kernel
theorem dX5_loseEnd_60 : decode cX5_loseEnd 60 = .ok (.aload_n 0, 1) := by decide +kernel
theorem dX5_loseEnd_61 : decode cX5_loseEnd 61 = .ok (.getfield 12, 3) := by decide +kernel
theorem dX5_loseEnd_64 : decode cX5_loseEnd 64 = .ok (.iload_n 3, 1) := by decide +kernel
theorem dX5_loseEnd_65 : decode cX5_loseEnd 65 = .ok (.iconst 0, 1) := by decide +kernel
theorem dX5_loseEnd_66 : decode cX5_loseEnd 66 = .ok (.invokevirtual 44, 3) := by decide +kernel
theorem dX5_loseEnd_69 : decode cX5_loseEnd 69 = .ok (.ifCond .ne 23, 3) := by decide +kernel
theorem dX5_loseEnd_72 : decode cX5_loseEnd 72 = .ok (.iload 4, 2) := by decide +kernel
theorem dX5_loseEnd_74 : decode cX5_loseEnd 74 = .ok (.iload_n 2, 1) := by decide +kernel
theorem dX5_loseEnd_75 : decode cX5_loseEnd 75 = .ok (.if_icmp .le 17, 3) := by decide +kernel
theorem dX5_loseEnd_78 : decode cX5_loseEnd 78 = .ok (.aload_n 0, 1) := by decide +kernel
theorem dX5_loseEnd_79 : decode cX5_loseEnd 79 = .ok (.getfield 12, 3) := by decide +kernel
theorem dX5_loseEnd_82 : decode cX5_loseEnd 82 = .ok (.iload_n 3, 1) := by decide +kernel
theorem dX5_loseEnd_83 : decode cX5_loseEnd 83 = .ok (.iconst 3, 1) := by decide +kernel
theorem dX5_loseEnd_84 : decode cX5_loseEnd 84 = .ok (.iload 4, 2) := by decide +kernel
theorem dX5_loseEnd_86 : decode cX5_loseEnd 86 = .ok (.iload_n 2, 1) := by decide +kernel
theorem dX5_loseEnd_87 : decode cX5_loseEnd 87 = .ok (.isub, 1) := by decide +kernel
theorem dX5_loseEnd_88 : decode cX5_loseEnd 88 = .ok (.invokevirtual 66, 3) := by decide +kernel
theorem dX5_loseEnd_91 : decode cX5_loseEnd 91 = .ok (.return_, 1) := by decide +kernel
theorem dX5_loseEnd_92 : decode cX5_loseEnd 92 = .ok (.iload_n 2, 1) := by decide +kernel
theorem dX5_loseEnd_93 : decode cX5_loseEnd 93 = .ok (.iload 4, 2) := by decide +kernel
theorem dX5_loseEnd_95 : decode cX5_loseEnd 95 = .ok (.isub, 1) := by decide +kernel
theorem dX5_loseEnd_96 : decode cX5_loseEnd 96 = .ok (.istore_n 2, 1) := by decide +kernel
theorem dX5_loseEnd_97 : decode cX5_loseEnd 97 = .ok (.aload_n 0, 1) := by decide +kernel
theorem dX5_loseEnd_98 : decode cX5_loseEnd 98 = .ok (.getfield 12, 3) := by decide +kernel
theorem dX5_loseEnd_101 : decode cX5_loseEnd 101 = .ok (.iload_n 3, 1) := by decide +kernel
theorem dX5_loseEnd_102 : decode cX5_loseEnd 102 = .ok (.invokevirtual 81, 3) := by decide +kernel
theorem dX5_loseEnd_105 : decode cX5_loseEnd 105 = .ok (.iinc 3 (-1), 3) := by decide +kernel
theorem dX5_loseEnd_108 : decode cX5_loseEnd 108 = .ok (.goto (-63), 3) := by decide +kernel
theorem dX5_loseEnd_111 : decode cX5_loseEnd 111 = .ok (.return_, 1) := by decide +kernel
theorem dX5_regainEnd_0 : decode cX5_regainEnd 0 = .ok (.aload_n 0, 1) := by decide +kernel
theorem dX5_regainEnd_1 : decode cX5_regainEnd 1 = .ok (.getfield 29, 3) := by decide +kernel
theorem dX5_regainEnd_4 : decode cX5_regainEnd 4 = .ok (.iconst 1, 1) := by decide +kernel
theorem dX5_regainEnd_5 : decode cX5_regainEnd 5 = .ok (.isub, 1) := by decide +kernel
theorem dX5_regainEnd_6 : decode cX5_regainEnd 6 = .ok (.invokestatic 37, 3) := by decide +kernel
theorem dX5_regainEnd_9 : decode cX5_regainEnd 9 = .ok (.ifCond .eq 18, 3) := by decide +kernel
theorem dX5_regainEnd_12 : decode cX5_regainEnd 12 = .ok (.aload_n 0, 1) := by decide +kernel
theorem dX5_regainEnd_13 : decode cX5_regainEnd 13 = .ok (.getfield 25, 3) := by decide +kernel
theorem dX5_regainEnd_16 : decode cX5_regainEnd 16 = .ok (.aload_n 0, 1) := by decide +kernel
theorem dX5_regainEnd_17 : decode cX5_regainEnd 17 = .ok (.getfield 29, 3) := by decide +kernel
theorem dX5_regainEnd_20 : decode cX5_regainEnd 20 = .ok (.iconst 1, 1) := by decide +kernel
theorem dX5_regainEnd_21 : decode cX5_regainEnd 21 = .ok (.isub, 1) := by decide +kernel
theorem dX5_regainEnd_22 : decode cX5_regainEnd 22 = .ok (.dup2, 1) := by decide +kernel
theorem dX5_regainEnd_23 : decode cX5_regainEnd 23 = .ok (.iaload, 1) := by decide +kernel
theorem dX5_regainEnd_24 : decode cX5_regainEnd 24 = .ok (.iload_n 1, 1) := by decide +kernel
theorem dX5_regainEnd_25 : decode cX5_regainEnd 25 = .ok (.iadd, 1) := by decide +kernel
theorem dX5_regainEnd_26 : decode cX5_regainEnd 26 = .ok (.iastore, 1) := by decide +kernel
theorem dX5_regainEnd_27 : decode cX5_regainEnd 27 = .ok (.return_, 1) := by decide +kernel
theorem dX5_exchange_0 : decode cX5_exchange 0 = .ok (.iload_n 1, 1) := by decide +kernel
theorem dX5_exchange_1 : decode cX5_exchange 1 = .ok (.invokestatic 37, 3) := by decide +kernel
theorem dX5_exchange_4 : decode cX5_exchange 4 = .ok (.ifCond .ne 4, 3) := by decide +kernel
theorem dX5_exchange_7 : decode cX5_exchange 7 = .ok (.return_, 1) := by decide +kernel
theorem dX5_exchange_8 : decode cX5_exchange 8 = .ok (.aload_n 0, 1) := by decide +kernel
theorem dX5_exchange_9 : decode cX5_exchange 9 = .ok (.iload_n 1, 1) := by decide +kernel
theorem dX5_exchange_10 : decode cX5_exchange 10 = .ok (.invokevirtual 84, 3) := by decide +kernel
theorem dX5_exchange_13 : decode cX5_exchange 13 = .ok (.istore 4, 2) := by decide +kernel
theorem dX5_exchange_15 : decode cX5_exchange 15 = .ok (.aload_n 0, 1) := by decide +kernel
theorem dX5_exchange_16 : decode cX5_exchange 16 = .ok (.getfield 25, 3) := by decide +kernel
theorem dX5_exchange_19 : decode cX5_exchange 19 = .ok (.iload_n 1, 1) := by decide +kernel
theorem dX5_exchange_20 : decode cX5_exchange 20 = .ok (.iaload, 1) := by decide +kernel
theorem dX5_exchange_21 : decode cX5_exchange 21 = .ok (.istore 5, 2) := by decide +kernel
theorem dX5_exchange_23 : decode cX5_exchange 23 = .ok (.aload_n 0, 1) := by decide +kernel
theorem dX5_exchange_24 : decode cX5_exchange 24 = .ok (.iload 4, 2) := by decide +kernel
theorem dX5_exchange_26 : decode cX5_exchange 26 = .ok (.iload 4, 2) := by decide +kernel
theorem dX5_exchange_28 : decode cX5_exchange 28 = .ok (.iload 5, 2) := by decide +kernel
theorem dX5_exchange_30 : decode cX5_exchange 30 = .ok (.iadd, 1) := by decide +kernel
theorem dX5_exchange_31 : decode cX5_exchange 31 = .ok (.invokevirtual 87, 3) := by decide +kernel
theorem dX5_exchange_34 : decode cX5_exchange 34 = .ok (.istore 6, 2) := by decide +kernel
theorem dX5_exchange_36 : decode cX5_exchange 36 = .ok (.aload_n 0, 1) := by decide +kernel
theorem dX5_exchange_37 : decode cX5_exchange 37 = .ok (.getfield 21, 3) := by decide +kernel
theorem dX5_exchange_40 : decode cX5_exchange 40 = .ok (.iload 4, 2) := by decide +kernel
theorem dX5_exchange_42 : decode cX5_exchange 42 = .ok (.iload 5, 2) := by decide +kernel
theorem dX5_exchange_44 : decode cX5_exchange 44 = .ok (.invokevirtual 74, 3) := by decide +kernel
theorem dX5_exchange_47 : decode cX5_exchange 47 = .ok (.iload 4, 2) := by decide +kernel
theorem dX5_exchange_49 : decode cX5_exchange 49 = .ok (.istore 7, 2) := by decide +kernel
theorem dX5_exchange_51 : decode cX5_exchange 51 = .ok (.aload_n 0, 1) := by decide +kernel
theorem dX5_exchange_52 : decode cX5_exchange 52 = .ok (.getfield 12, 3) := by decide +kernel
theorem dX5_exchange_55 : decode cX5_exchange 55 = .ok (.iload 6, 2) := by decide +kernel
theorem dX5_exchange_57 : decode cX5_exchange 57 = .ok (.iconst 1, 1) := by decide +kernel
theorem dX5_exchange_58 : decode cX5_exchange 58 = .ok (.iconst (-1), 1) := by decide +kernel
theorem dX5_exchange_59 : decode cX5_exchange 59 = .ok (.iconst (-1), 1) := by decide +kernel
theorem dX5_exchange_60 : decode cX5_exchange 60 = .ok (.iconst 0, 1) := by decide +kernel
theorem dX5_exchange_61 : decode cX5_exchange 61 = .ok (.invokevirtual 90, 3) := by decide +kernel
theorem dX5_exchange_64 : decode cX5_exchange 64 = .ok (.iconst 0, 1) := by decide +kernel
theorem dX5_exchange_65 : decode cX5_exchange 65 = .ok (.istore 8, 2) := by decide +kernel
theorem dX5_exchange_67 : decode cX5_exchange 67 = .ok (.iload 8, 2) := by decide +kernel
theorem dX5_exchange_69 : decode cX5_exchange 69 = .ok (.aload_n 2, 1) := by decide +kernel
theorem dX5_exchange_70 : decode cX5_exchange 70 = .ok (.getfield 41, 3) := by decide +kernel
theorem dX5_exchange_73 : decode cX5_exchange 73 = .ok (.if_icmp .ge 94, 3) := by decide +kernel
theorem dX5_exchange_76 : decode cX5_exchange 76 = .ok (.aload_n 2, 1) := by decide +kernel
theorem dX5_exchange_77 : decode cX5_exchange 77 = .ok (.iload 8, 2) := by decide +kernel
theorem dX5_exchange_79 : decode cX5_exchange 79 = .ok (.iconst 1, 1) := by decide +kernel
theorem dX5_exchange_80 : decode cX5_exchange 80 = .ok (.invokevirtual 44, 3) := by decide +kernel
theorem dX5_exchange_83 : decode cX5_exchange 83 = .ok (.istore 9, 2) := by decide +kernel
theorem dX5_exchange_85 : decode cX5_exchange 85 = .ok (.aload_n 2, 1) := by decide +kernel
theorem dX5_exchange_86 : decode cX5_exchange 86 = .ok (.iload 8, 2) := by decide +kernel
theorem dX5_exchange_88 : decode cX5_exchange 88 = .ok (.iconst 2, 1) := by decide +kernel
theorem dX5_exchange_89 : decode cX5_exchange 89 = .ok (.invokevirtual 44, 3) := by decide +kernel
theorem dX5_exchange_92 : decode cX5_exchange 92 = .ok (.istore 10, 2) := by decide +kernel
theorem dX5_exchange_94 : decode cX5_exchange 94 = .ok (.aload_n 2, 1) := by decide +kernel
theorem dX5_exchange_95 : decode cX5_exchange 95 = .ok (.iload 8, 2) := by decide +kernel
theorem dX5_exchange_97 : decode cX5_exchange 97 = .ok (.iconst 3, 1) := by decide +kernel
theorem dX5_exchange_98 : decode cX5_exchange 98 = .ok (.invokevirtual 44, 3) := by decide +kernel
theorem dX5_exchange_101 : decode cX5_exchange 101 = .ok (.istore 11, 2) := by decide +kernel
theorem dX5_exchange_103 : decode cX5_exchange 103 = .ok (.aload_n 0, 1) := by decide +kernel
theorem dX5_exchange_104 : decode cX5_exchange 104 = .ok (.getfield 12, 3) := by decide +kernel
theorem dX5_exchange_107 : decode cX5_exchange 107 = .ok (.iload 6, 2) := by decide +kernel
theorem dX5_exchange_109 : decode cX5_exchange 109 = .ok (.iconst 1, 1) := by decide +kernel
theorem dX5_exchange_110 : decode cX5_exchange 110 = .ok (.iadd, 1) := by decide +kernel
theorem dX5_exchange_111 : decode cX5_exchange 111 = .ok (.iconst 0, 1) := by decide +kernel
theorem dX5_exchange_112 : decode cX5_exchange 112 = .ok (.iload 9, 2) := by decide +kernel
theorem dX5_exchange_114 : decode cX5_exchange 114 = .ok (.iload 10, 2) := by decide +kernel
theorem dX5_exchange_116 : decode cX5_exchange 116 = .ok (.iload 11, 2) := by decide +kernel
theorem dX5_exchange_118 : decode cX5_exchange 118 = .ok (.invokevirtual 90, 3) := by decide +kernel
theorem dX5_exchange_121 : decode cX5_exchange 121 = .ok (.aload_n 0, 1) := by decide +kernel
theorem dX5_exchange_122 : decode cX5_exchange 122 = .ok (.getfield 12, 3) := by decide +kernel
theorem dX5_exchange_125 : decode cX5_exchange 125 = .ok (.iload 6, 2) := by decide +kernel
theorem dX5_exchange_127 : decode cX5_exchange 127 = .ok (.iconst 2, 1) := by decide +kernel
theorem dX5_exchange_128 : decode cX5_exchange 128 = .ok (.iadd, 1) := by decide +kernel
theorem dX5_exchange_129 : decode cX5_exchange 129 = .ok (.iconst 1, 1) := by decide +kernel
theorem dX5_exchange_130 : decode cX5_exchange 130 = .ok (.iconst (-1), 1) := by decide +kernel
theorem dX5_exchange_131 : decode cX5_exchange 131 = .ok (.iconst (-1), 1) := by decide +kernel
theorem dX5_exchange_132 : decode cX5_exchange 132 = .ok (.iconst 0, 1) := by decide +kernel
theorem dX5_exchange_133 : decode cX5_exchange 133 = .ok (.invokevirtual 90, 3) := by decide +kernel
theorem dX5_exchange_136 : decode cX5_exchange 136 = .ok (.aload_n 0, 1) := by decide +kernel
theorem dX5_exchange_137 : decode cX5_exchange 137 = .ok (.getfield 21, 3) := by decide +kernel
theorem dX5_exchange_140 : decode cX5_exchange 140 = .ok (.iload 7, 2) := by decide +kernel
theorem dX5_exchange_142 : decode cX5_exchange 142 = .ok (.iload 9, 2) := by decide +kernel
theorem dX5_exchange_144 : decode cX5_exchange 144 = .ok (.iload 10, 2) := by decide +kernel
theorem dX5_exchange_146 : decode cX5_exchange 146 = .ok (.iload 11, 2) := by decide +kernel
theorem dX5_exchange_148 : decode cX5_exchange 148 = .ok (.invokevirtual 55, 3) := by decide +kernel
theorem dX5_exchange_151 : decode cX5_exchange 151 = .ok (.iinc 6 2, 3) := by decide +kernel
theorem dX5_exchange_154 : decode cX5_exchange 154 = .ok (.iload 7, 2) := by decide +kernel
theorem dX5_exchange_156 : decode cX5_exchange 156 = .ok (.iload 11, 2) := by decide +kernel
theorem dX5_exchange_158 : decode cX5_exchange 158 = .ok (.iadd, 1) := by decide +kernel
theorem dX5_exchange_159 : decode cX5_exchange 159 = .ok (.istore 7, 2) := by decide +kernel
theorem dX5_exchange_161 : decode cX5_exchange 161 = .ok (.iinc 8 1, 3) := by decide +kernel
theorem dX5_exchange_164 : decode cX5_exchange 164 = .ok (.goto (-97), 3) := by decide +kernel
theorem dX5_exchange_167 : decode cX5_exchange 167 = .ok (.aload_n 0, 1) := by decide +kernel
theorem dX5_exchange_168 : decode cX5_exchange 168 = .ok (.dup, 1) := by decide +kernel
theorem dX5_exchange_169 : decode cX5_exchange 169 = .ok (.getfield 52, 3) := by decide +kernel
theorem dX5_exchange_172 : decode cX5_exchange 172 = .ok (.iload_n 3, 1) := by decide +kernel
theorem dX5_exchange_173 : decode cX5_exchange 173 = .ok (.iload 5, 2) := by decide +kernel
theorem dX5_exchange_175 : decode cX5_exchange 175 = .ok (.isub, 1) := by decide +kernel
theorem dX5_exchange_176 : decode cX5_exchange 176 = .ok (.iadd, 1) := by decide +kernel
theorem dX5_exchange_177 : decode cX5_exchange 177 = .ok (.putfield 52, 3) := by decide +kernel
theorem dX5_exchange_180 : decode cX5_exchange 180 = .ok (.aload_n 0, 1) := by decide +kernel
theorem dX5_exchange_181 : decode cX5_exchange 181 = .ok (.getfield 25, 3) := by decide +kernel
theorem dX5_exchange_184 : decode cX5_exchange 184 = .ok (.iload_n 1, 1) := by decide +kernel
theorem dX5_exchange_185 : decode cX5_exchange 185 = .ok (.iload_n 3, 1) := by decide +kernel
theorem dX5_exchange_186 : decode cX5_exchange 186 = .ok (.iastore, 1) := by decide +kernel
theorem dX5_exchange_187 : decode cX5_exchange 187 = .ok (.return_, 1) := by decide +kernel
theorem dX5_cutThings_0 : decode cX5_cutThings 0 = .ok (.aload_n 0, 1) := by decide +kernel
theorem dX5_cutThings_1 : decode cX5_cutThings 1 = .ok (.iload_n 1, 1) := by decide +kernel
theorem dX5_cutThings_2 : decode cX5_cutThings 2 = .ok (.invokevirtual 94, 3) := by decide +kernel
theorem dX5_cutThings_5 : decode cX5_cutThings 5 = .ok (.aload_n 0, 1) := by decide +kernel
theorem dX5_cutThings_6 : decode cX5_cutThings 6 = .ok (.iload_n 2, 1) := by decide +kernel
theorem dX5_cutThings_7 : decode cX5_cutThings 7 = .ok (.invokevirtual 94, 3) := by decide +kernel
theorem dX5_cutThings_10 : decode cX5_cutThings 10 = .ok (.iconst 0, 1) := by decide +kernel
theorem dX5_cutThings_11 : decode cX5_cutThings 11 = .ok (.istore_n 3, 1) := by decide +kernel
theorem dX5_cutThings_12 : decode cX5_cutThings 12 = .ok (.aload_n 0, 1) := by decide +kernel
theorem dX5_cutThings_13 : decode cX5_cutThings 13 = .ok (.getfield 52, 3) := by decide +kernel
theorem dX5_cutThings_16 : decode cX5_cutThings 16 = .ok (.istore 4, 2) := by decide +kernel
theorem dX5_cutThings_18 : decode cX5_cutThings 18 = .ok (.aload_n 0, 1) := by decide +kernel
theorem dX5_cutThings_19 : decode cX5_cutThings 19 = .ok (.getfield 12, 3) := by decide +kernel
theorem dX5_cutThings_22 : decode cX5_cutThings 22 = .ok (.getfield 41, 3) := by decide +kernel
theorem dX5_cutThings_25 : decode cX5_cutThings 25 = .ok (.iconst 1, 1) := by decide +kernel
theorem dX5_cutThings_26 : decode cX5_cutThings 26 = .ok (.isub, 1) := by decide +kernel
theorem dX5_cutThings_27 : decode cX5_cutThings 27 = .ok (.istore 5, 2) := by decide +kernel
theorem dX5_cutThings_29 : decode cX5_cutThings 29 = .ok (.iload 5, 2) := by decide +kernel
theorem dX5_cutThings_31 : decode cX5_cutThings 31 = .ok (.ifCond .lt 93, 3) := by decide +kernel
theorem dX5_cutThings_34 : decode cX5_cutThings 34 = .ok (.aload_n 0, 1) := by decide +kernel
theorem dX5_cutThings_35 : decode cX5_cutThings 35 = .ok (.getfield 12, 3) := by decide +kernel
theorem dX5_cutThings_38 : decode cX5_cutThings 38 = .ok (.iload 5, 2) := by decide +kernel
theorem dX5_cutThings_40 : decode cX5_cutThings 40 = .ok (.iconst 0, 1) := by decide +kernel
theorem dX5_cutThings_41 : decode cX5_cutThings 41 = .ok (.invokevirtual 44, 3) := by decide +kernel
theorem dX5_cutThings_44 : decode cX5_cutThings 44 = .ok (.istore 6, 2) := by decide +kernel
theorem dX5_cutThings_46 : decode cX5_cutThings 46 = .ok (.iload 4, 2) := by decide +kernel
theorem dX5_cutThings_48 : decode cX5_cutThings 48 = .ok (.aload_n 0, 1) := by decide +kernel
theorem dX5_cutThings_49 : decode cX5_cutThings 49 = .ok (.getfield 12, 3) := by decide +kernel
theorem dX5_cutThings_52 : decode cX5_cutThings 52 = .ok (.iload 5, 2) := by decide +kernel
theorem dX5_cutThings_54 : decode cX5_cutThings 54 = .ok (.iconst 3, 1) := by decide +kernel
theorem dX5_cutThings_55 : decode cX5_cutThings 55 = .ok (.invokevirtual 44, 3) := by decide +kernel
theorem dX5_cutThings_58 : decode cX5_cutThings 58 = .ok (.isub, 1) := by decide +kernel
theorem dX5_cutThings_59 : decode cX5_cutThings 59 = .ok (.istore 4, 2) := by decide +kernel
theorem dX5_cutThings_61 : decode cX5_cutThings 61 = .ok (.iload 6, 2) := by decide +kernel
theorem dX5_cutThings_63 : decode cX5_cutThings 63 = .ok (.iconst 1, 1) := by decide +kernel
theorem dX5_cutThings_64 : decode cX5_cutThings 64 = .ok (.if_icmp .ne 12, 3) := by decide +kernel
theorem dX5_cutThings_67 : decode cX5_cutThings 67 = .ok (.iload 4, 2) := by decide +kernel
theorem dX5_cutThings_69 : decode cX5_cutThings 69 = .ok (.iload_n 2, 1) := by decide +kernel
theorem dX5_cutThings_70 : decode cX5_cutThings 70 = .ok (.if_icmp .le 18, 3) := by decide +kernel
theorem dX5_cutThings_73 : decode cX5_cutThings 73 = .ok (.goto 9, 3) := by decide +kernel
theorem dX5_cutThings_76 : decode cX5_cutThings 76 = .ok (.iload 4, 2) := by decide +kernel
theorem dX5_cutThings_78 : decode cX5_cutThings 78 = .ok (.iload_n 2, 1) := by decide +kernel
theorem dX5_cutThings_79 : decode cX5_cutThings 79 = .ok (.if_icmp .lt 9, 3) := by decide +kernel
theorem dX5_cutThings_82 : decode cX5_cutThings 82 = .ok (.iinc 3 1, 3) := by decide +kernel
theorem dX5_cutThings_85 : decode cX5_cutThings 85 = .ok (.goto 33, 3) := by decide +kernel
theorem dX5_cutThings_88 : decode cX5_cutThings 88 = .ok (.iload 6, 2) := by decide +kernel
theorem dX5_cutThings_90 : decode cX5_cutThings 90 = .ok (.iconst 2, 1) := by decide +kernel
theorem dX5_cutThings_91 : decode cX5_cutThings 91 = .ok (.if_icmp .ne 12, 3) := by decide +kernel
theorem dX5_cutThings_94 : decode cX5_cutThings 94 = .ok (.iload 4, 2) := by decide +kernel
theorem dX5_cutThings_96 : decode cX5_cutThings 96 = .ok (.iload_n 1, 1) := by decide +kernel
theorem dX5_cutThings_97 : decode cX5_cutThings 97 = .ok (.if_icmp .le 21, 3) := by decide +kernel
theorem dX5_cutThings_100 : decode cX5_cutThings 100 = .ok (.goto 9, 3) := by decide +kernel
theorem dX5_cutThings_103 : decode cX5_cutThings 103 = .ok (.iload 4, 2) := by decide +kernel
theorem dX5_cutThings_105 : decode cX5_cutThings 105 = .ok (.iload_n 1, 1) := by decide +kernel
theorem dX5_cutThings_106 : decode cX5_cutThings 106 = .ok (.if_icmp .lt 12, 3) := by decide +kernel
theorem dX5_cutThings_109 : decode cX5_cutThings 109 = .ok (.aload_n 0, 1) := by decide +kernel
theorem dX5_cutThings_110 : decode cX5_cutThings 110 = .ok (.getfield 12, 3) := by decide +kernel
theorem dX5_cutThings_113 : decode cX5_cutThings 113 = .ok (.iload 5, 2) := by decide +kernel
theorem dX5_cutThings_115 : decode cX5_cutThings 115 = .ok (.invokevirtual 81, 3) := by decide +kernel
theorem dX5_cutThings_118 : decode cX5_cutThings 118 = .ok (.iinc 5 (-1), 3) := by decide +kernel
theorem dX5_cutThings_121 : decode cX5_cutThings 121 = .ok (.goto (-92), 3) := by decide +kernel
theorem dX5_cutThings_124 : decode cX5_cutThings 124 = .ok (.aload_n 0, 1) := by decide +kernel
theorem dX5_cutThings_125 : decode cX5_cutThings 125 = .ok (.getfield 12, 3) := by decide +kernel
theorem dX5_cutThings_128 : decode cX5_cutThings 128 = .ok (.getfield 41, 3) := by decide +kernel
theorem dX5_cutThings_131 : decode cX5_cutThings 131 = .ok (.iload_n 3, 1) := by decide +kernel
theorem dX5_cutThings_132 : decode cX5_cutThings 132 = .ok (.isub, 1) := by decide +kernel
theorem dX5_cutThings_133 : decode cX5_cutThings 133 = .ok (.ireturn, 1) := by decide +kernel
theorem dX5_divideAt_0 : decode cX5_divideAt 0 = .ok (.iconst 0, 1) := by decide +kernel
theorem dX5_divideAt_1 : decode cX5_divideAt 1 = .ok (.istore_n 2, 1) := by decide +kernel
theorem dX5_divideAt_2 : decode cX5_divideAt 2 = .ok (.iconst 0, 1) := by decide +kernel
theorem dX5_divideAt_3 : decode cX5_divideAt 3 = .ok (.istore_n 3, 1) := by decide +kernel
theorem dX5_divideAt_4 : decode cX5_divideAt 4 = .ok (.iload_n 3, 1) := by decide +kernel
theorem dX5_divideAt_5 : decode cX5_divideAt 5 = .ok (.aload_n 0, 1) := by decide +kernel
theorem dX5_divideAt_6 : decode cX5_divideAt 6 = .ok (.getfield 12, 3) := by decide +kernel
theorem dX5_divideAt_9 : decode cX5_divideAt 9 = .ok (.getfield 41, 3) := by decide +kernel
theorem dX5_divideAt_12 : decode cX5_divideAt 12 = .ok (.if_icmp .ge 95, 3) := by decide +kernel
theorem dX5_divideAt_15 : decode cX5_divideAt 15 = .ok (.aload_n 0, 1) := by decide +kernel
theorem dX5_divideAt_16 : decode cX5_divideAt 16 = .ok (.getfield 12, 3) := by decide +kernel
theorem dX5_divideAt_19 : decode cX5_divideAt 19 = .ok (.iload_n 3, 1) := by decide +kernel
theorem dX5_divideAt_20 : decode cX5_divideAt 20 = .ok (.iconst 3, 1) := by decide +kernel
theorem dX5_divideAt_21 : decode cX5_divideAt 21 = .ok (.invokevirtual 44, 3) := by decide +kernel
theorem dX5_divideAt_24 : decode cX5_divideAt 24 = .ok (.istore 4, 2) := by decide +kernel
theorem dX5_divideAt_26 : decode cX5_divideAt 26 = .ok (.iload_n 1, 1) := by decide +kernel
theorem dX5_divideAt_27 : decode cX5_divideAt 27 = .ok (.iload_n 2, 1) := by decide +kernel
theorem dX5_divideAt_28 : decode cX5_divideAt 28 = .ok (.isub, 1) := by decide +kernel
theorem dX5_divideAt_29 : decode cX5_divideAt 29 = .ok (.istore 5, 2) := by decide +kernel
theorem dX5_divideAt_31 : decode cX5_divideAt 31 = .ok (.iload 5, 2) := by decide +kernel
theorem dX5_divideAt_33 : decode cX5_divideAt 33 = .ok (.ifCond .le 63, 3) := by decide +kernel
theorem dX5_divideAt_36 : decode cX5_divideAt 36 = .ok (.iload 5, 2) := by decide +kernel
theorem dX5_divideAt_38 : decode cX5_divideAt 38 = .ok (.iload 4, 2) := by decide +kernel
theorem dX5_divideAt_40 : decode cX5_divideAt 40 = .ok (.if_icmp .ge 56, 3) := by decide +kernel
theorem dX5_divideAt_43 : decode cX5_divideAt 43 = .ok (.aload_n 0, 1) := by decide +kernel
theorem dX5_divideAt_44 : decode cX5_divideAt 44 = .ok (.getfield 12, 3) := by decide +kernel
theorem dX5_divideAt_47 : decode cX5_divideAt 47 = .ok (.iload_n 3, 1) := by decide +kernel
theorem dX5_divideAt_48 : decode cX5_divideAt 48 = .ok (.iconst 2, 1) := by decide +kernel
theorem dX5_divideAt_49 : decode cX5_divideAt 49 = .ok (.invokevirtual 44, 3) := by decide +kernel
theorem dX5_divideAt_52 : decode cX5_divideAt 52 = .ok (.istore 6, 2) := by decide +kernel
theorem dX5_divideAt_54 : decode cX5_divideAt 54 = .ok (.aload_n 0, 1) := by decide +kernel
theorem dX5_divideAt_55 : decode cX5_divideAt 55 = .ok (.getfield 12, 3) := by decide +kernel
theorem dX5_divideAt_58 : decode cX5_divideAt 58 = .ok (.iload_n 3, 1) := by decide +kernel
theorem dX5_divideAt_59 : decode cX5_divideAt 59 = .ok (.iconst 3, 1) := by decide +kernel
theorem dX5_divideAt_60 : decode cX5_divideAt 60 = .ok (.iload 5, 2) := by decide +kernel
theorem dX5_divideAt_62 : decode cX5_divideAt 62 = .ok (.invokevirtual 66, 3) := by decide +kernel
theorem dX5_divideAt_65 : decode cX5_divideAt 65 = .ok (.aload_n 0, 1) := by decide +kernel
theorem dX5_divideAt_66 : decode cX5_divideAt 66 = .ok (.getfield 12, 3) := by decide +kernel
theorem dX5_divideAt_69 : decode cX5_divideAt 69 = .ok (.iload_n 3, 1) := by decide +kernel
theorem dX5_divideAt_70 : decode cX5_divideAt 70 = .ok (.iconst 1, 1) := by decide +kernel
theorem dX5_divideAt_71 : decode cX5_divideAt 71 = .ok (.iadd, 1) := by decide +kernel
theorem dX5_divideAt_72 : decode cX5_divideAt 72 = .ok (.iconst 0, 1) := by decide +kernel
theorem dX5_divideAt_73 : decode cX5_divideAt 73 = .ok (.aload_n 0, 1) := by decide +kernel
theorem dX5_divideAt_74 : decode cX5_divideAt 74 = .ok (.getfield 12, 3) := by decide +kernel
theorem dX5_divideAt_77 : decode cX5_divideAt 77 = .ok (.iload_n 3, 1) := by decide +kernel
theorem dX5_divideAt_78 : decode cX5_divideAt 78 = .ok (.iconst 1, 1) := by decide +kernel
theorem dX5_divideAt_79 : decode cX5_divideAt 79 = .ok (.invokevirtual 44, 3) := by decide +kernel
theorem dX5_divideAt_82 : decode cX5_divideAt 82 = .ok (.iload 6, 2) := by decide +kernel
theorem dX5_divideAt_84 : decode cX5_divideAt 84 = .ok (.iload 5, 2) := by decide +kernel
theorem dX5_divideAt_86 : decode cX5_divideAt 86 = .ok (.iadd, 1) := by decide +kernel
theorem dX5_divideAt_87 : decode cX5_divideAt 87 = .ok (.iload 4, 2) := by decide +kernel
theorem dX5_divideAt_89 : decode cX5_divideAt 89 = .ok (.iload 5, 2) := by decide +kernel
theorem dX5_divideAt_91 : decode cX5_divideAt 91 = .ok (.isub, 1) := by decide +kernel
theorem dX5_divideAt_92 : decode cX5_divideAt 92 = .ok (.invokevirtual 90, 3) := by decide +kernel
theorem dX5_divideAt_95 : decode cX5_divideAt 95 = .ok (.return_, 1) := by decide +kernel
theorem dX5_divideAt_96 : decode cX5_divideAt 96 = .ok (.iload_n 2, 1) := by decide +kernel
theorem dX5_divideAt_97 : decode cX5_divideAt 97 = .ok (.iload 4, 2) := by decide +kernel
theorem dX5_divideAt_99 : decode cX5_divideAt 99 = .ok (.iadd, 1) := by decide +kernel
theorem dX5_divideAt_100 : decode cX5_divideAt 100 = .ok (.istore_n 2, 1) := by decide +kernel
theorem dX5_divideAt_101 : decode cX5_divideAt 101 = .ok (.iinc 3 1, 3) := by decide +kernel
theorem dX5_divideAt_104 : decode cX5_divideAt 104 = .ok (.goto (-100), 3) := by decide +kernel
theorem dX5_divideAt_107 : decode cX5_divideAt 107 = .ok (.return_, 1) := by decide +kernel
theorem dX5_metreAt_0 : decode cX5_metreAt 0 = .ok (.iconst 0, 1) := by decide +kernel
theorem dX5_metreAt_1 : decode cX5_metreAt 1 = .ok (.istore_n 2, 1) := by decide +kernel
theorem dX5_metreAt_2 : decode cX5_metreAt 2 = .ok (.iconst 0, 1) := by decide +kernel
theorem dX5_metreAt_3 : decode cX5_metreAt 3 = .ok (.istore_n 3, 1) := by decide +kernel
theorem dX5_metreAt_4 : decode cX5_metreAt 4 = .ok (.iload_n 3, 1) := by decide +kernel
theorem dX5_metreAt_5 : decode cX5_metreAt 5 = .ok (.aload_n 0, 1) := by decide +kernel
theorem dX5_metreAt_6 : decode cX5_metreAt 6 = .ok (.getfield 12, 3) := by decide +kernel
theorem dX5_metreAt_9 : decode cX5_metreAt 9 = .ok (.getfield 41, 3) := by decide +kernel
theorem dX5_metreAt_12 : decode cX5_metreAt 12 = .ok (.if_icmp .ge 65, 3) := by decide +kernel
theorem dX5_metreAt_15 : decode cX5_metreAt 15 = .ok (.aload_n 0, 1) := by decide +kernel
theorem dX5_metreAt_16 : decode cX5_metreAt 16 = .ok (.getfield 12, 3) := by decide +kernel
theorem dX5_metreAt_19 : decode cX5_metreAt 19 = .ok (.iload_n 3, 1) := by decide +kernel
theorem dX5_metreAt_20 : decode cX5_metreAt 20 = .ok (.iconst 3, 1) := by decide +kernel
theorem dX5_metreAt_21 : decode cX5_metreAt 21 = .ok (.invokevirtual 44, 3) := by decide +kernel
theorem dX5_metreAt_24 : decode cX5_metreAt 24 = .ok (.istore 4, 2) := by decide +kernel
theorem dX5_metreAt_26 : decode cX5_metreAt 26 = .ok (.iload_n 1, 1) := by decide +kernel
theorem dX5_metreAt_27 : decode cX5_metreAt 27 = .ok (.iload_n 2, 1) := by decide +kernel
theorem dX5_metreAt_28 : decode cX5_metreAt 28 = .ok (.if_icmp .lt 38, 3) := by decide +kernel
theorem dX5_metreAt_31 : decode cX5_metreAt 31 = .ok (.iload_n 1, 1) := by decide +kernel
theorem dX5_metreAt_32 : decode cX5_metreAt 32 = .ok (.iload_n 2, 1) := by decide +kernel
theorem dX5_metreAt_33 : decode cX5_metreAt 33 = .ok (.iload 4, 2) := by decide +kernel
theorem dX5_metreAt_35 : decode cX5_metreAt 35 = .ok (.iadd, 1) := by decide +kernel
theorem dX5_metreAt_36 : decode cX5_metreAt 36 = .ok (.if_icmp .ge 30, 3) := by decide +kernel
theorem dX5_metreAt_39 : decode cX5_metreAt 39 = .ok (.ldc 97, 2) := by decide +kernel
theorem dX5_metreAt_41 : decode cX5_metreAt 41 = .ok (.aload_n 0, 1) := by decide +kernel
theorem dX5_metreAt_42 : decode cX5_metreAt 42 = .ok (.getfield 12, 3) := by decide +kernel
theorem dX5_metreAt_45 : decode cX5_metreAt 45 = .ok (.iload_n 3, 1) := by decide +kernel
theorem dX5_metreAt_46 : decode cX5_metreAt 46 = .ok (.iconst 1, 1) := by decide +kernel
theorem dX5_metreAt_47 : decode cX5_metreAt 47 = .ok (.invokevirtual 44, 3) := by decide +kernel
theorem dX5_metreAt_50 : decode cX5_metreAt 50 = .ok (.imul, 1) := by decide +kernel
theorem dX5_metreAt_51 : decode cX5_metreAt 51 = .ok (.aload_n 0, 1) := by decide +kernel
theorem dX5_metreAt_52 : decode cX5_metreAt 52 = .ok (.getfield 12, 3) := by decide +kernel
theorem dX5_metreAt_55 : decode cX5_metreAt 55 = .ok (.iload_n 3, 1) := by decide +kernel
theorem dX5_metreAt_56 : decode cX5_metreAt 56 = .ok (.iconst 2, 1) := by decide +kernel
theorem dX5_metreAt_57 : decode cX5_metreAt 57 = .ok (.invokevirtual 44, 3) := by decide +kernel
theorem dX5_metreAt_60 : decode cX5_metreAt 60 = .ok (.iadd, 1) := by decide +kernel
theorem dX5_metreAt_61 : decode cX5_metreAt 61 = .ok (.iload_n 1, 1) := by decide +kernel
theorem dX5_metreAt_62 : decode cX5_metreAt 62 = .ok (.iadd, 1) := by decide +kernel
theorem dX5_metreAt_63 : decode cX5_metreAt 63 = .ok (.iload_n 2, 1) := by decide +kernel
theorem dX5_metreAt_64 : decode cX5_metreAt 64 = .ok (.isub, 1) := by decide +kernel
theorem dX5_metreAt_65 : decode cX5_metreAt 65 = .ok (.ireturn, 1) := by decide +kernel
theorem dX5_metreAt_66 : decode cX5_metreAt 66 = .ok (.iload_n 2, 1) := by decide +kernel
theorem dX5_metreAt_67 : decode cX5_metreAt 67 = .ok (.iload 4, 2) := by decide +kernel
theorem dX5_metreAt_69 : decode cX5_metreAt 69 = .ok (.iadd, 1) := by decide +kernel
theorem dX5_metreAt_70 : decode cX5_metreAt 70 = .ok (.istore_n 2, 1) := by decide +kernel
theorem dX5_metreAt_71 : decode cX5_metreAt 71 = .ok (.iinc 3 1, 3) := by decide +kernel
theorem dX5_metreAt_74 : decode cX5_metreAt 74 = .ok (.goto (-70), 3) := by decide +kernel
theorem dX5_metreAt_77 : decode cX5_metreAt 77 = .ok (.iconst (-1), 1) := by decide +kernel
theorem dX5_metreAt_78 : decode cX5_metreAt 78 = .ok (.ireturn, 1) := by decide +kernel
theorem dX5_metreByDeeds_0 : decode cX5_metreByDeeds 0 = .ok (.aload_n 0, 1) := by decide +kernel
theorem dX5_metreByDeeds_1 : decode cX5_metreByDeeds 1 = .ok (.getfield 21, 3) := by decide +kernel
theorem dX5_metreByDeeds_4 : decode cX5_metreByDeeds 4 = .ok (.iload_n 1, 1) := by decide +kernel
theorem dX5_metreByDeeds_5 : decode cX5_metreByDeeds 5 = .ok (.invokevirtual 98, 3) := by decide +kernel
theorem dX5_metreByDeeds_8 : decode cX5_metreByDeeds 8 = .ok (.ireturn, 1) := by decide +kernel
theorem dX5_pieceAt_0 : decode cX5_pieceAt 0 = .ok (.aload_n 0, 1) := by decide +kernel
theorem dX5_pieceAt_1 : decode cX5_pieceAt 1 = .ok (.iload_n 1, 1) := by decide +kernel
theorem dX5_pieceAt_2 : decode cX5_pieceAt 2 = .ok (.invokevirtual 101, 3) := by decide +kernel
theorem dX5_pieceAt_5 : decode cX5_pieceAt 5 = .ok (.istore_n 2, 1) := by decide +kernel
theorem dX5_pieceAt_6 : decode cX5_pieceAt 6 = .ok (.iload_n 2, 1) := by decide +kernel
theorem dX5_pieceAt_7 : decode cX5_pieceAt 7 = .ok (.iconst (-1), 1) := by decide +kernel
theorem dX5_pieceAt_8 : decode cX5_pieceAt 8 = .ok (.if_icmp .ne 7, 3) := by decide +kernel
theorem dX5_pieceAt_11 : decode cX5_pieceAt 11 = .ok (.iconst (-1), 1) := by decide +kernel
theorem dX5_pieceAt_12 : decode cX5_pieceAt 12 = .ok (.goto 7, 3) := by decide +kernel
theorem dX5_pieceAt_15 : decode cX5_pieceAt 15 = .ok (.iload_n 2, 1) := by decide +kernel
theorem dX5_pieceAt_16 : decode cX5_pieceAt 16 = .ok (.ldc 97, 2) := by decide +kernel
theorem dX5_pieceAt_18 : decode cX5_pieceAt 18 = .ok (.idiv, 1) := by decide +kernel
theorem dX5_pieceAt_19 : decode cX5_pieceAt 19 = .ok (.ireturn, 1) := by decide +kernel
