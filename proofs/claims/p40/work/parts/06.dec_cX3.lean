theorem dX3_init_0 : decode cX3_init 0 = .ok (.aload_n 0, 1) := by decide +kernel
theorem dX3_init_1 : decode cX3_init 1 = .ok (.invokespecial 3, 3) := by decide +kernel
theorem dX3_init_4 : decode cX3_init 4 = .ok (.aload_n 0, 1) := by decide +kernel
theorem dX3_init_5 : decode cX3_init 5 = .ok (.bipush 30, 2) := by decide +kernel
theorem dX3_init_7 : decode cX3_init 7 = .ok (.newarray .int, 2) := by decide +kernel
theorem dX3_init_9 : decode cX3_init 9 = .ok (.putfield 11, 3) := by decide +kernel
theorem dX3_init_12 : decode cX3_init 12 = .ok (.aload_n 0, 1) := by decide +kernel
theorem dX3_init_13 : decode cX3_init 13 = .ok (.new 15, 3) := by decide +kernel
theorem dX3_init_16 : decode cX3_init 16 = .ok (.dup, 1) := by decide +kernel
theorem dX3_init_17 : decode cX3_init 17 = .ok (.invokespecial 17, 3) := by decide +kernel
theorem dX3_init_20 : decode cX3_init 20 = .ok (.putfield 18, 3) := by decide +kernel
theorem dX3_init_23 : decode cX3_init 23 = .ok (.aload_n 0, 1) := by decide +kernel
theorem dX3_init_24 : decode cX3_init 24 = .ok (.new 15, 3) := by decide +kernel
theorem dX3_init_27 : decode cX3_init 27 = .ok (.dup, 1) := by decide +kernel
theorem dX3_init_28 : decode cX3_init 28 = .ok (.invokespecial 17, 3) := by decide +kernel
theorem dX3_init_31 : decode cX3_init 31 = .ok (.putfield 22, 3) := by decide +kernel
theorem dX3_init_34 : decode cX3_init 34 = .ok (.return_, 1) := by decide +kernel
theorem dX3_stow_0 : decode cX3_stow 0 = .ok (.aload_n 0, 1) := by decide +kernel
theorem dX3_stow_1 : decode cX3_stow 1 = .ok (.getfield 25, 3) := by decide +kernel
theorem dX3_stow_4 : decode cX3_stow 4 = .ok (.istore 4, 2) := by decide +kernel
theorem dX3_stow_6 : decode cX3_stow 6 = .ok (.iload 4, 2) := by decide +kernel
theorem dX3_stow_8 : decode cX3_stow 8 = .ok (.ifCond .lt 53, 3) := by decide +kernel
theorem dX3_stow_11 : decode cX3_stow 11 = .ok (.iload 4, 2) := by decide +kernel
theorem dX3_stow_13 : decode cX3_stow 13 = .ok (.aload_n 0, 1) := by decide +kernel
theorem dX3_stow_14 : decode cX3_stow 14 = .ok (.getfield 11, 3) := by decide +kernel
theorem dX3_stow_17 : decode cX3_stow 17 = .ok (.arraylength, 1) := by decide +kernel
theorem dX3_stow_18 : decode cX3_stow 18 = .ok (.if_icmp .ge 43, 3) := by decide +kernel
theorem dX3_stow_21 : decode cX3_stow 21 = .ok (.aload_n 0, 1) := by decide +kernel
theorem dX3_stow_22 : decode cX3_stow 22 = .ok (.getfield 11, 3) := by decide +kernel
theorem dX3_stow_25 : decode cX3_stow 25 = .ok (.iload 4, 2) := by decide +kernel
theorem dX3_stow_27 : decode cX3_stow 27 = .ok (.iload_n 1, 1) := by decide +kernel
theorem dX3_stow_28 : decode cX3_stow 28 = .ok (.iastore, 1) := by decide +kernel
theorem dX3_stow_29 : decode cX3_stow 29 = .ok (.aload_n 0, 1) := by decide +kernel
theorem dX3_stow_30 : decode cX3_stow 30 = .ok (.dup, 1) := by decide +kernel
theorem dX3_stow_31 : decode cX3_stow 31 = .ok (.getfield 25, 3) := by decide +kernel
theorem dX3_stow_34 : decode cX3_stow 34 = .ok (.iconst 1, 1) := by decide +kernel
theorem dX3_stow_35 : decode cX3_stow 35 = .ok (.iadd, 1) := by decide +kernel
theorem dX3_stow_36 : decode cX3_stow 36 = .ok (.putfield 25, 3) := by decide +kernel
theorem dX3_stow_39 : decode cX3_stow 39 = .ok (.aload_n 0, 1) := by decide +kernel
theorem dX3_stow_40 : decode cX3_stow 40 = .ok (.dup, 1) := by decide +kernel
theorem dX3_stow_41 : decode cX3_stow 41 = .ok (.getfield 29, 3) := by decide +kernel
theorem dX3_stow_44 : decode cX3_stow 44 = .ok (.iload_n 2, 1) := by decide +kernel
theorem dX3_stow_45 : decode cX3_stow 45 = .ok (.iadd, 1) := by decide +kernel
theorem dX3_stow_46 : decode cX3_stow 46 = .ok (.putfield 29, 3) := by decide +kernel
theorem dX3_stow_49 : decode cX3_stow 49 = .ok (.aload_n 0, 1) := by decide +kernel
theorem dX3_stow_50 : decode cX3_stow 50 = .ok (.getfield 18, 3) := by decide +kernel
theorem dX3_stow_53 : decode cX3_stow 53 = .ok (.iload_n 3, 1) := by decide +kernel
theorem dX3_stow_54 : decode cX3_stow 54 = .ok (.iload 4, 2) := by decide +kernel
theorem dX3_stow_56 : decode cX3_stow 56 = .ok (.iconst 0, 1) := by decide +kernel
theorem dX3_stow_57 : decode cX3_stow 57 = .ok (.iload_n 2, 1) := by decide +kernel
theorem dX3_stow_58 : decode cX3_stow 58 = .ok (.invokevirtual 32, 3) := by decide +kernel
theorem dX3_stow_61 : decode cX3_stow 61 = .ok (.iload 4, 2) := by decide +kernel
theorem dX3_stow_63 : decode cX3_stow 63 = .ok (.ireturn, 1) := by decide +kernel
theorem dX3_typeOf_0 : decode cX3_typeOf 0 = .ok (.iload_n 1, 1) := by decide +kernel
theorem dX3_typeOf_1 : decode cX3_typeOf 1 = .ok (.ifCond .lt 29, 3) := by decide +kernel
theorem dX3_typeOf_4 : decode cX3_typeOf 4 = .ok (.iload_n 1, 1) := by decide +kernel
theorem dX3_typeOf_5 : decode cX3_typeOf 5 = .ok (.aload_n 0, 1) := by decide +kernel
theorem dX3_typeOf_6 : decode cX3_typeOf 6 = .ok (.getfield 25, 3) := by decide +kernel
theorem dX3_typeOf_9 : decode cX3_typeOf 9 = .ok (.if_icmp .ge 21, 3) := by decide +kernel
theorem dX3_typeOf_12 : decode cX3_typeOf 12 = .ok (.iload_n 1, 1) := by decide +kernel
theorem dX3_typeOf_13 : decode cX3_typeOf 13 = .ok (.aload_n 0, 1) := by decide +kernel
theorem dX3_typeOf_14 : decode cX3_typeOf 14 = .ok (.getfield 11, 3) := by decide +kernel
theorem dX3_typeOf_17 : decode cX3_typeOf 17 = .ok (.arraylength, 1) := by decide +kernel
theorem dX3_typeOf_18 : decode cX3_typeOf 18 = .ok (.if_icmp .ge 12, 3) := by decide +kernel
theorem dX3_typeOf_21 : decode cX3_typeOf 21 = .ok (.aload_n 0, 1) := by decide +kernel
theorem dX3_typeOf_22 : decode cX3_typeOf 22 = .ok (.getfield 11, 3) := by decide +kernel
theorem dX3_typeOf_25 : decode cX3_typeOf 25 = .ok (.iload_n 1, 1) := by decide +kernel
theorem dX3_typeOf_26 : decode cX3_typeOf 26 = .ok (.iaload, 1) := by decide +kernel
theorem dX3_typeOf_27 : decode cX3_typeOf 27 = .ok (.goto 4, 3) := by decide +kernel
theorem dX3_typeOf_30 : decode cX3_typeOf 30 = .ok (.iconst (-1), 1) := by decide +kernel
theorem dX3_typeOf_31 : decode cX3_typeOf 31 = .ok (.ireturn, 1) := by decide +kernel
theorem dX3_metresIn_0 : decode cX3_metresIn 0 = .ok (.iconst 0, 1) := by decide +kernel
theorem dX3_metresIn_1 : decode cX3_metresIn 1 = .ok (.istore_n 2, 1) := by decide +kernel
theorem dX3_metresIn_2 : decode cX3_metresIn 2 = .ok (.iconst 0, 1) := by decide +kernel
theorem dX3_metresIn_3 : decode cX3_metresIn 3 = .ok (.istore_n 3, 1) := by decide +kernel
theorem dX3_metresIn_4 : decode cX3_metresIn 4 = .ok (.iload_n 3, 1) := by decide +kernel
theorem dX3_metresIn_5 : decode cX3_metresIn 5 = .ok (.aload_n 0, 1) := by decide +kernel
theorem dX3_metresIn_6 : decode cX3_metresIn 6 = .ok (.getfield 18, 3) := by decide +kernel
theorem dX3_metresIn_9 : decode cX3_metresIn 9 = .ok (.getfield 36, 3) := by decide +kernel
theorem dX3_metresIn_12 : decode cX3_metresIn 12 = .ok (.if_icmp .ge 34, 3) := by decide +kernel
theorem dX3_metresIn_15 : decode cX3_metresIn 15 = .ok (.aload_n 0, 1) := by decide +kernel
theorem dX3_metresIn_16 : decode cX3_metresIn 16 = .ok (.getfield 18, 3) := by decide +kernel
theorem dX3_metresIn_19 : decode cX3_metresIn 19 = .ok (.iload_n 3, 1) := by decide +kernel
theorem dX3_metresIn_20 : decode cX3_metresIn 20 = .ok (.iconst 0, 1) := by decide +kernel
theorem dX3_metresIn_21 : decode cX3_metresIn 21 = .ok (.invokevirtual 39, 3) := by decide +kernel
theorem dX3_metresIn_24 : decode cX3_metresIn 24 = .ok (.iload_n 1, 1) := by decide +kernel
theorem dX3_metresIn_25 : decode cX3_metresIn 25 = .ok (.if_icmp .ne 15, 3) := by decide +kernel
theorem dX3_metresIn_28 : decode cX3_metresIn 28 = .ok (.iload_n 2, 1) := by decide +kernel
theorem dX3_metresIn_29 : decode cX3_metresIn 29 = .ok (.aload_n 0, 1) := by decide +kernel
theorem dX3_metresIn_30 : decode cX3_metresIn 30 = .ok (.getfield 18, 3) := by decide +kernel
theorem dX3_metresIn_33 : decode cX3_metresIn 33 = .ok (.iload_n 3, 1) := by decide +kernel
theorem dX3_metresIn_34 : decode cX3_metresIn 34 = .ok (.iconst 3, 1) := by decide +kernel
theorem dX3_metresIn_35 : decode cX3_metresIn 35 = .ok (.invokevirtual 39, 3) := by decide +kernel
theorem dX3_metresIn_38 : decode cX3_metresIn 38 = .ok (.iadd, 1) := by decide +kernel
theorem dX3_metresIn_39 : decode cX3_metresIn 39 = .ok (.istore_n 2, 1) := by decide +kernel
theorem dX3_metresIn_40 : decode cX3_metresIn 40 = .ok (.iinc 3 1, 3) := by decide +kernel
theorem dX3_metresIn_43 : decode cX3_metresIn 43 = .ok (.goto (-39), 3) := by decide +kernel
theorem dX3_metresIn_46 : decode cX3_metresIn 46 = .ok (.iload_n 2, 1) := by decide +kernel
theorem dX3_metresIn_47 : decode cX3_metresIn 47 = .ok (.ireturn, 1) := by decide +kernel
theorem dX3_piecesIn_0 : decode cX3_piecesIn 0 = .ok (.iconst 0, 1) := by decide +kernel
theorem dX3_piecesIn_1 : decode cX3_piecesIn 1 = .ok (.istore_n 2, 1) := by decide +kernel
theorem dX3_piecesIn_2 : decode cX3_piecesIn 2 = .ok (.iconst 0, 1) := by decide +kernel
theorem dX3_piecesIn_3 : decode cX3_piecesIn 3 = .ok (.istore_n 3, 1) := by decide +kernel
theorem dX3_piecesIn_4 : decode cX3_piecesIn 4 = .ok (.iload_n 3, 1) := by decide +kernel
theorem dX3_piecesIn_5 : decode cX3_piecesIn 5 = .ok (.aload_n 0, 1) := by decide +kernel
theorem dX3_piecesIn_6 : decode cX3_piecesIn 6 = .ok (.getfield 18, 3) := by decide +kernel
theorem dX3_piecesIn_9 : decode cX3_piecesIn 9 = .ok (.getfield 36, 3) := by decide +kernel
theorem dX3_piecesIn_12 : decode cX3_piecesIn 12 = .ok (.if_icmp .ge 25, 3) := by decide +kernel
theorem dX3_piecesIn_15 : decode cX3_piecesIn 15 = .ok (.aload_n 0, 1) := by decide +kernel
theorem dX3_piecesIn_16 : decode cX3_piecesIn 16 = .ok (.getfield 18, 3) := by decide +kernel
theorem dX3_piecesIn_19 : decode cX3_piecesIn 19 = .ok (.iload_n 3, 1) := by decide +kernel
theorem dX3_piecesIn_20 : decode cX3_piecesIn 20 = .ok (.iconst 0, 1) := by decide +kernel
theorem dX3_piecesIn_21 : decode cX3_piecesIn 21 = .ok (.invokevirtual 39, 3) := by decide +kernel
theorem dX3_piecesIn_24 : decode cX3_piecesIn 24 = .ok (.iload_n 1, 1) := by decide +kernel
theorem dX3_piecesIn_25 : decode cX3_piecesIn 25 = .ok (.if_icmp .ne 6, 3) := by decide +kernel
theorem dX3_piecesIn_28 : decode cX3_piecesIn 28 = .ok (.iinc 2 1, 3) := by decide +kernel
theorem dX3_piecesIn_31 : decode cX3_piecesIn 31 = .ok (.iinc 3 1, 3) := by decide +kernel
theorem dX3_piecesIn_34 : decode cX3_piecesIn 34 = .ok (.goto (-30), 3) := by decide +kernel
theorem dX3_piecesIn_37 : decode cX3_piecesIn 37 = .ok (.iload_n 2, 1) := by decide +kernel
theorem dX3_piecesIn_38 : decode cX3_piecesIn 38 = .ok (.ireturn, 1) := by decide +kernel
theorem dX3_top_0 : decode cX3_top 0 = .ok (.aload_n 0, 1) := by decide +kernel
theorem dX3_top_1 : decode cX3_top 1 = .ok (.getfield 18, 3) := by decide +kernel
theorem dX3_top_4 : decode cX3_top 4 = .ok (.getfield 36, 3) := by decide +kernel
theorem dX3_top_7 : decode cX3_top 7 = .ok (.iconst 1, 1) := by decide +kernel
theorem dX3_top_8 : decode cX3_top 8 = .ok (.isub, 1) := by decide +kernel
theorem dX3_top_9 : decode cX3_top 9 = .ok (.istore_n 3, 1) := by decide +kernel
theorem dX3_top_10 : decode cX3_top 10 = .ok (.iload_n 3, 1) := by decide +kernel
theorem dX3_top_11 : decode cX3_top 11 = .ok (.ifCond .lt 32, 3) := by decide +kernel
theorem dX3_top_14 : decode cX3_top 14 = .ok (.aload_n 0, 1) := by decide +kernel
theorem dX3_top_15 : decode cX3_top 15 = .ok (.getfield 18, 3) := by decide +kernel
theorem dX3_top_18 : decode cX3_top 18 = .ok (.iload_n 3, 1) := by decide +kernel
theorem dX3_top_19 : decode cX3_top 19 = .ok (.iconst 0, 1) := by decide +kernel
theorem dX3_top_20 : decode cX3_top 20 = .ok (.invokevirtual 39, 3) := by decide +kernel
theorem dX3_top_23 : decode cX3_top 23 = .ok (.iload_n 1, 1) := by decide +kernel
theorem dX3_top_24 : decode cX3_top 24 = .ok (.if_icmp .ne 13, 3) := by decide +kernel
theorem dX3_top_27 : decode cX3_top 27 = .ok (.aload_n 0, 1) := by decide +kernel
theorem dX3_top_28 : decode cX3_top 28 = .ok (.getfield 18, 3) := by decide +kernel
theorem dX3_top_31 : decode cX3_top 31 = .ok (.iload_n 3, 1) := by decide +kernel
theorem dX3_top_32 : decode cX3_top 32 = .ok (.iload_n 2, 1) := by decide +kernel
theorem dX3_top_33 : decode cX3_top 33 = .ok (.invokevirtual 39, 3) := by decide +kernel
theorem dX3_top_36 : decode cX3_top 36 = .ok (.ireturn, 1) := by decide +kernel
theorem dX3_top_37 : decode cX3_top 37 = .ok (.iinc 3 (-1), 3) := by decide +kernel
theorem dX3_top_40 : decode cX3_top 40 = .ok (.goto (-30), 3) := by decide +kernel
theorem dX3_top_43 : decode cX3_top 43 = .ok (.iconst (-1), 1) := by decide +kernel
theorem dX3_top_44 : decode cX3_top 44 = .ok (.ireturn, 1) := by decide +kernel
theorem dX3_gather_0 : decode cX3_gather 0 = .ok (.aload_n 0, 1) := by decide +kernel
theorem dX3_gather_1 : decode cX3_gather 1 = .ok (.getfield 22, 3) := by decide +kernel
theorem dX3_gather_4 : decode cX3_gather 4 = .ok (.invokevirtual 43, 3) := by decide +kernel
theorem dX3_gather_7 : decode cX3_gather 7 = .ok (.iload_n 2, 1) := by decide +kernel
theorem dX3_gather_8 : decode cX3_gather 8 = .ok (.istore_n 3, 1) := by decide +kernel
theorem dX3_gather_9 : decode cX3_gather 9 = .ok (.aload_n 0, 1) := by decide +kernel
theorem dX3_gather_10 : decode cX3_gather 10 = .ok (.getfield 18, 3) := by decide +kernel
theorem dX3_gather_13 : decode cX3_gather 13 = .ok (.getfield 36, 3) := by decide +kernel
theorem dX3_gather_16 : decode cX3_gather 16 = .ok (.iconst 1, 1) := by decide +kernel
theorem dX3_gather_17 : decode cX3_gather 17 = .ok (.isub, 1) := by decide +kernel
theorem dX3_gather_18 : decode cX3_gather 18 = .ok (.istore 4, 2) := by decide +kernel
theorem dX3_gather_20 : decode cX3_gather 20 = .ok (.iload 4, 2) := by decide +kernel
theorem dX3_gather_22 : decode cX3_gather 22 = .ok (.ifCond .lt 78, 3) := by decide +kernel
theorem dX3_gather_25 : decode cX3_gather 25 = .ok (.iload_n 3, 1) := by decide +kernel
theorem dX3_gather_26 : decode cX3_gather 26 = .ok (.ifCond .le 74, 3) := by decide +kernel
theorem dX3_gather_29 : decode cX3_gather 29 = .ok (.aload_n 0, 1) := by decide +kernel
theorem dX3_gather_30 : decode cX3_gather 30 = .ok (.getfield 18, 3) := by decide +kernel
theorem dX3_gather_33 : decode cX3_gather 33 = .ok (.iload 4, 2) := by decide +kernel
theorem dX3_gather_35 : decode cX3_gather 35 = .ok (.iconst 0, 1) := by decide +kernel
theorem dX3_gather_36 : decode cX3_gather 36 = .ok (.invokevirtual 39, 3) := by decide +kernel
theorem dX3_gather_39 : decode cX3_gather 39 = .ok (.iload_n 1, 1) := by decide +kernel
theorem dX3_gather_40 : decode cX3_gather 40 = .ok (.if_icmp .ne 54, 3) := by decide +kernel
theorem dX3_gather_43 : decode cX3_gather 43 = .ok (.iload_n 3, 1) := by decide +kernel
theorem dX3_gather_44 : decode cX3_gather 44 = .ok (.aload_n 0, 1) := by decide +kernel
theorem dX3_gather_45 : decode cX3_gather 45 = .ok (.getfield 18, 3) := by decide +kernel
theorem dX3_gather_48 : decode cX3_gather 48 = .ok (.iload 4, 2) := by decide +kernel
theorem dX3_gather_50 : decode cX3_gather 50 = .ok (.iconst 3, 1) := by decide +kernel
theorem dX3_gather_51 : decode cX3_gather 51 = .ok (.invokevirtual 39, 3) := by decide +kernel
theorem dX3_gather_54 : decode cX3_gather 54 = .ok (.invokestatic 46, 3) := by decide +kernel
theorem dX3_gather_57 : decode cX3_gather 57 = .ok (.istore 5, 2) := by decide +kernel
theorem dX3_gather_59 : decode cX3_gather 59 = .ok (.aload_n 0, 1) := by decide +kernel
theorem dX3_gather_60 : decode cX3_gather 60 = .ok (.getfield 22, 3) := by decide +kernel
theorem dX3_gather_63 : decode cX3_gather 63 = .ok (.iload_n 1, 1) := by decide +kernel
theorem dX3_gather_64 : decode cX3_gather 64 = .ok (.aload_n 0, 1) := by decide +kernel
theorem dX3_gather_65 : decode cX3_gather 65 = .ok (.getfield 18, 3) := by decide +kernel
theorem dX3_gather_68 : decode cX3_gather 68 = .ok (.iload 4, 2) := by decide +kernel
theorem dX3_gather_70 : decode cX3_gather 70 = .ok (.iconst 1, 1) := by decide +kernel
theorem dX3_gather_71 : decode cX3_gather 71 = .ok (.invokevirtual 39, 3) := by decide +kernel
theorem dX3_gather_74 : decode cX3_gather 74 = .ok (.aload_n 0, 1) := by decide +kernel
theorem dX3_gather_75 : decode cX3_gather 75 = .ok (.getfield 18, 3) := by decide +kernel
theorem dX3_gather_78 : decode cX3_gather 78 = .ok (.iload 4, 2) := by decide +kernel
theorem dX3_gather_80 : decode cX3_gather 80 = .ok (.iconst 2, 1) := by decide +kernel
theorem dX3_gather_81 : decode cX3_gather 81 = .ok (.invokevirtual 39, 3) := by decide +kernel
theorem dX3_gather_84 : decode cX3_gather 84 = .ok (.iload 5, 2) := by decide +kernel
theorem dX3_gather_86 : decode cX3_gather 86 = .ok (.invokevirtual 32, 3) := by decide +kernel
theorem dX3_gather_89 : decode cX3_gather 89 = .ok (.iload_n 3, 1) := by decide +kernel
theorem dX3_gather_90 : decode cX3_gather 90 = .ok (.iload 5, 2) := by decide +kernel
theorem dX3_gather_92 : decode cX3_gather 92 = .ok (.isub, 1) := by decide +kernel
theorem dX3_gather_93 : decode cX3_gather 93 = .ok (.istore_n 3, 1) := by decide +kernel
theorem dX3_gather_94 : decode cX3_gather 94 = .ok (.iinc 4 (-1), 3) := by decide +kernel
theorem dX3_gather_97 : decode cX3_gather 97 = .ok (.goto (-77), 3) := by decide +kernel
theorem dX3_gather_100 : decode cX3_gather 100 = .ok (.iload_n 3, 1) := by decide +kernel
theorem dX3_gather_101 : decode cX3_gather 101 = .ok (.ifCond .ne 7, 3) := by decide +kernel
theorem dX3_gather_104 : decode cX3_gather 104 = .ok (.iconst 1, 1) := by decide +kernel
theorem dX3_gather_105 : decode cX3_gather 105 = .ok (.goto 4, 3) := by decide +kernel
theorem dX3_gather_108 : decode cX3_gather 108 = .ok (.iconst 0, 1) := by decide +kernel
theorem dX3_gather_109 : decode cX3_gather 109 = .ok (.ireturn, 1) := by decide +kernel
theorem dX3_sendOut_0 : decode cX3_sendOut 0 = .ok (.iload_n 2, 1) := by decide +kernel
theorem dX3_sendOut_1 : decode cX3_sendOut 1 = .ok (.istore_n 3, 1) := by decide +kernel
theorem dX3_sendOut_2 : decode cX3_sendOut 2 = .ok (.aload_n 0, 1) := by decide +kernel
theorem dX3_sendOut_3 : decode cX3_sendOut 3 = .ok (.getfield 18, 3) := by decide +kernel
theorem dX3_sendOut_6 : decode cX3_sendOut 6 = .ok (.getfield 36, 3) := by decide +kernel
theorem dX3_sendOut_9 : decode cX3_sendOut 9 = .ok (.iconst 1, 1) := by decide +kernel
theorem dX3_sendOut_10 : decode cX3_sendOut 10 = .ok (.isub, 1) := by decide +kernel
theorem dX3_sendOut_11 : decode cX3_sendOut 11 = .ok (.istore 4, 2) := by decide +kernel
theorem dX3_sendOut_13 : decode cX3_sendOut 13 = .ok (.iload 4, 2) := by decide +kernel
theorem dX3_sendOut_15 : decode cX3_sendOut 15 = .ok (.ifCond .lt 109, 3) := by decide +kernel
theorem dX3_sendOut_18 : decode cX3_sendOut 18 = .ok (.iload_n 3, 1) := by decide +kernel
theorem dX3_sendOut_19 : decode cX3_sendOut 19 = .ok (.ifCond .le 105, 3) := by decide +kernel
theorem dX3_sendOut_22 : decode cX3_sendOut 22 = .ok (.aload_n 0, 1) := by decide +kernel
theorem dX3_sendOut_23 : decode cX3_sendOut 23 = .ok (.getfield 18, 3) := by decide +kernel
theorem dX3_sendOut_26 : decode cX3_sendOut 26 = .ok (.iload 4, 2) := by decide +kernel
theorem dX3_sendOut_28 : decode cX3_sendOut 28 = .ok (.iconst 0, 1) := by decide +kernel
theorem dX3_sendOut_29 : decode cX3_sendOut 29 = .ok (.invokevirtual 39, 3) := by decide +kernel
theorem dX3_sendOut_32 : decode cX3_sendOut 32 = .ok (.iload_n 1, 1) := by decide +kernel
theorem dX3_sendOut_33 : decode cX3_sendOut 33 = .ok (.if_icmp .ne 85, 3) := by decide +kernel
theorem dX3_sendOut_36 : decode cX3_sendOut 36 = .ok (.aload_n 0, 1) := by decide +kernel
theorem dX3_sendOut_37 : decode cX3_sendOut 37 = .ok (.getfield 18, 3) := by decide +kernel
theorem dX3_sendOut_40 : decode cX3_sendOut 40 = .ok (.iload 4, 2) := by decide +kernel
theorem dX3_sendOut_42 : decode cX3_sendOut 42 = .ok (.iconst 3, 1) := by decide +kernel
theorem dX3_sendOut_43 : decode cX3_sendOut 43 = .ok (.invokevirtual 39, 3) := by decide +kernel
theorem dX3_sendOut_46 : decode cX3_sendOut 46 = .ok (.istore 5, 2) := by decide +kernel
theorem dX3_sendOut_48 : decode cX3_sendOut 48 = .ok (.iload_n 3, 1) := by decide +kernel
theorem dX3_sendOut_49 : decode cX3_sendOut 49 = .ok (.iload 5, 2) := by decide +kernel
theorem dX3_sendOut_51 : decode cX3_sendOut 51 = .ok (.invokestatic 46, 3) := by decide +kernel
theorem dX3_sendOut_54 : decode cX3_sendOut 54 = .ok (.istore 6, 2) := by decide +kernel
theorem dX3_sendOut_56 : decode cX3_sendOut 56 = .ok (.iload_n 3, 1) := by decide +kernel
theorem dX3_sendOut_57 : decode cX3_sendOut 57 = .ok (.iload 6, 2) := by decide +kernel
theorem dX3_sendOut_59 : decode cX3_sendOut 59 = .ok (.isub, 1) := by decide +kernel
theorem dX3_sendOut_60 : decode cX3_sendOut 60 = .ok (.istore_n 3, 1) := by decide +kernel
theorem dX3_sendOut_61 : decode cX3_sendOut 61 = .ok (.iload 6, 2) := by decide +kernel
theorem dX3_sendOut_63 : decode cX3_sendOut 63 = .ok (.iload 5, 2) := by decide +kernel
theorem dX3_sendOut_65 : decode cX3_sendOut 65 = .ok (.if_icmp .ne 15, 3) := by decide +kernel
theorem dX3_sendOut_68 : decode cX3_sendOut 68 = .ok (.aload_n 0, 1) := by decide +kernel
theorem dX3_sendOut_69 : decode cX3_sendOut 69 = .ok (.getfield 18, 3) := by decide +kernel
theorem dX3_sendOut_72 : decode cX3_sendOut 72 = .ok (.iload 4, 2) := by decide +kernel
theorem dX3_sendOut_74 : decode cX3_sendOut 74 = .ok (.invokevirtual 51, 3) := by decide +kernel
theorem dX3_sendOut_77 : decode cX3_sendOut 77 = .ok (.goto 41, 3) := by decide +kernel
theorem dX3_sendOut_80 : decode cX3_sendOut 80 = .ok (.aload_n 0, 1) := by decide +kernel
theorem dX3_sendOut_81 : decode cX3_sendOut 81 = .ok (.getfield 18, 3) := by decide +kernel
theorem dX3_sendOut_84 : decode cX3_sendOut 84 = .ok (.iload 4, 2) := by decide +kernel
theorem dX3_sendOut_86 : decode cX3_sendOut 86 = .ok (.iconst 2, 1) := by decide +kernel
theorem dX3_sendOut_87 : decode cX3_sendOut 87 = .ok (.aload_n 0, 1) := by decide +kernel
theorem dX3_sendOut_88 : decode cX3_sendOut 88 = .ok (.getfield 18, 3) := by decide +kernel
theorem dX3_sendOut_91 : decode cX3_sendOut 91 = .ok (.iload 4, 2) := by decide +kernel
theorem dX3_sendOut_93 : decode cX3_sendOut 93 = .ok (.iconst 2, 1) := by decide +kernel
theorem dX3_sendOut_94 : decode cX3_sendOut 94 = .ok (.invokevirtual 39, 3) := by decide +kernel
theorem dX3_sendOut_97 : decode cX3_sendOut 97 = .ok (.iload 6, 2) := by decide +kernel
theorem dX3_sendOut_99 : decode cX3_sendOut 99 = .ok (.iadd, 1) := by decide +kernel
theorem dX3_sendOut_100 : decode cX3_sendOut 100 = .ok (.invokevirtual 55, 3) := by decide +kernel
theorem dX3_sendOut_103 : decode cX3_sendOut 103 = .ok (.aload_n 0, 1) := by decide +kernel
theorem dX3_sendOut_104 : decode cX3_sendOut 104 = .ok (.getfield 18, 3) := by decide +kernel
theorem dX3_sendOut_107 : decode cX3_sendOut 107 = .ok (.iload 4, 2) := by decide +kernel
theorem dX3_sendOut_109 : decode cX3_sendOut 109 = .ok (.iconst 3, 1) := by decide +kernel
theorem dX3_sendOut_110 : decode cX3_sendOut 110 = .ok (.iload 5, 2) := by decide +kernel
theorem dX3_sendOut_112 : decode cX3_sendOut 112 = .ok (.iload 6, 2) := by decide +kernel
theorem dX3_sendOut_114 : decode cX3_sendOut 114 = .ok (.isub, 1) := by decide +kernel
theorem dX3_sendOut_115 : decode cX3_sendOut 115 = .ok (.invokevirtual 55, 3) := by decide +kernel
theorem dX3_sendOut_118 : decode cX3_sendOut 118 = .ok (.iinc 4 (-1), 3) := by decide +kernel
theorem dX3_sendOut_121 : decode cX3_sendOut 121 = .ok (.goto (-108), 3) := by decide +kernel
theorem dX3_sendOut_124 : decode cX3_sendOut 124 = .ok (.return_, 1) := by decide +kernel
theorem dX3_fits_0 : decode cX3_fits 0 = .ok (.iload_n 1, 1) := by decide +kernel
theorem dX3_fits_1 : decode cX3_fits 1 = .ok (.istore_n 3, 1) := by decide +kernel
theorem dX3_fits_2 : decode cX3_fits 2 = .ok (.iconst 0, 1) := by decide +kernel
theorem dX3_fits_3 : decode cX3_fits 3 = .ok (.istore 4, 2) := by decide +kernel
theorem dX3_fits_5 : decode cX3_fits 5 = .ok (.iload 4, 2) := by decide +kernel
theorem dX3_fits_7 : decode cX3_fits 7 = .ok (.aload_n 0, 1) := by decide +kernel
theorem dX3_fits_8 : decode cX3_fits 8 = .ok (.getfield 22, 3) := by decide +kernel
theorem dX3_fits_11 : decode cX3_fits 11 = .ok (.getfield 36, 3) := by decide +kernel
theorem dX3_fits_14 : decode cX3_fits 14 = .ok (.if_icmp .ge 39, 3) := by decide +kernel
theorem dX3_fits_17 : decode cX3_fits 17 = .ok (.aload_n 0, 1) := by decide +kernel
theorem dX3_fits_18 : decode cX3_fits 18 = .ok (.aload_n 0, 1) := by decide +kernel
theorem dX3_fits_19 : decode cX3_fits 19 = .ok (.getfield 22, 3) := by decide +kernel
theorem dX3_fits_22 : decode cX3_fits 22 = .ok (.iload 4, 2) := by decide +kernel
theorem dX3_fits_24 : decode cX3_fits 24 = .ok (.iconst 1, 1) := by decide +kernel
theorem dX3_fits_25 : decode cX3_fits 25 = .ok (.invokevirtual 39, 3) := by decide +kernel
theorem dX3_fits_28 : decode cX3_fits 28 = .ok (.invokevirtual 59, 3) := by decide +kernel
theorem dX3_fits_31 : decode cX3_fits 31 = .ok (.istore 5, 2) := by decide +kernel
theorem dX3_fits_33 : decode cX3_fits 33 = .ok (.iload_n 3, 1) := by decide +kernel
theorem dX3_fits_34 : decode cX3_fits 34 = .ok (.iload 5, 2) := by decide +kernel
theorem dX3_fits_36 : decode cX3_fits 36 = .ok (.invokestatic 63, 3) := by decide +kernel
theorem dX3_fits_39 : decode cX3_fits 39 = .ok (.ifCond .ne 5, 3) := by decide +kernel
theorem dX3_fits_42 : decode cX3_fits 42 = .ok (.iconst 0, 1) := by decide +kernel
theorem dX3_fits_43 : decode cX3_fits 43 = .ok (.ireturn, 1) := by decide +kernel
theorem dX3_fits_44 : decode cX3_fits 44 = .ok (.iload 5, 2) := by decide +kernel
theorem dX3_fits_46 : decode cX3_fits 46 = .ok (.istore_n 3, 1) := by decide +kernel
theorem dX3_fits_47 : decode cX3_fits 47 = .ok (.iinc 4 1, 3) := by decide +kernel
theorem dX3_fits_50 : decode cX3_fits 50 = .ok (.goto (-45), 3) := by decide +kernel
theorem dX3_fits_53 : decode cX3_fits 53 = .ok (.iload_n 3, 1) := by decide +kernel
theorem dX3_fits_54 : decode cX3_fits 54 = .ok (.iload_n 2, 1) := by decide +kernel
theorem dX3_fits_55 : decode cX3_fits 55 = .ok (.invokestatic 63, 3) := by decide +kernel
theorem dX3_fits_58 : decode cX3_fits 58 = .ok (.ireturn, 1) := by decide +kernel
theorem dX3_holdsAt_0 : decode cX3_holdsAt 0 = .ok (.iconst 0, 1) := by decide +kernel
theorem dX3_holdsAt_1 : decode cX3_holdsAt 1 = .ok (.istore_n 2, 1) := by decide +kernel
theorem dX3_holdsAt_2 : decode cX3_holdsAt 2 = .ok (.iload_n 2, 1) := by decide +kernel
theorem dX3_holdsAt_3 : decode cX3_holdsAt 3 = .ok (.aload_n 0, 1) := by decide +kernel
theorem dX3_holdsAt_4 : decode cX3_holdsAt 4 = .ok (.getfield 22, 3) := by decide +kernel
theorem dX3_holdsAt_7 : decode cX3_holdsAt 7 = .ok (.getfield 36, 3) := by decide +kernel
theorem dX3_holdsAt_10 : decode cX3_holdsAt 10 = .ok (.if_icmp .ge 37, 3) := by decide +kernel
theorem dX3_holdsAt_13 : decode cX3_holdsAt 13 = .ok (.aload_n 0, 1) := by decide +kernel
theorem dX3_holdsAt_14 : decode cX3_holdsAt 14 = .ok (.aload_n 0, 1) := by decide +kernel
theorem dX3_holdsAt_15 : decode cX3_holdsAt 15 = .ok (.getfield 22, 3) := by decide +kernel
theorem dX3_holdsAt_18 : decode cX3_holdsAt 18 = .ok (.iload_n 2, 1) := by decide +kernel
theorem dX3_holdsAt_19 : decode cX3_holdsAt 19 = .ok (.iconst 1, 1) := by decide +kernel
theorem dX3_holdsAt_20 : decode cX3_holdsAt 20 = .ok (.invokevirtual 39, 3) := by decide +kernel
theorem dX3_holdsAt_23 : decode cX3_holdsAt 23 = .ok (.invokevirtual 59, 3) := by decide +kernel
theorem dX3_holdsAt_26 : decode cX3_holdsAt 26 = .ok (.istore_n 3, 1) := by decide +kernel
theorem dX3_holdsAt_27 : decode cX3_holdsAt 27 = .ok (.iload_n 3, 1) := by decide +kernel
theorem dX3_holdsAt_28 : decode cX3_holdsAt 28 = .ok (.iload_n 1, 1) := by decide +kernel
theorem dX3_holdsAt_29 : decode cX3_holdsAt 29 = .ok (.invokestatic 67, 3) := by decide +kernel
theorem dX3_holdsAt_32 : decode cX3_holdsAt 32 = .ok (.iload_n 3, 1) := by decide +kernel
theorem dX3_holdsAt_33 : decode cX3_holdsAt 33 = .ok (.invokestatic 70, 3) := by decide +kernel
theorem dX3_holdsAt_36 : decode cX3_holdsAt 36 = .ok (.if_icmp .le 5, 3) := by decide +kernel
theorem dX3_holdsAt_39 : decode cX3_holdsAt 39 = .ok (.iconst 0, 1) := by decide +kernel
theorem dX3_holdsAt_40 : decode cX3_holdsAt 40 = .ok (.ireturn, 1) := by decide +kernel
theorem dX3_holdsAt_41 : decode cX3_holdsAt 41 = .ok (.iinc 2 1, 3) := by decide +kernel
theorem dX3_holdsAt_44 : decode cX3_holdsAt 44 = .ok (.goto (-42), 3) := by decide +kernel
theorem dX3_holdsAt_47 : decode cX3_holdsAt 47 = .ok (.iconst 1, 1) := by decide +kernel
theorem dX3_holdsAt_48 : decode cX3_holdsAt 48 = .ok (.ireturn, 1) := by decide +kernel
theorem dX3_pull_0 : decode cX3_pull 0 = .ok (.bipush 12, 2) := by decide +kernel
theorem dX3_pull_2 : decode cX3_pull 2 = .ok (.iconst 3, 1) := by decide +kernel
theorem dX3_pull_3 : decode cX3_pull 3 = .ok (.iload_n 0, 1) := by decide +kernel
theorem dX3_pull_4 : decode cX3_pull 4 = .ok (.imul, 1) := by decide +kernel
theorem dX3_pull_5 : decode cX3_pull 5 = .ok (.isub, 1) := by decide +kernel
theorem dX3_pull_6 : decode cX3_pull 6 = .ok (.iload_n 1, 1) := by decide +kernel
theorem dX3_pull_7 : decode cX3_pull 7 = .ok (.imul, 1) := by decide +kernel
theorem dX3_pull_8 : decode cX3_pull 8 = .ok (.bipush 100, 2) := by decide +kernel
theorem dX3_pull_10 : decode cX3_pull 10 = .ok (.idiv, 1) := by decide +kernel
theorem dX3_pull_11 : decode cX3_pull 11 = .ok (.ireturn, 1) := by decide +kernel
theorem dX3_mostPull_0 : decode cX3_mostPull 0 = .ok (.iload_n 0, 1) := by decide +kernel
theorem dX3_mostPull_1 : decode cX3_mostPull 1 = .ok (.tableswitch 37 0 2 #[27, 30, 33], 27) := by decide +kernel
theorem dX3_mostPull_28 : decode cX3_mostPull 28 = .ok (.bipush 60, 2) := by decide +kernel
theorem dX3_mostPull_30 : decode cX3_mostPull 30 = .ok (.ireturn, 1) := by decide +kernel
theorem dX3_mostPull_31 : decode cX3_mostPull 31 = .ok (.bipush 90, 2) := by decide +kernel
theorem dX3_mostPull_33 : decode cX3_mostPull 33 = .ok (.ireturn, 1) := by decide +kernel
theorem dX3_mostPull_34 : decode cX3_mostPull 34 = .ok (.sipush 150, 3) := by decide +kernel
theorem dX3_mostPull_37 : decode cX3_mostPull 37 = .ok (.ireturn, 1) := by decide +kernel
theorem dX3_mostPull_38 : decode cX3_mostPull 38 = .ok (.sipush 200, 3) := by decide +kernel
theorem dX3_mostPull_41 : decode cX3_mostPull 41 = .ok (.ireturn, 1) := by decide +kernel
theorem dX3_isNear_0 : decode cX3_isNear 0 = .ok (.iload_n 0, 1) := by decide +kernel
theorem dX3_isNear_1 : decode cX3_isNear 1 = .ok (.iconst (-1), 1) := by decide +kernel
theorem dX3_isNear_2 : decode cX3_isNear 2 = .ok (.if_icmp .eq 18, 3) := by decide +kernel
theorem dX3_isNear_5 : decode cX3_isNear 5 = .ok (.iload_n 1, 1) := by decide +kernel
theorem dX3_isNear_6 : decode cX3_isNear 6 = .ok (.iconst (-1), 1) := by decide +kernel
theorem dX3_isNear_7 : decode cX3_isNear 7 = .ok (.if_icmp .eq 13, 3) := by decide +kernel
theorem dX3_isNear_10 : decode cX3_isNear 10 = .ok (.iload_n 0, 1) := by decide +kernel
theorem dX3_isNear_11 : decode cX3_isNear 11 = .ok (.iload_n 1, 1) := by decide +kernel
theorem dX3_isNear_12 : decode cX3_isNear 12 = .ok (.isub, 1) := by decide +kernel
theorem dX3_isNear_13 : decode cX3_isNear 13 = .ok (.invokestatic 73, 3) := by decide +kernel
theorem dX3_isNear_16 : decode cX3_isNear 16 = .ok (.iconst 1, 1) := by decide +kernel
theorem dX3_isNear_17 : decode cX3_isNear 17 = .ok (.if_icmp .gt 7, 3) := by decide +kernel
theorem dX3_isNear_20 : decode cX3_isNear 20 = .ok (.iconst 1, 1) := by decide +kernel
theorem dX3_isNear_21 : decode cX3_isNear 21 = .ok (.goto 4, 3) := by decide +kernel
theorem dX3_isNear_24 : decode cX3_isNear 24 = .ok (.iconst 0, 1) := by decide +kernel
theorem dX3_isNear_25 : decode cX3_isNear 25 = .ok (.ireturn, 1) := by decide +kernel
