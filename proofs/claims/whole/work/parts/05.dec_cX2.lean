theorem dX2_init_0 : decode cX2_init 0 = .ok (.aload_n 0, 1) := by decide +kernel
theorem dX2_init_1 : decode cX2_init 1 = .ok (.invokespecial 3, 3) := by decide +kernel
theorem dX2_init_4 : decode cX2_init 4 = .ok (.aload_n 0, 1) := by decide +kernel
theorem dX2_init_5 : decode cX2_init 5 = .ok (.new 9, 3) := by decide +kernel
theorem dX2_init_8 : decode cX2_init 8 = .ok (.dup, 1) := by decide +kernel
theorem dX2_init_9 : decode cX2_init 9 = .ok (.invokespecial 11, 3) := by decide +kernel
theorem dX2_init_12 : decode cX2_init 12 = .ok (.putfield 12, 3) := by decide +kernel
theorem dX2_init_15 : decode cX2_init 15 = .ok (.return_, 1) := by decide +kernel
theorem dX2_size_0 : decode cX2_size 0 = .ok (.aload_n 0, 1) := by decide +kernel
theorem dX2_size_1 : decode cX2_size 1 = .ok (.getfield 12, 3) := by decide +kernel
theorem dX2_size_4 : decode cX2_size 4 = .ok (.getfield 18, 3) := by decide +kernel
theorem dX2_size_7 : decode cX2_size 7 = .ok (.ireturn, 1) := by decide +kernel
theorem dX2_enter_0 : decode cX2_enter 0 = .ok (.aload_n 0, 1) := by decide +kernel
theorem dX2_enter_1 : decode cX2_enter 1 = .ok (.getfield 12, 3) := by decide +kernel
theorem dX2_enter_4 : decode cX2_enter 4 = .ok (.iload_n 1, 1) := by decide +kernel
theorem dX2_enter_5 : decode cX2_enter 5 = .ok (.iload_n 2, 1) := by decide +kernel
theorem dX2_enter_6 : decode cX2_enter 6 = .ok (.iconst 0, 1) := by decide +kernel
theorem dX2_enter_7 : decode cX2_enter 7 = .ok (.iload_n 3, 1) := by decide +kernel
theorem dX2_enter_8 : decode cX2_enter 8 = .ok (.invokevirtual 21, 3) := by decide +kernel
theorem dX2_enter_11 : decode cX2_enter 11 = .ok (.return_, 1) := by decide +kernel
theorem dX2_placeOf_0 : decode cX2_placeOf 0 = .ok (.aload_n 0, 1) := by decide +kernel
theorem dX2_placeOf_1 : decode cX2_placeOf 1 = .ok (.getfield 12, 3) := by decide +kernel
theorem dX2_placeOf_4 : decode cX2_placeOf 4 = .ok (.iload_n 1, 1) := by decide +kernel
theorem dX2_placeOf_5 : decode cX2_placeOf 5 = .ok (.iconst 1, 1) := by decide +kernel
theorem dX2_placeOf_6 : decode cX2_placeOf 6 = .ok (.invokevirtual 25, 3) := by decide +kernel
theorem dX2_placeOf_9 : decode cX2_placeOf 9 = .ok (.ireturn, 1) := by decide +kernel
theorem dX2_tell_0 : decode cX2_tell 0 = .ok (.iload_n 2, 1) := by decide +kernel
theorem dX2_tell_1 : decode cX2_tell 1 = .ok (.lookupswitch 47 #[(0, 27), (1, 37)], 27) := by decide +kernel
theorem dX2_tell_28 : decode cX2_tell 28 = .ok (.aload_n 0, 1) := by decide +kernel
theorem dX2_tell_29 : decode cX2_tell 29 = .ok (.getfield 12, 3) := by decide +kernel
theorem dX2_tell_32 : decode cX2_tell 32 = .ok (.iload_n 1, 1) := by decide +kernel
theorem dX2_tell_33 : decode cX2_tell 33 = .ok (.iconst 0, 1) := by decide +kernel
theorem dX2_tell_34 : decode cX2_tell 34 = .ok (.invokevirtual 25, 3) := by decide +kernel
theorem dX2_tell_37 : decode cX2_tell 37 = .ok (.ireturn, 1) := by decide +kernel
theorem dX2_tell_38 : decode cX2_tell 38 = .ok (.aload_n 0, 1) := by decide +kernel
theorem dX2_tell_39 : decode cX2_tell 39 = .ok (.getfield 12, 3) := by decide +kernel
theorem dX2_tell_42 : decode cX2_tell 42 = .ok (.iload_n 1, 1) := by decide +kernel
theorem dX2_tell_43 : decode cX2_tell 43 = .ok (.iconst 2, 1) := by decide +kernel
theorem dX2_tell_44 : decode cX2_tell 44 = .ok (.invokevirtual 25, 3) := by decide +kernel
theorem dX2_tell_47 : decode cX2_tell 47 = .ok (.ireturn, 1) := by decide +kernel
theorem dX2_tell_48 : decode cX2_tell 48 = .ok (.aload_n 0, 1) := by decide +kernel
theorem dX2_tell_49 : decode cX2_tell 49 = .ok (.getfield 12, 3) := by decide +kernel
theorem dX2_tell_52 : decode cX2_tell 52 = .ok (.iload_n 1, 1) := by decide +kernel
theorem dX2_tell_53 : decode cX2_tell 53 = .ok (.iconst 3, 1) := by decide +kernel
theorem dX2_tell_54 : decode cX2_tell 54 = .ok (.invokevirtual 25, 3) := by decide +kernel
theorem dX2_tell_57 : decode cX2_tell 57 = .ok (.ireturn, 1) := by decide +kernel
theorem dX2_beginAnew_0 : decode cX2_beginAnew 0 = .ok (.iconst 0, 1) := by decide +kernel
theorem dX2_beginAnew_1 : decode cX2_beginAnew 1 = .ok (.istore_n 2, 1) := by decide +kernel
theorem dX2_beginAnew_2 : decode cX2_beginAnew 2 = .ok (.iload_n 2, 1) := by decide +kernel
theorem dX2_beginAnew_3 : decode cX2_beginAnew 3 = .ok (.aload_n 0, 1) := by decide +kernel
theorem dX2_beginAnew_4 : decode cX2_beginAnew 4 = .ok (.getfield 12, 3) := by decide +kernel
theorem dX2_beginAnew_7 : decode cX2_beginAnew 7 = .ok (.getfield 18, 3) := by decide +kernel
theorem dX2_beginAnew_10 : decode cX2_beginAnew 10 = .ok (.if_icmp .ge 29, 3) := by decide +kernel
theorem dX2_beginAnew_13 : decode cX2_beginAnew 13 = .ok (.aload_n 0, 1) := by decide +kernel
theorem dX2_beginAnew_14 : decode cX2_beginAnew 14 = .ok (.getfield 12, 3) := by decide +kernel
theorem dX2_beginAnew_17 : decode cX2_beginAnew 17 = .ok (.iload_n 2, 1) := by decide +kernel
theorem dX2_beginAnew_18 : decode cX2_beginAnew 18 = .ok (.iconst 2, 1) := by decide +kernel
theorem dX2_beginAnew_19 : decode cX2_beginAnew 19 = .ok (.iconst 0, 1) := by decide +kernel
theorem dX2_beginAnew_20 : decode cX2_beginAnew 20 = .ok (.invokevirtual 29, 3) := by decide +kernel
theorem dX2_beginAnew_23 : decode cX2_beginAnew 23 = .ok (.aload_n 0, 1) := by decide +kernel
theorem dX2_beginAnew_24 : decode cX2_beginAnew 24 = .ok (.getfield 12, 3) := by decide +kernel
theorem dX2_beginAnew_27 : decode cX2_beginAnew 27 = .ok (.iload_n 2, 1) := by decide +kernel
theorem dX2_beginAnew_28 : decode cX2_beginAnew 28 = .ok (.iconst 3, 1) := by decide +kernel
theorem dX2_beginAnew_29 : decode cX2_beginAnew 29 = .ok (.iload_n 1, 1) := by decide +kernel
theorem dX2_beginAnew_30 : decode cX2_beginAnew 30 = .ok (.invokevirtual 29, 3) := by decide +kernel
theorem dX2_beginAnew_33 : decode cX2_beginAnew 33 = .ok (.iinc 2 1, 3) := by decide +kernel
theorem dX2_beginAnew_36 : decode cX2_beginAnew 36 = .ok (.goto (-34), 3) := by decide +kernel
theorem dX2_beginAnew_39 : decode cX2_beginAnew 39 = .ok (.return_, 1) := by decide +kernel
theorem dX2_dropFrom_0 : decode cX2_dropFrom 0 = .ok (.aload_n 0, 1) := by decide +kernel
theorem dX2_dropFrom_1 : decode cX2_dropFrom 1 = .ok (.getfield 12, 3) := by decide +kernel
theorem dX2_dropFrom_4 : decode cX2_dropFrom 4 = .ok (.getfield 18, 3) := by decide +kernel
theorem dX2_dropFrom_7 : decode cX2_dropFrom 7 = .ok (.iconst 1, 1) := by decide +kernel
theorem dX2_dropFrom_8 : decode cX2_dropFrom 8 = .ok (.isub, 1) := by decide +kernel
theorem dX2_dropFrom_9 : decode cX2_dropFrom 9 = .ok (.istore_n 2, 1) := by decide +kernel
theorem dX2_dropFrom_10 : decode cX2_dropFrom 10 = .ok (.iload_n 2, 1) := by decide +kernel
theorem dX2_dropFrom_11 : decode cX2_dropFrom 11 = .ok (.ifCond .lt 30, 3) := by decide +kernel
theorem dX2_dropFrom_14 : decode cX2_dropFrom 14 = .ok (.aload_n 0, 1) := by decide +kernel
theorem dX2_dropFrom_15 : decode cX2_dropFrom 15 = .ok (.getfield 12, 3) := by decide +kernel
theorem dX2_dropFrom_18 : decode cX2_dropFrom 18 = .ok (.iload_n 2, 1) := by decide +kernel
theorem dX2_dropFrom_19 : decode cX2_dropFrom 19 = .ok (.iconst 1, 1) := by decide +kernel
theorem dX2_dropFrom_20 : decode cX2_dropFrom 20 = .ok (.invokevirtual 25, 3) := by decide +kernel
theorem dX2_dropFrom_23 : decode cX2_dropFrom 23 = .ok (.iload_n 1, 1) := by decide +kernel
theorem dX2_dropFrom_24 : decode cX2_dropFrom 24 = .ok (.if_icmp .lt 11, 3) := by decide +kernel
theorem dX2_dropFrom_27 : decode cX2_dropFrom 27 = .ok (.aload_n 0, 1) := by decide +kernel
theorem dX2_dropFrom_28 : decode cX2_dropFrom 28 = .ok (.getfield 12, 3) := by decide +kernel
theorem dX2_dropFrom_31 : decode cX2_dropFrom 31 = .ok (.iload_n 2, 1) := by decide +kernel
theorem dX2_dropFrom_32 : decode cX2_dropFrom 32 = .ok (.invokevirtual 33, 3) := by decide +kernel
theorem dX2_dropFrom_35 : decode cX2_dropFrom 35 = .ok (.iinc 2 (-1), 3) := by decide +kernel
theorem dX2_dropFrom_38 : decode cX2_dropFrom 38 = .ok (.goto (-28), 3) := by decide +kernel
theorem dX2_dropFrom_41 : decode cX2_dropFrom 41 = .ok (.return_, 1) := by decide +kernel
theorem dX2_cutOut_0 : decode cX2_cutOut 0 = .ok (.iconst 0, 1) := by decide +kernel
theorem dX2_cutOut_1 : decode cX2_cutOut 1 = .ok (.istore 4, 2) := by decide +kernel
theorem dX2_cutOut_3 : decode cX2_cutOut 3 = .ok (.aload_n 0, 1) := by decide +kernel
theorem dX2_cutOut_4 : decode cX2_cutOut 4 = .ok (.getfield 12, 3) := by decide +kernel
theorem dX2_cutOut_7 : decode cX2_cutOut 7 = .ok (.getfield 18, 3) := by decide +kernel
theorem dX2_cutOut_10 : decode cX2_cutOut 10 = .ok (.iconst 1, 1) := by decide +kernel
theorem dX2_cutOut_11 : decode cX2_cutOut 11 = .ok (.isub, 1) := by decide +kernel
theorem dX2_cutOut_12 : decode cX2_cutOut 12 = .ok (.istore 5, 2) := by decide +kernel
theorem dX2_cutOut_14 : decode cX2_cutOut 14 = .ok (.iload 5, 2) := by decide +kernel
theorem dX2_cutOut_16 : decode cX2_cutOut 16 = .ok (.ifCond .lt 62, 3) := by decide +kernel
theorem dX2_cutOut_19 : decode cX2_cutOut 19 = .ok (.aload_n 0, 1) := by decide +kernel
theorem dX2_cutOut_20 : decode cX2_cutOut 20 = .ok (.getfield 12, 3) := by decide +kernel
theorem dX2_cutOut_23 : decode cX2_cutOut 23 = .ok (.iload 5, 2) := by decide +kernel
theorem dX2_cutOut_25 : decode cX2_cutOut 25 = .ok (.iconst 1, 1) := by decide +kernel
theorem dX2_cutOut_26 : decode cX2_cutOut 26 = .ok (.invokevirtual 25, 3) := by decide +kernel
theorem dX2_cutOut_29 : decode cX2_cutOut 29 = .ok (.istore 6, 2) := by decide +kernel
theorem dX2_cutOut_31 : decode cX2_cutOut 31 = .ok (.iload 6, 2) := by decide +kernel
theorem dX2_cutOut_33 : decode cX2_cutOut 33 = .ok (.iload_n 2, 1) := by decide +kernel
theorem dX2_cutOut_34 : decode cX2_cutOut 34 = .ok (.if_icmp .lt 20, 3) := by decide +kernel
theorem dX2_cutOut_37 : decode cX2_cutOut 37 = .ok (.aload_n 0, 1) := by decide +kernel
theorem dX2_cutOut_38 : decode cX2_cutOut 38 = .ok (.getfield 12, 3) := by decide +kernel
theorem dX2_cutOut_41 : decode cX2_cutOut 41 = .ok (.iload 5, 2) := by decide +kernel
theorem dX2_cutOut_43 : decode cX2_cutOut 43 = .ok (.iconst 1, 1) := by decide +kernel
theorem dX2_cutOut_44 : decode cX2_cutOut 44 = .ok (.iload 6, 2) := by decide +kernel
theorem dX2_cutOut_46 : decode cX2_cutOut 46 = .ok (.iload_n 3, 1) := by decide +kernel
theorem dX2_cutOut_47 : decode cX2_cutOut 47 = .ok (.iadd, 1) := by decide +kernel
theorem dX2_cutOut_48 : decode cX2_cutOut 48 = .ok (.invokevirtual 29, 3) := by decide +kernel
theorem dX2_cutOut_51 : decode cX2_cutOut 51 = .ok (.goto 21, 3) := by decide +kernel
theorem dX2_cutOut_54 : decode cX2_cutOut 54 = .ok (.iload 6, 2) := by decide +kernel
theorem dX2_cutOut_56 : decode cX2_cutOut 56 = .ok (.iload_n 1, 1) := by decide +kernel
theorem dX2_cutOut_57 : decode cX2_cutOut 57 = .ok (.if_icmp .lt 15, 3) := by decide +kernel
theorem dX2_cutOut_60 : decode cX2_cutOut 60 = .ok (.aload_n 0, 1) := by decide +kernel
theorem dX2_cutOut_61 : decode cX2_cutOut 61 = .ok (.getfield 12, 3) := by decide +kernel
theorem dX2_cutOut_64 : decode cX2_cutOut 64 = .ok (.iload 5, 2) := by decide +kernel
theorem dX2_cutOut_66 : decode cX2_cutOut 66 = .ok (.invokevirtual 33, 3) := by decide +kernel
theorem dX2_cutOut_69 : decode cX2_cutOut 69 = .ok (.iinc 4 1, 3) := by decide +kernel
theorem dX2_cutOut_72 : decode cX2_cutOut 72 = .ok (.iinc 5 (-1), 3) := by decide +kernel
theorem dX2_cutOut_75 : decode cX2_cutOut 75 = .ok (.goto (-61), 3) := by decide +kernel
theorem dX2_cutOut_78 : decode cX2_cutOut 78 = .ok (.iload 4, 2) := by decide +kernel
theorem dX2_cutOut_80 : decode cX2_cutOut 80 = .ok (.ireturn, 1) := by decide +kernel
theorem dX2_hasBreak_0 : decode cX2_hasBreak 0 = .ok (.iconst 0, 1) := by decide +kernel
theorem dX2_hasBreak_1 : decode cX2_hasBreak 1 = .ok (.istore_n 1, 1) := by decide +kernel
theorem dX2_hasBreak_2 : decode cX2_hasBreak 2 = .ok (.iload_n 1, 1) := by decide +kernel
theorem dX2_hasBreak_3 : decode cX2_hasBreak 3 = .ok (.aload_n 0, 1) := by decide +kernel
theorem dX2_hasBreak_4 : decode cX2_hasBreak 4 = .ok (.getfield 12, 3) := by decide +kernel
theorem dX2_hasBreak_7 : decode cX2_hasBreak 7 = .ok (.getfield 18, 3) := by decide +kernel
theorem dX2_hasBreak_10 : decode cX2_hasBreak 10 = .ok (.if_icmp .ge 24, 3) := by decide +kernel
theorem dX2_hasBreak_13 : decode cX2_hasBreak 13 = .ok (.aload_n 0, 1) := by decide +kernel
theorem dX2_hasBreak_14 : decode cX2_hasBreak 14 = .ok (.getfield 12, 3) := by decide +kernel
theorem dX2_hasBreak_17 : decode cX2_hasBreak 17 = .ok (.iload_n 1, 1) := by decide +kernel
theorem dX2_hasBreak_18 : decode cX2_hasBreak 18 = .ok (.iconst 0, 1) := by decide +kernel
theorem dX2_hasBreak_19 : decode cX2_hasBreak 19 = .ok (.invokevirtual 25, 3) := by decide +kernel
theorem dX2_hasBreak_22 : decode cX2_hasBreak 22 = .ok (.iconst 1, 1) := by decide +kernel
theorem dX2_hasBreak_23 : decode cX2_hasBreak 23 = .ok (.if_icmp .ne 5, 3) := by decide +kernel
theorem dX2_hasBreak_26 : decode cX2_hasBreak 26 = .ok (.iconst 1, 1) := by decide +kernel
theorem dX2_hasBreak_27 : decode cX2_hasBreak 27 = .ok (.ireturn, 1) := by decide +kernel
theorem dX2_hasBreak_28 : decode cX2_hasBreak 28 = .ok (.iinc 1 1, 3) := by decide +kernel
theorem dX2_hasBreak_31 : decode cX2_hasBreak 31 = .ok (.goto (-29), 3) := by decide +kernel
theorem dX2_hasBreak_34 : decode cX2_hasBreak 34 = .ok (.iconst 0, 1) := by decide +kernel
theorem dX2_hasBreak_35 : decode cX2_hasBreak 35 = .ok (.ireturn, 1) := by decide +kernel
theorem dX2_firstShunt_0 : decode cX2_firstShunt 0 = .ok (.iconst (-1), 1) := by decide +kernel
theorem dX2_firstShunt_1 : decode cX2_firstShunt 1 = .ok (.istore_n 1, 1) := by decide +kernel
theorem dX2_firstShunt_2 : decode cX2_firstShunt 2 = .ok (.iconst 0, 1) := by decide +kernel
theorem dX2_firstShunt_3 : decode cX2_firstShunt 3 = .ok (.istore_n 2, 1) := by decide +kernel
theorem dX2_firstShunt_4 : decode cX2_firstShunt 4 = .ok (.iload_n 2, 1) := by decide +kernel
theorem dX2_firstShunt_5 : decode cX2_firstShunt 5 = .ok (.aload_n 0, 1) := by decide +kernel
theorem dX2_firstShunt_6 : decode cX2_firstShunt 6 = .ok (.getfield 12, 3) := by decide +kernel
theorem dX2_firstShunt_9 : decode cX2_firstShunt 9 = .ok (.getfield 18, 3) := by decide +kernel
theorem dX2_firstShunt_12 : decode cX2_firstShunt 12 = .ok (.if_icmp .ge 43, 3) := by decide +kernel
theorem dX2_firstShunt_15 : decode cX2_firstShunt 15 = .ok (.aload_n 0, 1) := by decide +kernel
theorem dX2_firstShunt_16 : decode cX2_firstShunt 16 = .ok (.getfield 12, 3) := by decide +kernel
theorem dX2_firstShunt_19 : decode cX2_firstShunt 19 = .ok (.iload_n 2, 1) := by decide +kernel
theorem dX2_firstShunt_20 : decode cX2_firstShunt 20 = .ok (.iconst 1, 1) := by decide +kernel
theorem dX2_firstShunt_21 : decode cX2_firstShunt 21 = .ok (.invokevirtual 25, 3) := by decide +kernel
theorem dX2_firstShunt_24 : decode cX2_firstShunt 24 = .ok (.istore_n 3, 1) := by decide +kernel
theorem dX2_firstShunt_25 : decode cX2_firstShunt 25 = .ok (.aload_n 0, 1) := by decide +kernel
theorem dX2_firstShunt_26 : decode cX2_firstShunt 26 = .ok (.getfield 12, 3) := by decide +kernel
theorem dX2_firstShunt_29 : decode cX2_firstShunt 29 = .ok (.iload_n 2, 1) := by decide +kernel
theorem dX2_firstShunt_30 : decode cX2_firstShunt 30 = .ok (.iconst 0, 1) := by decide +kernel
theorem dX2_firstShunt_31 : decode cX2_firstShunt 31 = .ok (.invokevirtual 25, 3) := by decide +kernel
theorem dX2_firstShunt_34 : decode cX2_firstShunt 34 = .ok (.ifCond .ne 15, 3) := by decide +kernel
theorem dX2_firstShunt_37 : decode cX2_firstShunt 37 = .ok (.iload_n 1, 1) := by decide +kernel
theorem dX2_firstShunt_38 : decode cX2_firstShunt 38 = .ok (.iconst (-1), 1) := by decide +kernel
theorem dX2_firstShunt_39 : decode cX2_firstShunt 39 = .ok (.if_icmp .eq 8, 3) := by decide +kernel
theorem dX2_firstShunt_42 : decode cX2_firstShunt 42 = .ok (.iload_n 3, 1) := by decide +kernel
theorem dX2_firstShunt_43 : decode cX2_firstShunt 43 = .ok (.iload_n 1, 1) := by decide +kernel
theorem dX2_firstShunt_44 : decode cX2_firstShunt 44 = .ok (.if_icmp .ge 5, 3) := by decide +kernel
theorem dX2_firstShunt_47 : decode cX2_firstShunt 47 = .ok (.iload_n 3, 1) := by decide +kernel
theorem dX2_firstShunt_48 : decode cX2_firstShunt 48 = .ok (.istore_n 1, 1) := by decide +kernel
theorem dX2_firstShunt_49 : decode cX2_firstShunt 49 = .ok (.iinc 2 1, 3) := by decide +kernel
theorem dX2_firstShunt_52 : decode cX2_firstShunt 52 = .ok (.goto (-48), 3) := by decide +kernel
theorem dX2_firstShunt_55 : decode cX2_firstShunt 55 = .ok (.iload_n 1, 1) := by decide +kernel
theorem dX2_firstShunt_56 : decode cX2_firstShunt 56 = .ok (.ireturn, 1) := by decide +kernel
theorem dX2_lastShunt_0 : decode cX2_lastShunt 0 = .ok (.iconst (-1), 1) := by decide +kernel
theorem dX2_lastShunt_1 : decode cX2_lastShunt 1 = .ok (.istore_n 1, 1) := by decide +kernel
theorem dX2_lastShunt_2 : decode cX2_lastShunt 2 = .ok (.iconst 0, 1) := by decide +kernel
theorem dX2_lastShunt_3 : decode cX2_lastShunt 3 = .ok (.istore_n 2, 1) := by decide +kernel
theorem dX2_lastShunt_4 : decode cX2_lastShunt 4 = .ok (.iload_n 2, 1) := by decide +kernel
theorem dX2_lastShunt_5 : decode cX2_lastShunt 5 = .ok (.aload_n 0, 1) := by decide +kernel
theorem dX2_lastShunt_6 : decode cX2_lastShunt 6 = .ok (.getfield 12, 3) := by decide +kernel
theorem dX2_lastShunt_9 : decode cX2_lastShunt 9 = .ok (.getfield 18, 3) := by decide +kernel
theorem dX2_lastShunt_12 : decode cX2_lastShunt 12 = .ok (.if_icmp .ge 35, 3) := by decide +kernel
theorem dX2_lastShunt_15 : decode cX2_lastShunt 15 = .ok (.aload_n 0, 1) := by decide +kernel
theorem dX2_lastShunt_16 : decode cX2_lastShunt 16 = .ok (.getfield 12, 3) := by decide +kernel
theorem dX2_lastShunt_19 : decode cX2_lastShunt 19 = .ok (.iload_n 2, 1) := by decide +kernel
theorem dX2_lastShunt_20 : decode cX2_lastShunt 20 = .ok (.iconst 0, 1) := by decide +kernel
theorem dX2_lastShunt_21 : decode cX2_lastShunt 21 = .ok (.invokevirtual 25, 3) := by decide +kernel
theorem dX2_lastShunt_24 : decode cX2_lastShunt 24 = .ok (.ifCond .ne 17, 3) := by decide +kernel
theorem dX2_lastShunt_27 : decode cX2_lastShunt 27 = .ok (.iload_n 1, 1) := by decide +kernel
theorem dX2_lastShunt_28 : decode cX2_lastShunt 28 = .ok (.aload_n 0, 1) := by decide +kernel
theorem dX2_lastShunt_29 : decode cX2_lastShunt 29 = .ok (.getfield 12, 3) := by decide +kernel
theorem dX2_lastShunt_32 : decode cX2_lastShunt 32 = .ok (.iload_n 2, 1) := by decide +kernel
theorem dX2_lastShunt_33 : decode cX2_lastShunt 33 = .ok (.iconst 1, 1) := by decide +kernel
theorem dX2_lastShunt_34 : decode cX2_lastShunt 34 = .ok (.invokevirtual 25, 3) := by decide +kernel
theorem dX2_lastShunt_37 : decode cX2_lastShunt 37 = .ok (.invokestatic 37, 3) := by decide +kernel
theorem dX2_lastShunt_40 : decode cX2_lastShunt 40 = .ok (.istore_n 1, 1) := by decide +kernel
theorem dX2_lastShunt_41 : decode cX2_lastShunt 41 = .ok (.iinc 2 1, 3) := by decide +kernel
theorem dX2_lastShunt_44 : decode cX2_lastShunt 44 = .ok (.goto (-40), 3) := by decide +kernel
theorem dX2_lastShunt_47 : decode cX2_lastShunt 47 = .ok (.iload_n 1, 1) := by decide +kernel
theorem dX2_lastShunt_48 : decode cX2_lastShunt 48 = .ok (.ireturn, 1) := by decide +kernel
theorem dX2_nearest_0 : decode cX2_nearest 0 = .ok (.iconst (-1), 1) := by decide +kernel
theorem dX2_nearest_1 : decode cX2_nearest 1 = .ok (.istore_n 3, 1) := by decide +kernel
theorem dX2_nearest_2 : decode cX2_nearest 2 = .ok (.iconst 0, 1) := by decide +kernel
theorem dX2_nearest_3 : decode cX2_nearest 3 = .ok (.istore 4, 2) := by decide +kernel
theorem dX2_nearest_5 : decode cX2_nearest 5 = .ok (.iload 4, 2) := by decide +kernel
theorem dX2_nearest_7 : decode cX2_nearest 7 = .ok (.aload_n 0, 1) := by decide +kernel
theorem dX2_nearest_8 : decode cX2_nearest 8 = .ok (.getfield 12, 3) := by decide +kernel
theorem dX2_nearest_11 : decode cX2_nearest 11 = .ok (.getfield 18, 3) := by decide +kernel
theorem dX2_nearest_14 : decode cX2_nearest 14 = .ok (.if_icmp .ge 75, 3) := by decide +kernel
theorem dX2_nearest_17 : decode cX2_nearest 17 = .ok (.iload_n 2, 1) := by decide +kernel
theorem dX2_nearest_18 : decode cX2_nearest 18 = .ok (.ifCond .ne 17, 3) := by decide +kernel
theorem dX2_nearest_21 : decode cX2_nearest 21 = .ok (.aload_n 0, 1) := by decide +kernel
theorem dX2_nearest_22 : decode cX2_nearest 22 = .ok (.getfield 12, 3) := by decide +kernel
theorem dX2_nearest_25 : decode cX2_nearest 25 = .ok (.iload 4, 2) := by decide +kernel
theorem dX2_nearest_27 : decode cX2_nearest 27 = .ok (.iconst 0, 1) := by decide +kernel
theorem dX2_nearest_28 : decode cX2_nearest 28 = .ok (.invokevirtual 25, 3) := by decide +kernel
theorem dX2_nearest_31 : decode cX2_nearest 31 = .ok (.iconst 1, 1) := by decide +kernel
theorem dX2_nearest_32 : decode cX2_nearest 32 = .ok (.if_icmp .ne 51, 3) := by decide +kernel
theorem dX2_nearest_35 : decode cX2_nearest 35 = .ok (.aload_n 0, 1) := by decide +kernel
theorem dX2_nearest_36 : decode cX2_nearest 36 = .ok (.getfield 12, 3) := by decide +kernel
theorem dX2_nearest_39 : decode cX2_nearest 39 = .ok (.iload 4, 2) := by decide +kernel
theorem dX2_nearest_41 : decode cX2_nearest 41 = .ok (.iconst 1, 1) := by decide +kernel
theorem dX2_nearest_42 : decode cX2_nearest 42 = .ok (.invokevirtual 25, 3) := by decide +kernel
theorem dX2_nearest_45 : decode cX2_nearest 45 = .ok (.istore 5, 2) := by decide +kernel
theorem dX2_nearest_47 : decode cX2_nearest 47 = .ok (.aload_n 0, 1) := by decide +kernel
theorem dX2_nearest_48 : decode cX2_nearest 48 = .ok (.iload_n 3, 1) := by decide +kernel
theorem dX2_nearest_49 : decode cX2_nearest 49 = .ok (.invokevirtual 42, 3) := by decide +kernel
theorem dX2_nearest_52 : decode cX2_nearest 52 = .ok (.istore 6, 2) := by decide +kernel
theorem dX2_nearest_54 : decode cX2_nearest 54 = .ok (.iload_n 3, 1) := by decide +kernel
theorem dX2_nearest_55 : decode cX2_nearest 55 = .ok (.iconst (-1), 1) := by decide +kernel
theorem dX2_nearest_56 : decode cX2_nearest 56 = .ok (.if_icmp .eq 24, 3) := by decide +kernel
theorem dX2_nearest_59 : decode cX2_nearest 59 = .ok (.iload_n 1, 1) := by decide +kernel
theorem dX2_nearest_60 : decode cX2_nearest 60 = .ok (.ifCond .eq 13, 3) := by decide +kernel
theorem dX2_nearest_63 : decode cX2_nearest 63 = .ok (.iload 5, 2) := by decide +kernel
theorem dX2_nearest_65 : decode cX2_nearest 65 = .ok (.iload 6, 2) := by decide +kernel
theorem dX2_nearest_67 : decode cX2_nearest 67 = .ok (.if_icmp .le 16, 3) := by decide +kernel
theorem dX2_nearest_70 : decode cX2_nearest 70 = .ok (.goto 10, 3) := by decide +kernel
theorem dX2_nearest_73 : decode cX2_nearest 73 = .ok (.iload 5, 2) := by decide +kernel
theorem dX2_nearest_75 : decode cX2_nearest 75 = .ok (.iload 6, 2) := by decide +kernel
theorem dX2_nearest_77 : decode cX2_nearest 77 = .ok (.if_icmp .ge 6, 3) := by decide +kernel
theorem dX2_nearest_80 : decode cX2_nearest 80 = .ok (.iload 4, 2) := by decide +kernel
theorem dX2_nearest_82 : decode cX2_nearest 82 = .ok (.istore_n 3, 1) := by decide +kernel
theorem dX2_nearest_83 : decode cX2_nearest 83 = .ok (.iinc 4 1, 3) := by decide +kernel
theorem dX2_nearest_86 : decode cX2_nearest 86 = .ok (.goto (-81), 3) := by decide +kernel
theorem dX2_nearest_89 : decode cX2_nearest 89 = .ok (.iload_n 3, 1) := by decide +kernel
theorem dX2_nearest_90 : decode cX2_nearest 90 = .ok (.ireturn, 1) := by decide +kernel
theorem dX2_narrow_0 : decode cX2_narrow 0 = .ok (.aload_n 0, 1) := by decide +kernel
theorem dX2_narrow_1 : decode cX2_narrow 1 = .ok (.getfield 12, 3) := by decide +kernel
theorem dX2_narrow_4 : decode cX2_narrow 4 = .ok (.iload_n 1, 1) := by decide +kernel
theorem dX2_narrow_5 : decode cX2_narrow 5 = .ok (.iconst 2, 1) := by decide +kernel
theorem dX2_narrow_6 : decode cX2_narrow 6 = .ok (.aload_n 0, 1) := by decide +kernel
theorem dX2_narrow_7 : decode cX2_narrow 7 = .ok (.getfield 12, 3) := by decide +kernel
theorem dX2_narrow_10 : decode cX2_narrow 10 = .ok (.iload_n 1, 1) := by decide +kernel
theorem dX2_narrow_11 : decode cX2_narrow 11 = .ok (.iconst 2, 1) := by decide +kernel
theorem dX2_narrow_12 : decode cX2_narrow 12 = .ok (.invokevirtual 25, 3) := by decide +kernel
theorem dX2_narrow_15 : decode cX2_narrow 15 = .ok (.iload_n 2, 1) := by decide +kernel
theorem dX2_narrow_16 : decode cX2_narrow 16 = .ok (.iload_n 3, 1) := by decide +kernel
theorem dX2_narrow_17 : decode cX2_narrow 17 = .ok (.isub, 1) := by decide +kernel
theorem dX2_narrow_18 : decode cX2_narrow 18 = .ok (.invokestatic 37, 3) := by decide +kernel
theorem dX2_narrow_21 : decode cX2_narrow 21 = .ok (.invokevirtual 29, 3) := by decide +kernel
theorem dX2_narrow_24 : decode cX2_narrow 24 = .ok (.aload_n 0, 1) := by decide +kernel
theorem dX2_narrow_25 : decode cX2_narrow 25 = .ok (.getfield 12, 3) := by decide +kernel
theorem dX2_narrow_28 : decode cX2_narrow 28 = .ok (.iload_n 1, 1) := by decide +kernel
theorem dX2_narrow_29 : decode cX2_narrow 29 = .ok (.iconst 3, 1) := by decide +kernel
theorem dX2_narrow_30 : decode cX2_narrow 30 = .ok (.aload_n 0, 1) := by decide +kernel
theorem dX2_narrow_31 : decode cX2_narrow 31 = .ok (.getfield 12, 3) := by decide +kernel
theorem dX2_narrow_34 : decode cX2_narrow 34 = .ok (.iload_n 1, 1) := by decide +kernel
theorem dX2_narrow_35 : decode cX2_narrow 35 = .ok (.iconst 3, 1) := by decide +kernel
theorem dX2_narrow_36 : decode cX2_narrow 36 = .ok (.invokevirtual 25, 3) := by decide +kernel
theorem dX2_narrow_39 : decode cX2_narrow 39 = .ok (.iload_n 2, 1) := by decide +kernel
theorem dX2_narrow_40 : decode cX2_narrow 40 = .ok (.iload_n 3, 1) := by decide +kernel
theorem dX2_narrow_41 : decode cX2_narrow 41 = .ok (.iadd, 1) := by decide +kernel
theorem dX2_narrow_42 : decode cX2_narrow 42 = .ok (.invokestatic 46, 3) := by decide +kernel
theorem dX2_narrow_45 : decode cX2_narrow 45 = .ok (.invokevirtual 29, 3) := by decide +kernel
theorem dX2_narrow_48 : decode cX2_narrow 48 = .ok (.return_, 1) := by decide +kernel
