theorem dX8_init_0 : decode cX8_init 0 = .ok (.aload_n 0, 1) := by decide +kernel
theorem dX8_init_1 : decode cX8_init 1 = .ok (.invokespecial 1, 3) := by decide +kernel
theorem dX8_init_4 : decode cX8_init 4 = .ok (.aload_n 0, 1) := by decide +kernel
theorem dX8_init_5 : decode cX8_init 5 = .ok (.new 7, 3) := by decide +kernel
theorem dX8_init_8 : decode cX8_init 8 = .ok (.dup, 1) := by decide +kernel
theorem dX8_init_9 : decode cX8_init 9 = .ok (.invokespecial 9, 3) := by decide +kernel
theorem dX8_init_12 : decode cX8_init 12 = .ok (.putfield 10, 3) := by decide +kernel
theorem dX8_init_15 : decode cX8_init 15 = .ok (.aload_n 0, 1) := by decide +kernel
theorem dX8_init_16 : decode cX8_init 16 = .ok (.new 16, 3) := by decide +kernel
theorem dX8_init_19 : decode cX8_init 19 = .ok (.dup, 1) := by decide +kernel
theorem dX8_init_20 : decode cX8_init 20 = .ok (.invokespecial 18, 3) := by decide +kernel
theorem dX8_init_23 : decode cX8_init 23 = .ok (.putfield 19, 3) := by decide +kernel
theorem dX8_init_26 : decode cX8_init 26 = .ok (.aload_n 0, 1) := by decide +kernel
theorem dX8_init_27 : decode cX8_init 27 = .ok (.new 23, 3) := by decide +kernel
theorem dX8_init_30 : decode cX8_init 30 = .ok (.dup, 1) := by decide +kernel
theorem dX8_init_31 : decode cX8_init 31 = .ok (.invokespecial 25, 3) := by decide +kernel
theorem dX8_init_34 : decode cX8_init 34 = .ok (.putfield 26, 3) := by decide +kernel
theorem dX8_init_37 : decode cX8_init 37 = .ok (.aload_n 0, 1) := by decide +kernel
theorem dX8_init_38 : decode cX8_init 38 = .ok (.new 30, 3) := by decide +kernel
theorem dX8_init_41 : decode cX8_init 41 = .ok (.dup, 1) := by decide +kernel
theorem dX8_init_42 : decode cX8_init 42 = .ok (.invokespecial 32, 3) := by decide +kernel
theorem dX8_init_45 : decode cX8_init 45 = .ok (.putfield 33, 3) := by decide +kernel
theorem dX8_init_48 : decode cX8_init 48 = .ok (.aload_n 0, 1) := by decide +kernel
theorem dX8_init_49 : decode cX8_init 49 = .ok (.new 37, 3) := by decide +kernel
theorem dX8_init_52 : decode cX8_init 52 = .ok (.dup, 1) := by decide +kernel
theorem dX8_init_53 : decode cX8_init 53 = .ok (.invokespecial 39, 3) := by decide +kernel
theorem dX8_init_56 : decode cX8_init 56 = .ok (.putfield 40, 3) := by decide +kernel
theorem dX8_init_59 : decode cX8_init 59 = .ok (.aload_n 0, 1) := by decide +kernel
theorem dX8_init_60 : decode cX8_init 60 = .ok (.new 44, 3) := by decide +kernel
theorem dX8_init_63 : decode cX8_init 63 = .ok (.dup, 1) := by decide +kernel
theorem dX8_init_64 : decode cX8_init 64 = .ok (.invokespecial 46, 3) := by decide +kernel
theorem dX8_init_67 : decode cX8_init 67 = .ok (.putfield 47, 3) := by decide +kernel
theorem dX8_init_70 : decode cX8_init 70 = .ok (.return_, 1) := by decide +kernel
theorem dX8_sound_0 : decode cX8_sound 0 = .ok (.iload_n 1, 1) := by decide +kernel
theorem dX8_sound_1 : decode cX8_sound 1 = .ok (.invokestatic 51, 3) := by decide +kernel
theorem dX8_sound_4 : decode cX8_sound 4 = .ok (.ifCond .eq 29, 3) := by decide +kernel
theorem dX8_sound_7 : decode cX8_sound 7 = .ok (.iload_n 2, 1) := by decide +kernel
theorem dX8_sound_8 : decode cX8_sound 8 = .ok (.iconst 0, 1) := by decide +kernel
theorem dX8_sound_9 : decode cX8_sound 9 = .ok (.sipush 6000, 3) := by decide +kernel
theorem dX8_sound_12 : decode cX8_sound 12 = .ok (.invokestatic 55, 3) := by decide +kernel
theorem dX8_sound_15 : decode cX8_sound 15 = .ok (.ifCond .eq 18, 3) := by decide +kernel
theorem dX8_sound_18 : decode cX8_sound 18 = .ok (.iload_n 3, 1) := by decide +kernel
theorem dX8_sound_19 : decode cX8_sound 19 = .ok (.iconst 0, 1) := by decide +kernel
theorem dX8_sound_20 : decode cX8_sound 20 = .ok (.sipush 500, 3) := by decide +kernel
theorem dX8_sound_23 : decode cX8_sound 23 = .ok (.invokestatic 55, 3) := by decide +kernel
theorem dX8_sound_26 : decode cX8_sound 26 = .ok (.ifCond .eq 7, 3) := by decide +kernel
theorem dX8_sound_29 : decode cX8_sound 29 = .ok (.iconst 1, 1) := by decide +kernel
theorem dX8_sound_30 : decode cX8_sound 30 = .ok (.goto 4, 3) := by decide +kernel
theorem dX8_sound_33 : decode cX8_sound 33 = .ok (.iconst 0, 1) := by decide +kernel
theorem dX8_sound_34 : decode cX8_sound 34 = .ok (.invokestatic 59, 3) := by decide +kernel
theorem dX8_sound_37 : decode cX8_sound 37 = .ok (.iload_n 1, 1) := by decide +kernel
theorem dX8_sound_38 : decode cX8_sound 38 = .ok (.aload_n 0, 1) := by decide +kernel
theorem dX8_sound_39 : decode cX8_sound 39 = .ok (.getfield 33, 3) := by decide +kernel
theorem dX8_sound_42 : decode cX8_sound 42 = .ok (.getfield 63, 3) := by decide +kernel
theorem dX8_sound_45 : decode cX8_sound 45 = .ok (.if_icmp .lt 7, 3) := by decide +kernel
theorem dX8_sound_48 : decode cX8_sound 48 = .ok (.iconst 1, 1) := by decide +kernel
theorem dX8_sound_49 : decode cX8_sound 49 = .ok (.goto 4, 3) := by decide +kernel
theorem dX8_sound_52 : decode cX8_sound 52 = .ok (.iconst 0, 1) := by decide +kernel
theorem dX8_sound_53 : decode cX8_sound 53 = .ok (.invokestatic 67, 3) := by decide +kernel
theorem dX8_sound_56 : decode cX8_sound 56 = .ok (.aload_n 0, 1) := by decide +kernel
theorem dX8_sound_57 : decode cX8_sound 57 = .ok (.getfield 10, 3) := by decide +kernel
theorem dX8_sound_60 : decode cX8_sound 60 = .ok (.iload_n 1, 1) := by decide +kernel
theorem dX8_sound_61 : decode cX8_sound 61 = .ok (.iload_n 2, 1) := by decide +kernel
theorem dX8_sound_62 : decode cX8_sound 62 = .ok (.iload_n 3, 1) := by decide +kernel
theorem dX8_sound_63 : decode cX8_sound 63 = .ok (.invokevirtual 70, 3) := by decide +kernel
theorem dX8_sound_66 : decode cX8_sound 66 = .ok (.aload_n 0, 1) := by decide +kernel
theorem dX8_sound_67 : decode cX8_sound 67 = .ok (.getfield 10, 3) := by decide +kernel
theorem dX8_sound_70 : decode cX8_sound 70 = .ok (.iload_n 1, 1) := by decide +kernel
theorem dX8_sound_71 : decode cX8_sound 71 = .ok (.invokevirtual 74, 3) := by decide +kernel
theorem dX8_sound_74 : decode cX8_sound 74 = .ok (.ireturn, 1) := by decide +kernel
theorem dX8_weather_0 : decode cX8_weather 0 = .ok (.iload_n 1, 1) := by decide +kernel
theorem dX8_weather_1 : decode cX8_weather 1 = .ok (.iconst 0, 1) := by decide +kernel
theorem dX8_weather_2 : decode cX8_weather 2 = .ok (.ldc 92, 2) := by decide +kernel
theorem dX8_weather_4 : decode cX8_weather 4 = .ok (.invokestatic 55, 3) := by decide +kernel
theorem dX8_weather_7 : decode cX8_weather 7 = .ok (.invokestatic 59, 3) := by decide +kernel
theorem dX8_weather_10 : decode cX8_weather 10 = .ok (.aload_n 0, 1) := by decide +kernel
theorem dX8_weather_11 : decode cX8_weather 11 = .ok (.getfield 19, 3) := by decide +kernel
theorem dX8_weather_14 : decode cX8_weather 14 = .ok (.getfield 93, 3) := by decide +kernel
theorem dX8_weather_17 : decode cX8_weather 17 = .ok (.ifCond .ne 7, 3) := by decide +kernel
theorem dX8_weather_20 : decode cX8_weather 20 = .ok (.iconst 1, 1) := by decide +kernel
theorem dX8_weather_21 : decode cX8_weather 21 = .ok (.goto 4, 3) := by decide +kernel
theorem dX8_weather_24 : decode cX8_weather 24 = .ok (.iconst 0, 1) := by decide +kernel
theorem dX8_weather_25 : decode cX8_weather 25 = .ok (.invokestatic 67, 3) := by decide +kernel
theorem dX8_weather_28 : decode cX8_weather 28 = .ok (.aload_n 0, 1) := by decide +kernel
theorem dX8_weather_29 : decode cX8_weather 29 = .ok (.getfield 19, 3) := by decide +kernel
theorem dX8_weather_32 : decode cX8_weather 32 = .ok (.iload_n 1, 1) := by decide +kernel
theorem dX8_weather_33 : decode cX8_weather 33 = .ok (.putfield 96, 3) := by decide +kernel
theorem dX8_weather_36 : decode cX8_weather 36 = .ok (.aload_n 0, 1) := by decide +kernel
theorem dX8_weather_37 : decode cX8_weather 37 = .ok (.getfield 19, 3) := by decide +kernel
theorem dX8_weather_40 : decode cX8_weather 40 = .ok (.invokevirtual 99, 3) := by decide +kernel
theorem dX8_weather_43 : decode cX8_weather 43 = .ok (.ireturn, 1) := by decide +kernel
theorem dX8_pass_0 : decode cX8_pass 0 = .ok (.iload_n 1, 1) := by decide +kernel
theorem dX8_pass_1 : decode cX8_pass 1 = .ok (.iconst 1, 1) := by decide +kernel
theorem dX8_pass_2 : decode cX8_pass 2 = .ok (.sipush 400, 3) := by decide +kernel
theorem dX8_pass_5 : decode cX8_pass 5 = .ok (.invokestatic 55, 3) := by decide +kernel
theorem dX8_pass_8 : decode cX8_pass 8 = .ok (.invokestatic 59, 3) := by decide +kernel
theorem dX8_pass_11 : decode cX8_pass 11 = .ok (.aload_n 0, 1) := by decide +kernel
theorem dX8_pass_12 : decode cX8_pass 12 = .ok (.getfield 19, 3) := by decide +kernel
theorem dX8_pass_15 : decode cX8_pass 15 = .ok (.getfield 93, 3) := by decide +kernel
theorem dX8_pass_18 : decode cX8_pass 18 = .ok (.iload_n 1, 1) := by decide +kernel
theorem dX8_pass_19 : decode cX8_pass 19 = .ok (.iadd, 1) := by decide +kernel
theorem dX8_pass_20 : decode cX8_pass 20 = .ok (.sipush 20000, 3) := by decide +kernel
theorem dX8_pass_23 : decode cX8_pass 23 = .ok (.if_icmp .gt 7, 3) := by decide +kernel
theorem dX8_pass_26 : decode cX8_pass 26 = .ok (.iconst 1, 1) := by decide +kernel
theorem dX8_pass_27 : decode cX8_pass 27 = .ok (.goto 4, 3) := by decide +kernel
theorem dX8_pass_30 : decode cX8_pass 30 = .ok (.iconst 0, 1) := by decide +kernel
theorem dX8_pass_31 : decode cX8_pass 31 = .ok (.invokestatic 67, 3) := by decide +kernel
theorem dX8_pass_34 : decode cX8_pass 34 = .ok (.iconst 0, 1) := by decide +kernel
theorem dX8_pass_35 : decode cX8_pass 35 = .ok (.istore_n 2, 1) := by decide +kernel
theorem dX8_pass_36 : decode cX8_pass 36 = .ok (.iload_n 2, 1) := by decide +kernel
theorem dX8_pass_37 : decode cX8_pass 37 = .ok (.iload_n 1, 1) := by decide +kernel
theorem dX8_pass_38 : decode cX8_pass 38 = .ok (.if_icmp .ge 13, 3) := by decide +kernel
theorem dX8_pass_41 : decode cX8_pass 41 = .ok (.aload_n 0, 1) := by decide +kernel
theorem dX8_pass_42 : decode cX8_pass 42 = .ok (.invokevirtual 103, 3) := by decide +kernel
theorem dX8_pass_45 : decode cX8_pass 45 = .ok (.iinc 2 1, 3) := by decide +kernel
theorem dX8_pass_48 : decode cX8_pass 48 = .ok (.goto (-12), 3) := by decide +kernel
theorem dX8_pass_51 : decode cX8_pass 51 = .ok (.aload_n 0, 1) := by decide +kernel
theorem dX8_pass_52 : decode cX8_pass 52 = .ok (.getfield 19, 3) := by decide +kernel
theorem dX8_pass_55 : decode cX8_pass 55 = .ok (.getfield 93, 3) := by decide +kernel
theorem dX8_pass_58 : decode cX8_pass 58 = .ok (.ireturn, 1) := by decide +kernel
theorem dX8_passOneDay_0 : decode cX8_passOneDay 0 = .ok (.aload_n 0, 1) := by decide +kernel
theorem dX8_passOneDay_1 : decode cX8_passOneDay 1 = .ok (.getfield 19, 3) := by decide +kernel
theorem dX8_passOneDay_4 : decode cX8_passOneDay 4 = .ok (.invokevirtual 106, 3) := by decide +kernel
theorem dX8_passOneDay_7 : decode cX8_passOneDay 7 = .ok (.aload_n 0, 1) := by decide +kernel
theorem dX8_passOneDay_8 : decode cX8_passOneDay 8 = .ok (.iconst 0, 1) := by decide +kernel
theorem dX8_passOneDay_9 : decode cX8_passOneDay 9 = .ok (.putfield 109, 3) := by decide +kernel
theorem dX8_passOneDay_12 : decode cX8_passOneDay 12 = .ok (.aload_n 0, 1) := by decide +kernel
theorem dX8_passOneDay_13 : decode cX8_passOneDay 13 = .ok (.getfield 112, 3) := by decide +kernel
theorem dX8_passOneDay_16 : decode cX8_passOneDay 16 = .ok (.ifCond .ne 26, 3) := by decide +kernel
theorem dX8_passOneDay_19 : decode cX8_passOneDay 19 = .ok (.aload_n 0, 1) := by decide +kernel
theorem dX8_passOneDay_20 : decode cX8_passOneDay 20 = .ok (.invokevirtual 116, 3) := by decide +kernel
theorem dX8_passOneDay_23 : decode cX8_passOneDay 23 = .ok (.ifCond .ne 19, 3) := by decide +kernel
theorem dX8_passOneDay_26 : decode cX8_passOneDay 26 = .ok (.aload_n 0, 1) := by decide +kernel
theorem dX8_passOneDay_27 : decode cX8_passOneDay 27 = .ok (.getfield 19, 3) := by decide +kernel
theorem dX8_passOneDay_30 : decode cX8_passOneDay 30 = .ok (.invokevirtual 99, 3) := by decide +kernel
theorem dX8_passOneDay_33 : decode cX8_passOneDay 33 = .ok (.bipush 9, 2) := by decide +kernel
theorem dX8_passOneDay_35 : decode cX8_passOneDay 35 = .ok (.if_icmp .ne 7, 3) := by decide +kernel
theorem dX8_passOneDay_38 : decode cX8_passOneDay 38 = .ok (.aload_n 0, 1) := by decide +kernel
theorem dX8_passOneDay_39 : decode cX8_passOneDay 39 = .ok (.invokevirtual 120, 3) := by decide +kernel
theorem dX8_passOneDay_42 : decode cX8_passOneDay 42 = .ok (.return_, 1) := by decide +kernel
theorem dX8_buoy_0 : decode cX8_buoy 0 = .ok (.aload_n 0, 1) := by decide +kernel
theorem dX8_buoy_1 : decode cX8_buoy 1 = .ok (.iconst 1, 1) := by decide +kernel
theorem dX8_buoy_2 : decode cX8_buoy 2 = .ok (.putfield 112, 3) := by decide +kernel
theorem dX8_buoy_5 : decode cX8_buoy 5 = .ok (.aload_n 0, 1) := by decide +kernel
theorem dX8_buoy_6 : decode cX8_buoy 6 = .ok (.sipush 200, 3) := by decide +kernel
theorem dX8_buoy_9 : decode cX8_buoy 9 = .ok (.aload_n 0, 1) := by decide +kernel
theorem dX8_buoy_10 : decode cX8_buoy 10 = .ok (.getfield 33, 3) := by decide +kernel
theorem dX8_buoy_13 : decode cX8_buoy 13 = .ok (.getfield 123, 3) := by decide +kernel
theorem dX8_buoy_16 : decode cX8_buoy 16 = .ok (.invokestatic 126, 3) := by decide +kernel
theorem dX8_buoy_19 : decode cX8_buoy 19 = .ok (.putfield 132, 3) := by decide +kernel
theorem dX8_buoy_22 : decode cX8_buoy 22 = .ok (.aload_n 0, 1) := by decide +kernel
theorem dX8_buoy_23 : decode cX8_buoy 23 = .ok (.dup, 1) := by decide +kernel
theorem dX8_buoy_24 : decode cX8_buoy 24 = .ok (.getfield 135, 3) := by decide +kernel
theorem dX8_buoy_27 : decode cX8_buoy 27 = .ok (.aload_n 0, 1) := by decide +kernel
theorem dX8_buoy_28 : decode cX8_buoy 28 = .ok (.getfield 132, 3) := by decide +kernel
theorem dX8_buoy_31 : decode cX8_buoy 31 = .ok (.iadd, 1) := by decide +kernel
theorem dX8_buoy_32 : decode cX8_buoy 32 = .ok (.putfield 135, 3) := by decide +kernel
theorem dX8_buoy_35 : decode cX8_buoy 35 = .ok (.aload_n 0, 1) := by decide +kernel
theorem dX8_buoy_36 : decode cX8_buoy 36 = .ok (.getfield 33, 3) := by decide +kernel
theorem dX8_buoy_39 : decode cX8_buoy 39 = .ok (.aload_n 0, 1) := by decide +kernel
theorem dX8_buoy_40 : decode cX8_buoy 40 = .ok (.getfield 132, 3) := by decide +kernel
theorem dX8_buoy_43 : decode cX8_buoy 43 = .ok (.invokevirtual 138, 3) := by decide +kernel
theorem dX8_buoy_46 : decode cX8_buoy 46 = .ok (.aload_n 0, 1) := by decide +kernel
theorem dX8_buoy_47 : decode cX8_buoy 47 = .ok (.getfield 40, 3) := by decide +kernel
theorem dX8_buoy_50 : decode cX8_buoy 50 = .ok (.aload_n 0, 1) := by decide +kernel
theorem dX8_buoy_51 : decode cX8_buoy 51 = .ok (.getfield 33, 3) := by decide +kernel
theorem dX8_buoy_54 : decode cX8_buoy 54 = .ok (.getfield 123, 3) := by decide +kernel
theorem dX8_buoy_57 : decode cX8_buoy 57 = .ok (.invokevirtual 142, 3) := by decide +kernel
theorem dX8_buoy_60 : decode cX8_buoy 60 = .ok (.aload_n 0, 1) := by decide +kernel
theorem dX8_buoy_61 : decode cX8_buoy 61 = .ok (.getfield 40, 3) := by decide +kernel
theorem dX8_buoy_64 : decode cX8_buoy 64 = .ok (.aload_n 0, 1) := by decide +kernel
theorem dX8_buoy_65 : decode cX8_buoy 65 = .ok (.getfield 33, 3) := by decide +kernel
theorem dX8_buoy_68 : decode cX8_buoy 68 = .ok (.getfield 123, 3) := by decide +kernel
theorem dX8_buoy_71 : decode cX8_buoy 71 = .ok (.invokevirtual 145, 3) := by decide +kernel
theorem dX8_buoy_74 : decode cX8_buoy 74 = .ok (.return_, 1) := by decide +kernel
theorem dX8_make_0 : decode cX8_make 0 = .ok (.iload_n 1, 1) := by decide +kernel
theorem dX8_make_1 : decode cX8_make 1 = .ok (.invokestatic 148, 3) := by decide +kernel
theorem dX8_make_4 : decode cX8_make 4 = .ok (.ifCond .eq 24, 3) := by decide +kernel
theorem dX8_make_7 : decode cX8_make 7 = .ok (.iload_n 2, 1) := by decide +kernel
theorem dX8_make_8 : decode cX8_make 8 = .ok (.iconst 1, 1) := by decide +kernel
theorem dX8_make_9 : decode cX8_make 9 = .ok (.ldc 151, 2) := by decide +kernel
theorem dX8_make_11 : decode cX8_make 11 = .ok (.invokestatic 55, 3) := by decide +kernel
theorem dX8_make_14 : decode cX8_make 14 = .ok (.ifCond .eq 14, 3) := by decide +kernel
theorem dX8_make_17 : decode cX8_make 17 = .ok (.iload_n 3, 1) := by decide +kernel
theorem dX8_make_18 : decode cX8_make 18 = .ok (.invokestatic 152, 3) := by decide +kernel
theorem dX8_make_21 : decode cX8_make 21 = .ok (.ifCond .eq 7, 3) := by decide +kernel
theorem dX8_make_24 : decode cX8_make 24 = .ok (.iconst 1, 1) := by decide +kernel
theorem dX8_make_25 : decode cX8_make 25 = .ok (.goto 4, 3) := by decide +kernel
theorem dX8_make_28 : decode cX8_make 28 = .ok (.iconst 0, 1) := by decide +kernel
theorem dX8_make_29 : decode cX8_make 29 = .ok (.invokestatic 59, 3) := by decide +kernel
theorem dX8_make_32 : decode cX8_make 32 = .ok (.aload_n 0, 1) := by decide +kernel
theorem dX8_make_33 : decode cX8_make 33 = .ok (.getfield 26, 3) := by decide +kernel
theorem dX8_make_36 : decode cX8_make 36 = .ok (.getfield 155, 3) := by decide +kernel
theorem dX8_make_39 : decode cX8_make 39 = .ok (.bipush 30, 2) := by decide +kernel
theorem dX8_make_41 : decode cX8_make 41 = .ok (.if_icmp .ge 7, 3) := by decide +kernel
theorem dX8_make_44 : decode cX8_make 44 = .ok (.iconst 1, 1) := by decide +kernel
theorem dX8_make_45 : decode cX8_make 45 = .ok (.goto 4, 3) := by decide +kernel
theorem dX8_make_48 : decode cX8_make 48 = .ok (.iconst 0, 1) := by decide +kernel
theorem dX8_make_49 : decode cX8_make 49 = .ok (.invokestatic 67, 3) := by decide +kernel
theorem dX8_make_52 : decode cX8_make 52 = .ok (.aload_n 0, 1) := by decide +kernel
theorem dX8_make_53 : decode cX8_make 53 = .ok (.getfield 26, 3) := by decide +kernel
theorem dX8_make_56 : decode cX8_make 56 = .ok (.iload_n 1, 1) := by decide +kernel
theorem dX8_make_57 : decode cX8_make 57 = .ok (.iload_n 2, 1) := by decide +kernel
theorem dX8_make_58 : decode cX8_make 58 = .ok (.iload_n 3, 1) := by decide +kernel
theorem dX8_make_59 : decode cX8_make 59 = .ok (.invokevirtual 158, 3) := by decide +kernel
theorem dX8_make_62 : decode cX8_make 62 = .ok (.ireturn, 1) := by decide +kernel
theorem dX8_lay_0 : decode cX8_lay 0 = .ok (.iload_n 1, 1) := by decide +kernel
theorem dX8_lay_1 : decode cX8_lay 1 = .ok (.iconst 1, 1) := by decide +kernel
theorem dX8_lay_2 : decode cX8_lay 2 = .ok (.bipush 12, 2) := by decide +kernel
theorem dX8_lay_4 : decode cX8_lay 4 = .ok (.invokestatic 55, 3) := by decide +kernel
theorem dX8_lay_7 : decode cX8_lay 7 = .ok (.ifCond .eq 24, 3) := by decide +kernel
theorem dX8_lay_10 : decode cX8_lay 10 = .ok (.iload_n 2, 1) := by decide +kernel
theorem dX8_lay_11 : decode cX8_lay 11 = .ok (.iconst 0, 1) := by decide +kernel
theorem dX8_lay_12 : decode cX8_lay 12 = .ok (.bipush 50, 2) := by decide +kernel
theorem dX8_lay_14 : decode cX8_lay 14 = .ok (.invokestatic 55, 3) := by decide +kernel
theorem dX8_lay_17 : decode cX8_lay 17 = .ok (.ifCond .eq 14, 3) := by decide +kernel
theorem dX8_lay_20 : decode cX8_lay 20 = .ok (.iload_n 3, 1) := by decide +kernel
theorem dX8_lay_21 : decode cX8_lay 21 = .ok (.invokestatic 152, 3) := by decide +kernel
theorem dX8_lay_24 : decode cX8_lay 24 = .ok (.ifCond .eq 7, 3) := by decide +kernel
theorem dX8_lay_27 : decode cX8_lay 27 = .ok (.iconst 1, 1) := by decide +kernel
theorem dX8_lay_28 : decode cX8_lay 28 = .ok (.goto 4, 3) := by decide +kernel
theorem dX8_lay_31 : decode cX8_lay 31 = .ok (.iconst 0, 1) := by decide +kernel
theorem dX8_lay_32 : decode cX8_lay 32 = .ok (.invokestatic 59, 3) := by decide +kernel
theorem dX8_lay_35 : decode cX8_lay 35 = .ok (.aload_n 0, 1) := by decide +kernel
theorem dX8_lay_36 : decode cX8_lay 36 = .ok (.invokevirtual 116, 3) := by decide +kernel
theorem dX8_lay_39 : decode cX8_lay 39 = .ok (.ifCond .ne 7, 3) := by decide +kernel
theorem dX8_lay_42 : decode cX8_lay 42 = .ok (.iconst 1, 1) := by decide +kernel
theorem dX8_lay_43 : decode cX8_lay 43 = .ok (.goto 4, 3) := by decide +kernel
theorem dX8_lay_46 : decode cX8_lay 46 = .ok (.iconst 0, 1) := by decide +kernel
theorem dX8_lay_47 : decode cX8_lay 47 = .ok (.invokestatic 67, 3) := by decide +kernel
theorem dX8_lay_50 : decode cX8_lay 50 = .ok (.iconst 0, 1) := by decide +kernel
theorem dX8_lay_51 : decode cX8_lay 51 = .ok (.istore 4, 2) := by decide +kernel
theorem dX8_lay_53 : decode cX8_lay 53 = .ok (.iload 4, 2) := by decide +kernel
theorem dX8_lay_55 : decode cX8_lay 55 = .ok (.iload_n 1, 1) := by decide +kernel
theorem dX8_lay_56 : decode cX8_lay 56 = .ok (.if_icmp .ge 18, 3) := by decide +kernel
theorem dX8_lay_59 : decode cX8_lay 59 = .ok (.aload_n 0, 1) := by decide +kernel
theorem dX8_lay_60 : decode cX8_lay 60 = .ok (.iload_n 2, 1) := by decide +kernel
theorem dX8_lay_61 : decode cX8_lay 61 = .ok (.iload_n 3, 1) := by decide +kernel
theorem dX8_lay_62 : decode cX8_lay 62 = .ok (.invokevirtual 162, 3) := by decide +kernel
theorem dX8_lay_65 : decode cX8_lay 65 = .ok (.ifCond .eq 9, 3) := by decide +kernel
theorem dX8_lay_68 : decode cX8_lay 68 = .ok (.iinc 4 1, 3) := by decide +kernel
theorem dX8_lay_71 : decode cX8_lay 71 = .ok (.goto (-18), 3) := by decide +kernel
theorem dX8_lay_74 : decode cX8_lay 74 = .ok (.iload 4, 2) := by decide +kernel
theorem dX8_lay_76 : decode cX8_lay 76 = .ok (.ireturn, 1) := by decide +kernel
theorem dX8_layOneCell_0 : decode cX8_layOneCell 0 = .ok (.aload_n 0, 1) := by decide +kernel
theorem dX8_layOneCell_1 : decode cX8_layOneCell 1 = .ok (.getfield 33, 3) := by decide +kernel
theorem dX8_layOneCell_4 : decode cX8_layOneCell 4 = .ok (.getfield 63, 3) := by decide +kernel
theorem dX8_layOneCell_7 : decode cX8_layOneCell 7 = .ok (.istore_n 3, 1) := by decide +kernel
theorem dX8_layOneCell_8 : decode cX8_layOneCell 8 = .ok (.aload_n 0, 1) := by decide +kernel
theorem dX8_layOneCell_9 : decode cX8_layOneCell 9 = .ok (.invokevirtual 166, 3) := by decide +kernel
theorem dX8_layOneCell_12 : decode cX8_layOneCell 12 = .ok (.ifCond .eq 14, 3) := by decide +kernel
theorem dX8_layOneCell_15 : decode cX8_layOneCell 15 = .ok (.aload_n 0, 1) := by decide +kernel
theorem dX8_layOneCell_16 : decode cX8_layOneCell 16 = .ok (.getfield 10, 3) := by decide +kernel
theorem dX8_layOneCell_19 : decode cX8_layOneCell 19 = .ok (.iload_n 3, 1) := by decide +kernel
theorem dX8_layOneCell_20 : decode cX8_layOneCell 20 = .ok (.invokevirtual 169, 3) := by decide +kernel
theorem dX8_layOneCell_23 : decode cX8_layOneCell 23 = .ok (.ifCond .ne 5, 3) := by decide +kernel
theorem dX8_layOneCell_26 : decode cX8_layOneCell 26 = .ok (.iconst 0, 1) := by decide +kernel
theorem dX8_layOneCell_27 : decode cX8_layOneCell 27 = .ok (.ireturn, 1) := by decide +kernel
theorem dX8_layOneCell_28 : decode cX8_layOneCell 28 = .ok (.aload_n 0, 1) := by decide +kernel
theorem dX8_layOneCell_29 : decode cX8_layOneCell 29 = .ok (.getfield 10, 3) := by decide +kernel
theorem dX8_layOneCell_32 : decode cX8_layOneCell 32 = .ok (.iload_n 3, 1) := by decide +kernel
theorem dX8_layOneCell_33 : decode cX8_layOneCell 33 = .ok (.invokevirtual 172, 3) := by decide +kernel
theorem dX8_layOneCell_36 : decode cX8_layOneCell 36 = .ok (.istore 4, 2) := by decide +kernel
theorem dX8_layOneCell_38 : decode cX8_layOneCell 38 = .ok (.iload 4, 2) := by decide +kernel
theorem dX8_layOneCell_40 : decode cX8_layOneCell 40 = .ok (.iload 4, 2) := by decide +kernel
theorem dX8_layOneCell_42 : decode cX8_layOneCell 42 = .ok (.iload_n 1, 1) := by decide +kernel
theorem dX8_layOneCell_43 : decode cX8_layOneCell 43 = .ok (.imul, 1) := by decide +kernel
theorem dX8_layOneCell_44 : decode cX8_layOneCell 44 = .ok (.sipush 1000, 3) := by decide +kernel
theorem dX8_layOneCell_47 : decode cX8_layOneCell 47 = .ok (.idiv, 1) := by decide +kernel
theorem dX8_layOneCell_48 : decode cX8_layOneCell 48 = .ok (.iadd, 1) := by decide +kernel
theorem dX8_layOneCell_49 : decode cX8_layOneCell 49 = .ok (.istore 5, 2) := by decide +kernel
theorem dX8_layOneCell_51 : decode cX8_layOneCell 51 = .ok (.aload_n 0, 1) := by decide +kernel
theorem dX8_layOneCell_52 : decode cX8_layOneCell 52 = .ok (.getfield 26, 3) := by decide +kernel
theorem dX8_layOneCell_55 : decode cX8_layOneCell 55 = .ok (.iload_n 2, 1) := by decide +kernel
theorem dX8_layOneCell_56 : decode cX8_layOneCell 56 = .ok (.iload 5, 2) := by decide +kernel
theorem dX8_layOneCell_58 : decode cX8_layOneCell 58 = .ok (.invokevirtual 175, 3) := by decide +kernel
theorem dX8_layOneCell_61 : decode cX8_layOneCell 61 = .ok (.ifCond .eq 45, 3) := by decide +kernel
theorem dX8_layOneCell_64 : decode cX8_layOneCell 64 = .ok (.aload_n 0, 1) := by decide +kernel
theorem dX8_layOneCell_65 : decode cX8_layOneCell 65 = .ok (.getfield 26, 3) := by decide +kernel
theorem dX8_layOneCell_68 : decode cX8_layOneCell 68 = .ok (.aload_n 0, 1) := by decide +kernel
theorem dX8_layOneCell_69 : decode cX8_layOneCell 69 = .ok (.getfield 10, 3) := by decide +kernel
theorem dX8_layOneCell_72 : decode cX8_layOneCell 72 = .ok (.iload_n 3, 1) := by decide +kernel
theorem dX8_layOneCell_73 : decode cX8_layOneCell 73 = .ok (.invokevirtual 74, 3) := by decide +kernel
theorem dX8_layOneCell_76 : decode cX8_layOneCell 76 = .ok (.invokevirtual 178, 3) := by decide +kernel
theorem dX8_layOneCell_79 : decode cX8_layOneCell 79 = .ok (.ifCond .eq 27, 3) := by decide +kernel
theorem dX8_layOneCell_82 : decode cX8_layOneCell 82 = .ok (.aload_n 0, 1) := by decide +kernel
theorem dX8_layOneCell_83 : decode cX8_layOneCell 83 = .ok (.getfield 26, 3) := by decide +kernel
theorem dX8_layOneCell_86 : decode cX8_layOneCell 86 = .ok (.aload_n 0, 1) := by decide +kernel
theorem dX8_layOneCell_87 : decode cX8_layOneCell 87 = .ok (.aload_n 0, 1) := by decide +kernel
theorem dX8_layOneCell_88 : decode cX8_layOneCell 88 = .ok (.getfield 33, 3) := by decide +kernel
theorem dX8_layOneCell_91 : decode cX8_layOneCell 91 = .ok (.getfield 123, 3) := by decide +kernel
theorem dX8_layOneCell_94 : decode cX8_layOneCell 94 = .ok (.iconst 1, 1) := by decide +kernel
theorem dX8_layOneCell_95 : decode cX8_layOneCell 95 = .ok (.isub, 1) := by decide +kernel
theorem dX8_layOneCell_96 : decode cX8_layOneCell 96 = .ok (.invokevirtual 181, 3) := by decide +kernel
theorem dX8_layOneCell_99 : decode cX8_layOneCell 99 = .ok (.iconst (-1), 1) := by decide +kernel
theorem dX8_layOneCell_100 : decode cX8_layOneCell 100 = .ok (.invokevirtual 184, 3) := by decide +kernel
theorem dX8_layOneCell_103 : decode cX8_layOneCell 103 = .ok (.ifCond .ne 5, 3) := by decide +kernel
theorem dX8_layOneCell_106 : decode cX8_layOneCell 106 = .ok (.iconst 0, 1) := by decide +kernel
theorem dX8_layOneCell_107 : decode cX8_layOneCell 107 = .ok (.ireturn, 1) := by decide +kernel
theorem dX8_layOneCell_108 : decode cX8_layOneCell 108 = .ok (.aload_n 0, 1) := by decide +kernel
theorem dX8_layOneCell_109 : decode cX8_layOneCell 109 = .ok (.invokevirtual 187, 3) := by decide +kernel
theorem dX8_layOneCell_112 : decode cX8_layOneCell 112 = .ok (.aload_n 0, 1) := by decide +kernel
theorem dX8_layOneCell_113 : decode cX8_layOneCell 113 = .ok (.getfield 26, 3) := by decide +kernel
theorem dX8_layOneCell_116 : decode cX8_layOneCell 116 = .ok (.iload_n 2, 1) := by decide +kernel
theorem dX8_layOneCell_117 : decode cX8_layOneCell 117 = .ok (.iload 5, 2) := by decide +kernel
theorem dX8_layOneCell_119 : decode cX8_layOneCell 119 = .ok (.invokevirtual 190, 3) := by decide +kernel
theorem dX8_layOneCell_122 : decode cX8_layOneCell 122 = .ok (.aload_n 0, 1) := by decide +kernel
theorem dX8_layOneCell_123 : decode cX8_layOneCell 123 = .ok (.getfield 33, 3) := by decide +kernel
theorem dX8_layOneCell_126 : decode cX8_layOneCell 126 = .ok (.iload 5, 2) := by decide +kernel
theorem dX8_layOneCell_128 : decode cX8_layOneCell 128 = .ok (.invokevirtual 193, 3) := by decide +kernel
theorem dX8_layOneCell_131 : decode cX8_layOneCell 131 = .ok (.aload_n 0, 1) := by decide +kernel
theorem dX8_layOneCell_132 : decode cX8_layOneCell 132 = .ok (.dup, 1) := by decide +kernel
theorem dX8_layOneCell_133 : decode cX8_layOneCell 133 = .ok (.getfield 109, 3) := by decide +kernel
theorem dX8_layOneCell_136 : decode cX8_layOneCell 136 = .ok (.iconst 1, 1) := by decide +kernel
theorem dX8_layOneCell_137 : decode cX8_layOneCell 137 = .ok (.iadd, 1) := by decide +kernel
theorem dX8_layOneCell_138 : decode cX8_layOneCell 138 = .ok (.putfield 109, 3) := by decide +kernel
theorem dX8_layOneCell_141 : decode cX8_layOneCell 141 = .ok (.iconst 1, 1) := by decide +kernel
theorem dX8_layOneCell_142 : decode cX8_layOneCell 142 = .ok (.ireturn, 1) := by decide +kernel
theorem dX8_mayGoOn_0 : decode cX8_mayGoOn 0 = .ok (.aload_n 0, 1) := by decide +kernel
theorem dX8_mayGoOn_1 : decode cX8_mayGoOn 1 = .ok (.getfield 19, 3) := by decide +kernel
theorem dX8_mayGoOn_4 : decode cX8_mayGoOn 4 = .ok (.invokevirtual 196, 3) := by decide +kernel
theorem dX8_mayGoOn_7 : decode cX8_mayGoOn 7 = .ok (.ifCond .eq 30, 3) := by decide +kernel
theorem dX8_mayGoOn_10 : decode cX8_mayGoOn 10 = .ok (.aload_n 0, 1) := by decide +kernel
theorem dX8_mayGoOn_11 : decode cX8_mayGoOn 11 = .ok (.getfield 109, 3) := by decide +kernel
theorem dX8_mayGoOn_14 : decode cX8_mayGoOn 14 = .ok (.bipush 12, 2) := by decide +kernel
theorem dX8_mayGoOn_16 : decode cX8_mayGoOn 16 = .ok (.if_icmp .ge 21, 3) := by decide +kernel
theorem dX8_mayGoOn_19 : decode cX8_mayGoOn 19 = .ok (.aload_n 0, 1) := by decide +kernel
theorem dX8_mayGoOn_20 : decode cX8_mayGoOn 20 = .ok (.getfield 112, 3) := by decide +kernel
theorem dX8_mayGoOn_23 : decode cX8_mayGoOn 23 = .ok (.ifCond .ne 14, 3) := by decide +kernel
theorem dX8_mayGoOn_26 : decode cX8_mayGoOn 26 = .ok (.aload_n 0, 1) := by decide +kernel
theorem dX8_mayGoOn_27 : decode cX8_mayGoOn 27 = .ok (.invokevirtual 116, 3) := by decide +kernel
theorem dX8_mayGoOn_30 : decode cX8_mayGoOn 30 = .ok (.ifCond .ne 7, 3) := by decide +kernel
theorem dX8_mayGoOn_33 : decode cX8_mayGoOn 33 = .ok (.iconst 1, 1) := by decide +kernel
theorem dX8_mayGoOn_34 : decode cX8_mayGoOn 34 = .ok (.goto 4, 3) := by decide +kernel
theorem dX8_mayGoOn_37 : decode cX8_mayGoOn 37 = .ok (.iconst 0, 1) := by decide +kernel
theorem dX8_mayGoOn_38 : decode cX8_mayGoOn 38 = .ok (.ireturn, 1) := by decide +kernel
theorem dX8_putBehind_0 : decode cX8_putBehind 0 = .ok (.aload_n 0, 1) := by decide +kernel
theorem dX8_putBehind_1 : decode cX8_putBehind 1 = .ok (.getfield 26, 3) := by decide +kernel
theorem dX8_putBehind_4 : decode cX8_putBehind 4 = .ok (.getfield 199, 3) := by decide +kernel
theorem dX8_putBehind_7 : decode cX8_putBehind 7 = .ok (.astore_n 1, 1) := by decide +kernel
theorem dX8_putBehind_8 : decode cX8_putBehind 8 = .ok (.iconst 0, 1) := by decide +kernel
theorem dX8_putBehind_9 : decode cX8_putBehind 9 = .ok (.istore_n 2, 1) := by decide +kernel
theorem dX8_putBehind_10 : decode cX8_putBehind 10 = .ok (.iload_n 2, 1) := by decide +kernel
theorem dX8_putBehind_11 : decode cX8_putBehind 11 = .ok (.aload_n 1, 1) := by decide +kernel
theorem dX8_putBehind_12 : decode cX8_putBehind 12 = .ok (.getfield 203, 3) := by decide +kernel
theorem dX8_putBehind_15 : decode cX8_putBehind 15 = .ok (.if_icmp .ge 34, 3) := by decide +kernel
theorem dX8_putBehind_18 : decode cX8_putBehind 18 = .ok (.aload_n 0, 1) := by decide +kernel
theorem dX8_putBehind_19 : decode cX8_putBehind 19 = .ok (.getfield 33, 3) := by decide +kernel
theorem dX8_putBehind_22 : decode cX8_putBehind 22 = .ok (.aload_n 1, 1) := by decide +kernel
theorem dX8_putBehind_23 : decode cX8_putBehind 23 = .ok (.iload_n 2, 1) := by decide +kernel
theorem dX8_putBehind_24 : decode cX8_putBehind 24 = .ok (.iconst 1, 1) := by decide +kernel
theorem dX8_putBehind_25 : decode cX8_putBehind 25 = .ok (.invokevirtual 208, 3) := by decide +kernel
theorem dX8_putBehind_28 : decode cX8_putBehind 28 = .ok (.aload_n 1, 1) := by decide +kernel
theorem dX8_putBehind_29 : decode cX8_putBehind 29 = .ok (.iload_n 2, 1) := by decide +kernel
theorem dX8_putBehind_30 : decode cX8_putBehind 30 = .ok (.iconst 2, 1) := by decide +kernel
theorem dX8_putBehind_31 : decode cX8_putBehind 31 = .ok (.invokevirtual 208, 3) := by decide +kernel
theorem dX8_putBehind_34 : decode cX8_putBehind 34 = .ok (.aload_n 1, 1) := by decide +kernel
theorem dX8_putBehind_35 : decode cX8_putBehind 35 = .ok (.iload_n 2, 1) := by decide +kernel
theorem dX8_putBehind_36 : decode cX8_putBehind 36 = .ok (.iconst 3, 1) := by decide +kernel
theorem dX8_putBehind_37 : decode cX8_putBehind 37 = .ok (.invokevirtual 208, 3) := by decide +kernel
theorem dX8_putBehind_40 : decode cX8_putBehind 40 = .ok (.invokevirtual 211, 3) := by decide +kernel
theorem dX8_putBehind_43 : decode cX8_putBehind 43 = .ok (.iinc 2 1, 3) := by decide +kernel
theorem dX8_putBehind_46 : decode cX8_putBehind 46 = .ok (.goto (-36), 3) := by decide +kernel
theorem dX8_putBehind_49 : decode cX8_putBehind 49 = .ok (.return_, 1) := by decide +kernel
theorem dX8_repeater_0 : decode cX8_repeater 0 = .ok (.aload_n 0, 1) := by decide +kernel
theorem dX8_repeater_1 : decode cX8_repeater 1 = .ok (.getfield 33, 3) := by decide +kernel
theorem dX8_repeater_4 : decode cX8_repeater 4 = .ok (.getfield 123, 3) := by decide +kernel
theorem dX8_repeater_7 : decode cX8_repeater 7 = .ok (.ifCond .le 25, 3) := by decide +kernel
theorem dX8_repeater_10 : decode cX8_repeater 10 = .ok (.aload_n 0, 1) := by decide +kernel
theorem dX8_repeater_11 : decode cX8_repeater 11 = .ok (.getfield 112, 3) := by decide +kernel
theorem dX8_repeater_14 : decode cX8_repeater 14 = .ok (.ifCond .ne 18, 3) := by decide +kernel
theorem dX8_repeater_17 : decode cX8_repeater 17 = .ok (.aload_n 0, 1) := by decide +kernel
theorem dX8_repeater_18 : decode cX8_repeater 18 = .ok (.getfield 33, 3) := by decide +kernel
theorem dX8_repeater_21 : decode cX8_repeater 21 = .ok (.invokevirtual 214, 3) := by decide +kernel
theorem dX8_repeater_24 : decode cX8_repeater 24 = .ok (.iconst 2, 1) := by decide +kernel
theorem dX8_repeater_25 : decode cX8_repeater 25 = .ok (.if_icmp .eq 7, 3) := by decide +kernel
theorem dX8_repeater_28 : decode cX8_repeater 28 = .ok (.iconst 1, 1) := by decide +kernel
theorem dX8_repeater_29 : decode cX8_repeater 29 = .ok (.goto 4, 3) := by decide +kernel
theorem dX8_repeater_32 : decode cX8_repeater 32 = .ok (.iconst 0, 1) := by decide +kernel
theorem dX8_repeater_33 : decode cX8_repeater 33 = .ok (.invokestatic 67, 3) := by decide +kernel
theorem dX8_repeater_36 : decode cX8_repeater 36 = .ok (.aload_n 0, 1) := by decide +kernel
theorem dX8_repeater_37 : decode cX8_repeater 37 = .ok (.getfield 33, 3) := by decide +kernel
theorem dX8_repeater_40 : decode cX8_repeater 40 = .ok (.iconst 2, 1) := by decide +kernel
theorem dX8_repeater_41 : decode cX8_repeater 41 = .ok (.invokevirtual 217, 3) := by decide +kernel
theorem dX8_repeater_44 : decode cX8_repeater 44 = .ok (.aload_n 0, 1) := by decide +kernel
theorem dX8_repeater_45 : decode cX8_repeater 45 = .ok (.getfield 33, 3) := by decide +kernel
theorem dX8_repeater_48 : decode cX8_repeater 48 = .ok (.iconst 2, 1) := by decide +kernel
theorem dX8_repeater_49 : decode cX8_repeater 49 = .ok (.invokevirtual 220, 3) := by decide +kernel
theorem dX8_repeater_52 : decode cX8_repeater 52 = .ok (.ireturn, 1) := by decide +kernel
theorem dX8_takeUp_0 : decode cX8_takeUp 0 = .ok (.iload_n 1, 1) := by decide +kernel
theorem dX8_takeUp_1 : decode cX8_takeUp 1 = .ok (.invokestatic 152, 3) := by decide +kernel
theorem dX8_takeUp_4 : decode cX8_takeUp 4 = .ok (.invokestatic 59, 3) := by decide +kernel
theorem dX8_takeUp_7 : decode cX8_takeUp 7 = .ok (.aload_n 0, 1) := by decide +kernel
theorem dX8_takeUp_8 : decode cX8_takeUp 8 = .ok (.getfield 112, 3) := by decide +kernel
theorem dX8_takeUp_11 : decode cX8_takeUp 11 = .ok (.ifCond .eq 32, 3) := by decide +kernel
theorem dX8_takeUp_14 : decode cX8_takeUp 14 = .ok (.aload_n 0, 1) := by decide +kernel
theorem dX8_takeUp_15 : decode cX8_takeUp 15 = .ok (.getfield 19, 3) := by decide +kernel
theorem dX8_takeUp_18 : decode cX8_takeUp 18 = .ok (.invokevirtual 196, 3) := by decide +kernel
theorem dX8_takeUp_21 : decode cX8_takeUp 21 = .ok (.ifCond .eq 22, 3) := by decide +kernel
theorem dX8_takeUp_24 : decode cX8_takeUp 24 = .ok (.aload_n 0, 1) := by decide +kernel
theorem dX8_takeUp_25 : decode cX8_takeUp 25 = .ok (.getfield 26, 3) := by decide +kernel
theorem dX8_takeUp_28 : decode cX8_takeUp 28 = .ok (.iload_n 1, 1) := by decide +kernel
theorem dX8_takeUp_29 : decode cX8_takeUp 29 = .ok (.aload_n 0, 1) := by decide +kernel
theorem dX8_takeUp_30 : decode cX8_takeUp 30 = .ok (.getfield 132, 3) := by decide +kernel
theorem dX8_takeUp_33 : decode cX8_takeUp 33 = .ok (.invokevirtual 175, 3) := by decide +kernel
theorem dX8_takeUp_36 : decode cX8_takeUp 36 = .ok (.ifCond .eq 7, 3) := by decide +kernel
theorem dX8_takeUp_39 : decode cX8_takeUp 39 = .ok (.iconst 1, 1) := by decide +kernel
theorem dX8_takeUp_40 : decode cX8_takeUp 40 = .ok (.goto 4, 3) := by decide +kernel
theorem dX8_takeUp_43 : decode cX8_takeUp 43 = .ok (.iconst 0, 1) := by decide +kernel
theorem dX8_takeUp_44 : decode cX8_takeUp 44 = .ok (.invokestatic 67, 3) := by decide +kernel
theorem dX8_takeUp_47 : decode cX8_takeUp 47 = .ok (.aload_n 0, 1) := by decide +kernel
theorem dX8_takeUp_48 : decode cX8_takeUp 48 = .ok (.getfield 26, 3) := by decide +kernel
theorem dX8_takeUp_51 : decode cX8_takeUp 51 = .ok (.aload_n 0, 1) := by decide +kernel
theorem dX8_takeUp_52 : decode cX8_takeUp 52 = .ok (.aload_n 0, 1) := by decide +kernel
theorem dX8_takeUp_53 : decode cX8_takeUp 53 = .ok (.getfield 33, 3) := by decide +kernel
theorem dX8_takeUp_56 : decode cX8_takeUp 56 = .ok (.getfield 123, 3) := by decide +kernel
theorem dX8_takeUp_59 : decode cX8_takeUp 59 = .ok (.iconst 1, 1) := by decide +kernel
theorem dX8_takeUp_60 : decode cX8_takeUp 60 = .ok (.isub, 1) := by decide +kernel
theorem dX8_takeUp_61 : decode cX8_takeUp 61 = .ok (.invokevirtual 181, 3) := by decide +kernel
theorem dX8_takeUp_64 : decode cX8_takeUp 64 = .ok (.iconst (-1), 1) := by decide +kernel
theorem dX8_takeUp_65 : decode cX8_takeUp 65 = .ok (.invokevirtual 184, 3) := by decide +kernel
theorem dX8_takeUp_68 : decode cX8_takeUp 68 = .ok (.invokestatic 67, 3) := by decide +kernel
theorem dX8_takeUp_71 : decode cX8_takeUp 71 = .ok (.aload_n 0, 1) := by decide +kernel
theorem dX8_takeUp_72 : decode cX8_takeUp 72 = .ok (.getfield 132, 3) := by decide +kernel
theorem dX8_takeUp_75 : decode cX8_takeUp 75 = .ok (.istore_n 2, 1) := by decide +kernel
theorem dX8_takeUp_76 : decode cX8_takeUp 76 = .ok (.iload_n 2, 1) := by decide +kernel
theorem dX8_takeUp_77 : decode cX8_takeUp 77 = .ok (.ifCond .le 32, 3) := by decide +kernel
theorem dX8_takeUp_80 : decode cX8_takeUp 80 = .ok (.aload_n 0, 1) := by decide +kernel
theorem dX8_takeUp_81 : decode cX8_takeUp 81 = .ok (.getfield 33, 3) := by decide +kernel
theorem dX8_takeUp_84 : decode cX8_takeUp 84 = .ok (.iconst 1, 1) := by decide +kernel
theorem dX8_takeUp_85 : decode cX8_takeUp 85 = .ok (.invokevirtual 217, 3) := by decide +kernel
theorem dX8_takeUp_88 : decode cX8_takeUp 88 = .ok (.aload_n 0, 1) := by decide +kernel
theorem dX8_takeUp_89 : decode cX8_takeUp 89 = .ok (.invokevirtual 187, 3) := by decide +kernel
theorem dX8_takeUp_92 : decode cX8_takeUp 92 = .ok (.aload_n 0, 1) := by decide +kernel
theorem dX8_takeUp_93 : decode cX8_takeUp 93 = .ok (.getfield 26, 3) := by decide +kernel
theorem dX8_takeUp_96 : decode cX8_takeUp 96 = .ok (.iload_n 1, 1) := by decide +kernel
theorem dX8_takeUp_97 : decode cX8_takeUp 97 = .ok (.iload_n 2, 1) := by decide +kernel
theorem dX8_takeUp_98 : decode cX8_takeUp 98 = .ok (.invokevirtual 190, 3) := by decide +kernel
theorem dX8_takeUp_101 : decode cX8_takeUp 101 = .ok (.aload_n 0, 1) := by decide +kernel
theorem dX8_takeUp_102 : decode cX8_takeUp 102 = .ok (.getfield 33, 3) := by decide +kernel
theorem dX8_takeUp_105 : decode cX8_takeUp 105 = .ok (.iload_n 2, 1) := by decide +kernel
theorem dX8_takeUp_106 : decode cX8_takeUp 106 = .ok (.invokevirtual 223, 3) := by decide +kernel
theorem dX8_takeUp_109 : decode cX8_takeUp 109 = .ok (.aload_n 0, 1) := by decide +kernel
theorem dX8_takeUp_110 : decode cX8_takeUp 110 = .ok (.iconst 0, 1) := by decide +kernel
theorem dX8_takeUp_111 : decode cX8_takeUp 111 = .ok (.putfield 112, 3) := by decide +kernel
theorem dX8_takeUp_114 : decode cX8_takeUp 114 = .ok (.aload_n 0, 1) := by decide +kernel
theorem dX8_takeUp_115 : decode cX8_takeUp 115 = .ok (.iconst 0, 1) := by decide +kernel
theorem dX8_takeUp_116 : decode cX8_takeUp 116 = .ok (.putfield 132, 3) := by decide +kernel
theorem dX8_takeUp_119 : decode cX8_takeUp 119 = .ok (.aload_n 0, 1) := by decide +kernel
theorem dX8_takeUp_120 : decode cX8_takeUp 120 = .ok (.getfield 40, 3) := by decide +kernel
theorem dX8_takeUp_123 : decode cX8_takeUp 123 = .ok (.aload_n 0, 1) := by decide +kernel
theorem dX8_takeUp_124 : decode cX8_takeUp 124 = .ok (.getfield 33, 3) := by decide +kernel
theorem dX8_takeUp_127 : decode cX8_takeUp 127 = .ok (.getfield 123, 3) := by decide +kernel
theorem dX8_takeUp_130 : decode cX8_takeUp 130 = .ok (.invokevirtual 145, 3) := by decide +kernel
theorem dX8_takeUp_133 : decode cX8_takeUp 133 = .ok (.iload_n 2, 1) := by decide +kernel
theorem dX8_takeUp_134 : decode cX8_takeUp 134 = .ok (.ireturn, 1) := by decide +kernel
theorem dX8_mend_0 : decode cX8_mend 0 = .ok (.iload_n 1, 1) := by decide +kernel
theorem dX8_mend_1 : decode cX8_mend 1 = .ok (.invokestatic 51, 3) := by decide +kernel
theorem dX8_mend_4 : decode cX8_mend 4 = .ok (.ifCond .eq 14, 3) := by decide +kernel
theorem dX8_mend_7 : decode cX8_mend 7 = .ok (.iload_n 2, 1) := by decide +kernel
theorem dX8_mend_8 : decode cX8_mend 8 = .ok (.invokestatic 152, 3) := by decide +kernel
theorem dX8_mend_11 : decode cX8_mend 11 = .ok (.ifCond .eq 7, 3) := by decide +kernel
theorem dX8_mend_14 : decode cX8_mend 14 = .ok (.iconst 1, 1) := by decide +kernel
theorem dX8_mend_15 : decode cX8_mend 15 = .ok (.goto 4, 3) := by decide +kernel
theorem dX8_mend_18 : decode cX8_mend 18 = .ok (.iconst 0, 1) := by decide +kernel
theorem dX8_mend_19 : decode cX8_mend 19 = .ok (.invokestatic 59, 3) := by decide +kernel
theorem dX8_mend_22 : decode cX8_mend 22 = .ok (.aload_n 0, 1) := by decide +kernel
theorem dX8_mend_23 : decode cX8_mend 23 = .ok (.getfield 19, 3) := by decide +kernel
theorem dX8_mend_26 : decode cX8_mend 26 = .ok (.invokevirtual 196, 3) := by decide +kernel
theorem dX8_mend_29 : decode cX8_mend 29 = .ok (.ifCond .eq 21, 3) := by decide +kernel
theorem dX8_mend_32 : decode cX8_mend 32 = .ok (.aload_n 0, 1) := by decide +kernel
theorem dX8_mend_33 : decode cX8_mend 33 = .ok (.invokevirtual 116, 3) := by decide +kernel
theorem dX8_mend_36 : decode cX8_mend 36 = .ok (.ifCond .ne 10, 3) := by decide +kernel
theorem dX8_mend_39 : decode cX8_mend 39 = .ok (.aload_n 0, 1) := by decide +kernel
theorem dX8_mend_40 : decode cX8_mend 40 = .ok (.getfield 112, 3) := by decide +kernel
theorem dX8_mend_43 : decode cX8_mend 43 = .ok (.ifCond .eq 7, 3) := by decide +kernel
theorem dX8_mend_46 : decode cX8_mend 46 = .ok (.iconst 1, 1) := by decide +kernel
theorem dX8_mend_47 : decode cX8_mend 47 = .ok (.goto 4, 3) := by decide +kernel
theorem dX8_mend_50 : decode cX8_mend 50 = .ok (.iconst 0, 1) := by decide +kernel
theorem dX8_mend_51 : decode cX8_mend 51 = .ok (.invokestatic 67, 3) := by decide +kernel
theorem dX8_mend_54 : decode cX8_mend 54 = .ok (.iload_n 1, 1) := by decide +kernel
theorem dX8_mend_55 : decode cX8_mend 55 = .ok (.aload_n 0, 1) := by decide +kernel
theorem dX8_mend_56 : decode cX8_mend 56 = .ok (.getfield 33, 3) := by decide +kernel
theorem dX8_mend_59 : decode cX8_mend 59 = .ok (.getfield 63, 3) := by decide +kernel
theorem dX8_mend_62 : decode cX8_mend 62 = .ok (.if_icmp .ge 27, 3) := by decide +kernel
theorem dX8_mend_65 : decode cX8_mend 65 = .ok (.aload_n 0, 1) := by decide +kernel
theorem dX8_mend_66 : decode cX8_mend 66 = .ok (.getfield 112, 3) := by decide +kernel
theorem dX8_mend_69 : decode cX8_mend 69 = .ok (.ifCond .eq 16, 3) := by decide +kernel
theorem dX8_mend_72 : decode cX8_mend 72 = .ok (.iload_n 1, 1) := by decide +kernel
theorem dX8_mend_73 : decode cX8_mend 73 = .ok (.aload_n 0, 1) := by decide +kernel
theorem dX8_mend_74 : decode cX8_mend 74 = .ok (.getfield 33, 3) := by decide +kernel
theorem dX8_mend_77 : decode cX8_mend 77 = .ok (.getfield 63, 3) := by decide +kernel
theorem dX8_mend_80 : decode cX8_mend 80 = .ok (.iconst 1, 1) := by decide +kernel
theorem dX8_mend_81 : decode cX8_mend 81 = .ok (.isub, 1) := by decide +kernel
theorem dX8_mend_82 : decode cX8_mend 82 = .ok (.if_icmp .eq 7, 3) := by decide +kernel
theorem dX8_mend_85 : decode cX8_mend 85 = .ok (.iconst 1, 1) := by decide +kernel
theorem dX8_mend_86 : decode cX8_mend 86 = .ok (.goto 4, 3) := by decide +kernel
theorem dX8_mend_89 : decode cX8_mend 89 = .ok (.iconst 0, 1) := by decide +kernel
theorem dX8_mend_90 : decode cX8_mend 90 = .ok (.invokestatic 67, 3) := by decide +kernel
theorem dX8_mend_93 : decode cX8_mend 93 = .ok (.aload_n 0, 1) := by decide +kernel
theorem dX8_mend_94 : decode cX8_mend 94 = .ok (.getfield 33, 3) := by decide +kernel
theorem dX8_mend_97 : decode cX8_mend 97 = .ok (.iload_n 1, 1) := by decide +kernel
theorem dX8_mend_98 : decode cX8_mend 98 = .ok (.invokevirtual 238, 3) := by decide +kernel
theorem dX8_mend_101 : decode cX8_mend 101 = .ok (.istore_n 3, 1) := by decide +kernel
theorem dX8_mend_102 : decode cX8_mend 102 = .ok (.iload_n 3, 1) := by decide +kernel
theorem dX8_mend_103 : decode cX8_mend 103 = .ok (.aload_n 0, 1) := by decide +kernel
theorem dX8_mend_104 : decode cX8_mend 104 = .ok (.getfield 33, 3) := by decide +kernel
theorem dX8_mend_107 : decode cX8_mend 107 = .ok (.iload_n 1, 1) := by decide +kernel
theorem dX8_mend_108 : decode cX8_mend 108 = .ok (.invokevirtual 241, 3) := by decide +kernel
theorem dX8_mend_111 : decode cX8_mend 111 = .ok (.iadd, 1) := by decide +kernel
theorem dX8_mend_112 : decode cX8_mend 112 = .ok (.istore 4, 2) := by decide +kernel
theorem dX8_mend_114 : decode cX8_mend 114 = .ok (.aload_n 0, 1) := by decide +kernel
theorem dX8_mend_115 : decode cX8_mend 115 = .ok (.getfield 10, 3) := by decide +kernel
theorem dX8_mend_118 : decode cX8_mend 118 = .ok (.iload_n 1, 1) := by decide +kernel
theorem dX8_mend_119 : decode cX8_mend 119 = .ok (.invokevirtual 74, 3) := by decide +kernel
theorem dX8_mend_122 : decode cX8_mend 122 = .ok (.istore 5, 2) := by decide +kernel
theorem dX8_mend_124 : decode cX8_mend 124 = .ok (.iload 4, 2) := by decide +kernel
theorem dX8_mend_126 : decode cX8_mend 126 = .ok (.iload_n 3, 1) := by decide +kernel
theorem dX8_mend_127 : decode cX8_mend 127 = .ok (.isub, 1) := by decide +kernel
theorem dX8_mend_128 : decode cX8_mend 128 = .ok (.iconst 2, 1) := by decide +kernel
theorem dX8_mend_129 : decode cX8_mend 129 = .ok (.iload 5, 2) := by decide +kernel
theorem dX8_mend_131 : decode cX8_mend 131 = .ok (.imul, 1) := by decide +kernel
theorem dX8_mend_132 : decode cX8_mend 132 = .ok (.iadd, 1) := by decide +kernel
theorem dX8_mend_133 : decode cX8_mend 133 = .ok (.istore 6, 2) := by decide +kernel
theorem dX8_mend_135 : decode cX8_mend 135 = .ok (.aload_n 0, 1) := by decide +kernel
theorem dX8_mend_136 : decode cX8_mend 136 = .ok (.getfield 26, 3) := by decide +kernel
theorem dX8_mend_139 : decode cX8_mend 139 = .ok (.iload_n 2, 1) := by decide +kernel
theorem dX8_mend_140 : decode cX8_mend 140 = .ok (.iload 6, 2) := by decide +kernel
theorem dX8_mend_142 : decode cX8_mend 142 = .ok (.invokevirtual 175, 3) := by decide +kernel
theorem dX8_mend_145 : decode cX8_mend 145 = .ok (.ifCond .eq 30, 3) := by decide +kernel
theorem dX8_mend_148 : decode cX8_mend 148 = .ok (.aload_n 0, 1) := by decide +kernel
theorem dX8_mend_149 : decode cX8_mend 149 = .ok (.getfield 26, 3) := by decide +kernel
theorem dX8_mend_152 : decode cX8_mend 152 = .ok (.aload_n 0, 1) := by decide +kernel
theorem dX8_mend_153 : decode cX8_mend 153 = .ok (.iload_n 3, 1) := by decide +kernel
theorem dX8_mend_154 : decode cX8_mend 154 = .ok (.iconst 1, 1) := by decide +kernel
theorem dX8_mend_155 : decode cX8_mend 155 = .ok (.isub, 1) := by decide +kernel
theorem dX8_mend_156 : decode cX8_mend 156 = .ok (.invokevirtual 181, 3) := by decide +kernel
theorem dX8_mend_159 : decode cX8_mend 159 = .ok (.aload_n 0, 1) := by decide +kernel
theorem dX8_mend_160 : decode cX8_mend 160 = .ok (.iload 4, 2) := by decide +kernel
theorem dX8_mend_162 : decode cX8_mend 162 = .ok (.invokevirtual 181, 3) := by decide +kernel
theorem dX8_mend_165 : decode cX8_mend 165 = .ok (.invokevirtual 184, 3) := by decide +kernel
theorem dX8_mend_168 : decode cX8_mend 168 = .ok (.ifCond .eq 7, 3) := by decide +kernel
theorem dX8_mend_171 : decode cX8_mend 171 = .ok (.iconst 1, 1) := by decide +kernel
theorem dX8_mend_172 : decode cX8_mend 172 = .ok (.goto 4, 3) := by decide +kernel
theorem dX8_mend_175 : decode cX8_mend 175 = .ok (.iconst 0, 1) := by decide +kernel
theorem dX8_mend_176 : decode cX8_mend 176 = .ok (.invokestatic 67, 3) := by decide +kernel
theorem dX8_mend_179 : decode cX8_mend 179 = .ok (.aload_n 0, 1) := by decide +kernel
theorem dX8_mend_180 : decode cX8_mend 180 = .ok (.getfield 33, 3) := by decide +kernel
theorem dX8_mend_183 : decode cX8_mend 183 = .ok (.iload_n 1, 1) := by decide +kernel
theorem dX8_mend_184 : decode cX8_mend 184 = .ok (.aload_n 0, 1) := by decide +kernel
theorem dX8_mend_185 : decode cX8_mend 185 = .ok (.getfield 26, 3) := by decide +kernel
theorem dX8_mend_188 : decode cX8_mend 188 = .ok (.getfield 199, 3) := by decide +kernel
theorem dX8_mend_191 : decode cX8_mend 191 = .ok (.iload 6, 2) := by decide +kernel
theorem dX8_mend_193 : decode cX8_mend 193 = .ok (.invokevirtual 261, 3) := by decide +kernel
theorem dX8_mend_196 : decode cX8_mend 196 = .ok (.aload_n 0, 1) := by decide +kernel
theorem dX8_mend_197 : decode cX8_mend 197 = .ok (.getfield 26, 3) := by decide +kernel
theorem dX8_mend_200 : decode cX8_mend 200 = .ok (.iload_n 2, 1) := by decide +kernel
theorem dX8_mend_201 : decode cX8_mend 201 = .ok (.iload 6, 2) := by decide +kernel
theorem dX8_mend_203 : decode cX8_mend 203 = .ok (.invokevirtual 190, 3) := by decide +kernel
theorem dX8_mend_206 : decode cX8_mend 206 = .ok (.aload_n 0, 1) := by decide +kernel
theorem dX8_mend_207 : decode cX8_mend 207 = .ok (.dup, 1) := by decide +kernel
theorem dX8_mend_208 : decode cX8_mend 208 = .ok (.getfield 135, 3) := by decide +kernel
theorem dX8_mend_211 : decode cX8_mend 211 = .ok (.iload 4, 2) := by decide +kernel
theorem dX8_mend_213 : decode cX8_mend 213 = .ok (.iload_n 3, 1) := by decide +kernel
theorem dX8_mend_214 : decode cX8_mend 214 = .ok (.isub, 1) := by decide +kernel
theorem dX8_mend_215 : decode cX8_mend 215 = .ok (.iadd, 1) := by decide +kernel
theorem dX8_mend_216 : decode cX8_mend 216 = .ok (.putfield 135, 3) := by decide +kernel
theorem dX8_mend_219 : decode cX8_mend 219 = .ok (.aload_n 0, 1) := by decide +kernel
theorem dX8_mend_220 : decode cX8_mend 220 = .ok (.getfield 19, 3) := by decide +kernel
theorem dX8_mend_223 : decode cX8_mend 223 = .ok (.aload_n 0, 1) := by decide +kernel
theorem dX8_mend_224 : decode cX8_mend 224 = .ok (.getfield 19, 3) := by decide +kernel
theorem dX8_mend_227 : decode cX8_mend 227 = .ok (.getfield 93, 3) := by decide +kernel
theorem dX8_mend_230 : decode cX8_mend 230 = .ok (.iconst 3, 1) := by decide +kernel
theorem dX8_mend_231 : decode cX8_mend 231 = .ok (.iadd, 1) := by decide +kernel
theorem dX8_mend_232 : decode cX8_mend 232 = .ok (.iload 5, 2) := by decide +kernel
theorem dX8_mend_234 : decode cX8_mend 234 = .ok (.sipush 1000, 3) := by decide +kernel
theorem dX8_mend_237 : decode cX8_mend 237 = .ok (.idiv, 1) := by decide +kernel
theorem dX8_mend_238 : decode cX8_mend 238 = .ok (.iadd, 1) := by decide +kernel
theorem dX8_mend_239 : decode cX8_mend 239 = .ok (.putfield 265, 3) := by decide +kernel
theorem dX8_mend_242 : decode cX8_mend 242 = .ok (.aload_n 0, 1) := by decide +kernel
theorem dX8_mend_243 : decode cX8_mend 243 = .ok (.getfield 40, 3) := by decide +kernel
theorem dX8_mend_246 : decode cX8_mend 246 = .ok (.iload_n 3, 1) := by decide +kernel
theorem dX8_mend_247 : decode cX8_mend 247 = .ok (.iload 4, 2) := by decide +kernel
theorem dX8_mend_249 : decode cX8_mend 249 = .ok (.iload 6, 2) := by decide +kernel
theorem dX8_mend_251 : decode cX8_mend 251 = .ok (.iload 4, 2) := by decide +kernel
theorem dX8_mend_253 : decode cX8_mend 253 = .ok (.iload_n 3, 1) := by decide +kernel
theorem dX8_mend_254 : decode cX8_mend 254 = .ok (.isub, 1) := by decide +kernel
theorem dX8_mend_255 : decode cX8_mend 255 = .ok (.isub, 1) := by decide +kernel
theorem dX8_mend_256 : decode cX8_mend 256 = .ok (.invokevirtual 268, 3) := by decide +kernel
theorem dX8_mend_259 : decode cX8_mend 259 = .ok (.istore 7, 2) := by decide +kernel
theorem dX8_mend_261 : decode cX8_mend 261 = .ok (.aload_n 0, 1) := by decide +kernel
theorem dX8_mend_262 : decode cX8_mend 262 = .ok (.getfield 40, 3) := by decide +kernel
theorem dX8_mend_265 : decode cX8_mend 265 = .ok (.aload_n 0, 1) := by decide +kernel
theorem dX8_mend_266 : decode cX8_mend 266 = .ok (.getfield 33, 3) := by decide +kernel
theorem dX8_mend_269 : decode cX8_mend 269 = .ok (.getfield 123, 3) := by decide +kernel
theorem dX8_mend_272 : decode cX8_mend 272 = .ok (.invokevirtual 145, 3) := by decide +kernel
theorem dX8_mend_275 : decode cX8_mend 275 = .ok (.iload 7, 2) := by decide +kernel
theorem dX8_mend_277 : decode cX8_mend 277 = .ok (.ireturn, 1) := by decide +kernel
theorem dX8_day_0 : decode cX8_day 0 = .ok (.aload_n 0, 1) := by decide +kernel
theorem dX8_day_1 : decode cX8_day 1 = .ok (.getfield 19, 3) := by decide +kernel
theorem dX8_day_4 : decode cX8_day 4 = .ok (.getfield 93, 3) := by decide +kernel
theorem dX8_day_7 : decode cX8_day 7 = .ok (.ireturn, 1) := by decide +kernel
theorem dX8_waves_0 : decode cX8_waves 0 = .ok (.aload_n 0, 1) := by decide +kernel
theorem dX8_waves_1 : decode cX8_waves 1 = .ok (.getfield 19, 3) := by decide +kernel
theorem dX8_waves_4 : decode cX8_waves 4 = .ok (.invokevirtual 99, 3) := by decide +kernel
theorem dX8_waves_7 : decode cX8_waves 7 = .ok (.ireturn, 1) := by decide +kernel
theorem dX8_canWork_0 : decode cX8_canWork 0 = .ok (.aload_n 0, 1) := by decide +kernel
theorem dX8_canWork_1 : decode cX8_canWork 1 = .ok (.getfield 19, 3) := by decide +kernel
theorem dX8_canWork_4 : decode cX8_canWork 4 = .ok (.invokevirtual 196, 3) := by decide +kernel
theorem dX8_canWork_7 : decode cX8_canWork 7 = .ok (.ireturn, 1) := by decide +kernel
theorem dX8_cell_0 : decode cX8_cell 0 = .ok (.iload_n 1, 1) := by decide +kernel
theorem dX8_cell_1 : decode cX8_cell 1 = .ok (.invokestatic 51, 3) := by decide +kernel
theorem dX8_cell_4 : decode cX8_cell 4 = .ok (.ifCond .eq 16, 3) := by decide +kernel
theorem dX8_cell_7 : decode cX8_cell 7 = .ok (.iload_n 2, 1) := by decide +kernel
theorem dX8_cell_8 : decode cX8_cell 8 = .ok (.iconst 0, 1) := by decide +kernel
theorem dX8_cell_9 : decode cX8_cell 9 = .ok (.iconst 3, 1) := by decide +kernel
theorem dX8_cell_10 : decode cX8_cell 10 = .ok (.invokestatic 55, 3) := by decide +kernel
theorem dX8_cell_13 : decode cX8_cell 13 = .ok (.ifCond .eq 7, 3) := by decide +kernel
theorem dX8_cell_16 : decode cX8_cell 16 = .ok (.iconst 1, 1) := by decide +kernel
theorem dX8_cell_17 : decode cX8_cell 17 = .ok (.goto 4, 3) := by decide +kernel
theorem dX8_cell_20 : decode cX8_cell 20 = .ok (.iconst 0, 1) := by decide +kernel
theorem dX8_cell_21 : decode cX8_cell 21 = .ok (.invokestatic 59, 3) := by decide +kernel
theorem dX8_cell_24 : decode cX8_cell 24 = .ok (.iload_n 2, 1) := by decide +kernel
theorem dX8_cell_25 : decode cX8_cell 25 = .ok (.tableswitch 69 0 2 #[27, 36, 45], 27) := by decide +kernel
theorem dX8_cell_52 : decode cX8_cell 52 = .ok (.aload_n 0, 1) := by decide +kernel
theorem dX8_cell_53 : decode cX8_cell 53 = .ok (.getfield 10, 3) := by decide +kernel
theorem dX8_cell_56 : decode cX8_cell 56 = .ok (.iload_n 1, 1) := by decide +kernel
theorem dX8_cell_57 : decode cX8_cell 57 = .ok (.invokevirtual 74, 3) := by decide +kernel
theorem dX8_cell_60 : decode cX8_cell 60 = .ok (.ireturn, 1) := by decide +kernel
theorem dX8_cell_61 : decode cX8_cell 61 = .ok (.aload_n 0, 1) := by decide +kernel
theorem dX8_cell_62 : decode cX8_cell 62 = .ok (.getfield 10, 3) := by decide +kernel
theorem dX8_cell_65 : decode cX8_cell 65 = .ok (.iload_n 1, 1) := by decide +kernel
theorem dX8_cell_66 : decode cX8_cell 66 = .ok (.invokevirtual 172, 3) := by decide +kernel
theorem dX8_cell_69 : decode cX8_cell 69 = .ok (.ireturn, 1) := by decide +kernel
theorem dX8_cell_70 : decode cX8_cell 70 = .ok (.iload_n 1, 1) := by decide +kernel
theorem dX8_cell_71 : decode cX8_cell 71 = .ok (.aload_n 0, 1) := by decide +kernel
theorem dX8_cell_72 : decode cX8_cell 72 = .ok (.getfield 33, 3) := by decide +kernel
theorem dX8_cell_75 : decode cX8_cell 75 = .ok (.getfield 63, 3) := by decide +kernel
theorem dX8_cell_78 : decode cX8_cell 78 = .ok (.if_icmp .ge 14, 3) := by decide +kernel
theorem dX8_cell_81 : decode cX8_cell 81 = .ok (.aload_n 0, 1) := by decide +kernel
theorem dX8_cell_82 : decode cX8_cell 82 = .ok (.getfield 33, 3) := by decide +kernel
theorem dX8_cell_85 : decode cX8_cell 85 = .ok (.iload_n 1, 1) := by decide +kernel
theorem dX8_cell_86 : decode cX8_cell 86 = .ok (.invokevirtual 238, 3) := by decide +kernel
theorem dX8_cell_89 : decode cX8_cell 89 = .ok (.goto 4, 3) := by decide +kernel
theorem dX8_cell_92 : decode cX8_cell 92 = .ok (.iconst (-1), 1) := by decide +kernel
theorem dX8_cell_93 : decode cX8_cell 93 = .ok (.ireturn, 1) := by decide +kernel
theorem dX8_cell_94 : decode cX8_cell 94 = .ok (.iload_n 1, 1) := by decide +kernel
theorem dX8_cell_95 : decode cX8_cell 95 = .ok (.aload_n 0, 1) := by decide +kernel
theorem dX8_cell_96 : decode cX8_cell 96 = .ok (.getfield 33, 3) := by decide +kernel
theorem dX8_cell_99 : decode cX8_cell 99 = .ok (.getfield 63, 3) := by decide +kernel
theorem dX8_cell_102 : decode cX8_cell 102 = .ok (.if_icmp .ge 14, 3) := by decide +kernel
theorem dX8_cell_105 : decode cX8_cell 105 = .ok (.aload_n 0, 1) := by decide +kernel
theorem dX8_cell_106 : decode cX8_cell 106 = .ok (.getfield 33, 3) := by decide +kernel
theorem dX8_cell_109 : decode cX8_cell 109 = .ok (.iload_n 1, 1) := by decide +kernel
theorem dX8_cell_110 : decode cX8_cell 110 = .ok (.invokevirtual 241, 3) := by decide +kernel
theorem dX8_cell_113 : decode cX8_cell 113 = .ok (.goto 4, 3) := by decide +kernel
theorem dX8_cell_116 : decode cX8_cell 116 = .ok (.iconst (-1), 1) := by decide +kernel
theorem dX8_cell_117 : decode cX8_cell 117 = .ok (.ireturn, 1) := by decide +kernel
theorem dX8_tank_0 : decode cX8_tank 0 = .ok (.iload_n 1, 1) := by decide +kernel
theorem dX8_tank_1 : decode cX8_tank 1 = .ok (.invokestatic 152, 3) := by decide +kernel
theorem dX8_tank_4 : decode cX8_tank 4 = .ok (.ifCond .eq 16, 3) := by decide +kernel
theorem dX8_tank_7 : decode cX8_tank 7 = .ok (.iload_n 2, 1) := by decide +kernel
theorem dX8_tank_8 : decode cX8_tank 8 = .ok (.iconst 0, 1) := by decide +kernel
theorem dX8_tank_9 : decode cX8_tank 9 = .ok (.iconst 4, 1) := by decide +kernel
theorem dX8_tank_10 : decode cX8_tank 10 = .ok (.invokestatic 55, 3) := by decide +kernel
theorem dX8_tank_13 : decode cX8_tank 13 = .ok (.ifCond .eq 7, 3) := by decide +kernel
theorem dX8_tank_16 : decode cX8_tank 16 = .ok (.iconst 1, 1) := by decide +kernel
theorem dX8_tank_17 : decode cX8_tank 17 = .ok (.goto 4, 3) := by decide +kernel
theorem dX8_tank_20 : decode cX8_tank 20 = .ok (.iconst 0, 1) := by decide +kernel
theorem dX8_tank_21 : decode cX8_tank 21 = .ok (.invokestatic 59, 3) := by decide +kernel
theorem dX8_tank_24 : decode cX8_tank 24 = .ok (.iload_n 2, 1) := by decide +kernel
theorem dX8_tank_25 : decode cX8_tank 25 = .ok (.tableswitch 76 0 3 #[31, 40, 49, 66], 31) := by decide +kernel
theorem dX8_tank_56 : decode cX8_tank 56 = .ok (.aload_n 0, 1) := by decide +kernel
theorem dX8_tank_57 : decode cX8_tank 57 = .ok (.getfield 26, 3) := by decide +kernel
theorem dX8_tank_60 : decode cX8_tank 60 = .ok (.iload_n 1, 1) := by decide +kernel
theorem dX8_tank_61 : decode cX8_tank 61 = .ok (.invokevirtual 314, 3) := by decide +kernel
theorem dX8_tank_64 : decode cX8_tank 64 = .ok (.ireturn, 1) := by decide +kernel
theorem dX8_tank_65 : decode cX8_tank 65 = .ok (.aload_n 0, 1) := by decide +kernel
theorem dX8_tank_66 : decode cX8_tank 66 = .ok (.getfield 26, 3) := by decide +kernel
theorem dX8_tank_69 : decode cX8_tank 69 = .ok (.iload_n 1, 1) := by decide +kernel
theorem dX8_tank_70 : decode cX8_tank 70 = .ok (.invokevirtual 315, 3) := by decide +kernel
theorem dX8_tank_73 : decode cX8_tank 73 = .ok (.ireturn, 1) := by decide +kernel
theorem dX8_tank_74 : decode cX8_tank 74 = .ok (.aload_n 0, 1) := by decide +kernel
theorem dX8_tank_75 : decode cX8_tank 75 = .ok (.getfield 26, 3) := by decide +kernel
theorem dX8_tank_78 : decode cX8_tank 78 = .ok (.aload_n 0, 1) := by decide +kernel
theorem dX8_tank_79 : decode cX8_tank 79 = .ok (.getfield 26, 3) := by decide +kernel
theorem dX8_tank_82 : decode cX8_tank 82 = .ok (.iload_n 1, 1) := by decide +kernel
theorem dX8_tank_83 : decode cX8_tank 83 = .ok (.iconst 1, 1) := by decide +kernel
theorem dX8_tank_84 : decode cX8_tank 84 = .ok (.invokevirtual 318, 3) := by decide +kernel
theorem dX8_tank_87 : decode cX8_tank 87 = .ok (.invokevirtual 321, 3) := by decide +kernel
theorem dX8_tank_90 : decode cX8_tank 90 = .ok (.ireturn, 1) := by decide +kernel
theorem dX8_tank_91 : decode cX8_tank 91 = .ok (.aload_n 0, 1) := by decide +kernel
theorem dX8_tank_92 : decode cX8_tank 92 = .ok (.getfield 26, 3) := by decide +kernel
theorem dX8_tank_95 : decode cX8_tank 95 = .ok (.iload_n 1, 1) := by decide +kernel
theorem dX8_tank_96 : decode cX8_tank 96 = .ok (.iconst 1, 1) := by decide +kernel
theorem dX8_tank_97 : decode cX8_tank 97 = .ok (.invokevirtual 318, 3) := by decide +kernel
theorem dX8_tank_100 : decode cX8_tank 100 = .ok (.ireturn, 1) := by decide +kernel
theorem dX8_tank_101 : decode cX8_tank 101 = .ok (.aload_n 0, 1) := by decide +kernel
theorem dX8_tank_102 : decode cX8_tank 102 = .ok (.getfield 26, 3) := by decide +kernel
theorem dX8_tank_105 : decode cX8_tank 105 = .ok (.iload_n 1, 1) := by decide +kernel
theorem dX8_tank_106 : decode cX8_tank 106 = .ok (.iconst 2, 1) := by decide +kernel
theorem dX8_tank_107 : decode cX8_tank 107 = .ok (.invokevirtual 318, 3) := by decide +kernel
theorem dX8_tank_110 : decode cX8_tank 110 = .ok (.ireturn, 1) := by decide +kernel
theorem dX8_line_0 : decode cX8_line 0 = .ok (.iload_n 1, 1) := by decide +kernel
theorem dX8_line_1 : decode cX8_line 1 = .ok (.iconst 0, 1) := by decide +kernel
theorem dX8_line_2 : decode cX8_line 2 = .ok (.bipush 7, 2) := by decide +kernel
theorem dX8_line_4 : decode cX8_line 4 = .ok (.invokestatic 55, 3) := by decide +kernel
theorem dX8_line_7 : decode cX8_line 7 = .ok (.invokestatic 59, 3) := by decide +kernel
theorem dX8_line_10 : decode cX8_line 10 = .ok (.iload_n 1, 1) := by decide +kernel
theorem dX8_line_11 : decode cX8_line 11 = .ok (.tableswitch 104 0 6 #[41, 49, 57, 68, 77, 86, 91], 41) := by decide +kernel
theorem dX8_line_52 : decode cX8_line 52 = .ok (.aload_n 0, 1) := by decide +kernel
theorem dX8_line_53 : decode cX8_line 53 = .ok (.getfield 33, 3) := by decide +kernel
theorem dX8_line_56 : decode cX8_line 56 = .ok (.getfield 123, 3) := by decide +kernel
theorem dX8_line_59 : decode cX8_line 59 = .ok (.ireturn, 1) := by decide +kernel
theorem dX8_line_60 : decode cX8_line 60 = .ok (.aload_n 0, 1) := by decide +kernel
theorem dX8_line_61 : decode cX8_line 61 = .ok (.getfield 33, 3) := by decide +kernel
theorem dX8_line_64 : decode cX8_line 64 = .ok (.getfield 63, 3) := by decide +kernel
theorem dX8_line_67 : decode cX8_line 67 = .ok (.ireturn, 1) := by decide +kernel
theorem dX8_line_68 : decode cX8_line 68 = .ok (.aload_n 0, 1) := by decide +kernel
theorem dX8_line_69 : decode cX8_line 69 = .ok (.getfield 33, 3) := by decide +kernel
theorem dX8_line_72 : decode cX8_line 72 = .ok (.getfield 324, 3) := by decide +kernel
theorem dX8_line_75 : decode cX8_line 75 = .ok (.getfield 203, 3) := by decide +kernel
theorem dX8_line_78 : decode cX8_line 78 = .ok (.ireturn, 1) := by decide +kernel
theorem dX8_line_79 : decode cX8_line 79 = .ok (.aload_n 0, 1) := by decide +kernel
theorem dX8_line_80 : decode cX8_line 80 = .ok (.getfield 33, 3) := by decide +kernel
theorem dX8_line_83 : decode cX8_line 83 = .ok (.iconst 1, 1) := by decide +kernel
theorem dX8_line_84 : decode cX8_line 84 = .ok (.invokevirtual 220, 3) := by decide +kernel
theorem dX8_line_87 : decode cX8_line 87 = .ok (.ireturn, 1) := by decide +kernel
theorem dX8_line_88 : decode cX8_line 88 = .ok (.aload_n 0, 1) := by decide +kernel
theorem dX8_line_89 : decode cX8_line 89 = .ok (.getfield 33, 3) := by decide +kernel
theorem dX8_line_92 : decode cX8_line 92 = .ok (.iconst 2, 1) := by decide +kernel
theorem dX8_line_93 : decode cX8_line 93 = .ok (.invokevirtual 220, 3) := by decide +kernel
theorem dX8_line_96 : decode cX8_line 96 = .ok (.ireturn, 1) := by decide +kernel
theorem dX8_line_97 : decode cX8_line 97 = .ok (.aload_n 0, 1) := by decide +kernel
theorem dX8_line_98 : decode cX8_line 98 = .ok (.getfield 135, 3) := by decide +kernel
theorem dX8_line_101 : decode cX8_line 101 = .ok (.ireturn, 1) := by decide +kernel
theorem dX8_line_102 : decode cX8_line 102 = .ok (.aload_n 0, 1) := by decide +kernel
theorem dX8_line_103 : decode cX8_line 103 = .ok (.getfield 112, 3) := by decide +kernel
theorem dX8_line_106 : decode cX8_line 106 = .ok (.ifCond .eq 7, 3) := by decide +kernel
theorem dX8_line_109 : decode cX8_line 109 = .ok (.iconst 1, 1) := by decide +kernel
theorem dX8_line_110 : decode cX8_line 110 = .ok (.goto 4, 3) := by decide +kernel
theorem dX8_line_113 : decode cX8_line 113 = .ok (.iconst 0, 1) := by decide +kernel
theorem dX8_line_114 : decode cX8_line 114 = .ok (.ireturn, 1) := by decide +kernel
theorem dX8_line_115 : decode cX8_line 115 = .ok (.aload_n 0, 1) := by decide +kernel
theorem dX8_line_116 : decode cX8_line 116 = .ok (.getfield 132, 3) := by decide +kernel
theorem dX8_line_119 : decode cX8_line 119 = .ok (.ireturn, 1) := by decide +kernel
theorem dX8_thing_0 : decode cX8_thing 0 = .ok (.iload_n 1, 1) := by decide +kernel
theorem dX8_thing_1 : decode cX8_thing 1 = .ok (.aload_n 0, 1) := by decide +kernel
theorem dX8_thing_2 : decode cX8_thing 2 = .ok (.getfield 33, 3) := by decide +kernel
theorem dX8_thing_5 : decode cX8_thing 5 = .ok (.getfield 324, 3) := by decide +kernel
theorem dX8_thing_8 : decode cX8_thing 8 = .ok (.getfield 203, 3) := by decide +kernel
theorem dX8_thing_11 : decode cX8_thing 11 = .ok (.invokestatic 281, 3) := by decide +kernel
theorem dX8_thing_14 : decode cX8_thing 14 = .ok (.iload_n 2, 1) := by decide +kernel
theorem dX8_thing_15 : decode cX8_thing 15 = .ok (.iconst 0, 1) := by decide +kernel
theorem dX8_thing_16 : decode cX8_thing 16 = .ok (.iconst 3, 1) := by decide +kernel
theorem dX8_thing_17 : decode cX8_thing 17 = .ok (.invokestatic 55, 3) := by decide +kernel
theorem dX8_thing_20 : decode cX8_thing 20 = .ok (.invokestatic 59, 3) := by decide +kernel
theorem dX8_thing_23 : decode cX8_thing 23 = .ok (.aload_n 0, 1) := by decide +kernel
theorem dX8_thing_24 : decode cX8_thing 24 = .ok (.getfield 33, 3) := by decide +kernel
theorem dX8_thing_27 : decode cX8_thing 27 = .ok (.getfield 324, 3) := by decide +kernel
theorem dX8_thing_30 : decode cX8_thing 30 = .ok (.iload_n 1, 1) := by decide +kernel
theorem dX8_thing_31 : decode cX8_thing 31 = .ok (.iconst 0, 1) := by decide +kernel
theorem dX8_thing_32 : decode cX8_thing 32 = .ok (.invokevirtual 208, 3) := by decide +kernel
theorem dX8_thing_35 : decode cX8_thing 35 = .ok (.istore_n 3, 1) := by decide +kernel
theorem dX8_thing_36 : decode cX8_thing 36 = .ok (.iload_n 2, 1) := by decide +kernel
theorem dX8_thing_37 : decode cX8_thing 37 = .ok (.ifCond .ne 5, 3) := by decide +kernel
theorem dX8_thing_40 : decode cX8_thing 40 = .ok (.iload_n 3, 1) := by decide +kernel
theorem dX8_thing_41 : decode cX8_thing 41 = .ok (.ireturn, 1) := by decide +kernel
theorem dX8_thing_42 : decode cX8_thing 42 = .ok (.iload_n 3, 1) := by decide +kernel
theorem dX8_thing_43 : decode cX8_thing 43 = .ok (.ifCond .eq 5, 3) := by decide +kernel
theorem dX8_thing_46 : decode cX8_thing 46 = .ok (.iconst (-1), 1) := by decide +kernel
theorem dX8_thing_47 : decode cX8_thing 47 = .ok (.ireturn, 1) := by decide +kernel
theorem dX8_thing_48 : decode cX8_thing 48 = .ok (.aload_n 0, 1) := by decide +kernel
theorem dX8_thing_49 : decode cX8_thing 49 = .ok (.getfield 33, 3) := by decide +kernel
theorem dX8_thing_52 : decode cX8_thing 52 = .ok (.getfield 324, 3) := by decide +kernel
theorem dX8_thing_55 : decode cX8_thing 55 = .ok (.iload_n 1, 1) := by decide +kernel
theorem dX8_thing_56 : decode cX8_thing 56 = .ok (.iconst 2, 1) := by decide +kernel
theorem dX8_thing_57 : decode cX8_thing 57 = .ok (.invokevirtual 208, 3) := by decide +kernel
theorem dX8_thing_60 : decode cX8_thing 60 = .ok (.istore 4, 2) := by decide +kernel
theorem dX8_thing_62 : decode cX8_thing 62 = .ok (.iload_n 2, 1) := by decide +kernel
theorem dX8_thing_63 : decode cX8_thing 63 = .ok (.lookupswitch 41 #[(1, 25), (2, 38)], 25) := by decide +kernel
theorem dX8_thing_88 : decode cX8_thing 88 = .ok (.aload_n 0, 1) := by decide +kernel
theorem dX8_thing_89 : decode cX8_thing 89 = .ok (.getfield 33, 3) := by decide +kernel
theorem dX8_thing_92 : decode cX8_thing 92 = .ok (.getfield 324, 3) := by decide +kernel
theorem dX8_thing_95 : decode cX8_thing 95 = .ok (.iload_n 1, 1) := by decide +kernel
theorem dX8_thing_96 : decode cX8_thing 96 = .ok (.iconst 1, 1) := by decide +kernel
theorem dX8_thing_97 : decode cX8_thing 97 = .ok (.invokevirtual 208, 3) := by decide +kernel
theorem dX8_thing_100 : decode cX8_thing 100 = .ok (.ireturn, 1) := by decide +kernel
theorem dX8_thing_101 : decode cX8_thing 101 = .ok (.iload 4, 2) := by decide +kernel
theorem dX8_thing_103 : decode cX8_thing 103 = .ok (.ireturn, 1) := by decide +kernel
theorem dX8_thing_104 : decode cX8_thing 104 = .ok (.iload 4, 2) := by decide +kernel
theorem dX8_thing_106 : decode cX8_thing 106 = .ok (.aload_n 0, 1) := by decide +kernel
theorem dX8_thing_107 : decode cX8_thing 107 = .ok (.getfield 33, 3) := by decide +kernel
theorem dX8_thing_110 : decode cX8_thing 110 = .ok (.getfield 324, 3) := by decide +kernel
theorem dX8_thing_113 : decode cX8_thing 113 = .ok (.iload_n 1, 1) := by decide +kernel
theorem dX8_thing_114 : decode cX8_thing 114 = .ok (.iconst 3, 1) := by decide +kernel
theorem dX8_thing_115 : decode cX8_thing 115 = .ok (.invokevirtual 208, 3) := by decide +kernel
theorem dX8_thing_118 : decode cX8_thing 118 = .ok (.iadd, 1) := by decide +kernel
theorem dX8_thing_119 : decode cX8_thing 119 = .ok (.iconst 1, 1) := by decide +kernel
theorem dX8_thing_120 : decode cX8_thing 120 = .ok (.isub, 1) := by decide +kernel
theorem dX8_thing_121 : decode cX8_thing 121 = .ok (.ireturn, 1) := by decide +kernel
theorem dX8_metre_0 : decode cX8_metre 0 = .ok (.iload_n 1, 1) := by decide +kernel
theorem dX8_metre_1 : decode cX8_metre 1 = .ok (.aload_n 0, 1) := by decide +kernel
theorem dX8_metre_2 : decode cX8_metre 2 = .ok (.getfield 33, 3) := by decide +kernel
theorem dX8_metre_5 : decode cX8_metre 5 = .ok (.getfield 123, 3) := by decide +kernel
theorem dX8_metre_8 : decode cX8_metre 8 = .ok (.invokestatic 281, 3) := by decide +kernel
theorem dX8_metre_11 : decode cX8_metre 11 = .ok (.aload_n 0, 1) := by decide +kernel
theorem dX8_metre_12 : decode cX8_metre 12 = .ok (.getfield 33, 3) := by decide +kernel
theorem dX8_metre_15 : decode cX8_metre 15 = .ok (.iload_n 1, 1) := by decide +kernel
theorem dX8_metre_16 : decode cX8_metre 16 = .ok (.invokevirtual 327, 3) := by decide +kernel
theorem dX8_metre_19 : decode cX8_metre 19 = .ok (.ireturn, 1) := by decide +kernel
theorem dX8_metreAnew_0 : decode cX8_metreAnew 0 = .ok (.iload_n 1, 1) := by decide +kernel
theorem dX8_metreAnew_1 : decode cX8_metreAnew 1 = .ok (.aload_n 0, 1) := by decide +kernel
theorem dX8_metreAnew_2 : decode cX8_metreAnew 2 = .ok (.getfield 33, 3) := by decide +kernel
theorem dX8_metreAnew_5 : decode cX8_metreAnew 5 = .ok (.getfield 123, 3) := by decide +kernel
theorem dX8_metreAnew_8 : decode cX8_metreAnew 8 = .ok (.invokestatic 281, 3) := by decide +kernel
theorem dX8_metreAnew_11 : decode cX8_metreAnew 11 = .ok (.aload_n 0, 1) := by decide +kernel
theorem dX8_metreAnew_12 : decode cX8_metreAnew 12 = .ok (.getfield 33, 3) := by decide +kernel
theorem dX8_metreAnew_15 : decode cX8_metreAnew 15 = .ok (.iload_n 1, 1) := by decide +kernel
theorem dX8_metreAnew_16 : decode cX8_metreAnew 16 = .ok (.invokevirtual 330, 3) := by decide +kernel
theorem dX8_metreAnew_19 : decode cX8_metreAnew 19 = .ok (.ireturn, 1) := by decide +kernel
theorem dX8_isKept_0 : decode cX8_isKept 0 = .ok (.iconst 0, 1) := by decide +kernel
theorem dX8_isKept_1 : decode cX8_isKept 1 = .ok (.istore_n 1, 1) := by decide +kernel
theorem dX8_isKept_2 : decode cX8_isKept 2 = .ok (.iconst 0, 1) := by decide +kernel
theorem dX8_isKept_3 : decode cX8_isKept 3 = .ok (.istore_n 2, 1) := by decide +kernel
theorem dX8_isKept_4 : decode cX8_isKept 4 = .ok (.iload_n 2, 1) := by decide +kernel
theorem dX8_isKept_5 : decode cX8_isKept 5 = .ok (.iconst 3, 1) := by decide +kernel
theorem dX8_isKept_6 : decode cX8_isKept 6 = .ok (.if_icmp .ge 20, 3) := by decide +kernel
theorem dX8_isKept_9 : decode cX8_isKept 9 = .ok (.iload_n 1, 1) := by decide +kernel
theorem dX8_isKept_10 : decode cX8_isKept 10 = .ok (.aload_n 0, 1) := by decide +kernel
theorem dX8_isKept_11 : decode cX8_isKept 11 = .ok (.getfield 26, 3) := by decide +kernel
theorem dX8_isKept_14 : decode cX8_isKept 14 = .ok (.iload_n 2, 1) := by decide +kernel
theorem dX8_isKept_15 : decode cX8_isKept 15 = .ok (.invokevirtual 314, 3) := by decide +kernel
theorem dX8_isKept_18 : decode cX8_isKept 18 = .ok (.iadd, 1) := by decide +kernel
theorem dX8_isKept_19 : decode cX8_isKept 19 = .ok (.istore_n 1, 1) := by decide +kernel
theorem dX8_isKept_20 : decode cX8_isKept 20 = .ok (.iinc 2 1, 3) := by decide +kernel
theorem dX8_isKept_23 : decode cX8_isKept 23 = .ok (.goto (-19), 3) := by decide +kernel
theorem dX8_isKept_26 : decode cX8_isKept 26 = .ok (.iload_n 1, 1) := by decide +kernel
theorem dX8_isKept_27 : decode cX8_isKept 27 = .ok (.aload_n 0, 1) := by decide +kernel
theorem dX8_isKept_28 : decode cX8_isKept 28 = .ok (.getfield 33, 3) := by decide +kernel
theorem dX8_isKept_31 : decode cX8_isKept 31 = .ok (.getfield 123, 3) := by decide +kernel
theorem dX8_isKept_34 : decode cX8_isKept 34 = .ok (.iadd, 1) := by decide +kernel
theorem dX8_isKept_35 : decode cX8_isKept 35 = .ok (.aload_n 0, 1) := by decide +kernel
theorem dX8_isKept_36 : decode cX8_isKept 36 = .ok (.getfield 135, 3) := by decide +kernel
theorem dX8_isKept_39 : decode cX8_isKept 39 = .ok (.iadd, 1) := by decide +kernel
theorem dX8_isKept_40 : decode cX8_isKept 40 = .ok (.aload_n 0, 1) := by decide +kernel
theorem dX8_isKept_41 : decode cX8_isKept 41 = .ok (.getfield 26, 3) := by decide +kernel
theorem dX8_isKept_44 : decode cX8_isKept 44 = .ok (.getfield 345, 3) := by decide +kernel
theorem dX8_isKept_47 : decode cX8_isKept 47 = .ok (.if_icmp .ne 7, 3) := by decide +kernel
theorem dX8_isKept_50 : decode cX8_isKept 50 = .ok (.iconst 1, 1) := by decide +kernel
theorem dX8_isKept_51 : decode cX8_isKept 51 = .ok (.goto 4, 3) := by decide +kernel
theorem dX8_isKept_54 : decode cX8_isKept 54 = .ok (.iconst 0, 1) := by decide +kernel
theorem dX8_isKept_55 : decode cX8_isKept 55 = .ok (.ireturn, 1) := by decide +kernel
theorem dX8_liesAtB_0 : decode cX8_liesAtB 0 = .ok (.aload_n 0, 1) := by decide +kernel
theorem dX8_liesAtB_1 : decode cX8_liesAtB 1 = .ok (.getfield 33, 3) := by decide +kernel
theorem dX8_liesAtB_4 : decode cX8_liesAtB 4 = .ok (.getfield 63, 3) := by decide +kernel
theorem dX8_liesAtB_7 : decode cX8_liesAtB 7 = .ok (.bipush 100, 2) := by decide +kernel
theorem dX8_liesAtB_9 : decode cX8_liesAtB 9 = .ok (.if_icmp .ne 7, 3) := by decide +kernel
theorem dX8_liesAtB_12 : decode cX8_liesAtB 12 = .ok (.iconst 1, 1) := by decide +kernel
theorem dX8_liesAtB_13 : decode cX8_liesAtB 13 = .ok (.goto 4, 3) := by decide +kernel
theorem dX8_liesAtB_16 : decode cX8_liesAtB 16 = .ok (.iconst 0, 1) := by decide +kernel
theorem dX8_liesAtB_17 : decode cX8_liesAtB 17 = .ok (.ireturn, 1) := by decide +kernel
theorem dX8_typeAt_0 : decode cX8_typeAt 0 = .ok (.aload_n 0, 1) := by decide +kernel
theorem dX8_typeAt_1 : decode cX8_typeAt 1 = .ok (.getfield 26, 3) := by decide +kernel
theorem dX8_typeAt_4 : decode cX8_typeAt 4 = .ok (.aload_n 0, 1) := by decide +kernel
theorem dX8_typeAt_5 : decode cX8_typeAt 5 = .ok (.getfield 33, 3) := by decide +kernel
theorem dX8_typeAt_8 : decode cX8_typeAt 8 = .ok (.iload_n 1, 1) := by decide +kernel
theorem dX8_typeAt_9 : decode cX8_typeAt 9 = .ok (.invokevirtual 348, 3) := by decide +kernel
theorem dX8_typeAt_12 : decode cX8_typeAt 12 = .ok (.invokevirtual 321, 3) := by decide +kernel
theorem dX8_typeAt_15 : decode cX8_typeAt 15 = .ok (.ireturn, 1) := by decide +kernel
theorem dX8_isIn_0 : decode cX8_isIn 0 = .ok (.iload_n 0, 1) := by decide +kernel
theorem dX8_isIn_1 : decode cX8_isIn 1 = .ok (.iload_n 1, 1) := by decide +kernel
theorem dX8_isIn_2 : decode cX8_isIn 2 = .ok (.if_icmp .lt 12, 3) := by decide +kernel
theorem dX8_isIn_5 : decode cX8_isIn 5 = .ok (.iload_n 0, 1) := by decide +kernel
theorem dX8_isIn_6 : decode cX8_isIn 6 = .ok (.iload_n 2, 1) := by decide +kernel
theorem dX8_isIn_7 : decode cX8_isIn 7 = .ok (.if_icmp .gt 7, 3) := by decide +kernel
theorem dX8_isIn_10 : decode cX8_isIn 10 = .ok (.iconst 1, 1) := by decide +kernel
theorem dX8_isIn_11 : decode cX8_isIn 11 = .ok (.goto 4, 3) := by decide +kernel
theorem dX8_isIn_14 : decode cX8_isIn 14 = .ok (.iconst 0, 1) := by decide +kernel
theorem dX8_isIn_15 : decode cX8_isIn 15 = .ok (.ireturn, 1) := by decide +kernel
theorem dX8_isCell_0 : decode cX8_isCell 0 = .ok (.iload_n 0, 1) := by decide +kernel
theorem dX8_isCell_1 : decode cX8_isCell 1 = .ok (.iconst 0, 1) := by decide +kernel
theorem dX8_isCell_2 : decode cX8_isCell 2 = .ok (.bipush 99, 2) := by decide +kernel
theorem dX8_isCell_4 : decode cX8_isCell 4 = .ok (.invokestatic 55, 3) := by decide +kernel
theorem dX8_isCell_7 : decode cX8_isCell 7 = .ok (.ireturn, 1) := by decide +kernel
theorem dX8_isTank_0 : decode cX8_isTank 0 = .ok (.iload_n 0, 1) := by decide +kernel
theorem dX8_isTank_1 : decode cX8_isTank 1 = .ok (.iconst 0, 1) := by decide +kernel
theorem dX8_isTank_2 : decode cX8_isTank 2 = .ok (.iconst 2, 1) := by decide +kernel
theorem dX8_isTank_3 : decode cX8_isTank 3 = .ok (.invokestatic 55, 3) := by decide +kernel
theorem dX8_isTank_6 : decode cX8_isTank 6 = .ok (.ireturn, 1) := by decide +kernel
theorem dX8_isType_0 : decode cX8_isType 0 = .ok (.iload_n 0, 1) := by decide +kernel
theorem dX8_isType_1 : decode cX8_isType 1 = .ok (.iconst 0, 1) := by decide +kernel
theorem dX8_isType_2 : decode cX8_isType 2 = .ok (.iconst 3, 1) := by decide +kernel
theorem dX8_isType_3 : decode cX8_isType 3 = .ok (.invokestatic 55, 3) := by decide +kernel
theorem dX8_isType_6 : decode cX8_isType 6 = .ok (.ireturn, 1) := by decide +kernel
theorem dX8_needArgument_0 : decode cX8_needArgument 0 = .ok (.iload_n 0, 1) := by decide +kernel
theorem dX8_needArgument_1 : decode cX8_needArgument 1 = .ok (.ifCond .ne 14, 3) := by decide +kernel
theorem dX8_needArgument_4 : decode cX8_needArgument 4 = .ok (.new 369, 3) := by decide +kernel
theorem dX8_needArgument_7 : decode cX8_needArgument 7 = .ok (.dup, 1) := by decide +kernel
theorem dX8_needArgument_8 : decode cX8_needArgument 8 = .ok (.ldc_w 371, 3) := by decide +kernel
theorem dX8_needArgument_11 : decode cX8_needArgument 11 = .ok (.invokespecial 373, 3) := by decide +kernel
theorem dX8_needArgument_14 : decode cX8_needArgument 14 = .ok (.athrow, 1) := by decide +kernel
theorem dX8_needArgument_15 : decode cX8_needArgument 15 = .ok (.return_, 1) := by decide +kernel
theorem dX8_needState_0 : decode cX8_needState 0 = .ok (.iload_n 0, 1) := by decide +kernel
theorem dX8_needState_1 : decode cX8_needState 1 = .ok (.ifCond .ne 14, 3) := by decide +kernel
theorem dX8_needState_4 : decode cX8_needState 4 = .ok (.new 376, 3) := by decide +kernel
theorem dX8_needState_7 : decode cX8_needState 7 = .ok (.dup, 1) := by decide +kernel
theorem dX8_needState_8 : decode cX8_needState 8 = .ok (.ldc_w 378, 3) := by decide +kernel
theorem dX8_needState_11 : decode cX8_needState 11 = .ok (.invokespecial 380, 3) := by decide +kernel
theorem dX8_needState_14 : decode cX8_needState 14 = .ok (.athrow, 1) := by decide +kernel
theorem dX8_needState_15 : decode cX8_needState 15 = .ok (.return_, 1) := by decide +kernel
theorem dX8_needIndex_0 : decode cX8_needIndex 0 = .ok (.iload_n 0, 1) := by decide +kernel
theorem dX8_needIndex_1 : decode cX8_needIndex 1 = .ok (.ifCond .lt 8, 3) := by decide +kernel
theorem dX8_needIndex_4 : decode cX8_needIndex 4 = .ok (.iload_n 0, 1) := by decide +kernel
theorem dX8_needIndex_5 : decode cX8_needIndex 5 = .ok (.iload_n 1, 1) := by decide +kernel
theorem dX8_needIndex_6 : decode cX8_needIndex 6 = .ok (.if_icmp .lt 14, 3) := by decide +kernel
theorem dX8_needIndex_9 : decode cX8_needIndex 9 = .ok (.new 381, 3) := by decide +kernel
theorem dX8_needIndex_12 : decode cX8_needIndex 12 = .ok (.dup, 1) := by decide +kernel
theorem dX8_needIndex_13 : decode cX8_needIndex 13 = .ok (.ldc_w 383, 3) := by decide +kernel
theorem dX8_needIndex_16 : decode cX8_needIndex 16 = .ok (.invokespecial 385, 3) := by decide +kernel
theorem dX8_needIndex_19 : decode cX8_needIndex 19 = .ok (.athrow, 1) := by decide +kernel
theorem dX8_needIndex_20 : decode cX8_needIndex 20 = .ok (.return_, 1) := by decide +kernel
