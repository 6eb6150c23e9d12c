theorem dX8_init_0 : decode cX8_init 0 = .ok (.aload_n 0, 1) := by decide +kernel
theorem dX8_init_1 : decode cX8_init 1 = .ok (.invokespecial 1, 3) := by decide +kernel
theorem dX8_init_4 : decode cX8_init 4 = .ok (.aload_n 0, 1) := by decide +kernel
theorem dX8_init_5 : decode cX8_init 5 = .ok (.new 7, 3) := by decide +kernel
theorem dX8_init_8 : decode cX8_init 8 = .ok (.dup, 1) := by decide +kernel
theorem dX8_init_9 : decode cX8_init 9 = .ok (.invokespecial 9, 3) := by decide +kernel
theorem dX8_init_12 : decode cX8_init 12 = .ok (.putfield 10, 3) := by decide +kernel
theorem dX8_init_15 : decode cX8_init 15 = .ok (.aload_n 0, 1) := by decide +kernel
theorem dX8_init_16 : decode cX8_init 16 = .ok (.new 16, 3) := by decide +kernel
theorem dX8_init_19 : decode cX8_init 19 = .ok (.dup, 1) := by decide +kernel
theorem dX8_init_20 : decode cX8_init 20 = .ok (.invokespecial 18, 3) := by decide +kernel
theorem dX8_init_23 : decode cX8_init 23 = .ok (.putfield 19, 3) := by decide +kernel
theorem dX8_init_26 : decode cX8_init 26 = .ok (.aload_n 0, 1) := by decide +kernel
theorem dX8_init_27 : decode cX8_init 27 = .ok (.new 23, 3) := by decide +kernel
theorem dX8_init_30 : decode cX8_init 30 = .ok (.dup, 1) := by decide +kernel
theorem dX8_init_31 : decode cX8_init 31 = .ok (.invokespecial 25, 3) := by decide +kernel
theorem dX8_init_34 : decode cX8_init 34 = .ok (.putfield 26, 3) := by decide +kernel
theorem dX8_init_37 : decode cX8_init 37 = .ok (.aload_n 0, 1) := by decide +kernel
theorem dX8_init_38 : decode cX8_init 38 = .ok (.new 30, 3) := by decide +kernel
theorem dX8_init_41 : decode cX8_init 41 = .ok (.dup, 1) := by decide +kernel
theorem dX8_init_42 : decode cX8_init 42 = .ok (.invokespecial 32, 3) := by decide +kernel
theorem dX8_init_45 : decode cX8_init 45 = .ok (.putfield 33, 3) := by decide +kernel
theorem dX8_init_48 : decode cX8_init 48 = .ok (.aload_n 0, 1) := by decide +kernel
theorem dX8_init_49 : decode cX8_init 49 = .ok (.new 37, 3) := by decide +kernel
theorem dX8_init_52 : decode cX8_init 52 = .ok (.dup, 1) := by decide +kernel
theorem dX8_init_53 : decode cX8_init 53 = .ok (.invokespecial 39, 3) := by decide +kernel
theorem dX8_init_56 : decode cX8_init 56 = .ok (.putfield 40, 3) := by decide +kernel
theorem dX8_init_59 : decode cX8_init 59 = .ok (.aload_n 0, 1) := by decide +kernel
theorem dX8_init_60 : decode cX8_init 60 = .ok (.new 44, 3) := by decide +kernel
theorem dX8_init_63 : decode cX8_init 63 = .ok (.dup, 1) := by decide +kernel
theorem dX8_init_64 : decode cX8_init 64 = .ok (.invokespecial 46, 3) := by decide +kernel
theorem dX8_init_67 : decode cX8_init 67 = .ok (.putfield 47, 3) := by decide +kernel
theorem dX8_init_70 : decode cX8_init 70 = .ok (.return_, 1) := by decide +kernel
theorem dX8_sound_0 : decode cX8_sound 0 = .ok (.iload_n 1, 1) := by decide +kernel
theorem dX8_sound_1 : decode cX8_sound 1 = .ok (.invokestatic 51, 3) := by decide +kernel
theorem dX8_sound_4 : decode cX8_sound 4 = .ok (.ifCond .eq 29, 3) := by decide +kernel
theorem dX8_sound_7 : decode cX8_sound 7 = .ok (.iload_n 2, 1) := by decide +kernel
theorem dX8_sound_8 : decode cX8_sound 8 = .ok (.iconst 0, 1) := by decide +kernel
theorem dX8_sound_9 : decode cX8_sound 9 = .ok (.sipush 6000, 3) := by decide +kernel
theorem dX8_sound_12 : decode cX8_sound 12 = .ok (.invokestatic 55, 3) := by decide +kernel
theorem dX8_sound_15 : decode cX8_sound 15 = .ok (.ifCond .eq 18, 3) := by decide +kernel
theorem dX8_sound_18 : decode cX8_sound 18 = .ok (.iload_n 3, 1) := by decide +kernel
theorem dX8_sound_19 : decode cX8_sound 19 = .ok (.iconst 0, 1) := by decide +kernel
theorem dX8_sound_20 : decode cX8_sound 20 = .ok (.sipush 500, 3) := by decide +kernel
theorem dX8_sound_23 : decode cX8_sound 23 = .ok (.invokestatic 55, 3) := by decide +kernel
theorem dX8_sound_26 : decode cX8_sound 26 = .ok (.ifCond .eq 7, 3) := by decide +kernel
theorem dX8_sound_29 : decode cX8_sound 29 = .ok (.iconst 1, 1) := by decide +kernel
theorem dX8_sound_30 : decode cX8_sound 30 = .ok (.goto 4, 3) := by decide +kernel
theorem dX8_sound_33 : decode cX8_sound 33 = .ok (.iconst 0, 1) := by decide +kernel
theorem dX8_sound_34 : decode cX8_sound 34 = .ok (.invokestatic 59, 3) := by decide +kernel
theorem dX8_sound_37 : decode cX8_sound 37 = .ok (.iload_n 1, 1) := by decide +kernel
theorem dX8_sound_38 : decode cX8_sound 38 = .ok (.aload_n 0, 1) := by decide +kernel
theorem dX8_sound_39 : decode cX8_sound 39 = .ok (.getfield 33, 3) := by decide +kernel
theorem dX8_sound_42 : decode cX8_sound 42 = .ok (.getfield 63, 3) := by decide +kernel
theorem dX8_sound_45 : decode cX8_sound 45 = .ok (.if_icmp .lt 7, 3) := by decide +kernel
theorem dX8_sound_48 : decode cX8_sound 48 = .ok (.iconst 1, 1) := by decide +kernel
theorem dX8_sound_49 : decode cX8_sound 49 = .ok (.goto 4, 3) := by decide +kernel
theorem dX8_sound_52 : decode cX8_sound 52 = .ok (.iconst 0, 1) := by decide +kernel
theorem dX8_sound_53 : decode cX8_sound 53 = .ok (.invokestatic 67, 3) := by decide +kernel
theorem dX8_sound_56 : decode cX8_sound 56 = .ok (.aload_n 0, 1) := by decide +kernel
theorem dX8_sound_57 : decode cX8_sound 57 = .ok (.getfield 10, 3) := by decide +kernel
theorem dX8_sound_60 : decode cX8_sound 60 = .ok (.iload_n 1, 1) := by decide +kernel
theorem dX8_sound_61 : decode cX8_sound 61 = .ok (.iload_n 2, 1) := by decide +kernel
theorem dX8_sound_62 : decode cX8_sound 62 = .ok (.iload_n 3, 1) := by decide +kernel
theorem dX8_sound_63 : decode cX8_sound 63 = .ok (.invokevirtual 70, 3) := by decide +kernel
theorem dX8_sound_66 : decode cX8_sound 66 = .ok (.aload_n 0, 1) := by decide +kernel
theorem dX8_sound_67 : decode cX8_sound 67 = .ok (.getfield 10, 3) := by decide +kernel
theorem dX8_sound_70 : decode cX8_sound 70 = .ok (.iload_n 1, 1) := by decide +kernel
theorem dX8_sound_71 : decode cX8_sound 71 = .ok (.invokevirtual 74, 3) := by decide +kernel
theorem dX8_sound_74 : decode cX8_sound 74 = .ok (.ireturn, 1) := by decide +kernel
theorem dX8_wreck_0 : decode cX8_wreck 0 = .ok (.iload_n 1, 1) := by decide +kernel
theorem dX8_wreck_1 : decode cX8_wreck 1 = .ok (.invokestatic 51, 3) := by decide +kernel
theorem dX8_wreck_4 : decode cX8_wreck 4 = .ok (.invokestatic 59, 3) := by decide +kernel
theorem dX8_wreck_7 : decode cX8_wreck 7 = .ok (.aload_n 0, 1) := by decide +kernel
theorem dX8_wreck_8 : decode cX8_wreck 8 = .ok (.getfield 10, 3) := by decide +kernel
theorem dX8_wreck_11 : decode cX8_wreck 11 = .ok (.iload_n 1, 1) := by decide +kernel
theorem dX8_wreck_12 : decode cX8_wreck 12 = .ok (.invokevirtual 78, 3) := by decide +kernel
theorem dX8_wreck_15 : decode cX8_wreck 15 = .ok (.istore_n 3, 1) := by decide +kernel
theorem dX8_wreck_16 : decode cX8_wreck 16 = .ok (.aload_n 0, 1) := by decide +kernel
theorem dX8_wreck_17 : decode cX8_wreck 17 = .ok (.getfield 10, 3) := by decide +kernel
theorem dX8_wreck_20 : decode cX8_wreck 20 = .ok (.iload_n 1, 1) := by decide +kernel
theorem dX8_wreck_21 : decode cX8_wreck 21 = .ok (.iload_n 2, 1) := by decide +kernel
theorem dX8_wreck_22 : decode cX8_wreck 22 = .ok (.invokevirtual 81, 3) := by decide +kernel
theorem dX8_wreck_25 : decode cX8_wreck 25 = .ok (.iload_n 3, 1) := by decide +kernel
theorem dX8_wreck_26 : decode cX8_wreck 26 = .ok (.ireturn, 1) := by decide +kernel
theorem dX8_crossing_0 : decode cX8_crossing 0 = .ok (.iload_n 1, 1) := by decide +kernel
theorem dX8_crossing_1 : decode cX8_crossing 1 = .ok (.invokestatic 51, 3) := by decide +kernel
theorem dX8_crossing_4 : decode cX8_crossing 4 = .ok (.ifCond .eq 16, 3) := by decide +kernel
theorem dX8_crossing_7 : decode cX8_crossing 7 = .ok (.iload_n 2, 1) := by decide +kernel
theorem dX8_crossing_8 : decode cX8_crossing 8 = .ok (.iconst 0, 1) := by decide +kernel
theorem dX8_crossing_9 : decode cX8_crossing 9 = .ok (.iconst 2, 1) := by decide +kernel
theorem dX8_crossing_10 : decode cX8_crossing 10 = .ok (.invokestatic 55, 3) := by decide +kernel
theorem dX8_crossing_13 : decode cX8_crossing 13 = .ok (.ifCond .eq 7, 3) := by decide +kernel
theorem dX8_crossing_16 : decode cX8_crossing 16 = .ok (.iconst 1, 1) := by decide +kernel
theorem dX8_crossing_17 : decode cX8_crossing 17 = .ok (.goto 4, 3) := by decide +kernel
theorem dX8_crossing_20 : decode cX8_crossing 20 = .ok (.iconst 0, 1) := by decide +kernel
theorem dX8_crossing_21 : decode cX8_crossing 21 = .ok (.invokestatic 59, 3) := by decide +kernel
theorem dX8_crossing_24 : decode cX8_crossing 24 = .ok (.aload_n 0, 1) := by decide +kernel
theorem dX8_crossing_25 : decode cX8_crossing 25 = .ok (.getfield 10, 3) := by decide +kernel
theorem dX8_crossing_28 : decode cX8_crossing 28 = .ok (.iload_n 1, 1) := by decide +kernel
theorem dX8_crossing_29 : decode cX8_crossing 29 = .ok (.invokevirtual 85, 3) := by decide +kernel
theorem dX8_crossing_32 : decode cX8_crossing 32 = .ok (.istore_n 3, 1) := by decide +kernel
theorem dX8_crossing_33 : decode cX8_crossing 33 = .ok (.aload_n 0, 1) := by decide +kernel
theorem dX8_crossing_34 : decode cX8_crossing 34 = .ok (.getfield 10, 3) := by decide +kernel
theorem dX8_crossing_37 : decode cX8_crossing 37 = .ok (.iload_n 1, 1) := by decide +kernel
theorem dX8_crossing_38 : decode cX8_crossing 38 = .ok (.iload_n 2, 1) := by decide +kernel
theorem dX8_crossing_39 : decode cX8_crossing 39 = .ok (.invokevirtual 88, 3) := by decide +kernel
theorem dX8_crossing_42 : decode cX8_crossing 42 = .ok (.iload_n 3, 1) := by decide +kernel
theorem dX8_crossing_43 : decode cX8_crossing 43 = .ok (.ireturn, 1) := by decide +kernel
theorem dX8_weather_0 : decode cX8_weather 0 = .ok (.iload_n 1, 1) := by decide +kernel
theorem dX8_weather_1 : decode cX8_weather 1 = .ok (.iconst 0, 1) := by decide +kernel
theorem dX8_weather_2 : decode cX8_weather 2 = .ok (.ldc 92, 2) := by decide +kernel
theorem dX8_weather_4 : decode cX8_weather 4 = .ok (.invokestatic 55, 3) := by decide +kernel
theorem dX8_weather_7 : decode cX8_weather 7 = .ok (.invokestatic 59, 3) := by decide +kernel
theorem dX8_weather_10 : decode cX8_weather 10 = .ok (.aload_n 0, 1) := by decide +kernel
theorem dX8_weather_11 : decode cX8_weather 11 = .ok (.getfield 19, 3) := by decide +kernel
theorem dX8_weather_14 : decode cX8_weather 14 = .ok (.getfield 93, 3) := by decide +kernel
theorem dX8_weather_17 : decode cX8_weather 17 = .ok (.ifCond .ne 7, 3) := by decide +kernel
theorem dX8_weather_20 : decode cX8_weather 20 = .ok (.iconst 1, 1) := by decide +kernel
theorem dX8_weather_21 : decode cX8_weather 21 = .ok (.goto 4, 3) := by decide +kernel
theorem dX8_weather_24 : decode cX8_weather 24 = .ok (.iconst 0, 1) := by decide +kernel
theorem dX8_weather_25 : decode cX8_weather 25 = .ok (.invokestatic 67, 3) := by decide +kernel
theorem dX8_weather_28 : decode cX8_weather 28 = .ok (.aload_n 0, 1) := by decide +kernel
theorem dX8_weather_29 : decode cX8_weather 29 = .ok (.getfield 19, 3) := by decide +kernel
theorem dX8_weather_32 : decode cX8_weather 32 = .ok (.iload_n 1, 1) := by decide +kernel
theorem dX8_weather_33 : decode cX8_weather 33 = .ok (.putfield 96, 3) := by decide +kernel
theorem dX8_weather_36 : decode cX8_weather 36 = .ok (.aload_n 0, 1) := by decide +kernel
theorem dX8_weather_37 : decode cX8_weather 37 = .ok (.getfield 19, 3) := by decide +kernel
theorem dX8_weather_40 : decode cX8_weather 40 = .ok (.invokevirtual 99, 3) := by decide +kernel
theorem dX8_weather_43 : decode cX8_weather 43 = .ok (.ireturn, 1) := by decide +kernel
theorem dX8_pass_0 : decode cX8_pass 0 = .ok (.iload_n 1, 1) := by decide +kernel
theorem dX8_pass_1 : decode cX8_pass 1 = .ok (.iconst 1, 1) := by decide +kernel
theorem dX8_pass_2 : decode cX8_pass 2 = .ok (.sipush 400, 3) := by decide +kernel
theorem dX8_pass_5 : decode cX8_pass 5 = .ok (.invokestatic 55, 3) := by decide +kernel
theorem dX8_pass_8 : decode cX8_pass 8 = .ok (.invokestatic 59, 3) := by decide +kernel
theorem dX8_pass_11 : decode cX8_pass 11 = .ok (.aload_n 0, 1) := by decide +kernel
theorem dX8_pass_12 : decode cX8_pass 12 = .ok (.getfield 19, 3) := by decide +kernel
theorem dX8_pass_15 : decode cX8_pass 15 = .ok (.getfield 93, 3) := by decide +kernel
theorem dX8_pass_18 : decode cX8_pass 18 = .ok (.iload_n 1, 1) := by decide +kernel
theorem dX8_pass_19 : decode cX8_pass 19 = .ok (.iadd, 1) := by decide +kernel
theorem dX8_pass_20 : decode cX8_pass 20 = .ok (.sipush 20000, 3) := by decide +kernel
theorem dX8_pass_23 : decode cX8_pass 23 = .ok (.if_icmp .gt 7, 3) := by decide +kernel
theorem dX8_pass_26 : decode cX8_pass 26 = .ok (.iconst 1, 1) := by decide +kernel
theorem dX8_pass_27 : decode cX8_pass 27 = .ok (.goto 4, 3) := by decide +kernel
theorem dX8_pass_30 : decode cX8_pass 30 = .ok (.iconst 0, 1) := by decide +kernel
theorem dX8_pass_31 : decode cX8_pass 31 = .ok (.invokestatic 67, 3) := by decide +kernel
theorem dX8_pass_34 : decode cX8_pass 34 = .ok (.iconst 0, 1) := by decide +kernel
theorem dX8_pass_35 : decode cX8_pass 35 = .ok (.istore_n 2, 1) := by decide +kernel
theorem dX8_pass_36 : decode cX8_pass 36 = .ok (.iload_n 2, 1) := by decide +kernel
theorem dX8_pass_37 : decode cX8_pass 37 = .ok (.iload_n 1, 1) := by decide +kernel
theorem dX8_pass_38 : decode cX8_pass 38 = .ok (.if_icmp .ge 13, 3) := by decide +kernel
theorem dX8_pass_41 : decode cX8_pass 41 = .ok (.aload_n 0, 1) := by decide +kernel
theorem dX8_pass_42 : decode cX8_pass 42 = .ok (.invokevirtual 103, 3) := by decide +kernel
theorem dX8_pass_45 : decode cX8_pass 45 = .ok (.iinc 2 1, 3) := by decide +kernel
theorem dX8_pass_48 : decode cX8_pass 48 = .ok (.goto (-12), 3) := by decide +kernel
theorem dX8_pass_51 : decode cX8_pass 51 = .ok (.aload_n 0, 1) := by decide +kernel
theorem dX8_pass_52 : decode cX8_pass 52 = .ok (.getfield 19, 3) := by decide +kernel
theorem dX8_pass_55 : decode cX8_pass 55 = .ok (.getfield 93, 3) := by decide +kernel
theorem dX8_pass_58 : decode cX8_pass 58 = .ok (.ireturn, 1) := by decide +kernel
theorem dX8_passOneDay_0 : decode cX8_passOneDay 0 = .ok (.aload_n 0, 1) := by decide +kernel
theorem dX8_passOneDay_1 : decode cX8_passOneDay 1 = .ok (.getfield 19, 3) := by decide +kernel
theorem dX8_passOneDay_4 : decode cX8_passOneDay 4 = .ok (.invokevirtual 106, 3) := by decide +kernel
theorem dX8_passOneDay_7 : decode cX8_passOneDay 7 = .ok (.aload_n 0, 1) := by decide +kernel
theorem dX8_passOneDay_8 : decode cX8_passOneDay 8 = .ok (.iconst 0, 1) := by decide +kernel
theorem dX8_passOneDay_9 : decode cX8_passOneDay 9 = .ok (.putfield 109, 3) := by decide +kernel
theorem dX8_passOneDay_12 : decode cX8_passOneDay 12 = .ok (.aload_n 0, 1) := by decide +kernel
theorem dX8_passOneDay_13 : decode cX8_passOneDay 13 = .ok (.getfield 112, 3) := by decide +kernel
theorem dX8_passOneDay_16 : decode cX8_passOneDay 16 = .ok (.ifCond .ne 26, 3) := by decide +kernel
theorem dX8_passOneDay_19 : decode cX8_passOneDay 19 = .ok (.aload_n 0, 1) := by decide +kernel
theorem dX8_passOneDay_20 : decode cX8_passOneDay 20 = .ok (.invokevirtual 116, 3) := by decide +kernel
theorem dX8_passOneDay_23 : decode cX8_passOneDay 23 = .ok (.ifCond .ne 19, 3) := by decide +kernel
theorem dX8_passOneDay_26 : decode cX8_passOneDay 26 = .ok (.aload_n 0, 1) := by decide +kernel
theorem dX8_passOneDay_27 : decode cX8_passOneDay 27 = .ok (.getfield 19, 3) := by decide +kernel
theorem dX8_passOneDay_30 : decode cX8_passOneDay 30 = .ok (.invokevirtual 99, 3) := by decide +kernel
theorem dX8_passOneDay_33 : decode cX8_passOneDay 33 = .ok (.bipush 9, 2) := by decide +kernel
theorem dX8_passOneDay_35 : decode cX8_passOneDay 35 = .ok (.if_icmp .ne 7, 3) := by decide +kernel
theorem dX8_passOneDay_38 : decode cX8_passOneDay 38 = .ok (.aload_n 0, 1) := by decide +kernel
theorem dX8_passOneDay_39 : decode cX8_passOneDay 39 = .ok (.invokevirtual 120, 3) := by decide +kernel
theorem dX8_passOneDay_42 : decode cX8_passOneDay 42 = .ok (.return_, 1) := by decide +kernel
theorem dX8_buoy_0 : decode cX8_buoy 0 = .ok (.aload_n 0, 1) := by decide +kernel
theorem dX8_buoy_1 : decode cX8_buoy 1 = .ok (.iconst 1, 1) := by decide +kernel
theorem dX8_buoy_2 : decode cX8_buoy 2 = .ok (.putfield 112, 3) := by decide +kernel
theorem dX8_buoy_5 : decode cX8_buoy 5 = .ok (.aload_n 0, 1) := by decide +kernel
theorem dX8_buoy_6 : decode cX8_buoy 6 = .ok (.sipush 200, 3) := by decide +kernel
theorem dX8_buoy_9 : decode cX8_buoy 9 = .ok (.aload_n 0, 1) := by decide +kernel
theorem dX8_buoy_10 : decode cX8_buoy 10 = .ok (.getfield 33, 3) := by decide +kernel
theorem dX8_buoy_13 : decode cX8_buoy 13 = .ok (.getfield 123, 3) := by decide +kernel
theorem dX8_buoy_16 : decode cX8_buoy 16 = .ok (.invokestatic 126, 3) := by decide +kernel
theorem dX8_buoy_19 : decode cX8_buoy 19 = .ok (.putfield 132, 3) := by decide +kernel
theorem dX8_buoy_22 : decode cX8_buoy 22 = .ok (.aload_n 0, 1) := by decide +kernel
theorem dX8_buoy_23 : decode cX8_buoy 23 = .ok (.dup, 1) := by decide +kernel
theorem dX8_buoy_24 : decode cX8_buoy 24 = .ok (.getfield 135, 3) := by decide +kernel
theorem dX8_buoy_27 : decode cX8_buoy 27 = .ok (.aload_n 0, 1) := by decide +kernel
theorem dX8_buoy_28 : decode cX8_buoy 28 = .ok (.getfield 132, 3) := by decide +kernel
theorem dX8_buoy_31 : decode cX8_buoy 31 = .ok (.iadd, 1) := by decide +kernel
theorem dX8_buoy_32 : decode cX8_buoy 32 = .ok (.putfield 135, 3) := by decide +kernel
theorem dX8_buoy_35 : decode cX8_buoy 35 = .ok (.aload_n 0, 1) := by decide +kernel
theorem dX8_buoy_36 : decode cX8_buoy 36 = .ok (.getfield 33, 3) := by decide +kernel
theorem dX8_buoy_39 : decode cX8_buoy 39 = .ok (.aload_n 0, 1) := by decide +kernel
theorem dX8_buoy_40 : decode cX8_buoy 40 = .ok (.getfield 132, 3) := by decide +kernel
theorem dX8_buoy_43 : decode cX8_buoy 43 = .ok (.invokevirtual 138, 3) := by decide +kernel
theorem dX8_buoy_46 : decode cX8_buoy 46 = .ok (.aload_n 0, 1) := by decide +kernel
theorem dX8_buoy_47 : decode cX8_buoy 47 = .ok (.getfield 40, 3) := by decide +kernel
theorem dX8_buoy_50 : decode cX8_buoy 50 = .ok (.aload_n 0, 1) := by decide +kernel
theorem dX8_buoy_51 : decode cX8_buoy 51 = .ok (.getfield 33, 3) := by decide +kernel
theorem dX8_buoy_54 : decode cX8_buoy 54 = .ok (.getfield 123, 3) := by decide +kernel
theorem dX8_buoy_57 : decode cX8_buoy 57 = .ok (.invokevirtual 142, 3) := by decide +kernel
theorem dX8_buoy_60 : decode cX8_buoy 60 = .ok (.aload_n 0, 1) := by decide +kernel
theorem dX8_buoy_61 : decode cX8_buoy 61 = .ok (.getfield 40, 3) := by decide +kernel
theorem dX8_buoy_64 : decode cX8_buoy 64 = .ok (.aload_n 0, 1) := by decide +kernel
theorem dX8_buoy_65 : decode cX8_buoy 65 = .ok (.getfield 33, 3) := by decide +kernel
theorem dX8_buoy_68 : decode cX8_buoy 68 = .ok (.getfield 123, 3) := by decide +kernel
theorem dX8_buoy_71 : decode cX8_buoy 71 = .ok (.invokevirtual 145, 3) := by decide +kernel
theorem dX8_buoy_74 : decode cX8_buoy 74 = .ok (.return_, 1) := by decide +kernel
theorem dX8_make_0 : decode cX8_make 0 = .ok (.iload_n 1, 1) := by decide +kernel
theorem dX8_make_1 : decode cX8_make 1 = .ok (.invokestatic 148, 3) := by decide +kernel
theorem dX8_make_4 : decode cX8_make 4 = .ok (.ifCond .eq 24, 3) := by decide +kernel
theorem dX8_make_7 : decode cX8_make 7 = .ok (.iload_n 2, 1) := by decide +kernel
theorem dX8_make_8 : decode cX8_make 8 = .ok (.iconst 1, 1) := by decide +kernel
theorem dX8_make_9 : decode cX8_make 9 = .ok (.ldc 151, 2) := by decide +kernel
theorem dX8_make_11 : decode cX8_make 11 = .ok (.invokestatic 55, 3) := by decide +kernel
theorem dX8_make_14 : decode cX8_make 14 = .ok (.ifCond .eq 14, 3) := by decide +kernel
theorem dX8_make_17 : decode cX8_make 17 = .ok (.iload_n 3, 1) := by decide +kernel
theorem dX8_make_18 : decode cX8_make 18 = .ok (.invokestatic 152, 3) := by decide +kernel
theorem dX8_make_21 : decode cX8_make 21 = .ok (.ifCond .eq 7, 3) := by decide +kernel
theorem dX8_make_24 : decode cX8_make 24 = .ok (.iconst 1, 1) := by decide +kernel
theorem dX8_make_25 : decode cX8_make 25 = .ok (.goto 4, 3) := by decide +kernel
theorem dX8_make_28 : decode cX8_make 28 = .ok (.iconst 0, 1) := by decide +kernel
theorem dX8_make_29 : decode cX8_make 29 = .ok (.invokestatic 59, 3) := by decide +kernel
theorem dX8_make_32 : decode cX8_make 32 = .ok (.aload_n 0, 1) := by decide +kernel
theorem dX8_make_33 : decode cX8_make 33 = .ok (.getfield 26, 3) := by decide +kernel
theorem dX8_make_36 : decode cX8_make 36 = .ok (.getfield 155, 3) := by decide +kernel
theorem dX8_make_39 : decode cX8_make 39 = .ok (.bipush 30, 2) := by decide +kernel
theorem dX8_make_41 : decode cX8_make 41 = .ok (.if_icmp .ge 7, 3) := by decide +kernel
theorem dX8_make_44 : decode cX8_make 44 = .ok (.iconst 1, 1) := by decide +kernel
theorem dX8_make_45 : decode cX8_make 45 = .ok (.goto 4, 3) := by decide +kernel
theorem dX8_make_48 : decode cX8_make 48 = .ok (.iconst 0, 1) := by decide +kernel
theorem dX8_make_49 : decode cX8_make 49 = .ok (.invokestatic 67, 3) := by decide +kernel
theorem dX8_make_52 : decode cX8_make 52 = .ok (.aload_n 0, 1) := by decide +kernel
theorem dX8_make_53 : decode cX8_make 53 = .ok (.getfield 26, 3) := by decide +kernel
theorem dX8_make_56 : decode cX8_make 56 = .ok (.iload_n 1, 1) := by decide +kernel
theorem dX8_make_57 : decode cX8_make 57 = .ok (.iload_n 2, 1) := by decide +kernel
theorem dX8_make_58 : decode cX8_make 58 = .ok (.iload_n 3, 1) := by decide +kernel
theorem dX8_make_59 : decode cX8_make 59 = .ok (.invokevirtual 158, 3) := by decide +kernel
theorem dX8_make_62 : decode cX8_make 62 = .ok (.ireturn, 1) := by decide +kernel
theorem dX8_lay_0 : decode cX8_lay 0 = .ok (.iload_n 1, 1) := by decide +kernel
theorem dX8_lay_1 : decode cX8_lay 1 = .ok (.iconst 1, 1) := by decide +kernel
theorem dX8_lay_2 : decode cX8_lay 2 = .ok (.bipush 12, 2) := by decide +kernel
theorem dX8_lay_4 : decode cX8_lay 4 = .ok (.invokestatic 55, 3) := by decide +kernel
theorem dX8_lay_7 : decode cX8_lay 7 = .ok (.ifCond .eq 24, 3) := by decide +kernel
theorem dX8_lay_10 : decode cX8_lay 10 = .ok (.iload_n 2, 1) := by decide +kernel
theorem dX8_lay_11 : decode cX8_lay 11 = .ok (.iconst 0, 1) := by decide +kernel
theorem dX8_lay_12 : decode cX8_lay 12 = .ok (.bipush 50, 2) := by decide +kernel
theorem dX8_lay_14 : decode cX8_lay 14 = .ok (.invokestatic 55, 3) := by decide +kernel
theorem dX8_lay_17 : decode cX8_lay 17 = .ok (.ifCond .eq 14, 3) := by decide +kernel
theorem dX8_lay_20 : decode cX8_lay 20 = .ok (.iload_n 3, 1) := by decide +kernel
theorem dX8_lay_21 : decode cX8_lay 21 = .ok (.invokestatic 152, 3) := by decide +kernel
theorem dX8_lay_24 : decode cX8_lay 24 = .ok (.ifCond .eq 7, 3) := by decide +kernel
theorem dX8_lay_27 : decode cX8_lay 27 = .ok (.iconst 1, 1) := by decide +kernel
theorem dX8_lay_28 : decode cX8_lay 28 = .ok (.goto 4, 3) := by decide +kernel
theorem dX8_lay_31 : decode cX8_lay 31 = .ok (.iconst 0, 1) := by decide +kernel
theorem dX8_lay_32 : decode cX8_lay 32 = .ok (.invokestatic 59, 3) := by decide +kernel
theorem dX8_lay_35 : decode cX8_lay 35 = .ok (.aload_n 0, 1) := by decide +kernel
theorem dX8_lay_36 : decode cX8_lay 36 = .ok (.invokevirtual 116, 3) := by decide +kernel
theorem dX8_lay_39 : decode cX8_lay 39 = .ok (.ifCond .ne 7, 3) := by decide +kernel
theorem dX8_lay_42 : decode cX8_lay 42 = .ok (.iconst 1, 1) := by decide +kernel
theorem dX8_lay_43 : decode cX8_lay 43 = .ok (.goto 4, 3) := by decide +kernel
theorem dX8_lay_46 : decode cX8_lay 46 = .ok (.iconst 0, 1) := by decide +kernel
theorem dX8_lay_47 : decode cX8_lay 47 = .ok (.invokestatic 67, 3) := by decide +kernel
theorem dX8_lay_50 : decode cX8_lay 50 = .ok (.iconst 0, 1) := by decide +kernel
theorem dX8_lay_51 : decode cX8_lay 51 = .ok (.istore 4, 2) := by decide +kernel
theorem dX8_lay_53 : decode cX8_lay 53 = .ok (.iload 4, 2) := by decide +kernel
theorem dX8_lay_55 : decode cX8_lay 55 = .ok (.iload_n 1, 1) := by decide +kernel
theorem dX8_lay_56 : decode cX8_lay 56 = .ok (.if_icmp .ge 18, 3) := by decide +kernel
theorem dX8_lay_59 : decode cX8_lay 59 = .ok (.aload_n 0, 1) := by decide +kernel
theorem dX8_lay_60 : decode cX8_lay 60 = .ok (.iload_n 2, 1) := by decide +kernel
theorem dX8_lay_61 : decode cX8_lay 61 = .ok (.iload_n 3, 1) := by decide +kernel
theorem dX8_lay_62 : decode cX8_lay 62 = .ok (.invokevirtual 162, 3) := by decide +kernel
theorem dX8_lay_65 : decode cX8_lay 65 = .ok (.ifCond .eq 9, 3) := by decide +kernel
theorem dX8_lay_68 : decode cX8_lay 68 = .ok (.iinc 4 1, 3) := by decide +kernel
theorem dX8_lay_71 : decode cX8_lay 71 = .ok (.goto (-18), 3) := by decide +kernel
theorem dX8_lay_74 : decode cX8_lay 74 = .ok (.iload 4, 2) := by decide +kernel
theorem dX8_lay_76 : decode cX8_lay 76 = .ok (.ireturn, 1) := by decide +kernel
theorem dX8_layOneCell_0 : decode cX8_layOneCell 0 = .ok (.aload_n 0, 1) := by decide +kernel
theorem dX8_layOneCell_1 : decode cX8_layOneCell 1 = .ok (.getfield 33, 3) := by decide +kernel
theorem dX8_layOneCell_4 : decode cX8_layOneCell 4 = .ok (.getfield 63, 3) := by decide +kernel
theorem dX8_layOneCell_7 : decode cX8_layOneCell 7 = .ok (.istore_n 3, 1) := by decide +kernel
theorem dX8_layOneCell_8 : decode cX8_layOneCell 8 = .ok (.aload_n 0, 1) := by decide +kernel
theorem dX8_layOneCell_9 : decode cX8_layOneCell 9 = .ok (.invokevirtual 166, 3) := by decide +kernel
theorem dX8_layOneCell_12 : decode cX8_layOneCell 12 = .ok (.ifCond .eq 14, 3) := by decide +kernel
theorem dX8_layOneCell_15 : decode cX8_layOneCell 15 = .ok (.aload_n 0, 1) := by decide +kernel
theorem dX8_layOneCell_16 : decode cX8_layOneCell 16 = .ok (.getfield 10, 3) := by decide +kernel
theorem dX8_layOneCell_19 : decode cX8_layOneCell 19 = .ok (.iload_n 3, 1) := by decide +kernel
theorem dX8_layOneCell_20 : decode cX8_layOneCell 20 = .ok (.invokevirtual 169, 3) := by decide +kernel
theorem dX8_layOneCell_23 : decode cX8_layOneCell 23 = .ok (.ifCond .ne 5, 3) := by decide +kernel
theorem dX8_layOneCell_26 : decode cX8_layOneCell 26 = .ok (.iconst 0, 1) := by decide +kernel
theorem dX8_layOneCell_27 : decode cX8_layOneCell 27 = .ok (.ireturn, 1) := by decide +kernel
theorem dX8_layOneCell_28 : decode cX8_layOneCell 28 = .ok (.aload_n 0, 1) := by decide +kernel
theorem dX8_layOneCell_29 : decode cX8_layOneCell 29 = .ok (.getfield 10, 3) := by decide +kernel
theorem dX8_layOneCell_32 : decode cX8_layOneCell 32 = .ok (.iload_n 3, 1) := by decide +kernel
theorem dX8_layOneCell_33 : decode cX8_layOneCell 33 = .ok (.invokevirtual 172, 3) := by decide +kernel
theorem dX8_layOneCell_36 : decode cX8_layOneCell 36 = .ok (.istore 4, 2) := by decide +kernel
theorem dX8_layOneCell_38 : decode cX8_layOneCell 38 = .ok (.iload 4, 2) := by decide +kernel
theorem dX8_layOneCell_40 : decode cX8_layOneCell 40 = .ok (.iload 4, 2) := by decide +kernel
theorem dX8_layOneCell_42 : decode cX8_layOneCell 42 = .ok (.iload_n 1, 1) := by decide +kernel
theorem dX8_layOneCell_43 : decode cX8_layOneCell 43 = .ok (.imul, 1) := by decide +kernel
theorem dX8_layOneCell_44 : decode cX8_layOneCell 44 = .ok (.sipush 1000, 3) := by decide +kernel
theorem dX8_layOneCell_47 : decode cX8_layOneCell 47 = .ok (.idiv, 1) := by decide +kernel
theorem dX8_layOneCell_48 : decode cX8_layOneCell 48 = .ok (.iadd, 1) := by decide +kernel
theorem dX8_layOneCell_49 : decode cX8_layOneCell 49 = .ok (.istore 5, 2) := by decide +kernel
theorem dX8_layOneCell_51 : decode cX8_layOneCell 51 = .ok (.aload_n 0, 1) := by decide +kernel
theorem dX8_layOneCell_52 : decode cX8_layOneCell 52 = .ok (.getfield 26, 3) := by decide +kernel
theorem dX8_layOneCell_55 : decode cX8_layOneCell 55 = .ok (.iload_n 2, 1) := by decide +kernel
theorem dX8_layOneCell_56 : decode cX8_layOneCell 56 = .ok (.iload 5, 2) := by decide +kernel
theorem dX8_layOneCell_58 : decode cX8_layOneCell 58 = .ok (.invokevirtual 175, 3) := by decide +kernel
theorem dX8_layOneCell_61 : decode cX8_layOneCell 61 = .ok (.ifCond .eq 45, 3) := by decide +kernel
theorem dX8_layOneCell_64 : decode cX8_layOneCell 64 = .ok (.aload_n 0, 1) := by decide +kernel
theorem dX8_layOneCell_65 : decode cX8_layOneCell 65 = .ok (.getfield 26, 3) := by decide +kernel
theorem dX8_layOneCell_68 : decode cX8_layOneCell 68 = .ok (.aload_n 0, 1) := by decide +kernel
theorem dX8_layOneCell_69 : decode cX8_layOneCell 69 = .ok (.getfield 10, 3) := by decide +kernel
theorem dX8_layOneCell_72 : decode cX8_layOneCell 72 = .ok (.iload_n 3, 1) := by decide +kernel
theorem dX8_layOneCell_73 : decode cX8_layOneCell 73 = .ok (.invokevirtual 74, 3) := by decide +kernel
theorem dX8_layOneCell_76 : decode cX8_layOneCell 76 = .ok (.invokevirtual 178, 3) := by decide +kernel
theorem dX8_layOneCell_79 : decode cX8_layOneCell 79 = .ok (.ifCond .eq 27, 3) := by decide +kernel
theorem dX8_layOneCell_82 : decode cX8_layOneCell 82 = .ok (.aload_n 0, 1) := by decide +kernel
theorem dX8_layOneCell_83 : decode cX8_layOneCell 83 = .ok (.getfield 26, 3) := by decide +kernel
theorem dX8_layOneCell_86 : decode cX8_layOneCell 86 = .ok (.aload_n 0, 1) := by decide +kernel
theorem dX8_layOneCell_87 : decode cX8_layOneCell 87 = .ok (.aload_n 0, 1) := by decide +kernel
theorem dX8_layOneCell_88 : decode cX8_layOneCell 88 = .ok (.getfield 33, 3) := by decide +kernel
theorem dX8_layOneCell_91 : decode cX8_layOneCell 91 = .ok (.getfield 123, 3) := by decide +kernel
theorem dX8_layOneCell_94 : decode cX8_layOneCell 94 = .ok (.iconst 1, 1) := by decide +kernel
theorem dX8_layOneCell_95 : decode cX8_layOneCell 95 = .ok (.isub, 1) := by decide +kernel
theorem dX8_layOneCell_96 : decode cX8_layOneCell 96 = .ok (.invokevirtual 181, 3) := by decide +kernel
theorem dX8_layOneCell_99 : decode cX8_layOneCell 99 = .ok (.iconst (-1), 1) := by decide +kernel
theorem dX8_layOneCell_100 : decode cX8_layOneCell 100 = .ok (.invokevirtual 184, 3) := by decide +kernel
theorem dX8_layOneCell_103 : decode cX8_layOneCell 103 = .ok (.ifCond .ne 5, 3) := by decide +kernel
theorem dX8_layOneCell_106 : decode cX8_layOneCell 106 = .ok (.iconst 0, 1) := by decide +kernel
theorem dX8_layOneCell_107 : decode cX8_layOneCell 107 = .ok (.ireturn, 1) := by decide +kernel
theorem dX8_layOneCell_108 : decode cX8_layOneCell 108 = .ok (.aload_n 0, 1) := by decide +kernel
theorem dX8_layOneCell_109 : decode cX8_layOneCell 109 = .ok (.invokevirtual 187, 3) := by decide +kernel
theorem dX8_layOneCell_112 : decode cX8_layOneCell 112 = .ok (.aload_n 0, 1) := by decide +kernel
theorem dX8_layOneCell_113 : decode cX8_layOneCell 113 = .ok (.getfield 26, 3) := by decide +kernel
theorem dX8_layOneCell_116 : decode cX8_layOneCell 116 = .ok (.iload_n 2, 1) := by decide +kernel
theorem dX8_layOneCell_117 : decode cX8_layOneCell 117 = .ok (.iload 5, 2) := by decide +kernel
theorem dX8_layOneCell_119 : decode cX8_layOneCell 119 = .ok (.invokevirtual 190, 3) := by decide +kernel
theorem dX8_layOneCell_122 : decode cX8_layOneCell 122 = .ok (.aload_n 0, 1) := by decide +kernel
theorem dX8_layOneCell_123 : decode cX8_layOneCell 123 = .ok (.getfield 33, 3) := by decide +kernel
theorem dX8_layOneCell_126 : decode cX8_layOneCell 126 = .ok (.iload 5, 2) := by decide +kernel
theorem dX8_layOneCell_128 : decode cX8_layOneCell 128 = .ok (.invokevirtual 193, 3) := by decide +kernel
theorem dX8_layOneCell_131 : decode cX8_layOneCell 131 = .ok (.aload_n 0, 1) := by decide +kernel
theorem dX8_layOneCell_132 : decode cX8_layOneCell 132 = .ok (.dup, 1) := by decide +kernel
theorem dX8_layOneCell_133 : decode cX8_layOneCell 133 = .ok (.getfield 109, 3) := by decide +kernel
theorem dX8_layOneCell_136 : decode cX8_layOneCell 136 = .ok (.iconst 1, 1) := by decide +kernel
theorem dX8_layOneCell_137 : decode cX8_layOneCell 137 = .ok (.iadd, 1) := by decide +kernel
theorem dX8_layOneCell_138 : decode cX8_layOneCell 138 = .ok (.putfield 109, 3) := by decide +kernel
theorem dX8_layOneCell_141 : decode cX8_layOneCell 141 = .ok (.iconst 1, 1) := by decide +kernel
theorem dX8_layOneCell_142 : decode cX8_layOneCell 142 = .ok (.ireturn, 1) := by decide +kernel
theorem dX8_mayGoOn_0 : decode cX8_mayGoOn 0 = .ok (.aload_n 0, 1) := by decide +kernel
theorem dX8_mayGoOn_1 : decode cX8_mayGoOn 1 = .ok (.getfield 19, 3) := by decide +kernel
theorem dX8_mayGoOn_4 : decode cX8_mayGoOn 4 = .ok (.invokevirtual 196, 3) := by decide +kernel
theorem dX8_mayGoOn_7 : decode cX8_mayGoOn 7 = .ok (.ifCond .eq 30, 3) := by decide +kernel
theorem dX8_mayGoOn_10 : decode cX8_mayGoOn 10 = .ok (.aload_n 0, 1) := by decide +kernel
theorem dX8_mayGoOn_11 : decode cX8_mayGoOn 11 = .ok (.getfield 109, 3) := by decide +kernel
theorem dX8_mayGoOn_14 : decode cX8_mayGoOn 14 = .ok (.bipush 12, 2) := by decide +kernel
theorem dX8_mayGoOn_16 : decode cX8_mayGoOn 16 = .ok (.if_icmp .ge 21, 3) := by decide +kernel
theorem dX8_mayGoOn_19 : decode cX8_mayGoOn 19 = .ok (.aload_n 0, 1) := by decide +kernel
theorem dX8_mayGoOn_20 : decode cX8_mayGoOn 20 = .ok (.getfield 112, 3) := by decide +kernel
theorem dX8_mayGoOn_23 : decode cX8_mayGoOn 23 = .ok (.ifCond .ne 14, 3) := by decide +kernel
theorem dX8_mayGoOn_26 : decode cX8_mayGoOn 26 = .ok (.aload_n 0, 1) := by decide +kernel
theorem dX8_mayGoOn_27 : decode cX8_mayGoOn 27 = .ok (.invokevirtual 116, 3) := by decide +kernel
theorem dX8_mayGoOn_30 : decode cX8_mayGoOn 30 = .ok (.ifCond .ne 7, 3) := by decide +kernel
theorem dX8_mayGoOn_33 : decode cX8_mayGoOn 33 = .ok (.iconst 1, 1) := by decide +kernel
theorem dX8_mayGoOn_34 : decode cX8_mayGoOn 34 = .ok (.goto 4, 3) := by decide +kernel
theorem dX8_mayGoOn_37 : decode cX8_mayGoOn 37 = .ok (.iconst 0, 1) := by decide +kernel
theorem dX8_mayGoOn_38 : decode cX8_mayGoOn 38 = .ok (.ireturn, 1) := by decide +kernel
theorem dX8_putBehind_0 : decode cX8_putBehind 0 = .ok (.aload_n 0, 1) := by decide +kernel
theorem dX8_putBehind_1 : decode cX8_putBehind 1 = .ok (.getfield 26, 3) := by decide +kernel
theorem dX8_putBehind_4 : decode cX8_putBehind 4 = .ok (.getfield 199, 3) := by decide +kernel
theorem dX8_putBehind_7 : decode cX8_putBehind 7 = .ok (.astore_n 1, 1) := by decide +kernel
theorem dX8_putBehind_8 : decode cX8_putBehind 8 = .ok (.iconst 0, 1) := by decide +kernel
theorem dX8_putBehind_9 : decode cX8_putBehind 9 = .ok (.istore_n 2, 1) := by decide +kernel
theorem dX8_putBehind_10 : decode cX8_putBehind 10 = .ok (.iload_n 2, 1) := by decide +kernel
theorem dX8_putBehind_11 : decode cX8_putBehind 11 = .ok (.aload_n 1, 1) := by decide +kernel
theorem dX8_putBehind_12 : decode cX8_putBehind 12 = .ok (.getfield 203, 3) := by decide +kernel
theorem dX8_putBehind_15 : decode cX8_putBehind 15 = .ok (.if_icmp .ge 34, 3) := by decide +kernel
theorem dX8_putBehind_18 : decode cX8_putBehind 18 = .ok (.aload_n 0, 1) := by decide +kernel
theorem dX8_putBehind_19 : decode cX8_putBehind 19 = .ok (.getfield 33, 3) := by decide +kernel
theorem dX8_putBehind_22 : decode cX8_putBehind 22 = .ok (.aload_n 1, 1) := by decide +kernel
theorem dX8_putBehind_23 : decode cX8_putBehind 23 = .ok (.iload_n 2, 1) := by decide +kernel
theorem dX8_putBehind_24 : decode cX8_putBehind 24 = .ok (.iconst 1, 1) := by decide +kernel
theorem dX8_putBehind_25 : decode cX8_putBehind 25 = .ok (.invokevirtual 208, 3) := by decide +kernel
theorem dX8_putBehind_28 : decode cX8_putBehind 28 = .ok (.aload_n 1, 1) := by decide +kernel
theorem dX8_putBehind_29 : decode cX8_putBehind 29 = .ok (.iload_n 2, 1) := by decide +kernel
theorem dX8_putBehind_30 : decode cX8_putBehind 30 = .ok (.iconst 2, 1) := by decide +kernel
theorem dX8_putBehind_31 : decode cX8_putBehind 31 = .ok (.invokevirtual 208, 3) := by decide +kernel
theorem dX8_putBehind_34 : decode cX8_putBehind 34 = .ok (.aload_n 1, 1) := by decide +kernel
theorem dX8_putBehind_35 : decode cX8_putBehind 35 = .ok (.iload_n 2, 1) := by decide +kernel
theorem dX8_putBehind_36 : decode cX8_putBehind 36 = .ok (.iconst 3, 1) := by decide +kernel
theorem dX8_putBehind_37 : decode cX8_putBehind 37 = .ok (.invokevirtual 208, 3) := by decide +kernel
theorem dX8_putBehind_40 : decode cX8_putBehind 40 = .ok (.invokevirtual 211, 3) := by decide +kernel
theorem dX8_putBehind_43 : decode cX8_putBehind 43 = .ok (.iinc 2 1, 3) := by decide +kernel
theorem dX8_putBehind_46 : decode cX8_putBehind 46 = .ok (.goto (-36), 3) := by decide +kernel
theorem dX8_putBehind_49 : decode cX8_putBehind 49 = .ok (.return_, 1) := by decide +kernel
theorem dX8_repeater_0 : decode cX8_repeater 0 = .ok (.aload_n 0, 1) := by decide +kernel
theorem dX8_repeater_1 : decode cX8_repeater 1 = .ok (.getfield 33, 3) := by decide +kernel
theorem dX8_repeater_4 : decode cX8_repeater 4 = .ok (.getfield 123, 3) := by decide +kernel
theorem dX8_repeater_7 : decode cX8_repeater 7 = .ok (.ifCond .le 25, 3) := by decide +kernel
theorem dX8_repeater_10 : decode cX8_repeater 10 = .ok (.aload_n 0, 1) := by decide +kernel
theorem dX8_repeater_11 : decode cX8_repeater 11 = .ok (.getfield 112, 3) := by decide +kernel
theorem dX8_repeater_14 : decode cX8_repeater 14 = .ok (.ifCond .ne 18, 3) := by decide +kernel
theorem dX8_repeater_17 : decode cX8_repeater 17 = .ok (.aload_n 0, 1) := by decide +kernel
theorem dX8_repeater_18 : decode cX8_repeater 18 = .ok (.getfield 33, 3) := by decide +kernel
theorem dX8_repeater_21 : decode cX8_repeater 21 = .ok (.invokevirtual 214, 3) := by decide +kernel
theorem dX8_repeater_24 : decode cX8_repeater 24 = .ok (.iconst 2, 1) := by decide +kernel
theorem dX8_repeater_25 : decode cX8_repeater 25 = .ok (.if_icmp .eq 7, 3) := by decide +kernel
theorem dX8_repeater_28 : decode cX8_repeater 28 = .ok (.iconst 1, 1) := by decide +kernel
theorem dX8_repeater_29 : decode cX8_repeater 29 = .ok (.goto 4, 3) := by decide +kernel
theorem dX8_repeater_32 : decode cX8_repeater 32 = .ok (.iconst 0, 1) := by decide +kernel
theorem dX8_repeater_33 : decode cX8_repeater 33 = .ok (.invokestatic 67, 3) := by decide +kernel
theorem dX8_repeater_36 : decode cX8_repeater 36 = .ok (.aload_n 0, 1) := by decide +kernel
theorem dX8_repeater_37 : decode cX8_repeater 37 = .ok (.getfield 33, 3) := by decide +kernel
theorem dX8_repeater_40 : decode cX8_repeater 40 = .ok (.iconst 2, 1) := by decide +kernel
theorem dX8_repeater_41 : decode cX8_repeater 41 = .ok (.invokevirtual 217, 3) := by decide +kernel
theorem dX8_repeater_44 : decode cX8_repeater 44 = .ok (.aload_n 0, 1) := by decide +kernel
theorem dX8_repeater_45 : decode cX8_repeater 45 = .ok (.getfield 33, 3) := by decide +kernel
theorem dX8_repeater_48 : decode cX8_repeater 48 = .ok (.iconst 2, 1) := by decide +kernel
theorem dX8_repeater_49 : decode cX8_repeater 49 = .ok (.invokevirtual 220, 3) := by decide +kernel
theorem dX8_repeater_52 : decode cX8_repeater 52 = .ok (.ireturn, 1) := by decide +kernel
theorem dX8_takeUp_0 : decode cX8_takeUp 0 = .ok (.iload_n 1, 1) := by decide +kernel
theorem dX8_takeUp_1 : decode cX8_takeUp 1 = .ok (.invokestatic 152, 3) := by decide +kernel
theorem dX8_takeUp_4 : decode cX8_takeUp 4 = .ok (.invokestatic 59, 3) := by decide +kernel
theorem dX8_takeUp_7 : decode cX8_takeUp 7 = .ok (.aload_n 0, 1) := by decide +kernel
theorem dX8_takeUp_8 : decode cX8_takeUp 8 = .ok (.getfield 112, 3) := by decide +kernel
theorem dX8_takeUp_11 : decode cX8_takeUp 11 = .ok (.ifCond .eq 32, 3) := by decide +kernel
theorem dX8_takeUp_14 : decode cX8_takeUp 14 = .ok (.aload_n 0, 1) := by decide +kernel
theorem dX8_takeUp_15 : decode cX8_takeUp 15 = .ok (.getfield 19, 3) := by decide +kernel
theorem dX8_takeUp_18 : decode cX8_takeUp 18 = .ok (.invokevirtual 196, 3) := by decide +kernel
theorem dX8_takeUp_21 : decode cX8_takeUp 21 = .ok (.ifCond .eq 22, 3) := by decide +kernel
theorem dX8_takeUp_24 : decode cX8_takeUp 24 = .ok (.aload_n 0, 1) := by decide +kernel
theorem dX8_takeUp_25 : decode cX8_takeUp 25 = .ok (.getfield 26, 3) := by decide +kernel
theorem dX8_takeUp_28 : decode cX8_takeUp 28 = .ok (.iload_n 1, 1) := by decide +kernel
theorem dX8_takeUp_29 : decode cX8_takeUp 29 = .ok (.aload_n 0, 1) := by decide +kernel
theorem dX8_takeUp_30 : decode cX8_takeUp 30 = .ok (.getfield 132, 3) := by decide +kernel
theorem dX8_takeUp_33 : decode cX8_takeUp 33 = .ok (.invokevirtual 175, 3) := by decide +kernel
theorem dX8_takeUp_36 : decode cX8_takeUp 36 = .ok (.ifCond .eq 7, 3) := by decide +kernel
theorem dX8_takeUp_39 : decode cX8_takeUp 39 = .ok (.iconst 1, 1) := by decide +kernel
theorem dX8_takeUp_40 : decode cX8_takeUp 40 = .ok (.goto 4, 3) := by decide +kernel
theorem dX8_takeUp_43 : decode cX8_takeUp 43 = .ok (.iconst 0, 1) := by decide +kernel
theorem dX8_takeUp_44 : decode cX8_takeUp 44 = .ok (.invokestatic 67, 3) := by decide +kernel
theorem dX8_takeUp_47 : decode cX8_takeUp 47 = .ok (.aload_n 0, 1) := by decide +kernel
theorem dX8_takeUp_48 : decode cX8_takeUp 48 = .ok (.getfield 26, 3) := by decide +kernel
theorem dX8_takeUp_51 : decode cX8_takeUp 51 = .ok (.aload_n 0, 1) := by decide +kernel
theorem dX8_takeUp_52 : decode cX8_takeUp 52 = .ok (.aload_n 0, 1) := by decide +kernel
theorem dX8_takeUp_53 : decode cX8_takeUp 53 = .ok (.getfield 33, 3) := by decide +kernel
theorem dX8_takeUp_56 : decode cX8_takeUp 56 = .ok (.getfield 123, 3) := by decide +kernel
theorem dX8_takeUp_59 : decode cX8_takeUp 59 = .ok (.iconst 1, 1) := by decide +kernel
theorem dX8_takeUp_60 : decode cX8_takeUp 60 = .ok (.isub, 1) := by decide +kernel
theorem dX8_takeUp_61 : decode cX8_takeUp 61 = .ok (.invokevirtual 181, 3) := by decide +kernel
theorem dX8_takeUp_64 : decode cX8_takeUp 64 = .ok (.iconst (-1), 1) := by decide +kernel
theorem dX8_takeUp_65 : decode cX8_takeUp 65 = .ok (.invokevirtual 184, 3) := by decide +kernel
theorem dX8_takeUp_68 : decode cX8_takeUp 68 = .ok (.invokestatic 67, 3) := by decide +kernel
theorem dX8_takeUp_71 : decode cX8_takeUp 71 = .ok (.aload_n 0, 1) := by decide +kernel
theorem dX8_takeUp_72 : decode cX8_takeUp 72 = .ok (.getfield 132, 3) := by decide +kernel
theorem dX8_takeUp_75 : decode cX8_takeUp 75 = .ok (.istore_n 2, 1) := by decide +kernel
theorem dX8_takeUp_76 : decode cX8_takeUp 76 = .ok (.iload_n 2, 1) := by decide +kernel
theorem dX8_takeUp_77 : decode cX8_takeUp 77 = .ok (.ifCond .le 32, 3) := by decide +kernel
theorem dX8_takeUp_80 : decode cX8_takeUp 80 = .ok (.aload_n 0, 1) := by decide +kernel
theorem dX8_takeUp_81 : decode cX8_takeUp 81 = .ok (.getfield 33, 3) := by decide +kernel
theorem dX8_takeUp_84 : decode cX8_takeUp 84 = .ok (.iconst 1, 1) := by decide +kernel
theorem dX8_takeUp_85 : decode cX8_takeUp 85 = .ok (.invokevirtual 217, 3) := by decide +kernel
theorem dX8_takeUp_88 : decode cX8_takeUp 88 = .ok (.aload_n 0, 1) := by decide +kernel
theorem dX8_takeUp_89 : decode cX8_takeUp 89 = .ok (.invokevirtual 187, 3) := by decide +kernel
theorem dX8_takeUp_92 : decode cX8_takeUp 92 = .ok (.aload_n 0, 1) := by decide +kernel
theorem dX8_takeUp_93 : decode cX8_takeUp 93 = .ok (.getfield 26, 3) := by decide +kernel
theorem dX8_takeUp_96 : decode cX8_takeUp 96 = .ok (.iload_n 1, 1) := by decide +kernel
theorem dX8_takeUp_97 : decode cX8_takeUp 97 = .ok (.iload_n 2, 1) := by decide +kernel
theorem dX8_takeUp_98 : decode cX8_takeUp 98 = .ok (.invokevirtual 190, 3) := by decide +kernel
theorem dX8_takeUp_101 : decode cX8_takeUp 101 = .ok (.aload_n 0, 1) := by decide +kernel
theorem dX8_takeUp_102 : decode cX8_takeUp 102 = .ok (.getfield 33, 3) := by decide +kernel
theorem dX8_takeUp_105 : decode cX8_takeUp 105 = .ok (.iload_n 2, 1) := by decide +kernel
theorem dX8_takeUp_106 : decode cX8_takeUp 106 = .ok (.invokevirtual 223, 3) := by decide +kernel
theorem dX8_takeUp_109 : decode cX8_takeUp 109 = .ok (.aload_n 0, 1) := by decide +kernel
theorem dX8_takeUp_110 : decode cX8_takeUp 110 = .ok (.iconst 0, 1) := by decide +kernel
theorem dX8_takeUp_111 : decode cX8_takeUp 111 = .ok (.putfield 112, 3) := by decide +kernel
theorem dX8_takeUp_114 : decode cX8_takeUp 114 = .ok (.aload_n 0, 1) := by decide +kernel
theorem dX8_takeUp_115 : decode cX8_takeUp 115 = .ok (.iconst 0, 1) := by decide +kernel
theorem dX8_takeUp_116 : decode cX8_takeUp 116 = .ok (.putfield 132, 3) := by decide +kernel
theorem dX8_takeUp_119 : decode cX8_takeUp 119 = .ok (.aload_n 0, 1) := by decide +kernel
theorem dX8_takeUp_120 : decode cX8_takeUp 120 = .ok (.getfield 40, 3) := by decide +kernel
theorem dX8_takeUp_123 : decode cX8_takeUp 123 = .ok (.aload_n 0, 1) := by decide +kernel
theorem dX8_takeUp_124 : decode cX8_takeUp 124 = .ok (.getfield 33, 3) := by decide +kernel
theorem dX8_takeUp_127 : decode cX8_takeUp 127 = .ok (.getfield 123, 3) := by decide +kernel
theorem dX8_takeUp_130 : decode cX8_takeUp 130 = .ok (.invokevirtual 145, 3) := by decide +kernel
theorem dX8_takeUp_133 : decode cX8_takeUp 133 = .ok (.iload_n 2, 1) := by decide +kernel
theorem dX8_takeUp_134 : decode cX8_takeUp 134 = .ok (.ireturn, 1) := by decide +kernel
theorem dX8_feed_0 : decode cX8_feed 0 = .ok (.iload_n 1, 1) := by decide +kernel
theorem dX8_feed_1 : decode cX8_feed 1 = .ok (.iconst 0, 1) := by decide +kernel
theorem dX8_feed_2 : decode cX8_feed 2 = .ok (.sipush 9999, 3) := by decide +kernel
theorem dX8_feed_5 : decode cX8_feed 5 = .ok (.invokestatic 55, 3) := by decide +kernel
theorem dX8_feed_8 : decode cX8_feed 8 = .ok (.ifCond .eq 18, 3) := by decide +kernel
theorem dX8_feed_11 : decode cX8_feed 11 = .ok (.iload_n 2, 1) := by decide +kernel
theorem dX8_feed_12 : decode cX8_feed 12 = .ok (.iconst 0, 1) := by decide +kernel
theorem dX8_feed_13 : decode cX8_feed 13 = .ok (.sipush 9999, 3) := by decide +kernel
theorem dX8_feed_16 : decode cX8_feed 16 = .ok (.invokestatic 55, 3) := by decide +kernel
theorem dX8_feed_19 : decode cX8_feed 19 = .ok (.ifCond .eq 7, 3) := by decide +kernel
theorem dX8_feed_22 : decode cX8_feed 22 = .ok (.iconst 1, 1) := by decide +kernel
theorem dX8_feed_23 : decode cX8_feed 23 = .ok (.goto 4, 3) := by decide +kernel
theorem dX8_feed_26 : decode cX8_feed 26 = .ok (.iconst 0, 1) := by decide +kernel
theorem dX8_feed_27 : decode cX8_feed 27 = .ok (.invokestatic 59, 3) := by decide +kernel
theorem dX8_feed_30 : decode cX8_feed 30 = .ok (.aload_n 0, 1) := by decide +kernel
theorem dX8_feed_31 : decode cX8_feed 31 = .ok (.iload_n 1, 1) := by decide +kernel
theorem dX8_feed_32 : decode cX8_feed 32 = .ok (.putfield 226, 3) := by decide +kernel
theorem dX8_feed_35 : decode cX8_feed 35 = .ok (.aload_n 0, 1) := by decide +kernel
theorem dX8_feed_36 : decode cX8_feed 36 = .ok (.iload_n 2, 1) := by decide +kernel
theorem dX8_feed_37 : decode cX8_feed 37 = .ok (.putfield 229, 3) := by decide +kernel
theorem dX8_feed_40 : decode cX8_feed 40 = .ok (.return_, 1) := by decide +kernel
theorem dX8_fault_0 : decode cX8_fault 0 = .ok (.iload_n 1, 1) := by decide +kernel
theorem dX8_fault_1 : decode cX8_fault 1 = .ok (.iconst 0, 1) := by decide +kernel
theorem dX8_fault_2 : decode cX8_fault 2 = .ok (.iconst 1, 1) := by decide +kernel
theorem dX8_fault_3 : decode cX8_fault 3 = .ok (.invokestatic 55, 3) := by decide +kernel
theorem dX8_fault_6 : decode cX8_fault 6 = .ok (.ifCond .eq 24, 3) := by decide +kernel
theorem dX8_fault_9 : decode cX8_fault 9 = .ok (.iload_n 2, 1) := by decide +kernel
theorem dX8_fault_10 : decode cX8_fault 10 = .ok (.iconst 0, 1) := by decide +kernel
theorem dX8_fault_11 : decode cX8_fault 11 = .ok (.aload_n 0, 1) := by decide +kernel
theorem dX8_fault_12 : decode cX8_fault 12 = .ok (.getfield 33, 3) := by decide +kernel
theorem dX8_fault_15 : decode cX8_fault 15 = .ok (.getfield 123, 3) := by decide +kernel
theorem dX8_fault_18 : decode cX8_fault 18 = .ok (.iconst 1, 1) := by decide +kernel
theorem dX8_fault_19 : decode cX8_fault 19 = .ok (.isub, 1) := by decide +kernel
theorem dX8_fault_20 : decode cX8_fault 20 = .ok (.invokestatic 55, 3) := by decide +kernel
theorem dX8_fault_23 : decode cX8_fault 23 = .ok (.ifCond .eq 7, 3) := by decide +kernel
theorem dX8_fault_26 : decode cX8_fault 26 = .ok (.iconst 1, 1) := by decide +kernel
theorem dX8_fault_27 : decode cX8_fault 27 = .ok (.goto 4, 3) := by decide +kernel
theorem dX8_fault_30 : decode cX8_fault 30 = .ok (.iconst 0, 1) := by decide +kernel
theorem dX8_fault_31 : decode cX8_fault 31 = .ok (.invokestatic 59, 3) := by decide +kernel
theorem dX8_fault_34 : decode cX8_fault 34 = .ok (.aload_n 0, 1) := by decide +kernel
theorem dX8_fault_35 : decode cX8_fault 35 = .ok (.getfield 40, 3) := by decide +kernel
theorem dX8_fault_38 : decode cX8_fault 38 = .ok (.invokevirtual 232, 3) := by decide +kernel
theorem dX8_fault_41 : decode cX8_fault 41 = .ok (.iconst 4, 1) := by decide +kernel
theorem dX8_fault_42 : decode cX8_fault 42 = .ok (.if_icmp .ge 7, 3) := by decide +kernel
theorem dX8_fault_45 : decode cX8_fault 45 = .ok (.iconst 1, 1) := by decide +kernel
theorem dX8_fault_46 : decode cX8_fault 46 = .ok (.goto 4, 3) := by decide +kernel
theorem dX8_fault_49 : decode cX8_fault 49 = .ok (.iconst 0, 1) := by decide +kernel
theorem dX8_fault_50 : decode cX8_fault 50 = .ok (.invokestatic 67, 3) := by decide +kernel
theorem dX8_fault_53 : decode cX8_fault 53 = .ok (.aload_n 0, 1) := by decide +kernel
theorem dX8_fault_54 : decode cX8_fault 54 = .ok (.getfield 40, 3) := by decide +kernel
theorem dX8_fault_57 : decode cX8_fault 57 = .ok (.iload_n 1, 1) := by decide +kernel
theorem dX8_fault_58 : decode cX8_fault 58 = .ok (.iload_n 2, 1) := by decide +kernel
theorem dX8_fault_59 : decode cX8_fault 59 = .ok (.aload_n 0, 1) := by decide +kernel
theorem dX8_fault_60 : decode cX8_fault 60 = .ok (.getfield 33, 3) := by decide +kernel
theorem dX8_fault_63 : decode cX8_fault 63 = .ok (.getfield 123, 3) := by decide +kernel
theorem dX8_fault_66 : decode cX8_fault 66 = .ok (.invokevirtual 235, 3) := by decide +kernel
theorem dX8_fault_69 : decode cX8_fault 69 = .ok (.aload_n 0, 1) := by decide +kernel
theorem dX8_fault_70 : decode cX8_fault 70 = .ok (.getfield 40, 3) := by decide +kernel
theorem dX8_fault_73 : decode cX8_fault 73 = .ok (.invokevirtual 232, 3) := by decide +kernel
theorem dX8_fault_76 : decode cX8_fault 76 = .ok (.ireturn, 1) := by decide +kernel
theorem dX8_net_0 : decode cX8_net 0 = .ok (.iload_n 1, 1) := by decide +kernel
theorem dX8_net_1 : decode cX8_net 1 = .ok (.invokestatic 51, 3) := by decide +kernel
theorem dX8_net_4 : decode cX8_net 4 = .ok (.invokestatic 59, 3) := by decide +kernel
theorem dX8_net_7 : decode cX8_net 7 = .ok (.aload_n 0, 1) := by decide +kernel
theorem dX8_net_8 : decode cX8_net 8 = .ok (.getfield 40, 3) := by decide +kernel
theorem dX8_net_11 : decode cX8_net 11 = .ok (.invokevirtual 232, 3) := by decide +kernel
theorem dX8_net_14 : decode cX8_net 14 = .ok (.iconst 4, 1) := by decide +kernel
theorem dX8_net_15 : decode cX8_net 15 = .ok (.if_icmp .ge 7, 3) := by decide +kernel
theorem dX8_net_18 : decode cX8_net 18 = .ok (.iconst 1, 1) := by decide +kernel
theorem dX8_net_19 : decode cX8_net 19 = .ok (.goto 4, 3) := by decide +kernel
theorem dX8_net_22 : decode cX8_net 22 = .ok (.iconst 0, 1) := by decide +kernel
theorem dX8_net_23 : decode cX8_net 23 = .ok (.invokestatic 67, 3) := by decide +kernel
theorem dX8_net_26 : decode cX8_net 26 = .ok (.iload_n 1, 1) := by decide +kernel
theorem dX8_net_27 : decode cX8_net 27 = .ok (.aload_n 0, 1) := by decide +kernel
theorem dX8_net_28 : decode cX8_net 28 = .ok (.getfield 33, 3) := by decide +kernel
theorem dX8_net_31 : decode cX8_net 31 = .ok (.getfield 63, 3) := by decide +kernel
theorem dX8_net_34 : decode cX8_net 34 = .ok (.if_icmp .ge 17, 3) := by decide +kernel
theorem dX8_net_37 : decode cX8_net 37 = .ok (.aload_n 0, 1) := by decide +kernel
theorem dX8_net_38 : decode cX8_net 38 = .ok (.getfield 10, 3) := by decide +kernel
theorem dX8_net_41 : decode cX8_net 41 = .ok (.iload_n 1, 1) := by decide +kernel
theorem dX8_net_42 : decode cX8_net 42 = .ok (.invokevirtual 74, 3) := by decide +kernel
theorem dX8_net_45 : decode cX8_net 45 = .ok (.sipush 300, 3) := by decide +kernel
theorem dX8_net_48 : decode cX8_net 48 = .ok (.if_icmp .lt 5, 3) := by decide +kernel
theorem dX8_net_51 : decode cX8_net 51 = .ok (.iconst 0, 1) := by decide +kernel
theorem dX8_net_52 : decode cX8_net 52 = .ok (.ireturn, 1) := by decide +kernel
theorem dX8_net_53 : decode cX8_net 53 = .ok (.aload_n 0, 1) := by decide +kernel
theorem dX8_net_54 : decode cX8_net 54 = .ok (.getfield 33, 3) := by decide +kernel
theorem dX8_net_57 : decode cX8_net 57 = .ok (.iload_n 1, 1) := by decide +kernel
theorem dX8_net_58 : decode cX8_net 58 = .ok (.invokevirtual 238, 3) := by decide +kernel
theorem dX8_net_61 : decode cX8_net 61 = .ok (.aload_n 0, 1) := by decide +kernel
theorem dX8_net_62 : decode cX8_net 62 = .ok (.getfield 33, 3) := by decide +kernel
theorem dX8_net_65 : decode cX8_net 65 = .ok (.iload_n 1, 1) := by decide +kernel
theorem dX8_net_66 : decode cX8_net 66 = .ok (.invokevirtual 241, 3) := by decide +kernel
theorem dX8_net_69 : decode cX8_net 69 = .ok (.iconst 2, 1) := by decide +kernel
theorem dX8_net_70 : decode cX8_net 70 = .ok (.idiv, 1) := by decide +kernel
theorem dX8_net_71 : decode cX8_net 71 = .ok (.iadd, 1) := by decide +kernel
theorem dX8_net_72 : decode cX8_net 72 = .ok (.istore_n 2, 1) := by decide +kernel
theorem dX8_net_73 : decode cX8_net 73 = .ok (.aload_n 0, 1) := by decide +kernel
theorem dX8_net_74 : decode cX8_net 74 = .ok (.iload_n 2, 1) := by decide +kernel
theorem dX8_net_75 : decode cX8_net 75 = .ok (.invokevirtual 181, 3) := by decide +kernel
theorem dX8_net_78 : decode cX8_net 78 = .ok (.iconst 2, 1) := by decide +kernel
theorem dX8_net_79 : decode cX8_net 79 = .ok (.if_icmp .ge 5, 3) := by decide +kernel
theorem dX8_net_82 : decode cX8_net 82 = .ok (.iconst 0, 1) := by decide +kernel
theorem dX8_net_83 : decode cX8_net 83 = .ok (.ireturn, 1) := by decide +kernel
theorem dX8_net_84 : decode cX8_net 84 = .ok (.aload_n 0, 1) := by decide +kernel
theorem dX8_net_85 : decode cX8_net 85 = .ok (.getfield 40, 3) := by decide +kernel
theorem dX8_net_88 : decode cX8_net 88 = .ok (.iconst 1, 1) := by decide +kernel
theorem dX8_net_89 : decode cX8_net 89 = .ok (.iload_n 2, 1) := by decide +kernel
theorem dX8_net_90 : decode cX8_net 90 = .ok (.aload_n 0, 1) := by decide +kernel
theorem dX8_net_91 : decode cX8_net 91 = .ok (.getfield 33, 3) := by decide +kernel
theorem dX8_net_94 : decode cX8_net 94 = .ok (.getfield 123, 3) := by decide +kernel
theorem dX8_net_97 : decode cX8_net 97 = .ok (.invokevirtual 235, 3) := by decide +kernel
theorem dX8_net_100 : decode cX8_net 100 = .ok (.iconst 1, 1) := by decide +kernel
theorem dX8_net_101 : decode cX8_net 101 = .ok (.ireturn, 1) := by decide +kernel
theorem dX8_measure_0 : decode cX8_measure 0 = .ok (.iload_n 3, 1) := by decide +kernel
theorem dX8_measure_1 : decode cX8_measure 1 = .ok (.iconst 0, 1) := by decide +kernel
theorem dX8_measure_2 : decode cX8_measure 2 = .ok (.ldc 92, 2) := by decide +kernel
theorem dX8_measure_4 : decode cX8_measure 4 = .ok (.invokestatic 55, 3) := by decide +kernel
theorem dX8_measure_7 : decode cX8_measure 7 = .ok (.invokestatic 59, 3) := by decide +kernel
theorem dX8_measure_10 : decode cX8_measure 10 = .ok (.aload_n 0, 1) := by decide +kernel
theorem dX8_measure_11 : decode cX8_measure 11 = .ok (.invokevirtual 116, 3) := by decide +kernel
theorem dX8_measure_14 : decode cX8_measure 14 = .ok (.invokestatic 67, 3) := by decide +kernel
theorem dX8_measure_17 : decode cX8_measure 17 = .ok (.aload_n 0, 1) := by decide +kernel
theorem dX8_measure_18 : decode cX8_measure 18 = .ok (.getfield 40, 3) := by decide +kernel
theorem dX8_measure_21 : decode cX8_measure 21 = .ok (.iload_n 1, 1) := by decide +kernel
theorem dX8_measure_22 : decode cX8_measure 22 = .ok (.iload_n 2, 1) := by decide +kernel
theorem dX8_measure_23 : decode cX8_measure 23 = .ok (.invokevirtual 244, 3) := by decide +kernel
theorem dX8_measure_26 : decode cX8_measure 26 = .ok (.istore 4, 2) := by decide +kernel
theorem dX8_measure_28 : decode cX8_measure 28 = .ok (.iload 4, 2) := by decide +kernel
theorem dX8_measure_30 : decode cX8_measure 30 = .ok (.iconst (-1), 1) := by decide +kernel
theorem dX8_measure_31 : decode cX8_measure 31 = .ok (.if_icmp .ne 5, 3) := by decide +kernel
theorem dX8_measure_34 : decode cX8_measure 34 = .ok (.iconst (-1), 1) := by decide +kernel
theorem dX8_measure_35 : decode cX8_measure 35 = .ok (.ireturn, 1) := by decide +kernel
theorem dX8_measure_36 : decode cX8_measure 36 = .ok (.aload_n 0, 1) := by decide +kernel
theorem dX8_measure_37 : decode cX8_measure 37 = .ok (.getfield 40, 3) := by decide +kernel
theorem dX8_measure_40 : decode cX8_measure 40 = .ok (.iload 4, 2) := by decide +kernel
theorem dX8_measure_42 : decode cX8_measure 42 = .ok (.invokevirtual 248, 3) := by decide +kernel
theorem dX8_measure_45 : decode cX8_measure 45 = .ok (.istore 5, 2) := by decide +kernel
theorem dX8_measure_47 : decode cX8_measure 47 = .ok (.iload_n 2, 1) := by decide +kernel
theorem dX8_measure_48 : decode cX8_measure 48 = .ok (.ifCond .ne 18, 3) := by decide +kernel
theorem dX8_measure_51 : decode cX8_measure 51 = .ok (.aload_n 0, 1) := by decide +kernel
theorem dX8_measure_52 : decode cX8_measure 52 = .ok (.getfield 33, 3) := by decide +kernel
theorem dX8_measure_55 : decode cX8_measure 55 = .ok (.iload 5, 2) := by decide +kernel
theorem dX8_measure_57 : decode cX8_measure 57 = .ok (.iload_n 1, 1) := by decide +kernel
theorem dX8_measure_58 : decode cX8_measure 58 = .ok (.invokevirtual 251, 3) := by decide +kernel
theorem dX8_measure_61 : decode cX8_measure 61 = .ok (.ifCond .eq 5, 3) := by decide +kernel
theorem dX8_measure_64 : decode cX8_measure 64 = .ok (.iconst (-1), 1) := by decide +kernel
theorem dX8_measure_65 : decode cX8_measure 65 = .ok (.ireturn, 1) := by decide +kernel
theorem dX8_measure_66 : decode cX8_measure 66 = .ok (.iload_n 1, 1) := by decide +kernel
theorem dX8_measure_67 : decode cX8_measure 67 = .ok (.ifCond .eq 16, 3) := by decide +kernel
theorem dX8_measure_70 : decode cX8_measure 70 = .ok (.aload_n 0, 1) := by decide +kernel
theorem dX8_measure_71 : decode cX8_measure 71 = .ok (.getfield 33, 3) := by decide +kernel
theorem dX8_measure_74 : decode cX8_measure 74 = .ok (.getfield 123, 3) := by decide +kernel
theorem dX8_measure_77 : decode cX8_measure 77 = .ok (.iload 5, 2) := by decide +kernel
theorem dX8_measure_79 : decode cX8_measure 79 = .ok (.isub, 1) := by decide +kernel
theorem dX8_measure_80 : decode cX8_measure 80 = .ok (.goto 5, 3) := by decide +kernel
theorem dX8_measure_83 : decode cX8_measure 83 = .ok (.iload 5, 2) := by decide +kernel
theorem dX8_measure_85 : decode cX8_measure 85 = .ok (.istore 6, 2) := by decide +kernel
theorem dX8_measure_87 : decode cX8_measure 87 = .ok (.iload 6, 2) := by decide +kernel
theorem dX8_measure_89 : decode cX8_measure 89 = .ok (.sipush 200, 3) := by decide +kernel
theorem dX8_measure_92 : decode cX8_measure 92 = .ok (.idiv, 1) := by decide +kernel
theorem dX8_measure_93 : decode cX8_measure 93 = .ok (.bipush 10, 2) := by decide +kernel
theorem dX8_measure_95 : decode cX8_measure 95 = .ok (.iadd, 1) := by decide +kernel
theorem dX8_measure_96 : decode cX8_measure 96 = .ok (.iload_n 2, 1) := by decide +kernel
theorem dX8_measure_97 : decode cX8_measure 97 = .ok (.ifCond .eq 7, 3) := by decide +kernel
theorem dX8_measure_100 : decode cX8_measure 100 = .ok (.iconst 2, 1) := by decide +kernel
theorem dX8_measure_101 : decode cX8_measure 101 = .ok (.goto 4, 3) := by decide +kernel
theorem dX8_measure_104 : decode cX8_measure 104 = .ok (.iconst 1, 1) := by decide +kernel
theorem dX8_measure_105 : decode cX8_measure 105 = .ok (.imul, 1) := by decide +kernel
theorem dX8_measure_106 : decode cX8_measure 106 = .ok (.istore 7, 2) := by decide +kernel
theorem dX8_measure_108 : decode cX8_measure 108 = .ok (.iconst 1, 1) := by decide +kernel
theorem dX8_measure_109 : decode cX8_measure 109 = .ok (.iconst 2, 1) := by decide +kernel
theorem dX8_measure_110 : decode cX8_measure 110 = .ok (.iload 7, 2) := by decide +kernel
theorem dX8_measure_112 : decode cX8_measure 112 = .ok (.imul, 1) := by decide +kernel
theorem dX8_measure_113 : decode cX8_measure 113 = .ok (.iconst 1, 1) := by decide +kernel
theorem dX8_measure_114 : decode cX8_measure 114 = .ok (.iadd, 1) := by decide +kernel
theorem dX8_measure_115 : decode cX8_measure 115 = .ok (.invokestatic 255, 3) := by decide +kernel
theorem dX8_measure_118 : decode cX8_measure 118 = .ok (.istore 8, 2) := by decide +kernel
theorem dX8_measure_120 : decode cX8_measure 120 = .ok (.iconst 0, 1) := by decide +kernel
theorem dX8_measure_121 : decode cX8_measure 121 = .ok (.iload 6, 2) := by decide +kernel
theorem dX8_measure_123 : decode cX8_measure 123 = .ok (.iload 7, 2) := by decide +kernel
theorem dX8_measure_125 : decode cX8_measure 125 = .ok (.isub, 1) := by decide +kernel
theorem dX8_measure_126 : decode cX8_measure 126 = .ok (.iload_n 3, 1) := by decide +kernel
theorem dX8_measure_127 : decode cX8_measure 127 = .ok (.iload 8, 2) := by decide +kernel
theorem dX8_measure_129 : decode cX8_measure 129 = .ok (.irem, 1) := by decide +kernel
theorem dX8_measure_130 : decode cX8_measure 130 = .ok (.iadd, 1) := by decide +kernel
theorem dX8_measure_131 : decode cX8_measure 131 = .ok (.invokestatic 255, 3) := by decide +kernel
theorem dX8_measure_134 : decode cX8_measure 134 = .ok (.istore 9, 2) := by decide +kernel
theorem dX8_measure_136 : decode cX8_measure 136 = .ok (.iload 9, 2) := by decide +kernel
theorem dX8_measure_138 : decode cX8_measure 138 = .ok (.sipush 190, 3) := by decide +kernel
theorem dX8_measure_141 : decode cX8_measure 141 = .ok (.idiv, 1) := by decide +kernel
theorem dX8_measure_142 : decode cX8_measure 142 = .ok (.bipush 12, 2) := by decide +kernel
theorem dX8_measure_144 : decode cX8_measure 144 = .ok (.iadd, 1) := by decide +kernel
theorem dX8_measure_145 : decode cX8_measure 145 = .ok (.iload_n 2, 1) := by decide +kernel
theorem dX8_measure_146 : decode cX8_measure 146 = .ok (.ifCond .eq 7, 3) := by decide +kernel
theorem dX8_measure_149 : decode cX8_measure 149 = .ok (.iconst 2, 1) := by decide +kernel
theorem dX8_measure_150 : decode cX8_measure 150 = .ok (.goto 4, 3) := by decide +kernel
theorem dX8_measure_153 : decode cX8_measure 153 = .ok (.iconst 1, 1) := by decide +kernel
theorem dX8_measure_154 : decode cX8_measure 154 = .ok (.imul, 1) := by decide +kernel
theorem dX8_measure_155 : decode cX8_measure 155 = .ok (.istore 10, 2) := by decide +kernel
theorem dX8_measure_157 : decode cX8_measure 157 = .ok (.aload_n 0, 1) := by decide +kernel
theorem dX8_measure_158 : decode cX8_measure 158 = .ok (.getfield 40, 3) := by decide +kernel
theorem dX8_measure_161 : decode cX8_measure 161 = .ok (.iload 4, 2) := by decide +kernel
theorem dX8_measure_163 : decode cX8_measure 163 = .ok (.iload_n 1, 1) := by decide +kernel
theorem dX8_measure_164 : decode cX8_measure 164 = .ok (.ifCond .eq 16, 3) := by decide +kernel
theorem dX8_measure_167 : decode cX8_measure 167 = .ok (.aload_n 0, 1) := by decide +kernel
theorem dX8_measure_168 : decode cX8_measure 168 = .ok (.getfield 33, 3) := by decide +kernel
theorem dX8_measure_171 : decode cX8_measure 171 = .ok (.getfield 123, 3) := by decide +kernel
theorem dX8_measure_174 : decode cX8_measure 174 = .ok (.iload 9, 2) := by decide +kernel
theorem dX8_measure_176 : decode cX8_measure 176 = .ok (.isub, 1) := by decide +kernel
theorem dX8_measure_177 : decode cX8_measure 177 = .ok (.goto 5, 3) := by decide +kernel
theorem dX8_measure_180 : decode cX8_measure 180 = .ok (.iload 9, 2) := by decide +kernel
theorem dX8_measure_182 : decode cX8_measure 182 = .ok (.iload 10, 2) := by decide +kernel
theorem dX8_measure_184 : decode cX8_measure 184 = .ok (.invokevirtual 258, 3) := by decide +kernel
theorem dX8_measure_187 : decode cX8_measure 187 = .ok (.iload 9, 2) := by decide +kernel
theorem dX8_measure_189 : decode cX8_measure 189 = .ok (.ireturn, 1) := by decide +kernel
theorem dX8_mend_0 : decode cX8_mend 0 = .ok (.iload_n 1, 1) := by decide +kernel
theorem dX8_mend_1 : decode cX8_mend 1 = .ok (.invokestatic 51, 3) := by decide +kernel
theorem dX8_mend_4 : decode cX8_mend 4 = .ok (.ifCond .eq 14, 3) := by decide +kernel
theorem dX8_mend_7 : decode cX8_mend 7 = .ok (.iload_n 2, 1) := by decide +kernel
theorem dX8_mend_8 : decode cX8_mend 8 = .ok (.invokestatic 152, 3) := by decide +kernel
theorem dX8_mend_11 : decode cX8_mend 11 = .ok (.ifCond .eq 7, 3) := by decide +kernel
theorem dX8_mend_14 : decode cX8_mend 14 = .ok (.iconst 1, 1) := by decide +kernel
theorem dX8_mend_15 : decode cX8_mend 15 = .ok (.goto 4, 3) := by decide +kernel
theorem dX8_mend_18 : decode cX8_mend 18 = .ok (.iconst 0, 1) := by decide +kernel
theorem dX8_mend_19 : decode cX8_mend 19 = .ok (.invokestatic 59, 3) := by decide +kernel
theorem dX8_mend_22 : decode cX8_mend 22 = .ok (.aload_n 0, 1) := by decide +kernel
theorem dX8_mend_23 : decode cX8_mend 23 = .ok (.getfield 19, 3) := by decide +kernel
theorem dX8_mend_26 : decode cX8_mend 26 = .ok (.invokevirtual 196, 3) := by decide +kernel
theorem dX8_mend_29 : decode cX8_mend 29 = .ok (.ifCond .eq 21, 3) := by decide +kernel
theorem dX8_mend_32 : decode cX8_mend 32 = .ok (.aload_n 0, 1) := by decide +kernel
theorem dX8_mend_33 : decode cX8_mend 33 = .ok (.invokevirtual 116, 3) := by decide +kernel
theorem dX8_mend_36 : decode cX8_mend 36 = .ok (.ifCond .ne 10, 3) := by decide +kernel
theorem dX8_mend_39 : decode cX8_mend 39 = .ok (.aload_n 0, 1) := by decide +kernel
theorem dX8_mend_40 : decode cX8_mend 40 = .ok (.getfield 112, 3) := by decide +kernel
theorem dX8_mend_43 : decode cX8_mend 43 = .ok (.ifCond .eq 7, 3) := by decide +kernel
theorem dX8_mend_46 : decode cX8_mend 46 = .ok (.iconst 1, 1) := by decide +kernel
theorem dX8_mend_47 : decode cX8_mend 47 = .ok (.goto 4, 3) := by decide +kernel
theorem dX8_mend_50 : decode cX8_mend 50 = .ok (.iconst 0, 1) := by decide +kernel
theorem dX8_mend_51 : decode cX8_mend 51 = .ok (.invokestatic 67, 3) := by decide +kernel
theorem dX8_mend_54 : decode cX8_mend 54 = .ok (.iload_n 1, 1) := by decide +kernel
theorem dX8_mend_55 : decode cX8_mend 55 = .ok (.aload_n 0, 1) := by decide +kernel
theorem dX8_mend_56 : decode cX8_mend 56 = .ok (.getfield 33, 3) := by decide +kernel
theorem dX8_mend_59 : decode cX8_mend 59 = .ok (.getfield 63, 3) := by decide +kernel
theorem dX8_mend_62 : decode cX8_mend 62 = .ok (.if_icmp .ge 27, 3) := by decide +kernel
theorem dX8_mend_65 : decode cX8_mend 65 = .ok (.aload_n 0, 1) := by decide +kernel
theorem dX8_mend_66 : decode cX8_mend 66 = .ok (.getfield 112, 3) := by decide +kernel
theorem dX8_mend_69 : decode cX8_mend 69 = .ok (.ifCond .eq 16, 3) := by decide +kernel
theorem dX8_mend_72 : decode cX8_mend 72 = .ok (.iload_n 1, 1) := by decide +kernel
theorem dX8_mend_73 : decode cX8_mend 73 = .ok (.aload_n 0, 1) := by decide +kernel
theorem dX8_mend_74 : decode cX8_mend 74 = .ok (.getfield 33, 3) := by decide +kernel
theorem dX8_mend_77 : decode cX8_mend 77 = .ok (.getfield 63, 3) := by decide +kernel
theorem dX8_mend_80 : decode cX8_mend 80 = .ok (.iconst 1, 1) := by decide +kernel
theorem dX8_mend_81 : decode cX8_mend 81 = .ok (.isub, 1) := by decide +kernel
theorem dX8_mend_82 : decode cX8_mend 82 = .ok (.if_icmp .eq 7, 3) := by decide +kernel
theorem dX8_mend_85 : decode cX8_mend 85 = .ok (.iconst 1, 1) := by decide +kernel
theorem dX8_mend_86 : decode cX8_mend 86 = .ok (.goto 4, 3) := by decide +kernel
theorem dX8_mend_89 : decode cX8_mend 89 = .ok (.iconst 0, 1) := by decide +kernel
theorem dX8_mend_90 : decode cX8_mend 90 = .ok (.invokestatic 67, 3) := by decide +kernel
theorem dX8_mend_93 : decode cX8_mend 93 = .ok (.aload_n 0, 1) := by decide +kernel
theorem dX8_mend_94 : decode cX8_mend 94 = .ok (.getfield 33, 3) := by decide +kernel
theorem dX8_mend_97 : decode cX8_mend 97 = .ok (.iload_n 1, 1) := by decide +kernel
theorem dX8_mend_98 : decode cX8_mend 98 = .ok (.invokevirtual 238, 3) := by decide +kernel
theorem dX8_mend_101 : decode cX8_mend 101 = .ok (.istore_n 3, 1) := by decide +kernel
theorem dX8_mend_102 : decode cX8_mend 102 = .ok (.iload_n 3, 1) := by decide +kernel
theorem dX8_mend_103 : decode cX8_mend 103 = .ok (.aload_n 0, 1) := by decide +kernel
theorem dX8_mend_104 : decode cX8_mend 104 = .ok (.getfield 33, 3) := by decide +kernel
theorem dX8_mend_107 : decode cX8_mend 107 = .ok (.iload_n 1, 1) := by decide +kernel
theorem dX8_mend_108 : decode cX8_mend 108 = .ok (.invokevirtual 241, 3) := by decide +kernel
theorem dX8_mend_111 : decode cX8_mend 111 = .ok (.iadd, 1) := by decide +kernel
theorem dX8_mend_112 : decode cX8_mend 112 = .ok (.istore 4, 2) := by decide +kernel
theorem dX8_mend_114 : decode cX8_mend 114 = .ok (.aload_n 0, 1) := by decide +kernel
theorem dX8_mend_115 : decode cX8_mend 115 = .ok (.getfield 10, 3) := by decide +kernel
theorem dX8_mend_118 : decode cX8_mend 118 = .ok (.iload_n 1, 1) := by decide +kernel
theorem dX8_mend_119 : decode cX8_mend 119 = .ok (.invokevirtual 74, 3) := by decide +kernel
theorem dX8_mend_122 : decode cX8_mend 122 = .ok (.istore 5, 2) := by decide +kernel
theorem dX8_mend_124 : decode cX8_mend 124 = .ok (.iload 4, 2) := by decide +kernel
theorem dX8_mend_126 : decode cX8_mend 126 = .ok (.iload_n 3, 1) := by decide +kernel
theorem dX8_mend_127 : decode cX8_mend 127 = .ok (.isub, 1) := by decide +kernel
theorem dX8_mend_128 : decode cX8_mend 128 = .ok (.iconst 2, 1) := by decide +kernel
theorem dX8_mend_129 : decode cX8_mend 129 = .ok (.iload 5, 2) := by decide +kernel
theorem dX8_mend_131 : decode cX8_mend 131 = .ok (.imul, 1) := by decide +kernel
theorem dX8_mend_132 : decode cX8_mend 132 = .ok (.iadd, 1) := by decide +kernel
theorem dX8_mend_133 : decode cX8_mend 133 = .ok (.istore 6, 2) := by decide +kernel
theorem dX8_mend_135 : decode cX8_mend 135 = .ok (.aload_n 0, 1) := by decide +kernel
theorem dX8_mend_136 : decode cX8_mend 136 = .ok (.getfield 26, 3) := by decide +kernel
theorem dX8_mend_139 : decode cX8_mend 139 = .ok (.iload_n 2, 1) := by decide +kernel
theorem dX8_mend_140 : decode cX8_mend 140 = .ok (.iload 6, 2) := by decide +kernel
theorem dX8_mend_142 : decode cX8_mend 142 = .ok (.invokevirtual 175, 3) := by decide +kernel
theorem dX8_mend_145 : decode cX8_mend 145 = .ok (.ifCond .eq 30, 3) := by decide +kernel
theorem dX8_mend_148 : decode cX8_mend 148 = .ok (.aload_n 0, 1) := by decide +kernel
theorem dX8_mend_149 : decode cX8_mend 149 = .ok (.getfield 26, 3) := by decide +kernel
theorem dX8_mend_152 : decode cX8_mend 152 = .ok (.aload_n 0, 1) := by decide +kernel
theorem dX8_mend_153 : decode cX8_mend 153 = .ok (.iload_n 3, 1) := by decide +kernel
theorem dX8_mend_154 : decode cX8_mend 154 = .ok (.iconst 1, 1) := by decide +kernel
theorem dX8_mend_155 : decode cX8_mend 155 = .ok (.isub, 1) := by decide +kernel
theorem dX8_mend_156 : decode cX8_mend 156 = .ok (.invokevirtual 181, 3) := by decide +kernel
theorem dX8_mend_159 : decode cX8_mend 159 = .ok (.aload_n 0, 1) := by decide +kernel
theorem dX8_mend_160 : decode cX8_mend 160 = .ok (.iload 4, 2) := by decide +kernel
theorem dX8_mend_162 : decode cX8_mend 162 = .ok (.invokevirtual 181, 3) := by decide +kernel
theorem dX8_mend_165 : decode cX8_mend 165 = .ok (.invokevirtual 184, 3) := by decide +kernel
theorem dX8_mend_168 : decode cX8_mend 168 = .ok (.ifCond .eq 7, 3) := by decide +kernel
theorem dX8_mend_171 : decode cX8_mend 171 = .ok (.iconst 1, 1) := by decide +kernel
theorem dX8_mend_172 : decode cX8_mend 172 = .ok (.goto 4, 3) := by decide +kernel
theorem dX8_mend_175 : decode cX8_mend 175 = .ok (.iconst 0, 1) := by decide +kernel
theorem dX8_mend_176 : decode cX8_mend 176 = .ok (.invokestatic 67, 3) := by decide +kernel
theorem dX8_mend_179 : decode cX8_mend 179 = .ok (.aload_n 0, 1) := by decide +kernel
theorem dX8_mend_180 : decode cX8_mend 180 = .ok (.getfield 33, 3) := by decide +kernel
theorem dX8_mend_183 : decode cX8_mend 183 = .ok (.iload_n 1, 1) := by decide +kernel
theorem dX8_mend_184 : decode cX8_mend 184 = .ok (.aload_n 0, 1) := by decide +kernel
theorem dX8_mend_185 : decode cX8_mend 185 = .ok (.getfield 26, 3) := by decide +kernel
theorem dX8_mend_188 : decode cX8_mend 188 = .ok (.getfield 199, 3) := by decide +kernel
theorem dX8_mend_191 : decode cX8_mend 191 = .ok (.iload 6, 2) := by decide +kernel
theorem dX8_mend_193 : decode cX8_mend 193 = .ok (.invokevirtual 261, 3) := by decide +kernel
theorem dX8_mend_196 : decode cX8_mend 196 = .ok (.aload_n 0, 1) := by decide +kernel
theorem dX8_mend_197 : decode cX8_mend 197 = .ok (.getfield 26, 3) := by decide +kernel
theorem dX8_mend_200 : decode cX8_mend 200 = .ok (.iload_n 2, 1) := by decide +kernel
theorem dX8_mend_201 : decode cX8_mend 201 = .ok (.iload 6, 2) := by decide +kernel
theorem dX8_mend_203 : decode cX8_mend 203 = .ok (.invokevirtual 190, 3) := by decide +kernel
theorem dX8_mend_206 : decode cX8_mend 206 = .ok (.aload_n 0, 1) := by decide +kernel
theorem dX8_mend_207 : decode cX8_mend 207 = .ok (.dup, 1) := by decide +kernel
theorem dX8_mend_208 : decode cX8_mend 208 = .ok (.getfield 135, 3) := by decide +kernel
theorem dX8_mend_211 : decode cX8_mend 211 = .ok (.iload 4, 2) := by decide +kernel
theorem dX8_mend_213 : decode cX8_mend 213 = .ok (.iload_n 3, 1) := by decide +kernel
theorem dX8_mend_214 : decode cX8_mend 214 = .ok (.isub, 1) := by decide +kernel
theorem dX8_mend_215 : decode cX8_mend 215 = .ok (.iadd, 1) := by decide +kernel
theorem dX8_mend_216 : decode cX8_mend 216 = .ok (.putfield 135, 3) := by decide +kernel
theorem dX8_mend_219 : decode cX8_mend 219 = .ok (.aload_n 0, 1) := by decide +kernel
theorem dX8_mend_220 : decode cX8_mend 220 = .ok (.getfield 19, 3) := by decide +kernel
theorem dX8_mend_223 : decode cX8_mend 223 = .ok (.aload_n 0, 1) := by decide +kernel
theorem dX8_mend_224 : decode cX8_mend 224 = .ok (.getfield 19, 3) := by decide +kernel
theorem dX8_mend_227 : decode cX8_mend 227 = .ok (.getfield 93, 3) := by decide +kernel
theorem dX8_mend_230 : decode cX8_mend 230 = .ok (.iconst 3, 1) := by decide +kernel
theorem dX8_mend_231 : decode cX8_mend 231 = .ok (.iadd, 1) := by decide +kernel
theorem dX8_mend_232 : decode cX8_mend 232 = .ok (.iload 5, 2) := by decide +kernel
theorem dX8_mend_234 : decode cX8_mend 234 = .ok (.sipush 1000, 3) := by decide +kernel
theorem dX8_mend_237 : decode cX8_mend 237 = .ok (.idiv, 1) := by decide +kernel
theorem dX8_mend_238 : decode cX8_mend 238 = .ok (.iadd, 1) := by decide +kernel
theorem dX8_mend_239 : decode cX8_mend 239 = .ok (.putfield 265, 3) := by decide +kernel
theorem dX8_mend_242 : decode cX8_mend 242 = .ok (.aload_n 0, 1) := by decide +kernel
theorem dX8_mend_243 : decode cX8_mend 243 = .ok (.getfield 40, 3) := by decide +kernel
theorem dX8_mend_246 : decode cX8_mend 246 = .ok (.iload_n 3, 1) := by decide +kernel
theorem dX8_mend_247 : decode cX8_mend 247 = .ok (.iload 4, 2) := by decide +kernel
theorem dX8_mend_249 : decode cX8_mend 249 = .ok (.iload 6, 2) := by decide +kernel
theorem dX8_mend_251 : decode cX8_mend 251 = .ok (.iload 4, 2) := by decide +kernel
theorem dX8_mend_253 : decode cX8_mend 253 = .ok (.iload_n 3, 1) := by decide +kernel
theorem dX8_mend_254 : decode cX8_mend 254 = .ok (.isub, 1) := by decide +kernel
theorem dX8_mend_255 : decode cX8_mend 255 = .ok (.isub, 1) := by decide +kernel
theorem dX8_mend_256 : decode cX8_mend 256 = .ok (.invokevirtual 268, 3) := by decide +kernel
theorem dX8_mend_259 : decode cX8_mend 259 = .ok (.istore 7, 2) := by decide +kernel
theorem dX8_mend_261 : decode cX8_mend 261 = .ok (.aload_n 0, 1) := by decide +kernel
theorem dX8_mend_262 : decode cX8_mend 262 = .ok (.getfield 40, 3) := by decide +kernel
theorem dX8_mend_265 : decode cX8_mend 265 = .ok (.aload_n 0, 1) := by decide +kernel
theorem dX8_mend_266 : decode cX8_mend 266 = .ok (.getfield 33, 3) := by decide +kernel
theorem dX8_mend_269 : decode cX8_mend 269 = .ok (.getfield 123, 3) := by decide +kernel
theorem dX8_mend_272 : decode cX8_mend 272 = .ok (.invokevirtual 145, 3) := by decide +kernel
theorem dX8_mend_275 : decode cX8_mend 275 = .ok (.iload 7, 2) := by decide +kernel
theorem dX8_mend_277 : decode cX8_mend 277 = .ok (.ireturn, 1) := by decide +kernel
theorem dX8_link_0 : decode cX8_link 0 = .ok (.iload_n 1, 1) := by decide +kernel
theorem dX8_link_1 : decode cX8_link 1 = .ok (.iload_n 2, 1) := by decide +kernel
theorem dX8_link_2 : decode cX8_link 2 = .ok (.invokestatic 271, 3) := by decide +kernel
theorem dX8_link_5 : decode cX8_link 5 = .ok (.ifCond .eq 17, 3) := by decide +kernel
theorem dX8_link_8 : decode cX8_link 8 = .ok (.iload_n 3, 1) := by decide +kernel
theorem dX8_link_9 : decode cX8_link 9 = .ok (.iconst 1, 1) := by decide +kernel
theorem dX8_link_10 : decode cX8_link 10 = .ok (.bipush 20, 2) := by decide +kernel
theorem dX8_link_12 : decode cX8_link 12 = .ok (.invokestatic 55, 3) := by decide +kernel
theorem dX8_link_15 : decode cX8_link 15 = .ok (.ifCond .eq 7, 3) := by decide +kernel
theorem dX8_link_18 : decode cX8_link 18 = .ok (.iconst 1, 1) := by decide +kernel
theorem dX8_link_19 : decode cX8_link 19 = .ok (.goto 4, 3) := by decide +kernel
theorem dX8_link_22 : decode cX8_link 22 = .ok (.iconst 0, 1) := by decide +kernel
theorem dX8_link_23 : decode cX8_link 23 = .ok (.invokestatic 59, 3) := by decide +kernel
theorem dX8_link_26 : decode cX8_link 26 = .ok (.aload_n 0, 1) := by decide +kernel
theorem dX8_link_27 : decode cX8_link 27 = .ok (.getfield 47, 3) := by decide +kernel
theorem dX8_link_30 : decode cX8_link 30 = .ok (.getfield 274, 3) := by decide +kernel
theorem dX8_link_33 : decode cX8_link 33 = .ok (.getfield 203, 3) := by decide +kernel
theorem dX8_link_36 : decode cX8_link 36 = .ok (.bipush 6, 2) := by decide +kernel
theorem dX8_link_38 : decode cX8_link 38 = .ok (.if_icmp .ge 7, 3) := by decide +kernel
theorem dX8_link_41 : decode cX8_link 41 = .ok (.iconst 1, 1) := by decide +kernel
theorem dX8_link_42 : decode cX8_link 42 = .ok (.goto 4, 3) := by decide +kernel
theorem dX8_link_45 : decode cX8_link 45 = .ok (.iconst 0, 1) := by decide +kernel
theorem dX8_link_46 : decode cX8_link 46 = .ok (.invokestatic 67, 3) := by decide +kernel
theorem dX8_link_49 : decode cX8_link 49 = .ok (.aload_n 0, 1) := by decide +kernel
theorem dX8_link_50 : decode cX8_link 50 = .ok (.getfield 47, 3) := by decide +kernel
theorem dX8_link_53 : decode cX8_link 53 = .ok (.getfield 274, 3) := by decide +kernel
theorem dX8_link_56 : decode cX8_link 56 = .ok (.iload_n 1, 1) := by decide +kernel
theorem dX8_link_57 : decode cX8_link 57 = .ok (.iload_n 2, 1) := by decide +kernel
theorem dX8_link_58 : decode cX8_link 58 = .ok (.iload_n 3, 1) := by decide +kernel
theorem dX8_link_59 : decode cX8_link 59 = .ok (.iconst 0, 1) := by decide +kernel
theorem dX8_link_60 : decode cX8_link 60 = .ok (.invokevirtual 277, 3) := by decide +kernel
theorem dX8_link_63 : decode cX8_link 63 = .ok (.aload_n 0, 1) := by decide +kernel
theorem dX8_link_64 : decode cX8_link 64 = .ok (.getfield 47, 3) := by decide +kernel
theorem dX8_link_67 : decode cX8_link 67 = .ok (.getfield 274, 3) := by decide +kernel
theorem dX8_link_70 : decode cX8_link 70 = .ok (.getfield 203, 3) := by decide +kernel
theorem dX8_link_73 : decode cX8_link 73 = .ok (.iconst 1, 1) := by decide +kernel
theorem dX8_link_74 : decode cX8_link 74 = .ok (.isub, 1) := by decide +kernel
theorem dX8_link_75 : decode cX8_link 75 = .ok (.ireturn, 1) := by decide +kernel
theorem dX8_dead_0 : decode cX8_dead 0 = .ok (.iload_n 1, 1) := by decide +kernel
theorem dX8_dead_1 : decode cX8_dead 1 = .ok (.aload_n 0, 1) := by decide +kernel
theorem dX8_dead_2 : decode cX8_dead 2 = .ok (.getfield 47, 3) := by decide +kernel
theorem dX8_dead_5 : decode cX8_dead 5 = .ok (.getfield 274, 3) := by decide +kernel
theorem dX8_dead_8 : decode cX8_dead 8 = .ok (.getfield 203, 3) := by decide +kernel
theorem dX8_dead_11 : decode cX8_dead 11 = .ok (.invokestatic 281, 3) := by decide +kernel
theorem dX8_dead_14 : decode cX8_dead 14 = .ok (.iload_n 1, 1) := by decide +kernel
theorem dX8_dead_15 : decode cX8_dead 15 = .ok (.ifCond .eq 7, 3) := by decide +kernel
theorem dX8_dead_18 : decode cX8_dead 18 = .ok (.iconst 1, 1) := by decide +kernel
theorem dX8_dead_19 : decode cX8_dead 19 = .ok (.goto 4, 3) := by decide +kernel
theorem dX8_dead_22 : decode cX8_dead 22 = .ok (.iconst 0, 1) := by decide +kernel
theorem dX8_dead_23 : decode cX8_dead 23 = .ok (.invokestatic 59, 3) := by decide +kernel
theorem dX8_dead_26 : decode cX8_dead 26 = .ok (.aload_n 0, 1) := by decide +kernel
theorem dX8_dead_27 : decode cX8_dead 27 = .ok (.getfield 47, 3) := by decide +kernel
theorem dX8_dead_30 : decode cX8_dead 30 = .ok (.getfield 274, 3) := by decide +kernel
theorem dX8_dead_33 : decode cX8_dead 33 = .ok (.iload_n 1, 1) := by decide +kernel
theorem dX8_dead_34 : decode cX8_dead 34 = .ok (.iconst 3, 1) := by decide +kernel
theorem dX8_dead_35 : decode cX8_dead 35 = .ok (.invokevirtual 208, 3) := by decide +kernel
theorem dX8_dead_38 : decode cX8_dead 38 = .ok (.iconst 1, 1) := by decide +kernel
theorem dX8_dead_39 : decode cX8_dead 39 = .ok (.if_icmp .ne 7, 3) := by decide +kernel
theorem dX8_dead_42 : decode cX8_dead 42 = .ok (.iconst 1, 1) := by decide +kernel
theorem dX8_dead_43 : decode cX8_dead 43 = .ok (.goto 4, 3) := by decide +kernel
theorem dX8_dead_46 : decode cX8_dead 46 = .ok (.iconst 0, 1) := by decide +kernel
theorem dX8_dead_47 : decode cX8_dead 47 = .ok (.istore_n 3, 1) := by decide +kernel
theorem dX8_dead_48 : decode cX8_dead 48 = .ok (.aload_n 0, 1) := by decide +kernel
theorem dX8_dead_49 : decode cX8_dead 49 = .ok (.getfield 47, 3) := by decide +kernel
theorem dX8_dead_52 : decode cX8_dead 52 = .ok (.getfield 274, 3) := by decide +kernel
theorem dX8_dead_55 : decode cX8_dead 55 = .ok (.iload_n 1, 1) := by decide +kernel
theorem dX8_dead_56 : decode cX8_dead 56 = .ok (.iconst 3, 1) := by decide +kernel
theorem dX8_dead_57 : decode cX8_dead 57 = .ok (.iload_n 2, 1) := by decide +kernel
theorem dX8_dead_58 : decode cX8_dead 58 = .ok (.ifCond .eq 7, 3) := by decide +kernel
theorem dX8_dead_61 : decode cX8_dead 61 = .ok (.iconst 1, 1) := by decide +kernel
theorem dX8_dead_62 : decode cX8_dead 62 = .ok (.goto 4, 3) := by decide +kernel
theorem dX8_dead_65 : decode cX8_dead 65 = .ok (.iconst 0, 1) := by decide +kernel
theorem dX8_dead_66 : decode cX8_dead 66 = .ok (.invokevirtual 284, 3) := by decide +kernel
theorem dX8_dead_69 : decode cX8_dead 69 = .ok (.iload_n 3, 1) := by decide +kernel
theorem dX8_dead_70 : decode cX8_dead 70 = .ok (.ireturn, 1) := by decide +kernel
theorem dX8_demand_0 : decode cX8_demand 0 = .ok (.iload_n 1, 1) := by decide +kernel
theorem dX8_demand_1 : decode cX8_demand 1 = .ok (.iload_n 2, 1) := by decide +kernel
theorem dX8_demand_2 : decode cX8_demand 2 = .ok (.invokestatic 271, 3) := by decide +kernel
theorem dX8_demand_5 : decode cX8_demand 5 = .ok (.ifCond .eq 17, 3) := by decide +kernel
theorem dX8_demand_8 : decode cX8_demand 8 = .ok (.iload_n 3, 1) := by decide +kernel
theorem dX8_demand_9 : decode cX8_demand 9 = .ok (.iconst 1, 1) := by decide +kernel
theorem dX8_demand_10 : decode cX8_demand 10 = .ok (.bipush 8, 2) := by decide +kernel
theorem dX8_demand_12 : decode cX8_demand 12 = .ok (.invokestatic 55, 3) := by decide +kernel
theorem dX8_demand_15 : decode cX8_demand 15 = .ok (.ifCond .eq 7, 3) := by decide +kernel
theorem dX8_demand_18 : decode cX8_demand 18 = .ok (.iconst 1, 1) := by decide +kernel
theorem dX8_demand_19 : decode cX8_demand 19 = .ok (.goto 4, 3) := by decide +kernel
theorem dX8_demand_22 : decode cX8_demand 22 = .ok (.iconst 0, 1) := by decide +kernel
theorem dX8_demand_23 : decode cX8_demand 23 = .ok (.invokestatic 59, 3) := by decide +kernel
theorem dX8_demand_26 : decode cX8_demand 26 = .ok (.aload_n 0, 1) := by decide +kernel
theorem dX8_demand_27 : decode cX8_demand 27 = .ok (.getfield 47, 3) := by decide +kernel
theorem dX8_demand_30 : decode cX8_demand 30 = .ok (.getfield 287, 3) := by decide +kernel
theorem dX8_demand_33 : decode cX8_demand 33 = .ok (.getfield 203, 3) := by decide +kernel
theorem dX8_demand_36 : decode cX8_demand 36 = .ok (.bipush 10, 2) := by decide +kernel
theorem dX8_demand_38 : decode cX8_demand 38 = .ok (.if_icmp .ge 7, 3) := by decide +kernel
theorem dX8_demand_41 : decode cX8_demand 41 = .ok (.iconst 1, 1) := by decide +kernel
theorem dX8_demand_42 : decode cX8_demand 42 = .ok (.goto 4, 3) := by decide +kernel
theorem dX8_demand_45 : decode cX8_demand 45 = .ok (.iconst 0, 1) := by decide +kernel
theorem dX8_demand_46 : decode cX8_demand 46 = .ok (.invokestatic 67, 3) := by decide +kernel
theorem dX8_demand_49 : decode cX8_demand 49 = .ok (.aload_n 0, 1) := by decide +kernel
theorem dX8_demand_50 : decode cX8_demand 50 = .ok (.getfield 47, 3) := by decide +kernel
theorem dX8_demand_53 : decode cX8_demand 53 = .ok (.getfield 287, 3) := by decide +kernel
theorem dX8_demand_56 : decode cX8_demand 56 = .ok (.iload_n 1, 1) := by decide +kernel
theorem dX8_demand_57 : decode cX8_demand 57 = .ok (.iload_n 2, 1) := by decide +kernel
theorem dX8_demand_58 : decode cX8_demand 58 = .ok (.iload_n 3, 1) := by decide +kernel
theorem dX8_demand_59 : decode cX8_demand 59 = .ok (.iconst 0, 1) := by decide +kernel
theorem dX8_demand_60 : decode cX8_demand 60 = .ok (.invokevirtual 277, 3) := by decide +kernel
theorem dX8_demand_63 : decode cX8_demand 63 = .ok (.aload_n 0, 1) := by decide +kernel
theorem dX8_demand_64 : decode cX8_demand 64 = .ok (.getfield 47, 3) := by decide +kernel
theorem dX8_demand_67 : decode cX8_demand 67 = .ok (.getfield 287, 3) := by decide +kernel
theorem dX8_demand_70 : decode cX8_demand 70 = .ok (.getfield 203, 3) := by decide +kernel
theorem dX8_demand_73 : decode cX8_demand 73 = .ok (.iconst 1, 1) := by decide +kernel
theorem dX8_demand_74 : decode cX8_demand 74 = .ok (.isub, 1) := by decide +kernel
theorem dX8_demand_75 : decode cX8_demand 75 = .ok (.istore 4, 2) := by decide +kernel
theorem dX8_demand_77 : decode cX8_demand 77 = .ok (.aload_n 0, 1) := by decide +kernel
theorem dX8_demand_78 : decode cX8_demand 78 = .ok (.getfield 47, 3) := by decide +kernel
theorem dX8_demand_81 : decode cX8_demand 81 = .ok (.iload 4, 2) := by decide +kernel
theorem dX8_demand_83 : decode cX8_demand 83 = .ok (.aload_n 0, 1) := by decide +kernel
theorem dX8_demand_84 : decode cX8_demand 84 = .ok (.invokevirtual 290, 3) := by decide +kernel
theorem dX8_demand_87 : decode cX8_demand 87 = .ok (.invokevirtual 293, 3) := by decide +kernel
theorem dX8_demand_90 : decode cX8_demand 90 = .ok (.iload 4, 2) := by decide +kernel
theorem dX8_demand_92 : decode cX8_demand 92 = .ok (.ireturn, 1) := by decide +kernel
theorem dX8_restore_0 : decode cX8_restore 0 = .ok (.aload_n 0, 1) := by decide +kernel
theorem dX8_restore_1 : decode cX8_restore 1 = .ok (.invokevirtual 290, 3) := by decide +kernel
theorem dX8_restore_4 : decode cX8_restore 4 = .ok (.istore_n 1, 1) := by decide +kernel
theorem dX8_restore_5 : decode cX8_restore 5 = .ok (.aload_n 0, 1) := by decide +kernel
theorem dX8_restore_6 : decode cX8_restore 6 = .ok (.getfield 47, 3) := by decide +kernel
theorem dX8_restore_9 : decode cX8_restore 9 = .ok (.iload_n 1, 1) := by decide +kernel
theorem dX8_restore_10 : decode cX8_restore 10 = .ok (.invokevirtual 296, 3) := by decide +kernel
theorem dX8_restore_13 : decode cX8_restore 13 = .ok (.aload_n 0, 1) := by decide +kernel
theorem dX8_restore_14 : decode cX8_restore 14 = .ok (.getfield 47, 3) := by decide +kernel
theorem dX8_restore_17 : decode cX8_restore 17 = .ok (.iload_n 1, 1) := by decide +kernel
theorem dX8_restore_18 : decode cX8_restore 18 = .ok (.invokevirtual 299, 3) := by decide +kernel
theorem dX8_restore_21 : decode cX8_restore 21 = .ok (.ireturn, 1) := by decide +kernel
theorem dX8_way_0 : decode cX8_way 0 = .ok (.iload_n 1, 1) := by decide +kernel
theorem dX8_way_1 : decode cX8_way 1 = .ok (.aload_n 0, 1) := by decide +kernel
theorem dX8_way_2 : decode cX8_way 2 = .ok (.getfield 47, 3) := by decide +kernel
theorem dX8_way_5 : decode cX8_way 5 = .ok (.getfield 287, 3) := by decide +kernel
theorem dX8_way_8 : decode cX8_way 8 = .ok (.getfield 203, 3) := by decide +kernel
theorem dX8_way_11 : decode cX8_way 11 = .ok (.invokestatic 281, 3) := by decide +kernel
theorem dX8_way_14 : decode cX8_way 14 = .ok (.aload_n 0, 1) := by decide +kernel
theorem dX8_way_15 : decode cX8_way 15 = .ok (.getfield 47, 3) := by decide +kernel
theorem dX8_way_18 : decode cX8_way 18 = .ok (.iload_n 1, 1) := by decide +kernel
theorem dX8_way_19 : decode cX8_way 19 = .ok (.invokevirtual 302, 3) := by decide +kernel
theorem dX8_way_22 : decode cX8_way 22 = .ok (.ireturn, 1) := by decide +kernel
theorem dX8_isLit_0 : decode cX8_isLit 0 = .ok (.iload_n 1, 1) := by decide +kernel
theorem dX8_isLit_1 : decode cX8_isLit 1 = .ok (.aload_n 0, 1) := by decide +kernel
theorem dX8_isLit_2 : decode cX8_isLit 2 = .ok (.getfield 47, 3) := by decide +kernel
theorem dX8_isLit_5 : decode cX8_isLit 5 = .ok (.getfield 287, 3) := by decide +kernel
theorem dX8_isLit_8 : decode cX8_isLit 8 = .ok (.getfield 203, 3) := by decide +kernel
theorem dX8_isLit_11 : decode cX8_isLit 11 = .ok (.invokestatic 281, 3) := by decide +kernel
theorem dX8_isLit_14 : decode cX8_isLit 14 = .ok (.aload_n 0, 1) := by decide +kernel
theorem dX8_isLit_15 : decode cX8_isLit 15 = .ok (.getfield 47, 3) := by decide +kernel
theorem dX8_isLit_18 : decode cX8_isLit 18 = .ok (.iload_n 1, 1) := by decide +kernel
theorem dX8_isLit_19 : decode cX8_isLit 19 = .ok (.invokevirtual 302, 3) := by decide +kernel
theorem dX8_isLit_22 : decode cX8_isLit 22 = .ok (.istore_n 2, 1) := by decide +kernel
theorem dX8_isLit_23 : decode cX8_isLit 23 = .ok (.iload_n 2, 1) := by decide +kernel
theorem dX8_isLit_24 : decode cX8_isLit 24 = .ok (.ifCond .eq 16, 3) := by decide +kernel
theorem dX8_isLit_27 : decode cX8_isLit 27 = .ok (.iload_n 2, 1) := by decide +kernel
theorem dX8_isLit_28 : decode cX8_isLit 28 = .ok (.aload_n 0, 1) := by decide +kernel
theorem dX8_isLit_29 : decode cX8_isLit 29 = .ok (.invokevirtual 290, 3) := by decide +kernel
theorem dX8_isLit_32 : decode cX8_isLit 32 = .ok (.iand, 1) := by decide +kernel
theorem dX8_isLit_33 : decode cX8_isLit 33 = .ok (.ifCond .ne 7, 3) := by decide +kernel
theorem dX8_isLit_36 : decode cX8_isLit 36 = .ok (.iconst 1, 1) := by decide +kernel
theorem dX8_isLit_37 : decode cX8_isLit 37 = .ok (.goto 4, 3) := by decide +kernel
theorem dX8_isLit_40 : decode cX8_isLit 40 = .ok (.iconst 0, 1) := by decide +kernel
theorem dX8_isLit_41 : decode cX8_isLit 41 = .ok (.ireturn, 1) := by decide +kernel
theorem dX8_deadLinks_0 : decode cX8_deadLinks 0 = .ok (.aload_n 0, 1) := by decide +kernel
theorem dX8_deadLinks_1 : decode cX8_deadLinks 1 = .ok (.getfield 47, 3) := by decide +kernel
theorem dX8_deadLinks_4 : decode cX8_deadLinks 4 = .ok (.invokevirtual 305, 3) := by decide +kernel
theorem dX8_deadLinks_7 : decode cX8_deadLinks 7 = .ok (.aload_n 0, 1) := by decide +kernel
theorem dX8_deadLinks_8 : decode cX8_deadLinks 8 = .ok (.invokevirtual 308, 3) := by decide +kernel
theorem dX8_deadLinks_11 : decode cX8_deadLinks 11 = .ok (.ifCond .eq 7, 3) := by decide +kernel
theorem dX8_deadLinks_14 : decode cX8_deadLinks 14 = .ok (.iconst 0, 1) := by decide +kernel
theorem dX8_deadLinks_15 : decode cX8_deadLinks 15 = .ok (.goto 4, 3) := by decide +kernel
theorem dX8_deadLinks_18 : decode cX8_deadLinks 18 = .ok (.iconst 1, 1) := by decide +kernel
theorem dX8_deadLinks_19 : decode cX8_deadLinks 19 = .ok (.ior, 1) := by decide +kernel
theorem dX8_deadLinks_20 : decode cX8_deadLinks 20 = .ok (.ireturn, 1) := by decide +kernel
theorem dX8_day_0 : decode cX8_day 0 = .ok (.aload_n 0, 1) := by decide +kernel
theorem dX8_day_1 : decode cX8_day 1 = .ok (.getfield 19, 3) := by decide +kernel
theorem dX8_day_4 : decode cX8_day 4 = .ok (.getfield 93, 3) := by decide +kernel
theorem dX8_day_7 : decode cX8_day 7 = .ok (.ireturn, 1) := by decide +kernel
theorem dX8_waves_0 : decode cX8_waves 0 = .ok (.aload_n 0, 1) := by decide +kernel
theorem dX8_waves_1 : decode cX8_waves 1 = .ok (.getfield 19, 3) := by decide +kernel
theorem dX8_waves_4 : decode cX8_waves 4 = .ok (.invokevirtual 99, 3) := by decide +kernel
theorem dX8_waves_7 : decode cX8_waves 7 = .ok (.ireturn, 1) := by decide +kernel
theorem dX8_canWork_0 : decode cX8_canWork 0 = .ok (.aload_n 0, 1) := by decide +kernel
theorem dX8_canWork_1 : decode cX8_canWork 1 = .ok (.getfield 19, 3) := by decide +kernel
theorem dX8_canWork_4 : decode cX8_canWork 4 = .ok (.invokevirtual 196, 3) := by decide +kernel
theorem dX8_canWork_7 : decode cX8_canWork 7 = .ok (.ireturn, 1) := by decide +kernel
theorem dX8_cell_0 : decode cX8_cell 0 = .ok (.iload_n 1, 1) := by decide +kernel
theorem dX8_cell_1 : decode cX8_cell 1 = .ok (.invokestatic 51, 3) := by decide +kernel
theorem dX8_cell_4 : decode cX8_cell 4 = .ok (.ifCond .eq 16, 3) := by decide +kernel
theorem dX8_cell_7 : decode cX8_cell 7 = .ok (.iload_n 2, 1) := by decide +kernel
theorem dX8_cell_8 : decode cX8_cell 8 = .ok (.iconst 0, 1) := by decide +kernel
theorem dX8_cell_9 : decode cX8_cell 9 = .ok (.iconst 3, 1) := by decide +kernel
theorem dX8_cell_10 : decode cX8_cell 10 = .ok (.invokestatic 55, 3) := by decide +kernel
theorem dX8_cell_13 : decode cX8_cell 13 = .ok (.ifCond .eq 7, 3) := by decide +kernel
theorem dX8_cell_16 : decode cX8_cell 16 = .ok (.iconst 1, 1) := by decide +kernel
theorem dX8_cell_17 : decode cX8_cell 17 = .ok (.goto 4, 3) := by decide +kernel
theorem dX8_cell_20 : decode cX8_cell 20 = .ok (.iconst 0, 1) := by decide +kernel
theorem dX8_cell_21 : decode cX8_cell 21 = .ok (.invokestatic 59, 3) := by decide +kernel
theorem dX8_cell_24 : decode cX8_cell 24 = .ok (.iload_n 2, 1) := by decide +kernel
theorem dX8_cell_25 : decode cX8_cell 25 = .ok (.tableswitch 69 0 2 #[27, 36, 45], 27) := by decide +kernel
theorem dX8_cell_52 : decode cX8_cell 52 = .ok (.aload_n 0, 1) := by decide +kernel
theorem dX8_cell_53 : decode cX8_cell 53 = .ok (.getfield 10, 3) := by decide +kernel
theorem dX8_cell_56 : decode cX8_cell 56 = .ok (.iload_n 1, 1) := by decide +kernel
theorem dX8_cell_57 : decode cX8_cell 57 = .ok (.invokevirtual 74, 3) := by decide +kernel
theorem dX8_cell_60 : decode cX8_cell 60 = .ok (.ireturn, 1) := by decide +kernel
theorem dX8_cell_61 : decode cX8_cell 61 = .ok (.aload_n 0, 1) := by decide +kernel
theorem dX8_cell_62 : decode cX8_cell 62 = .ok (.getfield 10, 3) := by decide +kernel
theorem dX8_cell_65 : decode cX8_cell 65 = .ok (.iload_n 1, 1) := by decide +kernel
theorem dX8_cell_66 : decode cX8_cell 66 = .ok (.invokevirtual 172, 3) := by decide +kernel
theorem dX8_cell_69 : decode cX8_cell 69 = .ok (.ireturn, 1) := by decide +kernel
theorem dX8_cell_70 : decode cX8_cell 70 = .ok (.iload_n 1, 1) := by decide +kernel
theorem dX8_cell_71 : decode cX8_cell 71 = .ok (.aload_n 0, 1) := by decide +kernel
theorem dX8_cell_72 : decode cX8_cell 72 = .ok (.getfield 33, 3) := by decide +kernel
theorem dX8_cell_75 : decode cX8_cell 75 = .ok (.getfield 63, 3) := by decide +kernel
theorem dX8_cell_78 : decode cX8_cell 78 = .ok (.if_icmp .ge 14, 3) := by decide +kernel
theorem dX8_cell_81 : decode cX8_cell 81 = .ok (.aload_n 0, 1) := by decide +kernel
theorem dX8_cell_82 : decode cX8_cell 82 = .ok (.getfield 33, 3) := by decide +kernel
theorem dX8_cell_85 : decode cX8_cell 85 = .ok (.iload_n 1, 1) := by decide +kernel
theorem dX8_cell_86 : decode cX8_cell 86 = .ok (.invokevirtual 238, 3) := by decide +kernel
theorem dX8_cell_89 : decode cX8_cell 89 = .ok (.goto 4, 3) := by decide +kernel
theorem dX8_cell_92 : decode cX8_cell 92 = .ok (.iconst (-1), 1) := by decide +kernel
theorem dX8_cell_93 : decode cX8_cell 93 = .ok (.ireturn, 1) := by decide +kernel
theorem dX8_cell_94 : decode cX8_cell 94 = .ok (.iload_n 1, 1) := by decide +kernel
theorem dX8_cell_95 : decode cX8_cell 95 = .ok (.aload_n 0, 1) := by decide +kernel
theorem dX8_cell_96 : decode cX8_cell 96 = .ok (.getfield 33, 3) := by decide +kernel
theorem dX8_cell_99 : decode cX8_cell 99 = .ok (.getfield 63, 3) := by decide +kernel
theorem dX8_cell_102 : decode cX8_cell 102 = .ok (.if_icmp .ge 14, 3) := by decide +kernel
theorem dX8_cell_105 : decode cX8_cell 105 = .ok (.aload_n 0, 1) := by decide +kernel
theorem dX8_cell_106 : decode cX8_cell 106 = .ok (.getfield 33, 3) := by decide +kernel
theorem dX8_cell_109 : decode cX8_cell 109 = .ok (.iload_n 1, 1) := by decide +kernel
theorem dX8_cell_110 : decode cX8_cell 110 = .ok (.invokevirtual 241, 3) := by decide +kernel
theorem dX8_cell_113 : decode cX8_cell 113 = .ok (.goto 4, 3) := by decide +kernel
theorem dX8_cell_116 : decode cX8_cell 116 = .ok (.iconst (-1), 1) := by decide +kernel
theorem dX8_cell_117 : decode cX8_cell 117 = .ok (.ireturn, 1) := by decide +kernel
theorem dX8_tension_0 : decode cX8_tension 0 = .ok (.iload_n 1, 1) := by decide +kernel
theorem dX8_tension_1 : decode cX8_tension 1 = .ok (.invokestatic 148, 3) := by decide +kernel
theorem dX8_tension_4 : decode cX8_tension 4 = .ok (.ifCond .eq 14, 3) := by decide +kernel
theorem dX8_tension_7 : decode cX8_tension 7 = .ok (.iload_n 2, 1) := by decide +kernel
theorem dX8_tension_8 : decode cX8_tension 8 = .ok (.invokestatic 51, 3) := by decide +kernel
theorem dX8_tension_11 : decode cX8_tension 11 = .ok (.ifCond .eq 7, 3) := by decide +kernel
theorem dX8_tension_14 : decode cX8_tension 14 = .ok (.iconst 1, 1) := by decide +kernel
theorem dX8_tension_15 : decode cX8_tension 15 = .ok (.goto 4, 3) := by decide +kernel
theorem dX8_tension_18 : decode cX8_tension 18 = .ok (.iconst 0, 1) := by decide +kernel
theorem dX8_tension_19 : decode cX8_tension 19 = .ok (.invokestatic 59, 3) := by decide +kernel
theorem dX8_tension_22 : decode cX8_tension 22 = .ok (.iload_n 1, 1) := by decide +kernel
theorem dX8_tension_23 : decode cX8_tension 23 = .ok (.aload_n 0, 1) := by decide +kernel
theorem dX8_tension_24 : decode cX8_tension 24 = .ok (.getfield 10, 3) := by decide +kernel
theorem dX8_tension_27 : decode cX8_tension 27 = .ok (.iload_n 2, 1) := by decide +kernel
theorem dX8_tension_28 : decode cX8_tension 28 = .ok (.invokevirtual 74, 3) := by decide +kernel
theorem dX8_tension_31 : decode cX8_tension 31 = .ok (.invokestatic 311, 3) := by decide +kernel
theorem dX8_tension_34 : decode cX8_tension 34 = .ok (.ireturn, 1) := by decide +kernel
theorem dX8_tank_0 : decode cX8_tank 0 = .ok (.iload_n 1, 1) := by decide +kernel
theorem dX8_tank_1 : decode cX8_tank 1 = .ok (.invokestatic 152, 3) := by decide +kernel
theorem dX8_tank_4 : decode cX8_tank 4 = .ok (.ifCond .eq 16, 3) := by decide +kernel
theorem dX8_tank_7 : decode cX8_tank 7 = .ok (.iload_n 2, 1) := by decide +kernel
theorem dX8_tank_8 : decode cX8_tank 8 = .ok (.iconst 0, 1) := by decide +kernel
theorem dX8_tank_9 : decode cX8_tank 9 = .ok (.iconst 4, 1) := by decide +kernel
theorem dX8_tank_10 : decode cX8_tank 10 = .ok (.invokestatic 55, 3) := by decide +kernel
theorem dX8_tank_13 : decode cX8_tank 13 = .ok (.ifCond .eq 7, 3) := by decide +kernel
theorem dX8_tank_16 : decode cX8_tank 16 = .ok (.iconst 1, 1) := by decide +kernel
theorem dX8_tank_17 : decode cX8_tank 17 = .ok (.goto 4, 3) := by decide +kernel
theorem dX8_tank_20 : decode cX8_tank 20 = .ok (.iconst 0, 1) := by decide +kernel
theorem dX8_tank_21 : decode cX8_tank 21 = .ok (.invokestatic 59, 3) := by decide +kernel
theorem dX8_tank_24 : decode cX8_tank 24 = .ok (.iload_n 2, 1) := by decide +kernel
theorem dX8_tank_25 : decode cX8_tank 25 = .ok (.tableswitch 76 0 3 #[31, 40, 49, 66], 31) := by decide +kernel
theorem dX8_tank_56 : decode cX8_tank 56 = .ok (.aload_n 0, 1) := by decide +kernel
theorem dX8_tank_57 : decode cX8_tank 57 = .ok (.getfield 26, 3) := by decide +kernel
theorem dX8_tank_60 : decode cX8_tank 60 = .ok (.iload_n 1, 1) := by decide +kernel
theorem dX8_tank_61 : decode cX8_tank 61 = .ok (.invokevirtual 314, 3) := by decide +kernel
theorem dX8_tank_64 : decode cX8_tank 64 = .ok (.ireturn, 1) := by decide +kernel
theorem dX8_tank_65 : decode cX8_tank 65 = .ok (.aload_n 0, 1) := by decide +kernel
theorem dX8_tank_66 : decode cX8_tank 66 = .ok (.getfield 26, 3) := by decide +kernel
theorem dX8_tank_69 : decode cX8_tank 69 = .ok (.iload_n 1, 1) := by decide +kernel
theorem dX8_tank_70 : decode cX8_tank 70 = .ok (.invokevirtual 315, 3) := by decide +kernel
theorem dX8_tank_73 : decode cX8_tank 73 = .ok (.ireturn, 1) := by decide +kernel
theorem dX8_tank_74 : decode cX8_tank 74 = .ok (.aload_n 0, 1) := by decide +kernel
theorem dX8_tank_75 : decode cX8_tank 75 = .ok (.getfield 26, 3) := by decide +kernel
theorem dX8_tank_78 : decode cX8_tank 78 = .ok (.aload_n 0, 1) := by decide +kernel
theorem dX8_tank_79 : decode cX8_tank 79 = .ok (.getfield 26, 3) := by decide +kernel
theorem dX8_tank_82 : decode cX8_tank 82 = .ok (.iload_n 1, 1) := by decide +kernel
theorem dX8_tank_83 : decode cX8_tank 83 = .ok (.iconst 1, 1) := by decide +kernel
theorem dX8_tank_84 : decode cX8_tank 84 = .ok (.invokevirtual 318, 3) := by decide +kernel
theorem dX8_tank_87 : decode cX8_tank 87 = .ok (.invokevirtual 321, 3) := by decide +kernel
theorem dX8_tank_90 : decode cX8_tank 90 = .ok (.ireturn, 1) := by decide +kernel
theorem dX8_tank_91 : decode cX8_tank 91 = .ok (.aload_n 0, 1) := by decide +kernel
theorem dX8_tank_92 : decode cX8_tank 92 = .ok (.getfield 26, 3) := by decide +kernel
theorem dX8_tank_95 : decode cX8_tank 95 = .ok (.iload_n 1, 1) := by decide +kernel
theorem dX8_tank_96 : decode cX8_tank 96 = .ok (.iconst 1, 1) := by decide +kernel
theorem dX8_tank_97 : decode cX8_tank 97 = .ok (.invokevirtual 318, 3) := by decide +kernel
theorem dX8_tank_100 : decode cX8_tank 100 = .ok (.ireturn, 1) := by decide +kernel
theorem dX8_tank_101 : decode cX8_tank 101 = .ok (.aload_n 0, 1) := by decide +kernel
theorem dX8_tank_102 : decode cX8_tank 102 = .ok (.getfield 26, 3) := by decide +kernel
theorem dX8_tank_105 : decode cX8_tank 105 = .ok (.iload_n 1, 1) := by decide +kernel
theorem dX8_tank_106 : decode cX8_tank 106 = .ok (.iconst 2, 1) := by decide +kernel
theorem dX8_tank_107 : decode cX8_tank 107 = .ok (.invokevirtual 318, 3) := by decide +kernel
theorem dX8_tank_110 : decode cX8_tank 110 = .ok (.ireturn, 1) := by decide +kernel
theorem dX8_line_0 : decode cX8_line 0 = .ok (.iload_n 1, 1) := by decide +kernel
theorem dX8_line_1 : decode cX8_line 1 = .ok (.iconst 0, 1) := by decide +kernel
theorem dX8_line_2 : decode cX8_line 2 = .ok (.bipush 7, 2) := by decide +kernel
theorem dX8_line_4 : decode cX8_line 4 = .ok (.invokestatic 55, 3) := by decide +kernel
theorem dX8_line_7 : decode cX8_line 7 = .ok (.invokestatic 59, 3) := by decide +kernel
theorem dX8_line_10 : decode cX8_line 10 = .ok (.iload_n 1, 1) := by decide +kernel
theorem dX8_line_11 : decode cX8_line 11 = .ok (.tableswitch 104 0 6 #[41, 49, 57, 68, 77, 86, 91], 41) := by decide +kernel
theorem dX8_line_52 : decode cX8_line 52 = .ok (.aload_n 0, 1) := by decide +kernel
theorem dX8_line_53 : decode cX8_line 53 = .ok (.getfield 33, 3) := by decide +kernel
theorem dX8_line_56 : decode cX8_line 56 = .ok (.getfield 123, 3) := by decide +kernel
theorem dX8_line_59 : decode cX8_line 59 = .ok (.ireturn, 1) := by decide +kernel
theorem dX8_line_60 : decode cX8_line 60 = .ok (.aload_n 0, 1) := by decide +kernel
theorem dX8_line_61 : decode cX8_line 61 = .ok (.getfield 33, 3) := by decide +kernel
theorem dX8_line_64 : decode cX8_line 64 = .ok (.getfield 63, 3) := by decide +kernel
theorem dX8_line_67 : decode cX8_line 67 = .ok (.ireturn, 1) := by decide +kernel
theorem dX8_line_68 : decode cX8_line 68 = .ok (.aload_n 0, 1) := by decide +kernel
theorem dX8_line_69 : decode cX8_line 69 = .ok (.getfield 33, 3) := by decide +kernel
theorem dX8_line_72 : decode cX8_line 72 = .ok (.getfield 324, 3) := by decide +kernel
theorem dX8_line_75 : decode cX8_line 75 = .ok (.getfield 203, 3) := by decide +kernel
theorem dX8_line_78 : decode cX8_line 78 = .ok (.ireturn, 1) := by decide +kernel
theorem dX8_line_79 : decode cX8_line 79 = .ok (.aload_n 0, 1) := by decide +kernel
theorem dX8_line_80 : decode cX8_line 80 = .ok (.getfield 33, 3) := by decide +kernel
theorem dX8_line_83 : decode cX8_line 83 = .ok (.iconst 1, 1) := by decide +kernel
theorem dX8_line_84 : decode cX8_line 84 = .ok (.invokevirtual 220, 3) := by decide +kernel
theorem dX8_line_87 : decode cX8_line 87 = .ok (.ireturn, 1) := by decide +kernel
theorem dX8_line_88 : decode cX8_line 88 = .ok (.aload_n 0, 1) := by decide +kernel
theorem dX8_line_89 : decode cX8_line 89 = .ok (.getfield 33, 3) := by decide +kernel
theorem dX8_line_92 : decode cX8_line 92 = .ok (.iconst 2, 1) := by decide +kernel
theorem dX8_line_93 : decode cX8_line 93 = .ok (.invokevirtual 220, 3) := by decide +kernel
theorem dX8_line_96 : decode cX8_line 96 = .ok (.ireturn, 1) := by decide +kernel
theorem dX8_line_97 : decode cX8_line 97 = .ok (.aload_n 0, 1) := by decide +kernel
theorem dX8_line_98 : decode cX8_line 98 = .ok (.getfield 135, 3) := by decide +kernel
theorem dX8_line_101 : decode cX8_line 101 = .ok (.ireturn, 1) := by decide +kernel
theorem dX8_line_102 : decode cX8_line 102 = .ok (.aload_n 0, 1) := by decide +kernel
theorem dX8_line_103 : decode cX8_line 103 = .ok (.getfield 112, 3) := by decide +kernel
theorem dX8_line_106 : decode cX8_line 106 = .ok (.ifCond .eq 7, 3) := by decide +kernel
theorem dX8_line_109 : decode cX8_line 109 = .ok (.iconst 1, 1) := by decide +kernel
theorem dX8_line_110 : decode cX8_line 110 = .ok (.goto 4, 3) := by decide +kernel
theorem dX8_line_113 : decode cX8_line 113 = .ok (.iconst 0, 1) := by decide +kernel
theorem dX8_line_114 : decode cX8_line 114 = .ok (.ireturn, 1) := by decide +kernel
theorem dX8_line_115 : decode cX8_line 115 = .ok (.aload_n 0, 1) := by decide +kernel
theorem dX8_line_116 : decode cX8_line 116 = .ok (.getfield 132, 3) := by decide +kernel
theorem dX8_line_119 : decode cX8_line 119 = .ok (.ireturn, 1) := by decide +kernel
theorem dX8_thing_0 : decode cX8_thing 0 = .ok (.iload_n 1, 1) := by decide +kernel
theorem dX8_thing_1 : decode cX8_thing 1 = .ok (.aload_n 0, 1) := by decide +kernel
theorem dX8_thing_2 : decode cX8_thing 2 = .ok (.getfield 33, 3) := by decide +kernel
theorem dX8_thing_5 : decode cX8_thing 5 = .ok (.getfield 324, 3) := by decide +kernel
theorem dX8_thing_8 : decode cX8_thing 8 = .ok (.getfield 203, 3) := by decide +kernel
theorem dX8_thing_11 : decode cX8_thing 11 = .ok (.invokestatic 281, 3) := by decide +kernel
theorem dX8_thing_14 : decode cX8_thing 14 = .ok (.iload_n 2, 1) := by decide +kernel
theorem dX8_thing_15 : decode cX8_thing 15 = .ok (.iconst 0, 1) := by decide +kernel
theorem dX8_thing_16 : decode cX8_thing 16 = .ok (.iconst 3, 1) := by decide +kernel
theorem dX8_thing_17 : decode cX8_thing 17 = .ok (.invokestatic 55, 3) := by decide +kernel
theorem dX8_thing_20 : decode cX8_thing 20 = .ok (.invokestatic 59, 3) := by decide +kernel
theorem dX8_thing_23 : decode cX8_thing 23 = .ok (.aload_n 0, 1) := by decide +kernel
theorem dX8_thing_24 : decode cX8_thing 24 = .ok (.getfield 33, 3) := by decide +kernel
theorem dX8_thing_27 : decode cX8_thing 27 = .ok (.getfield 324, 3) := by decide +kernel
theorem dX8_thing_30 : decode cX8_thing 30 = .ok (.iload_n 1, 1) := by decide +kernel
theorem dX8_thing_31 : decode cX8_thing 31 = .ok (.iconst 0, 1) := by decide +kernel
theorem dX8_thing_32 : decode cX8_thing 32 = .ok (.invokevirtual 208, 3) := by decide +kernel
theorem dX8_thing_35 : decode cX8_thing 35 = .ok (.istore_n 3, 1) := by decide +kernel
theorem dX8_thing_36 : decode cX8_thing 36 = .ok (.iload_n 2, 1) := by decide +kernel
theorem dX8_thing_37 : decode cX8_thing 37 = .ok (.ifCond .ne 5, 3) := by decide +kernel
theorem dX8_thing_40 : decode cX8_thing 40 = .ok (.iload_n 3, 1) := by decide +kernel
theorem dX8_thing_41 : decode cX8_thing 41 = .ok (.ireturn, 1) := by decide +kernel
theorem dX8_thing_42 : decode cX8_thing 42 = .ok (.iload_n 3, 1) := by decide +kernel
theorem dX8_thing_43 : decode cX8_thing 43 = .ok (.ifCond .eq 5, 3) := by decide +kernel
theorem dX8_thing_46 : decode cX8_thing 46 = .ok (.iconst (-1), 1) := by decide +kernel
theorem dX8_thing_47 : decode cX8_thing 47 = .ok (.ireturn, 1) := by decide +kernel
theorem dX8_thing_48 : decode cX8_thing 48 = .ok (.aload_n 0, 1) := by decide +kernel
theorem dX8_thing_49 : decode cX8_thing 49 = .ok (.getfield 33, 3) := by decide +kernel
theorem dX8_thing_52 : decode cX8_thing 52 = .ok (.getfield 324, 3) := by decide +kernel
theorem dX8_thing_55 : decode cX8_thing 55 = .ok (.iload_n 1, 1) := by decide +kernel
theorem dX8_thing_56 : decode cX8_thing 56 = .ok (.iconst 2, 1) := by decide +kernel
theorem dX8_thing_57 : decode cX8_thing 57 = .ok (.invokevirtual 208, 3) := by decide +kernel
theorem dX8_thing_60 : decode cX8_thing 60 = .ok (.istore 4, 2) := by decide +kernel
theorem dX8_thing_62 : decode cX8_thing 62 = .ok (.iload_n 2, 1) := by decide +kernel
theorem dX8_thing_63 : decode cX8_thing 63 = .ok (.lookupswitch 41 #[(1, 25), (2, 38)], 25) := by decide +kernel
theorem dX8_thing_88 : decode cX8_thing 88 = .ok (.aload_n 0, 1) := by decide +kernel
theorem dX8_thing_89 : decode cX8_thing 89 = .ok (.getfield 33, 3) := by decide +kernel
theorem dX8_thing_92 : decode cX8_thing 92 = .ok (.getfield 324, 3) := by decide +kernel
theorem dX8_thing_95 : decode cX8_thing 95 = .ok (.iload_n 1, 1) := by decide +kernel
theorem dX8_thing_96 : decode cX8_thing 96 = .ok (.iconst 1, 1) := by decide +kernel
theorem dX8_thing_97 : decode cX8_thing 97 = .ok (.invokevirtual 208, 3) := by decide +kernel
theorem dX8_thing_100 : decode cX8_thing 100 = .ok (.ireturn, 1) := by decide +kernel
theorem dX8_thing_101 : decode cX8_thing 101 = .ok (.iload 4, 2) := by decide +kernel
theorem dX8_thing_103 : decode cX8_thing 103 = .ok (.ireturn, 1) := by decide +kernel
theorem dX8_thing_104 : decode cX8_thing 104 = .ok (.iload 4, 2) := by decide +kernel
theorem dX8_thing_106 : decode cX8_thing 106 = .ok (.aload_n 0, 1) := by decide +kernel
theorem dX8_thing_107 : decode cX8_thing 107 = .ok (.getfield 33, 3) := by decide +kernel
theorem dX8_thing_110 : decode cX8_thing 110 = .ok (.getfield 324, 3) := by decide +kernel
theorem dX8_thing_113 : decode cX8_thing 113 = .ok (.iload_n 1, 1) := by decide +kernel
theorem dX8_thing_114 : decode cX8_thing 114 = .ok (.iconst 3, 1) := by decide +kernel
theorem dX8_thing_115 : decode cX8_thing 115 = .ok (.invokevirtual 208, 3) := by decide +kernel
theorem dX8_thing_118 : decode cX8_thing 118 = .ok (.iadd, 1) := by decide +kernel
theorem dX8_thing_119 : decode cX8_thing 119 = .ok (.iconst 1, 1) := by decide +kernel
theorem dX8_thing_120 : decode cX8_thing 120 = .ok (.isub, 1) := by decide +kernel
theorem dX8_thing_121 : decode cX8_thing 121 = .ok (.ireturn, 1) := by decide +kernel
theorem dX8_metre_0 : decode cX8_metre 0 = .ok (.iload_n 1, 1) := by decide +kernel
theorem dX8_metre_1 : decode cX8_metre 1 = .ok (.aload_n 0, 1) := by decide +kernel
theorem dX8_metre_2 : decode cX8_metre 2 = .ok (.getfield 33, 3) := by decide +kernel
theorem dX8_metre_5 : decode cX8_metre 5 = .ok (.getfield 123, 3) := by decide +kernel
theorem dX8_metre_8 : decode cX8_metre 8 = .ok (.invokestatic 281, 3) := by decide +kernel
theorem dX8_metre_11 : decode cX8_metre 11 = .ok (.aload_n 0, 1) := by decide +kernel
theorem dX8_metre_12 : decode cX8_metre 12 = .ok (.getfield 33, 3) := by decide +kernel
theorem dX8_metre_15 : decode cX8_metre 15 = .ok (.iload_n 1, 1) := by decide +kernel
theorem dX8_metre_16 : decode cX8_metre 16 = .ok (.invokevirtual 327, 3) := by decide +kernel
theorem dX8_metre_19 : decode cX8_metre 19 = .ok (.ireturn, 1) := by decide +kernel
theorem dX8_metreAnew_0 : decode cX8_metreAnew 0 = .ok (.iload_n 1, 1) := by decide +kernel
theorem dX8_metreAnew_1 : decode cX8_metreAnew 1 = .ok (.aload_n 0, 1) := by decide +kernel
theorem dX8_metreAnew_2 : decode cX8_metreAnew 2 = .ok (.getfield 33, 3) := by decide +kernel
theorem dX8_metreAnew_5 : decode cX8_metreAnew 5 = .ok (.getfield 123, 3) := by decide +kernel
theorem dX8_metreAnew_8 : decode cX8_metreAnew 8 = .ok (.invokestatic 281, 3) := by decide +kernel
theorem dX8_metreAnew_11 : decode cX8_metreAnew 11 = .ok (.aload_n 0, 1) := by decide +kernel
theorem dX8_metreAnew_12 : decode cX8_metreAnew 12 = .ok (.getfield 33, 3) := by decide +kernel
theorem dX8_metreAnew_15 : decode cX8_metreAnew 15 = .ok (.iload_n 1, 1) := by decide +kernel
theorem dX8_metreAnew_16 : decode cX8_metreAnew 16 = .ok (.invokevirtual 330, 3) := by decide +kernel
theorem dX8_metreAnew_19 : decode cX8_metreAnew 19 = .ok (.ireturn, 1) := by decide +kernel
theorem dX8_margin_0 : decode cX8_margin 0 = .ok (.aload_n 0, 1) := by decide +kernel
theorem dX8_margin_1 : decode cX8_margin 1 = .ok (.invokevirtual 333, 3) := by decide +kernel
theorem dX8_margin_4 : decode cX8_margin 4 = .ok (.ireturn, 1) := by decide +kernel
theorem dX8_earth_0 : decode cX8_earth 0 = .ok (.aload_n 0, 1) := by decide +kernel
theorem dX8_earth_1 : decode cX8_earth 1 = .ok (.getfield 33, 3) := by decide +kernel
theorem dX8_earth_4 : decode cX8_earth 4 = .ok (.aload_n 0, 1) := by decide +kernel
theorem dX8_earth_5 : decode cX8_earth 5 = .ok (.getfield 226, 3) := by decide +kernel
theorem dX8_earth_8 : decode cX8_earth 8 = .ok (.invokevirtual 336, 3) := by decide +kernel
theorem dX8_earth_11 : decode cX8_earth 11 = .ok (.ireturn, 1) := by decide +kernel
theorem dX8_isFed_0 : decode cX8_isFed 0 = .ok (.aload_n 0, 1) := by decide +kernel
theorem dX8_isFed_1 : decode cX8_isFed 1 = .ok (.invokevirtual 339, 3) := by decide +kernel
theorem dX8_isFed_4 : decode cX8_isFed 4 = .ok (.ireturn, 1) := by decide +kernel
theorem dX8_works_0 : decode cX8_works 0 = .ok (.aload_n 0, 1) := by decide +kernel
theorem dX8_works_1 : decode cX8_works 1 = .ok (.invokevirtual 308, 3) := by decide +kernel
theorem dX8_works_4 : decode cX8_works 4 = .ok (.ireturn, 1) := by decide +kernel
theorem dX8_ofFault_0 : decode cX8_ofFault 0 = .ok (.iload_n 1, 1) := by decide +kernel
theorem dX8_ofFault_1 : decode cX8_ofFault 1 = .ok (.aload_n 0, 1) := by decide +kernel
theorem dX8_ofFault_2 : decode cX8_ofFault 2 = .ok (.getfield 40, 3) := by decide +kernel
theorem dX8_ofFault_5 : decode cX8_ofFault 5 = .ok (.invokevirtual 232, 3) := by decide +kernel
theorem dX8_ofFault_8 : decode cX8_ofFault 8 = .ok (.invokestatic 281, 3) := by decide +kernel
theorem dX8_ofFault_11 : decode cX8_ofFault 11 = .ok (.iload_n 2, 1) := by decide +kernel
theorem dX8_ofFault_12 : decode cX8_ofFault 12 = .ok (.iconst 0, 1) := by decide +kernel
theorem dX8_ofFault_13 : decode cX8_ofFault 13 = .ok (.iconst 2, 1) := by decide +kernel
theorem dX8_ofFault_14 : decode cX8_ofFault 14 = .ok (.invokestatic 55, 3) := by decide +kernel
theorem dX8_ofFault_17 : decode cX8_ofFault 17 = .ok (.invokestatic 59, 3) := by decide +kernel
theorem dX8_ofFault_20 : decode cX8_ofFault 20 = .ok (.aload_n 0, 1) := by decide +kernel
theorem dX8_ofFault_21 : decode cX8_ofFault 21 = .ok (.getfield 40, 3) := by decide +kernel
theorem dX8_ofFault_24 : decode cX8_ofFault 24 = .ok (.iload_n 1, 1) := by decide +kernel
theorem dX8_ofFault_25 : decode cX8_ofFault 25 = .ok (.iload_n 2, 1) := by decide +kernel
theorem dX8_ofFault_26 : decode cX8_ofFault 26 = .ok (.invokevirtual 342, 3) := by decide +kernel
theorem dX8_ofFault_29 : decode cX8_ofFault 29 = .ok (.ireturn, 1) := by decide +kernel
theorem dX8_faults_0 : decode cX8_faults 0 = .ok (.aload_n 0, 1) := by decide +kernel
theorem dX8_faults_1 : decode cX8_faults 1 = .ok (.getfield 40, 3) := by decide +kernel
theorem dX8_faults_4 : decode cX8_faults 4 = .ok (.invokevirtual 232, 3) := by decide +kernel
theorem dX8_faults_7 : decode cX8_faults 7 = .ok (.ireturn, 1) := by decide +kernel
theorem dX8_isKept_0 : decode cX8_isKept 0 = .ok (.iconst 0, 1) := by decide +kernel
theorem dX8_isKept_1 : decode cX8_isKept 1 = .ok (.istore_n 1, 1) := by decide +kernel
theorem dX8_isKept_2 : decode cX8_isKept 2 = .ok (.iconst 0, 1) := by decide +kernel
theorem dX8_isKept_3 : decode cX8_isKept 3 = .ok (.istore_n 2, 1) := by decide +kernel
theorem dX8_isKept_4 : decode cX8_isKept 4 = .ok (.iload_n 2, 1) := by decide +kernel
theorem dX8_isKept_5 : decode cX8_isKept 5 = .ok (.iconst 3, 1) := by decide +kernel
theorem dX8_isKept_6 : decode cX8_isKept 6 = .ok (.if_icmp .ge 20, 3) := by decide +kernel
theorem dX8_isKept_9 : decode cX8_isKept 9 = .ok (.iload_n 1, 1) := by decide +kernel
theorem dX8_isKept_10 : decode cX8_isKept 10 = .ok (.aload_n 0, 1) := by decide +kernel
theorem dX8_isKept_11 : decode cX8_isKept 11 = .ok (.getfield 26, 3) := by decide +kernel
theorem dX8_isKept_14 : decode cX8_isKept 14 = .ok (.iload_n 2, 1) := by decide +kernel
theorem dX8_isKept_15 : decode cX8_isKept 15 = .ok (.invokevirtual 314, 3) := by decide +kernel
theorem dX8_isKept_18 : decode cX8_isKept 18 = .ok (.iadd, 1) := by decide +kernel
theorem dX8_isKept_19 : decode cX8_isKept 19 = .ok (.istore_n 1, 1) := by decide +kernel
theorem dX8_isKept_20 : decode cX8_isKept 20 = .ok (.iinc 2 1, 3) := by decide +kernel
theorem dX8_isKept_23 : decode cX8_isKept 23 = .ok (.goto (-19), 3) := by decide +kernel
theorem dX8_isKept_26 : decode cX8_isKept 26 = .ok (.iload_n 1, 1) := by decide +kernel
theorem dX8_isKept_27 : decode cX8_isKept 27 = .ok (.aload_n 0, 1) := by decide +kernel
theorem dX8_isKept_28 : decode cX8_isKept 28 = .ok (.getfield 33, 3) := by decide +kernel
theorem dX8_isKept_31 : decode cX8_isKept 31 = .ok (.getfield 123, 3) := by decide +kernel
theorem dX8_isKept_34 : decode cX8_isKept 34 = .ok (.iadd, 1) := by decide +kernel
theorem dX8_isKept_35 : decode cX8_isKept 35 = .ok (.aload_n 0, 1) := by decide +kernel
theorem dX8_isKept_36 : decode cX8_isKept 36 = .ok (.getfield 135, 3) := by decide +kernel
theorem dX8_isKept_39 : decode cX8_isKept 39 = .ok (.iadd, 1) := by decide +kernel
theorem dX8_isKept_40 : decode cX8_isKept 40 = .ok (.aload_n 0, 1) := by decide +kernel
theorem dX8_isKept_41 : decode cX8_isKept 41 = .ok (.getfield 26, 3) := by decide +kernel
theorem dX8_isKept_44 : decode cX8_isKept 44 = .ok (.getfield 345, 3) := by decide +kernel
theorem dX8_isKept_47 : decode cX8_isKept 47 = .ok (.if_icmp .ne 7, 3) := by decide +kernel
theorem dX8_isKept_50 : decode cX8_isKept 50 = .ok (.iconst 1, 1) := by decide +kernel
theorem dX8_isKept_51 : decode cX8_isKept 51 = .ok (.goto 4, 3) := by decide +kernel
theorem dX8_isKept_54 : decode cX8_isKept 54 = .ok (.iconst 0, 1) := by decide +kernel
theorem dX8_isKept_55 : decode cX8_isKept 55 = .ok (.ireturn, 1) := by decide +kernel
theorem dX8_liesAtB_0 : decode cX8_liesAtB 0 = .ok (.aload_n 0, 1) := by decide +kernel
theorem dX8_liesAtB_1 : decode cX8_liesAtB 1 = .ok (.getfield 33, 3) := by decide +kernel
theorem dX8_liesAtB_4 : decode cX8_liesAtB 4 = .ok (.getfield 63, 3) := by decide +kernel
theorem dX8_liesAtB_7 : decode cX8_liesAtB 7 = .ok (.bipush 100, 2) := by decide +kernel
theorem dX8_liesAtB_9 : decode cX8_liesAtB 9 = .ok (.if_icmp .ne 7, 3) := by decide +kernel
theorem dX8_liesAtB_12 : decode cX8_liesAtB 12 = .ok (.iconst 1, 1) := by decide +kernel
theorem dX8_liesAtB_13 : decode cX8_liesAtB 13 = .ok (.goto 4, 3) := by decide +kernel
theorem dX8_liesAtB_16 : decode cX8_liesAtB 16 = .ok (.iconst 0, 1) := by decide +kernel
theorem dX8_liesAtB_17 : decode cX8_liesAtB 17 = .ok (.ireturn, 1) := by decide +kernel
theorem dX8_typeAt_0 : decode cX8_typeAt 0 = .ok (.aload_n 0, 1) := by decide +kernel
theorem dX8_typeAt_1 : decode cX8_typeAt 1 = .ok (.getfield 26, 3) := by decide +kernel
theorem dX8_typeAt_4 : decode cX8_typeAt 4 = .ok (.aload_n 0, 1) := by decide +kernel
theorem dX8_typeAt_5 : decode cX8_typeAt 5 = .ok (.getfield 33, 3) := by decide +kernel
theorem dX8_typeAt_8 : decode cX8_typeAt 8 = .ok (.iload_n 1, 1) := by decide +kernel
theorem dX8_typeAt_9 : decode cX8_typeAt 9 = .ok (.invokevirtual 348, 3) := by decide +kernel
theorem dX8_typeAt_12 : decode cX8_typeAt 12 = .ok (.invokevirtual 321, 3) := by decide +kernel
theorem dX8_typeAt_15 : decode cX8_typeAt 15 = .ok (.ireturn, 1) := by decide +kernel
theorem dX8_marginToday_0 : decode cX8_marginToday 0 = .ok (.aload_n 0, 1) := by decide +kernel
theorem dX8_marginToday_1 : decode cX8_marginToday 1 = .ok (.getfield 33, 3) := by decide +kernel
theorem dX8_marginToday_4 : decode cX8_marginToday 4 = .ok (.aload_n 0, 1) := by decide +kernel
theorem dX8_marginToday_5 : decode cX8_marginToday 5 = .ok (.getfield 19, 3) := by decide +kernel
theorem dX8_marginToday_8 : decode cX8_marginToday 8 = .ok (.getfield 93, 3) := by decide +kernel
theorem dX8_marginToday_11 : decode cX8_marginToday 11 = .ok (.sipush 365, 3) := by decide +kernel
theorem dX8_marginToday_14 : decode cX8_marginToday 14 = .ok (.idiv, 1) := by decide +kernel
theorem dX8_marginToday_15 : decode cX8_marginToday 15 = .ok (.invokevirtual 351, 3) := by decide +kernel
theorem dX8_marginToday_18 : decode cX8_marginToday 18 = .ok (.sipush 1500, 3) := by decide +kernel
theorem dX8_marginToday_21 : decode cX8_marginToday 21 = .ok (.isub, 1) := by decide +kernel
theorem dX8_marginToday_22 : decode cX8_marginToday 22 = .ok (.ireturn, 1) := by decide +kernel
theorem dX8_lineIsFed_0 : decode cX8_lineIsFed 0 = .ok (.aload_n 0, 1) := by decide +kernel
theorem dX8_lineIsFed_1 : decode cX8_lineIsFed 1 = .ok (.invokevirtual 116, 3) := by decide +kernel
theorem dX8_lineIsFed_4 : decode cX8_lineIsFed 4 = .ok (.ifCond .ne 5, 3) := by decide +kernel
theorem dX8_lineIsFed_7 : decode cX8_lineIsFed 7 = .ok (.iconst 0, 1) := by decide +kernel
theorem dX8_lineIsFed_8 : decode cX8_lineIsFed 8 = .ok (.ireturn, 1) := by decide +kernel
theorem dX8_lineIsFed_9 : decode cX8_lineIsFed 9 = .ok (.aload_n 0, 1) := by decide +kernel
theorem dX8_lineIsFed_10 : decode cX8_lineIsFed 10 = .ok (.getfield 40, 3) := by decide +kernel
theorem dX8_lineIsFed_13 : decode cX8_lineIsFed 13 = .ok (.invokevirtual 354, 3) := by decide +kernel
theorem dX8_lineIsFed_16 : decode cX8_lineIsFed 16 = .ok (.istore_n 1, 1) := by decide +kernel
theorem dX8_lineIsFed_17 : decode cX8_lineIsFed 17 = .ok (.iload_n 1, 1) := by decide +kernel
theorem dX8_lineIsFed_18 : decode cX8_lineIsFed 18 = .ok (.iconst (-1), 1) := by decide +kernel
theorem dX8_lineIsFed_19 : decode cX8_lineIsFed 19 = .ok (.if_icmp .ne 35, 3) := by decide +kernel
theorem dX8_lineIsFed_22 : decode cX8_lineIsFed 22 = .ok (.aload_n 0, 1) := by decide +kernel
theorem dX8_lineIsFed_23 : decode cX8_lineIsFed 23 = .ok (.getfield 33, 3) := by decide +kernel
theorem dX8_lineIsFed_26 : decode cX8_lineIsFed 26 = .ok (.aload_n 0, 1) := by decide +kernel
theorem dX8_lineIsFed_27 : decode cX8_lineIsFed 27 = .ok (.getfield 33, 3) := by decide +kernel
theorem dX8_lineIsFed_30 : decode cX8_lineIsFed 30 = .ok (.getfield 123, 3) := by decide +kernel
theorem dX8_lineIsFed_33 : decode cX8_lineIsFed 33 = .ok (.invokevirtual 357, 3) := by decide +kernel
theorem dX8_lineIsFed_36 : decode cX8_lineIsFed 36 = .ok (.aload_n 0, 1) := by decide +kernel
theorem dX8_lineIsFed_37 : decode cX8_lineIsFed 37 = .ok (.getfield 226, 3) := by decide +kernel
theorem dX8_lineIsFed_40 : decode cX8_lineIsFed 40 = .ok (.aload_n 0, 1) := by decide +kernel
theorem dX8_lineIsFed_41 : decode cX8_lineIsFed 41 = .ok (.getfield 229, 3) := by decide +kernel
theorem dX8_lineIsFed_44 : decode cX8_lineIsFed 44 = .ok (.iadd, 1) := by decide +kernel
theorem dX8_lineIsFed_45 : decode cX8_lineIsFed 45 = .ok (.if_icmp .gt 7, 3) := by decide +kernel
theorem dX8_lineIsFed_48 : decode cX8_lineIsFed 48 = .ok (.iconst 1, 1) := by decide +kernel
theorem dX8_lineIsFed_49 : decode cX8_lineIsFed 49 = .ok (.goto 4, 3) := by decide +kernel
theorem dX8_lineIsFed_52 : decode cX8_lineIsFed 52 = .ok (.iconst 0, 1) := by decide +kernel
theorem dX8_lineIsFed_53 : decode cX8_lineIsFed 53 = .ok (.ireturn, 1) := by decide +kernel
theorem dX8_lineIsFed_54 : decode cX8_lineIsFed 54 = .ok (.aload_n 0, 1) := by decide +kernel
theorem dX8_lineIsFed_55 : decode cX8_lineIsFed 55 = .ok (.getfield 33, 3) := by decide +kernel
theorem dX8_lineIsFed_58 : decode cX8_lineIsFed 58 = .ok (.iload_n 1, 1) := by decide +kernel
theorem dX8_lineIsFed_59 : decode cX8_lineIsFed 59 = .ok (.invokevirtual 357, 3) := by decide +kernel
theorem dX8_lineIsFed_62 : decode cX8_lineIsFed 62 = .ok (.aload_n 0, 1) := by decide +kernel
theorem dX8_lineIsFed_63 : decode cX8_lineIsFed 63 = .ok (.getfield 226, 3) := by decide +kernel
theorem dX8_lineIsFed_66 : decode cX8_lineIsFed 66 = .ok (.if_icmp .gt 28, 3) := by decide +kernel
theorem dX8_lineIsFed_69 : decode cX8_lineIsFed 69 = .ok (.aload_n 0, 1) := by decide +kernel
theorem dX8_lineIsFed_70 : decode cX8_lineIsFed 70 = .ok (.getfield 33, 3) := by decide +kernel
theorem dX8_lineIsFed_73 : decode cX8_lineIsFed 73 = .ok (.aload_n 0, 1) := by decide +kernel
theorem dX8_lineIsFed_74 : decode cX8_lineIsFed 74 = .ok (.getfield 40, 3) := by decide +kernel
theorem dX8_lineIsFed_77 : decode cX8_lineIsFed 77 = .ok (.invokevirtual 360, 3) := by decide +kernel
theorem dX8_lineIsFed_80 : decode cX8_lineIsFed 80 = .ok (.invokevirtual 363, 3) := by decide +kernel
theorem dX8_lineIsFed_83 : decode cX8_lineIsFed 83 = .ok (.aload_n 0, 1) := by decide +kernel
theorem dX8_lineIsFed_84 : decode cX8_lineIsFed 84 = .ok (.getfield 229, 3) := by decide +kernel
theorem dX8_lineIsFed_87 : decode cX8_lineIsFed 87 = .ok (.if_icmp .gt 7, 3) := by decide +kernel
theorem dX8_lineIsFed_90 : decode cX8_lineIsFed 90 = .ok (.iconst 1, 1) := by decide +kernel
theorem dX8_lineIsFed_91 : decode cX8_lineIsFed 91 = .ok (.goto 4, 3) := by decide +kernel
theorem dX8_lineIsFed_94 : decode cX8_lineIsFed 94 = .ok (.iconst 0, 1) := by decide +kernel
theorem dX8_lineIsFed_95 : decode cX8_lineIsFed 95 = .ok (.ireturn, 1) := by decide +kernel
theorem dX8_lineWorks_0 : decode cX8_lineWorks 0 = .ok (.aload_n 0, 1) := by decide +kernel
theorem dX8_lineWorks_1 : decode cX8_lineWorks 1 = .ok (.invokevirtual 116, 3) := by decide +kernel
theorem dX8_lineWorks_4 : decode cX8_lineWorks 4 = .ok (.ifCond .eq 31, 3) := by decide +kernel
theorem dX8_lineWorks_7 : decode cX8_lineWorks 7 = .ok (.aload_n 0, 1) := by decide +kernel
theorem dX8_lineWorks_8 : decode cX8_lineWorks 8 = .ok (.getfield 40, 3) := by decide +kernel
theorem dX8_lineWorks_11 : decode cX8_lineWorks 11 = .ok (.invokevirtual 366, 3) := by decide +kernel
theorem dX8_lineWorks_14 : decode cX8_lineWorks 14 = .ok (.ifCond .ne 21, 3) := by decide +kernel
theorem dX8_lineWorks_17 : decode cX8_lineWorks 17 = .ok (.aload_n 0, 1) := by decide +kernel
theorem dX8_lineWorks_18 : decode cX8_lineWorks 18 = .ok (.invokevirtual 339, 3) := by decide +kernel
theorem dX8_lineWorks_21 : decode cX8_lineWorks 21 = .ok (.ifCond .eq 14, 3) := by decide +kernel
theorem dX8_lineWorks_24 : decode cX8_lineWorks 24 = .ok (.aload_n 0, 1) := by decide +kernel
theorem dX8_lineWorks_25 : decode cX8_lineWorks 25 = .ok (.invokevirtual 333, 3) := by decide +kernel
theorem dX8_lineWorks_28 : decode cX8_lineWorks 28 = .ok (.ifCond .lt 7, 3) := by decide +kernel
theorem dX8_lineWorks_31 : decode cX8_lineWorks 31 = .ok (.iconst 1, 1) := by decide +kernel
theorem dX8_lineWorks_32 : decode cX8_lineWorks 32 = .ok (.goto 4, 3) := by decide +kernel
theorem dX8_lineWorks_35 : decode cX8_lineWorks 35 = .ok (.iconst 0, 1) := by decide +kernel
theorem dX8_lineWorks_36 : decode cX8_lineWorks 36 = .ok (.ireturn, 1) := by decide +kernel
theorem dX8_isIn_0 : decode cX8_isIn 0 = .ok (.iload_n 0, 1) := by decide +kernel
theorem dX8_isIn_1 : decode cX8_isIn 1 = .ok (.iload_n 1, 1) := by decide +kernel
theorem dX8_isIn_2 : decode cX8_isIn 2 = .ok (.if_icmp .lt 12, 3) := by decide +kernel
theorem dX8_isIn_5 : decode cX8_isIn 5 = .ok (.iload_n 0, 1) := by decide +kernel
theorem dX8_isIn_6 : decode cX8_isIn 6 = .ok (.iload_n 2, 1) := by decide +kernel
theorem dX8_isIn_7 : decode cX8_isIn 7 = .ok (.if_icmp .gt 7, 3) := by decide +kernel
theorem dX8_isIn_10 : decode cX8_isIn 10 = .ok (.iconst 1, 1) := by decide +kernel
theorem dX8_isIn_11 : decode cX8_isIn 11 = .ok (.goto 4, 3) := by decide +kernel
theorem dX8_isIn_14 : decode cX8_isIn 14 = .ok (.iconst 0, 1) := by decide +kernel
theorem dX8_isIn_15 : decode cX8_isIn 15 = .ok (.ireturn, 1) := by decide +kernel
theorem dX8_isCell_0 : decode cX8_isCell 0 = .ok (.iload_n 0, 1) := by decide +kernel
theorem dX8_isCell_1 : decode cX8_isCell 1 = .ok (.iconst 0, 1) := by decide +kernel
theorem dX8_isCell_2 : decode cX8_isCell 2 = .ok (.bipush 99, 2) := by decide +kernel
theorem dX8_isCell_4 : decode cX8_isCell 4 = .ok (.invokestatic 55, 3) := by decide +kernel
theorem dX8_isCell_7 : decode cX8_isCell 7 = .ok (.ireturn, 1) := by decide +kernel
theorem dX8_isTank_0 : decode cX8_isTank 0 = .ok (.iload_n 0, 1) := by decide +kernel
theorem dX8_isTank_1 : decode cX8_isTank 1 = .ok (.iconst 0, 1) := by decide +kernel
theorem dX8_isTank_2 : decode cX8_isTank 2 = .ok (.iconst 2, 1) := by decide +kernel
theorem dX8_isTank_3 : decode cX8_isTank 3 = .ok (.invokestatic 55, 3) := by decide +kernel
theorem dX8_isTank_6 : decode cX8_isTank 6 = .ok (.ireturn, 1) := by decide +kernel
theorem dX8_isType_0 : decode cX8_isType 0 = .ok (.iload_n 0, 1) := by decide +kernel
theorem dX8_isType_1 : decode cX8_isType 1 = .ok (.iconst 0, 1) := by decide +kernel
theorem dX8_isType_2 : decode cX8_isType 2 = .ok (.iconst 3, 1) := by decide +kernel
theorem dX8_isType_3 : decode cX8_isType 3 = .ok (.invokestatic 55, 3) := by decide +kernel
theorem dX8_isType_6 : decode cX8_isType 6 = .ok (.ireturn, 1) := by decide +kernel
theorem dX8_isPair_0 : decode cX8_isPair 0 = .ok (.iload_n 0, 1) := by decide +kernel
theorem dX8_isPair_1 : decode cX8_isPair 1 = .ok (.iconst 0, 1) := by decide +kernel
theorem dX8_isPair_2 : decode cX8_isPair 2 = .ok (.iconst 3, 1) := by decide +kernel
theorem dX8_isPair_3 : decode cX8_isPair 3 = .ok (.invokestatic 55, 3) := by decide +kernel
theorem dX8_isPair_6 : decode cX8_isPair 6 = .ok (.ifCond .eq 21, 3) := by decide +kernel
theorem dX8_isPair_9 : decode cX8_isPair 9 = .ok (.iload_n 1, 1) := by decide +kernel
theorem dX8_isPair_10 : decode cX8_isPair 10 = .ok (.iconst 0, 1) := by decide +kernel
theorem dX8_isPair_11 : decode cX8_isPair 11 = .ok (.iconst 3, 1) := by decide +kernel
theorem dX8_isPair_12 : decode cX8_isPair 12 = .ok (.invokestatic 55, 3) := by decide +kernel
theorem dX8_isPair_15 : decode cX8_isPair 15 = .ok (.ifCond .eq 12, 3) := by decide +kernel
theorem dX8_isPair_18 : decode cX8_isPair 18 = .ok (.iload_n 0, 1) := by decide +kernel
theorem dX8_isPair_19 : decode cX8_isPair 19 = .ok (.iload_n 1, 1) := by decide +kernel
theorem dX8_isPair_20 : decode cX8_isPair 20 = .ok (.if_icmp .eq 7, 3) := by decide +kernel
theorem dX8_isPair_23 : decode cX8_isPair 23 = .ok (.iconst 1, 1) := by decide +kernel
theorem dX8_isPair_24 : decode cX8_isPair 24 = .ok (.goto 4, 3) := by decide +kernel
theorem dX8_isPair_27 : decode cX8_isPair 27 = .ok (.iconst 0, 1) := by decide +kernel
theorem dX8_isPair_28 : decode cX8_isPair 28 = .ok (.ireturn, 1) := by decide +kernel
theorem dX8_needArgument_0 : decode cX8_needArgument 0 = .ok (.iload_n 0, 1) := by decide +kernel
theorem dX8_needArgument_1 : decode cX8_needArgument 1 = .ok (.ifCond .ne 14, 3) := by decide +kernel
theorem dX8_needArgument_4 : decode cX8_needArgument 4 = .ok (.new 369, 3) := by decide +kernel
theorem dX8_needArgument_7 : decode cX8_needArgument 7 = .ok (.dup, 1) := by decide +kernel
theorem dX8_needArgument_8 : decode cX8_needArgument 8 = .ok (.ldc_w 371, 3) := by decide +kernel
theorem dX8_needArgument_11 : decode cX8_needArgument 11 = .ok (.invokespecial 373, 3) := by decide +kernel
theorem dX8_needArgument_14 : decode cX8_needArgument 14 = .ok (.athrow, 1) := by decide +kernel
theorem dX8_needArgument_15 : decode cX8_needArgument 15 = .ok (.return_, 1) := by decide +kernel
theorem dX8_needState_0 : decode cX8_needState 0 = .ok (.iload_n 0, 1) := by decide +kernel
theorem dX8_needState_1 : decode cX8_needState 1 = .ok (.ifCond .ne 14, 3) := by decide +kernel
theorem dX8_needState_4 : decode cX8_needState 4 = .ok (.new 376, 3) := by decide +kernel
theorem dX8_needState_7 : decode cX8_needState 7 = .ok (.dup, 1) := by decide +kernel
theorem dX8_needState_8 : decode cX8_needState 8 = .ok (.ldc_w 378, 3) := by decide +kernel
theorem dX8_needState_11 : decode cX8_needState 11 = .ok (.invokespecial 380, 3) := by decide +kernel
theorem dX8_needState_14 : decode cX8_needState 14 = .ok (.athrow, 1) := by decide +kernel
theorem dX8_needState_15 : decode cX8_needState 15 = .ok (.return_, 1) := by decide +kernel
theorem dX8_needIndex_0 : decode cX8_needIndex 0 = .ok (.iload_n 0, 1) := by decide +kernel
theorem dX8_needIndex_1 : decode cX8_needIndex 1 = .ok (.ifCond .lt 8, 3) := by decide +kernel
theorem dX8_needIndex_4 : decode cX8_needIndex 4 = .ok (.iload_n 0, 1) := by decide +kernel
theorem dX8_needIndex_5 : decode cX8_needIndex 5 = .ok (.iload_n 1, 1) := by decide +kernel
theorem dX8_needIndex_6 : decode cX8_needIndex 6 = .ok (.if_icmp .lt 14, 3) := by decide +kernel
theorem dX8_needIndex_9 : decode cX8_needIndex 9 = .ok (.new 381, 3) := by decide +kernel
theorem dX8_needIndex_12 : decode cX8_needIndex 12 = .ok (.dup, 1) := by decide +kernel
theorem dX8_needIndex_13 : decode cX8_needIndex 13 = .ok (.ldc_w 383, 3) := by decide +kernel
theorem dX8_needIndex_16 : decode cX8_needIndex 16 = .ok (.invokespecial 385, 3) := by decide +kernel
theorem dX8_needIndex_19 : decode cX8_needIndex 19 = .ok (.athrow, 1) := by decide +kernel
theorem dX8_needIndex_20 : decode cX8_needIndex 20 = .ok (.return_, 1) := by decide +kernel
