theorem dL_sound_0 : decode cL_sound 0 = .ok (.aload 4, 2) := by decide +kernel
theorem dL_sound_2 : decode cL_sound 2 = .ok (.iconst 0, 1) := by decide +kernel
theorem dL_sound_3 : decode cL_sound 3 = .ok (.aload_n 0, 1) := by decide +kernel
theorem dL_sound_4 : decode cL_sound 4 = .ok (.iload_n 1, 1) := by decide +kernel
theorem dL_sound_5 : decode cL_sound 5 = .ok (.iload_n 2, 1) := by decide +kernel
theorem dL_sound_6 : decode cL_sound 6 = .ok (.iload_n 3, 1) := by decide +kernel
theorem dL_sound_7 : decode cL_sound 7 = .ok (.invokevirtual 7, 3) := by decide +kernel
theorem dL_sound_10 : decode cL_sound 10 = .ok (.i2l, 1) := by decide +kernel
theorem dL_sound_11 : decode cL_sound 11 = .ok (.lastore, 1) := by decide +kernel
theorem dL_sound_12 : decode cL_sound 12 = .ok (.goto 11, 3) := by decide +kernel
theorem dL_sound_15 : decode cL_sound 15 = .ok (.astore 5, 2) := by decide +kernel
theorem dL_sound_17 : decode cL_sound 17 = .ok (.iconst 1, 1) := by decide +kernel
theorem dL_sound_18 : decode cL_sound 18 = .ok (.ireturn, 1) := by decide +kernel
theorem dL_sound_19 : decode cL_sound 19 = .ok (.astore 5, 2) := by decide +kernel
theorem dL_sound_21 : decode cL_sound 21 = .ok (.iconst 2, 1) := by decide +kernel
theorem dL_sound_22 : decode cL_sound 22 = .ok (.ireturn, 1) := by decide +kernel
theorem dL_sound_23 : decode cL_sound 23 = .ok (.iconst 0, 1) := by decide +kernel
theorem dL_sound_24 : decode cL_sound 24 = .ok (.ireturn, 1) := by decide +kernel
theorem dL_wreck_0 : decode cL_wreck 0 = .ok (.aload_n 3, 1) := by decide +kernel
theorem dL_wreck_1 : decode cL_wreck 1 = .ok (.iconst 0, 1) := by decide +kernel
theorem dL_wreck_2 : decode cL_wreck 2 = .ok (.aload_n 0, 1) := by decide +kernel
theorem dL_wreck_3 : decode cL_wreck 3 = .ok (.iload_n 1, 1) := by decide +kernel
theorem dL_wreck_4 : decode cL_wreck 4 = .ok (.iload_n 2, 1) := by decide +kernel
theorem dL_wreck_5 : decode cL_wreck 5 = .ok (.invokevirtual 17, 3) := by decide +kernel
theorem dL_wreck_8 : decode cL_wreck 8 = .ok (.ifCond .eq 7, 3) := by decide +kernel
theorem dL_wreck_11 : decode cL_wreck 11 = .ok (.lconst 1, 1) := by decide +kernel
theorem dL_wreck_12 : decode cL_wreck 12 = .ok (.goto 4, 3) := by decide +kernel
theorem dL_wreck_15 : decode cL_wreck 15 = .ok (.lconst 0, 1) := by decide +kernel
theorem dL_wreck_16 : decode cL_wreck 16 = .ok (.lastore, 1) := by decide +kernel
theorem dL_wreck_17 : decode cL_wreck 17 = .ok (.goto 7, 3) := by decide +kernel
theorem dL_wreck_20 : decode cL_wreck 20 = .ok (.astore 4, 2) := by decide +kernel
theorem dL_wreck_22 : decode cL_wreck 22 = .ok (.iconst 1, 1) := by decide +kernel
theorem dL_wreck_23 : decode cL_wreck 23 = .ok (.ireturn, 1) := by decide +kernel
theorem dL_wreck_24 : decode cL_wreck 24 = .ok (.iconst 0, 1) := by decide +kernel
theorem dL_wreck_25 : decode cL_wreck 25 = .ok (.ireturn, 1) := by decide +kernel
theorem dL_crossing_0 : decode cL_crossing 0 = .ok (.aload_n 3, 1) := by decide +kernel
theorem dL_crossing_1 : decode cL_crossing 1 = .ok (.iconst 0, 1) := by decide +kernel
theorem dL_crossing_2 : decode cL_crossing 2 = .ok (.aload_n 0, 1) := by decide +kernel
theorem dL_crossing_3 : decode cL_crossing 3 = .ok (.iload_n 1, 1) := by decide +kernel
theorem dL_crossing_4 : decode cL_crossing 4 = .ok (.iload_n 2, 1) := by decide +kernel
theorem dL_crossing_5 : decode cL_crossing 5 = .ok (.invokevirtual 21, 3) := by decide +kernel
theorem dL_crossing_8 : decode cL_crossing 8 = .ok (.i2l, 1) := by decide +kernel
theorem dL_crossing_9 : decode cL_crossing 9 = .ok (.lastore, 1) := by decide +kernel
theorem dL_crossing_10 : decode cL_crossing 10 = .ok (.goto 7, 3) := by decide +kernel
theorem dL_crossing_13 : decode cL_crossing 13 = .ok (.astore 4, 2) := by decide +kernel
theorem dL_crossing_15 : decode cL_crossing 15 = .ok (.iconst 1, 1) := by decide +kernel
theorem dL_crossing_16 : decode cL_crossing 16 = .ok (.ireturn, 1) := by decide +kernel
theorem dL_crossing_17 : decode cL_crossing 17 = .ok (.iconst 0, 1) := by decide +kernel
theorem dL_crossing_18 : decode cL_crossing 18 = .ok (.ireturn, 1) := by decide +kernel
theorem dL_weather_0 : decode cL_weather 0 = .ok (.aload_n 2, 1) := by decide +kernel
theorem dL_weather_1 : decode cL_weather 1 = .ok (.iconst 0, 1) := by decide +kernel
theorem dL_weather_2 : decode cL_weather 2 = .ok (.aload_n 0, 1) := by decide +kernel
theorem dL_weather_3 : decode cL_weather 3 = .ok (.iload_n 1, 1) := by decide +kernel
theorem dL_weather_4 : decode cL_weather 4 = .ok (.invokevirtual 25, 3) := by decide +kernel
theorem dL_weather_7 : decode cL_weather 7 = .ok (.i2l, 1) := by decide +kernel
theorem dL_weather_8 : decode cL_weather 8 = .ok (.lastore, 1) := by decide +kernel
theorem dL_weather_9 : decode cL_weather 9 = .ok (.goto 9, 3) := by decide +kernel
theorem dL_weather_12 : decode cL_weather 12 = .ok (.astore_n 3, 1) := by decide +kernel
theorem dL_weather_13 : decode cL_weather 13 = .ok (.iconst 1, 1) := by decide +kernel
theorem dL_weather_14 : decode cL_weather 14 = .ok (.ireturn, 1) := by decide +kernel
theorem dL_weather_15 : decode cL_weather 15 = .ok (.astore_n 3, 1) := by decide +kernel
theorem dL_weather_16 : decode cL_weather 16 = .ok (.iconst 2, 1) := by decide +kernel
theorem dL_weather_17 : decode cL_weather 17 = .ok (.ireturn, 1) := by decide +kernel
theorem dL_weather_18 : decode cL_weather 18 = .ok (.iconst 0, 1) := by decide +kernel
theorem dL_weather_19 : decode cL_weather 19 = .ok (.ireturn, 1) := by decide +kernel
theorem dL_pass_0 : decode cL_pass 0 = .ok (.aload_n 2, 1) := by decide +kernel
theorem dL_pass_1 : decode cL_pass 1 = .ok (.iconst 0, 1) := by decide +kernel
theorem dL_pass_2 : decode cL_pass 2 = .ok (.aload_n 0, 1) := by decide +kernel
theorem dL_pass_3 : decode cL_pass 3 = .ok (.iload_n 1, 1) := by decide +kernel
theorem dL_pass_4 : decode cL_pass 4 = .ok (.invokevirtual 29, 3) := by decide +kernel
theorem dL_pass_7 : decode cL_pass 7 = .ok (.i2l, 1) := by decide +kernel
theorem dL_pass_8 : decode cL_pass 8 = .ok (.lastore, 1) := by decide +kernel
theorem dL_pass_9 : decode cL_pass 9 = .ok (.goto 9, 3) := by decide +kernel
theorem dL_pass_12 : decode cL_pass 12 = .ok (.astore_n 3, 1) := by decide +kernel
theorem dL_pass_13 : decode cL_pass 13 = .ok (.iconst 1, 1) := by decide +kernel
theorem dL_pass_14 : decode cL_pass 14 = .ok (.ireturn, 1) := by decide +kernel
theorem dL_pass_15 : decode cL_pass 15 = .ok (.astore_n 3, 1) := by decide +kernel
theorem dL_pass_16 : decode cL_pass 16 = .ok (.iconst 2, 1) := by decide +kernel
theorem dL_pass_17 : decode cL_pass 17 = .ok (.ireturn, 1) := by decide +kernel
theorem dL_pass_18 : decode cL_pass 18 = .ok (.iconst 0, 1) := by decide +kernel
theorem dL_pass_19 : decode cL_pass 19 = .ok (.ireturn, 1) := by decide +kernel
theorem dL_make_0 : decode cL_make 0 = .ok (.aload 4, 2) := by decide +kernel
theorem dL_make_2 : decode cL_make 2 = .ok (.iconst 0, 1) := by decide +kernel
theorem dL_make_3 : decode cL_make 3 = .ok (.aload_n 0, 1) := by decide +kernel
theorem dL_make_4 : decode cL_make 4 = .ok (.iload_n 1, 1) := by decide +kernel
theorem dL_make_5 : decode cL_make 5 = .ok (.iload_n 2, 1) := by decide +kernel
theorem dL_make_6 : decode cL_make 6 = .ok (.iload_n 3, 1) := by decide +kernel
theorem dL_make_7 : decode cL_make 7 = .ok (.invokevirtual 32, 3) := by decide +kernel
theorem dL_make_10 : decode cL_make 10 = .ok (.i2l, 1) := by decide +kernel
theorem dL_make_11 : decode cL_make 11 = .ok (.lastore, 1) := by decide +kernel
theorem dL_make_12 : decode cL_make 12 = .ok (.goto 11, 3) := by decide +kernel
theorem dL_make_15 : decode cL_make 15 = .ok (.astore 5, 2) := by decide +kernel
theorem dL_make_17 : decode cL_make 17 = .ok (.iconst 1, 1) := by decide +kernel
theorem dL_make_18 : decode cL_make 18 = .ok (.ireturn, 1) := by decide +kernel
theorem dL_make_19 : decode cL_make 19 = .ok (.astore 5, 2) := by decide +kernel
theorem dL_make_21 : decode cL_make 21 = .ok (.iconst 2, 1) := by decide +kernel
theorem dL_make_22 : decode cL_make 22 = .ok (.ireturn, 1) := by decide +kernel
theorem dL_make_23 : decode cL_make 23 = .ok (.iconst 0, 1) := by decide +kernel
theorem dL_make_24 : decode cL_make 24 = .ok (.ireturn, 1) := by decide +kernel
theorem dL_lay_0 : decode cL_lay 0 = .ok (.aload 4, 2) := by decide +kernel
theorem dL_lay_2 : decode cL_lay 2 = .ok (.iconst 0, 1) := by decide +kernel
theorem dL_lay_3 : decode cL_lay 3 = .ok (.aload_n 0, 1) := by decide +kernel
theorem dL_lay_4 : decode cL_lay 4 = .ok (.iload_n 1, 1) := by decide +kernel
theorem dL_lay_5 : decode cL_lay 5 = .ok (.iload_n 2, 1) := by decide +kernel
theorem dL_lay_6 : decode cL_lay 6 = .ok (.iload_n 3, 1) := by decide +kernel
theorem dL_lay_7 : decode cL_lay 7 = .ok (.invokevirtual 35, 3) := by decide +kernel
theorem dL_lay_10 : decode cL_lay 10 = .ok (.i2l, 1) := by decide +kernel
theorem dL_lay_11 : decode cL_lay 11 = .ok (.lastore, 1) := by decide +kernel
theorem dL_lay_12 : decode cL_lay 12 = .ok (.goto 11, 3) := by decide +kernel
theorem dL_lay_15 : decode cL_lay 15 = .ok (.astore 5, 2) := by decide +kernel
theorem dL_lay_17 : decode cL_lay 17 = .ok (.iconst 1, 1) := by decide +kernel
theorem dL_lay_18 : decode cL_lay 18 = .ok (.ireturn, 1) := by decide +kernel
theorem dL_lay_19 : decode cL_lay 19 = .ok (.astore 5, 2) := by decide +kernel
theorem dL_lay_21 : decode cL_lay 21 = .ok (.iconst 2, 1) := by decide +kernel
theorem dL_lay_22 : decode cL_lay 22 = .ok (.ireturn, 1) := by decide +kernel
theorem dL_lay_23 : decode cL_lay 23 = .ok (.iconst 0, 1) := by decide +kernel
theorem dL_lay_24 : decode cL_lay 24 = .ok (.ireturn, 1) := by decide +kernel
theorem dL_repeater_0 : decode cL_repeater 0 = .ok (.aload_n 1, 1) := by decide +kernel
theorem dL_repeater_1 : decode cL_repeater 1 = .ok (.iconst 0, 1) := by decide +kernel
theorem dL_repeater_2 : decode cL_repeater 2 = .ok (.aload_n 0, 1) := by decide +kernel
theorem dL_repeater_3 : decode cL_repeater 3 = .ok (.invokevirtual 38, 3) := by decide +kernel
theorem dL_repeater_6 : decode cL_repeater 6 = .ok (.i2l, 1) := by decide +kernel
theorem dL_repeater_7 : decode cL_repeater 7 = .ok (.lastore, 1) := by decide +kernel
theorem dL_repeater_8 : decode cL_repeater 8 = .ok (.goto 6, 3) := by decide +kernel
theorem dL_repeater_11 : decode cL_repeater 11 = .ok (.astore_n 2, 1) := by decide +kernel
theorem dL_repeater_12 : decode cL_repeater 12 = .ok (.iconst 1, 1) := by decide +kernel
theorem dL_repeater_13 : decode cL_repeater 13 = .ok (.ireturn, 1) := by decide +kernel
theorem dL_repeater_14 : decode cL_repeater 14 = .ok (.iconst 0, 1) := by decide +kernel
theorem dL_repeater_15 : decode cL_repeater 15 = .ok (.ireturn, 1) := by decide +kernel
theorem dL_takeUp_0 : decode cL_takeUp 0 = .ok (.aload_n 2, 1) := by decide +kernel
theorem dL_takeUp_1 : decode cL_takeUp 1 = .ok (.iconst 0, 1) := by decide +kernel
theorem dL_takeUp_2 : decode cL_takeUp 2 = .ok (.aload_n 0, 1) := by decide +kernel
theorem dL_takeUp_3 : decode cL_takeUp 3 = .ok (.iload_n 1, 1) := by decide +kernel
theorem dL_takeUp_4 : decode cL_takeUp 4 = .ok (.invokevirtual 42, 3) := by decide +kernel
theorem dL_takeUp_7 : decode cL_takeUp 7 = .ok (.i2l, 1) := by decide +kernel
theorem dL_takeUp_8 : decode cL_takeUp 8 = .ok (.lastore, 1) := by decide +kernel
theorem dL_takeUp_9 : decode cL_takeUp 9 = .ok (.goto 9, 3) := by decide +kernel
theorem dL_takeUp_12 : decode cL_takeUp 12 = .ok (.astore_n 3, 1) := by decide +kernel
theorem dL_takeUp_13 : decode cL_takeUp 13 = .ok (.iconst 1, 1) := by decide +kernel
theorem dL_takeUp_14 : decode cL_takeUp 14 = .ok (.ireturn, 1) := by decide +kernel
theorem dL_takeUp_15 : decode cL_takeUp 15 = .ok (.astore_n 3, 1) := by decide +kernel
theorem dL_takeUp_16 : decode cL_takeUp 16 = .ok (.iconst 2, 1) := by decide +kernel
theorem dL_takeUp_17 : decode cL_takeUp 17 = .ok (.ireturn, 1) := by decide +kernel
theorem dL_takeUp_18 : decode cL_takeUp 18 = .ok (.iconst 0, 1) := by decide +kernel
theorem dL_takeUp_19 : decode cL_takeUp 19 = .ok (.ireturn, 1) := by decide +kernel
theorem dL_feed_0 : decode cL_feed 0 = .ok (.aload_n 0, 1) := by decide +kernel
theorem dL_feed_1 : decode cL_feed 1 = .ok (.iload_n 1, 1) := by decide +kernel
theorem dL_feed_2 : decode cL_feed 2 = .ok (.iload_n 2, 1) := by decide +kernel
theorem dL_feed_3 : decode cL_feed 3 = .ok (.invokevirtual 45, 3) := by decide +kernel
theorem dL_feed_6 : decode cL_feed 6 = .ok (.goto 6, 3) := by decide +kernel
theorem dL_feed_9 : decode cL_feed 9 = .ok (.astore_n 3, 1) := by decide +kernel
theorem dL_feed_10 : decode cL_feed 10 = .ok (.iconst 1, 1) := by decide +kernel
theorem dL_feed_11 : decode cL_feed 11 = .ok (.ireturn, 1) := by decide +kernel
theorem dL_feed_12 : decode cL_feed 12 = .ok (.iconst 0, 1) := by decide +kernel
theorem dL_feed_13 : decode cL_feed 13 = .ok (.ireturn, 1) := by decide +kernel
theorem dL_fault_0 : decode cL_fault 0 = .ok (.aload_n 3, 1) := by decide +kernel
theorem dL_fault_1 : decode cL_fault 1 = .ok (.iconst 0, 1) := by decide +kernel
theorem dL_fault_2 : decode cL_fault 2 = .ok (.aload_n 0, 1) := by decide +kernel
theorem dL_fault_3 : decode cL_fault 3 = .ok (.iload_n 1, 1) := by decide +kernel
theorem dL_fault_4 : decode cL_fault 4 = .ok (.iload_n 2, 1) := by decide +kernel
theorem dL_fault_5 : decode cL_fault 5 = .ok (.invokevirtual 49, 3) := by decide +kernel
theorem dL_fault_8 : decode cL_fault 8 = .ok (.i2l, 1) := by decide +kernel
theorem dL_fault_9 : decode cL_fault 9 = .ok (.lastore, 1) := by decide +kernel
theorem dL_fault_10 : decode cL_fault 10 = .ok (.goto 11, 3) := by decide +kernel
theorem dL_fault_13 : decode cL_fault 13 = .ok (.astore 4, 2) := by decide +kernel
theorem dL_fault_15 : decode cL_fault 15 = .ok (.iconst 1, 1) := by decide +kernel
theorem dL_fault_16 : decode cL_fault 16 = .ok (.ireturn, 1) := by decide +kernel
theorem dL_fault_17 : decode cL_fault 17 = .ok (.astore 4, 2) := by decide +kernel
theorem dL_fault_19 : decode cL_fault 19 = .ok (.iconst 2, 1) := by decide +kernel
theorem dL_fault_20 : decode cL_fault 20 = .ok (.ireturn, 1) := by decide +kernel
theorem dL_fault_21 : decode cL_fault 21 = .ok (.iconst 0, 1) := by decide +kernel
theorem dL_fault_22 : decode cL_fault 22 = .ok (.ireturn, 1) := by decide +kernel
theorem dL_net_0 : decode cL_net 0 = .ok (.aload_n 2, 1) := by decide +kernel
theorem dL_net_1 : decode cL_net 1 = .ok (.iconst 0, 1) := by decide +kernel
theorem dL_net_2 : decode cL_net 2 = .ok (.aload_n 0, 1) := by decide +kernel
theorem dL_net_3 : decode cL_net 3 = .ok (.iload_n 1, 1) := by decide +kernel
theorem dL_net_4 : decode cL_net 4 = .ok (.invokevirtual 52, 3) := by decide +kernel
theorem dL_net_7 : decode cL_net 7 = .ok (.ifCond .eq 7, 3) := by decide +kernel
theorem dL_net_10 : decode cL_net 10 = .ok (.lconst 1, 1) := by decide +kernel
theorem dL_net_11 : decode cL_net 11 = .ok (.goto 4, 3) := by decide +kernel
theorem dL_net_14 : decode cL_net 14 = .ok (.lconst 0, 1) := by decide +kernel
theorem dL_net_15 : decode cL_net 15 = .ok (.lastore, 1) := by decide +kernel
theorem dL_net_16 : decode cL_net 16 = .ok (.goto 9, 3) := by decide +kernel
theorem dL_net_19 : decode cL_net 19 = .ok (.astore_n 3, 1) := by decide +kernel
theorem dL_net_20 : decode cL_net 20 = .ok (.iconst 1, 1) := by decide +kernel
theorem dL_net_21 : decode cL_net 21 = .ok (.ireturn, 1) := by decide +kernel
theorem dL_net_22 : decode cL_net 22 = .ok (.astore_n 3, 1) := by decide +kernel
theorem dL_net_23 : decode cL_net 23 = .ok (.iconst 2, 1) := by decide +kernel
theorem dL_net_24 : decode cL_net 24 = .ok (.ireturn, 1) := by decide +kernel
theorem dL_net_25 : decode cL_net 25 = .ok (.iconst 0, 1) := by decide +kernel
theorem dL_net_26 : decode cL_net 26 = .ok (.ireturn, 1) := by decide +kernel
theorem dL_measure_0 : decode cL_measure 0 = .ok (.aload 4, 2) := by decide +kernel
theorem dL_measure_2 : decode cL_measure 2 = .ok (.iconst 0, 1) := by decide +kernel
theorem dL_measure_3 : decode cL_measure 3 = .ok (.aload_n 0, 1) := by decide +kernel
theorem dL_measure_4 : decode cL_measure 4 = .ok (.iload_n 1, 1) := by decide +kernel
theorem dL_measure_5 : decode cL_measure 5 = .ok (.iload_n 2, 1) := by decide +kernel
theorem dL_measure_6 : decode cL_measure 6 = .ok (.iload_n 3, 1) := by decide +kernel
theorem dL_measure_7 : decode cL_measure 7 = .ok (.invokevirtual 56, 3) := by decide +kernel
theorem dL_measure_10 : decode cL_measure 10 = .ok (.i2l, 1) := by decide +kernel
theorem dL_measure_11 : decode cL_measure 11 = .ok (.lastore, 1) := by decide +kernel
theorem dL_measure_12 : decode cL_measure 12 = .ok (.goto 11, 3) := by decide +kernel
theorem dL_measure_15 : decode cL_measure 15 = .ok (.astore 5, 2) := by decide +kernel
theorem dL_measure_17 : decode cL_measure 17 = .ok (.iconst 1, 1) := by decide +kernel
theorem dL_measure_18 : decode cL_measure 18 = .ok (.ireturn, 1) := by decide +kernel
theorem dL_measure_19 : decode cL_measure 19 = .ok (.astore 5, 2) := by decide +kernel
theorem dL_measure_21 : decode cL_measure 21 = .ok (.iconst 2, 1) := by decide +kernel
theorem dL_measure_22 : decode cL_measure 22 = .ok (.ireturn, 1) := by decide +kernel
theorem dL_measure_23 : decode cL_measure 23 = .ok (.iconst 0, 1) := by decide +kernel
theorem dL_measure_24 : decode cL_measure 24 = .ok (.ireturn, 1) := by decide +kernel
theorem dL_mend_0 : decode cL_mend 0 = .ok (.aload_n 3, 1) := by decide +kernel
theorem dL_mend_1 : decode cL_mend 1 = .ok (.iconst 0, 1) := by decide +kernel
theorem dL_mend_2 : decode cL_mend 2 = .ok (.aload_n 0, 1) := by decide +kernel
theorem dL_mend_3 : decode cL_mend 3 = .ok (.iload_n 1, 1) := by decide +kernel
theorem dL_mend_4 : decode cL_mend 4 = .ok (.iload_n 2, 1) := by decide +kernel
theorem dL_mend_5 : decode cL_mend 5 = .ok (.invokevirtual 60, 3) := by decide +kernel
theorem dL_mend_8 : decode cL_mend 8 = .ok (.i2l, 1) := by decide +kernel
theorem dL_mend_9 : decode cL_mend 9 = .ok (.lastore, 1) := by decide +kernel
theorem dL_mend_10 : decode cL_mend 10 = .ok (.goto 11, 3) := by decide +kernel
theorem dL_mend_13 : decode cL_mend 13 = .ok (.astore 4, 2) := by decide +kernel
theorem dL_mend_15 : decode cL_mend 15 = .ok (.iconst 1, 1) := by decide +kernel
theorem dL_mend_16 : decode cL_mend 16 = .ok (.ireturn, 1) := by decide +kernel
theorem dL_mend_17 : decode cL_mend 17 = .ok (.astore 4, 2) := by decide +kernel
theorem dL_mend_19 : decode cL_mend 19 = .ok (.iconst 2, 1) := by decide +kernel
theorem dL_mend_20 : decode cL_mend 20 = .ok (.ireturn, 1) := by decide +kernel
theorem dL_mend_21 : decode cL_mend 21 = .ok (.iconst 0, 1) := by decide +kernel
theorem dL_mend_22 : decode cL_mend 22 = .ok (.ireturn, 1) := by decide +kernel
theorem dL_link_0 : decode cL_link 0 = .ok (.aload 4, 2) := by decide +kernel
theorem dL_link_2 : decode cL_link 2 = .ok (.iconst 0, 1) := by decide +kernel
theorem dL_link_3 : decode cL_link 3 = .ok (.aload_n 0, 1) := by decide +kernel
theorem dL_link_4 : decode cL_link 4 = .ok (.iload_n 1, 1) := by decide +kernel
theorem dL_link_5 : decode cL_link 5 = .ok (.iload_n 2, 1) := by decide +kernel
theorem dL_link_6 : decode cL_link 6 = .ok (.iload_n 3, 1) := by decide +kernel
theorem dL_link_7 : decode cL_link 7 = .ok (.invokevirtual 63, 3) := by decide +kernel
theorem dL_link_10 : decode cL_link 10 = .ok (.i2l, 1) := by decide +kernel
theorem dL_link_11 : decode cL_link 11 = .ok (.lastore, 1) := by decide +kernel
theorem dL_link_12 : decode cL_link 12 = .ok (.goto 11, 3) := by decide +kernel
theorem dL_link_15 : decode cL_link 15 = .ok (.astore 5, 2) := by decide +kernel
theorem dL_link_17 : decode cL_link 17 = .ok (.iconst 1, 1) := by decide +kernel
theorem dL_link_18 : decode cL_link 18 = .ok (.ireturn, 1) := by decide +kernel
theorem dL_link_19 : decode cL_link 19 = .ok (.astore 5, 2) := by decide +kernel
theorem dL_link_21 : decode cL_link 21 = .ok (.iconst 2, 1) := by decide +kernel
theorem dL_link_22 : decode cL_link 22 = .ok (.ireturn, 1) := by decide +kernel
theorem dL_link_23 : decode cL_link 23 = .ok (.iconst 0, 1) := by decide +kernel
theorem dL_link_24 : decode cL_link 24 = .ok (.ireturn, 1) := by decide +kernel
theorem dL_dead_0 : decode cL_dead 0 = .ok (.aload_n 3, 1) := by decide +kernel
theorem dL_dead_1 : decode cL_dead 1 = .ok (.iconst 0, 1) := by decide +kernel
theorem dL_dead_2 : decode cL_dead 2 = .ok (.aload_n 0, 1) := by decide +kernel
theorem dL_dead_3 : decode cL_dead 3 = .ok (.iload_n 1, 1) := by decide +kernel
theorem dL_dead_4 : decode cL_dead 4 = .ok (.iload_n 2, 1) := by decide +kernel
theorem dL_dead_5 : decode cL_dead 5 = .ok (.invokevirtual 66, 3) := by decide +kernel
theorem dL_dead_8 : decode cL_dead 8 = .ok (.ifCond .eq 7, 3) := by decide +kernel
theorem dL_dead_11 : decode cL_dead 11 = .ok (.lconst 1, 1) := by decide +kernel
theorem dL_dead_12 : decode cL_dead 12 = .ok (.goto 4, 3) := by decide +kernel
theorem dL_dead_15 : decode cL_dead 15 = .ok (.lconst 0, 1) := by decide +kernel
theorem dL_dead_16 : decode cL_dead 16 = .ok (.lastore, 1) := by decide +kernel
theorem dL_dead_17 : decode cL_dead 17 = .ok (.goto 11, 3) := by decide +kernel
theorem dL_dead_20 : decode cL_dead 20 = .ok (.astore 4, 2) := by decide +kernel
theorem dL_dead_22 : decode cL_dead 22 = .ok (.iconst 1, 1) := by decide +kernel
theorem dL_dead_23 : decode cL_dead 23 = .ok (.ireturn, 1) := by decide +kernel
theorem dL_dead_24 : decode cL_dead 24 = .ok (.astore 4, 2) := by decide +kernel
theorem dL_dead_26 : decode cL_dead 26 = .ok (.iconst 2, 1) := by decide +kernel
theorem dL_dead_27 : decode cL_dead 27 = .ok (.ireturn, 1) := by decide +kernel
theorem dL_dead_28 : decode cL_dead 28 = .ok (.iconst 0, 1) := by decide +kernel
theorem dL_dead_29 : decode cL_dead 29 = .ok (.ireturn, 1) := by decide +kernel
theorem dL_demand_0 : decode cL_demand 0 = .ok (.aload 4, 2) := by decide +kernel
theorem dL_demand_2 : decode cL_demand 2 = .ok (.iconst 0, 1) := by decide +kernel
theorem dL_demand_3 : decode cL_demand 3 = .ok (.aload_n 0, 1) := by decide +kernel
theorem dL_demand_4 : decode cL_demand 4 = .ok (.iload_n 1, 1) := by decide +kernel
theorem dL_demand_5 : decode cL_demand 5 = .ok (.iload_n 2, 1) := by decide +kernel
theorem dL_demand_6 : decode cL_demand 6 = .ok (.iload_n 3, 1) := by decide +kernel
theorem dL_demand_7 : decode cL_demand 7 = .ok (.invokevirtual 71, 3) := by decide +kernel
theorem dL_demand_10 : decode cL_demand 10 = .ok (.i2l, 1) := by decide +kernel
theorem dL_demand_11 : decode cL_demand 11 = .ok (.lastore, 1) := by decide +kernel
theorem dL_demand_12 : decode cL_demand 12 = .ok (.goto 11, 3) := by decide +kernel
theorem dL_demand_15 : decode cL_demand 15 = .ok (.astore 5, 2) := by decide +kernel
theorem dL_demand_17 : decode cL_demand 17 = .ok (.iconst 1, 1) := by decide +kernel
theorem dL_demand_18 : decode cL_demand 18 = .ok (.ireturn, 1) := by decide +kernel
theorem dL_demand_19 : decode cL_demand 19 = .ok (.astore 5, 2) := by decide +kernel
theorem dL_demand_21 : decode cL_demand 21 = .ok (.iconst 2, 1) := by decide +kernel
theorem dL_demand_22 : decode cL_demand 22 = .ok (.ireturn, 1) := by decide +kernel
theorem dL_demand_23 : decode cL_demand 23 = .ok (.iconst 0, 1) := by decide +kernel
theorem dL_demand_24 : decode cL_demand 24 = .ok (.ireturn, 1) := by decide +kernel
theorem dL_way_0 : decode cL_way 0 = .ok (.aload_n 2, 1) := by decide +kernel
theorem dL_way_1 : decode cL_way 1 = .ok (.iconst 0, 1) := by decide +kernel
theorem dL_way_2 : decode cL_way 2 = .ok (.aload_n 0, 1) := by decide +kernel
theorem dL_way_3 : decode cL_way 3 = .ok (.iload_n 1, 1) := by decide +kernel
theorem dL_way_4 : decode cL_way 4 = .ok (.invokevirtual 74, 3) := by decide +kernel
theorem dL_way_7 : decode cL_way 7 = .ok (.i2l, 1) := by decide +kernel
theorem dL_way_8 : decode cL_way 8 = .ok (.lastore, 1) := by decide +kernel
theorem dL_way_9 : decode cL_way 9 = .ok (.goto 6, 3) := by decide +kernel
theorem dL_way_12 : decode cL_way 12 = .ok (.astore_n 3, 1) := by decide +kernel
theorem dL_way_13 : decode cL_way 13 = .ok (.iconst 1, 1) := by decide +kernel
theorem dL_way_14 : decode cL_way 14 = .ok (.ireturn, 1) := by decide +kernel
theorem dL_way_15 : decode cL_way 15 = .ok (.iconst 0, 1) := by decide +kernel
theorem dL_way_16 : decode cL_way 16 = .ok (.ireturn, 1) := by decide +kernel
theorem dL_isLit_0 : decode cL_isLit 0 = .ok (.aload_n 2, 1) := by decide +kernel
theorem dL_isLit_1 : decode cL_isLit 1 = .ok (.iconst 0, 1) := by decide +kernel
theorem dL_isLit_2 : decode cL_isLit 2 = .ok (.aload_n 0, 1) := by decide +kernel
theorem dL_isLit_3 : decode cL_isLit 3 = .ok (.iload_n 1, 1) := by decide +kernel
theorem dL_isLit_4 : decode cL_isLit 4 = .ok (.invokevirtual 77, 3) := by decide +kernel
theorem dL_isLit_7 : decode cL_isLit 7 = .ok (.ifCond .eq 7, 3) := by decide +kernel
theorem dL_isLit_10 : decode cL_isLit 10 = .ok (.lconst 1, 1) := by decide +kernel
theorem dL_isLit_11 : decode cL_isLit 11 = .ok (.goto 4, 3) := by decide +kernel
theorem dL_isLit_14 : decode cL_isLit 14 = .ok (.lconst 0, 1) := by decide +kernel
theorem dL_isLit_15 : decode cL_isLit 15 = .ok (.lastore, 1) := by decide +kernel
theorem dL_isLit_16 : decode cL_isLit 16 = .ok (.goto 6, 3) := by decide +kernel
theorem dL_isLit_19 : decode cL_isLit 19 = .ok (.astore_n 3, 1) := by decide +kernel
theorem dL_isLit_20 : decode cL_isLit 20 = .ok (.iconst 1, 1) := by decide +kernel
theorem dL_isLit_21 : decode cL_isLit 21 = .ok (.ireturn, 1) := by decide +kernel
theorem dL_isLit_22 : decode cL_isLit 22 = .ok (.iconst 0, 1) := by decide +kernel
theorem dL_isLit_23 : decode cL_isLit 23 = .ok (.ireturn, 1) := by decide +kernel
theorem dL_cell_0 : decode cL_cell 0 = .ok (.aload_n 3, 1) := by decide +kernel
theorem dL_cell_1 : decode cL_cell 1 = .ok (.iconst 0, 1) := by decide +kernel
theorem dL_cell_2 : decode cL_cell 2 = .ok (.aload_n 0, 1) := by decide +kernel
theorem dL_cell_3 : decode cL_cell 3 = .ok (.iload_n 1, 1) := by decide +kernel
theorem dL_cell_4 : decode cL_cell 4 = .ok (.iload_n 2, 1) := by decide +kernel
theorem dL_cell_5 : decode cL_cell 5 = .ok (.invokevirtual 80, 3) := by decide +kernel
theorem dL_cell_8 : decode cL_cell 8 = .ok (.i2l, 1) := by decide +kernel
theorem dL_cell_9 : decode cL_cell 9 = .ok (.lastore, 1) := by decide +kernel
theorem dL_cell_10 : decode cL_cell 10 = .ok (.goto 7, 3) := by decide +kernel
theorem dL_cell_13 : decode cL_cell 13 = .ok (.astore 4, 2) := by decide +kernel
theorem dL_cell_15 : decode cL_cell 15 = .ok (.iconst 1, 1) := by decide +kernel
theorem dL_cell_16 : decode cL_cell 16 = .ok (.ireturn, 1) := by decide +kernel
theorem dL_cell_17 : decode cL_cell 17 = .ok (.iconst 0, 1) := by decide +kernel
theorem dL_cell_18 : decode cL_cell 18 = .ok (.ireturn, 1) := by decide +kernel
theorem dL_tension_0 : decode cL_tension 0 = .ok (.aload_n 3, 1) := by decide +kernel
theorem dL_tension_1 : decode cL_tension 1 = .ok (.iconst 0, 1) := by decide +kernel
theorem dL_tension_2 : decode cL_tension 2 = .ok (.aload_n 0, 1) := by decide +kernel
theorem dL_tension_3 : decode cL_tension 3 = .ok (.iload_n 1, 1) := by decide +kernel
theorem dL_tension_4 : decode cL_tension 4 = .ok (.iload_n 2, 1) := by decide +kernel
theorem dL_tension_5 : decode cL_tension 5 = .ok (.invokevirtual 83, 3) := by decide +kernel
theorem dL_tension_8 : decode cL_tension 8 = .ok (.i2l, 1) := by decide +kernel
theorem dL_tension_9 : decode cL_tension 9 = .ok (.lastore, 1) := by decide +kernel
theorem dL_tension_10 : decode cL_tension 10 = .ok (.goto 7, 3) := by decide +kernel
theorem dL_tension_13 : decode cL_tension 13 = .ok (.astore 4, 2) := by decide +kernel
theorem dL_tension_15 : decode cL_tension 15 = .ok (.iconst 1, 1) := by decide +kernel
theorem dL_tension_16 : decode cL_tension 16 = .ok (.ireturn, 1) := by decide +kernel
theorem dL_tension_17 : decode cL_tension 17 = .ok (.iconst 0, 1) := by decide +kernel
theorem dL_tension_18 : decode cL_tension 18 = .ok (.ireturn, 1) := by decide +kernel
theorem dL_tank_0 : decode cL_tank 0 = .ok (.aload_n 3, 1) := by decide +kernel
theorem dL_tank_1 : decode cL_tank 1 = .ok (.iconst 0, 1) := by decide +kernel
theorem dL_tank_2 : decode cL_tank 2 = .ok (.aload_n 0, 1) := by decide +kernel
theorem dL_tank_3 : decode cL_tank 3 = .ok (.iload_n 1, 1) := by decide +kernel
theorem dL_tank_4 : decode cL_tank 4 = .ok (.iload_n 2, 1) := by decide +kernel
theorem dL_tank_5 : decode cL_tank 5 = .ok (.invokevirtual 86, 3) := by decide +kernel
theorem dL_tank_8 : decode cL_tank 8 = .ok (.i2l, 1) := by decide +kernel
theorem dL_tank_9 : decode cL_tank 9 = .ok (.lastore, 1) := by decide +kernel
theorem dL_tank_10 : decode cL_tank 10 = .ok (.goto 7, 3) := by decide +kernel
theorem dL_tank_13 : decode cL_tank 13 = .ok (.astore 4, 2) := by decide +kernel
theorem dL_tank_15 : decode cL_tank 15 = .ok (.iconst 1, 1) := by decide +kernel
theorem dL_tank_16 : decode cL_tank 16 = .ok (.ireturn, 1) := by decide +kernel
theorem dL_tank_17 : decode cL_tank 17 = .ok (.iconst 0, 1) := by decide +kernel
theorem dL_tank_18 : decode cL_tank 18 = .ok (.ireturn, 1) := by decide +kernel
theorem dL_line_0 : decode cL_line 0 = .ok (.aload_n 2, 1) := by decide +kernel
theorem dL_line_1 : decode cL_line 1 = .ok (.iconst 0, 1) := by decide +kernel
theorem dL_line_2 : decode cL_line 2 = .ok (.aload_n 0, 1) := by decide +kernel
theorem dL_line_3 : decode cL_line 3 = .ok (.iload_n 1, 1) := by decide +kernel
theorem dL_line_4 : decode cL_line 4 = .ok (.invokevirtual 89, 3) := by decide +kernel
theorem dL_line_7 : decode cL_line 7 = .ok (.i2l, 1) := by decide +kernel
theorem dL_line_8 : decode cL_line 8 = .ok (.lastore, 1) := by decide +kernel
theorem dL_line_9 : decode cL_line 9 = .ok (.goto 6, 3) := by decide +kernel
theorem dL_line_12 : decode cL_line 12 = .ok (.astore_n 3, 1) := by decide +kernel
theorem dL_line_13 : decode cL_line 13 = .ok (.iconst 1, 1) := by decide +kernel
theorem dL_line_14 : decode cL_line 14 = .ok (.ireturn, 1) := by decide +kernel
theorem dL_line_15 : decode cL_line 15 = .ok (.iconst 0, 1) := by decide +kernel
theorem dL_line_16 : decode cL_line 16 = .ok (.ireturn, 1) := by decide +kernel
theorem dL_thing_0 : decode cL_thing 0 = .ok (.aload_n 3, 1) := by decide +kernel
theorem dL_thing_1 : decode cL_thing 1 = .ok (.iconst 0, 1) := by decide +kernel
theorem dL_thing_2 : decode cL_thing 2 = .ok (.aload_n 0, 1) := by decide +kernel
theorem dL_thing_3 : decode cL_thing 3 = .ok (.iload_n 1, 1) := by decide +kernel
theorem dL_thing_4 : decode cL_thing 4 = .ok (.iload_n 2, 1) := by decide +kernel
theorem dL_thing_5 : decode cL_thing 5 = .ok (.invokevirtual 92, 3) := by decide +kernel
theorem dL_thing_8 : decode cL_thing 8 = .ok (.i2l, 1) := by decide +kernel
theorem dL_thing_9 : decode cL_thing 9 = .ok (.lastore, 1) := by decide +kernel
theorem dL_thing_10 : decode cL_thing 10 = .ok (.goto 11, 3) := by decide +kernel
theorem dL_thing_13 : decode cL_thing 13 = .ok (.astore 4, 2) := by decide +kernel
theorem dL_thing_15 : decode cL_thing 15 = .ok (.iconst 1, 1) := by decide +kernel
theorem dL_thing_16 : decode cL_thing 16 = .ok (.ireturn, 1) := by decide +kernel
theorem dL_thing_17 : decode cL_thing 17 = .ok (.astore 4, 2) := by decide +kernel
theorem dL_thing_19 : decode cL_thing 19 = .ok (.iconst 2, 1) := by decide +kernel
theorem dL_thing_20 : decode cL_thing 20 = .ok (.ireturn, 1) := by decide +kernel
theorem dL_thing_21 : decode cL_thing 21 = .ok (.iconst 0, 1) := by decide +kernel
theorem dL_thing_22 : decode cL_thing 22 = .ok (.ireturn, 1) := by decide +kernel
theorem dL_metre_0 : decode cL_metre 0 = .ok (.aload_n 2, 1) := by decide +kernel
theorem dL_metre_1 : decode cL_metre 1 = .ok (.iconst 0, 1) := by decide +kernel
theorem dL_metre_2 : decode cL_metre 2 = .ok (.aload_n 0, 1) := by decide +kernel
theorem dL_metre_3 : decode cL_metre 3 = .ok (.iload_n 1, 1) := by decide +kernel
theorem dL_metre_4 : decode cL_metre 4 = .ok (.invokevirtual 95, 3) := by decide +kernel
theorem dL_metre_7 : decode cL_metre 7 = .ok (.i2l, 1) := by decide +kernel
theorem dL_metre_8 : decode cL_metre 8 = .ok (.lastore, 1) := by decide +kernel
theorem dL_metre_9 : decode cL_metre 9 = .ok (.goto 6, 3) := by decide +kernel
theorem dL_metre_12 : decode cL_metre 12 = .ok (.astore_n 3, 1) := by decide +kernel
theorem dL_metre_13 : decode cL_metre 13 = .ok (.iconst 1, 1) := by decide +kernel
theorem dL_metre_14 : decode cL_metre 14 = .ok (.ireturn, 1) := by decide +kernel
theorem dL_metre_15 : decode cL_metre 15 = .ok (.iconst 0, 1) := by decide +kernel
theorem dL_metre_16 : decode cL_metre 16 = .ok (.ireturn, 1) := by decide +kernel
theorem dL_metreAnew_0 : decode cL_metreAnew 0 = .ok (.aload_n 2, 1) := by decide +kernel
theorem dL_metreAnew_1 : decode cL_metreAnew 1 = .ok (.iconst 0, 1) := by decide +kernel
theorem dL_metreAnew_2 : decode cL_metreAnew 2 = .ok (.aload_n 0, 1) := by decide +kernel
theorem dL_metreAnew_3 : decode cL_metreAnew 3 = .ok (.iload_n 1, 1) := by decide +kernel
theorem dL_metreAnew_4 : decode cL_metreAnew 4 = .ok (.invokevirtual 98, 3) := by decide +kernel
theorem dL_metreAnew_7 : decode cL_metreAnew 7 = .ok (.i2l, 1) := by decide +kernel
theorem dL_metreAnew_8 : decode cL_metreAnew 8 = .ok (.lastore, 1) := by decide +kernel
theorem dL_metreAnew_9 : decode cL_metreAnew 9 = .ok (.goto 6, 3) := by decide +kernel
theorem dL_metreAnew_12 : decode cL_metreAnew 12 = .ok (.astore_n 3, 1) := by decide +kernel
theorem dL_metreAnew_13 : decode cL_metreAnew 13 = .ok (.iconst 1, 1) := by decide +kernel
theorem dL_metreAnew_14 : decode cL_metreAnew 14 = .ok (.ireturn, 1) := by decide +kernel
theorem dL_metreAnew_15 : decode cL_metreAnew 15 = .ok (.iconst 0, 1) := by decide +kernel
theorem dL_metreAnew_16 : decode cL_metreAnew 16 = .ok (.ireturn, 1) := by decide +kernel
theorem dL_ofFault_0 : decode cL_ofFault 0 = .ok (.aload_n 3, 1) := by decide +kernel
theorem dL_ofFault_1 : decode cL_ofFault 1 = .ok (.iconst 0, 1) := by decide +kernel
theorem dL_ofFault_2 : decode cL_ofFault 2 = .ok (.aload_n 0, 1) := by decide +kernel
theorem dL_ofFault_3 : decode cL_ofFault 3 = .ok (.iload_n 1, 1) := by decide +kernel
theorem dL_ofFault_4 : decode cL_ofFault 4 = .ok (.iload_n 2, 1) := by decide +kernel
theorem dL_ofFault_5 : decode cL_ofFault 5 = .ok (.invokevirtual 101, 3) := by decide +kernel
theorem dL_ofFault_8 : decode cL_ofFault 8 = .ok (.i2l, 1) := by decide +kernel
theorem dL_ofFault_9 : decode cL_ofFault 9 = .ok (.lastore, 1) := by decide +kernel
theorem dL_ofFault_10 : decode cL_ofFault 10 = .ok (.goto 11, 3) := by decide +kernel
theorem dL_ofFault_13 : decode cL_ofFault 13 = .ok (.astore 4, 2) := by decide +kernel
theorem dL_ofFault_15 : decode cL_ofFault 15 = .ok (.iconst 1, 1) := by decide +kernel
theorem dL_ofFault_16 : decode cL_ofFault 16 = .ok (.ireturn, 1) := by decide +kernel
theorem dL_ofFault_17 : decode cL_ofFault 17 = .ok (.astore 4, 2) := by decide +kernel
theorem dL_ofFault_19 : decode cL_ofFault 19 = .ok (.iconst 2, 1) := by decide +kernel
theorem dL_ofFault_20 : decode cL_ofFault 20 = .ok (.ireturn, 1) := by decide +kernel
theorem dL_ofFault_21 : decode cL_ofFault 21 = .ok (.iconst 0, 1) := by decide +kernel
theorem dL_ofFault_22 : decode cL_ofFault 22 = .ok (.ireturn, 1) := by decide +kernel
