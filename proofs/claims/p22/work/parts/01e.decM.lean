theorem dL_at_0 : decode cL_at 0 = .ok (.iload_n 1, 1) := by decide +kernel
theorem dL_at_1 : decode cL_at 1 = .ok (.aload_n 0, 1) := by decide +kernel
theorem dL_at_2 : decode cL_at 2 = .ok (.arraylength, 1) := by decide +kernel
theorem dL_at_3 : decode cL_at 3 = .ok (.if_icmp .ge 9, 3) := by decide +kernel
theorem dL_at_6 : decode cL_at 6 = .ok (.aload_n 0, 1) := by decide +kernel
theorem dL_at_7 : decode cL_at 7 = .ok (.iload_n 1, 1) := by decide +kernel
theorem dL_at_8 : decode cL_at 8 = .ok (.iaload, 1) := by decide +kernel
theorem dL_at_9 : decode cL_at 9 = .ok (.goto 12, 3) := by decide +kernel
theorem dL_at_12 : decode cL_at 12 = .ok (.ldc 7, 2) := by decide +kernel
theorem dL_at_14 : decode cL_at 14 = .ok (.iload_n 1, 1) := by decide +kernel
theorem dL_at_15 : decode cL_at 15 = .ok (.iconst 1, 1) := by decide +kernel
theorem dL_at_16 : decode cL_at 16 = .ok (.iadd, 1) := by decide +kernel
theorem dL_at_17 : decode cL_at 17 = .ok (.imul, 1) := by decide +kernel
theorem dL_at_18 : decode cL_at 18 = .ok (.ldc 8, 2) := by decide +kernel
theorem dL_at_20 : decode cL_at 20 = .ok (.iadd, 1) := by decide +kernel
theorem dL_at_21 : decode cL_at 21 = .ok (.ireturn, 1) := by decide +kernel
theorem dL_low_0 : decode cL_low 0 = .ok (.iload_n 0, 1) := by decide +kernel
theorem dL_low_1 : decode cL_low 1 = .ok (.ldc 9, 2) := by decide +kernel
theorem dL_low_3 : decode cL_low 3 = .ok (.iand, 1) := by decide +kernel
theorem dL_low_4 : decode cL_low 4 = .ok (.iload_n 1, 1) := by decide +kernel
theorem dL_low_5 : decode cL_low 5 = .ok (.irem, 1) := by decide +kernel
theorem dL_low_6 : decode cL_low 6 = .ok (.ireturn, 1) := by decide +kernel
theorem dL_addMeasure_0 : decode cL_addMeasure 0 = .ok (.aload_n 0, 1) := by decide +kernel
theorem dL_addMeasure_1 : decode cL_addMeasure 1 = .ok (.iload_n 1, 1) := by decide +kernel
theorem dL_addMeasure_2 : decode cL_addMeasure 2 = .ok (.invokevirtual 10, 3) := by decide +kernel
theorem dL_addMeasure_5 : decode cL_addMeasure 5 = .ok (.ireturn, 1) := by decide +kernel
theorem dL_addMeasure_6 : decode cL_addMeasure 6 = .ok (.astore_n 2, 1) := by decide +kernel
theorem dL_addMeasure_7 : decode cL_addMeasure 7 = .ok (.ldc 18, 2) := by decide +kernel
theorem dL_addMeasure_9 : decode cL_addMeasure 9 = .ok (.ireturn, 1) := by decide +kernel
theorem dL_addMeasure_10 : decode cL_addMeasure 10 = .ok (.astore_n 2, 1) := by decide +kernel
theorem dL_addMeasure_11 : decode cL_addMeasure 11 = .ok (.ldc 21, 2) := by decide +kernel
theorem dL_addMeasure_13 : decode cL_addMeasure 13 = .ok (.ireturn, 1) := by decide +kernel
theorem dL_addSwitch_0 : decode cL_addSwitch 0 = .ok (.aload_n 0, 1) := by decide +kernel
theorem dL_addSwitch_1 : decode cL_addSwitch 1 = .ok (.iload_n 1, 1) := by decide +kernel
theorem dL_addSwitch_2 : decode cL_addSwitch 2 = .ok (.iload_n 2, 1) := by decide +kernel
theorem dL_addSwitch_3 : decode cL_addSwitch 3 = .ok (.invokevirtual 22, 3) := by decide +kernel
theorem dL_addSwitch_6 : decode cL_addSwitch 6 = .ok (.ireturn, 1) := by decide +kernel
theorem dL_addSwitch_7 : decode cL_addSwitch 7 = .ok (.astore_n 3, 1) := by decide +kernel
theorem dL_addSwitch_8 : decode cL_addSwitch 8 = .ok (.ldc 18, 2) := by decide +kernel
theorem dL_addSwitch_10 : decode cL_addSwitch 10 = .ok (.ireturn, 1) := by decide +kernel
theorem dL_addSwitch_11 : decode cL_addSwitch 11 = .ok (.astore_n 3, 1) := by decide +kernel
theorem dL_addSwitch_12 : decode cL_addSwitch 12 = .ok (.ldc 21, 2) := by decide +kernel
theorem dL_addSwitch_14 : decode cL_addSwitch 14 = .ok (.ireturn, 1) := by decide +kernel
theorem dL_write_0 : decode cL_write 0 = .ok (.aload_n 0, 1) := by decide +kernel
theorem dL_write_1 : decode cL_write 1 = .ok (.iload_n 1, 1) := by decide +kernel
theorem dL_write_2 : decode cL_write 2 = .ok (.iload_n 2, 1) := by decide +kernel
theorem dL_write_3 : decode cL_write 3 = .ok (.iload_n 3, 1) := by decide +kernel
theorem dL_write_4 : decode cL_write 4 = .ok (.invokevirtual 26, 3) := by decide +kernel
theorem dL_write_7 : decode cL_write 7 = .ok (.ireturn, 1) := by decide +kernel
theorem dL_write_8 : decode cL_write 8 = .ok (.astore 4, 2) := by decide +kernel
theorem dL_write_10 : decode cL_write 10 = .ok (.ldc 32, 2) := by decide +kernel
theorem dL_write_12 : decode cL_write 12 = .ok (.ireturn, 1) := by decide +kernel
theorem dL_write_13 : decode cL_write 13 = .ok (.astore 4, 2) := by decide +kernel
theorem dL_write_15 : decode cL_write 15 = .ok (.ldc 18, 2) := by decide +kernel
theorem dL_write_17 : decode cL_write 17 = .ok (.ireturn, 1) := by decide +kernel
theorem dL_write_18 : decode cL_write 18 = .ok (.astore 4, 2) := by decide +kernel
theorem dL_write_20 : decode cL_write 20 = .ok (.ldc 21, 2) := by decide +kernel
theorem dL_write_22 : decode cL_write 22 = .ok (.ireturn, 1) := by decide +kernel
theorem dL_value_0 : decode cL_value 0 = .ok (.aload_n 0, 1) := by decide +kernel
theorem dL_value_1 : decode cL_value 1 = .ok (.iload_n 1, 1) := by decide +kernel
theorem dL_value_2 : decode cL_value 2 = .ok (.invokevirtual 33, 3) := by decide +kernel
theorem dL_value_5 : decode cL_value 5 = .ok (.ireturn, 1) := by decide +kernel
theorem dL_value_6 : decode cL_value 6 = .ok (.astore_n 2, 1) := by decide +kernel
theorem dL_value_7 : decode cL_value 7 = .ok (.ldc 32, 2) := by decide +kernel
theorem dL_value_9 : decode cL_value 9 = .ok (.ireturn, 1) := by decide +kernel
theorem dL_command_0 : decode cL_command 0 = .ok (.aload_n 0, 1) := by decide +kernel
theorem dL_command_1 : decode cL_command 1 = .ok (.iload_n 1, 1) := by decide +kernel
theorem dL_command_2 : decode cL_command 2 = .ok (.iload_n 2, 1) := by decide +kernel
theorem dL_command_3 : decode cL_command 3 = .ok (.invokevirtual 36, 3) := by decide +kernel
theorem dL_command_6 : decode cL_command 6 = .ok (.ireturn, 1) := by decide +kernel
theorem dL_command_7 : decode cL_command 7 = .ok (.astore_n 3, 1) := by decide +kernel
theorem dL_command_8 : decode cL_command 8 = .ok (.ldc 32, 2) := by decide +kernel
theorem dL_command_10 : decode cL_command 10 = .ok (.ireturn, 1) := by decide +kernel
theorem dL_command_11 : decode cL_command 11 = .ok (.astore_n 3, 1) := by decide +kernel
theorem dL_command_12 : decode cL_command 12 = .ok (.ldc 18, 2) := by decide +kernel
theorem dL_command_14 : decode cL_command 14 = .ok (.ireturn, 1) := by decide +kernel
theorem dL_standing_0 : decode cL_standing 0 = .ok (.aload_n 0, 1) := by decide +kernel
theorem dL_standing_1 : decode cL_standing 1 = .ok (.iload_n 1, 1) := by decide +kernel
theorem dL_standing_2 : decode cL_standing 2 = .ok (.invokevirtual 39, 3) := by decide +kernel
theorem dL_standing_5 : decode cL_standing 5 = .ok (.ireturn, 1) := by decide +kernel
theorem dL_standing_6 : decode cL_standing 6 = .ok (.astore_n 2, 1) := by decide +kernel
theorem dL_standing_7 : decode cL_standing 7 = .ok (.ldc 32, 2) := by decide +kernel
theorem dL_standing_9 : decode cL_standing 9 = .ok (.ireturn, 1) := by decide +kernel
theorem dL_held_0 : decode cL_held 0 = .ok (.aload_n 0, 1) := by decide +kernel
theorem dL_held_1 : decode cL_held 1 = .ok (.iload_n 1, 1) := by decide +kernel
theorem dL_held_2 : decode cL_held 2 = .ok (.invokevirtual 42, 3) := by decide +kernel
theorem dL_held_5 : decode cL_held 5 = .ok (.ireturn, 1) := by decide +kernel
theorem dL_held_6 : decode cL_held 6 = .ok (.astore_n 2, 1) := by decide +kernel
theorem dL_held_7 : decode cL_held 7 = .ok (.ldc 32, 2) := by decide +kernel
theorem dL_held_9 : decode cL_held 9 = .ok (.ireturn, 1) := by decide +kernel
theorem dL_changes_0 : decode cL_changes 0 = .ok (.aload_n 0, 1) := by decide +kernel
theorem dL_changes_1 : decode cL_changes 1 = .ok (.iload_n 1, 1) := by decide +kernel
theorem dL_changes_2 : decode cL_changes 2 = .ok (.invokevirtual 45, 3) := by decide +kernel
theorem dL_changes_5 : decode cL_changes 5 = .ok (.ireturn, 1) := by decide +kernel
theorem dL_changes_6 : decode cL_changes 6 = .ok (.astore_n 2, 1) := by decide +kernel
theorem dL_changes_7 : decode cL_changes 7 = .ok (.ldc 32, 2) := by decide +kernel
theorem dL_changes_9 : decode cL_changes 9 = .ok (.ireturn, 1) := by decide +kernel
theorem dL_subscribe_0 : decode cL_subscribe 0 = .ok (.aload_n 0, 1) := by decide +kernel
theorem dL_subscribe_1 : decode cL_subscribe 1 = .ok (.iload_n 1, 1) := by decide +kernel
theorem dL_subscribe_2 : decode cL_subscribe 2 = .ok (.iload_n 2, 1) := by decide +kernel
theorem dL_subscribe_3 : decode cL_subscribe 3 = .ok (.iload_n 3, 1) := by decide +kernel
theorem dL_subscribe_4 : decode cL_subscribe 4 = .ok (.invokevirtual 48, 3) := by decide +kernel
theorem dL_subscribe_7 : decode cL_subscribe 7 = .ok (.ireturn, 1) := by decide +kernel
theorem dL_subscribe_8 : decode cL_subscribe 8 = .ok (.astore 4, 2) := by decide +kernel
theorem dL_subscribe_10 : decode cL_subscribe 10 = .ok (.ldc 32, 2) := by decide +kernel
theorem dL_subscribe_12 : decode cL_subscribe 12 = .ok (.ireturn, 1) := by decide +kernel
theorem dL_subscribe_13 : decode cL_subscribe 13 = .ok (.astore 4, 2) := by decide +kernel
theorem dL_subscribe_15 : decode cL_subscribe 15 = .ok (.ldc 18, 2) := by decide +kernel
theorem dL_subscribe_17 : decode cL_subscribe 17 = .ok (.ireturn, 1) := by decide +kernel
theorem dL_subscribe_18 : decode cL_subscribe 18 = .ok (.astore 4, 2) := by decide +kernel
theorem dL_subscribe_20 : decode cL_subscribe 20 = .ok (.ldc 21, 2) := by decide +kernel
theorem dL_subscribe_22 : decode cL_subscribe 22 = .ok (.ireturn, 1) := by decide +kernel
theorem dL_end_0 : decode cL_end 0 = .ok (.aload_n 0, 1) := by decide +kernel
theorem dL_end_1 : decode cL_end 1 = .ok (.iload_n 1, 1) := by decide +kernel
theorem dL_end_2 : decode cL_end 2 = .ok (.invokevirtual 51, 3) := by decide +kernel
theorem dL_end_5 : decode cL_end 5 = .ok (.iconst 0, 1) := by decide +kernel
theorem dL_end_6 : decode cL_end 6 = .ok (.ireturn, 1) := by decide +kernel
theorem dL_end_7 : decode cL_end 7 = .ok (.astore_n 2, 1) := by decide +kernel
theorem dL_end_8 : decode cL_end 8 = .ok (.ldc 32, 2) := by decide +kernel
theorem dL_end_10 : decode cL_end 10 = .ok (.ireturn, 1) := by decide +kernel
theorem dL_end_11 : decode cL_end 11 = .ok (.astore_n 2, 1) := by decide +kernel
theorem dL_end_12 : decode cL_end 12 = .ok (.ldc 21, 2) := by decide +kernel
theorem dL_end_14 : decode cL_end 14 = .ok (.ireturn, 1) := by decide +kernel
theorem dL_goesOn_0 : decode cL_goesOn 0 = .ok (.aload_n 0, 1) := by decide +kernel
theorem dL_goesOn_1 : decode cL_goesOn 1 = .ok (.iload_n 1, 1) := by decide +kernel
theorem dL_goesOn_2 : decode cL_goesOn 2 = .ok (.invokevirtual 55, 3) := by decide +kernel
theorem dL_goesOn_5 : decode cL_goesOn 5 = .ok (.ifCond .eq 7, 3) := by decide +kernel
theorem dL_goesOn_8 : decode cL_goesOn 8 = .ok (.iconst 1, 1) := by decide +kernel
theorem dL_goesOn_9 : decode cL_goesOn 9 = .ok (.goto 4, 3) := by decide +kernel
theorem dL_goesOn_12 : decode cL_goesOn 12 = .ok (.iconst 0, 1) := by decide +kernel
theorem dL_goesOn_13 : decode cL_goesOn 13 = .ok (.ireturn, 1) := by decide +kernel
theorem dL_goesOn_14 : decode cL_goesOn 14 = .ok (.astore_n 2, 1) := by decide +kernel
theorem dL_goesOn_15 : decode cL_goesOn 15 = .ok (.ldc 32, 2) := by decide +kernel
theorem dL_goesOn_17 : decode cL_goesOn 17 = .ok (.ireturn, 1) := by decide +kernel
theorem dL_reports_0 : decode cL_reports 0 = .ok (.aload_n 0, 1) := by decide +kernel
theorem dL_reports_1 : decode cL_reports 1 = .ok (.iload_n 1, 1) := by decide +kernel
theorem dL_reports_2 : decode cL_reports 2 = .ok (.invokevirtual 59, 3) := by decide +kernel
theorem dL_reports_5 : decode cL_reports 5 = .ok (.ireturn, 1) := by decide +kernel
theorem dL_reports_6 : decode cL_reports 6 = .ok (.astore_n 2, 1) := by decide +kernel
theorem dL_reports_7 : decode cL_reports 7 = .ok (.ldc 32, 2) := by decide +kernel
theorem dL_reports_9 : decode cL_reports 9 = .ok (.ireturn, 1) := by decide +kernel
theorem dL_reported_0 : decode cL_reported 0 = .ok (.aload_n 0, 1) := by decide +kernel
theorem dL_reported_1 : decode cL_reported 1 = .ok (.iload_n 1, 1) := by decide +kernel
theorem dL_reported_2 : decode cL_reported 2 = .ok (.invokevirtual 62, 3) := by decide +kernel
theorem dL_reported_5 : decode cL_reported 5 = .ok (.ireturn, 1) := by decide +kernel
theorem dL_reported_6 : decode cL_reported 6 = .ok (.astore_n 2, 1) := by decide +kernel
theorem dL_reported_7 : decode cL_reported 7 = .ok (.ldc 32, 2) := by decide +kernel
theorem dL_reported_9 : decode cL_reported 9 = .ok (.ireturn, 1) := by decide +kernel
theorem dL_addSchedule_0 : decode cL_addSchedule 0 = .ok (.aload_n 0, 1) := by decide +kernel
theorem dL_addSchedule_1 : decode cL_addSchedule 1 = .ok (.iload_n 1, 1) := by decide +kernel
theorem dL_addSchedule_2 : decode cL_addSchedule 2 = .ok (.iload_n 2, 1) := by decide +kernel
theorem dL_addSchedule_3 : decode cL_addSchedule 3 = .ok (.invokevirtual 65, 3) := by decide +kernel
theorem dL_addSchedule_6 : decode cL_addSchedule 6 = .ok (.ireturn, 1) := by decide +kernel
theorem dL_addSchedule_7 : decode cL_addSchedule 7 = .ok (.astore_n 3, 1) := by decide +kernel
theorem dL_addSchedule_8 : decode cL_addSchedule 8 = .ok (.ldc 32, 2) := by decide +kernel
theorem dL_addSchedule_10 : decode cL_addSchedule 10 = .ok (.ireturn, 1) := by decide +kernel
theorem dL_addSchedule_11 : decode cL_addSchedule 11 = .ok (.astore_n 3, 1) := by decide +kernel
theorem dL_addSchedule_12 : decode cL_addSchedule 12 = .ok (.ldc 18, 2) := by decide +kernel
theorem dL_addSchedule_14 : decode cL_addSchedule 14 = .ok (.ireturn, 1) := by decide +kernel
theorem dL_addSchedule_15 : decode cL_addSchedule 15 = .ok (.astore_n 3, 1) := by decide +kernel
theorem dL_addSchedule_16 : decode cL_addSchedule 16 = .ok (.ldc 21, 2) := by decide +kernel
theorem dL_addSchedule_18 : decode cL_addSchedule 18 = .ok (.ireturn, 1) := by decide +kernel
theorem dL_weekly_0 : decode cL_weekly 0 = .ok (.aload_n 0, 1) := by decide +kernel
theorem dL_weekly_1 : decode cL_weekly 1 = .ok (.iload_n 1, 1) := by decide +kernel
theorem dL_weekly_2 : decode cL_weekly 2 = .ok (.iload_n 2, 1) := by decide +kernel
theorem dL_weekly_3 : decode cL_weekly 3 = .ok (.iload_n 3, 1) := by decide +kernel
theorem dL_weekly_4 : decode cL_weekly 4 = .ok (.iload 4, 2) := by decide +kernel
theorem dL_weekly_6 : decode cL_weekly 6 = .ok (.invokevirtual 68, 3) := by decide +kernel
theorem dL_weekly_9 : decode cL_weekly 9 = .ok (.ireturn, 1) := by decide +kernel
theorem dL_weekly_10 : decode cL_weekly 10 = .ok (.astore 5, 2) := by decide +kernel
theorem dL_weekly_12 : decode cL_weekly 12 = .ok (.ldc 32, 2) := by decide +kernel
theorem dL_weekly_14 : decode cL_weekly 14 = .ok (.ireturn, 1) := by decide +kernel
theorem dL_weekly_15 : decode cL_weekly 15 = .ok (.astore 5, 2) := by decide +kernel
theorem dL_weekly_17 : decode cL_weekly 17 = .ok (.ldc 18, 2) := by decide +kernel
theorem dL_weekly_19 : decode cL_weekly 19 = .ok (.ireturn, 1) := by decide +kernel
theorem dL_weekly_20 : decode cL_weekly 20 = .ok (.astore 5, 2) := by decide +kernel
theorem dL_weekly_22 : decode cL_weekly 22 = .ok (.ldc 21, 2) := by decide +kernel
theorem dL_weekly_24 : decode cL_weekly 24 = .ok (.ireturn, 1) := by decide +kernel
theorem dL_once_0 : decode cL_once 0 = .ok (.aload_n 0, 1) := by decide +kernel
theorem dL_once_1 : decode cL_once 1 = .ok (.iload_n 1, 1) := by decide +kernel
theorem dL_once_2 : decode cL_once 2 = .ok (.iload_n 2, 1) := by decide +kernel
theorem dL_once_3 : decode cL_once 3 = .ok (.iload_n 3, 1) := by decide +kernel
theorem dL_once_4 : decode cL_once 4 = .ok (.iload 4, 2) := by decide +kernel
theorem dL_once_6 : decode cL_once 6 = .ok (.invokevirtual 72, 3) := by decide +kernel
theorem dL_once_9 : decode cL_once 9 = .ok (.ireturn, 1) := by decide +kernel
theorem dL_once_10 : decode cL_once 10 = .ok (.astore 5, 2) := by decide +kernel
theorem dL_once_12 : decode cL_once 12 = .ok (.ldc 32, 2) := by decide +kernel
theorem dL_once_14 : decode cL_once 14 = .ok (.ireturn, 1) := by decide +kernel
theorem dL_once_15 : decode cL_once 15 = .ok (.astore 5, 2) := by decide +kernel
theorem dL_once_17 : decode cL_once 17 = .ok (.ldc 18, 2) := by decide +kernel
theorem dL_once_19 : decode cL_once 19 = .ok (.ireturn, 1) := by decide +kernel
theorem dL_once_20 : decode cL_once 20 = .ok (.astore 5, 2) := by decide +kernel
theorem dL_once_22 : decode cL_once 22 = .ok (.ldc 21, 2) := by decide +kernel
theorem dL_once_24 : decode cL_once 24 = .ok (.ireturn, 1) := by decide +kernel
theorem dL_tells_0 : decode cL_tells 0 = .ok (.aload_n 0, 1) := by decide +kernel
theorem dL_tells_1 : decode cL_tells 1 = .ok (.iload_n 1, 1) := by decide +kernel
theorem dL_tells_2 : decode cL_tells 2 = .ok (.iload_n 2, 1) := by decide +kernel
theorem dL_tells_3 : decode cL_tells 3 = .ok (.invokevirtual 75, 3) := by decide +kernel
theorem dL_tells_6 : decode cL_tells 6 = .ok (.ireturn, 1) := by decide +kernel
theorem dL_tells_7 : decode cL_tells 7 = .ok (.astore_n 3, 1) := by decide +kernel
theorem dL_tells_8 : decode cL_tells 8 = .ok (.ldc 32, 2) := by decide +kernel
theorem dL_tells_10 : decode cL_tells 10 = .ok (.ireturn, 1) := by decide +kernel
theorem dL_tells_11 : decode cL_tells 11 = .ok (.astore_n 3, 1) := by decide +kernel
theorem dL_tells_12 : decode cL_tells 12 = .ok (.ldc 18, 2) := by decide +kernel
theorem dL_tells_14 : decode cL_tells 14 = .ok (.ireturn, 1) := by decide +kernel
theorem dL_pass_0 : decode cL_pass 0 = .ok (.aload_n 0, 1) := by decide +kernel
theorem dL_pass_1 : decode cL_pass 1 = .ok (.iload_n 1, 1) := by decide +kernel
theorem dL_pass_2 : decode cL_pass 2 = .ok (.invokevirtual 78, 3) := by decide +kernel
theorem dL_pass_5 : decode cL_pass 5 = .ok (.ireturn, 1) := by decide +kernel
theorem dL_pass_6 : decode cL_pass 6 = .ok (.astore_n 2, 1) := by decide +kernel
theorem dL_pass_7 : decode cL_pass 7 = .ok (.ldc 18, 2) := by decide +kernel
theorem dL_pass_9 : decode cL_pass 9 = .ok (.ireturn, 1) := by decide +kernel
theorem dL_pass_10 : decode cL_pass 10 = .ok (.astore_n 2, 1) := by decide +kernel
theorem dL_pass_11 : decode cL_pass 11 = .ok (.ldc 21, 2) := by decide +kernel
theorem dL_pass_13 : decode cL_pass 13 = .ok (.ireturn, 1) := by decide +kernel
theorem dL_print_0 : decode cL_print 0 = .ok (.aload_n 0, 1) := by decide +kernel
theorem dL_print_1 : decode cL_print 1 = .ok (.invokevirtual 81, 3) := by decide +kernel
theorem dL_print_4 : decode cL_print 4 = .ok (.i2l, 1) := by decide +kernel
theorem dL_print_5 : decode cL_print 5 = .ok (.lstore_n 2, 1) := by decide +kernel
theorem dL_print_6 : decode cL_print 6 = .ok (.iconst 0, 1) := by decide +kernel
theorem dL_print_7 : decode cL_print 7 = .ok (.istore 4, 2) := by decide +kernel
theorem dL_print_9 : decode cL_print 9 = .ok (.iload 4, 2) := by decide +kernel
theorem dL_print_11 : decode cL_print 11 = .ok (.aload_n 1, 1) := by decide +kernel
theorem dL_print_12 : decode cL_print 12 = .ok (.iconst 0, 1) := by decide +kernel
theorem dL_print_13 : decode cL_print 13 = .ok (.iaload, 1) := by decide +kernel
theorem dL_print_14 : decode cL_print 14 = .ok (.if_icmp .ge 91, 3) := by decide +kernel
theorem dL_print_17 : decode cL_print 17 = .ok (.ldc2_w 85, 3) := by decide +kernel
theorem dL_print_20 : decode cL_print 20 = .ok (.ldc2_w 85, 3) := by decide +kernel
theorem dL_print_23 : decode cL_print 23 = .ok (.ldc2_w 85, 3) := by decide +kernel
theorem dL_print_26 : decode cL_print 26 = .ok (.ldc2_w 85, 3) := by decide +kernel
theorem dL_print_29 : decode cL_print 29 = .ok (.lload_n 2, 1) := by decide +kernel
theorem dL_print_30 : decode cL_print 30 = .ok (.lmul, 1) := by decide +kernel
theorem dL_print_31 : decode cL_print 31 = .ok (.aload_n 0, 1) := by decide +kernel
theorem dL_print_32 : decode cL_print 32 = .ok (.iload 4, 2) := by decide +kernel
theorem dL_print_34 : decode cL_print 34 = .ok (.invokestatic 87, 3) := by decide +kernel
theorem dL_print_37 : decode cL_print 37 = .ok (.i2l, 1) := by decide +kernel
theorem dL_print_38 : decode cL_print 38 = .ok (.ladd, 1) := by decide +kernel
theorem dL_print_39 : decode cL_print 39 = .ok (.lmul, 1) := by decide +kernel
theorem dL_print_40 : decode cL_print 40 = .ok (.aload_n 0, 1) := by decide +kernel
theorem dL_print_41 : decode cL_print 41 = .ok (.iload 4, 2) := by decide +kernel
theorem dL_print_43 : decode cL_print 43 = .ok (.invokestatic 92, 3) := by decide +kernel
theorem dL_print_46 : decode cL_print 46 = .ok (.i2l, 1) := by decide +kernel
theorem dL_print_47 : decode cL_print 47 = .ok (.ladd, 1) := by decide +kernel
theorem dL_print_48 : decode cL_print 48 = .ok (.lmul, 1) := by decide +kernel
theorem dL_print_49 : decode cL_print 49 = .ok (.aload_n 0, 1) := by decide +kernel
theorem dL_print_50 : decode cL_print 50 = .ok (.iload 4, 2) := by decide +kernel
theorem dL_print_52 : decode cL_print 52 = .ok (.invokestatic 94, 3) := by decide +kernel
theorem dL_print_55 : decode cL_print 55 = .ok (.i2l, 1) := by decide +kernel
theorem dL_print_56 : decode cL_print 56 = .ok (.ladd, 1) := by decide +kernel
theorem dL_print_57 : decode cL_print 57 = .ok (.lmul, 1) := by decide +kernel
theorem dL_print_58 : decode cL_print 58 = .ok (.aload_n 0, 1) := by decide +kernel
theorem dL_print_59 : decode cL_print 59 = .ok (.iload 4, 2) := by decide +kernel
theorem dL_print_61 : decode cL_print 61 = .ok (.invokestatic 96, 3) := by decide +kernel
theorem dL_print_64 : decode cL_print 64 = .ok (.i2l, 1) := by decide +kernel
theorem dL_print_65 : decode cL_print 65 = .ok (.ladd, 1) := by decide +kernel
theorem dL_print_66 : decode cL_print 66 = .ok (.lstore_n 2, 1) := by decide +kernel
theorem dL_print_67 : decode cL_print 67 = .ok (.iconst 1, 1) := by decide +kernel
theorem dL_print_68 : decode cL_print 68 = .ok (.istore 5, 2) := by decide +kernel
theorem dL_print_70 : decode cL_print 70 = .ok (.iload 5, 2) := by decide +kernel
theorem dL_print_72 : decode cL_print 72 = .ok (.bipush 17, 2) := by decide +kernel
theorem dL_print_74 : decode cL_print 74 = .ok (.if_icmp .ge 25, 3) := by decide +kernel
theorem dL_print_77 : decode cL_print 77 = .ok (.ldc2_w 85, 3) := by decide +kernel
theorem dL_print_80 : decode cL_print 80 = .ok (.lload_n 2, 1) := by decide +kernel
theorem dL_print_81 : decode cL_print 81 = .ok (.lmul, 1) := by decide +kernel
theorem dL_print_82 : decode cL_print 82 = .ok (.aload_n 0, 1) := by decide +kernel
theorem dL_print_83 : decode cL_print 83 = .ok (.iload 4, 2) := by decide +kernel
theorem dL_print_85 : decode cL_print 85 = .ok (.iload 5, 2) := by decide +kernel
theorem dL_print_87 : decode cL_print 87 = .ok (.invokestatic 98, 3) := by decide +kernel
theorem dL_print_90 : decode cL_print 90 = .ok (.i2l, 1) := by decide +kernel
theorem dL_print_91 : decode cL_print 91 = .ok (.ladd, 1) := by decide +kernel
theorem dL_print_92 : decode cL_print 92 = .ok (.lstore_n 2, 1) := by decide +kernel
theorem dL_print_93 : decode cL_print 93 = .ok (.iinc 5 1, 3) := by decide +kernel
theorem dL_print_96 : decode cL_print 96 = .ok (.goto (-26), 3) := by decide +kernel
theorem dL_print_99 : decode cL_print 99 = .ok (.iinc 4 1, 3) := by decide +kernel
theorem dL_print_102 : decode cL_print 102 = .ok (.goto (-93), 3) := by decide +kernel
theorem dL_print_105 : decode cL_print 105 = .ok (.iconst 0, 1) := by decide +kernel
theorem dL_print_106 : decode cL_print 106 = .ok (.istore 4, 2) := by decide +kernel
theorem dL_print_108 : decode cL_print 108 = .ok (.iload 4, 2) := by decide +kernel
theorem dL_print_110 : decode cL_print 110 = .ok (.aload_n 1, 1) := by decide +kernel
theorem dL_print_111 : decode cL_print 111 = .ok (.iconst 1, 1) := by decide +kernel
theorem dL_print_112 : decode cL_print 112 = .ok (.iaload, 1) := by decide +kernel
theorem dL_print_113 : decode cL_print 113 = .ok (.if_icmp .ge 47, 3) := by decide +kernel
theorem dL_print_116 : decode cL_print 116 = .ok (.ldc2_w 85, 3) := by decide +kernel
theorem dL_print_119 : decode cL_print 119 = .ok (.ldc2_w 85, 3) := by decide +kernel
theorem dL_print_122 : decode cL_print 122 = .ok (.ldc2_w 85, 3) := by decide +kernel
theorem dL_print_125 : decode cL_print 125 = .ok (.lload_n 2, 1) := by decide +kernel
theorem dL_print_126 : decode cL_print 126 = .ok (.lmul, 1) := by decide +kernel
theorem dL_print_127 : decode cL_print 127 = .ok (.aload_n 0, 1) := by decide +kernel
theorem dL_print_128 : decode cL_print 128 = .ok (.iload 4, 2) := by decide +kernel
theorem dL_print_130 : decode cL_print 130 = .ok (.invokestatic 101, 3) := by decide +kernel
theorem dL_print_133 : decode cL_print 133 = .ok (.i2l, 1) := by decide +kernel
theorem dL_print_134 : decode cL_print 134 = .ok (.ladd, 1) := by decide +kernel
theorem dL_print_135 : decode cL_print 135 = .ok (.lmul, 1) := by decide +kernel
theorem dL_print_136 : decode cL_print 136 = .ok (.aload_n 0, 1) := by decide +kernel
theorem dL_print_137 : decode cL_print 137 = .ok (.iload 4, 2) := by decide +kernel
theorem dL_print_139 : decode cL_print 139 = .ok (.invokestatic 103, 3) := by decide +kernel
theorem dL_print_142 : decode cL_print 142 = .ok (.i2l, 1) := by decide +kernel
theorem dL_print_143 : decode cL_print 143 = .ok (.ladd, 1) := by decide +kernel
theorem dL_print_144 : decode cL_print 144 = .ok (.lmul, 1) := by decide +kernel
theorem dL_print_145 : decode cL_print 145 = .ok (.aload_n 0, 1) := by decide +kernel
theorem dL_print_146 : decode cL_print 146 = .ok (.iload 4, 2) := by decide +kernel
theorem dL_print_148 : decode cL_print 148 = .ok (.invokestatic 105, 3) := by decide +kernel
theorem dL_print_151 : decode cL_print 151 = .ok (.i2l, 1) := by decide +kernel
theorem dL_print_152 : decode cL_print 152 = .ok (.ladd, 1) := by decide +kernel
theorem dL_print_153 : decode cL_print 153 = .ok (.lstore_n 2, 1) := by decide +kernel
theorem dL_print_154 : decode cL_print 154 = .ok (.iinc 4 1, 3) := by decide +kernel
theorem dL_print_157 : decode cL_print 157 = .ok (.goto (-49), 3) := by decide +kernel
theorem dL_print_160 : decode cL_print 160 = .ok (.lload_n 2, 1) := by decide +kernel
theorem dL_print_161 : decode cL_print 161 = .ok (.lreturn, 1) := by decide +kernel
theorem dL_point_0 : decode cL_point 0 = .ok (.bipush 17, 2) := by decide +kernel
theorem dL_point_2 : decode cL_point 2 = .ok (.istore_n 3, 1) := by decide +kernel
theorem dL_point_3 : decode cL_point 3 = .ok (.bipush 16, 2) := by decide +kernel
theorem dL_point_5 : decode cL_point 5 = .ok (.istore 4, 2) := by decide +kernel
theorem dL_point_7 : decode cL_point 7 = .ok (.iload 4, 2) := by decide +kernel
theorem dL_point_9 : decode cL_point 9 = .ok (.ifCond .le 80, 3) := by decide +kernel
theorem dL_point_12 : decode cL_point 12 = .ok (.aload_n 0, 1) := by decide +kernel
theorem dL_point_13 : decode cL_point 13 = .ok (.iload_n 2, 1) := by decide +kernel
theorem dL_point_14 : decode cL_point 14 = .ok (.iload 4, 2) := by decide +kernel
theorem dL_point_16 : decode cL_point 16 = .ok (.invokestatic 98, 3) := by decide +kernel
theorem dL_point_19 : decode cL_point 19 = .ok (.istore 5, 2) := by decide +kernel
theorem dL_point_21 : decode cL_point 21 = .ok (.iload 5, 2) := by decide +kernel
theorem dL_point_23 : decode cL_point 23 = .ok (.ldc 107, 2) := by decide +kernel
theorem dL_point_25 : decode cL_point 25 = .ok (.if_icmp .eq 8, 3) := by decide +kernel
theorem dL_point_28 : decode cL_point 28 = .ok (.iload 4, 2) := by decide +kernel
theorem dL_point_30 : decode cL_point 30 = .ok (.goto 4, 3) := by decide +kernel
theorem dL_point_33 : decode cL_point 33 = .ok (.iload_n 3, 1) := by decide +kernel
theorem dL_point_34 : decode cL_point 34 = .ok (.istore_n 3, 1) := by decide +kernel
theorem dL_point_35 : decode cL_point 35 = .ok (.iload 5, 2) := by decide +kernel
theorem dL_point_37 : decode cL_point 37 = .ok (.ldc 107, 2) := by decide +kernel
theorem dL_point_39 : decode cL_point 39 = .ok (.if_icmp .eq 44, 3) := by decide +kernel
theorem dL_point_42 : decode cL_point 42 = .ok (.aload_n 1, 1) := by decide +kernel
theorem dL_point_43 : decode cL_point 43 = .ok (.bipush 16, 2) := by decide +kernel
theorem dL_point_45 : decode cL_point 45 = .ok (.iload_n 2, 1) := by decide +kernel
theorem dL_point_46 : decode cL_point 46 = .ok (.iadd, 1) := by decide +kernel
theorem dL_point_47 : decode cL_point 47 = .ok (.iaload, 1) := by decide +kernel
theorem dL_point_48 : decode cL_point 48 = .ok (.ifCond .ge 22, 3) := by decide +kernel
theorem dL_point_51 : decode cL_point 51 = .ok (.iload 5, 2) := by decide +kernel
theorem dL_point_53 : decode cL_point 53 = .ok (.sipush (-1000), 3) := by decide +kernel
theorem dL_point_56 : decode cL_point 56 = .ok (.if_icmp .lt 25, 3) := by decide +kernel
theorem dL_point_59 : decode cL_point 59 = .ok (.iload 5, 2) := by decide +kernel
theorem dL_point_61 : decode cL_point 61 = .ok (.sipush 1000, 3) := by decide +kernel
theorem dL_point_64 : decode cL_point 64 = .ok (.if_icmp .le 19, 3) := by decide +kernel
theorem dL_point_67 : decode cL_point 67 = .ok (.goto 14, 3) := by decide +kernel
theorem dL_point_70 : decode cL_point 70 = .ok (.iload 5, 2) := by decide +kernel
theorem dL_point_72 : decode cL_point 72 = .ok (.ifCond .lt 9, 3) := by decide +kernel
theorem dL_point_75 : decode cL_point 75 = .ok (.iload 5, 2) := by decide +kernel
theorem dL_point_77 : decode cL_point 77 = .ok (.iconst 1, 1) := by decide +kernel
theorem dL_point_78 : decode cL_point 78 = .ok (.if_icmp .le 5, 3) := by decide +kernel
theorem dL_point_81 : decode cL_point 81 = .ok (.iconst 0, 1) := by decide +kernel
theorem dL_point_82 : decode cL_point 82 = .ok (.ireturn, 1) := by decide +kernel
theorem dL_point_83 : decode cL_point 83 = .ok (.iinc 4 (-1), 3) := by decide +kernel
theorem dL_point_86 : decode cL_point 86 = .ok (.goto (-79), 3) := by decide +kernel
theorem dL_point_89 : decode cL_point 89 = .ok (.aload_n 0, 1) := by decide +kernel
theorem dL_point_90 : decode cL_point 90 = .ok (.iload_n 2, 1) := by decide +kernel
theorem dL_point_91 : decode cL_point 91 = .ok (.invokestatic 87, 3) := by decide +kernel
theorem dL_point_94 : decode cL_point 94 = .ok (.istore 4, 2) := by decide +kernel
theorem dL_point_96 : decode cL_point 96 = .ok (.aload_n 0, 1) := by decide +kernel
theorem dL_point_97 : decode cL_point 97 = .ok (.iload_n 2, 1) := by decide +kernel
theorem dL_point_98 : decode cL_point 98 = .ok (.invokestatic 94, 3) := by decide +kernel
theorem dL_point_101 : decode cL_point 101 = .ok (.istore 5, 2) := by decide +kernel
theorem dL_point_103 : decode cL_point 103 = .ok (.aload_n 0, 1) := by decide +kernel
theorem dL_point_104 : decode cL_point 104 = .ok (.iload_n 2, 1) := by decide +kernel
theorem dL_point_105 : decode cL_point 105 = .ok (.invokestatic 92, 3) := by decide +kernel
theorem dL_point_108 : decode cL_point 108 = .ok (.iload_n 3, 1) := by decide +kernel
theorem dL_point_109 : decode cL_point 109 = .ok (.if_icmp .ne 43, 3) := by decide +kernel
theorem dL_point_112 : decode cL_point 112 = .ok (.iload 4, 2) := by decide +kernel
theorem dL_point_114 : decode cL_point 114 = .ok (.iload_n 3, 1) := by decide +kernel
theorem dL_point_115 : decode cL_point 115 = .ok (.bipush 17, 2) := by decide +kernel
theorem dL_point_117 : decode cL_point 117 = .ok (.if_icmp .ne 9, 3) := by decide +kernel
theorem dL_point_120 : decode cL_point 120 = .ok (.aload_n 1, 1) := by decide +kernel
theorem dL_point_121 : decode cL_point 121 = .ok (.iload_n 2, 1) := by decide +kernel
theorem dL_point_122 : decode cL_point 122 = .ok (.iaload, 1) := by decide +kernel
theorem dL_point_123 : decode cL_point 123 = .ok (.goto 9, 3) := by decide +kernel
theorem dL_point_126 : decode cL_point 126 = .ok (.aload_n 0, 1) := by decide +kernel
theorem dL_point_127 : decode cL_point 127 = .ok (.iload_n 2, 1) := by decide +kernel
theorem dL_point_128 : decode cL_point 128 = .ok (.iload_n 3, 1) := by decide +kernel
theorem dL_point_129 : decode cL_point 129 = .ok (.invokestatic 98, 3) := by decide +kernel
theorem dL_point_132 : decode cL_point 132 = .ok (.if_icmp .ne 20, 3) := by decide +kernel
theorem dL_point_135 : decode cL_point 135 = .ok (.aload_n 0, 1) := by decide +kernel
theorem dL_point_136 : decode cL_point 136 = .ok (.iload_n 2, 1) := by decide +kernel
theorem dL_point_137 : decode cL_point 137 = .ok (.invokestatic 96, 3) := by decide +kernel
theorem dL_point_140 : decode cL_point 140 = .ok (.ifCond .lt 12, 3) := by decide +kernel
theorem dL_point_143 : decode cL_point 143 = .ok (.iload 5, 2) := by decide +kernel
theorem dL_point_145 : decode cL_point 145 = .ok (.ifCond .lt 7, 3) := by decide +kernel
theorem dL_point_148 : decode cL_point 148 = .ok (.iconst 1, 1) := by decide +kernel
theorem dL_point_149 : decode cL_point 149 = .ok (.goto 4, 3) := by decide +kernel
theorem dL_point_152 : decode cL_point 152 = .ok (.iconst 0, 1) := by decide +kernel
theorem dL_point_153 : decode cL_point 153 = .ok (.istore 6, 2) := by decide +kernel
theorem dL_point_155 : decode cL_point 155 = .ok (.iload 6, 2) := by decide +kernel
theorem dL_point_157 : decode cL_point 157 = .ok (.ifCond .eq 32, 3) := by decide +kernel
theorem dL_point_160 : decode cL_point 160 = .ok (.aload_n 1, 1) := by decide +kernel
theorem dL_point_161 : decode cL_point 161 = .ok (.bipush 16, 2) := by decide +kernel
theorem dL_point_163 : decode cL_point 163 = .ok (.iload_n 2, 1) := by decide +kernel
theorem dL_point_164 : decode cL_point 164 = .ok (.iadd, 1) := by decide +kernel
theorem dL_point_165 : decode cL_point 165 = .ok (.iaload, 1) := by decide +kernel
theorem dL_point_166 : decode cL_point 166 = .ok (.ifCond .lt 19, 3) := by decide +kernel
theorem dL_point_169 : decode cL_point 169 = .ok (.iload 4, 2) := by decide +kernel
theorem dL_point_171 : decode cL_point 171 = .ok (.aload_n 1, 1) := by decide +kernel
theorem dL_point_172 : decode cL_point 172 = .ok (.iload_n 2, 1) := by decide +kernel
theorem dL_point_173 : decode cL_point 173 = .ok (.iaload, 1) := by decide +kernel
theorem dL_point_174 : decode cL_point 174 = .ok (.aload_n 0, 1) := by decide +kernel
theorem dL_point_175 : decode cL_point 175 = .ok (.iload_n 2, 1) := by decide +kernel
theorem dL_point_176 : decode cL_point 176 = .ok (.invokestatic 96, 3) := by decide +kernel
theorem dL_point_179 : decode cL_point 179 = .ok (.iadd, 1) := by decide +kernel
theorem dL_point_180 : decode cL_point 180 = .ok (.iconst 2, 1) := by decide +kernel
theorem dL_point_181 : decode cL_point 181 = .ok (.irem, 1) := by decide +kernel
theorem dL_point_182 : decode cL_point 182 = .ok (.if_icmp .ne 7, 3) := by decide +kernel
theorem dL_point_185 : decode cL_point 185 = .ok (.iconst 1, 1) := by decide +kernel
theorem dL_point_186 : decode cL_point 186 = .ok (.goto 4, 3) := by decide +kernel
theorem dL_point_189 : decode cL_point 189 = .ok (.iconst 0, 1) := by decide +kernel
theorem dL_point_190 : decode cL_point 190 = .ok (.istore 6, 2) := by decide +kernel
theorem dL_point_192 : decode cL_point 192 = .ok (.iload 6, 2) := by decide +kernel
theorem dL_point_194 : decode cL_point 194 = .ok (.ifCond .eq 66, 3) := by decide +kernel
theorem dL_point_197 : decode cL_point 197 = .ok (.aload_n 1, 1) := by decide +kernel
theorem dL_point_198 : decode cL_point 198 = .ok (.bipush 16, 2) := by decide +kernel
theorem dL_point_200 : decode cL_point 200 = .ok (.iload_n 2, 1) := by decide +kernel
theorem dL_point_201 : decode cL_point 201 = .ok (.iadd, 1) := by decide +kernel
theorem dL_point_202 : decode cL_point 202 = .ok (.iaload, 1) := by decide +kernel
theorem dL_point_203 : decode cL_point 203 = .ok (.ifCond .le 17, 3) := by decide +kernel
theorem dL_point_206 : decode cL_point 206 = .ok (.iload 5, 2) := by decide +kernel
theorem dL_point_208 : decode cL_point 208 = .ok (.aload_n 1, 1) := by decide +kernel
theorem dL_point_209 : decode cL_point 209 = .ok (.bipush 16, 2) := by decide +kernel
theorem dL_point_211 : decode cL_point 211 = .ok (.iload_n 2, 1) := by decide +kernel
theorem dL_point_212 : decode cL_point 212 = .ok (.iadd, 1) := by decide +kernel
theorem dL_point_213 : decode cL_point 213 = .ok (.iaload, 1) := by decide +kernel
theorem dL_point_214 : decode cL_point 214 = .ok (.if_icmp .gt 46, 3) := by decide +kernel
theorem dL_point_217 : decode cL_point 217 = .ok (.goto 8, 3) := by decide +kernel
theorem dL_point_220 : decode cL_point 220 = .ok (.iload 5, 2) := by decide +kernel
theorem dL_point_222 : decode cL_point 222 = .ok (.ifCond .ne 38, 3) := by decide +kernel
theorem dL_point_225 : decode cL_point 225 = .ok (.iload 5, 2) := by decide +kernel
theorem dL_point_227 : decode cL_point 227 = .ok (.ifCond .eq 29, 3) := by decide +kernel
theorem dL_point_230 : decode cL_point 230 = .ok (.aload_n 0, 1) := by decide +kernel
theorem dL_point_231 : decode cL_point 231 = .ok (.iload_n 2, 1) := by decide +kernel
theorem dL_point_232 : decode cL_point 232 = .ok (.bipush 6, 2) := by decide +kernel
theorem dL_point_234 : decode cL_point 234 = .ok (.invokestatic 98, 3) := by decide +kernel
theorem dL_point_237 : decode cL_point 237 = .ok (.ldc 107, 2) := by decide +kernel
theorem dL_point_239 : decode cL_point 239 = .ok (.if_icmp .eq 21, 3) := by decide +kernel
theorem dL_point_242 : decode cL_point 242 = .ok (.iload_n 3, 1) := by decide +kernel
theorem dL_point_243 : decode cL_point 243 = .ok (.bipush 7, 2) := by decide +kernel
theorem dL_point_245 : decode cL_point 245 = .ok (.if_icmp .ge 15, 3) := by decide +kernel
theorem dL_point_248 : decode cL_point 248 = .ok (.aload_n 0, 1) := by decide +kernel
theorem dL_point_249 : decode cL_point 249 = .ok (.iload_n 2, 1) := by decide +kernel
theorem dL_point_250 : decode cL_point 250 = .ok (.invokestatic 96, 3) := by decide +kernel
theorem dL_point_253 : decode cL_point 253 = .ok (.ifCond .le 7, 3) := by decide +kernel
theorem dL_point_256 : decode cL_point 256 = .ok (.iconst 1, 1) := by decide +kernel
theorem dL_point_257 : decode cL_point 257 = .ok (.goto 4, 3) := by decide +kernel
theorem dL_point_260 : decode cL_point 260 = .ok (.iconst 0, 1) := by decide +kernel
theorem dL_point_261 : decode cL_point 261 = .ok (.istore 6, 2) := by decide +kernel
theorem dL_point_263 : decode cL_point 263 = .ok (.iload 6, 2) := by decide +kernel
theorem dL_point_265 : decode cL_point 265 = .ok (.ifCond .eq 30, 3) := by decide +kernel
theorem dL_point_268 : decode cL_point 268 = .ok (.aload_n 0, 1) := by decide +kernel
theorem dL_point_269 : decode cL_point 269 = .ok (.iload_n 2, 1) := by decide +kernel
theorem dL_point_270 : decode cL_point 270 = .ok (.iconst 0, 1) := by decide +kernel
theorem dL_point_271 : decode cL_point 271 = .ok (.invokestatic 98, 3) := by decide +kernel
theorem dL_point_274 : decode cL_point 274 = .ok (.ldc 18, 2) := by decide +kernel
theorem dL_point_276 : decode cL_point 276 = .ok (.if_icmp .ne 19, 3) := by decide +kernel
theorem dL_point_279 : decode cL_point 279 = .ok (.aload_n 0, 1) := by decide +kernel
theorem dL_point_280 : decode cL_point 280 = .ok (.iload_n 2, 1) := by decide +kernel
theorem dL_point_281 : decode cL_point 281 = .ok (.bipush 17, 2) := by decide +kernel
theorem dL_point_283 : decode cL_point 283 = .ok (.invokestatic 98, 3) := by decide +kernel
theorem dL_point_286 : decode cL_point 286 = .ok (.ldc 18, 2) := by decide +kernel
theorem dL_point_288 : decode cL_point 288 = .ok (.if_icmp .ne 7, 3) := by decide +kernel
theorem dL_point_291 : decode cL_point 291 = .ok (.iconst 1, 1) := by decide +kernel
theorem dL_point_292 : decode cL_point 292 = .ok (.goto 4, 3) := by decide +kernel
theorem dL_point_295 : decode cL_point 295 = .ok (.iconst 0, 1) := by decide +kernel
theorem dL_point_296 : decode cL_point 296 = .ok (.ireturn, 1) := by decide +kernel
theorem dL_subscription_0 : decode cL_subscription 0 = .ok (.aload_n 0, 1) := by decide +kernel
theorem dL_subscription_1 : decode cL_subscription 1 = .ok (.aload_n 1, 1) := by decide +kernel
theorem dL_subscription_2 : decode cL_subscription 2 = .ok (.iconst 3, 1) := by decide +kernel
theorem dL_subscription_3 : decode cL_subscription 3 = .ok (.iload_n 2, 1) := by decide +kernel
theorem dL_subscription_4 : decode cL_subscription 4 = .ok (.imul, 1) := by decide +kernel
theorem dL_subscription_5 : decode cL_subscription 5 = .ok (.iaload, 1) := by decide +kernel
theorem dL_subscription_6 : decode cL_subscription 6 = .ok (.invokestatic 87, 3) := by decide +kernel
theorem dL_subscription_9 : decode cL_subscription 9 = .ok (.aload_n 0, 1) := by decide +kernel
theorem dL_subscription_10 : decode cL_subscription 10 = .ok (.iload_n 2, 1) := by decide +kernel
theorem dL_subscription_11 : decode cL_subscription 11 = .ok (.invokestatic 105, 3) := by decide +kernel
theorem dL_subscription_14 : decode cL_subscription 14 = .ok (.isub, 1) := by decide +kernel
theorem dL_subscription_15 : decode cL_subscription 15 = .ok (.istore_n 3, 1) := by decide +kernel
theorem dL_subscription_16 : decode cL_subscription 16 = .ok (.aload_n 0, 1) := by decide +kernel
theorem dL_subscription_17 : decode cL_subscription 17 = .ok (.iload_n 2, 1) := by decide +kernel
theorem dL_subscription_18 : decode cL_subscription 18 = .ok (.invokestatic 101, 3) := by decide +kernel
theorem dL_subscription_21 : decode cL_subscription 21 = .ok (.ifCond .eq 40, 3) := by decide +kernel
theorem dL_subscription_24 : decode cL_subscription 24 = .ok (.iload_n 3, 1) := by decide +kernel
theorem dL_subscription_25 : decode cL_subscription 25 = .ok (.aload_n 1, 1) := by decide +kernel
theorem dL_subscription_26 : decode cL_subscription 26 = .ok (.iconst 3, 1) := by decide +kernel
theorem dL_subscription_27 : decode cL_subscription 27 = .ok (.iload_n 2, 1) := by decide +kernel
theorem dL_subscription_28 : decode cL_subscription 28 = .ok (.imul, 1) := by decide +kernel
theorem dL_subscription_29 : decode cL_subscription 29 = .ok (.iconst 1, 1) := by decide +kernel
theorem dL_subscription_30 : decode cL_subscription 30 = .ok (.iadd, 1) := by decide +kernel
theorem dL_subscription_31 : decode cL_subscription 31 = .ok (.iaload, 1) := by decide +kernel
theorem dL_subscription_32 : decode cL_subscription 32 = .ok (.if_icmp .ge 33, 3) := by decide +kernel
theorem dL_subscription_35 : decode cL_subscription 35 = .ok (.iload_n 3, 1) := by decide +kernel
theorem dL_subscription_36 : decode cL_subscription 36 = .ok (.ineg, 1) := by decide +kernel
theorem dL_subscription_37 : decode cL_subscription 37 = .ok (.aload_n 1, 1) := by decide +kernel
theorem dL_subscription_38 : decode cL_subscription 38 = .ok (.iconst 3, 1) := by decide +kernel
theorem dL_subscription_39 : decode cL_subscription 39 = .ok (.iload_n 2, 1) := by decide +kernel
theorem dL_subscription_40 : decode cL_subscription 40 = .ok (.imul, 1) := by decide +kernel
theorem dL_subscription_41 : decode cL_subscription 41 = .ok (.iconst 1, 1) := by decide +kernel
theorem dL_subscription_42 : decode cL_subscription 42 = .ok (.iadd, 1) := by decide +kernel
theorem dL_subscription_43 : decode cL_subscription 43 = .ok (.iaload, 1) := by decide +kernel
theorem dL_subscription_44 : decode cL_subscription 44 = .ok (.if_icmp .ge 21, 3) := by decide +kernel
theorem dL_subscription_47 : decode cL_subscription 47 = .ok (.aload_n 0, 1) := by decide +kernel
theorem dL_subscription_48 : decode cL_subscription 48 = .ok (.invokevirtual 81, 3) := by decide +kernel
theorem dL_subscription_51 : decode cL_subscription 51 = .ok (.aload_n 1, 1) := by decide +kernel
theorem dL_subscription_52 : decode cL_subscription 52 = .ok (.iconst 3, 1) := by decide +kernel
theorem dL_subscription_53 : decode cL_subscription 53 = .ok (.iload_n 2, 1) := by decide +kernel
theorem dL_subscription_54 : decode cL_subscription 54 = .ok (.imul, 1) := by decide +kernel
theorem dL_subscription_55 : decode cL_subscription 55 = .ok (.iconst 2, 1) := by decide +kernel
theorem dL_subscription_56 : decode cL_subscription 56 = .ok (.iadd, 1) := by decide +kernel
theorem dL_subscription_57 : decode cL_subscription 57 = .ok (.iaload, 1) := by decide +kernel
theorem dL_subscription_58 : decode cL_subscription 58 = .ok (.if_icmp .ge 7, 3) := by decide +kernel
theorem dL_subscription_61 : decode cL_subscription 61 = .ok (.iconst 1, 1) := by decide +kernel
theorem dL_subscription_62 : decode cL_subscription 62 = .ok (.goto 4, 3) := by decide +kernel
theorem dL_subscription_65 : decode cL_subscription 65 = .ok (.iconst 0, 1) := by decide +kernel
theorem dL_subscription_66 : decode cL_subscription 66 = .ok (.istore 4, 2) := by decide +kernel
theorem dL_subscription_68 : decode cL_subscription 68 = .ok (.iload 4, 2) := by decide +kernel
theorem dL_subscription_70 : decode cL_subscription 70 = .ok (.ifCond .eq 32, 3) := by decide +kernel
theorem dL_subscription_73 : decode cL_subscription 73 = .ok (.aload_n 0, 1) := by decide +kernel
theorem dL_subscription_74 : decode cL_subscription 74 = .ok (.iload_n 2, 1) := by decide +kernel
theorem dL_subscription_75 : decode cL_subscription 75 = .ok (.invokestatic 103, 3) := by decide +kernel
theorem dL_subscription_78 : decode cL_subscription 78 = .ok (.ifCond .lt 24, 3) := by decide +kernel
theorem dL_subscription_81 : decode cL_subscription 81 = .ok (.aload_n 0, 1) := by decide +kernel
theorem dL_subscription_82 : decode cL_subscription 82 = .ok (.iload_n 2, 1) := by decide +kernel
theorem dL_subscription_83 : decode cL_subscription 83 = .ok (.invokestatic 103, 3) := by decide +kernel
theorem dL_subscription_86 : decode cL_subscription 86 = .ok (.aload_n 0, 1) := by decide +kernel
theorem dL_subscription_87 : decode cL_subscription 87 = .ok (.aload_n 1, 1) := by decide +kernel
theorem dL_subscription_88 : decode cL_subscription 88 = .ok (.iconst 3, 1) := by decide +kernel
theorem dL_subscription_89 : decode cL_subscription 89 = .ok (.iload_n 2, 1) := by decide +kernel
theorem dL_subscription_90 : decode cL_subscription 90 = .ok (.imul, 1) := by decide +kernel
theorem dL_subscription_91 : decode cL_subscription 91 = .ok (.iaload, 1) := by decide +kernel
theorem dL_subscription_92 : decode cL_subscription 92 = .ok (.invokestatic 96, 3) := by decide +kernel
theorem dL_subscription_95 : decode cL_subscription 95 = .ok (.if_icmp .gt 7, 3) := by decide +kernel
theorem dL_subscription_98 : decode cL_subscription 98 = .ok (.iconst 1, 1) := by decide +kernel
theorem dL_subscription_99 : decode cL_subscription 99 = .ok (.goto 4, 3) := by decide +kernel
theorem dL_subscription_102 : decode cL_subscription 102 = .ok (.iconst 0, 1) := by decide +kernel
theorem dL_subscription_103 : decode cL_subscription 103 = .ok (.ireturn, 1) := by decide +kernel
theorem dL_isSo_0 : decode cL_isSo 0 = .ok (.iconst 0, 1) := by decide +kernel
theorem dL_isSo_1 : decode cL_isSo 1 = .ok (.istore 5, 2) := by decide +kernel
theorem dL_isSo_3 : decode cL_isSo 3 = .ok (.iload 5, 2) := by decide +kernel
theorem dL_isSo_5 : decode cL_isSo 5 = .ok (.aload 4, 2) := by decide +kernel
theorem dL_isSo_7 : decode cL_isSo 7 = .ok (.iconst 0, 1) := by decide +kernel
theorem dL_isSo_8 : decode cL_isSo 8 = .ok (.iaload, 1) := by decide +kernel
theorem dL_isSo_9 : decode cL_isSo 9 = .ok (.if_icmp .ge 21, 3) := by decide +kernel
theorem dL_isSo_12 : decode cL_isSo 12 = .ok (.aload_n 0, 1) := by decide +kernel
theorem dL_isSo_13 : decode cL_isSo 13 = .ok (.aload_n 1, 1) := by decide +kernel
theorem dL_isSo_14 : decode cL_isSo 14 = .ok (.iload 5, 2) := by decide +kernel
theorem dL_isSo_16 : decode cL_isSo 16 = .ok (.invokestatic 108, 3) := by decide +kernel
theorem dL_isSo_19 : decode cL_isSo 19 = .ok (.ifCond .ne 5, 3) := by decide +kernel
theorem dL_isSo_22 : decode cL_isSo 22 = .ok (.iconst 0, 1) := by decide +kernel
theorem dL_isSo_23 : decode cL_isSo 23 = .ok (.ireturn, 1) := by decide +kernel
theorem dL_isSo_24 : decode cL_isSo 24 = .ok (.iinc 5 1, 3) := by decide +kernel
theorem dL_isSo_27 : decode cL_isSo 27 = .ok (.goto (-24), 3) := by decide +kernel
theorem dL_isSo_30 : decode cL_isSo 30 = .ok (.iconst 0, 1) := by decide +kernel
theorem dL_isSo_31 : decode cL_isSo 31 = .ok (.istore 5, 2) := by decide +kernel
theorem dL_isSo_33 : decode cL_isSo 33 = .ok (.iload 5, 2) := by decide +kernel
theorem dL_isSo_35 : decode cL_isSo 35 = .ok (.aload 4, 2) := by decide +kernel
theorem dL_isSo_37 : decode cL_isSo 37 = .ok (.iconst 1, 1) := by decide +kernel
theorem dL_isSo_38 : decode cL_isSo 38 = .ok (.iaload, 1) := by decide +kernel
theorem dL_isSo_39 : decode cL_isSo 39 = .ok (.if_icmp .ge 21, 3) := by decide +kernel
theorem dL_isSo_42 : decode cL_isSo 42 = .ok (.aload_n 0, 1) := by decide +kernel
theorem dL_isSo_43 : decode cL_isSo 43 = .ok (.aload_n 2, 1) := by decide +kernel
theorem dL_isSo_44 : decode cL_isSo 44 = .ok (.iload 5, 2) := by decide +kernel
theorem dL_isSo_46 : decode cL_isSo 46 = .ok (.invokestatic 112, 3) := by decide +kernel
theorem dL_isSo_49 : decode cL_isSo 49 = .ok (.ifCond .ne 5, 3) := by decide +kernel
theorem dL_isSo_52 : decode cL_isSo 52 = .ok (.iconst 0, 1) := by decide +kernel
theorem dL_isSo_53 : decode cL_isSo 53 = .ok (.ireturn, 1) := by decide +kernel
theorem dL_isSo_54 : decode cL_isSo 54 = .ok (.iinc 5 1, 3) := by decide +kernel
theorem dL_isSo_57 : decode cL_isSo 57 = .ok (.goto (-24), 3) := by decide +kernel
theorem dL_isSo_60 : decode cL_isSo 60 = .ok (.iconst 0, 1) := by decide +kernel
theorem dL_isSo_61 : decode cL_isSo 61 = .ok (.istore 5, 2) := by decide +kernel
theorem dL_isSo_63 : decode cL_isSo 63 = .ok (.iload 5, 2) := by decide +kernel
theorem dL_isSo_65 : decode cL_isSo 65 = .ok (.aload 4, 2) := by decide +kernel
theorem dL_isSo_67 : decode cL_isSo 67 = .ok (.iconst 2, 1) := by decide +kernel
theorem dL_isSo_68 : decode cL_isSo 68 = .ok (.iaload, 1) := by decide +kernel
theorem dL_isSo_69 : decode cL_isSo 69 = .ok (.if_icmp .ge 75, 3) := by decide +kernel
theorem dL_isSo_72 : decode cL_isSo 72 = .ok (.aload_n 0, 1) := by decide +kernel
theorem dL_isSo_73 : decode cL_isSo 73 = .ok (.iload 5, 2) := by decide +kernel
theorem dL_isSo_75 : decode cL_isSo 75 = .ok (.aload_n 0, 1) := by decide +kernel
theorem dL_isSo_76 : decode cL_isSo 76 = .ok (.invokevirtual 81, 3) := by decide +kernel
theorem dL_isSo_79 : decode cL_isSo 79 = .ok (.invokestatic 115, 3) := by decide +kernel
theorem dL_isSo_82 : decode cL_isSo 82 = .ok (.istore 6, 2) := by decide +kernel
theorem dL_isSo_84 : decode cL_isSo 84 = .ok (.aload_n 3, 1) := by decide +kernel
theorem dL_isSo_85 : decode cL_isSo 85 = .ok (.iconst 4, 1) := by decide +kernel
theorem dL_isSo_86 : decode cL_isSo 86 = .ok (.iload 5, 2) := by decide +kernel
theorem dL_isSo_88 : decode cL_isSo 88 = .ok (.imul, 1) := by decide +kernel
theorem dL_isSo_89 : decode cL_isSo 89 = .ok (.iconst 2, 1) := by decide +kernel
theorem dL_isSo_90 : decode cL_isSo 90 = .ok (.iadd, 1) := by decide +kernel
theorem dL_isSo_91 : decode cL_isSo 91 = .ok (.iaload, 1) := by decide +kernel
theorem dL_isSo_92 : decode cL_isSo 92 = .ok (.ifCond .ne 26, 3) := by decide +kernel
theorem dL_isSo_95 : decode cL_isSo 95 = .ok (.aload_n 0, 1) := by decide +kernel
theorem dL_isSo_96 : decode cL_isSo 96 = .ok (.aload_n 3, 1) := by decide +kernel
theorem dL_isSo_97 : decode cL_isSo 97 = .ok (.iconst 4, 1) := by decide +kernel
theorem dL_isSo_98 : decode cL_isSo 98 = .ok (.iload 5, 2) := by decide +kernel
theorem dL_isSo_100 : decode cL_isSo 100 = .ok (.imul, 1) := by decide +kernel
theorem dL_isSo_101 : decode cL_isSo 101 = .ok (.iaload, 1) := by decide +kernel
theorem dL_isSo_102 : decode cL_isSo 102 = .ok (.aload_n 3, 1) := by decide +kernel
theorem dL_isSo_103 : decode cL_isSo 103 = .ok (.iconst 4, 1) := by decide +kernel
theorem dL_isSo_104 : decode cL_isSo 104 = .ok (.iload 5, 2) := by decide +kernel
theorem dL_isSo_106 : decode cL_isSo 106 = .ok (.imul, 1) := by decide +kernel
theorem dL_isSo_107 : decode cL_isSo 107 = .ok (.iconst 1, 1) := by decide +kernel
theorem dL_isSo_108 : decode cL_isSo 108 = .ok (.iadd, 1) := by decide +kernel
theorem dL_isSo_109 : decode cL_isSo 109 = .ok (.iaload, 1) := by decide +kernel
theorem dL_isSo_110 : decode cL_isSo 110 = .ok (.invokestatic 98, 3) := by decide +kernel
theorem dL_isSo_113 : decode cL_isSo 113 = .ok (.iload 6, 2) := by decide +kernel
theorem dL_isSo_115 : decode cL_isSo 115 = .ok (.if_icmp .ne 21, 3) := by decide +kernel
theorem dL_isSo_118 : decode cL_isSo 118 = .ok (.aload_n 3, 1) := by decide +kernel
theorem dL_isSo_119 : decode cL_isSo 119 = .ok (.iconst 4, 1) := by decide +kernel
theorem dL_isSo_120 : decode cL_isSo 120 = .ok (.iload 5, 2) := by decide +kernel
theorem dL_isSo_122 : decode cL_isSo 122 = .ok (.imul, 1) := by decide +kernel
theorem dL_isSo_123 : decode cL_isSo 123 = .ok (.iconst 3, 1) := by decide +kernel
theorem dL_isSo_124 : decode cL_isSo 124 = .ok (.iadd, 1) := by decide +kernel
theorem dL_isSo_125 : decode cL_isSo 125 = .ok (.iaload, 1) := by decide +kernel
theorem dL_isSo_126 : decode cL_isSo 126 = .ok (.ifCond .ne 12, 3) := by decide +kernel
theorem dL_isSo_129 : decode cL_isSo 129 = .ok (.iload 6, 2) := by decide +kernel
theorem dL_isSo_131 : decode cL_isSo 131 = .ok (.ldc 107, 2) := by decide +kernel
theorem dL_isSo_133 : decode cL_isSo 133 = .ok (.if_icmp .eq 5, 3) := by decide +kernel
theorem dL_isSo_136 : decode cL_isSo 136 = .ok (.iconst 0, 1) := by decide +kernel
theorem dL_isSo_137 : decode cL_isSo 137 = .ok (.ireturn, 1) := by decide +kernel
theorem dL_isSo_138 : decode cL_isSo 138 = .ok (.iinc 5 1, 3) := by decide +kernel
theorem dL_isSo_141 : decode cL_isSo 141 = .ok (.goto (-78), 3) := by decide +kernel
theorem dL_isSo_144 : decode cL_isSo 144 = .ok (.aload_n 0, 1) := by decide +kernel
theorem dL_isSo_145 : decode cL_isSo 145 = .ok (.aload 4, 2) := by decide +kernel
theorem dL_isSo_147 : decode cL_isSo 147 = .ok (.iconst 0, 1) := by decide +kernel
theorem dL_isSo_148 : decode cL_isSo 148 = .ok (.iaload, 1) := by decide +kernel
theorem dL_isSo_149 : decode cL_isSo 149 = .ok (.invokestatic 87, 3) := by decide +kernel
theorem dL_isSo_152 : decode cL_isSo 152 = .ok (.ldc 32, 2) := by decide +kernel
theorem dL_isSo_154 : decode cL_isSo 154 = .ok (.if_icmp .ne 86, 3) := by decide +kernel
theorem dL_isSo_157 : decode cL_isSo 157 = .ok (.aload_n 0, 1) := by decide +kernel
theorem dL_isSo_158 : decode cL_isSo 158 = .ok (.iconst (-1), 1) := by decide +kernel
theorem dL_isSo_159 : decode cL_isSo 159 = .ok (.invokestatic 94, 3) := by decide +kernel
theorem dL_isSo_162 : decode cL_isSo 162 = .ok (.ldc 32, 2) := by decide +kernel
theorem dL_isSo_164 : decode cL_isSo 164 = .ok (.if_icmp .ne 76, 3) := by decide +kernel
theorem dL_isSo_167 : decode cL_isSo 167 = .ok (.aload_n 0, 1) := by decide +kernel
theorem dL_isSo_168 : decode cL_isSo 168 = .ok (.aload 4, 2) := by decide +kernel
theorem dL_isSo_170 : decode cL_isSo 170 = .ok (.iconst 0, 1) := by decide +kernel
theorem dL_isSo_171 : decode cL_isSo 171 = .ok (.iaload, 1) := by decide +kernel
theorem dL_isSo_172 : decode cL_isSo 172 = .ok (.invokestatic 92, 3) := by decide +kernel
theorem dL_isSo_175 : decode cL_isSo 175 = .ok (.ldc 32, 2) := by decide +kernel
theorem dL_isSo_177 : decode cL_isSo 177 = .ok (.if_icmp .ne 63, 3) := by decide +kernel
theorem dL_isSo_180 : decode cL_isSo 180 = .ok (.aload_n 0, 1) := by decide +kernel
theorem dL_isSo_181 : decode cL_isSo 181 = .ok (.aload 4, 2) := by decide +kernel
theorem dL_isSo_183 : decode cL_isSo 183 = .ok (.iconst 1, 1) := by decide +kernel
theorem dL_isSo_184 : decode cL_isSo 184 = .ok (.iaload, 1) := by decide +kernel
theorem dL_isSo_185 : decode cL_isSo 185 = .ok (.invokestatic 101, 3) := by decide +kernel
theorem dL_isSo_188 : decode cL_isSo 188 = .ok (.ldc 32, 2) := by decide +kernel
theorem dL_isSo_190 : decode cL_isSo 190 = .ok (.if_icmp .ne 50, 3) := by decide +kernel
theorem dL_isSo_193 : decode cL_isSo 193 = .ok (.aload_n 0, 1) := by decide +kernel
theorem dL_isSo_194 : decode cL_isSo 194 = .ok (.iconst (-1), 1) := by decide +kernel
theorem dL_isSo_195 : decode cL_isSo 195 = .ok (.invokestatic 103, 3) := by decide +kernel
theorem dL_isSo_198 : decode cL_isSo 198 = .ok (.ldc 32, 2) := by decide +kernel
theorem dL_isSo_200 : decode cL_isSo 200 = .ok (.if_icmp .ne 40, 3) := by decide +kernel
theorem dL_isSo_203 : decode cL_isSo 203 = .ok (.aload_n 0, 1) := by decide +kernel
theorem dL_isSo_204 : decode cL_isSo 204 = .ok (.aload 4, 2) := by decide +kernel
theorem dL_isSo_206 : decode cL_isSo 206 = .ok (.iconst 2, 1) := by decide +kernel
theorem dL_isSo_207 : decode cL_isSo 207 = .ok (.iaload, 1) := by decide +kernel
theorem dL_isSo_208 : decode cL_isSo 208 = .ok (.iconst (-1), 1) := by decide +kernel
theorem dL_isSo_209 : decode cL_isSo 209 = .ok (.invokestatic 115, 3) := by decide +kernel
theorem dL_isSo_212 : decode cL_isSo 212 = .ok (.ldc 32, 2) := by decide +kernel
theorem dL_isSo_214 : decode cL_isSo 214 = .ok (.if_icmp .ne 26, 3) := by decide +kernel
theorem dL_isSo_217 : decode cL_isSo 217 = .ok (.aload 4, 2) := by decide +kernel
theorem dL_isSo_219 : decode cL_isSo 219 = .ok (.iconst 2, 1) := by decide +kernel
theorem dL_isSo_220 : decode cL_isSo 220 = .ok (.iaload, 1) := by decide +kernel
theorem dL_isSo_221 : decode cL_isSo 221 = .ok (.ifCond .eq 15, 3) := by decide +kernel
theorem dL_isSo_224 : decode cL_isSo 224 = .ok (.aload_n 0, 1) := by decide +kernel
theorem dL_isSo_225 : decode cL_isSo 225 = .ok (.iconst 0, 1) := by decide +kernel
theorem dL_isSo_226 : decode cL_isSo 226 = .ok (.ldc 117, 2) := by decide +kernel
theorem dL_isSo_228 : decode cL_isSo 228 = .ok (.invokestatic 115, 3) := by decide +kernel
theorem dL_isSo_231 : decode cL_isSo 231 = .ok (.ldc 18, 2) := by decide +kernel
theorem dL_isSo_233 : decode cL_isSo 233 = .ok (.if_icmp .ne 7, 3) := by decide +kernel
theorem dL_isSo_236 : decode cL_isSo 236 = .ok (.iconst 1, 1) := by decide +kernel
theorem dL_isSo_237 : decode cL_isSo 237 = .ok (.goto 4, 3) := by decide +kernel
theorem dL_isSo_240 : decode cL_isSo 240 = .ok (.iconst 0, 1) := by decide +kernel
theorem dL_isSo_241 : decode cL_isSo 241 = .ok (.ireturn, 1) := by decide +kernel
theorem dL_passes_0 : decode cL_passes 0 = .ok (.bipush 16, 2) := by decide +kernel
theorem dL_passes_2 : decode cL_passes 2 = .ok (.newarray .int, 2) := by decide +kernel
theorem dL_passes_4 : decode cL_passes 4 = .ok (.astore 5, 2) := by decide +kernel
theorem dL_passes_6 : decode cL_passes 6 = .ok (.bipush 16, 2) := by decide +kernel
theorem dL_passes_8 : decode cL_passes 8 = .ok (.newarray .int, 2) := by decide +kernel
theorem dL_passes_10 : decode cL_passes 10 = .ok (.astore 6, 2) := by decide +kernel
theorem dL_passes_12 : decode cL_passes 12 = .ok (.iconst 0, 1) := by decide +kernel
theorem dL_passes_13 : decode cL_passes 13 = .ok (.istore 7, 2) := by decide +kernel
theorem dL_passes_15 : decode cL_passes 15 = .ok (.iconst 1, 1) := by decide +kernel
theorem dL_passes_16 : decode cL_passes 16 = .ok (.istore 8, 2) := by decide +kernel
theorem dL_passes_18 : decode cL_passes 18 = .ok (.iconst 0, 1) := by decide +kernel
theorem dL_passes_19 : decode cL_passes 19 = .ok (.istore 9, 2) := by decide +kernel
theorem dL_passes_21 : decode cL_passes 21 = .ok (.iload 9, 2) := by decide +kernel
theorem dL_passes_23 : decode cL_passes 23 = .ok (.iload 4, 2) := by decide +kernel
theorem dL_passes_25 : decode cL_passes 25 = .ok (.if_icmp .ge 250, 3) := by decide +kernel
theorem dL_passes_28 : decode cL_passes 28 = .ok (.iload 8, 2) := by decide +kernel
theorem dL_passes_30 : decode cL_passes 30 = .ok (.ifCond .eq 245, 3) := by decide +kernel
theorem dL_passes_33 : decode cL_passes 33 = .ok (.iconst 0, 1) := by decide +kernel
theorem dL_passes_34 : decode cL_passes 34 = .ok (.istore 10, 2) := by decide +kernel
theorem dL_passes_36 : decode cL_passes 36 = .ok (.iconst 0, 1) := by decide +kernel
theorem dL_passes_37 : decode cL_passes 37 = .ok (.istore 11, 2) := by decide +kernel
theorem dL_passes_39 : decode cL_passes 39 = .ok (.iload 11, 2) := by decide +kernel
theorem dL_passes_41 : decode cL_passes 41 = .ok (.aload_n 3, 1) := by decide +kernel
theorem dL_passes_42 : decode cL_passes 42 = .ok (.iconst 1, 1) := by decide +kernel
theorem dL_passes_43 : decode cL_passes 43 = .ok (.iaload, 1) := by decide +kernel
theorem dL_passes_44 : decode cL_passes 44 = .ok (.if_icmp .ge 20, 3) := by decide +kernel
theorem dL_passes_47 : decode cL_passes 47 = .ok (.iload 10, 2) := by decide +kernel
theorem dL_passes_49 : decode cL_passes 49 = .ok (.aload_n 1, 1) := by decide +kernel
theorem dL_passes_50 : decode cL_passes 50 = .ok (.iload 11, 2) := by decide +kernel
theorem dL_passes_52 : decode cL_passes 52 = .ok (.invokestatic 103, 3) := by decide +kernel
theorem dL_passes_55 : decode cL_passes 55 = .ok (.isub, 1) := by decide +kernel
theorem dL_passes_56 : decode cL_passes 56 = .ok (.istore 10, 2) := by decide +kernel
theorem dL_passes_58 : decode cL_passes 58 = .ok (.iinc 11 1, 3) := by decide +kernel
theorem dL_passes_61 : decode cL_passes 61 = .ok (.goto (-22), 3) := by decide +kernel
theorem dL_passes_64 : decode cL_passes 64 = .ok (.iconst 0, 1) := by decide +kernel
theorem dL_passes_65 : decode cL_passes 65 = .ok (.istore 11, 2) := by decide +kernel
theorem dL_passes_67 : decode cL_passes 67 = .ok (.iload 11, 2) := by decide +kernel
theorem dL_passes_69 : decode cL_passes 69 = .ok (.aload_n 3, 1) := by decide +kernel
theorem dL_passes_70 : decode cL_passes 70 = .ok (.iconst 0, 1) := by decide +kernel
theorem dL_passes_71 : decode cL_passes 71 = .ok (.iaload, 1) := by decide +kernel
theorem dL_passes_72 : decode cL_passes 72 = .ok (.if_icmp .ge 31, 3) := by decide +kernel
theorem dL_passes_75 : decode cL_passes 75 = .ok (.aload 5, 2) := by decide +kernel
theorem dL_passes_77 : decode cL_passes 77 = .ok (.iload 11, 2) := by decide +kernel
theorem dL_passes_79 : decode cL_passes 79 = .ok (.aload_n 1, 1) := by decide +kernel
theorem dL_passes_80 : decode cL_passes 80 = .ok (.iload 11, 2) := by decide +kernel
theorem dL_passes_82 : decode cL_passes 82 = .ok (.invokestatic 94, 3) := by decide +kernel
theorem dL_passes_85 : decode cL_passes 85 = .ok (.iastore, 1) := by decide +kernel
theorem dL_passes_86 : decode cL_passes 86 = .ok (.aload 6, 2) := by decide +kernel
theorem dL_passes_88 : decode cL_passes 88 = .ok (.iload 11, 2) := by decide +kernel
theorem dL_passes_90 : decode cL_passes 90 = .ok (.aload_n 1, 1) := by decide +kernel
theorem dL_passes_91 : decode cL_passes 91 = .ok (.iload 11, 2) := by decide +kernel
theorem dL_passes_93 : decode cL_passes 93 = .ok (.invokestatic 96, 3) := by decide +kernel
theorem dL_passes_96 : decode cL_passes 96 = .ok (.iastore, 1) := by decide +kernel
theorem dL_passes_97 : decode cL_passes 97 = .ok (.iinc 11 1, 3) := by decide +kernel
theorem dL_passes_100 : decode cL_passes 100 = .ok (.goto (-33), 3) := by decide +kernel
theorem dL_passes_103 : decode cL_passes 103 = .ok (.aload_n 1, 1) := by decide +kernel
theorem dL_passes_104 : decode cL_passes 104 = .ok (.iconst 1, 1) := by decide +kernel
theorem dL_passes_105 : decode cL_passes 105 = .ok (.invokestatic 118, 3) := by decide +kernel
theorem dL_passes_108 : decode cL_passes 108 = .ok (.istore 11, 2) := by decide +kernel
theorem dL_passes_110 : decode cL_passes 110 = .ok (.iload 7, 2) := by decide +kernel
theorem dL_passes_112 : decode cL_passes 112 = .ok (.iload 11, 2) := by decide +kernel
theorem dL_passes_114 : decode cL_passes 114 = .ok (.iadd, 1) := by decide +kernel
theorem dL_passes_115 : decode cL_passes 115 = .ok (.istore 7, 2) := by decide +kernel
theorem dL_passes_117 : decode cL_passes 117 = .ok (.iconst 0, 1) := by decide +kernel
theorem dL_passes_118 : decode cL_passes 118 = .ok (.istore 12, 2) := by decide +kernel
theorem dL_passes_120 : decode cL_passes 120 = .ok (.iload 12, 2) := by decide +kernel
theorem dL_passes_122 : decode cL_passes 122 = .ok (.aload_n 3, 1) := by decide +kernel
theorem dL_passes_123 : decode cL_passes 123 = .ok (.iconst 1, 1) := by decide +kernel
theorem dL_passes_124 : decode cL_passes 124 = .ok (.iaload, 1) := by decide +kernel
theorem dL_passes_125 : decode cL_passes 125 = .ok (.if_icmp .ge 20, 3) := by decide +kernel
theorem dL_passes_128 : decode cL_passes 128 = .ok (.iload 10, 2) := by decide +kernel
theorem dL_passes_130 : decode cL_passes 130 = .ok (.aload_n 1, 1) := by decide +kernel
theorem dL_passes_131 : decode cL_passes 131 = .ok (.iload 12, 2) := by decide +kernel
theorem dL_passes_133 : decode cL_passes 133 = .ok (.invokestatic 103, 3) := by decide +kernel
theorem dL_passes_136 : decode cL_passes 136 = .ok (.iadd, 1) := by decide +kernel
theorem dL_passes_137 : decode cL_passes 137 = .ok (.istore 10, 2) := by decide +kernel
theorem dL_passes_139 : decode cL_passes 139 = .ok (.iinc 12 1, 3) := by decide +kernel
theorem dL_passes_142 : decode cL_passes 142 = .ok (.goto (-22), 3) := by decide +kernel
theorem dL_passes_145 : decode cL_passes 145 = .ok (.iconst 0, 1) := by decide +kernel
theorem dL_passes_146 : decode cL_passes 146 = .ok (.istore 12, 2) := by decide +kernel
theorem dL_passes_148 : decode cL_passes 148 = .ok (.iload 12, 2) := by decide +kernel
theorem dL_passes_150 : decode cL_passes 150 = .ok (.aload_n 3, 1) := by decide +kernel
theorem dL_passes_151 : decode cL_passes 151 = .ok (.iconst 0, 1) := by decide +kernel
theorem dL_passes_152 : decode cL_passes 152 = .ok (.iaload, 1) := by decide +kernel
theorem dL_passes_153 : decode cL_passes 153 = .ok (.if_icmp .ge 97, 3) := by decide +kernel
theorem dL_passes_156 : decode cL_passes 156 = .ok (.aload_n 1, 1) := by decide +kernel
theorem dL_passes_157 : decode cL_passes 157 = .ok (.iload 12, 2) := by decide +kernel
theorem dL_passes_159 : decode cL_passes 159 = .ok (.invokestatic 96, 3) := by decide +kernel
theorem dL_passes_162 : decode cL_passes 162 = .ok (.aload 6, 2) := by decide +kernel
theorem dL_passes_164 : decode cL_passes 164 = .ok (.iload 12, 2) := by decide +kernel
theorem dL_passes_166 : decode cL_passes 166 = .ok (.iaload, 1) := by decide +kernel
theorem dL_passes_167 : decode cL_passes 167 = .ok (.isub, 1) := by decide +kernel
theorem dL_passes_168 : decode cL_passes 168 = .ok (.istore 13, 2) := by decide +kernel
theorem dL_passes_170 : decode cL_passes 170 = .ok (.iload 8, 2) := by decide +kernel
theorem dL_passes_172 : decode cL_passes 172 = .ok (.ifCond .eq 69, 3) := by decide +kernel
theorem dL_passes_175 : decode cL_passes 175 = .ok (.aload 5, 2) := by decide +kernel
theorem dL_passes_177 : decode cL_passes 177 = .ok (.iload 12, 2) := by decide +kernel
theorem dL_passes_179 : decode cL_passes 179 = .ok (.iaload, 1) := by decide +kernel
theorem dL_passes_180 : decode cL_passes 180 = .ok (.iconst 2, 1) := by decide +kernel
theorem dL_passes_181 : decode cL_passes 181 = .ok (.if_icmp .lt 24, 3) := by decide +kernel
theorem dL_passes_184 : decode cL_passes 184 = .ok (.iload 13, 2) := by decide +kernel
theorem dL_passes_186 : decode cL_passes 186 = .ok (.ifCond .ne 55, 3) := by decide +kernel
theorem dL_passes_189 : decode cL_passes 189 = .ok (.aload_n 1, 1) := by decide +kernel
theorem dL_passes_190 : decode cL_passes 190 = .ok (.iload 12, 2) := by decide +kernel
theorem dL_passes_192 : decode cL_passes 192 = .ok (.invokestatic 94, 3) := by decide +kernel
theorem dL_passes_195 : decode cL_passes 195 = .ok (.aload 5, 2) := by decide +kernel
theorem dL_passes_197 : decode cL_passes 197 = .ok (.iload 12, 2) := by decide +kernel
theorem dL_passes_199 : decode cL_passes 199 = .ok (.iaload, 1) := by decide +kernel
theorem dL_passes_200 : decode cL_passes 200 = .ok (.iconst 1, 1) := by decide +kernel
theorem dL_passes_201 : decode cL_passes 201 = .ok (.isub, 1) := by decide +kernel
theorem dL_passes_202 : decode cL_passes 202 = .ok (.if_icmp .ne 39, 3) := by decide +kernel
theorem dL_passes_205 : decode cL_passes 205 = .ok (.iload 13, 2) := by decide +kernel
theorem dL_passes_207 : decode cL_passes 207 = .ok (.ifCond .eq 30, 3) := by decide +kernel
theorem dL_passes_210 : decode cL_passes 210 = .ok (.aload_n 2, 1) := by decide +kernel
theorem dL_passes_211 : decode cL_passes 211 = .ok (.bipush 16, 2) := by decide +kernel
theorem dL_passes_213 : decode cL_passes 213 = .ok (.iload 12, 2) := by decide +kernel
theorem dL_passes_215 : decode cL_passes 215 = .ok (.iadd, 1) := by decide +kernel
theorem dL_passes_216 : decode cL_passes 216 = .ok (.iaload, 1) := by decide +kernel
theorem dL_passes_217 : decode cL_passes 217 = .ok (.iconst 1, 1) := by decide +kernel
theorem dL_passes_218 : decode cL_passes 218 = .ok (.if_icmp .lt 19, 3) := by decide +kernel
theorem dL_passes_221 : decode cL_passes 221 = .ok (.aload_n 1, 1) := by decide +kernel
theorem dL_passes_222 : decode cL_passes 222 = .ok (.iload 12, 2) := by decide +kernel
theorem dL_passes_224 : decode cL_passes 224 = .ok (.invokestatic 94, 3) := by decide +kernel
theorem dL_passes_227 : decode cL_passes 227 = .ok (.aload_n 2, 1) := by decide +kernel
theorem dL_passes_228 : decode cL_passes 228 = .ok (.bipush 16, 2) := by decide +kernel
theorem dL_passes_230 : decode cL_passes 230 = .ok (.iload 12, 2) := by decide +kernel
theorem dL_passes_232 : decode cL_passes 232 = .ok (.iadd, 1) := by decide +kernel
theorem dL_passes_233 : decode cL_passes 233 = .ok (.iaload, 1) := by decide +kernel
theorem dL_passes_234 : decode cL_passes 234 = .ok (.if_icmp .ne 7, 3) := by decide +kernel
theorem dL_passes_237 : decode cL_passes 237 = .ok (.iconst 1, 1) := by decide +kernel
theorem dL_passes_238 : decode cL_passes 238 = .ok (.goto 4, 3) := by decide +kernel
theorem dL_passes_241 : decode cL_passes 241 = .ok (.iconst 0, 1) := by decide +kernel
theorem dL_passes_242 : decode cL_passes 242 = .ok (.istore 8, 2) := by decide +kernel
theorem dL_passes_244 : decode cL_passes 244 = .ok (.iinc 12 1, 3) := by decide +kernel
theorem dL_passes_247 : decode cL_passes 247 = .ok (.goto (-99), 3) := by decide +kernel
theorem dL_passes_250 : decode cL_passes 250 = .ok (.iload 8, 2) := by decide +kernel
theorem dL_passes_252 : decode cL_passes 252 = .ok (.ifCond .eq 14, 3) := by decide +kernel
theorem dL_passes_255 : decode cL_passes 255 = .ok (.iload 10, 2) := by decide +kernel
theorem dL_passes_257 : decode cL_passes 257 = .ok (.iload 11, 2) := by decide +kernel
theorem dL_passes_259 : decode cL_passes 259 = .ok (.if_icmp .ne 7, 3) := by decide +kernel
theorem dL_passes_262 : decode cL_passes 262 = .ok (.iconst 1, 1) := by decide +kernel
theorem dL_passes_263 : decode cL_passes 263 = .ok (.goto 4, 3) := by decide +kernel
theorem dL_passes_266 : decode cL_passes 266 = .ok (.iconst 0, 1) := by decide +kernel
theorem dL_passes_267 : decode cL_passes 267 = .ok (.istore 8, 2) := by decide +kernel
theorem dL_passes_269 : decode cL_passes 269 = .ok (.iinc 9 1, 3) := by decide +kernel
theorem dL_passes_272 : decode cL_passes 272 = .ok (.goto (-251), 3) := by decide +kernel
theorem dL_passes_275 : decode cL_passes 275 = .ok (.iload 8, 2) := by decide +kernel
theorem dL_passes_277 : decode cL_passes 277 = .ok (.ifCond .eq 40, 3) := by decide +kernel
theorem dL_passes_280 : decode cL_passes 280 = .ok (.aload_n 0, 1) := by decide +kernel
theorem dL_passes_281 : decode cL_passes 281 = .ok (.iload 4, 2) := by decide +kernel
theorem dL_passes_283 : decode cL_passes 283 = .ok (.invokestatic 118, 3) := by decide +kernel
theorem dL_passes_286 : decode cL_passes 286 = .ok (.iload 7, 2) := by decide +kernel
theorem dL_passes_288 : decode cL_passes 288 = .ok (.if_icmp .ne 29, 3) := by decide +kernel
theorem dL_passes_291 : decode cL_passes 291 = .ok (.aload_n 0, 1) := by decide +kernel
theorem dL_passes_292 : decode cL_passes 292 = .ok (.iconst 0, 1) := by decide +kernel
theorem dL_passes_293 : decode cL_passes 293 = .ok (.invokestatic 118, 3) := by decide +kernel
theorem dL_passes_296 : decode cL_passes 296 = .ok (.ldc 18, 2) := by decide +kernel
theorem dL_passes_298 : decode cL_passes 298 = .ok (.if_icmp .ne 19, 3) := by decide +kernel
theorem dL_passes_301 : decode cL_passes 301 = .ok (.aload_n 0, 1) := by decide +kernel
theorem dL_passes_302 : decode cL_passes 302 = .ok (.sipush 5001, 3) := by decide +kernel
theorem dL_passes_305 : decode cL_passes 305 = .ok (.invokestatic 118, 3) := by decide +kernel
theorem dL_passes_308 : decode cL_passes 308 = .ok (.ldc 18, 2) := by decide +kernel
theorem dL_passes_310 : decode cL_passes 310 = .ok (.if_icmp .ne 7, 3) := by decide +kernel
theorem dL_passes_313 : decode cL_passes 313 = .ok (.iconst 1, 1) := by decide +kernel
theorem dL_passes_314 : decode cL_passes 314 = .ok (.goto 4, 3) := by decide +kernel
theorem dL_passes_317 : decode cL_passes 317 = .ok (.iconst 0, 1) := by decide +kernel
theorem dL_passes_318 : decode cL_passes 318 = .ok (.ireturn, 1) := by decide +kernel
theorem dL_writes_0 : decode cL_writes 0 = .ok (.aload_n 0, 1) := by decide +kernel
theorem dL_writes_1 : decode cL_writes 1 = .ok (.iload 4, 2) := by decide +kernel
theorem dL_writes_3 : decode cL_writes 3 = .ok (.invokestatic 87, 3) := by decide +kernel
theorem dL_writes_6 : decode cL_writes 6 = .ok (.istore 7, 2) := by decide +kernel
theorem dL_writes_8 : decode cL_writes 8 = .ok (.aload_n 0, 1) := by decide +kernel
theorem dL_writes_9 : decode cL_writes 9 = .ok (.iload 4, 2) := by decide +kernel
theorem dL_writes_11 : decode cL_writes 11 = .ok (.invokestatic 96, 3) := by decide +kernel
theorem dL_writes_14 : decode cL_writes 14 = .ok (.istore 8, 2) := by decide +kernel
theorem dL_writes_16 : decode cL_writes 16 = .ok (.aload_n 0, 1) := by decide +kernel
theorem dL_writes_17 : decode cL_writes 17 = .ok (.iload 4, 2) := by decide +kernel
theorem dL_writes_19 : decode cL_writes 19 = .ok (.iload 5, 2) := by decide +kernel
theorem dL_writes_21 : decode cL_writes 21 = .ok (.invokestatic 98, 3) := by decide +kernel
theorem dL_writes_24 : decode cL_writes 24 = .ok (.istore 9, 2) := by decide +kernel
theorem dL_writes_26 : decode cL_writes 26 = .ok (.aload_n 0, 1) := by decide +kernel
theorem dL_writes_27 : decode cL_writes 27 = .ok (.iload 4, 2) := by decide +kernel
theorem dL_writes_29 : decode cL_writes 29 = .ok (.invokestatic 94, 3) := by decide +kernel
theorem dL_writes_32 : decode cL_writes 32 = .ok (.istore 10, 2) := by decide +kernel
theorem dL_writes_34 : decode cL_writes 34 = .ok (.aload_n 0, 1) := by decide +kernel
theorem dL_writes_35 : decode cL_writes 35 = .ok (.iload 4, 2) := by decide +kernel
theorem dL_writes_37 : decode cL_writes 37 = .ok (.iload 5, 2) := by decide +kernel
theorem dL_writes_39 : decode cL_writes 39 = .ok (.iload 6, 2) := by decide +kernel
theorem dL_writes_41 : decode cL_writes 41 = .ok (.invokestatic 120, 3) := by decide +kernel
theorem dL_writes_44 : decode cL_writes 44 = .ok (.istore 11, 2) := by decide +kernel
theorem dL_writes_46 : decode cL_writes 46 = .ok (.aload_n 1, 1) := by decide +kernel
theorem dL_writes_47 : decode cL_writes 47 = .ok (.iload 4, 2) := by decide +kernel
theorem dL_writes_49 : decode cL_writes 49 = .ok (.iload 5, 2) := by decide +kernel
theorem dL_writes_51 : decode cL_writes 51 = .ok (.iload 6, 2) := by decide +kernel
theorem dL_writes_53 : decode cL_writes 53 = .ok (.invokestatic 120, 3) := by decide +kernel
theorem dL_writes_56 : decode cL_writes 56 = .ok (.iload 11, 2) := by decide +kernel
theorem dL_writes_58 : decode cL_writes 58 = .ok (.if_icmp .ne 7, 3) := by decide +kernel
theorem dL_writes_61 : decode cL_writes 61 = .ok (.iconst 1, 1) := by decide +kernel
theorem dL_writes_62 : decode cL_writes 62 = .ok (.goto 4, 3) := by decide +kernel
theorem dL_writes_65 : decode cL_writes 65 = .ok (.iconst 0, 1) := by decide +kernel
theorem dL_writes_66 : decode cL_writes 66 = .ok (.istore 12, 2) := by decide +kernel
theorem dL_writes_68 : decode cL_writes 68 = .ok (.iload 5, 2) := by decide +kernel
theorem dL_writes_70 : decode cL_writes 70 = .ok (.bipush 6, 2) := by decide +kernel
theorem dL_writes_72 : decode cL_writes 72 = .ok (.if_icmp .ne 50, 3) := by decide +kernel
theorem dL_writes_75 : decode cL_writes 75 = .ok (.iload 10, 2) := by decide +kernel
theorem dL_writes_77 : decode cL_writes 77 = .ok (.ifCond .le 45, 3) := by decide +kernel
theorem dL_writes_80 : decode cL_writes 80 = .ok (.iload 12, 2) := by decide +kernel
theorem dL_writes_82 : decode cL_writes 82 = .ok (.ifCond .eq 38, 3) := by decide +kernel
theorem dL_writes_85 : decode cL_writes 85 = .ok (.iload 11, 2) := by decide +kernel
theorem dL_writes_87 : decode cL_writes 87 = .ok (.ldc 21, 2) := by decide +kernel
theorem dL_writes_89 : decode cL_writes 89 = .ok (.if_icmp .ne 31, 3) := by decide +kernel
theorem dL_writes_92 : decode cL_writes 92 = .ok (.aload_n 0, 1) := by decide +kernel
theorem dL_writes_93 : decode cL_writes 93 = .ok (.iload 4, 2) := by decide +kernel
theorem dL_writes_95 : decode cL_writes 95 = .ok (.bipush 6, 2) := by decide +kernel
theorem dL_writes_97 : decode cL_writes 97 = .ok (.invokestatic 98, 3) := by decide +kernel
theorem dL_writes_100 : decode cL_writes 100 = .ok (.iload 9, 2) := by decide +kernel
theorem dL_writes_102 : decode cL_writes 102 = .ok (.if_icmp .ne 18, 3) := by decide +kernel
theorem dL_writes_105 : decode cL_writes 105 = .ok (.aload_n 0, 1) := by decide +kernel
theorem dL_writes_106 : decode cL_writes 106 = .ok (.iload 4, 2) := by decide +kernel
theorem dL_writes_108 : decode cL_writes 108 = .ok (.invokestatic 96, 3) := by decide +kernel
theorem dL_writes_111 : decode cL_writes 111 = .ok (.iload 8, 2) := by decide +kernel
theorem dL_writes_113 : decode cL_writes 113 = .ok (.if_icmp .ne 7, 3) := by decide +kernel
theorem dL_writes_116 : decode cL_writes 116 = .ok (.iconst 1, 1) := by decide +kernel
theorem dL_writes_117 : decode cL_writes 117 = .ok (.goto 4, 3) := by decide +kernel
theorem dL_writes_120 : decode cL_writes 120 = .ok (.iconst 0, 1) := by decide +kernel
theorem dL_writes_121 : decode cL_writes 121 = .ok (.ireturn, 1) := by decide +kernel
theorem dL_writes_122 : decode cL_writes 122 = .ok (.iconst 0, 1) := by decide +kernel
theorem dL_writes_123 : decode cL_writes 123 = .ok (.istore 13, 2) := by decide +kernel
theorem dL_writes_125 : decode cL_writes 125 = .ok (.iload 13, 2) := by decide +kernel
theorem dL_writes_127 : decode cL_writes 127 = .ok (.aload_n 3, 1) := by decide +kernel
theorem dL_writes_128 : decode cL_writes 128 = .ok (.iconst 2, 1) := by decide +kernel
theorem dL_writes_129 : decode cL_writes 129 = .ok (.iaload, 1) := by decide +kernel
theorem dL_writes_130 : decode cL_writes 130 = .ok (.if_icmp .ge 49, 3) := by decide +kernel
theorem dL_writes_133 : decode cL_writes 133 = .ok (.aload_n 2, 1) := by decide +kernel
theorem dL_writes_134 : decode cL_writes 134 = .ok (.iconst 4, 1) := by decide +kernel
theorem dL_writes_135 : decode cL_writes 135 = .ok (.iload 13, 2) := by decide +kernel
theorem dL_writes_137 : decode cL_writes 137 = .ok (.imul, 1) := by decide +kernel
theorem dL_writes_138 : decode cL_writes 138 = .ok (.iconst 2, 1) := by decide +kernel
theorem dL_writes_139 : decode cL_writes 139 = .ok (.iadd, 1) := by decide +kernel
theorem dL_writes_140 : decode cL_writes 140 = .ok (.dup2, 1) := by decide +kernel
theorem dL_writes_141 : decode cL_writes 141 = .ok (.iaload, 1) := by decide +kernel
theorem dL_writes_142 : decode cL_writes 142 = .ok (.aload_n 2, 1) := by decide +kernel
theorem dL_writes_143 : decode cL_writes 143 = .ok (.iconst 4, 1) := by decide +kernel
theorem dL_writes_144 : decode cL_writes 144 = .ok (.iload 13, 2) := by decide +kernel
theorem dL_writes_146 : decode cL_writes 146 = .ok (.imul, 1) := by decide +kernel
theorem dL_writes_147 : decode cL_writes 147 = .ok (.iaload, 1) := by decide +kernel
theorem dL_writes_148 : decode cL_writes 148 = .ok (.iload 4, 2) := by decide +kernel
theorem dL_writes_150 : decode cL_writes 150 = .ok (.if_icmp .ne 20, 3) := by decide +kernel
theorem dL_writes_153 : decode cL_writes 153 = .ok (.aload_n 2, 1) := by decide +kernel
theorem dL_writes_154 : decode cL_writes 154 = .ok (.iconst 4, 1) := by decide +kernel
theorem dL_writes_155 : decode cL_writes 155 = .ok (.iload 13, 2) := by decide +kernel
theorem dL_writes_157 : decode cL_writes 157 = .ok (.imul, 1) := by decide +kernel
theorem dL_writes_158 : decode cL_writes 158 = .ok (.iconst 1, 1) := by decide +kernel
theorem dL_writes_159 : decode cL_writes 159 = .ok (.iadd, 1) := by decide +kernel
theorem dL_writes_160 : decode cL_writes 160 = .ok (.iaload, 1) := by decide +kernel
theorem dL_writes_161 : decode cL_writes 161 = .ok (.iload 5, 2) := by decide +kernel
theorem dL_writes_163 : decode cL_writes 163 = .ok (.if_icmp .ne 7, 3) := by decide +kernel
theorem dL_writes_166 : decode cL_writes 166 = .ok (.iconst 1, 1) := by decide +kernel
theorem dL_writes_167 : decode cL_writes 167 = .ok (.goto 4, 3) := by decide +kernel
theorem dL_writes_170 : decode cL_writes 170 = .ok (.iconst 0, 1) := by decide +kernel
theorem dL_writes_171 : decode cL_writes 171 = .ok (.ior, 1) := by decide +kernel
theorem dL_writes_172 : decode cL_writes 172 = .ok (.iastore, 1) := by decide +kernel
theorem dL_writes_173 : decode cL_writes 173 = .ok (.iinc 13 1, 3) := by decide +kernel
theorem dL_writes_176 : decode cL_writes 176 = .ok (.goto (-51), 3) := by decide +kernel
theorem dL_writes_179 : decode cL_writes 179 = .ok (.iload 12, 2) := by decide +kernel
theorem dL_writes_181 : decode cL_writes 181 = .ok (.ifCond .eq 80, 3) := by decide +kernel
theorem dL_writes_184 : decode cL_writes 184 = .ok (.aload_n 0, 1) := by decide +kernel
theorem dL_writes_185 : decode cL_writes 185 = .ok (.iload 4, 2) := by decide +kernel
theorem dL_writes_187 : decode cL_writes 187 = .ok (.invokestatic 87, 3) := by decide +kernel
theorem dL_writes_190 : decode cL_writes 190 = .ok (.iload 11, 2) := by decide +kernel
theorem dL_writes_192 : decode cL_writes 192 = .ok (.if_icmp .ne 69, 3) := by decide +kernel
theorem dL_writes_195 : decode cL_writes 195 = .ok (.aload_n 0, 1) := by decide +kernel
theorem dL_writes_196 : decode cL_writes 196 = .ok (.iload 4, 2) := by decide +kernel
theorem dL_writes_198 : decode cL_writes 198 = .ok (.invokestatic 96, 3) := by decide +kernel
theorem dL_writes_201 : decode cL_writes 201 = .ok (.iload 8, 2) := by decide +kernel
theorem dL_writes_203 : decode cL_writes 203 = .ok (.iload 11, 2) := by decide +kernel
theorem dL_writes_205 : decode cL_writes 205 = .ok (.iload 7, 2) := by decide +kernel
theorem dL_writes_207 : decode cL_writes 207 = .ok (.if_icmp .ne 7, 3) := by decide +kernel
theorem dL_writes_210 : decode cL_writes 210 = .ok (.iconst 0, 1) := by decide +kernel
theorem dL_writes_211 : decode cL_writes 211 = .ok (.goto 4, 3) := by decide +kernel
theorem dL_writes_214 : decode cL_writes 214 = .ok (.iconst 1, 1) := by decide +kernel
theorem dL_writes_215 : decode cL_writes 215 = .ok (.iadd, 1) := by decide +kernel
theorem dL_writes_216 : decode cL_writes 216 = .ok (.if_icmp .ne 45, 3) := by decide +kernel
theorem dL_writes_219 : decode cL_writes 219 = .ok (.iload 5, 2) := by decide +kernel
theorem dL_writes_221 : decode cL_writes 221 = .ok (.bipush 6, 2) := by decide +kernel
theorem dL_writes_223 : decode cL_writes 223 = .ok (.if_icmp .eq 16, 3) := by decide +kernel
theorem dL_writes_226 : decode cL_writes 226 = .ok (.aload_n 0, 1) := by decide +kernel
theorem dL_writes_227 : decode cL_writes 227 = .ok (.iload 4, 2) := by decide +kernel
theorem dL_writes_229 : decode cL_writes 229 = .ok (.iload 5, 2) := by decide +kernel
theorem dL_writes_231 : decode cL_writes 231 = .ok (.invokestatic 98, 3) := by decide +kernel
theorem dL_writes_234 : decode cL_writes 234 = .ok (.iload 6, 2) := by decide +kernel
theorem dL_writes_236 : decode cL_writes 236 = .ok (.if_icmp .ne 25, 3) := by decide +kernel
theorem dL_writes_239 : decode cL_writes 239 = .ok (.iload 6, 2) := by decide +kernel
theorem dL_writes_241 : decode cL_writes 241 = .ok (.ldc 107, 2) := by decide +kernel
theorem dL_writes_243 : decode cL_writes 243 = .ok (.if_icmp .eq 14, 3) := by decide +kernel
theorem dL_writes_246 : decode cL_writes 246 = .ok (.aload_n 0, 1) := by decide +kernel
theorem dL_writes_247 : decode cL_writes 247 = .ok (.iload 4, 2) := by decide +kernel
theorem dL_writes_249 : decode cL_writes 249 = .ok (.invokestatic 92, 3) := by decide +kernel
theorem dL_writes_252 : decode cL_writes 252 = .ok (.iload 5, 2) := by decide +kernel
theorem dL_writes_254 : decode cL_writes 254 = .ok (.if_icmp .gt 7, 3) := by decide +kernel
theorem dL_writes_257 : decode cL_writes 257 = .ok (.iconst 1, 1) := by decide +kernel
theorem dL_writes_258 : decode cL_writes 258 = .ok (.goto 4, 3) := by decide +kernel
theorem dL_writes_261 : decode cL_writes 261 = .ok (.iconst 0, 1) := by decide +kernel
theorem dL_writes_262 : decode cL_writes 262 = .ok (.ireturn, 1) := by decide +kernel
