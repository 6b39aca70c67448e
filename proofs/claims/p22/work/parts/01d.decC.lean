theorem dX0_init_0 : decode cX0_init 0 = .ok (.aload_n 0, 1) := by decide +kernel
theorem dX0_init_1 : decode cX0_init 1 = .ok (.invokespecial 3, 3) := by decide +kernel
theorem dX0_init_4 : decode cX0_init 4 = .ok (.aload_n 0, 1) := by decide +kernel
theorem dX0_init_5 : decode cX0_init 5 = .ok (.bipush 20, 2) := by decide +kernel
theorem dX0_init_7 : decode cX0_init 7 = .ok (.newarray .int, 2) := by decide +kernel
theorem dX0_init_9 : decode cX0_init 9 = .ok (.putfield 9, 3) := by decide +kernel
theorem dX0_init_12 : decode cX0_init 12 = .ok (.aload_n 0, 1) := by decide +kernel
theorem dX0_init_13 : decode cX0_init 13 = .ok (.bipush 20, 2) := by decide +kernel
theorem dX0_init_15 : decode cX0_init 15 = .ok (.newarray .int, 2) := by decide +kernel
theorem dX0_init_17 : decode cX0_init 17 = .ok (.putfield 15, 3) := by decide +kernel
theorem dX0_init_20 : decode cX0_init 20 = .ok (.aload_n 0, 1) := by decide +kernel
theorem dX0_init_21 : decode cX0_init 21 = .ok (.bipush 20, 2) := by decide +kernel
theorem dX0_init_23 : decode cX0_init 23 = .ok (.newarray .int, 2) := by decide +kernel
theorem dX0_init_25 : decode cX0_init 25 = .ok (.putfield 18, 3) := by decide +kernel
theorem dX0_init_28 : decode cX0_init 28 = .ok (.aload_n 0, 1) := by decide +kernel
theorem dX0_init_29 : decode cX0_init 29 = .ok (.iconst 0, 1) := by decide +kernel
theorem dX0_init_30 : decode cX0_init 30 = .ok (.putfield 21, 3) := by decide +kernel
theorem dX0_init_33 : decode cX0_init 33 = .ok (.return_, 1) := by decide +kernel
theorem dX0_add_0 : decode cX0_add 0 = .ok (.aload_n 0, 1) := by decide +kernel
theorem dX0_add_1 : decode cX0_add 1 = .ok (.getfield 21, 3) := by decide +kernel
theorem dX0_add_4 : decode cX0_add 4 = .ok (.bipush 20, 2) := by decide +kernel
theorem dX0_add_6 : decode cX0_add 6 = .ok (.if_icmp .ge 43, 3) := by decide +kernel
theorem dX0_add_9 : decode cX0_add 9 = .ok (.aload_n 0, 1) := by decide +kernel
theorem dX0_add_10 : decode cX0_add 10 = .ok (.getfield 9, 3) := by decide +kernel
theorem dX0_add_13 : decode cX0_add 13 = .ok (.aload_n 0, 1) := by decide +kernel
theorem dX0_add_14 : decode cX0_add 14 = .ok (.getfield 21, 3) := by decide +kernel
theorem dX0_add_17 : decode cX0_add 17 = .ok (.iload_n 1, 1) := by decide +kernel
theorem dX0_add_18 : decode cX0_add 18 = .ok (.iastore, 1) := by decide +kernel
theorem dX0_add_19 : decode cX0_add 19 = .ok (.aload_n 0, 1) := by decide +kernel
theorem dX0_add_20 : decode cX0_add 20 = .ok (.getfield 15, 3) := by decide +kernel
theorem dX0_add_23 : decode cX0_add 23 = .ok (.aload_n 0, 1) := by decide +kernel
theorem dX0_add_24 : decode cX0_add 24 = .ok (.getfield 21, 3) := by decide +kernel
theorem dX0_add_27 : decode cX0_add 27 = .ok (.iload_n 2, 1) := by decide +kernel
theorem dX0_add_28 : decode cX0_add 28 = .ok (.iastore, 1) := by decide +kernel
theorem dX0_add_29 : decode cX0_add 29 = .ok (.aload_n 0, 1) := by decide +kernel
theorem dX0_add_30 : decode cX0_add 30 = .ok (.getfield 18, 3) := by decide +kernel
theorem dX0_add_33 : decode cX0_add 33 = .ok (.aload_n 0, 1) := by decide +kernel
theorem dX0_add_34 : decode cX0_add 34 = .ok (.getfield 21, 3) := by decide +kernel
theorem dX0_add_37 : decode cX0_add 37 = .ok (.iload_n 3, 1) := by decide +kernel
theorem dX0_add_38 : decode cX0_add 38 = .ok (.iastore, 1) := by decide +kernel
theorem dX0_add_39 : decode cX0_add 39 = .ok (.aload_n 0, 1) := by decide +kernel
theorem dX0_add_40 : decode cX0_add 40 = .ok (.dup, 1) := by decide +kernel
theorem dX0_add_41 : decode cX0_add 41 = .ok (.getfield 21, 3) := by decide +kernel
theorem dX0_add_44 : decode cX0_add 44 = .ok (.iconst 1, 1) := by decide +kernel
theorem dX0_add_45 : decode cX0_add 45 = .ok (.iadd, 1) := by decide +kernel
theorem dX0_add_46 : decode cX0_add 46 = .ok (.putfield 21, 3) := by decide +kernel
theorem dX0_add_49 : decode cX0_add 49 = .ok (.return_, 1) := by decide +kernel
theorem dX0_hasDay_0 : decode cX0_hasDay 0 = .ok (.iconst 0, 1) := by decide +kernel
theorem dX0_hasDay_1 : decode cX0_hasDay 1 = .ok (.istore_n 2, 1) := by decide +kernel
theorem dX0_hasDay_2 : decode cX0_hasDay 2 = .ok (.iload_n 2, 1) := by decide +kernel
theorem dX0_hasDay_3 : decode cX0_hasDay 3 = .ok (.aload_n 0, 1) := by decide +kernel
theorem dX0_hasDay_4 : decode cX0_hasDay 4 = .ok (.getfield 21, 3) := by decide +kernel
theorem dX0_hasDay_7 : decode cX0_hasDay 7 = .ok (.if_icmp .ge 21, 3) := by decide +kernel
theorem dX0_hasDay_10 : decode cX0_hasDay 10 = .ok (.aload_n 0, 1) := by decide +kernel
theorem dX0_hasDay_11 : decode cX0_hasDay 11 = .ok (.getfield 9, 3) := by decide +kernel
theorem dX0_hasDay_14 : decode cX0_hasDay 14 = .ok (.iload_n 2, 1) := by decide +kernel
theorem dX0_hasDay_15 : decode cX0_hasDay 15 = .ok (.iaload, 1) := by decide +kernel
theorem dX0_hasDay_16 : decode cX0_hasDay 16 = .ok (.iload_n 1, 1) := by decide +kernel
theorem dX0_hasDay_17 : decode cX0_hasDay 17 = .ok (.if_icmp .ne 5, 3) := by decide +kernel
theorem dX0_hasDay_20 : decode cX0_hasDay 20 = .ok (.iconst 1, 1) := by decide +kernel
theorem dX0_hasDay_21 : decode cX0_hasDay 21 = .ok (.ireturn, 1) := by decide +kernel
theorem dX0_hasDay_22 : decode cX0_hasDay 22 = .ok (.iinc 2 1, 3) := by decide +kernel
theorem dX0_hasDay_25 : decode cX0_hasDay 25 = .ok (.goto (-23), 3) := by decide +kernel
theorem dX0_hasDay_28 : decode cX0_hasDay 28 = .ok (.iconst 0, 1) := by decide +kernel
theorem dX0_hasDay_29 : decode cX0_hasDay 29 = .ok (.ireturn, 1) := by decide +kernel
theorem dX0_latest_0 : decode cX0_latest 0 = .ok (.iconst (-1), 1) := by decide +kernel
theorem dX0_latest_1 : decode cX0_latest 1 = .ok (.istore_n 3, 1) := by decide +kernel
theorem dX0_latest_2 : decode cX0_latest 2 = .ok (.ldc 25, 2) := by decide +kernel
theorem dX0_latest_4 : decode cX0_latest 4 = .ok (.istore 4, 2) := by decide +kernel
theorem dX0_latest_6 : decode cX0_latest 6 = .ok (.iconst 0, 1) := by decide +kernel
theorem dX0_latest_7 : decode cX0_latest 7 = .ok (.istore 5, 2) := by decide +kernel
theorem dX0_latest_9 : decode cX0_latest 9 = .ok (.iload 5, 2) := by decide +kernel
theorem dX0_latest_11 : decode cX0_latest 11 = .ok (.aload_n 0, 1) := by decide +kernel
theorem dX0_latest_12 : decode cX0_latest 12 = .ok (.getfield 21, 3) := by decide +kernel
theorem dX0_latest_15 : decode cX0_latest 15 = .ok (.if_icmp .ge 59, 3) := by decide +kernel
theorem dX0_latest_18 : decode cX0_latest 18 = .ok (.aload_n 0, 1) := by decide +kernel
theorem dX0_latest_19 : decode cX0_latest 19 = .ok (.getfield 9, 3) := by decide +kernel
theorem dX0_latest_22 : decode cX0_latest 22 = .ok (.iload 5, 2) := by decide +kernel
theorem dX0_latest_24 : decode cX0_latest 24 = .ok (.iaload, 1) := by decide +kernel
theorem dX0_latest_25 : decode cX0_latest 25 = .ok (.iload_n 1, 1) := by decide +kernel
theorem dX0_latest_26 : decode cX0_latest 26 = .ok (.if_icmp .ne 42, 3) := by decide +kernel
theorem dX0_latest_29 : decode cX0_latest 29 = .ok (.aload_n 0, 1) := by decide +kernel
theorem dX0_latest_30 : decode cX0_latest 30 = .ok (.getfield 15, 3) := by decide +kernel
theorem dX0_latest_33 : decode cX0_latest 33 = .ok (.iload 5, 2) := by decide +kernel
theorem dX0_latest_35 : decode cX0_latest 35 = .ok (.iaload, 1) := by decide +kernel
theorem dX0_latest_36 : decode cX0_latest 36 = .ok (.iload_n 2, 1) := by decide +kernel
theorem dX0_latest_37 : decode cX0_latest 37 = .ok (.if_icmp .gt 31, 3) := by decide +kernel
theorem dX0_latest_40 : decode cX0_latest 40 = .ok (.aload_n 0, 1) := by decide +kernel
theorem dX0_latest_41 : decode cX0_latest 41 = .ok (.getfield 15, 3) := by decide +kernel
theorem dX0_latest_44 : decode cX0_latest 44 = .ok (.iload 5, 2) := by decide +kernel
theorem dX0_latest_46 : decode cX0_latest 46 = .ok (.iaload, 1) := by decide +kernel
theorem dX0_latest_47 : decode cX0_latest 47 = .ok (.iload_n 3, 1) := by decide +kernel
theorem dX0_latest_48 : decode cX0_latest 48 = .ok (.if_icmp .lt 20, 3) := by decide +kernel
theorem dX0_latest_51 : decode cX0_latest 51 = .ok (.aload_n 0, 1) := by decide +kernel
theorem dX0_latest_52 : decode cX0_latest 52 = .ok (.getfield 15, 3) := by decide +kernel
theorem dX0_latest_55 : decode cX0_latest 55 = .ok (.iload 5, 2) := by decide +kernel
theorem dX0_latest_57 : decode cX0_latest 57 = .ok (.iaload, 1) := by decide +kernel
theorem dX0_latest_58 : decode cX0_latest 58 = .ok (.istore_n 3, 1) := by decide +kernel
theorem dX0_latest_59 : decode cX0_latest 59 = .ok (.aload_n 0, 1) := by decide +kernel
theorem dX0_latest_60 : decode cX0_latest 60 = .ok (.getfield 18, 3) := by decide +kernel
theorem dX0_latest_63 : decode cX0_latest 63 = .ok (.iload 5, 2) := by decide +kernel
theorem dX0_latest_65 : decode cX0_latest 65 = .ok (.iaload, 1) := by decide +kernel
theorem dX0_latest_66 : decode cX0_latest 66 = .ok (.istore 4, 2) := by decide +kernel
theorem dX0_latest_68 : decode cX0_latest 68 = .ok (.iinc 5 1, 3) := by decide +kernel
theorem dX0_latest_71 : decode cX0_latest 71 = .ok (.goto (-62), 3) := by decide +kernel
theorem dX0_latest_74 : decode cX0_latest 74 = .ok (.iload 4, 2) := by decide +kernel
theorem dX0_latest_76 : decode cX0_latest 76 = .ok (.ireturn, 1) := by decide +kernel
theorem dX1_init_0 : decode cX1_init 0 = .ok (.aload_n 0, 1) := by decide +kernel
theorem dX1_init_1 : decode cX1_init 1 = .ok (.invokespecial 3, 3) := by decide +kernel
theorem dX1_init_4 : decode cX1_init 4 = .ok (.aload_n 0, 1) := by decide +kernel
theorem dX1_init_5 : decode cX1_init 5 = .ok (.iload_n 1, 1) := by decide +kernel
theorem dX1_init_6 : decode cX1_init 6 = .ok (.putfield 9, 3) := by decide +kernel
theorem dX1_init_9 : decode cX1_init 9 = .ok (.aload_n 0, 1) := by decide +kernel
theorem dX1_init_10 : decode cX1_init 10 = .ok (.iload_n 2, 1) := by decide +kernel
theorem dX1_init_11 : decode cX1_init 11 = .ok (.putfield 15, 3) := by decide +kernel
theorem dX1_init_14 : decode cX1_init 14 = .ok (.aload_n 0, 1) := by decide +kernel
theorem dX1_init_15 : decode cX1_init 15 = .ok (.iload_n 3, 1) := by decide +kernel
theorem dX1_init_16 : decode cX1_init 16 = .ok (.putfield 18, 3) := by decide +kernel
theorem dX1_init_19 : decode cX1_init 19 = .ok (.aload_n 0, 1) := by decide +kernel
theorem dX1_init_20 : decode cX1_init 20 = .ok (.iload 4, 2) := by decide +kernel
theorem dX1_init_22 : decode cX1_init 22 = .ok (.putfield 21, 3) := by decide +kernel
theorem dX1_init_25 : decode cX1_init 25 = .ok (.aload_n 0, 1) := by decide +kernel
theorem dX1_init_26 : decode cX1_init 26 = .ok (.bipush 17, 2) := by decide +kernel
theorem dX1_init_28 : decode cX1_init 28 = .ok (.newarray .int, 2) := by decide +kernel
theorem dX1_init_30 : decode cX1_init 30 = .ok (.putfield 24, 3) := by decide +kernel
theorem dX1_init_33 : decode cX1_init 33 = .ok (.aload_n 0, 1) := by decide +kernel
theorem dX1_init_34 : decode cX1_init 34 = .ok (.getfield 24, 3) := by decide +kernel
theorem dX1_init_37 : decode cX1_init 37 = .ok (.ldc 28, 2) := by decide +kernel
theorem dX1_init_39 : decode cX1_init 39 = .ok (.invokestatic 29, 3) := by decide +kernel
theorem dX1_init_42 : decode cX1_init 42 = .ok (.aload_n 0, 1) := by decide +kernel
theorem dX1_init_43 : decode cX1_init 43 = .ok (.iload_n 3, 1) := by decide +kernel
theorem dX1_init_44 : decode cX1_init 44 = .ok (.putfield 35, 3) := by decide +kernel
theorem dX1_init_47 : decode cX1_init 47 = .ok (.aload_n 0, 1) := by decide +kernel
theorem dX1_init_48 : decode cX1_init 48 = .ok (.iconst 0, 1) := by decide +kernel
theorem dX1_init_49 : decode cX1_init 49 = .ok (.putfield 38, 3) := by decide +kernel
theorem dX1_init_52 : decode cX1_init 52 = .ok (.aload_n 0, 1) := by decide +kernel
theorem dX1_init_53 : decode cX1_init 53 = .ok (.iconst 0, 1) := by decide +kernel
theorem dX1_init_54 : decode cX1_init 54 = .ok (.putfield 41, 3) := by decide +kernel
theorem dX1_init_57 : decode cX1_init 57 = .ok (.return_, 1) := by decide +kernel
theorem dX1_canHave_0 : decode cX1_canHave 0 = .ok (.iload_n 1, 1) := by decide +kernel
theorem dX1_canHave_1 : decode cX1_canHave 1 = .ok (.aload_n 0, 1) := by decide +kernel
theorem dX1_canHave_2 : decode cX1_canHave 2 = .ok (.getfield 9, 3) := by decide +kernel
theorem dX1_canHave_5 : decode cX1_canHave 5 = .ok (.if_icmp .lt 15, 3) := by decide +kernel
theorem dX1_canHave_8 : decode cX1_canHave 8 = .ok (.iload_n 1, 1) := by decide +kernel
theorem dX1_canHave_9 : decode cX1_canHave 9 = .ok (.aload_n 0, 1) := by decide +kernel
theorem dX1_canHave_10 : decode cX1_canHave 10 = .ok (.getfield 15, 3) := by decide +kernel
theorem dX1_canHave_13 : decode cX1_canHave 13 = .ok (.if_icmp .gt 7, 3) := by decide +kernel
theorem dX1_canHave_16 : decode cX1_canHave 16 = .ok (.iconst 1, 1) := by decide +kernel
theorem dX1_canHave_17 : decode cX1_canHave 17 = .ok (.goto 4, 3) := by decide +kernel
theorem dX1_canHave_20 : decode cX1_canHave 20 = .ok (.iconst 0, 1) := by decide +kernel
theorem dX1_canHave_21 : decode cX1_canHave 21 = .ok (.ireturn, 1) := by decide +kernel
theorem dX1_isHeld_0 : decode cX1_isHeld 0 = .ok (.aload_n 0, 1) := by decide +kernel
theorem dX1_isHeld_1 : decode cX1_isHeld 1 = .ok (.getfield 38, 3) := by decide +kernel
theorem dX1_isHeld_4 : decode cX1_isHeld 4 = .ok (.ifCond .eq 7, 3) := by decide +kernel
theorem dX1_isHeld_7 : decode cX1_isHeld 7 = .ok (.iconst 1, 1) := by decide +kernel
theorem dX1_isHeld_8 : decode cX1_isHeld 8 = .ok (.goto 4, 3) := by decide +kernel
theorem dX1_isHeld_11 : decode cX1_isHeld 11 = .ok (.iconst 0, 1) := by decide +kernel
theorem dX1_isHeld_12 : decode cX1_isHeld 12 = .ok (.ireturn, 1) := by decide +kernel
theorem dX1_lowestCommanded_0 : decode cX1_lowestCommanded 0 = .ok (.iconst 1, 1) := by decide +kernel
theorem dX1_lowestCommanded_1 : decode cX1_lowestCommanded 1 = .ok (.istore_n 1, 1) := by decide +kernel
theorem dX1_lowestCommanded_2 : decode cX1_lowestCommanded 2 = .ok (.iload_n 1, 1) := by decide +kernel
theorem dX1_lowestCommanded_3 : decode cX1_lowestCommanded 3 = .ok (.aload_n 0, 1) := by decide +kernel
theorem dX1_lowestCommanded_4 : decode cX1_lowestCommanded 4 = .ok (.getfield 24, 3) := by decide +kernel
theorem dX1_lowestCommanded_7 : decode cX1_lowestCommanded 7 = .ok (.arraylength, 1) := by decide +kernel
theorem dX1_lowestCommanded_8 : decode cX1_lowestCommanded 8 = .ok (.if_icmp .ge 22, 3) := by decide +kernel
theorem dX1_lowestCommanded_11 : decode cX1_lowestCommanded 11 = .ok (.aload_n 0, 1) := by decide +kernel
theorem dX1_lowestCommanded_12 : decode cX1_lowestCommanded 12 = .ok (.getfield 24, 3) := by decide +kernel
theorem dX1_lowestCommanded_15 : decode cX1_lowestCommanded 15 = .ok (.iload_n 1, 1) := by decide +kernel
theorem dX1_lowestCommanded_16 : decode cX1_lowestCommanded 16 = .ok (.iaload, 1) := by decide +kernel
theorem dX1_lowestCommanded_17 : decode cX1_lowestCommanded 17 = .ok (.ldc 28, 2) := by decide +kernel
theorem dX1_lowestCommanded_19 : decode cX1_lowestCommanded 19 = .ok (.if_icmp .eq 5, 3) := by decide +kernel
theorem dX1_lowestCommanded_22 : decode cX1_lowestCommanded 22 = .ok (.iload_n 1, 1) := by decide +kernel
theorem dX1_lowestCommanded_23 : decode cX1_lowestCommanded 23 = .ok (.ireturn, 1) := by decide +kernel
theorem dX1_lowestCommanded_24 : decode cX1_lowestCommanded 24 = .ok (.iinc 1 1, 3) := by decide +kernel
theorem dX1_lowestCommanded_27 : decode cX1_lowestCommanded 27 = .ok (.goto (-25), 3) := by decide +kernel
theorem dX1_lowestCommanded_30 : decode cX1_lowestCommanded 30 = .ok (.bipush 17, 2) := by decide +kernel
theorem dX1_lowestCommanded_32 : decode cX1_lowestCommanded 32 = .ok (.ireturn, 1) := by decide +kernel
theorem dX1_dueValue_0 : decode cX1_dueValue 0 = .ok (.aload_n 0, 1) := by decide +kernel
theorem dX1_dueValue_1 : decode cX1_dueValue 1 = .ok (.invokevirtual 44, 3) := by decide +kernel
theorem dX1_dueValue_4 : decode cX1_dueValue 4 = .ok (.istore_n 1, 1) := by decide +kernel
theorem dX1_dueValue_5 : decode cX1_dueValue 5 = .ok (.iload_n 1, 1) := by decide +kernel
theorem dX1_dueValue_6 : decode cX1_dueValue 6 = .ok (.aload_n 0, 1) := by decide +kernel
theorem dX1_dueValue_7 : decode cX1_dueValue 7 = .ok (.getfield 24, 3) := by decide +kernel
theorem dX1_dueValue_10 : decode cX1_dueValue 10 = .ok (.arraylength, 1) := by decide +kernel
theorem dX1_dueValue_11 : decode cX1_dueValue 11 = .ok (.if_icmp .ge 12, 3) := by decide +kernel
theorem dX1_dueValue_14 : decode cX1_dueValue 14 = .ok (.aload_n 0, 1) := by decide +kernel
theorem dX1_dueValue_15 : decode cX1_dueValue 15 = .ok (.getfield 24, 3) := by decide +kernel
theorem dX1_dueValue_18 : decode cX1_dueValue 18 = .ok (.iload_n 1, 1) := by decide +kernel
theorem dX1_dueValue_19 : decode cX1_dueValue 19 = .ok (.iaload, 1) := by decide +kernel
theorem dX1_dueValue_20 : decode cX1_dueValue 20 = .ok (.goto 7, 3) := by decide +kernel
theorem dX1_dueValue_23 : decode cX1_dueValue 23 = .ok (.aload_n 0, 1) := by decide +kernel
theorem dX1_dueValue_24 : decode cX1_dueValue 24 = .ok (.getfield 18, 3) := by decide +kernel
theorem dX1_dueValue_27 : decode cX1_dueValue 27 = .ok (.ireturn, 1) := by decide +kernel
theorem dX1_change_0 : decode cX1_change 0 = .ok (.aload_n 0, 1) := by decide +kernel
theorem dX1_change_1 : decode cX1_change 1 = .ok (.iload_n 1, 1) := by decide +kernel
theorem dX1_change_2 : decode cX1_change 2 = .ok (.putfield 35, 3) := by decide +kernel
theorem dX1_change_5 : decode cX1_change 5 = .ok (.aload_n 0, 1) := by decide +kernel
theorem dX1_change_6 : decode cX1_change 6 = .ok (.dup, 1) := by decide +kernel
theorem dX1_change_7 : decode cX1_change 7 = .ok (.getfield 41, 3) := by decide +kernel
theorem dX1_change_10 : decode cX1_change 10 = .ok (.iconst 1, 1) := by decide +kernel
theorem dX1_change_11 : decode cX1_change 11 = .ok (.iadd, 1) := by decide +kernel
theorem dX1_change_12 : decode cX1_change 12 = .ok (.putfield 41, 3) := by decide +kernel
theorem dX1_change_15 : decode cX1_change 15 = .ok (.aload_n 0, 1) := by decide +kernel
theorem dX1_change_16 : decode cX1_change 16 = .ok (.getfield 21, 3) := by decide +kernel
theorem dX1_change_19 : decode cX1_change 19 = .ok (.ifCond .le 21, 3) := by decide +kernel
theorem dX1_change_22 : decode cX1_change 22 = .ok (.aload_n 0, 1) := by decide +kernel
theorem dX1_change_23 : decode cX1_change 23 = .ok (.getfield 24, 3) := by decide +kernel
theorem dX1_change_26 : decode cX1_change 26 = .ok (.bipush 6, 2) := by decide +kernel
theorem dX1_change_28 : decode cX1_change 28 = .ok (.iload_n 1, 1) := by decide +kernel
theorem dX1_change_29 : decode cX1_change 29 = .ok (.iastore, 1) := by decide +kernel
theorem dX1_change_30 : decode cX1_change 30 = .ok (.aload_n 0, 1) := by decide +kernel
theorem dX1_change_31 : decode cX1_change 31 = .ok (.iload_n 2, 1) := by decide +kernel
theorem dX1_change_32 : decode cX1_change 32 = .ok (.aload_n 0, 1) := by decide +kernel
theorem dX1_change_33 : decode cX1_change 33 = .ok (.getfield 21, 3) := by decide +kernel
theorem dX1_change_36 : decode cX1_change 36 = .ok (.iadd, 1) := by decide +kernel
theorem dX1_change_37 : decode cX1_change 37 = .ok (.putfield 38, 3) := by decide +kernel
theorem dX1_change_40 : decode cX1_change 40 = .ok (.return_, 1) := by decide +kernel
theorem dX2_init_0 : decode cX2_init 0 = .ok (.aload_n 0, 1) := by decide +kernel
theorem dX2_init_1 : decode cX2_init 1 = .ok (.invokespecial 3, 3) := by decide +kernel
theorem dX2_init_4 : decode cX2_init 4 = .ok (.aload_n 0, 1) := by decide +kernel
theorem dX2_init_5 : decode cX2_init 5 = .ok (.aload_n 1, 1) := by decide +kernel
theorem dX2_init_6 : decode cX2_init 6 = .ok (.putfield 9, 3) := by decide +kernel
theorem dX2_init_9 : decode cX2_init 9 = .ok (.aload_n 0, 1) := by decide +kernel
theorem dX2_init_10 : decode cX2_init 10 = .ok (.iload_n 2, 1) := by decide +kernel
theorem dX2_init_11 : decode cX2_init 11 = .ok (.putfield 15, 3) := by decide +kernel
theorem dX2_init_14 : decode cX2_init 14 = .ok (.aload_n 0, 1) := by decide +kernel
theorem dX2_init_15 : decode cX2_init 15 = .ok (.new 19, 3) := by decide +kernel
theorem dX2_init_18 : decode cX2_init 18 = .ok (.dup, 1) := by decide +kernel
theorem dX2_init_19 : decode cX2_init 19 = .ok (.invokespecial 21, 3) := by decide +kernel
theorem dX2_init_22 : decode cX2_init 22 = .ok (.putfield 22, 3) := by decide +kernel
theorem dX2_init_25 : decode cX2_init 25 = .ok (.aload_n 0, 1) := by decide +kernel
theorem dX2_init_26 : decode cX2_init 26 = .ok (.new 19, 3) := by decide +kernel
theorem dX2_init_29 : decode cX2_init 29 = .ok (.dup, 1) := by decide +kernel
theorem dX2_init_30 : decode cX2_init 30 = .ok (.invokespecial 21, 3) := by decide +kernel
theorem dX2_init_33 : decode cX2_init 33 = .ok (.putfield 26, 3) := by decide +kernel
theorem dX2_init_36 : decode cX2_init 36 = .ok (.aload_n 0, 1) := by decide +kernel
theorem dX2_init_37 : decode cX2_init 37 = .ok (.ldc 29, 2) := by decide +kernel
theorem dX2_init_39 : decode cX2_init 39 = .ok (.putfield 30, 3) := by decide +kernel
theorem dX2_init_42 : decode cX2_init 42 = .ok (.return_, 1) := by decide +kernel
theorem dX2_entryCount_0 : decode cX2_entryCount 0 = .ok (.aload_n 0, 1) := by decide +kernel
theorem dX2_entryCount_1 : decode cX2_entryCount 1 = .ok (.getfield 22, 3) := by decide +kernel
theorem dX2_entryCount_4 : decode cX2_entryCount 4 = .ok (.getfield 33, 3) := by decide +kernel
theorem dX2_entryCount_7 : decode cX2_entryCount 7 = .ok (.aload_n 0, 1) := by decide +kernel
theorem dX2_entryCount_8 : decode cX2_entryCount 8 = .ok (.getfield 26, 3) := by decide +kernel
theorem dX2_entryCount_11 : decode cX2_entryCount 11 = .ok (.getfield 33, 3) := by decide +kernel
theorem dX2_entryCount_14 : decode cX2_entryCount 14 = .ok (.iadd, 1) := by decide +kernel
theorem dX2_entryCount_15 : decode cX2_entryCount 15 = .ok (.ireturn, 1) := by decide +kernel
theorem dX2_toldAt_0 : decode cX2_toldAt 0 = .ok (.iload_n 1, 1) := by decide +kernel
theorem dX2_toldAt_1 : decode cX2_toldAt 1 = .ok (.sipush 1440, 3) := by decide +kernel
theorem dX2_toldAt_4 : decode cX2_toldAt 4 = .ok (.idiv, 1) := by decide +kernel
theorem dX2_toldAt_5 : decode cX2_toldAt 5 = .ok (.istore_n 2, 1) := by decide +kernel
theorem dX2_toldAt_6 : decode cX2_toldAt 6 = .ok (.iload_n 1, 1) := by decide +kernel
theorem dX2_toldAt_7 : decode cX2_toldAt 7 = .ok (.sipush 1440, 3) := by decide +kernel
theorem dX2_toldAt_10 : decode cX2_toldAt 10 = .ok (.irem, 1) := by decide +kernel
theorem dX2_toldAt_11 : decode cX2_toldAt 11 = .ok (.istore_n 3, 1) := by decide +kernel
theorem dX2_toldAt_12 : decode cX2_toldAt 12 = .ok (.aload_n 0, 1) := by decide +kernel
theorem dX2_toldAt_13 : decode cX2_toldAt 13 = .ok (.getfield 26, 3) := by decide +kernel
theorem dX2_toldAt_16 : decode cX2_toldAt 16 = .ok (.iload_n 2, 1) := by decide +kernel
theorem dX2_toldAt_17 : decode cX2_toldAt 17 = .ok (.invokevirtual 36, 3) := by decide +kernel
theorem dX2_toldAt_20 : decode cX2_toldAt 20 = .ok (.ifCond .eq 13, 3) := by decide +kernel
theorem dX2_toldAt_23 : decode cX2_toldAt 23 = .ok (.aload_n 0, 1) := by decide +kernel
theorem dX2_toldAt_24 : decode cX2_toldAt 24 = .ok (.getfield 26, 3) := by decide +kernel
theorem dX2_toldAt_27 : decode cX2_toldAt 27 = .ok (.iload_n 2, 1) := by decide +kernel
theorem dX2_toldAt_28 : decode cX2_toldAt 28 = .ok (.iload_n 3, 1) := by decide +kernel
theorem dX2_toldAt_29 : decode cX2_toldAt 29 = .ok (.invokevirtual 40, 3) := by decide +kernel
theorem dX2_toldAt_32 : decode cX2_toldAt 32 = .ok (.ireturn, 1) := by decide +kernel
theorem dX2_toldAt_33 : decode cX2_toldAt 33 = .ok (.aload_n 0, 1) := by decide +kernel
theorem dX2_toldAt_34 : decode cX2_toldAt 34 = .ok (.getfield 22, 3) := by decide +kernel
theorem dX2_toldAt_37 : decode cX2_toldAt 37 = .ok (.iload_n 2, 1) := by decide +kernel
theorem dX2_toldAt_38 : decode cX2_toldAt 38 = .ok (.bipush 7, 2) := by decide +kernel
theorem dX2_toldAt_40 : decode cX2_toldAt 40 = .ok (.irem, 1) := by decide +kernel
theorem dX2_toldAt_41 : decode cX2_toldAt 41 = .ok (.iload_n 3, 1) := by decide +kernel
theorem dX2_toldAt_42 : decode cX2_toldAt 42 = .ok (.invokevirtual 40, 3) := by decide +kernel
theorem dX2_toldAt_45 : decode cX2_toldAt 45 = .ok (.ireturn, 1) := by decide +kernel
theorem dX3_init_0 : decode cX3_init 0 = .ok (.aload_n 0, 1) := by decide +kernel
theorem dX3_init_1 : decode cX3_init 1 = .ok (.invokespecial 1, 3) := by decide +kernel
theorem dX3_init_4 : decode cX3_init 4 = .ok (.aload_n 0, 1) := by decide +kernel
theorem dX3_init_5 : decode cX3_init 5 = .ok (.aload_n 1, 1) := by decide +kernel
theorem dX3_init_6 : decode cX3_init 6 = .ok (.putfield 7, 3) := by decide +kernel
theorem dX3_init_9 : decode cX3_init 9 = .ok (.aload_n 0, 1) := by decide +kernel
theorem dX3_init_10 : decode cX3_init 10 = .ok (.iload_n 2, 1) := by decide +kernel
theorem dX3_init_11 : decode cX3_init 11 = .ok (.putfield 13, 3) := by decide +kernel
theorem dX3_init_14 : decode cX3_init 14 = .ok (.aload_n 0, 1) := by decide +kernel
theorem dX3_init_15 : decode cX3_init 15 = .ok (.iload_n 3, 1) := by decide +kernel
theorem dX3_init_16 : decode cX3_init 16 = .ok (.putfield 17, 3) := by decide +kernel
theorem dX3_init_19 : decode cX3_init 19 = .ok (.aload_n 0, 1) := by decide +kernel
theorem dX3_init_20 : decode cX3_init 20 = .ok (.aload_n 1, 1) := by decide +kernel
theorem dX3_init_21 : decode cX3_init 21 = .ok (.getfield 20, 3) := by decide +kernel
theorem dX3_init_24 : decode cX3_init 24 = .ok (.putfield 25, 3) := by decide +kernel
theorem dX3_init_27 : decode cX3_init 27 = .ok (.aload_n 0, 1) := by decide +kernel
theorem dX3_init_28 : decode cX3_init 28 = .ok (.iconst 0, 1) := by decide +kernel
theorem dX3_init_29 : decode cX3_init 29 = .ok (.putfield 28, 3) := by decide +kernel
theorem dX3_init_32 : decode cX3_init 32 = .ok (.aload_n 0, 1) := by decide +kernel
theorem dX3_init_33 : decode cX3_init 33 = .ok (.iconst 1, 1) := by decide +kernel
theorem dX3_init_34 : decode cX3_init 34 = .ok (.putfield 31, 3) := by decide +kernel
theorem dX3_init_37 : decode cX3_init 37 = .ok (.return_, 1) := by decide +kernel
theorem dX3_isFarFrom_0 : decode cX3_isFarFrom 0 = .ok (.iload_n 1, 1) := by decide +kernel
theorem dX3_isFarFrom_1 : decode cX3_isFarFrom 1 = .ok (.aload_n 0, 1) := by decide +kernel
theorem dX3_isFarFrom_2 : decode cX3_isFarFrom 2 = .ok (.getfield 25, 3) := by decide +kernel
theorem dX3_isFarFrom_5 : decode cX3_isFarFrom 5 = .ok (.isub, 1) := by decide +kernel
theorem dX3_isFarFrom_6 : decode cX3_isFarFrom 6 = .ok (.invokestatic 35, 3) := by decide +kernel
theorem dX3_isFarFrom_9 : decode cX3_isFarFrom 9 = .ok (.aload_n 0, 1) := by decide +kernel
theorem dX3_isFarFrom_10 : decode cX3_isFarFrom 10 = .ok (.getfield 13, 3) := by decide +kernel
theorem dX3_isFarFrom_13 : decode cX3_isFarFrom 13 = .ok (.if_icmp .lt 7, 3) := by decide +kernel
theorem dX3_isFarFrom_16 : decode cX3_isFarFrom 16 = .ok (.iconst 1, 1) := by decide +kernel
theorem dX3_isFarFrom_17 : decode cX3_isFarFrom 17 = .ok (.goto 4, 3) := by decide +kernel
theorem dX3_isFarFrom_20 : decode cX3_isFarFrom 20 = .ok (.iconst 0, 1) := by decide +kernel
theorem dX3_isFarFrom_21 : decode cX3_isFarFrom 21 = .ok (.ireturn, 1) := by decide +kernel
theorem dX3_report_0 : decode cX3_report 0 = .ok (.aload_n 0, 1) := by decide +kernel
theorem dX3_report_1 : decode cX3_report 1 = .ok (.iload_n 1, 1) := by decide +kernel
theorem dX3_report_2 : decode cX3_report 2 = .ok (.putfield 25, 3) := by decide +kernel
theorem dX3_report_5 : decode cX3_report 5 = .ok (.aload_n 0, 1) := by decide +kernel
theorem dX3_report_6 : decode cX3_report 6 = .ok (.dup, 1) := by decide +kernel
theorem dX3_report_7 : decode cX3_report 7 = .ok (.getfield 28, 3) := by decide +kernel
theorem dX3_report_10 : decode cX3_report 10 = .ok (.iconst 1, 1) := by decide +kernel
theorem dX3_report_11 : decode cX3_report 11 = .ok (.iadd, 1) := by decide +kernel
theorem dX3_report_12 : decode cX3_report 12 = .ok (.putfield 28, 3) := by decide +kernel
theorem dX3_report_15 : decode cX3_report 15 = .ok (.return_, 1) := by decide +kernel
theorem dX4_init_0 : decode cX4_init 0 = .ok (.aload_n 0, 1) := by decide +kernel
theorem dX4_init_1 : decode cX4_init 1 = .ok (.invokespecial 1, 3) := by decide +kernel
theorem dX4_init_4 : decode cX4_init 4 = .ok (.aload_n 0, 1) := by decide +kernel
theorem dX4_init_5 : decode cX4_init 5 = .ok (.bipush 16, 2) := by decide +kernel
theorem dX4_init_7 : decode cX4_init 7 = .ok (.anewarray 9, 3) := by decide +kernel
theorem dX4_init_10 : decode cX4_init 10 = .ok (.putfield 11, 3) := by decide +kernel
theorem dX4_init_13 : decode cX4_init 13 = .ok (.aload_n 0, 1) := by decide +kernel
theorem dX4_init_14 : decode cX4_init 14 = .ok (.bipush 30, 2) := by decide +kernel
theorem dX4_init_16 : decode cX4_init 16 = .ok (.anewarray 15, 3) := by decide +kernel
theorem dX4_init_19 : decode cX4_init 19 = .ok (.putfield 17, 3) := by decide +kernel
theorem dX4_init_22 : decode cX4_init 22 = .ok (.aload_n 0, 1) := by decide +kernel
theorem dX4_init_23 : decode cX4_init 23 = .ok (.iconst 4, 1) := by decide +kernel
theorem dX4_init_24 : decode cX4_init 24 = .ok (.anewarray 21, 3) := by decide +kernel
theorem dX4_init_27 : decode cX4_init 27 = .ok (.putfield 23, 3) := by decide +kernel
theorem dX4_init_30 : decode cX4_init 30 = .ok (.return_, 1) := by decide +kernel
theorem dX4_addMeasure_0 : decode cX4_addMeasure 0 = .ok (.iload_n 1, 1) := by decide +kernel
theorem dX4_addMeasure_1 : decode cX4_addMeasure 1 = .ok (.sipush (-1000), 3) := by decide +kernel
theorem dX4_addMeasure_4 : decode cX4_addMeasure 4 = .ok (.sipush 1000, 3) := by decide +kernel
theorem dX4_addMeasure_7 : decode cX4_addMeasure 7 = .ok (.invokestatic 27, 3) := by decide +kernel
theorem dX4_addMeasure_10 : decode cX4_addMeasure 10 = .ok (.aload_n 0, 1) := by decide +kernel
theorem dX4_addMeasure_11 : decode cX4_addMeasure 11 = .ok (.getfield 31, 3) := by decide +kernel
theorem dX4_addMeasure_14 : decode cX4_addMeasure 14 = .ok (.aload_n 0, 1) := by decide +kernel
theorem dX4_addMeasure_15 : decode cX4_addMeasure 15 = .ok (.getfield 11, 3) := by decide +kernel
theorem dX4_addMeasure_18 : decode cX4_addMeasure 18 = .ok (.arraylength, 1) := by decide +kernel
theorem dX4_addMeasure_19 : decode cX4_addMeasure 19 = .ok (.invokestatic 35, 3) := by decide +kernel
theorem dX4_addMeasure_22 : decode cX4_addMeasure 22 = .ok (.aload_n 0, 1) := by decide +kernel
theorem dX4_addMeasure_23 : decode cX4_addMeasure 23 = .ok (.getfield 11, 3) := by decide +kernel
theorem dX4_addMeasure_26 : decode cX4_addMeasure 26 = .ok (.aload_n 0, 1) := by decide +kernel
theorem dX4_addMeasure_27 : decode cX4_addMeasure 27 = .ok (.getfield 31, 3) := by decide +kernel
theorem dX4_addMeasure_30 : decode cX4_addMeasure 30 = .ok (.new 9, 3) := by decide +kernel
theorem dX4_addMeasure_33 : decode cX4_addMeasure 33 = .ok (.dup, 1) := by decide +kernel
theorem dX4_addMeasure_34 : decode cX4_addMeasure 34 = .ok (.sipush (-1000), 3) := by decide +kernel
theorem dX4_addMeasure_37 : decode cX4_addMeasure 37 = .ok (.sipush 1000, 3) := by decide +kernel
theorem dX4_addMeasure_40 : decode cX4_addMeasure 40 = .ok (.iload_n 1, 1) := by decide +kernel
theorem dX4_addMeasure_41 : decode cX4_addMeasure 41 = .ok (.iconst 0, 1) := by decide +kernel
theorem dX4_addMeasure_42 : decode cX4_addMeasure 42 = .ok (.invokespecial 39, 3) := by decide +kernel
theorem dX4_addMeasure_45 : decode cX4_addMeasure 45 = .ok (.aastore, 1) := by decide +kernel
theorem dX4_addMeasure_46 : decode cX4_addMeasure 46 = .ok (.aload_n 0, 1) := by decide +kernel
theorem dX4_addMeasure_47 : decode cX4_addMeasure 47 = .ok (.dup, 1) := by decide +kernel
theorem dX4_addMeasure_48 : decode cX4_addMeasure 48 = .ok (.getfield 31, 3) := by decide +kernel
theorem dX4_addMeasure_51 : decode cX4_addMeasure 51 = .ok (.dup_x1, 1) := by decide +kernel
theorem dX4_addMeasure_52 : decode cX4_addMeasure 52 = .ok (.iconst 1, 1) := by decide +kernel
theorem dX4_addMeasure_53 : decode cX4_addMeasure 53 = .ok (.iadd, 1) := by decide +kernel
theorem dX4_addMeasure_54 : decode cX4_addMeasure 54 = .ok (.putfield 31, 3) := by decide +kernel
theorem dX4_addMeasure_57 : decode cX4_addMeasure 57 = .ok (.ireturn, 1) := by decide +kernel
theorem dX4_addSwitch_0 : decode cX4_addSwitch 0 = .ok (.iload_n 1, 1) := by decide +kernel
theorem dX4_addSwitch_1 : decode cX4_addSwitch 1 = .ok (.iconst 0, 1) := by decide +kernel
theorem dX4_addSwitch_2 : decode cX4_addSwitch 2 = .ok (.iconst 1, 1) := by decide +kernel
theorem dX4_addSwitch_3 : decode cX4_addSwitch 3 = .ok (.invokestatic 27, 3) := by decide +kernel
theorem dX4_addSwitch_6 : decode cX4_addSwitch 6 = .ok (.iload_n 2, 1) := by decide +kernel
theorem dX4_addSwitch_7 : decode cX4_addSwitch 7 = .ok (.iconst 0, 1) := by decide +kernel
theorem dX4_addSwitch_8 : decode cX4_addSwitch 8 = .ok (.sipush 1000, 3) := by decide +kernel
theorem dX4_addSwitch_11 : decode cX4_addSwitch 11 = .ok (.invokestatic 27, 3) := by decide +kernel
theorem dX4_addSwitch_14 : decode cX4_addSwitch 14 = .ok (.aload_n 0, 1) := by decide +kernel
theorem dX4_addSwitch_15 : decode cX4_addSwitch 15 = .ok (.getfield 31, 3) := by decide +kernel
theorem dX4_addSwitch_18 : decode cX4_addSwitch 18 = .ok (.aload_n 0, 1) := by decide +kernel
theorem dX4_addSwitch_19 : decode cX4_addSwitch 19 = .ok (.getfield 11, 3) := by decide +kernel
theorem dX4_addSwitch_22 : decode cX4_addSwitch 22 = .ok (.arraylength, 1) := by decide +kernel
theorem dX4_addSwitch_23 : decode cX4_addSwitch 23 = .ok (.invokestatic 35, 3) := by decide +kernel
theorem dX4_addSwitch_26 : decode cX4_addSwitch 26 = .ok (.aload_n 0, 1) := by decide +kernel
theorem dX4_addSwitch_27 : decode cX4_addSwitch 27 = .ok (.getfield 11, 3) := by decide +kernel
theorem dX4_addSwitch_30 : decode cX4_addSwitch 30 = .ok (.aload_n 0, 1) := by decide +kernel
theorem dX4_addSwitch_31 : decode cX4_addSwitch 31 = .ok (.getfield 31, 3) := by decide +kernel
theorem dX4_addSwitch_34 : decode cX4_addSwitch 34 = .ok (.new 9, 3) := by decide +kernel
theorem dX4_addSwitch_37 : decode cX4_addSwitch 37 = .ok (.dup, 1) := by decide +kernel
theorem dX4_addSwitch_38 : decode cX4_addSwitch 38 = .ok (.iconst 0, 1) := by decide +kernel
theorem dX4_addSwitch_39 : decode cX4_addSwitch 39 = .ok (.iconst 1, 1) := by decide +kernel
theorem dX4_addSwitch_40 : decode cX4_addSwitch 40 = .ok (.iload_n 1, 1) := by decide +kernel
theorem dX4_addSwitch_41 : decode cX4_addSwitch 41 = .ok (.iload_n 2, 1) := by decide +kernel
theorem dX4_addSwitch_42 : decode cX4_addSwitch 42 = .ok (.invokespecial 39, 3) := by decide +kernel
theorem dX4_addSwitch_45 : decode cX4_addSwitch 45 = .ok (.aastore, 1) := by decide +kernel
theorem dX4_addSwitch_46 : decode cX4_addSwitch 46 = .ok (.aload_n 0, 1) := by decide +kernel
theorem dX4_addSwitch_47 : decode cX4_addSwitch 47 = .ok (.dup, 1) := by decide +kernel
theorem dX4_addSwitch_48 : decode cX4_addSwitch 48 = .ok (.getfield 31, 3) := by decide +kernel
theorem dX4_addSwitch_51 : decode cX4_addSwitch 51 = .ok (.dup_x1, 1) := by decide +kernel
theorem dX4_addSwitch_52 : decode cX4_addSwitch 52 = .ok (.iconst 1, 1) := by decide +kernel
theorem dX4_addSwitch_53 : decode cX4_addSwitch 53 = .ok (.iadd, 1) := by decide +kernel
theorem dX4_addSwitch_54 : decode cX4_addSwitch 54 = .ok (.putfield 31, 3) := by decide +kernel
theorem dX4_addSwitch_57 : decode cX4_addSwitch 57 = .ok (.ireturn, 1) := by decide +kernel
theorem dX4_write_0 : decode cX4_write 0 = .ok (.aload_n 0, 1) := by decide +kernel
theorem dX4_write_1 : decode cX4_write 1 = .ok (.iload_n 1, 1) := by decide +kernel
theorem dX4_write_2 : decode cX4_write 2 = .ok (.invokevirtual 42, 3) := by decide +kernel
theorem dX4_write_5 : decode cX4_write 5 = .ok (.astore 4, 2) := by decide +kernel
theorem dX4_write_7 : decode cX4_write 7 = .ok (.iload_n 2, 1) := by decide +kernel
theorem dX4_write_8 : decode cX4_write 8 = .ok (.iconst 1, 1) := by decide +kernel
theorem dX4_write_9 : decode cX4_write 9 = .ok (.bipush 16, 2) := by decide +kernel
theorem dX4_write_11 : decode cX4_write 11 = .ok (.invokestatic 27, 3) := by decide +kernel
theorem dX4_write_14 : decode cX4_write 14 = .ok (.aload 4, 2) := by decide +kernel
theorem dX4_write_16 : decode cX4_write 16 = .ok (.iload_n 3, 1) := by decide +kernel
theorem dX4_write_17 : decode cX4_write 17 = .ok (.invokestatic 46, 3) := by decide +kernel
theorem dX4_write_20 : decode cX4_write 20 = .ok (.iload_n 2, 1) := by decide +kernel
theorem dX4_write_21 : decode cX4_write 21 = .ok (.bipush 6, 2) := by decide +kernel
theorem dX4_write_23 : decode cX4_write 23 = .ok (.if_icmp .ne 21, 3) := by decide +kernel
theorem dX4_write_26 : decode cX4_write 26 = .ok (.aload 4, 2) := by decide +kernel
theorem dX4_write_28 : decode cX4_write 28 = .ok (.invokevirtual 50, 3) := by decide +kernel
theorem dX4_write_31 : decode cX4_write 31 = .ok (.ifCond .eq 13, 3) := by decide +kernel
theorem dX4_write_34 : decode cX4_write 34 = .ok (.new 54, 3) := by decide +kernel
theorem dX4_write_37 : decode cX4_write 37 = .ok (.dup, 1) := by decide +kernel
theorem dX4_write_38 : decode cX4_write 38 = .ok (.ldc 56, 2) := by decide +kernel
theorem dX4_write_40 : decode cX4_write 40 = .ok (.invokespecial 58, 3) := by decide +kernel
theorem dX4_write_43 : decode cX4_write 43 = .ok (.athrow, 1) := by decide +kernel
theorem dX4_write_44 : decode cX4_write 44 = .ok (.aload_n 0, 1) := by decide +kernel
theorem dX4_write_45 : decode cX4_write 45 = .ok (.aload 4, 2) := by decide +kernel
theorem dX4_write_47 : decode cX4_write 47 = .ok (.iload_n 2, 1) := by decide +kernel
theorem dX4_write_48 : decode cX4_write 48 = .ok (.iload_n 3, 1) := by decide +kernel
theorem dX4_write_49 : decode cX4_write 49 = .ok (.invokevirtual 61, 3) := by decide +kernel
theorem dX4_write_52 : decode cX4_write 52 = .ok (.aload 4, 2) := by decide +kernel
theorem dX4_write_54 : decode cX4_write 54 = .ok (.getfield 65, 3) := by decide +kernel
theorem dX4_write_57 : decode cX4_write 57 = .ok (.ireturn, 1) := by decide +kernel
theorem dX4_value_0 : decode cX4_value 0 = .ok (.aload_n 0, 1) := by decide +kernel
theorem dX4_value_1 : decode cX4_value 1 = .ok (.iload_n 1, 1) := by decide +kernel
theorem dX4_value_2 : decode cX4_value 2 = .ok (.invokevirtual 42, 3) := by decide +kernel
theorem dX4_value_5 : decode cX4_value 5 = .ok (.getfield 65, 3) := by decide +kernel
theorem dX4_value_8 : decode cX4_value 8 = .ok (.ireturn, 1) := by decide +kernel
theorem dX4_command_0 : decode cX4_command 0 = .ok (.aload_n 0, 1) := by decide +kernel
theorem dX4_command_1 : decode cX4_command 1 = .ok (.iload_n 1, 1) := by decide +kernel
theorem dX4_command_2 : decode cX4_command 2 = .ok (.invokevirtual 42, 3) := by decide +kernel
theorem dX4_command_5 : decode cX4_command 5 = .ok (.astore_n 3, 1) := by decide +kernel
theorem dX4_command_6 : decode cX4_command 6 = .ok (.iload_n 2, 1) := by decide +kernel
theorem dX4_command_7 : decode cX4_command 7 = .ok (.iconst 1, 1) := by decide +kernel
theorem dX4_command_8 : decode cX4_command 8 = .ok (.bipush 16, 2) := by decide +kernel
theorem dX4_command_10 : decode cX4_command 10 = .ok (.invokestatic 27, 3) := by decide +kernel
theorem dX4_command_13 : decode cX4_command 13 = .ok (.aload_n 3, 1) := by decide +kernel
theorem dX4_command_14 : decode cX4_command 14 = .ok (.getfield 68, 3) := by decide +kernel
theorem dX4_command_17 : decode cX4_command 17 = .ok (.iload_n 2, 1) := by decide +kernel
theorem dX4_command_18 : decode cX4_command 18 = .ok (.iaload, 1) := by decide +kernel
theorem dX4_command_19 : decode cX4_command 19 = .ok (.ireturn, 1) := by decide +kernel
theorem dX4_standing_0 : decode cX4_standing 0 = .ok (.aload_n 0, 1) := by decide +kernel
theorem dX4_standing_1 : decode cX4_standing 1 = .ok (.iload_n 1, 1) := by decide +kernel
theorem dX4_standing_2 : decode cX4_standing 2 = .ok (.invokevirtual 42, 3) := by decide +kernel
theorem dX4_standing_5 : decode cX4_standing 5 = .ok (.invokevirtual 72, 3) := by decide +kernel
theorem dX4_standing_8 : decode cX4_standing 8 = .ok (.ireturn, 1) := by decide +kernel
theorem dX4_held_0 : decode cX4_held 0 = .ok (.aload_n 0, 1) := by decide +kernel
theorem dX4_held_1 : decode cX4_held 1 = .ok (.iload_n 1, 1) := by decide +kernel
theorem dX4_held_2 : decode cX4_held 2 = .ok (.invokevirtual 42, 3) := by decide +kernel
theorem dX4_held_5 : decode cX4_held 5 = .ok (.astore_n 2, 1) := by decide +kernel
theorem dX4_held_6 : decode cX4_held 6 = .ok (.aload_n 2, 1) := by decide +kernel
theorem dX4_held_7 : decode cX4_held 7 = .ok (.invokevirtual 50, 3) := by decide +kernel
theorem dX4_held_10 : decode cX4_held 10 = .ok (.ifCond .eq 15, 3) := by decide +kernel
theorem dX4_held_13 : decode cX4_held 13 = .ok (.aload_n 2, 1) := by decide +kernel
theorem dX4_held_14 : decode cX4_held 14 = .ok (.getfield 76, 3) := by decide +kernel
theorem dX4_held_17 : decode cX4_held 17 = .ok (.aload_n 0, 1) := by decide +kernel
theorem dX4_held_18 : decode cX4_held 18 = .ok (.getfield 79, 3) := by decide +kernel
theorem dX4_held_21 : decode cX4_held 21 = .ok (.isub, 1) := by decide +kernel
theorem dX4_held_22 : decode cX4_held 22 = .ok (.goto 4, 3) := by decide +kernel
theorem dX4_held_25 : decode cX4_held 25 = .ok (.iconst 0, 1) := by decide +kernel
theorem dX4_held_26 : decode cX4_held 26 = .ok (.ireturn, 1) := by decide +kernel
theorem dX4_changes_0 : decode cX4_changes 0 = .ok (.aload_n 0, 1) := by decide +kernel
theorem dX4_changes_1 : decode cX4_changes 1 = .ok (.iload_n 1, 1) := by decide +kernel
theorem dX4_changes_2 : decode cX4_changes 2 = .ok (.invokevirtual 42, 3) := by decide +kernel
theorem dX4_changes_5 : decode cX4_changes 5 = .ok (.getfield 82, 3) := by decide +kernel
theorem dX4_changes_8 : decode cX4_changes 8 = .ok (.ireturn, 1) := by decide +kernel
theorem dX4_subscribe_0 : decode cX4_subscribe 0 = .ok (.aload_n 0, 1) := by decide +kernel
theorem dX4_subscribe_1 : decode cX4_subscribe 1 = .ok (.iload_n 1, 1) := by decide +kernel
theorem dX4_subscribe_2 : decode cX4_subscribe 2 = .ok (.invokevirtual 42, 3) := by decide +kernel
theorem dX4_subscribe_5 : decode cX4_subscribe 5 = .ok (.astore 4, 2) := by decide +kernel
theorem dX4_subscribe_7 : decode cX4_subscribe 7 = .ok (.iload_n 2, 1) := by decide +kernel
theorem dX4_subscribe_8 : decode cX4_subscribe 8 = .ok (.iconst 1, 1) := by decide +kernel
theorem dX4_subscribe_9 : decode cX4_subscribe 9 = .ok (.sipush 2000, 3) := by decide +kernel
theorem dX4_subscribe_12 : decode cX4_subscribe 12 = .ok (.invokestatic 27, 3) := by decide +kernel
theorem dX4_subscribe_15 : decode cX4_subscribe 15 = .ok (.iload_n 3, 1) := by decide +kernel
theorem dX4_subscribe_16 : decode cX4_subscribe 16 = .ok (.iconst 1, 1) := by decide +kernel
theorem dX4_subscribe_17 : decode cX4_subscribe 17 = .ok (.ldc 85, 2) := by decide +kernel
theorem dX4_subscribe_19 : decode cX4_subscribe 19 = .ok (.invokestatic 27, 3) := by decide +kernel
theorem dX4_subscribe_22 : decode cX4_subscribe 22 = .ok (.aload_n 0, 1) := by decide +kernel
theorem dX4_subscribe_23 : decode cX4_subscribe 23 = .ok (.getfield 86, 3) := by decide +kernel
theorem dX4_subscribe_26 : decode cX4_subscribe 26 = .ok (.aload_n 0, 1) := by decide +kernel
theorem dX4_subscribe_27 : decode cX4_subscribe 27 = .ok (.getfield 17, 3) := by decide +kernel
theorem dX4_subscribe_30 : decode cX4_subscribe 30 = .ok (.arraylength, 1) := by decide +kernel
theorem dX4_subscribe_31 : decode cX4_subscribe 31 = .ok (.invokestatic 35, 3) := by decide +kernel
theorem dX4_subscribe_34 : decode cX4_subscribe 34 = .ok (.aload_n 0, 1) := by decide +kernel
theorem dX4_subscribe_35 : decode cX4_subscribe 35 = .ok (.getfield 17, 3) := by decide +kernel
theorem dX4_subscribe_38 : decode cX4_subscribe 38 = .ok (.aload_n 0, 1) := by decide +kernel
theorem dX4_subscribe_39 : decode cX4_subscribe 39 = .ok (.getfield 86, 3) := by decide +kernel
theorem dX4_subscribe_42 : decode cX4_subscribe 42 = .ok (.new 15, 3) := by decide +kernel
theorem dX4_subscribe_45 : decode cX4_subscribe 45 = .ok (.dup, 1) := by decide +kernel
theorem dX4_subscribe_46 : decode cX4_subscribe 46 = .ok (.aload 4, 2) := by decide +kernel
theorem dX4_subscribe_48 : decode cX4_subscribe 48 = .ok (.iload_n 2, 1) := by decide +kernel
theorem dX4_subscribe_49 : decode cX4_subscribe 49 = .ok (.aload_n 0, 1) := by decide +kernel
theorem dX4_subscribe_50 : decode cX4_subscribe 50 = .ok (.getfield 79, 3) := by decide +kernel
theorem dX4_subscribe_53 : decode cX4_subscribe 53 = .ok (.iload_n 3, 1) := by decide +kernel
theorem dX4_subscribe_54 : decode cX4_subscribe 54 = .ok (.iadd, 1) := by decide +kernel
theorem dX4_subscribe_55 : decode cX4_subscribe 55 = .ok (.invokespecial 89, 3) := by decide +kernel
theorem dX4_subscribe_58 : decode cX4_subscribe 58 = .ok (.aastore, 1) := by decide +kernel
theorem dX4_subscribe_59 : decode cX4_subscribe 59 = .ok (.aload_n 0, 1) := by decide +kernel
theorem dX4_subscribe_60 : decode cX4_subscribe 60 = .ok (.dup, 1) := by decide +kernel
theorem dX4_subscribe_61 : decode cX4_subscribe 61 = .ok (.getfield 86, 3) := by decide +kernel
theorem dX4_subscribe_64 : decode cX4_subscribe 64 = .ok (.dup_x1, 1) := by decide +kernel
theorem dX4_subscribe_65 : decode cX4_subscribe 65 = .ok (.iconst 1, 1) := by decide +kernel
theorem dX4_subscribe_66 : decode cX4_subscribe 66 = .ok (.iadd, 1) := by decide +kernel
theorem dX4_subscribe_67 : decode cX4_subscribe 67 = .ok (.putfield 86, 3) := by decide +kernel
theorem dX4_subscribe_70 : decode cX4_subscribe 70 = .ok (.ireturn, 1) := by decide +kernel
theorem dX4_end_0 : decode cX4_end 0 = .ok (.aload_n 0, 1) := by decide +kernel
theorem dX4_end_1 : decode cX4_end 1 = .ok (.iload_n 1, 1) := by decide +kernel
theorem dX4_end_2 : decode cX4_end 2 = .ok (.invokevirtual 91, 3) := by decide +kernel
theorem dX4_end_5 : decode cX4_end 5 = .ok (.astore_n 2, 1) := by decide +kernel
theorem dX4_end_6 : decode cX4_end 6 = .ok (.aload_n 2, 1) := by decide +kernel
theorem dX4_end_7 : decode cX4_end 7 = .ok (.getfield 95, 3) := by decide +kernel
theorem dX4_end_10 : decode cX4_end 10 = .ok (.ifCond .ne 13, 3) := by decide +kernel
theorem dX4_end_13 : decode cX4_end 13 = .ok (.new 54, 3) := by decide +kernel
theorem dX4_end_16 : decode cX4_end 16 = .ok (.dup, 1) := by decide +kernel
theorem dX4_end_17 : decode cX4_end 17 = .ok (.ldc 99, 2) := by decide +kernel
theorem dX4_end_19 : decode cX4_end 19 = .ok (.invokespecial 58, 3) := by decide +kernel
theorem dX4_end_22 : decode cX4_end 22 = .ok (.athrow, 1) := by decide +kernel
theorem dX4_end_23 : decode cX4_end 23 = .ok (.aload_n 2, 1) := by decide +kernel
theorem dX4_end_24 : decode cX4_end 24 = .ok (.iconst 0, 1) := by decide +kernel
theorem dX4_end_25 : decode cX4_end 25 = .ok (.putfield 95, 3) := by decide +kernel
theorem dX4_end_28 : decode cX4_end 28 = .ok (.return_, 1) := by decide +kernel
theorem dX4_goesOn_0 : decode cX4_goesOn 0 = .ok (.aload_n 0, 1) := by decide +kernel
theorem dX4_goesOn_1 : decode cX4_goesOn 1 = .ok (.iload_n 1, 1) := by decide +kernel
theorem dX4_goesOn_2 : decode cX4_goesOn 2 = .ok (.invokevirtual 91, 3) := by decide +kernel
theorem dX4_goesOn_5 : decode cX4_goesOn 5 = .ok (.getfield 95, 3) := by decide +kernel
theorem dX4_goesOn_8 : decode cX4_goesOn 8 = .ok (.ireturn, 1) := by decide +kernel
theorem dX4_reports_0 : decode cX4_reports 0 = .ok (.aload_n 0, 1) := by decide +kernel
theorem dX4_reports_1 : decode cX4_reports 1 = .ok (.iload_n 1, 1) := by decide +kernel
theorem dX4_reports_2 : decode cX4_reports 2 = .ok (.invokevirtual 91, 3) := by decide +kernel
theorem dX4_reports_5 : decode cX4_reports 5 = .ok (.getfield 101, 3) := by decide +kernel
theorem dX4_reports_8 : decode cX4_reports 8 = .ok (.ireturn, 1) := by decide +kernel
theorem dX4_reported_0 : decode cX4_reported 0 = .ok (.aload_n 0, 1) := by decide +kernel
theorem dX4_reported_1 : decode cX4_reported 1 = .ok (.iload_n 1, 1) := by decide +kernel
theorem dX4_reported_2 : decode cX4_reported 2 = .ok (.invokevirtual 91, 3) := by decide +kernel
theorem dX4_reported_5 : decode cX4_reported 5 = .ok (.getfield 104, 3) := by decide +kernel
theorem dX4_reported_8 : decode cX4_reported 8 = .ok (.ireturn, 1) := by decide +kernel
theorem dX4_addSchedule_0 : decode cX4_addSchedule 0 = .ok (.aload_n 0, 1) := by decide +kernel
theorem dX4_addSchedule_1 : decode cX4_addSchedule 1 = .ok (.iload_n 1, 1) := by decide +kernel
theorem dX4_addSchedule_2 : decode cX4_addSchedule 2 = .ok (.invokevirtual 42, 3) := by decide +kernel
theorem dX4_addSchedule_5 : decode cX4_addSchedule 5 = .ok (.astore_n 3, 1) := by decide +kernel
theorem dX4_addSchedule_6 : decode cX4_addSchedule 6 = .ok (.iload_n 2, 1) := by decide +kernel
theorem dX4_addSchedule_7 : decode cX4_addSchedule 7 = .ok (.bipush 7, 2) := by decide +kernel
theorem dX4_addSchedule_9 : decode cX4_addSchedule 9 = .ok (.bipush 16, 2) := by decide +kernel
theorem dX4_addSchedule_11 : decode cX4_addSchedule 11 = .ok (.invokestatic 27, 3) := by decide +kernel
theorem dX4_addSchedule_14 : decode cX4_addSchedule 14 = .ok (.aload_n 0, 1) := by decide +kernel
theorem dX4_addSchedule_15 : decode cX4_addSchedule 15 = .ok (.getfield 107, 3) := by decide +kernel
theorem dX4_addSchedule_18 : decode cX4_addSchedule 18 = .ok (.aload_n 0, 1) := by decide +kernel
theorem dX4_addSchedule_19 : decode cX4_addSchedule 19 = .ok (.getfield 23, 3) := by decide +kernel
theorem dX4_addSchedule_22 : decode cX4_addSchedule 22 = .ok (.arraylength, 1) := by decide +kernel
theorem dX4_addSchedule_23 : decode cX4_addSchedule 23 = .ok (.invokestatic 35, 3) := by decide +kernel
theorem dX4_addSchedule_26 : decode cX4_addSchedule 26 = .ok (.aload_n 0, 1) := by decide +kernel
theorem dX4_addSchedule_27 : decode cX4_addSchedule 27 = .ok (.getfield 23, 3) := by decide +kernel
theorem dX4_addSchedule_30 : decode cX4_addSchedule 30 = .ok (.aload_n 0, 1) := by decide +kernel
theorem dX4_addSchedule_31 : decode cX4_addSchedule 31 = .ok (.getfield 107, 3) := by decide +kernel
theorem dX4_addSchedule_34 : decode cX4_addSchedule 34 = .ok (.new 21, 3) := by decide +kernel
theorem dX4_addSchedule_37 : decode cX4_addSchedule 37 = .ok (.dup, 1) := by decide +kernel
theorem dX4_addSchedule_38 : decode cX4_addSchedule 38 = .ok (.aload_n 3, 1) := by decide +kernel
theorem dX4_addSchedule_39 : decode cX4_addSchedule 39 = .ok (.iload_n 2, 1) := by decide +kernel
theorem dX4_addSchedule_40 : decode cX4_addSchedule 40 = .ok (.invokespecial 110, 3) := by decide +kernel
theorem dX4_addSchedule_43 : decode cX4_addSchedule 43 = .ok (.aastore, 1) := by decide +kernel
theorem dX4_addSchedule_44 : decode cX4_addSchedule 44 = .ok (.aload_n 0, 1) := by decide +kernel
theorem dX4_addSchedule_45 : decode cX4_addSchedule 45 = .ok (.dup, 1) := by decide +kernel
theorem dX4_addSchedule_46 : decode cX4_addSchedule 46 = .ok (.getfield 107, 3) := by decide +kernel
theorem dX4_addSchedule_49 : decode cX4_addSchedule 49 = .ok (.dup_x1, 1) := by decide +kernel
theorem dX4_addSchedule_50 : decode cX4_addSchedule 50 = .ok (.iconst 1, 1) := by decide +kernel
theorem dX4_addSchedule_51 : decode cX4_addSchedule 51 = .ok (.iadd, 1) := by decide +kernel
theorem dX4_addSchedule_52 : decode cX4_addSchedule 52 = .ok (.putfield 107, 3) := by decide +kernel
theorem dX4_addSchedule_55 : decode cX4_addSchedule 55 = .ok (.ireturn, 1) := by decide +kernel
theorem dX4_weekly_0 : decode cX4_weekly 0 = .ok (.aload_n 0, 1) := by decide +kernel
theorem dX4_weekly_1 : decode cX4_weekly 1 = .ok (.iload_n 1, 1) := by decide +kernel
theorem dX4_weekly_2 : decode cX4_weekly 2 = .ok (.invokevirtual 112, 3) := by decide +kernel
theorem dX4_weekly_5 : decode cX4_weekly 5 = .ok (.astore 5, 2) := by decide +kernel
theorem dX4_weekly_7 : decode cX4_weekly 7 = .ok (.iload_n 2, 1) := by decide +kernel
theorem dX4_weekly_8 : decode cX4_weekly 8 = .ok (.iconst 0, 1) := by decide +kernel
theorem dX4_weekly_9 : decode cX4_weekly 9 = .ok (.bipush 6, 2) := by decide +kernel
theorem dX4_weekly_11 : decode cX4_weekly 11 = .ok (.invokestatic 27, 3) := by decide +kernel
theorem dX4_weekly_14 : decode cX4_weekly 14 = .ok (.aload 5, 2) := by decide +kernel
theorem dX4_weekly_16 : decode cX4_weekly 16 = .ok (.iload_n 3, 1) := by decide +kernel
theorem dX4_weekly_17 : decode cX4_weekly 17 = .ok (.iload 4, 2) := by decide +kernel
theorem dX4_weekly_19 : decode cX4_weekly 19 = .ok (.invokestatic 116, 3) := by decide +kernel
theorem dX4_weekly_22 : decode cX4_weekly 22 = .ok (.aload 5, 2) := by decide +kernel
theorem dX4_weekly_24 : decode cX4_weekly 24 = .ok (.getfield 120, 3) := by decide +kernel
theorem dX4_weekly_27 : decode cX4_weekly 27 = .ok (.iload_n 2, 1) := by decide +kernel
theorem dX4_weekly_28 : decode cX4_weekly 28 = .ok (.iload_n 3, 1) := by decide +kernel
theorem dX4_weekly_29 : decode cX4_weekly 29 = .ok (.iload 4, 2) := by decide +kernel
theorem dX4_weekly_31 : decode cX4_weekly 31 = .ok (.invokevirtual 124, 3) := by decide +kernel
theorem dX4_weekly_34 : decode cX4_weekly 34 = .ok (.aload_n 0, 1) := by decide +kernel
theorem dX4_weekly_35 : decode cX4_weekly 35 = .ok (.aload 5, 2) := by decide +kernel
theorem dX4_weekly_37 : decode cX4_weekly 37 = .ok (.invokevirtual 129, 3) := by decide +kernel
theorem dX4_weekly_40 : decode cX4_weekly 40 = .ok (.aload 5, 2) := by decide +kernel
theorem dX4_weekly_42 : decode cX4_weekly 42 = .ok (.getfield 133, 3) := by decide +kernel
theorem dX4_weekly_45 : decode cX4_weekly 45 = .ok (.ireturn, 1) := by decide +kernel
theorem dX4_once_0 : decode cX4_once 0 = .ok (.aload_n 0, 1) := by decide +kernel
theorem dX4_once_1 : decode cX4_once 1 = .ok (.iload_n 1, 1) := by decide +kernel
theorem dX4_once_2 : decode cX4_once 2 = .ok (.invokevirtual 112, 3) := by decide +kernel
theorem dX4_once_5 : decode cX4_once 5 = .ok (.astore 5, 2) := by decide +kernel
theorem dX4_once_7 : decode cX4_once 7 = .ok (.iload_n 2, 1) := by decide +kernel
theorem dX4_once_8 : decode cX4_once 8 = .ok (.iconst 0, 1) := by decide +kernel
theorem dX4_once_9 : decode cX4_once 9 = .ok (.sipush 700, 3) := by decide +kernel
theorem dX4_once_12 : decode cX4_once 12 = .ok (.invokestatic 27, 3) := by decide +kernel
theorem dX4_once_15 : decode cX4_once 15 = .ok (.aload 5, 2) := by decide +kernel
theorem dX4_once_17 : decode cX4_once 17 = .ok (.iload_n 3, 1) := by decide +kernel
theorem dX4_once_18 : decode cX4_once 18 = .ok (.iload 4, 2) := by decide +kernel
theorem dX4_once_20 : decode cX4_once 20 = .ok (.invokestatic 116, 3) := by decide +kernel
theorem dX4_once_23 : decode cX4_once 23 = .ok (.aload 5, 2) := by decide +kernel
theorem dX4_once_25 : decode cX4_once 25 = .ok (.getfield 136, 3) := by decide +kernel
theorem dX4_once_28 : decode cX4_once 28 = .ok (.iload_n 2, 1) := by decide +kernel
theorem dX4_once_29 : decode cX4_once 29 = .ok (.iload_n 3, 1) := by decide +kernel
theorem dX4_once_30 : decode cX4_once 30 = .ok (.iload 4, 2) := by decide +kernel
theorem dX4_once_32 : decode cX4_once 32 = .ok (.invokevirtual 124, 3) := by decide +kernel
theorem dX4_once_35 : decode cX4_once 35 = .ok (.aload_n 0, 1) := by decide +kernel
theorem dX4_once_36 : decode cX4_once 36 = .ok (.aload 5, 2) := by decide +kernel
theorem dX4_once_38 : decode cX4_once 38 = .ok (.invokevirtual 129, 3) := by decide +kernel
theorem dX4_once_41 : decode cX4_once 41 = .ok (.aload 5, 2) := by decide +kernel
theorem dX4_once_43 : decode cX4_once 43 = .ok (.getfield 133, 3) := by decide +kernel
theorem dX4_once_46 : decode cX4_once 46 = .ok (.ireturn, 1) := by decide +kernel
theorem dX4_tells_0 : decode cX4_tells 0 = .ok (.aload_n 0, 1) := by decide +kernel
theorem dX4_tells_1 : decode cX4_tells 1 = .ok (.iload_n 1, 1) := by decide +kernel
theorem dX4_tells_2 : decode cX4_tells 2 = .ok (.invokevirtual 112, 3) := by decide +kernel
theorem dX4_tells_5 : decode cX4_tells 5 = .ok (.astore_n 3, 1) := by decide +kernel
theorem dX4_tells_6 : decode cX4_tells 6 = .ok (.iload_n 2, 1) := by decide +kernel
theorem dX4_tells_7 : decode cX4_tells 7 = .ok (.iconst 0, 1) := by decide +kernel
theorem dX4_tells_8 : decode cX4_tells 8 = .ok (.ldc 139, 2) := by decide +kernel
theorem dX4_tells_10 : decode cX4_tells 10 = .ok (.invokestatic 27, 3) := by decide +kernel
theorem dX4_tells_13 : decode cX4_tells 13 = .ok (.aload_n 3, 1) := by decide +kernel
theorem dX4_tells_14 : decode cX4_tells 14 = .ok (.iload_n 2, 1) := by decide +kernel
theorem dX4_tells_15 : decode cX4_tells 15 = .ok (.invokevirtual 140, 3) := by decide +kernel
theorem dX4_tells_18 : decode cX4_tells 18 = .ok (.ireturn, 1) := by decide +kernel
theorem dX4_pass_0 : decode cX4_pass 0 = .ok (.iload_n 1, 1) := by decide +kernel
theorem dX4_pass_1 : decode cX4_pass 1 = .ok (.iconst 1, 1) := by decide +kernel
theorem dX4_pass_2 : decode cX4_pass 2 = .ok (.sipush 5000, 3) := by decide +kernel
theorem dX4_pass_5 : decode cX4_pass 5 = .ok (.invokestatic 27, 3) := by decide +kernel
theorem dX4_pass_8 : decode cX4_pass 8 = .ok (.iload_n 1, 1) := by decide +kernel
theorem dX4_pass_9 : decode cX4_pass 9 = .ok (.ldc 139, 2) := by decide +kernel
theorem dX4_pass_11 : decode cX4_pass 11 = .ok (.aload_n 0, 1) := by decide +kernel
theorem dX4_pass_12 : decode cX4_pass 12 = .ok (.getfield 79, 3) := by decide +kernel
theorem dX4_pass_15 : decode cX4_pass 15 = .ok (.isub, 1) := by decide +kernel
theorem dX4_pass_16 : decode cX4_pass 16 = .ok (.if_icmp .le 13, 3) := by decide +kernel
theorem dX4_pass_19 : decode cX4_pass 19 = .ok (.new 54, 3) := by decide +kernel
theorem dX4_pass_22 : decode cX4_pass 22 = .ok (.dup, 1) := by decide +kernel
theorem dX4_pass_23 : decode cX4_pass 23 = .ok (.ldc 144, 2) := by decide +kernel
theorem dX4_pass_25 : decode cX4_pass 25 = .ok (.invokespecial 58, 3) := by decide +kernel
theorem dX4_pass_28 : decode cX4_pass 28 = .ok (.athrow, 1) := by decide +kernel
theorem dX4_pass_29 : decode cX4_pass 29 = .ok (.aload_n 0, 1) := by decide +kernel
theorem dX4_pass_30 : decode cX4_pass 30 = .ok (.getfield 146, 3) := by decide +kernel
theorem dX4_pass_33 : decode cX4_pass 33 = .ok (.istore_n 2, 1) := by decide +kernel
theorem dX4_pass_34 : decode cX4_pass 34 = .ok (.iconst 0, 1) := by decide +kernel
theorem dX4_pass_35 : decode cX4_pass 35 = .ok (.istore_n 3, 1) := by decide +kernel
theorem dX4_pass_36 : decode cX4_pass 36 = .ok (.iload_n 3, 1) := by decide +kernel
theorem dX4_pass_37 : decode cX4_pass 37 = .ok (.iload_n 1, 1) := by decide +kernel
theorem dX4_pass_38 : decode cX4_pass 38 = .ok (.if_icmp .ge 13, 3) := by decide +kernel
theorem dX4_pass_41 : decode cX4_pass 41 = .ok (.aload_n 0, 1) := by decide +kernel
theorem dX4_pass_42 : decode cX4_pass 42 = .ok (.invokevirtual 149, 3) := by decide +kernel
theorem dX4_pass_45 : decode cX4_pass 45 = .ok (.iinc 3 1, 3) := by decide +kernel
theorem dX4_pass_48 : decode cX4_pass 48 = .ok (.goto (-12), 3) := by decide +kernel
theorem dX4_pass_51 : decode cX4_pass 51 = .ok (.aload_n 0, 1) := by decide +kernel
theorem dX4_pass_52 : decode cX4_pass 52 = .ok (.getfield 146, 3) := by decide +kernel
theorem dX4_pass_55 : decode cX4_pass 55 = .ok (.iload_n 2, 1) := by decide +kernel
theorem dX4_pass_56 : decode cX4_pass 56 = .ok (.isub, 1) := by decide +kernel
theorem dX4_pass_57 : decode cX4_pass 57 = .ok (.ireturn, 1) := by decide +kernel
theorem dX4_clock_0 : decode cX4_clock 0 = .ok (.aload_n 0, 1) := by decide +kernel
theorem dX4_clock_1 : decode cX4_clock 1 = .ok (.getfield 79, 3) := by decide +kernel
theorem dX4_clock_4 : decode cX4_clock 4 = .ok (.ireturn, 1) := by decide +kernel
theorem dX4_requireWithin_0 : decode cX4_requireWithin 0 = .ok (.iload_n 0, 1) := by decide +kernel
theorem dX4_requireWithin_1 : decode cX4_requireWithin 1 = .ok (.iload_n 1, 1) := by decide +kernel
theorem dX4_requireWithin_2 : decode cX4_requireWithin 2 = .ok (.if_icmp .lt 8, 3) := by decide +kernel
theorem dX4_requireWithin_5 : decode cX4_requireWithin 5 = .ok (.iload_n 0, 1) := by decide +kernel
theorem dX4_requireWithin_6 : decode cX4_requireWithin 6 = .ok (.iload_n 2, 1) := by decide +kernel
theorem dX4_requireWithin_7 : decode cX4_requireWithin 7 = .ok (.if_icmp .le 13, 3) := by decide +kernel
theorem dX4_requireWithin_10 : decode cX4_requireWithin 10 = .ok (.new 152, 3) := by decide +kernel
theorem dX4_requireWithin_13 : decode cX4_requireWithin 13 = .ok (.dup, 1) := by decide +kernel
theorem dX4_requireWithin_14 : decode cX4_requireWithin 14 = .ok (.ldc 154, 2) := by decide +kernel
theorem dX4_requireWithin_16 : decode cX4_requireWithin 16 = .ok (.invokespecial 156, 3) := by decide +kernel
theorem dX4_requireWithin_19 : decode cX4_requireWithin 19 = .ok (.athrow, 1) := by decide +kernel
theorem dX4_requireWithin_20 : decode cX4_requireWithin 20 = .ok (.return_, 1) := by decide +kernel
theorem dX4_requireCommand_0 : decode cX4_requireCommand 0 = .ok (.iload_n 1, 1) := by decide +kernel
theorem dX4_requireCommand_1 : decode cX4_requireCommand 1 = .ok (.ldc 157, 2) := by decide +kernel
theorem dX4_requireCommand_3 : decode cX4_requireCommand 3 = .ok (.if_icmp .eq 21, 3) := by decide +kernel
theorem dX4_requireCommand_6 : decode cX4_requireCommand 6 = .ok (.aload_n 0, 1) := by decide +kernel
theorem dX4_requireCommand_7 : decode cX4_requireCommand 7 = .ok (.iload_n 1, 1) := by decide +kernel
theorem dX4_requireCommand_8 : decode cX4_requireCommand 8 = .ok (.invokevirtual 158, 3) := by decide +kernel
theorem dX4_requireCommand_11 : decode cX4_requireCommand 11 = .ok (.ifCond .ne 13, 3) := by decide +kernel
theorem dX4_requireCommand_14 : decode cX4_requireCommand 14 = .ok (.new 152, 3) := by decide +kernel
theorem dX4_requireCommand_17 : decode cX4_requireCommand 17 = .ok (.dup, 1) := by decide +kernel
theorem dX4_requireCommand_18 : decode cX4_requireCommand 18 = .ok (.ldc 162, 2) := by decide +kernel
theorem dX4_requireCommand_20 : decode cX4_requireCommand 20 = .ok (.invokespecial 156, 3) := by decide +kernel
theorem dX4_requireCommand_23 : decode cX4_requireCommand 23 = .ok (.athrow, 1) := by decide +kernel
theorem dX4_requireCommand_24 : decode cX4_requireCommand 24 = .ok (.return_, 1) := by decide +kernel
theorem dX4_requireRoom_0 : decode cX4_requireRoom 0 = .ok (.iload_n 0, 1) := by decide +kernel
theorem dX4_requireRoom_1 : decode cX4_requireRoom 1 = .ok (.iload_n 1, 1) := by decide +kernel
theorem dX4_requireRoom_2 : decode cX4_requireRoom 2 = .ok (.if_icmp .lt 13, 3) := by decide +kernel
theorem dX4_requireRoom_5 : decode cX4_requireRoom 5 = .ok (.new 54, 3) := by decide +kernel
theorem dX4_requireRoom_8 : decode cX4_requireRoom 8 = .ok (.dup, 1) := by decide +kernel
theorem dX4_requireRoom_9 : decode cX4_requireRoom 9 = .ok (.ldc 164, 2) := by decide +kernel
theorem dX4_requireRoom_11 : decode cX4_requireRoom 11 = .ok (.invokespecial 58, 3) := by decide +kernel
theorem dX4_requireRoom_14 : decode cX4_requireRoom 14 = .ok (.athrow, 1) := by decide +kernel
theorem dX4_requireRoom_15 : decode cX4_requireRoom 15 = .ok (.return_, 1) := by decide +kernel
theorem dX4_requireEntry_0 : decode cX4_requireEntry 0 = .ok (.iload_n 1, 1) := by decide +kernel
theorem dX4_requireEntry_1 : decode cX4_requireEntry 1 = .ok (.iconst 0, 1) := by decide +kernel
theorem dX4_requireEntry_2 : decode cX4_requireEntry 2 = .ok (.sipush 1439, 3) := by decide +kernel
theorem dX4_requireEntry_5 : decode cX4_requireEntry 5 = .ok (.invokestatic 27, 3) := by decide +kernel
theorem dX4_requireEntry_8 : decode cX4_requireEntry 8 = .ok (.aload_n 0, 1) := by decide +kernel
theorem dX4_requireEntry_9 : decode cX4_requireEntry 9 = .ok (.getfield 166, 3) := by decide +kernel
theorem dX4_requireEntry_12 : decode cX4_requireEntry 12 = .ok (.iload_n 2, 1) := by decide +kernel
theorem dX4_requireEntry_13 : decode cX4_requireEntry 13 = .ok (.invokestatic 46, 3) := by decide +kernel
theorem dX4_requireEntry_16 : decode cX4_requireEntry 16 = .ok (.aload_n 0, 1) := by decide +kernel
theorem dX4_requireEntry_17 : decode cX4_requireEntry 17 = .ok (.invokevirtual 170, 3) := by decide +kernel
theorem dX4_requireEntry_20 : decode cX4_requireEntry 20 = .ok (.bipush 20, 2) := by decide +kernel
theorem dX4_requireEntry_22 : decode cX4_requireEntry 22 = .ok (.invokestatic 35, 3) := by decide +kernel
theorem dX4_requireEntry_25 : decode cX4_requireEntry 25 = .ok (.return_, 1) := by decide +kernel
theorem dX4_pointAt_0 : decode cX4_pointAt 0 = .ok (.iload_n 1, 1) := by decide +kernel
theorem dX4_pointAt_1 : decode cX4_pointAt 1 = .ok (.ifCond .lt 21, 3) := by decide +kernel
theorem dX4_pointAt_4 : decode cX4_pointAt 4 = .ok (.iload_n 1, 1) := by decide +kernel
theorem dX4_pointAt_5 : decode cX4_pointAt 5 = .ok (.aload_n 0, 1) := by decide +kernel
theorem dX4_pointAt_6 : decode cX4_pointAt 6 = .ok (.getfield 11, 3) := by decide +kernel
theorem dX4_pointAt_9 : decode cX4_pointAt 9 = .ok (.arraylength, 1) := by decide +kernel
theorem dX4_pointAt_10 : decode cX4_pointAt 10 = .ok (.if_icmp .ge 12, 3) := by decide +kernel
theorem dX4_pointAt_13 : decode cX4_pointAt 13 = .ok (.aload_n 0, 1) := by decide +kernel
theorem dX4_pointAt_14 : decode cX4_pointAt 14 = .ok (.getfield 11, 3) := by decide +kernel
theorem dX4_pointAt_17 : decode cX4_pointAt 17 = .ok (.iload_n 1, 1) := by decide +kernel
theorem dX4_pointAt_18 : decode cX4_pointAt 18 = .ok (.aaload, 1) := by decide +kernel
theorem dX4_pointAt_19 : decode cX4_pointAt 19 = .ok (.ifnonnull 13, 3) := by decide +kernel
theorem dX4_pointAt_22 : decode cX4_pointAt 22 = .ok (.new 173, 3) := by decide +kernel
theorem dX4_pointAt_25 : decode cX4_pointAt 25 = .ok (.dup, 1) := by decide +kernel
theorem dX4_pointAt_26 : decode cX4_pointAt 26 = .ok (.ldc 175, 2) := by decide +kernel
theorem dX4_pointAt_28 : decode cX4_pointAt 28 = .ok (.invokespecial 177, 3) := by decide +kernel
theorem dX4_pointAt_31 : decode cX4_pointAt 31 = .ok (.athrow, 1) := by decide +kernel
theorem dX4_pointAt_32 : decode cX4_pointAt 32 = .ok (.aload_n 0, 1) := by decide +kernel
theorem dX4_pointAt_33 : decode cX4_pointAt 33 = .ok (.getfield 11, 3) := by decide +kernel
theorem dX4_pointAt_36 : decode cX4_pointAt 36 = .ok (.iload_n 1, 1) := by decide +kernel
theorem dX4_pointAt_37 : decode cX4_pointAt 37 = .ok (.aaload, 1) := by decide +kernel
theorem dX4_pointAt_38 : decode cX4_pointAt 38 = .ok (.areturn, 1) := by decide +kernel
theorem dX4_subscriptionAt_0 : decode cX4_subscriptionAt 0 = .ok (.iload_n 1, 1) := by decide +kernel
theorem dX4_subscriptionAt_1 : decode cX4_subscriptionAt 1 = .ok (.ifCond .lt 21, 3) := by decide +kernel
theorem dX4_subscriptionAt_4 : decode cX4_subscriptionAt 4 = .ok (.iload_n 1, 1) := by decide +kernel
theorem dX4_subscriptionAt_5 : decode cX4_subscriptionAt 5 = .ok (.aload_n 0, 1) := by decide +kernel
theorem dX4_subscriptionAt_6 : decode cX4_subscriptionAt 6 = .ok (.getfield 17, 3) := by decide +kernel
theorem dX4_subscriptionAt_9 : decode cX4_subscriptionAt 9 = .ok (.arraylength, 1) := by decide +kernel
theorem dX4_subscriptionAt_10 : decode cX4_subscriptionAt 10 = .ok (.if_icmp .ge 12, 3) := by decide +kernel
theorem dX4_subscriptionAt_13 : decode cX4_subscriptionAt 13 = .ok (.aload_n 0, 1) := by decide +kernel
theorem dX4_subscriptionAt_14 : decode cX4_subscriptionAt 14 = .ok (.getfield 17, 3) := by decide +kernel
theorem dX4_subscriptionAt_17 : decode cX4_subscriptionAt 17 = .ok (.iload_n 1, 1) := by decide +kernel
theorem dX4_subscriptionAt_18 : decode cX4_subscriptionAt 18 = .ok (.aaload, 1) := by decide +kernel
theorem dX4_subscriptionAt_19 : decode cX4_subscriptionAt 19 = .ok (.ifnonnull 13, 3) := by decide +kernel
theorem dX4_subscriptionAt_22 : decode cX4_subscriptionAt 22 = .ok (.new 173, 3) := by decide +kernel
theorem dX4_subscriptionAt_25 : decode cX4_subscriptionAt 25 = .ok (.dup, 1) := by decide +kernel
theorem dX4_subscriptionAt_26 : decode cX4_subscriptionAt 26 = .ok (.ldc 178, 2) := by decide +kernel
theorem dX4_subscriptionAt_28 : decode cX4_subscriptionAt 28 = .ok (.invokespecial 177, 3) := by decide +kernel
theorem dX4_subscriptionAt_31 : decode cX4_subscriptionAt 31 = .ok (.athrow, 1) := by decide +kernel
theorem dX4_subscriptionAt_32 : decode cX4_subscriptionAt 32 = .ok (.aload_n 0, 1) := by decide +kernel
theorem dX4_subscriptionAt_33 : decode cX4_subscriptionAt 33 = .ok (.getfield 17, 3) := by decide +kernel
theorem dX4_subscriptionAt_36 : decode cX4_subscriptionAt 36 = .ok (.iload_n 1, 1) := by decide +kernel
theorem dX4_subscriptionAt_37 : decode cX4_subscriptionAt 37 = .ok (.aaload, 1) := by decide +kernel
theorem dX4_subscriptionAt_38 : decode cX4_subscriptionAt 38 = .ok (.areturn, 1) := by decide +kernel
theorem dX4_scheduleAt_0 : decode cX4_scheduleAt 0 = .ok (.iload_n 1, 1) := by decide +kernel
theorem dX4_scheduleAt_1 : decode cX4_scheduleAt 1 = .ok (.ifCond .lt 21, 3) := by decide +kernel
theorem dX4_scheduleAt_4 : decode cX4_scheduleAt 4 = .ok (.iload_n 1, 1) := by decide +kernel
theorem dX4_scheduleAt_5 : decode cX4_scheduleAt 5 = .ok (.aload_n 0, 1) := by decide +kernel
theorem dX4_scheduleAt_6 : decode cX4_scheduleAt 6 = .ok (.getfield 23, 3) := by decide +kernel
theorem dX4_scheduleAt_9 : decode cX4_scheduleAt 9 = .ok (.arraylength, 1) := by decide +kernel
theorem dX4_scheduleAt_10 : decode cX4_scheduleAt 10 = .ok (.if_icmp .ge 12, 3) := by decide +kernel
theorem dX4_scheduleAt_13 : decode cX4_scheduleAt 13 = .ok (.aload_n 0, 1) := by decide +kernel
theorem dX4_scheduleAt_14 : decode cX4_scheduleAt 14 = .ok (.getfield 23, 3) := by decide +kernel
theorem dX4_scheduleAt_17 : decode cX4_scheduleAt 17 = .ok (.iload_n 1, 1) := by decide +kernel
theorem dX4_scheduleAt_18 : decode cX4_scheduleAt 18 = .ok (.aaload, 1) := by decide +kernel
theorem dX4_scheduleAt_19 : decode cX4_scheduleAt 19 = .ok (.ifnonnull 13, 3) := by decide +kernel
theorem dX4_scheduleAt_22 : decode cX4_scheduleAt 22 = .ok (.new 173, 3) := by decide +kernel
theorem dX4_scheduleAt_25 : decode cX4_scheduleAt 25 = .ok (.dup, 1) := by decide +kernel
theorem dX4_scheduleAt_26 : decode cX4_scheduleAt 26 = .ok (.ldc 180, 2) := by decide +kernel
theorem dX4_scheduleAt_28 : decode cX4_scheduleAt 28 = .ok (.invokespecial 177, 3) := by decide +kernel
theorem dX4_scheduleAt_31 : decode cX4_scheduleAt 31 = .ok (.athrow, 1) := by decide +kernel
theorem dX4_scheduleAt_32 : decode cX4_scheduleAt 32 = .ok (.aload_n 0, 1) := by decide +kernel
theorem dX4_scheduleAt_33 : decode cX4_scheduleAt 33 = .ok (.getfield 23, 3) := by decide +kernel
theorem dX4_scheduleAt_36 : decode cX4_scheduleAt 36 = .ok (.iload_n 1, 1) := by decide +kernel
theorem dX4_scheduleAt_37 : decode cX4_scheduleAt 37 = .ok (.aaload, 1) := by decide +kernel
theorem dX4_scheduleAt_38 : decode cX4_scheduleAt 38 = .ok (.areturn, 1) := by decide +kernel
theorem dX4_put_0 : decode cX4_put 0 = .ok (.aload_n 1, 1) := by decide +kernel
theorem dX4_put_1 : decode cX4_put 1 = .ok (.getfield 68, 3) := by decide +kernel
theorem dX4_put_4 : decode cX4_put 4 = .ok (.iload_n 2, 1) := by decide +kernel
theorem dX4_put_5 : decode cX4_put 5 = .ok (.iload_n 3, 1) := by decide +kernel
theorem dX4_put_6 : decode cX4_put 6 = .ok (.iastore, 1) := by decide +kernel
theorem dX4_put_7 : decode cX4_put 7 = .ok (.aload_n 1, 1) := by decide +kernel
theorem dX4_put_8 : decode cX4_put 8 = .ok (.invokevirtual 182, 3) := by decide +kernel
theorem dX4_put_11 : decode cX4_put 11 = .ok (.istore 4, 2) := by decide +kernel
theorem dX4_put_13 : decode cX4_put 13 = .ok (.iload 4, 2) := by decide +kernel
theorem dX4_put_15 : decode cX4_put 15 = .ok (.aload_n 1, 1) := by decide +kernel
theorem dX4_put_16 : decode cX4_put 16 = .ok (.getfield 65, 3) := by decide +kernel
theorem dX4_put_19 : decode cX4_put 19 = .ok (.if_icmp .eq 18, 3) := by decide +kernel
theorem dX4_put_22 : decode cX4_put 22 = .ok (.aload_n 1, 1) := by decide +kernel
theorem dX4_put_23 : decode cX4_put 23 = .ok (.iload 4, 2) := by decide +kernel
theorem dX4_put_25 : decode cX4_put 25 = .ok (.aload_n 0, 1) := by decide +kernel
theorem dX4_put_26 : decode cX4_put 26 = .ok (.getfield 79, 3) := by decide +kernel
theorem dX4_put_29 : decode cX4_put 29 = .ok (.invokevirtual 185, 3) := by decide +kernel
theorem dX4_put_32 : decode cX4_put 32 = .ok (.aload_n 0, 1) := by decide +kernel
theorem dX4_put_33 : decode cX4_put 33 = .ok (.aload_n 1, 1) := by decide +kernel
theorem dX4_put_34 : decode cX4_put 34 = .ok (.invokevirtual 188, 3) := by decide +kernel
theorem dX4_put_37 : decode cX4_put 37 = .ok (.return_, 1) := by decide +kernel
theorem dX4_reportChange_0 : decode cX4_reportChange 0 = .ok (.aload_n 0, 1) := by decide +kernel
theorem dX4_reportChange_1 : decode cX4_reportChange 1 = .ok (.getfield 17, 3) := by decide +kernel
theorem dX4_reportChange_4 : decode cX4_reportChange 4 = .ok (.astore_n 2, 1) := by decide +kernel
theorem dX4_reportChange_5 : decode cX4_reportChange 5 = .ok (.aload_n 2, 1) := by decide +kernel
theorem dX4_reportChange_6 : decode cX4_reportChange 6 = .ok (.arraylength, 1) := by decide +kernel
theorem dX4_reportChange_7 : decode cX4_reportChange 7 = .ok (.istore_n 3, 1) := by decide +kernel
theorem dX4_reportChange_8 : decode cX4_reportChange 8 = .ok (.iconst 0, 1) := by decide +kernel
theorem dX4_reportChange_9 : decode cX4_reportChange 9 = .ok (.istore 4, 2) := by decide +kernel
theorem dX4_reportChange_11 : decode cX4_reportChange 11 = .ok (.iload 4, 2) := by decide +kernel
theorem dX4_reportChange_13 : decode cX4_reportChange 13 = .ok (.iload_n 3, 1) := by decide +kernel
theorem dX4_reportChange_14 : decode cX4_reportChange 14 = .ok (.if_icmp .ge 71, 3) := by decide +kernel
theorem dX4_reportChange_17 : decode cX4_reportChange 17 = .ok (.aload_n 2, 1) := by decide +kernel
theorem dX4_reportChange_18 : decode cX4_reportChange 18 = .ok (.iload 4, 2) := by decide +kernel
theorem dX4_reportChange_20 : decode cX4_reportChange 20 = .ok (.aaload, 1) := by decide +kernel
theorem dX4_reportChange_21 : decode cX4_reportChange 21 = .ok (.astore 5, 2) := by decide +kernel
theorem dX4_reportChange_23 : decode cX4_reportChange 23 = .ok (.aload 5, 2) := by decide +kernel
theorem dX4_reportChange_25 : decode cX4_reportChange 25 = .ok (.ifnonnull 6, 3) := by decide +kernel
theorem dX4_reportChange_28 : decode cX4_reportChange 28 = .ok (.goto 57, 3) := by decide +kernel
theorem dX4_reportChange_31 : decode cX4_reportChange 31 = .ok (.aload 5, 2) := by decide +kernel
theorem dX4_reportChange_33 : decode cX4_reportChange 33 = .ok (.getfield 95, 3) := by decide +kernel
theorem dX4_reportChange_36 : decode cX4_reportChange 36 = .ok (.ifCond .eq 43, 3) := by decide +kernel
theorem dX4_reportChange_39 : decode cX4_reportChange 39 = .ok (.aload 5, 2) := by decide +kernel
theorem dX4_reportChange_41 : decode cX4_reportChange 41 = .ok (.getfield 192, 3) := by decide +kernel
theorem dX4_reportChange_44 : decode cX4_reportChange 44 = .ok (.aload_n 1, 1) := by decide +kernel
theorem dX4_reportChange_45 : decode cX4_reportChange 45 = .ok (.if_acmp .ne 34, 3) := by decide +kernel
theorem dX4_reportChange_48 : decode cX4_reportChange 48 = .ok (.aload 5, 2) := by decide +kernel
theorem dX4_reportChange_50 : decode cX4_reportChange 50 = .ok (.aload_n 1, 1) := by decide +kernel
theorem dX4_reportChange_51 : decode cX4_reportChange 51 = .ok (.getfield 65, 3) := by decide +kernel
theorem dX4_reportChange_54 : decode cX4_reportChange 54 = .ok (.invokevirtual 193, 3) := by decide +kernel
theorem dX4_reportChange_57 : decode cX4_reportChange 57 = .ok (.ifCond .eq 22, 3) := by decide +kernel
theorem dX4_reportChange_60 : decode cX4_reportChange 60 = .ok (.aload 5, 2) := by decide +kernel
theorem dX4_reportChange_62 : decode cX4_reportChange 62 = .ok (.aload_n 1, 1) := by decide +kernel
theorem dX4_reportChange_63 : decode cX4_reportChange 63 = .ok (.getfield 65, 3) := by decide +kernel
theorem dX4_reportChange_66 : decode cX4_reportChange 66 = .ok (.invokevirtual 196, 3) := by decide +kernel
theorem dX4_reportChange_69 : decode cX4_reportChange 69 = .ok (.aload_n 0, 1) := by decide +kernel
theorem dX4_reportChange_70 : decode cX4_reportChange 70 = .ok (.dup, 1) := by decide +kernel
theorem dX4_reportChange_71 : decode cX4_reportChange 71 = .ok (.getfield 146, 3) := by decide +kernel
theorem dX4_reportChange_74 : decode cX4_reportChange 74 = .ok (.iconst 1, 1) := by decide +kernel
theorem dX4_reportChange_75 : decode cX4_reportChange 75 = .ok (.iadd, 1) := by decide +kernel
theorem dX4_reportChange_76 : decode cX4_reportChange 76 = .ok (.putfield 146, 3) := by decide +kernel
theorem dX4_reportChange_79 : decode cX4_reportChange 79 = .ok (.iinc 4 1, 3) := by decide +kernel
theorem dX4_reportChange_82 : decode cX4_reportChange 82 = .ok (.goto (-71), 3) := by decide +kernel
theorem dX4_reportChange_85 : decode cX4_reportChange 85 = .ok (.return_, 1) := by decide +kernel
theorem dX4_follow_0 : decode cX4_follow 0 = .ok (.aload_n 1, 1) := by decide +kernel
theorem dX4_follow_1 : decode cX4_follow 1 = .ok (.aload_n 0, 1) := by decide +kernel
theorem dX4_follow_2 : decode cX4_follow 2 = .ok (.getfield 79, 3) := by decide +kernel
theorem dX4_follow_5 : decode cX4_follow 5 = .ok (.invokevirtual 140, 3) := by decide +kernel
theorem dX4_follow_8 : decode cX4_follow 8 = .ok (.istore_n 2, 1) := by decide +kernel
theorem dX4_follow_9 : decode cX4_follow 9 = .ok (.iload_n 2, 1) := by decide +kernel
theorem dX4_follow_10 : decode cX4_follow 10 = .ok (.aload_n 1, 1) := by decide +kernel
theorem dX4_follow_11 : decode cX4_follow 11 = .ok (.getfield 133, 3) := by decide +kernel
theorem dX4_follow_14 : decode cX4_follow 14 = .ok (.if_icmp .eq 21, 3) := by decide +kernel
theorem dX4_follow_17 : decode cX4_follow 17 = .ok (.aload_n 1, 1) := by decide +kernel
theorem dX4_follow_18 : decode cX4_follow 18 = .ok (.iload_n 2, 1) := by decide +kernel
theorem dX4_follow_19 : decode cX4_follow 19 = .ok (.putfield 133, 3) := by decide +kernel
theorem dX4_follow_22 : decode cX4_follow 22 = .ok (.aload_n 0, 1) := by decide +kernel
theorem dX4_follow_23 : decode cX4_follow 23 = .ok (.aload_n 1, 1) := by decide +kernel
theorem dX4_follow_24 : decode cX4_follow 24 = .ok (.getfield 166, 3) := by decide +kernel
theorem dX4_follow_27 : decode cX4_follow 27 = .ok (.aload_n 1, 1) := by decide +kernel
theorem dX4_follow_28 : decode cX4_follow 28 = .ok (.getfield 200, 3) := by decide +kernel
theorem dX4_follow_31 : decode cX4_follow 31 = .ok (.iload_n 2, 1) := by decide +kernel
theorem dX4_follow_32 : decode cX4_follow 32 = .ok (.invokevirtual 61, 3) := by decide +kernel
theorem dX4_follow_35 : decode cX4_follow 35 = .ok (.return_, 1) := by decide +kernel
theorem dX4_passMinute_0 : decode cX4_passMinute 0 = .ok (.aload_n 0, 1) := by decide +kernel
theorem dX4_passMinute_1 : decode cX4_passMinute 1 = .ok (.dup, 1) := by decide +kernel
theorem dX4_passMinute_2 : decode cX4_passMinute 2 = .ok (.getfield 79, 3) := by decide +kernel
theorem dX4_passMinute_5 : decode cX4_passMinute 5 = .ok (.iconst 1, 1) := by decide +kernel
theorem dX4_passMinute_6 : decode cX4_passMinute 6 = .ok (.iadd, 1) := by decide +kernel
theorem dX4_passMinute_7 : decode cX4_passMinute 7 = .ok (.putfield 79, 3) := by decide +kernel
theorem dX4_passMinute_10 : decode cX4_passMinute 10 = .ok (.aload_n 0, 1) := by decide +kernel
theorem dX4_passMinute_11 : decode cX4_passMinute 11 = .ok (.invokevirtual 203, 3) := by decide +kernel
theorem dX4_passMinute_14 : decode cX4_passMinute 14 = .ok (.aload_n 0, 1) := by decide +kernel
theorem dX4_passMinute_15 : decode cX4_passMinute 15 = .ok (.invokevirtual 206, 3) := by decide +kernel
theorem dX4_passMinute_18 : decode cX4_passMinute 18 = .ok (.aload_n 0, 1) := by decide +kernel
theorem dX4_passMinute_19 : decode cX4_passMinute 19 = .ok (.invokevirtual 209, 3) := by decide +kernel
theorem dX4_passMinute_22 : decode cX4_passMinute 22 = .ok (.return_, 1) := by decide +kernel
theorem dX4_releaseHeldCommands_0 : decode cX4_releaseHeldCommands 0 = .ok (.aload_n 0, 1) := by decide +kernel
theorem dX4_releaseHeldCommands_1 : decode cX4_releaseHeldCommands 1 = .ok (.getfield 11, 3) := by decide +kernel
theorem dX4_releaseHeldCommands_4 : decode cX4_releaseHeldCommands 4 = .ok (.astore_n 1, 1) := by decide +kernel
theorem dX4_releaseHeldCommands_5 : decode cX4_releaseHeldCommands 5 = .ok (.aload_n 1, 1) := by decide +kernel
theorem dX4_releaseHeldCommands_6 : decode cX4_releaseHeldCommands 6 = .ok (.arraylength, 1) := by decide +kernel
theorem dX4_releaseHeldCommands_7 : decode cX4_releaseHeldCommands 7 = .ok (.istore_n 2, 1) := by decide +kernel
theorem dX4_releaseHeldCommands_8 : decode cX4_releaseHeldCommands 8 = .ok (.iconst 0, 1) := by decide +kernel
theorem dX4_releaseHeldCommands_9 : decode cX4_releaseHeldCommands 9 = .ok (.istore_n 3, 1) := by decide +kernel
theorem dX4_releaseHeldCommands_10 : decode cX4_releaseHeldCommands 10 = .ok (.iload_n 3, 1) := by decide +kernel
theorem dX4_releaseHeldCommands_11 : decode cX4_releaseHeldCommands 11 = .ok (.iload_n 2, 1) := by decide +kernel
theorem dX4_releaseHeldCommands_12 : decode cX4_releaseHeldCommands 12 = .ok (.if_icmp .ge 58, 3) := by decide +kernel
theorem dX4_releaseHeldCommands_15 : decode cX4_releaseHeldCommands 15 = .ok (.aload_n 1, 1) := by decide +kernel
theorem dX4_releaseHeldCommands_16 : decode cX4_releaseHeldCommands 16 = .ok (.iload_n 3, 1) := by decide +kernel
theorem dX4_releaseHeldCommands_17 : decode cX4_releaseHeldCommands 17 = .ok (.aaload, 1) := by decide +kernel
theorem dX4_releaseHeldCommands_18 : decode cX4_releaseHeldCommands 18 = .ok (.astore 4, 2) := by decide +kernel
theorem dX4_releaseHeldCommands_20 : decode cX4_releaseHeldCommands 20 = .ok (.aload 4, 2) := by decide +kernel
theorem dX4_releaseHeldCommands_22 : decode cX4_releaseHeldCommands 22 = .ok (.ifnonnull 6, 3) := by decide +kernel
theorem dX4_releaseHeldCommands_25 : decode cX4_releaseHeldCommands 25 = .ok (.goto 45, 3) := by decide +kernel
theorem dX4_releaseHeldCommands_28 : decode cX4_releaseHeldCommands 28 = .ok (.aload 4, 2) := by decide +kernel
theorem dX4_releaseHeldCommands_30 : decode cX4_releaseHeldCommands 30 = .ok (.invokevirtual 50, 3) := by decide +kernel
theorem dX4_releaseHeldCommands_33 : decode cX4_releaseHeldCommands 33 = .ok (.ifCond .eq 31, 3) := by decide +kernel
theorem dX4_releaseHeldCommands_36 : decode cX4_releaseHeldCommands 36 = .ok (.aload 4, 2) := by decide +kernel
theorem dX4_releaseHeldCommands_38 : decode cX4_releaseHeldCommands 38 = .ok (.getfield 76, 3) := by decide +kernel
theorem dX4_releaseHeldCommands_41 : decode cX4_releaseHeldCommands 41 = .ok (.aload_n 0, 1) := by decide +kernel
theorem dX4_releaseHeldCommands_42 : decode cX4_releaseHeldCommands 42 = .ok (.getfield 79, 3) := by decide +kernel
theorem dX4_releaseHeldCommands_45 : decode cX4_releaseHeldCommands 45 = .ok (.if_icmp .gt 19, 3) := by decide +kernel
theorem dX4_releaseHeldCommands_48 : decode cX4_releaseHeldCommands 48 = .ok (.aload 4, 2) := by decide +kernel
theorem dX4_releaseHeldCommands_50 : decode cX4_releaseHeldCommands 50 = .ok (.iconst 0, 1) := by decide +kernel
theorem dX4_releaseHeldCommands_51 : decode cX4_releaseHeldCommands 51 = .ok (.putfield 76, 3) := by decide +kernel
theorem dX4_releaseHeldCommands_54 : decode cX4_releaseHeldCommands 54 = .ok (.aload_n 0, 1) := by decide +kernel
theorem dX4_releaseHeldCommands_55 : decode cX4_releaseHeldCommands 55 = .ok (.aload 4, 2) := by decide +kernel
theorem dX4_releaseHeldCommands_57 : decode cX4_releaseHeldCommands 57 = .ok (.bipush 6, 2) := by decide +kernel
theorem dX4_releaseHeldCommands_59 : decode cX4_releaseHeldCommands 59 = .ok (.ldc 157, 2) := by decide +kernel
theorem dX4_releaseHeldCommands_61 : decode cX4_releaseHeldCommands 61 = .ok (.invokevirtual 61, 3) := by decide +kernel
theorem dX4_releaseHeldCommands_64 : decode cX4_releaseHeldCommands 64 = .ok (.iinc 3 1, 3) := by decide +kernel
theorem dX4_releaseHeldCommands_67 : decode cX4_releaseHeldCommands 67 = .ok (.goto (-57), 3) := by decide +kernel
theorem dX4_releaseHeldCommands_70 : decode cX4_releaseHeldCommands 70 = .ok (.return_, 1) := by decide +kernel
theorem dX4_endOldSubscriptions_0 : decode cX4_endOldSubscriptions 0 = .ok (.aload_n 0, 1) := by decide +kernel
theorem dX4_endOldSubscriptions_1 : decode cX4_endOldSubscriptions 1 = .ok (.getfield 17, 3) := by decide +kernel
theorem dX4_endOldSubscriptions_4 : decode cX4_endOldSubscriptions 4 = .ok (.astore_n 1, 1) := by decide +kernel
theorem dX4_endOldSubscriptions_5 : decode cX4_endOldSubscriptions 5 = .ok (.aload_n 1, 1) := by decide +kernel
theorem dX4_endOldSubscriptions_6 : decode cX4_endOldSubscriptions 6 = .ok (.arraylength, 1) := by decide +kernel
theorem dX4_endOldSubscriptions_7 : decode cX4_endOldSubscriptions 7 = .ok (.istore_n 2, 1) := by decide +kernel
theorem dX4_endOldSubscriptions_8 : decode cX4_endOldSubscriptions 8 = .ok (.iconst 0, 1) := by decide +kernel
theorem dX4_endOldSubscriptions_9 : decode cX4_endOldSubscriptions 9 = .ok (.istore_n 3, 1) := by decide +kernel
theorem dX4_endOldSubscriptions_10 : decode cX4_endOldSubscriptions 10 = .ok (.iload_n 3, 1) := by decide +kernel
theorem dX4_endOldSubscriptions_11 : decode cX4_endOldSubscriptions 11 = .ok (.iload_n 2, 1) := by decide +kernel
theorem dX4_endOldSubscriptions_12 : decode cX4_endOldSubscriptions 12 = .ok (.if_icmp .ge 40, 3) := by decide +kernel
theorem dX4_endOldSubscriptions_15 : decode cX4_endOldSubscriptions 15 = .ok (.aload_n 1, 1) := by decide +kernel
theorem dX4_endOldSubscriptions_16 : decode cX4_endOldSubscriptions 16 = .ok (.iload_n 3, 1) := by decide +kernel
theorem dX4_endOldSubscriptions_17 : decode cX4_endOldSubscriptions 17 = .ok (.aaload, 1) := by decide +kernel
theorem dX4_endOldSubscriptions_18 : decode cX4_endOldSubscriptions 18 = .ok (.astore 4, 2) := by decide +kernel
theorem dX4_endOldSubscriptions_20 : decode cX4_endOldSubscriptions 20 = .ok (.aload 4, 2) := by decide +kernel
theorem dX4_endOldSubscriptions_22 : decode cX4_endOldSubscriptions 22 = .ok (.ifnonnull 6, 3) := by decide +kernel
theorem dX4_endOldSubscriptions_25 : decode cX4_endOldSubscriptions 25 = .ok (.goto 27, 3) := by decide +kernel
theorem dX4_endOldSubscriptions_28 : decode cX4_endOldSubscriptions 28 = .ok (.aload 4, 2) := by decide +kernel
theorem dX4_endOldSubscriptions_30 : decode cX4_endOldSubscriptions 30 = .ok (.getfield 212, 3) := by decide +kernel
theorem dX4_endOldSubscriptions_33 : decode cX4_endOldSubscriptions 33 = .ok (.aload_n 0, 1) := by decide +kernel
theorem dX4_endOldSubscriptions_34 : decode cX4_endOldSubscriptions 34 = .ok (.getfield 79, 3) := by decide +kernel
theorem dX4_endOldSubscriptions_37 : decode cX4_endOldSubscriptions 37 = .ok (.if_icmp .gt 9, 3) := by decide +kernel
theorem dX4_endOldSubscriptions_40 : decode cX4_endOldSubscriptions 40 = .ok (.aload 4, 2) := by decide +kernel
theorem dX4_endOldSubscriptions_42 : decode cX4_endOldSubscriptions 42 = .ok (.iconst 0, 1) := by decide +kernel
theorem dX4_endOldSubscriptions_43 : decode cX4_endOldSubscriptions 43 = .ok (.putfield 95, 3) := by decide +kernel
theorem dX4_endOldSubscriptions_46 : decode cX4_endOldSubscriptions 46 = .ok (.iinc 3 1, 3) := by decide +kernel
theorem dX4_endOldSubscriptions_49 : decode cX4_endOldSubscriptions 49 = .ok (.goto (-39), 3) := by decide +kernel
theorem dX4_endOldSubscriptions_52 : decode cX4_endOldSubscriptions 52 = .ok (.return_, 1) := by decide +kernel
theorem dX4_followSchedules_0 : decode cX4_followSchedules 0 = .ok (.aload_n 0, 1) := by decide +kernel
theorem dX4_followSchedules_1 : decode cX4_followSchedules 1 = .ok (.getfield 23, 3) := by decide +kernel
theorem dX4_followSchedules_4 : decode cX4_followSchedules 4 = .ok (.astore_n 1, 1) := by decide +kernel
theorem dX4_followSchedules_5 : decode cX4_followSchedules 5 = .ok (.aload_n 1, 1) := by decide +kernel
theorem dX4_followSchedules_6 : decode cX4_followSchedules 6 = .ok (.arraylength, 1) := by decide +kernel
theorem dX4_followSchedules_7 : decode cX4_followSchedules 7 = .ok (.istore_n 2, 1) := by decide +kernel
theorem dX4_followSchedules_8 : decode cX4_followSchedules 8 = .ok (.iconst 0, 1) := by decide +kernel
theorem dX4_followSchedules_9 : decode cX4_followSchedules 9 = .ok (.istore_n 3, 1) := by decide +kernel
theorem dX4_followSchedules_10 : decode cX4_followSchedules 10 = .ok (.iload_n 3, 1) := by decide +kernel
theorem dX4_followSchedules_11 : decode cX4_followSchedules 11 = .ok (.iload_n 2, 1) := by decide +kernel
theorem dX4_followSchedules_12 : decode cX4_followSchedules 12 = .ok (.if_icmp .ge 28, 3) := by decide +kernel
theorem dX4_followSchedules_15 : decode cX4_followSchedules 15 = .ok (.aload_n 1, 1) := by decide +kernel
theorem dX4_followSchedules_16 : decode cX4_followSchedules 16 = .ok (.iload_n 3, 1) := by decide +kernel
theorem dX4_followSchedules_17 : decode cX4_followSchedules 17 = .ok (.aaload, 1) := by decide +kernel
theorem dX4_followSchedules_18 : decode cX4_followSchedules 18 = .ok (.astore 4, 2) := by decide +kernel
theorem dX4_followSchedules_20 : decode cX4_followSchedules 20 = .ok (.aload 4, 2) := by decide +kernel
theorem dX4_followSchedules_22 : decode cX4_followSchedules 22 = .ok (.ifnonnull 6, 3) := by decide +kernel
theorem dX4_followSchedules_25 : decode cX4_followSchedules 25 = .ok (.goto 15, 3) := by decide +kernel
theorem dX4_followSchedules_28 : decode cX4_followSchedules 28 = .ok (.aload_n 0, 1) := by decide +kernel
theorem dX4_followSchedules_29 : decode cX4_followSchedules 29 = .ok (.aload 4, 2) := by decide +kernel
theorem dX4_followSchedules_31 : decode cX4_followSchedules 31 = .ok (.invokevirtual 129, 3) := by decide +kernel
theorem dX4_followSchedules_34 : decode cX4_followSchedules 34 = .ok (.iinc 3 1, 3) := by decide +kernel
theorem dX4_followSchedules_37 : decode cX4_followSchedules 37 = .ok (.goto (-27), 3) := by decide +kernel
theorem dX4_followSchedules_40 : decode cX4_followSchedules 40 = .ok (.return_, 1) := by decide +kernel
theorem dJ9_abs_0f7a4_0 : decode cJ9_abs_0f7a4 0 = .ok (.iload_n 0, 1) := by decide +kernel
theorem dJ9_abs_0f7a4_1 : decode cJ9_abs_0f7a4 1 = .ok (.ifCond .ge 8, 3) := by decide +kernel
theorem dJ9_abs_0f7a4_4 : decode cJ9_abs_0f7a4 4 = .ok (.iload_n 0, 1) := by decide +kernel
theorem dJ9_abs_0f7a4_5 : decode cJ9_abs_0f7a4 5 = .ok (.ineg, 1) := by decide +kernel
theorem dJ9_abs_0f7a4_6 : decode cJ9_abs_0f7a4 6 = .ok (.goto 4, 3) := by decide +kernel
theorem dJ9_abs_0f7a4_9 : decode cJ9_abs_0f7a4 9 = .ok (.iload_n 0, 1) := by decide +kernel
theorem dJ9_abs_0f7a4_10 : decode cJ9_abs_0f7a4 10 = .ok (.ireturn, 1) := by decide +kernel
theorem dJ7_fill_53178_0 : decode cJ7_fill_53178 0 = .ok (.iconst 0, 1) := by decide +kernel
theorem dJ7_fill_53178_1 : decode cJ7_fill_53178 1 = .ok (.istore_n 2, 1) := by decide +kernel
theorem dJ7_fill_53178_2 : decode cJ7_fill_53178 2 = .ok (.aload_n 0, 1) := by decide +kernel
theorem dJ7_fill_53178_3 : decode cJ7_fill_53178 3 = .ok (.arraylength, 1) := by decide +kernel
theorem dJ7_fill_53178_4 : decode cJ7_fill_53178 4 = .ok (.istore_n 3, 1) := by decide +kernel
theorem dJ7_fill_53178_5 : decode cJ7_fill_53178 5 = .ok (.iload_n 2, 1) := by decide +kernel
theorem dJ7_fill_53178_6 : decode cJ7_fill_53178 6 = .ok (.iload_n 3, 1) := by decide +kernel
theorem dJ7_fill_53178_7 : decode cJ7_fill_53178 7 = .ok (.if_icmp .ge 13, 3) := by decide +kernel
theorem dJ7_fill_53178_10 : decode cJ7_fill_53178 10 = .ok (.aload_n 0, 1) := by decide +kernel
theorem dJ7_fill_53178_11 : decode cJ7_fill_53178 11 = .ok (.iload_n 2, 1) := by decide +kernel
theorem dJ7_fill_53178_12 : decode cJ7_fill_53178 12 = .ok (.iload_n 1, 1) := by decide +kernel
theorem dJ7_fill_53178_13 : decode cJ7_fill_53178 13 = .ok (.iastore, 1) := by decide +kernel
theorem dJ7_fill_53178_14 : decode cJ7_fill_53178 14 = .ok (.iinc 2 1, 3) := by decide +kernel
theorem dJ7_fill_53178_17 : decode cJ7_fill_53178 17 = .ok (.goto (-12), 3) := by decide +kernel
theorem dJ7_fill_53178_20 : decode cJ7_fill_53178 20 = .ok (.return_, 1) := by decide +kernel
