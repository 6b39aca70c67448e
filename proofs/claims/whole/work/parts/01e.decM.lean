theorem dX5_init_0 : decode cX5_init 0 = .ok (.aload_n 0, 1) := by decide +kernel
theorem dX5_init_1 : decode cX5_init 1 = .ok (.invokespecial 1, 3) := by decide +kernel
theorem dX5_init_4 : decode cX5_init 4 = .ok (.aload_n 0, 1) := by decide +kernel
theorem dX5_init_5 : decode cX5_init 5 = .ok (.bipush 16, 2) := by decide +kernel
theorem dX5_init_7 : decode cX5_init 7 = .ok (.newarray .boolean, 2) := by decide +kernel
theorem dX5_init_9 : decode cX5_init 9 = .ok (.putfield 7, 3) := by decide +kernel
theorem dX5_init_12 : decode cX5_init 12 = .ok (.aload_n 0, 1) := by decide +kernel
theorem dX5_init_13 : decode cX5_init 13 = .ok (.bipush 16, 2) := by decide +kernel
theorem dX5_init_15 : decode cX5_init 15 = .ok (.newarray .int, 2) := by decide +kernel
theorem dX5_init_17 : decode cX5_init 17 = .ok (.putfield 13, 3) := by decide +kernel
theorem dX5_init_20 : decode cX5_init 20 = .ok (.aload_n 0, 1) := by decide +kernel
theorem dX5_init_21 : decode cX5_init 21 = .ok (.bipush 16, 2) := by decide +kernel
theorem dX5_init_23 : decode cX5_init 23 = .ok (.newarray .int, 2) := by decide +kernel
theorem dX5_init_25 : decode cX5_init 25 = .ok (.putfield 17, 3) := by decide +kernel
theorem dX5_init_28 : decode cX5_init 28 = .ok (.aload_n 0, 1) := by decide +kernel
theorem dX5_init_29 : decode cX5_init 29 = .ok (.bipush 16, 2) := by decide +kernel
theorem dX5_init_31 : decode cX5_init 31 = .ok (.newarray .int, 2) := by decide +kernel
theorem dX5_init_33 : decode cX5_init 33 = .ok (.putfield 20, 3) := by decide +kernel
theorem dX5_init_36 : decode cX5_init 36 = .ok (.aload_n 0, 1) := by decide +kernel
theorem dX5_init_37 : decode cX5_init 37 = .ok (.bipush 16, 2) := by decide +kernel
theorem dX5_init_39 : decode cX5_init 39 = .ok (.newarray .int, 2) := by decide +kernel
theorem dX5_init_41 : decode cX5_init 41 = .ok (.putfield 23, 3) := by decide +kernel
theorem dX5_init_44 : decode cX5_init 44 = .ok (.aload_n 0, 1) := by decide +kernel
theorem dX5_init_45 : decode cX5_init 45 = .ok (.sipush 256, 3) := by decide +kernel
theorem dX5_init_48 : decode cX5_init 48 = .ok (.newarray .int, 2) := by decide +kernel
theorem dX5_init_50 : decode cX5_init 50 = .ok (.putfield 26, 3) := by decide +kernel
theorem dX5_init_53 : decode cX5_init 53 = .ok (.aload_n 0, 1) := by decide +kernel
theorem dX5_init_54 : decode cX5_init 54 = .ok (.bipush 30, 2) := by decide +kernel
theorem dX5_init_56 : decode cX5_init 56 = .ok (.newarray .int, 2) := by decide +kernel
theorem dX5_init_58 : decode cX5_init 58 = .ok (.putfield 29, 3) := by decide +kernel
theorem dX5_init_61 : decode cX5_init 61 = .ok (.aload_n 0, 1) := by decide +kernel
theorem dX5_init_62 : decode cX5_init 62 = .ok (.bipush 30, 2) := by decide +kernel
theorem dX5_init_64 : decode cX5_init 64 = .ok (.newarray .int, 2) := by decide +kernel
theorem dX5_init_66 : decode cX5_init 66 = .ok (.putfield 32, 3) := by decide +kernel
theorem dX5_init_69 : decode cX5_init 69 = .ok (.aload_n 0, 1) := by decide +kernel
theorem dX5_init_70 : decode cX5_init 70 = .ok (.bipush 30, 2) := by decide +kernel
theorem dX5_init_72 : decode cX5_init 72 = .ok (.newarray .int, 2) := by decide +kernel
theorem dX5_init_74 : decode cX5_init 74 = .ok (.putfield 35, 3) := by decide +kernel
theorem dX5_init_77 : decode cX5_init 77 = .ok (.aload_n 0, 1) := by decide +kernel
theorem dX5_init_78 : decode cX5_init 78 = .ok (.bipush 30, 2) := by decide +kernel
theorem dX5_init_80 : decode cX5_init 80 = .ok (.newarray .boolean, 2) := by decide +kernel
theorem dX5_init_82 : decode cX5_init 82 = .ok (.putfield 38, 3) := by decide +kernel
theorem dX5_init_85 : decode cX5_init 85 = .ok (.aload_n 0, 1) := by decide +kernel
theorem dX5_init_86 : decode cX5_init 86 = .ok (.bipush 30, 2) := by decide +kernel
theorem dX5_init_88 : decode cX5_init 88 = .ok (.newarray .int, 2) := by decide +kernel
theorem dX5_init_90 : decode cX5_init 90 = .ok (.putfield 41, 3) := by decide +kernel
theorem dX5_init_93 : decode cX5_init 93 = .ok (.aload_n 0, 1) := by decide +kernel
theorem dX5_init_94 : decode cX5_init 94 = .ok (.bipush 30, 2) := by decide +kernel
theorem dX5_init_96 : decode cX5_init 96 = .ok (.newarray .int, 2) := by decide +kernel
theorem dX5_init_98 : decode cX5_init 98 = .ok (.putfield 44, 3) := by decide +kernel
theorem dX5_init_101 : decode cX5_init 101 = .ok (.aload_n 0, 1) := by decide +kernel
theorem dX5_init_102 : decode cX5_init 102 = .ok (.iconst 4, 1) := by decide +kernel
theorem dX5_init_103 : decode cX5_init 103 = .ok (.newarray .int, 2) := by decide +kernel
theorem dX5_init_105 : decode cX5_init 105 = .ok (.putfield 47, 3) := by decide +kernel
theorem dX5_init_108 : decode cX5_init 108 = .ok (.aload_n 0, 1) := by decide +kernel
theorem dX5_init_109 : decode cX5_init 109 = .ok (.iconst 4, 1) := by decide +kernel
theorem dX5_init_110 : decode cX5_init 110 = .ok (.newarray .int, 2) := by decide +kernel
theorem dX5_init_112 : decode cX5_init 112 = .ok (.putfield 50, 3) := by decide +kernel
theorem dX5_init_115 : decode cX5_init 115 = .ok (.aload_n 0, 1) := by decide +kernel
theorem dX5_init_116 : decode cX5_init 116 = .ok (.iconst 4, 1) := by decide +kernel
theorem dX5_init_117 : decode cX5_init 117 = .ok (.newarray .int, 2) := by decide +kernel
theorem dX5_init_119 : decode cX5_init 119 = .ok (.putfield 53, 3) := by decide +kernel
theorem dX5_init_122 : decode cX5_init 122 = .ok (.aload_n 0, 1) := by decide +kernel
theorem dX5_init_123 : decode cX5_init 123 = .ok (.iconst 4, 1) := by decide +kernel
theorem dX5_init_124 : decode cX5_init 124 = .ok (.newarray .int, 2) := by decide +kernel
theorem dX5_init_126 : decode cX5_init 126 = .ok (.putfield 56, 3) := by decide +kernel
theorem dX5_init_129 : decode cX5_init 129 = .ok (.aload_n 0, 1) := by decide +kernel
theorem dX5_init_130 : decode cX5_init 130 = .ok (.bipush 80, 2) := by decide +kernel
theorem dX5_init_132 : decode cX5_init 132 = .ok (.newarray .int, 2) := by decide +kernel
theorem dX5_init_134 : decode cX5_init 134 = .ok (.putfield 59, 3) := by decide +kernel
theorem dX5_init_137 : decode cX5_init 137 = .ok (.aload_n 0, 1) := by decide +kernel
theorem dX5_init_138 : decode cX5_init 138 = .ok (.bipush 80, 2) := by decide +kernel
theorem dX5_init_140 : decode cX5_init 140 = .ok (.newarray .int, 2) := by decide +kernel
theorem dX5_init_142 : decode cX5_init 142 = .ok (.putfield 62, 3) := by decide +kernel
theorem dX5_init_145 : decode cX5_init 145 = .ok (.aload_n 0, 1) := by decide +kernel
theorem dX5_init_146 : decode cX5_init 146 = .ok (.bipush 80, 2) := by decide +kernel
theorem dX5_init_148 : decode cX5_init 148 = .ok (.newarray .int, 2) := by decide +kernel
theorem dX5_init_150 : decode cX5_init 150 = .ok (.putfield 65, 3) := by decide +kernel
theorem dX5_init_153 : decode cX5_init 153 = .ok (.return_, 1) := by decide +kernel
theorem dX5_thrown_0 : decode cX5_thrown 0 = .ok (.aload_n 0, 1) := by decide +kernel
theorem dX5_thrown_1 : decode cX5_thrown 1 = .ok (.getfield 68, 3) := by decide +kernel
theorem dX5_thrown_4 : decode cX5_thrown 4 = .ok (.ireturn, 1) := by decide +kernel
theorem dX5_in_0 : decode cX5_in 0 = .ok (.iload_n 0, 1) := by decide +kernel
theorem dX5_in_1 : decode cX5_in 1 = .ok (.iload_n 1, 1) := by decide +kernel
theorem dX5_in_2 : decode cX5_in 2 = .ok (.if_icmp .lt 12, 3) := by decide +kernel
theorem dX5_in_5 : decode cX5_in 5 = .ok (.iload_n 0, 1) := by decide +kernel
theorem dX5_in_6 : decode cX5_in 6 = .ok (.iload_n 2, 1) := by decide +kernel
theorem dX5_in_7 : decode cX5_in 7 = .ok (.if_icmp .gt 7, 3) := by decide +kernel
theorem dX5_in_10 : decode cX5_in 10 = .ok (.iconst 1, 1) := by decide +kernel
theorem dX5_in_11 : decode cX5_in 11 = .ok (.goto 4, 3) := by decide +kernel
theorem dX5_in_14 : decode cX5_in 14 = .ok (.iconst 0, 1) := by decide +kernel
theorem dX5_in_15 : decode cX5_in 15 = .ok (.ireturn, 1) := by decide +kernel
theorem dX5_goes_0 : decode cX5_goes 0 = .ok (.aload_n 0, 1) := by decide +kernel
theorem dX5_goes_1 : decode cX5_goes 1 = .ok (.iload_n 1, 1) := by decide +kernel
theorem dX5_goes_2 : decode cX5_goes 2 = .ok (.ifCond .ne 7, 3) := by decide +kernel
theorem dX5_goes_5 : decode cX5_goes 5 = .ok (.iconst 1, 1) := by decide +kernel
theorem dX5_goes_6 : decode cX5_goes 6 = .ok (.goto 20, 3) := by decide +kernel
theorem dX5_goes_9 : decode cX5_goes 9 = .ok (.iload_n 2, 1) := by decide +kernel
theorem dX5_goes_10 : decode cX5_goes 10 = .ok (.ifCond .ne 7, 3) := by decide +kernel
theorem dX5_goes_13 : decode cX5_goes 13 = .ok (.iconst 2, 1) := by decide +kernel
theorem dX5_goes_14 : decode cX5_goes 14 = .ok (.goto 12, 3) := by decide +kernel
theorem dX5_goes_17 : decode cX5_goes 17 = .ok (.iload_n 3, 1) := by decide +kernel
theorem dX5_goes_18 : decode cX5_goes 18 = .ok (.ifCond .ne 7, 3) := by decide +kernel
theorem dX5_goes_21 : decode cX5_goes 21 = .ok (.iconst 3, 1) := by decide +kernel
theorem dX5_goes_22 : decode cX5_goes 22 = .ok (.goto 4, 3) := by decide +kernel
theorem dX5_goes_25 : decode cX5_goes 25 = .ok (.iconst 0, 1) := by decide +kernel
theorem dX5_goes_26 : decode cX5_goes 26 = .ok (.putfield 68, 3) := by decide +kernel
theorem dX5_goes_29 : decode cX5_goes 29 = .ok (.aload_n 0, 1) := by decide +kernel
theorem dX5_goes_30 : decode cX5_goes 30 = .ok (.getfield 68, 3) := by decide +kernel
theorem dX5_goes_33 : decode cX5_goes 33 = .ok (.ifCond .ne 7, 3) := by decide +kernel
theorem dX5_goes_36 : decode cX5_goes 36 = .ok (.iconst 1, 1) := by decide +kernel
theorem dX5_goes_37 : decode cX5_goes 37 = .ok (.goto 4, 3) := by decide +kernel
theorem dX5_goes_40 : decode cX5_goes 40 = .ok (.iconst 0, 1) := by decide +kernel
theorem dX5_goes_41 : decode cX5_goes 41 = .ok (.ireturn, 1) := by decide +kernel
theorem dX5_isPoint_0 : decode cX5_isPoint 0 = .ok (.iload_n 1, 1) := by decide +kernel
theorem dX5_isPoint_1 : decode cX5_isPoint 1 = .ok (.iconst 0, 1) := by decide +kernel
theorem dX5_isPoint_2 : decode cX5_isPoint 2 = .ok (.aload_n 0, 1) := by decide +kernel
theorem dX5_isPoint_3 : decode cX5_isPoint 3 = .ok (.getfield 72, 3) := by decide +kernel
theorem dX5_isPoint_6 : decode cX5_isPoint 6 = .ok (.iconst 1, 1) := by decide +kernel
theorem dX5_isPoint_7 : decode cX5_isPoint 7 = .ok (.isub, 1) := by decide +kernel
theorem dX5_isPoint_8 : decode cX5_isPoint 8 = .ok (.invokestatic 75, 3) := by decide +kernel
theorem dX5_isPoint_11 : decode cX5_isPoint 11 = .ok (.ireturn, 1) := by decide +kernel
theorem dX5_canHave_0 : decode cX5_canHave 0 = .ok (.iload_n 2, 1) := by decide +kernel
theorem dX5_canHave_1 : decode cX5_canHave 1 = .ok (.ldc 79, 2) := by decide +kernel
theorem dX5_canHave_3 : decode cX5_canHave 3 = .ok (.if_icmp .eq 37, 3) := by decide +kernel
theorem dX5_canHave_6 : decode cX5_canHave 6 = .ok (.aload_n 0, 1) := by decide +kernel
theorem dX5_canHave_7 : decode cX5_canHave 7 = .ok (.getfield 7, 3) := by decide +kernel
theorem dX5_canHave_10 : decode cX5_canHave 10 = .ok (.iload_n 1, 1) := by decide +kernel
theorem dX5_canHave_11 : decode cX5_canHave 11 = .ok (.baload, 1) := by decide +kernel
theorem dX5_canHave_12 : decode cX5_canHave 12 = .ok (.ifCond .eq 15, 3) := by decide +kernel
theorem dX5_canHave_15 : decode cX5_canHave 15 = .ok (.iload_n 2, 1) := by decide +kernel
theorem dX5_canHave_16 : decode cX5_canHave 16 = .ok (.iconst 0, 1) := by decide +kernel
theorem dX5_canHave_17 : decode cX5_canHave 17 = .ok (.iconst 1, 1) := by decide +kernel
theorem dX5_canHave_18 : decode cX5_canHave 18 = .ok (.invokestatic 75, 3) := by decide +kernel
theorem dX5_canHave_21 : decode cX5_canHave 21 = .ok (.ifCond .eq 23, 3) := by decide +kernel
theorem dX5_canHave_24 : decode cX5_canHave 24 = .ok (.goto 16, 3) := by decide +kernel
theorem dX5_canHave_27 : decode cX5_canHave 27 = .ok (.iload_n 2, 1) := by decide +kernel
theorem dX5_canHave_28 : decode cX5_canHave 28 = .ok (.sipush (-1000), 3) := by decide +kernel
theorem dX5_canHave_31 : decode cX5_canHave 31 = .ok (.sipush 1000, 3) := by decide +kernel
theorem dX5_canHave_34 : decode cX5_canHave 34 = .ok (.invokestatic 75, 3) := by decide +kernel
theorem dX5_canHave_37 : decode cX5_canHave 37 = .ok (.ifCond .eq 7, 3) := by decide +kernel
theorem dX5_canHave_40 : decode cX5_canHave 40 = .ok (.iconst 1, 1) := by decide +kernel
theorem dX5_canHave_41 : decode cX5_canHave 41 = .ok (.goto 4, 3) := by decide +kernel
theorem dX5_canHave_44 : decode cX5_canHave 44 = .ok (.iconst 0, 1) := by decide +kernel
theorem dX5_canHave_45 : decode cX5_canHave 45 = .ok (.ireturn, 1) := by decide +kernel
theorem dX5_adds_0 : decode cX5_adds 0 = .ok (.aload_n 0, 1) := by decide +kernel
theorem dX5_adds_1 : decode cX5_adds 1 = .ok (.getfield 13, 3) := by decide +kernel
theorem dX5_adds_4 : decode cX5_adds 4 = .ok (.aload_n 0, 1) := by decide +kernel
theorem dX5_adds_5 : decode cX5_adds 5 = .ok (.getfield 72, 3) := by decide +kernel
theorem dX5_adds_8 : decode cX5_adds 8 = .ok (.iload_n 1, 1) := by decide +kernel
theorem dX5_adds_9 : decode cX5_adds 9 = .ok (.iastore, 1) := by decide +kernel
theorem dX5_adds_10 : decode cX5_adds 10 = .ok (.aload_n 0, 1) := by decide +kernel
theorem dX5_adds_11 : decode cX5_adds 11 = .ok (.getfield 7, 3) := by decide +kernel
theorem dX5_adds_14 : decode cX5_adds 14 = .ok (.aload_n 0, 1) := by decide +kernel
theorem dX5_adds_15 : decode cX5_adds 15 = .ok (.getfield 72, 3) := by decide +kernel
theorem dX5_adds_18 : decode cX5_adds 18 = .ok (.iload_n 2, 1) := by decide +kernel
theorem dX5_adds_19 : decode cX5_adds 19 = .ok (.bastore, 1) := by decide +kernel
theorem dX5_adds_20 : decode cX5_adds 20 = .ok (.aload_n 0, 1) := by decide +kernel
theorem dX5_adds_21 : decode cX5_adds 21 = .ok (.getfield 17, 3) := by decide +kernel
theorem dX5_adds_24 : decode cX5_adds 24 = .ok (.aload_n 0, 1) := by decide +kernel
theorem dX5_adds_25 : decode cX5_adds 25 = .ok (.getfield 72, 3) := by decide +kernel
theorem dX5_adds_28 : decode cX5_adds 28 = .ok (.iload_n 3, 1) := by decide +kernel
theorem dX5_adds_29 : decode cX5_adds 29 = .ok (.iastore, 1) := by decide +kernel
theorem dX5_adds_30 : decode cX5_adds 30 = .ok (.iconst 0, 1) := by decide +kernel
theorem dX5_adds_31 : decode cX5_adds 31 = .ok (.istore 4, 2) := by decide +kernel
theorem dX5_adds_33 : decode cX5_adds 33 = .ok (.iload 4, 2) := by decide +kernel
theorem dX5_adds_35 : decode cX5_adds 35 = .ok (.bipush 16, 2) := by decide +kernel
theorem dX5_adds_37 : decode cX5_adds 37 = .ok (.if_icmp .ge 26, 3) := by decide +kernel
theorem dX5_adds_40 : decode cX5_adds 40 = .ok (.aload_n 0, 1) := by decide +kernel
theorem dX5_adds_41 : decode cX5_adds 41 = .ok (.getfield 26, 3) := by decide +kernel
theorem dX5_adds_44 : decode cX5_adds 44 = .ok (.bipush 16, 2) := by decide +kernel
theorem dX5_adds_46 : decode cX5_adds 46 = .ok (.aload_n 0, 1) := by decide +kernel
theorem dX5_adds_47 : decode cX5_adds 47 = .ok (.getfield 72, 3) := by decide +kernel
theorem dX5_adds_50 : decode cX5_adds 50 = .ok (.imul, 1) := by decide +kernel
theorem dX5_adds_51 : decode cX5_adds 51 = .ok (.iload 4, 2) := by decide +kernel
theorem dX5_adds_53 : decode cX5_adds 53 = .ok (.iadd, 1) := by decide +kernel
theorem dX5_adds_54 : decode cX5_adds 54 = .ok (.ldc 79, 2) := by decide +kernel
theorem dX5_adds_56 : decode cX5_adds 56 = .ok (.iastore, 1) := by decide +kernel
theorem dX5_adds_57 : decode cX5_adds 57 = .ok (.iinc 4 1, 3) := by decide +kernel
theorem dX5_adds_60 : decode cX5_adds 60 = .ok (.goto (-27), 3) := by decide +kernel
theorem dX5_adds_63 : decode cX5_adds 63 = .ok (.aload_n 0, 1) := by decide +kernel
theorem dX5_adds_64 : decode cX5_adds 64 = .ok (.dup, 1) := by decide +kernel
theorem dX5_adds_65 : decode cX5_adds 65 = .ok (.getfield 72, 3) := by decide +kernel
theorem dX5_adds_68 : decode cX5_adds 68 = .ok (.iconst 1, 1) := by decide +kernel
theorem dX5_adds_69 : decode cX5_adds 69 = .ok (.iadd, 1) := by decide +kernel
theorem dX5_adds_70 : decode cX5_adds 70 = .ok (.putfield 72, 3) := by decide +kernel
theorem dX5_adds_73 : decode cX5_adds 73 = .ok (.aload_n 0, 1) := by decide +kernel
theorem dX5_adds_74 : decode cX5_adds 74 = .ok (.getfield 72, 3) := by decide +kernel
theorem dX5_adds_77 : decode cX5_adds 77 = .ok (.iconst 1, 1) := by decide +kernel
theorem dX5_adds_78 : decode cX5_adds 78 = .ok (.isub, 1) := by decide +kernel
theorem dX5_adds_79 : decode cX5_adds 79 = .ok (.ireturn, 1) := by decide +kernel
theorem dX5_addMeasure_0 : decode cX5_addMeasure 0 = .ok (.aload_n 0, 1) := by decide +kernel
theorem dX5_addMeasure_1 : decode cX5_addMeasure 1 = .ok (.iload_n 1, 1) := by decide +kernel
theorem dX5_addMeasure_2 : decode cX5_addMeasure 2 = .ok (.sipush (-1000), 3) := by decide +kernel
theorem dX5_addMeasure_5 : decode cX5_addMeasure 5 = .ok (.sipush 1000, 3) := by decide +kernel
theorem dX5_addMeasure_8 : decode cX5_addMeasure 8 = .ok (.invokestatic 75, 3) := by decide +kernel
theorem dX5_addMeasure_11 : decode cX5_addMeasure 11 = .ok (.aload_n 0, 1) := by decide +kernel
theorem dX5_addMeasure_12 : decode cX5_addMeasure 12 = .ok (.getfield 72, 3) := by decide +kernel
theorem dX5_addMeasure_15 : decode cX5_addMeasure 15 = .ok (.bipush 16, 2) := by decide +kernel
theorem dX5_addMeasure_17 : decode cX5_addMeasure 17 = .ok (.if_icmp .ge 7, 3) := by decide +kernel
theorem dX5_addMeasure_20 : decode cX5_addMeasure 20 = .ok (.iconst 1, 1) := by decide +kernel
theorem dX5_addMeasure_21 : decode cX5_addMeasure 21 = .ok (.goto 4, 3) := by decide +kernel
theorem dX5_addMeasure_24 : decode cX5_addMeasure 24 = .ok (.iconst 0, 1) := by decide +kernel
theorem dX5_addMeasure_25 : decode cX5_addMeasure 25 = .ok (.iconst 1, 1) := by decide +kernel
theorem dX5_addMeasure_26 : decode cX5_addMeasure 26 = .ok (.invokevirtual 80, 3) := by decide +kernel
theorem dX5_addMeasure_29 : decode cX5_addMeasure 29 = .ok (.ifCond .eq 13, 3) := by decide +kernel
theorem dX5_addMeasure_32 : decode cX5_addMeasure 32 = .ok (.aload_n 0, 1) := by decide +kernel
theorem dX5_addMeasure_33 : decode cX5_addMeasure 33 = .ok (.iload_n 1, 1) := by decide +kernel
theorem dX5_addMeasure_34 : decode cX5_addMeasure 34 = .ok (.iconst 0, 1) := by decide +kernel
theorem dX5_addMeasure_35 : decode cX5_addMeasure 35 = .ok (.iconst 0, 1) := by decide +kernel
theorem dX5_addMeasure_36 : decode cX5_addMeasure 36 = .ok (.invokevirtual 84, 3) := by decide +kernel
theorem dX5_addMeasure_39 : decode cX5_addMeasure 39 = .ok (.goto 4, 3) := by decide +kernel
theorem dX5_addMeasure_42 : decode cX5_addMeasure 42 = .ok (.iconst 0, 1) := by decide +kernel
theorem dX5_addMeasure_43 : decode cX5_addMeasure 43 = .ok (.ireturn, 1) := by decide +kernel
theorem dX5_addSwitch_0 : decode cX5_addSwitch 0 = .ok (.aload_n 0, 1) := by decide +kernel
theorem dX5_addSwitch_1 : decode cX5_addSwitch 1 = .ok (.iload_n 1, 1) := by decide +kernel
theorem dX5_addSwitch_2 : decode cX5_addSwitch 2 = .ok (.iconst 0, 1) := by decide +kernel
theorem dX5_addSwitch_3 : decode cX5_addSwitch 3 = .ok (.iconst 1, 1) := by decide +kernel
theorem dX5_addSwitch_4 : decode cX5_addSwitch 4 = .ok (.invokestatic 75, 3) := by decide +kernel
theorem dX5_addSwitch_7 : decode cX5_addSwitch 7 = .ok (.ifCond .eq 18, 3) := by decide +kernel
theorem dX5_addSwitch_10 : decode cX5_addSwitch 10 = .ok (.iload_n 2, 1) := by decide +kernel
theorem dX5_addSwitch_11 : decode cX5_addSwitch 11 = .ok (.iconst 0, 1) := by decide +kernel
theorem dX5_addSwitch_12 : decode cX5_addSwitch 12 = .ok (.sipush 1000, 3) := by decide +kernel
theorem dX5_addSwitch_15 : decode cX5_addSwitch 15 = .ok (.invokestatic 75, 3) := by decide +kernel
theorem dX5_addSwitch_18 : decode cX5_addSwitch 18 = .ok (.ifCond .eq 7, 3) := by decide +kernel
theorem dX5_addSwitch_21 : decode cX5_addSwitch 21 = .ok (.iconst 1, 1) := by decide +kernel
theorem dX5_addSwitch_22 : decode cX5_addSwitch 22 = .ok (.goto 4, 3) := by decide +kernel
theorem dX5_addSwitch_25 : decode cX5_addSwitch 25 = .ok (.iconst 0, 1) := by decide +kernel
theorem dX5_addSwitch_26 : decode cX5_addSwitch 26 = .ok (.aload_n 0, 1) := by decide +kernel
theorem dX5_addSwitch_27 : decode cX5_addSwitch 27 = .ok (.getfield 72, 3) := by decide +kernel
theorem dX5_addSwitch_30 : decode cX5_addSwitch 30 = .ok (.bipush 16, 2) := by decide +kernel
theorem dX5_addSwitch_32 : decode cX5_addSwitch 32 = .ok (.if_icmp .ge 7, 3) := by decide +kernel
theorem dX5_addSwitch_35 : decode cX5_addSwitch 35 = .ok (.iconst 1, 1) := by decide +kernel
theorem dX5_addSwitch_36 : decode cX5_addSwitch 36 = .ok (.goto 4, 3) := by decide +kernel
theorem dX5_addSwitch_39 : decode cX5_addSwitch 39 = .ok (.iconst 0, 1) := by decide +kernel
theorem dX5_addSwitch_40 : decode cX5_addSwitch 40 = .ok (.iconst 1, 1) := by decide +kernel
theorem dX5_addSwitch_41 : decode cX5_addSwitch 41 = .ok (.invokevirtual 80, 3) := by decide +kernel
theorem dX5_addSwitch_44 : decode cX5_addSwitch 44 = .ok (.ifCond .eq 13, 3) := by decide +kernel
theorem dX5_addSwitch_47 : decode cX5_addSwitch 47 = .ok (.aload_n 0, 1) := by decide +kernel
theorem dX5_addSwitch_48 : decode cX5_addSwitch 48 = .ok (.iload_n 1, 1) := by decide +kernel
theorem dX5_addSwitch_49 : decode cX5_addSwitch 49 = .ok (.iconst 1, 1) := by decide +kernel
theorem dX5_addSwitch_50 : decode cX5_addSwitch 50 = .ok (.iload_n 2, 1) := by decide +kernel
theorem dX5_addSwitch_51 : decode cX5_addSwitch 51 = .ok (.invokevirtual 84, 3) := by decide +kernel
theorem dX5_addSwitch_54 : decode cX5_addSwitch 54 = .ok (.goto 4, 3) := by decide +kernel
theorem dX5_addSwitch_57 : decode cX5_addSwitch 57 = .ok (.iconst 0, 1) := by decide +kernel
theorem dX5_addSwitch_58 : decode cX5_addSwitch 58 = .ok (.ireturn, 1) := by decide +kernel
theorem dX5_standingOf_0 : decode cX5_standingOf 0 = .ok (.bipush 17, 2) := by decide +kernel
theorem dX5_standingOf_2 : decode cX5_standingOf 2 = .ok (.istore_n 2, 1) := by decide +kernel
theorem dX5_standingOf_3 : decode cX5_standingOf 3 = .ok (.bipush 16, 2) := by decide +kernel
theorem dX5_standingOf_5 : decode cX5_standingOf 5 = .ok (.istore_n 3, 1) := by decide +kernel
theorem dX5_standingOf_6 : decode cX5_standingOf 6 = .ok (.iload_n 3, 1) := by decide +kernel
theorem dX5_standingOf_7 : decode cX5_standingOf 7 = .ok (.iconst 1, 1) := by decide +kernel
theorem dX5_standingOf_8 : decode cX5_standingOf 8 = .ok (.if_icmp .lt 33, 3) := by decide +kernel
theorem dX5_standingOf_11 : decode cX5_standingOf 11 = .ok (.aload_n 0, 1) := by decide +kernel
theorem dX5_standingOf_12 : decode cX5_standingOf 12 = .ok (.getfield 26, 3) := by decide +kernel
theorem dX5_standingOf_15 : decode cX5_standingOf 15 = .ok (.bipush 16, 2) := by decide +kernel
theorem dX5_standingOf_17 : decode cX5_standingOf 17 = .ok (.iload_n 1, 1) := by decide +kernel
theorem dX5_standingOf_18 : decode cX5_standingOf 18 = .ok (.imul, 1) := by decide +kernel
theorem dX5_standingOf_19 : decode cX5_standingOf 19 = .ok (.iload_n 3, 1) := by decide +kernel
theorem dX5_standingOf_20 : decode cX5_standingOf 20 = .ok (.iadd, 1) := by decide +kernel
theorem dX5_standingOf_21 : decode cX5_standingOf 21 = .ok (.iconst 1, 1) := by decide +kernel
theorem dX5_standingOf_22 : decode cX5_standingOf 22 = .ok (.isub, 1) := by decide +kernel
theorem dX5_standingOf_23 : decode cX5_standingOf 23 = .ok (.iaload, 1) := by decide +kernel
theorem dX5_standingOf_24 : decode cX5_standingOf 24 = .ok (.ldc 79, 2) := by decide +kernel
theorem dX5_standingOf_26 : decode cX5_standingOf 26 = .ok (.if_icmp .eq 7, 3) := by decide +kernel
theorem dX5_standingOf_29 : decode cX5_standingOf 29 = .ok (.iload_n 3, 1) := by decide +kernel
theorem dX5_standingOf_30 : decode cX5_standingOf 30 = .ok (.goto 4, 3) := by decide +kernel
theorem dX5_standingOf_33 : decode cX5_standingOf 33 = .ok (.iload_n 2, 1) := by decide +kernel
theorem dX5_standingOf_34 : decode cX5_standingOf 34 = .ok (.istore_n 2, 1) := by decide +kernel
theorem dX5_standingOf_35 : decode cX5_standingOf 35 = .ok (.iinc 3 (-1), 3) := by decide +kernel
theorem dX5_standingOf_38 : decode cX5_standingOf 38 = .ok (.goto (-32), 3) := by decide +kernel
theorem dX5_standingOf_41 : decode cX5_standingOf 41 = .ok (.iload_n 2, 1) := by decide +kernel
theorem dX5_standingOf_42 : decode cX5_standingOf 42 = .ok (.ireturn, 1) := by decide +kernel
theorem dX5_valueOf_0 : decode cX5_valueOf 0 = .ok (.aload_n 0, 1) := by decide +kernel
theorem dX5_valueOf_1 : decode cX5_valueOf 1 = .ok (.iload_n 1, 1) := by decide +kernel
theorem dX5_valueOf_2 : decode cX5_valueOf 2 = .ok (.invokevirtual 88, 3) := by decide +kernel
theorem dX5_valueOf_5 : decode cX5_valueOf 5 = .ok (.istore_n 2, 1) := by decide +kernel
theorem dX5_valueOf_6 : decode cX5_valueOf 6 = .ok (.iload_n 2, 1) := by decide +kernel
theorem dX5_valueOf_7 : decode cX5_valueOf 7 = .ok (.bipush 16, 2) := by decide +kernel
theorem dX5_valueOf_9 : decode cX5_valueOf 9 = .ok (.if_icmp .le 12, 3) := by decide +kernel
theorem dX5_valueOf_12 : decode cX5_valueOf 12 = .ok (.aload_n 0, 1) := by decide +kernel
theorem dX5_valueOf_13 : decode cX5_valueOf 13 = .ok (.getfield 13, 3) := by decide +kernel
theorem dX5_valueOf_16 : decode cX5_valueOf 16 = .ok (.iload_n 1, 1) := by decide +kernel
theorem dX5_valueOf_17 : decode cX5_valueOf 17 = .ok (.iaload, 1) := by decide +kernel
theorem dX5_valueOf_18 : decode cX5_valueOf 18 = .ok (.goto 16, 3) := by decide +kernel
theorem dX5_valueOf_21 : decode cX5_valueOf 21 = .ok (.aload_n 0, 1) := by decide +kernel
theorem dX5_valueOf_22 : decode cX5_valueOf 22 = .ok (.getfield 26, 3) := by decide +kernel
theorem dX5_valueOf_25 : decode cX5_valueOf 25 = .ok (.bipush 16, 2) := by decide +kernel
theorem dX5_valueOf_27 : decode cX5_valueOf 27 = .ok (.iload_n 1, 1) := by decide +kernel
theorem dX5_valueOf_28 : decode cX5_valueOf 28 = .ok (.imul, 1) := by decide +kernel
theorem dX5_valueOf_29 : decode cX5_valueOf 29 = .ok (.iload_n 2, 1) := by decide +kernel
theorem dX5_valueOf_30 : decode cX5_valueOf 30 = .ok (.iadd, 1) := by decide +kernel
theorem dX5_valueOf_31 : decode cX5_valueOf 31 = .ok (.iconst 1, 1) := by decide +kernel
theorem dX5_valueOf_32 : decode cX5_valueOf 32 = .ok (.isub, 1) := by decide +kernel
theorem dX5_valueOf_33 : decode cX5_valueOf 33 = .ok (.iaload, 1) := by decide +kernel
theorem dX5_valueOf_34 : decode cX5_valueOf 34 = .ok (.ireturn, 1) := by decide +kernel
theorem dX5_informs_0 : decode cX5_informs 0 = .ok (.iconst 0, 1) := by decide +kernel
theorem dX5_informs_1 : decode cX5_informs 1 = .ok (.istore_n 3, 1) := by decide +kernel
theorem dX5_informs_2 : decode cX5_informs 2 = .ok (.iload_n 3, 1) := by decide +kernel
theorem dX5_informs_3 : decode cX5_informs 3 = .ok (.aload_n 0, 1) := by decide +kernel
theorem dX5_informs_4 : decode cX5_informs 4 = .ok (.getfield 92, 3) := by decide +kernel
theorem dX5_informs_7 : decode cX5_informs 7 = .ok (.if_icmp .ge 97, 3) := by decide +kernel
theorem dX5_informs_10 : decode cX5_informs 10 = .ok (.iload_n 2, 1) := by decide +kernel
theorem dX5_informs_11 : decode cX5_informs 11 = .ok (.aload_n 0, 1) := by decide +kernel
theorem dX5_informs_12 : decode cX5_informs 12 = .ok (.getfield 44, 3) := by decide +kernel
theorem dX5_informs_15 : decode cX5_informs 15 = .ok (.iload_n 3, 1) := by decide +kernel
theorem dX5_informs_16 : decode cX5_informs 16 = .ok (.iaload, 1) := by decide +kernel
theorem dX5_informs_17 : decode cX5_informs 17 = .ok (.if_icmp .le 14, 3) := by decide +kernel
theorem dX5_informs_20 : decode cX5_informs 20 = .ok (.iload_n 2, 1) := by decide +kernel
theorem dX5_informs_21 : decode cX5_informs 21 = .ok (.aload_n 0, 1) := by decide +kernel
theorem dX5_informs_22 : decode cX5_informs 22 = .ok (.getfield 44, 3) := by decide +kernel
theorem dX5_informs_25 : decode cX5_informs 25 = .ok (.iload_n 3, 1) := by decide +kernel
theorem dX5_informs_26 : decode cX5_informs 26 = .ok (.iaload, 1) := by decide +kernel
theorem dX5_informs_27 : decode cX5_informs 27 = .ok (.isub, 1) := by decide +kernel
theorem dX5_informs_28 : decode cX5_informs 28 = .ok (.goto 11, 3) := by decide +kernel
theorem dX5_informs_31 : decode cX5_informs 31 = .ok (.aload_n 0, 1) := by decide +kernel
theorem dX5_informs_32 : decode cX5_informs 32 = .ok (.getfield 44, 3) := by decide +kernel
theorem dX5_informs_35 : decode cX5_informs 35 = .ok (.iload_n 3, 1) := by decide +kernel
theorem dX5_informs_36 : decode cX5_informs 36 = .ok (.iaload, 1) := by decide +kernel
theorem dX5_informs_37 : decode cX5_informs 37 = .ok (.iload_n 2, 1) := by decide +kernel
theorem dX5_informs_38 : decode cX5_informs 38 = .ok (.isub, 1) := by decide +kernel
theorem dX5_informs_39 : decode cX5_informs 39 = .ok (.istore 4, 2) := by decide +kernel
theorem dX5_informs_41 : decode cX5_informs 41 = .ok (.aload_n 0, 1) := by decide +kernel
theorem dX5_informs_42 : decode cX5_informs 42 = .ok (.getfield 29, 3) := by decide +kernel
theorem dX5_informs_45 : decode cX5_informs 45 = .ok (.iload_n 3, 1) := by decide +kernel
theorem dX5_informs_46 : decode cX5_informs 46 = .ok (.iaload, 1) := by decide +kernel
theorem dX5_informs_47 : decode cX5_informs 47 = .ok (.iload_n 1, 1) := by decide +kernel
theorem dX5_informs_48 : decode cX5_informs 48 = .ok (.if_icmp .ne 50, 3) := by decide +kernel
theorem dX5_informs_51 : decode cX5_informs 51 = .ok (.aload_n 0, 1) := by decide +kernel
theorem dX5_informs_52 : decode cX5_informs 52 = .ok (.getfield 38, 3) := by decide +kernel
theorem dX5_informs_55 : decode cX5_informs 55 = .ok (.iload_n 3, 1) := by decide +kernel
theorem dX5_informs_56 : decode cX5_informs 56 = .ok (.baload, 1) := by decide +kernel
theorem dX5_informs_57 : decode cX5_informs 57 = .ok (.ifCond .ne 41, 3) := by decide +kernel
theorem dX5_informs_60 : decode cX5_informs 60 = .ok (.iload 4, 2) := by decide +kernel
theorem dX5_informs_62 : decode cX5_informs 62 = .ok (.aload_n 0, 1) := by decide +kernel
theorem dX5_informs_63 : decode cX5_informs 63 = .ok (.getfield 32, 3) := by decide +kernel
theorem dX5_informs_66 : decode cX5_informs 66 = .ok (.iload_n 3, 1) := by decide +kernel
theorem dX5_informs_67 : decode cX5_informs 67 = .ok (.iaload, 1) := by decide +kernel
theorem dX5_informs_68 : decode cX5_informs 68 = .ok (.if_icmp .lt 30, 3) := by decide +kernel
theorem dX5_informs_71 : decode cX5_informs 71 = .ok (.aload_n 0, 1) := by decide +kernel
theorem dX5_informs_72 : decode cX5_informs 72 = .ok (.getfield 44, 3) := by decide +kernel
theorem dX5_informs_75 : decode cX5_informs 75 = .ok (.iload_n 3, 1) := by decide +kernel
theorem dX5_informs_76 : decode cX5_informs 76 = .ok (.iload_n 2, 1) := by decide +kernel
theorem dX5_informs_77 : decode cX5_informs 77 = .ok (.iastore, 1) := by decide +kernel
theorem dX5_informs_78 : decode cX5_informs 78 = .ok (.aload_n 0, 1) := by decide +kernel
theorem dX5_informs_79 : decode cX5_informs 79 = .ok (.getfield 41, 3) := by decide +kernel
theorem dX5_informs_82 : decode cX5_informs 82 = .ok (.iload_n 3, 1) := by decide +kernel
theorem dX5_informs_83 : decode cX5_informs 83 = .ok (.dup2, 1) := by decide +kernel
theorem dX5_informs_84 : decode cX5_informs 84 = .ok (.iaload, 1) := by decide +kernel
theorem dX5_informs_85 : decode cX5_informs 85 = .ok (.iconst 1, 1) := by decide +kernel
theorem dX5_informs_86 : decode cX5_informs 86 = .ok (.iadd, 1) := by decide +kernel
theorem dX5_informs_87 : decode cX5_informs 87 = .ok (.iastore, 1) := by decide +kernel
theorem dX5_informs_88 : decode cX5_informs 88 = .ok (.aload_n 0, 1) := by decide +kernel
theorem dX5_informs_89 : decode cX5_informs 89 = .ok (.dup, 1) := by decide +kernel
theorem dX5_informs_90 : decode cX5_informs 90 = .ok (.getfield 95, 3) := by decide +kernel
theorem dX5_informs_93 : decode cX5_informs 93 = .ok (.iconst 1, 1) := by decide +kernel
theorem dX5_informs_94 : decode cX5_informs 94 = .ok (.iadd, 1) := by decide +kernel
theorem dX5_informs_95 : decode cX5_informs 95 = .ok (.putfield 95, 3) := by decide +kernel
theorem dX5_informs_98 : decode cX5_informs 98 = .ok (.iinc 3 1, 3) := by decide +kernel
theorem dX5_informs_101 : decode cX5_informs 101 = .ok (.goto (-99), 3) := by decide +kernel
theorem dX5_informs_104 : decode cX5_informs 104 = .ok (.return_, 1) := by decide +kernel
theorem dX5_sets_0 : decode cX5_sets 0 = .ok (.aload_n 0, 1) := by decide +kernel
theorem dX5_sets_1 : decode cX5_sets 1 = .ok (.iload_n 1, 1) := by decide +kernel
theorem dX5_sets_2 : decode cX5_sets 2 = .ok (.invokevirtual 98, 3) := by decide +kernel
theorem dX5_sets_5 : decode cX5_sets 5 = .ok (.istore 4, 2) := by decide +kernel
theorem dX5_sets_7 : decode cX5_sets 7 = .ok (.aload_n 0, 1) := by decide +kernel
theorem dX5_sets_8 : decode cX5_sets 8 = .ok (.getfield 26, 3) := by decide +kernel
theorem dX5_sets_11 : decode cX5_sets 11 = .ok (.bipush 16, 2) := by decide +kernel
theorem dX5_sets_13 : decode cX5_sets 13 = .ok (.iload_n 1, 1) := by decide +kernel
theorem dX5_sets_14 : decode cX5_sets 14 = .ok (.imul, 1) := by decide +kernel
theorem dX5_sets_15 : decode cX5_sets 15 = .ok (.iload_n 2, 1) := by decide +kernel
theorem dX5_sets_16 : decode cX5_sets 16 = .ok (.iadd, 1) := by decide +kernel
theorem dX5_sets_17 : decode cX5_sets 17 = .ok (.iconst 1, 1) := by decide +kernel
theorem dX5_sets_18 : decode cX5_sets 18 = .ok (.isub, 1) := by decide +kernel
theorem dX5_sets_19 : decode cX5_sets 19 = .ok (.iload_n 3, 1) := by decide +kernel
theorem dX5_sets_20 : decode cX5_sets 20 = .ok (.iastore, 1) := by decide +kernel
theorem dX5_sets_21 : decode cX5_sets 21 = .ok (.aload_n 0, 1) := by decide +kernel
theorem dX5_sets_22 : decode cX5_sets 22 = .ok (.iload_n 1, 1) := by decide +kernel
theorem dX5_sets_23 : decode cX5_sets 23 = .ok (.invokevirtual 98, 3) := by decide +kernel
theorem dX5_sets_26 : decode cX5_sets 26 = .ok (.istore 5, 2) := by decide +kernel
theorem dX5_sets_28 : decode cX5_sets 28 = .ok (.iload 5, 2) := by decide +kernel
theorem dX5_sets_30 : decode cX5_sets 30 = .ok (.iload 4, 2) := by decide +kernel
theorem dX5_sets_32 : decode cX5_sets 32 = .ok (.if_icmp .eq 62, 3) := by decide +kernel
theorem dX5_sets_35 : decode cX5_sets 35 = .ok (.aload_n 0, 1) := by decide +kernel
theorem dX5_sets_36 : decode cX5_sets 36 = .ok (.getfield 23, 3) := by decide +kernel
theorem dX5_sets_39 : decode cX5_sets 39 = .ok (.iload_n 1, 1) := by decide +kernel
theorem dX5_sets_40 : decode cX5_sets 40 = .ok (.dup2, 1) := by decide +kernel
theorem dX5_sets_41 : decode cX5_sets 41 = .ok (.iaload, 1) := by decide +kernel
theorem dX5_sets_42 : decode cX5_sets 42 = .ok (.iconst 1, 1) := by decide +kernel
theorem dX5_sets_43 : decode cX5_sets 43 = .ok (.iadd, 1) := by decide +kernel
theorem dX5_sets_44 : decode cX5_sets 44 = .ok (.iastore, 1) := by decide +kernel
theorem dX5_sets_45 : decode cX5_sets 45 = .ok (.aload_n 0, 1) := by decide +kernel
theorem dX5_sets_46 : decode cX5_sets 46 = .ok (.getfield 17, 3) := by decide +kernel
theorem dX5_sets_49 : decode cX5_sets 49 = .ok (.iload_n 1, 1) := by decide +kernel
theorem dX5_sets_50 : decode cX5_sets 50 = .ok (.iaload, 1) := by decide +kernel
theorem dX5_sets_51 : decode cX5_sets 51 = .ok (.ifCond .le 36, 3) := by decide +kernel
theorem dX5_sets_54 : decode cX5_sets 54 = .ok (.aload_n 0, 1) := by decide +kernel
theorem dX5_sets_55 : decode cX5_sets 55 = .ok (.getfield 26, 3) := by decide +kernel
theorem dX5_sets_58 : decode cX5_sets 58 = .ok (.bipush 16, 2) := by decide +kernel
theorem dX5_sets_60 : decode cX5_sets 60 = .ok (.iload_n 1, 1) := by decide +kernel
theorem dX5_sets_61 : decode cX5_sets 61 = .ok (.imul, 1) := by decide +kernel
theorem dX5_sets_62 : decode cX5_sets 62 = .ok (.bipush 6, 2) := by decide +kernel
theorem dX5_sets_64 : decode cX5_sets 64 = .ok (.iadd, 1) := by decide +kernel
theorem dX5_sets_65 : decode cX5_sets 65 = .ok (.iconst 1, 1) := by decide +kernel
theorem dX5_sets_66 : decode cX5_sets 66 = .ok (.isub, 1) := by decide +kernel
theorem dX5_sets_67 : decode cX5_sets 67 = .ok (.iload 5, 2) := by decide +kernel
theorem dX5_sets_69 : decode cX5_sets 69 = .ok (.iastore, 1) := by decide +kernel
theorem dX5_sets_70 : decode cX5_sets 70 = .ok (.aload_n 0, 1) := by decide +kernel
theorem dX5_sets_71 : decode cX5_sets 71 = .ok (.getfield 20, 3) := by decide +kernel
theorem dX5_sets_74 : decode cX5_sets 74 = .ok (.iload_n 1, 1) := by decide +kernel
theorem dX5_sets_75 : decode cX5_sets 75 = .ok (.aload_n 0, 1) := by decide +kernel
theorem dX5_sets_76 : decode cX5_sets 76 = .ok (.getfield 101, 3) := by decide +kernel
theorem dX5_sets_79 : decode cX5_sets 79 = .ok (.aload_n 0, 1) := by decide +kernel
theorem dX5_sets_80 : decode cX5_sets 80 = .ok (.getfield 17, 3) := by decide +kernel
theorem dX5_sets_83 : decode cX5_sets 83 = .ok (.iload_n 1, 1) := by decide +kernel
theorem dX5_sets_84 : decode cX5_sets 84 = .ok (.iaload, 1) := by decide +kernel
theorem dX5_sets_85 : decode cX5_sets 85 = .ok (.iadd, 1) := by decide +kernel
theorem dX5_sets_86 : decode cX5_sets 86 = .ok (.iastore, 1) := by decide +kernel
theorem dX5_sets_87 : decode cX5_sets 87 = .ok (.aload_n 0, 1) := by decide +kernel
theorem dX5_sets_88 : decode cX5_sets 88 = .ok (.iload_n 1, 1) := by decide +kernel
theorem dX5_sets_89 : decode cX5_sets 89 = .ok (.iload 5, 2) := by decide +kernel
theorem dX5_sets_91 : decode cX5_sets 91 = .ok (.invokevirtual 104, 3) := by decide +kernel
theorem dX5_sets_94 : decode cX5_sets 94 = .ok (.return_, 1) := by decide +kernel
theorem dX5_write_0 : decode cX5_write 0 = .ok (.aload_n 0, 1) := by decide +kernel
theorem dX5_write_1 : decode cX5_write 1 = .ok (.iload_n 1, 1) := by decide +kernel
theorem dX5_write_2 : decode cX5_write 2 = .ok (.invokevirtual 108, 3) := by decide +kernel
theorem dX5_write_5 : decode cX5_write 5 = .ok (.istore 4, 2) := by decide +kernel
theorem dX5_write_7 : decode cX5_write 7 = .ok (.iload 4, 2) := by decide +kernel
theorem dX5_write_9 : decode cX5_write 9 = .ok (.ifCond .eq 26, 3) := by decide +kernel
theorem dX5_write_12 : decode cX5_write 12 = .ok (.iload_n 2, 1) := by decide +kernel
theorem dX5_write_13 : decode cX5_write 13 = .ok (.iconst 1, 1) := by decide +kernel
theorem dX5_write_14 : decode cX5_write 14 = .ok (.bipush 16, 2) := by decide +kernel
theorem dX5_write_16 : decode cX5_write 16 = .ok (.invokestatic 75, 3) := by decide +kernel
theorem dX5_write_19 : decode cX5_write 19 = .ok (.ifCond .eq 16, 3) := by decide +kernel
theorem dX5_write_22 : decode cX5_write 22 = .ok (.aload_n 0, 1) := by decide +kernel
theorem dX5_write_23 : decode cX5_write 23 = .ok (.iload_n 1, 1) := by decide +kernel
theorem dX5_write_24 : decode cX5_write 24 = .ok (.iload_n 3, 1) := by decide +kernel
theorem dX5_write_25 : decode cX5_write 25 = .ok (.invokevirtual 112, 3) := by decide +kernel
theorem dX5_write_28 : decode cX5_write 28 = .ok (.ifCond .eq 7, 3) := by decide +kernel
theorem dX5_write_31 : decode cX5_write 31 = .ok (.iconst 1, 1) := by decide +kernel
theorem dX5_write_32 : decode cX5_write 32 = .ok (.goto 4, 3) := by decide +kernel
theorem dX5_write_35 : decode cX5_write 35 = .ok (.iconst 0, 1) := by decide +kernel
theorem dX5_write_36 : decode cX5_write 36 = .ok (.istore 5, 2) := by decide +kernel
theorem dX5_write_38 : decode cX5_write 38 = .ok (.aload_n 0, 1) := by decide +kernel
theorem dX5_write_39 : decode cX5_write 39 = .ok (.iload 4, 2) := by decide +kernel
theorem dX5_write_41 : decode cX5_write 41 = .ok (.iload 5, 2) := by decide +kernel
theorem dX5_write_43 : decode cX5_write 43 = .ok (.iload 5, 2) := by decide +kernel
theorem dX5_write_45 : decode cX5_write 45 = .ok (.ifCond .eq 22, 3) := by decide +kernel
theorem dX5_write_48 : decode cX5_write 48 = .ok (.iload_n 2, 1) := by decide +kernel
theorem dX5_write_49 : decode cX5_write 49 = .ok (.bipush 6, 2) := by decide +kernel
theorem dX5_write_51 : decode cX5_write 51 = .ok (.if_icmp .ne 12, 3) := by decide +kernel
theorem dX5_write_54 : decode cX5_write 54 = .ok (.aload_n 0, 1) := by decide +kernel
theorem dX5_write_55 : decode cX5_write 55 = .ok (.getfield 20, 3) := by decide +kernel
theorem dX5_write_58 : decode cX5_write 58 = .ok (.iload_n 1, 1) := by decide +kernel
theorem dX5_write_59 : decode cX5_write 59 = .ok (.iaload, 1) := by decide +kernel
theorem dX5_write_60 : decode cX5_write 60 = .ok (.ifCond .ne 7, 3) := by decide +kernel
theorem dX5_write_63 : decode cX5_write 63 = .ok (.iconst 1, 1) := by decide +kernel
theorem dX5_write_64 : decode cX5_write 64 = .ok (.goto 4, 3) := by decide +kernel
theorem dX5_write_67 : decode cX5_write 67 = .ok (.iconst 0, 1) := by decide +kernel
theorem dX5_write_68 : decode cX5_write 68 = .ok (.invokevirtual 80, 3) := by decide +kernel
theorem dX5_write_71 : decode cX5_write 71 = .ok (.ifCond .ne 5, 3) := by decide +kernel
theorem dX5_write_74 : decode cX5_write 74 = .ok (.iconst 0, 1) := by decide +kernel
theorem dX5_write_75 : decode cX5_write 75 = .ok (.ireturn, 1) := by decide +kernel
theorem dX5_write_76 : decode cX5_write 76 = .ok (.aload_n 0, 1) := by decide +kernel
theorem dX5_write_77 : decode cX5_write 77 = .ok (.iload_n 1, 1) := by decide +kernel
theorem dX5_write_78 : decode cX5_write 78 = .ok (.iload_n 2, 1) := by decide +kernel
theorem dX5_write_79 : decode cX5_write 79 = .ok (.iload_n 3, 1) := by decide +kernel
theorem dX5_write_80 : decode cX5_write 80 = .ok (.invokevirtual 116, 3) := by decide +kernel
theorem dX5_write_83 : decode cX5_write 83 = .ok (.aload_n 0, 1) := by decide +kernel
theorem dX5_write_84 : decode cX5_write 84 = .ok (.iload_n 1, 1) := by decide +kernel
theorem dX5_write_85 : decode cX5_write 85 = .ok (.invokevirtual 98, 3) := by decide +kernel
theorem dX5_write_88 : decode cX5_write 88 = .ok (.ireturn, 1) := by decide +kernel
theorem dX5_value_0 : decode cX5_value 0 = .ok (.aload_n 0, 1) := by decide +kernel
theorem dX5_value_1 : decode cX5_value 1 = .ok (.aload_n 0, 1) := by decide +kernel
theorem dX5_value_2 : decode cX5_value 2 = .ok (.iload_n 1, 1) := by decide +kernel
theorem dX5_value_3 : decode cX5_value 3 = .ok (.invokevirtual 108, 3) := by decide +kernel
theorem dX5_value_6 : decode cX5_value 6 = .ok (.iconst 1, 1) := by decide +kernel
theorem dX5_value_7 : decode cX5_value 7 = .ok (.iconst 1, 1) := by decide +kernel
theorem dX5_value_8 : decode cX5_value 8 = .ok (.invokevirtual 80, 3) := by decide +kernel
theorem dX5_value_11 : decode cX5_value 11 = .ok (.ifCond .eq 11, 3) := by decide +kernel
theorem dX5_value_14 : decode cX5_value 14 = .ok (.aload_n 0, 1) := by decide +kernel
theorem dX5_value_15 : decode cX5_value 15 = .ok (.iload_n 1, 1) := by decide +kernel
theorem dX5_value_16 : decode cX5_value 16 = .ok (.invokevirtual 98, 3) := by decide +kernel
theorem dX5_value_19 : decode cX5_value 19 = .ok (.goto 4, 3) := by decide +kernel
theorem dX5_value_22 : decode cX5_value 22 = .ok (.iconst 0, 1) := by decide +kernel
theorem dX5_value_23 : decode cX5_value 23 = .ok (.ireturn, 1) := by decide +kernel
theorem dX5_command_0 : decode cX5_command 0 = .ok (.aload_n 0, 1) := by decide +kernel
theorem dX5_command_1 : decode cX5_command 1 = .ok (.aload_n 0, 1) := by decide +kernel
theorem dX5_command_2 : decode cX5_command 2 = .ok (.iload_n 1, 1) := by decide +kernel
theorem dX5_command_3 : decode cX5_command 3 = .ok (.invokevirtual 108, 3) := by decide +kernel
theorem dX5_command_6 : decode cX5_command 6 = .ok (.iload_n 2, 1) := by decide +kernel
theorem dX5_command_7 : decode cX5_command 7 = .ok (.iconst 1, 1) := by decide +kernel
theorem dX5_command_8 : decode cX5_command 8 = .ok (.bipush 16, 2) := by decide +kernel
theorem dX5_command_10 : decode cX5_command 10 = .ok (.invokestatic 75, 3) := by decide +kernel
theorem dX5_command_13 : decode cX5_command 13 = .ok (.iconst 1, 1) := by decide +kernel
theorem dX5_command_14 : decode cX5_command 14 = .ok (.invokevirtual 80, 3) := by decide +kernel
theorem dX5_command_17 : decode cX5_command 17 = .ok (.ifCond .eq 19, 3) := by decide +kernel
theorem dX5_command_20 : decode cX5_command 20 = .ok (.aload_n 0, 1) := by decide +kernel
theorem dX5_command_21 : decode cX5_command 21 = .ok (.getfield 26, 3) := by decide +kernel
theorem dX5_command_24 : decode cX5_command 24 = .ok (.bipush 16, 2) := by decide +kernel
theorem dX5_command_26 : decode cX5_command 26 = .ok (.iload_n 1, 1) := by decide +kernel
theorem dX5_command_27 : decode cX5_command 27 = .ok (.imul, 1) := by decide +kernel
theorem dX5_command_28 : decode cX5_command 28 = .ok (.iload_n 2, 1) := by decide +kernel
theorem dX5_command_29 : decode cX5_command 29 = .ok (.iadd, 1) := by decide +kernel
theorem dX5_command_30 : decode cX5_command 30 = .ok (.iconst 1, 1) := by decide +kernel
theorem dX5_command_31 : decode cX5_command 31 = .ok (.isub, 1) := by decide +kernel
theorem dX5_command_32 : decode cX5_command 32 = .ok (.iaload, 1) := by decide +kernel
theorem dX5_command_33 : decode cX5_command 33 = .ok (.goto 4, 3) := by decide +kernel
theorem dX5_command_36 : decode cX5_command 36 = .ok (.iconst 0, 1) := by decide +kernel
theorem dX5_command_37 : decode cX5_command 37 = .ok (.ireturn, 1) := by decide +kernel
theorem dX5_standing_0 : decode cX5_standing 0 = .ok (.aload_n 0, 1) := by decide +kernel
theorem dX5_standing_1 : decode cX5_standing 1 = .ok (.aload_n 0, 1) := by decide +kernel
theorem dX5_standing_2 : decode cX5_standing 2 = .ok (.iload_n 1, 1) := by decide +kernel
theorem dX5_standing_3 : decode cX5_standing 3 = .ok (.invokevirtual 108, 3) := by decide +kernel
theorem dX5_standing_6 : decode cX5_standing 6 = .ok (.iconst 1, 1) := by decide +kernel
theorem dX5_standing_7 : decode cX5_standing 7 = .ok (.iconst 1, 1) := by decide +kernel
theorem dX5_standing_8 : decode cX5_standing 8 = .ok (.invokevirtual 80, 3) := by decide +kernel
theorem dX5_standing_11 : decode cX5_standing 11 = .ok (.ifCond .eq 11, 3) := by decide +kernel
theorem dX5_standing_14 : decode cX5_standing 14 = .ok (.aload_n 0, 1) := by decide +kernel
theorem dX5_standing_15 : decode cX5_standing 15 = .ok (.iload_n 1, 1) := by decide +kernel
theorem dX5_standing_16 : decode cX5_standing 16 = .ok (.invokevirtual 88, 3) := by decide +kernel
theorem dX5_standing_19 : decode cX5_standing 19 = .ok (.goto 4, 3) := by decide +kernel
theorem dX5_standing_22 : decode cX5_standing 22 = .ok (.iconst 0, 1) := by decide +kernel
theorem dX5_standing_23 : decode cX5_standing 23 = .ok (.ireturn, 1) := by decide +kernel
theorem dX5_held_0 : decode cX5_held 0 = .ok (.aload_n 0, 1) := by decide +kernel
theorem dX5_held_1 : decode cX5_held 1 = .ok (.aload_n 0, 1) := by decide +kernel
theorem dX5_held_2 : decode cX5_held 2 = .ok (.iload_n 1, 1) := by decide +kernel
theorem dX5_held_3 : decode cX5_held 3 = .ok (.invokevirtual 108, 3) := by decide +kernel
theorem dX5_held_6 : decode cX5_held 6 = .ok (.iconst 1, 1) := by decide +kernel
theorem dX5_held_7 : decode cX5_held 7 = .ok (.iconst 1, 1) := by decide +kernel
theorem dX5_held_8 : decode cX5_held 8 = .ok (.invokevirtual 80, 3) := by decide +kernel
theorem dX5_held_11 : decode cX5_held 11 = .ok (.ifCond .eq 26, 3) := by decide +kernel
theorem dX5_held_14 : decode cX5_held 14 = .ok (.aload_n 0, 1) := by decide +kernel
theorem dX5_held_15 : decode cX5_held 15 = .ok (.getfield 20, 3) := by decide +kernel
theorem dX5_held_18 : decode cX5_held 18 = .ok (.iload_n 1, 1) := by decide +kernel
theorem dX5_held_19 : decode cX5_held 19 = .ok (.iaload, 1) := by decide +kernel
theorem dX5_held_20 : decode cX5_held 20 = .ok (.ifCond .le 17, 3) := by decide +kernel
theorem dX5_held_23 : decode cX5_held 23 = .ok (.aload_n 0, 1) := by decide +kernel
theorem dX5_held_24 : decode cX5_held 24 = .ok (.getfield 20, 3) := by decide +kernel
theorem dX5_held_27 : decode cX5_held 27 = .ok (.iload_n 1, 1) := by decide +kernel
theorem dX5_held_28 : decode cX5_held 28 = .ok (.iaload, 1) := by decide +kernel
theorem dX5_held_29 : decode cX5_held 29 = .ok (.aload_n 0, 1) := by decide +kernel
theorem dX5_held_30 : decode cX5_held 30 = .ok (.getfield 101, 3) := by decide +kernel
theorem dX5_held_33 : decode cX5_held 33 = .ok (.isub, 1) := by decide +kernel
theorem dX5_held_34 : decode cX5_held 34 = .ok (.goto 4, 3) := by decide +kernel
theorem dX5_held_37 : decode cX5_held 37 = .ok (.iconst 0, 1) := by decide +kernel
theorem dX5_held_38 : decode cX5_held 38 = .ok (.ireturn, 1) := by decide +kernel
theorem dX5_changes_0 : decode cX5_changes 0 = .ok (.aload_n 0, 1) := by decide +kernel
theorem dX5_changes_1 : decode cX5_changes 1 = .ok (.aload_n 0, 1) := by decide +kernel
theorem dX5_changes_2 : decode cX5_changes 2 = .ok (.iload_n 1, 1) := by decide +kernel
theorem dX5_changes_3 : decode cX5_changes 3 = .ok (.invokevirtual 108, 3) := by decide +kernel
theorem dX5_changes_6 : decode cX5_changes 6 = .ok (.iconst 1, 1) := by decide +kernel
theorem dX5_changes_7 : decode cX5_changes 7 = .ok (.iconst 1, 1) := by decide +kernel
theorem dX5_changes_8 : decode cX5_changes 8 = .ok (.invokevirtual 80, 3) := by decide +kernel
theorem dX5_changes_11 : decode cX5_changes 11 = .ok (.ifCond .eq 12, 3) := by decide +kernel
theorem dX5_changes_14 : decode cX5_changes 14 = .ok (.aload_n 0, 1) := by decide +kernel
theorem dX5_changes_15 : decode cX5_changes 15 = .ok (.getfield 23, 3) := by decide +kernel
theorem dX5_changes_18 : decode cX5_changes 18 = .ok (.iload_n 1, 1) := by decide +kernel
theorem dX5_changes_19 : decode cX5_changes 19 = .ok (.iaload, 1) := by decide +kernel
theorem dX5_changes_20 : decode cX5_changes 20 = .ok (.goto 4, 3) := by decide +kernel
theorem dX5_changes_23 : decode cX5_changes 23 = .ok (.iconst 0, 1) := by decide +kernel
theorem dX5_changes_24 : decode cX5_changes 24 = .ok (.ireturn, 1) := by decide +kernel
theorem dX5_subscribe_0 : decode cX5_subscribe 0 = .ok (.aload_n 0, 1) := by decide +kernel
theorem dX5_subscribe_1 : decode cX5_subscribe 1 = .ok (.iload_n 1, 1) := by decide +kernel
theorem dX5_subscribe_2 : decode cX5_subscribe 2 = .ok (.invokevirtual 108, 3) := by decide +kernel
theorem dX5_subscribe_5 : decode cX5_subscribe 5 = .ok (.istore 4, 2) := by decide +kernel
theorem dX5_subscribe_7 : decode cX5_subscribe 7 = .ok (.aload_n 0, 1) := by decide +kernel
theorem dX5_subscribe_8 : decode cX5_subscribe 8 = .ok (.iload 4, 2) := by decide +kernel
theorem dX5_subscribe_10 : decode cX5_subscribe 10 = .ok (.iload_n 2, 1) := by decide +kernel
theorem dX5_subscribe_11 : decode cX5_subscribe 11 = .ok (.iconst 1, 1) := by decide +kernel
theorem dX5_subscribe_12 : decode cX5_subscribe 12 = .ok (.sipush 2000, 3) := by decide +kernel
theorem dX5_subscribe_15 : decode cX5_subscribe 15 = .ok (.invokestatic 75, 3) := by decide +kernel
theorem dX5_subscribe_18 : decode cX5_subscribe 18 = .ok (.ifCond .eq 17, 3) := by decide +kernel
theorem dX5_subscribe_21 : decode cX5_subscribe 21 = .ok (.iload_n 3, 1) := by decide +kernel
theorem dX5_subscribe_22 : decode cX5_subscribe 22 = .ok (.iconst 1, 1) := by decide +kernel
theorem dX5_subscribe_23 : decode cX5_subscribe 23 = .ok (.ldc 120, 2) := by decide +kernel
theorem dX5_subscribe_25 : decode cX5_subscribe 25 = .ok (.invokestatic 75, 3) := by decide +kernel
theorem dX5_subscribe_28 : decode cX5_subscribe 28 = .ok (.ifCond .eq 7, 3) := by decide +kernel
theorem dX5_subscribe_31 : decode cX5_subscribe 31 = .ok (.iconst 1, 1) := by decide +kernel
theorem dX5_subscribe_32 : decode cX5_subscribe 32 = .ok (.goto 4, 3) := by decide +kernel
theorem dX5_subscribe_35 : decode cX5_subscribe 35 = .ok (.iconst 0, 1) := by decide +kernel
theorem dX5_subscribe_36 : decode cX5_subscribe 36 = .ok (.aload_n 0, 1) := by decide +kernel
theorem dX5_subscribe_37 : decode cX5_subscribe 37 = .ok (.getfield 92, 3) := by decide +kernel
theorem dX5_subscribe_40 : decode cX5_subscribe 40 = .ok (.bipush 30, 2) := by decide +kernel
theorem dX5_subscribe_42 : decode cX5_subscribe 42 = .ok (.if_icmp .ge 7, 3) := by decide +kernel
theorem dX5_subscribe_45 : decode cX5_subscribe 45 = .ok (.iconst 1, 1) := by decide +kernel
theorem dX5_subscribe_46 : decode cX5_subscribe 46 = .ok (.goto 4, 3) := by decide +kernel
theorem dX5_subscribe_49 : decode cX5_subscribe 49 = .ok (.iconst 0, 1) := by decide +kernel
theorem dX5_subscribe_50 : decode cX5_subscribe 50 = .ok (.invokevirtual 80, 3) := by decide +kernel
theorem dX5_subscribe_53 : decode cX5_subscribe 53 = .ok (.ifCond .ne 5, 3) := by decide +kernel
theorem dX5_subscribe_56 : decode cX5_subscribe 56 = .ok (.iconst 0, 1) := by decide +kernel
theorem dX5_subscribe_57 : decode cX5_subscribe 57 = .ok (.ireturn, 1) := by decide +kernel
theorem dX5_subscribe_58 : decode cX5_subscribe 58 = .ok (.aload_n 0, 1) := by decide +kernel
theorem dX5_subscribe_59 : decode cX5_subscribe 59 = .ok (.getfield 29, 3) := by decide +kernel
theorem dX5_subscribe_62 : decode cX5_subscribe 62 = .ok (.aload_n 0, 1) := by decide +kernel
theorem dX5_subscribe_63 : decode cX5_subscribe 63 = .ok (.getfield 92, 3) := by decide +kernel
theorem dX5_subscribe_66 : decode cX5_subscribe 66 = .ok (.iload_n 1, 1) := by decide +kernel
theorem dX5_subscribe_67 : decode cX5_subscribe 67 = .ok (.iastore, 1) := by decide +kernel
theorem dX5_subscribe_68 : decode cX5_subscribe 68 = .ok (.aload_n 0, 1) := by decide +kernel
theorem dX5_subscribe_69 : decode cX5_subscribe 69 = .ok (.getfield 32, 3) := by decide +kernel
theorem dX5_subscribe_72 : decode cX5_subscribe 72 = .ok (.aload_n 0, 1) := by decide +kernel
theorem dX5_subscribe_73 : decode cX5_subscribe 73 = .ok (.getfield 92, 3) := by decide +kernel
theorem dX5_subscribe_76 : decode cX5_subscribe 76 = .ok (.iload_n 2, 1) := by decide +kernel
theorem dX5_subscribe_77 : decode cX5_subscribe 77 = .ok (.iastore, 1) := by decide +kernel
theorem dX5_subscribe_78 : decode cX5_subscribe 78 = .ok (.aload_n 0, 1) := by decide +kernel
theorem dX5_subscribe_79 : decode cX5_subscribe 79 = .ok (.getfield 35, 3) := by decide +kernel
theorem dX5_subscribe_82 : decode cX5_subscribe 82 = .ok (.aload_n 0, 1) := by decide +kernel
theorem dX5_subscribe_83 : decode cX5_subscribe 83 = .ok (.getfield 92, 3) := by decide +kernel
theorem dX5_subscribe_86 : decode cX5_subscribe 86 = .ok (.aload_n 0, 1) := by decide +kernel
theorem dX5_subscribe_87 : decode cX5_subscribe 87 = .ok (.getfield 101, 3) := by decide +kernel
theorem dX5_subscribe_90 : decode cX5_subscribe 90 = .ok (.iload_n 3, 1) := by decide +kernel
theorem dX5_subscribe_91 : decode cX5_subscribe 91 = .ok (.iadd, 1) := by decide +kernel
theorem dX5_subscribe_92 : decode cX5_subscribe 92 = .ok (.iastore, 1) := by decide +kernel
theorem dX5_subscribe_93 : decode cX5_subscribe 93 = .ok (.aload_n 0, 1) := by decide +kernel
theorem dX5_subscribe_94 : decode cX5_subscribe 94 = .ok (.getfield 44, 3) := by decide +kernel
theorem dX5_subscribe_97 : decode cX5_subscribe 97 = .ok (.aload_n 0, 1) := by decide +kernel
theorem dX5_subscribe_98 : decode cX5_subscribe 98 = .ok (.getfield 92, 3) := by decide +kernel
theorem dX5_subscribe_101 : decode cX5_subscribe 101 = .ok (.aload_n 0, 1) := by decide +kernel
theorem dX5_subscribe_102 : decode cX5_subscribe 102 = .ok (.iload_n 1, 1) := by decide +kernel
theorem dX5_subscribe_103 : decode cX5_subscribe 103 = .ok (.invokevirtual 98, 3) := by decide +kernel
theorem dX5_subscribe_106 : decode cX5_subscribe 106 = .ok (.iastore, 1) := by decide +kernel
theorem dX5_subscribe_107 : decode cX5_subscribe 107 = .ok (.aload_n 0, 1) := by decide +kernel
theorem dX5_subscribe_108 : decode cX5_subscribe 108 = .ok (.dup, 1) := by decide +kernel
theorem dX5_subscribe_109 : decode cX5_subscribe 109 = .ok (.getfield 92, 3) := by decide +kernel
theorem dX5_subscribe_112 : decode cX5_subscribe 112 = .ok (.iconst 1, 1) := by decide +kernel
theorem dX5_subscribe_113 : decode cX5_subscribe 113 = .ok (.iadd, 1) := by decide +kernel
theorem dX5_subscribe_114 : decode cX5_subscribe 114 = .ok (.putfield 92, 3) := by decide +kernel
theorem dX5_subscribe_117 : decode cX5_subscribe 117 = .ok (.aload_n 0, 1) := by decide +kernel
theorem dX5_subscribe_118 : decode cX5_subscribe 118 = .ok (.getfield 92, 3) := by decide +kernel
theorem dX5_subscribe_121 : decode cX5_subscribe 121 = .ok (.iconst 1, 1) := by decide +kernel
theorem dX5_subscribe_122 : decode cX5_subscribe 122 = .ok (.isub, 1) := by decide +kernel
theorem dX5_subscribe_123 : decode cX5_subscribe 123 = .ok (.ireturn, 1) := by decide +kernel
theorem dX5_isSubscription_0 : decode cX5_isSubscription 0 = .ok (.iload_n 1, 1) := by decide +kernel
theorem dX5_isSubscription_1 : decode cX5_isSubscription 1 = .ok (.iconst 0, 1) := by decide +kernel
theorem dX5_isSubscription_2 : decode cX5_isSubscription 2 = .ok (.aload_n 0, 1) := by decide +kernel
theorem dX5_isSubscription_3 : decode cX5_isSubscription 3 = .ok (.getfield 92, 3) := by decide +kernel
theorem dX5_isSubscription_6 : decode cX5_isSubscription 6 = .ok (.iconst 1, 1) := by decide +kernel
theorem dX5_isSubscription_7 : decode cX5_isSubscription 7 = .ok (.isub, 1) := by decide +kernel
theorem dX5_isSubscription_8 : decode cX5_isSubscription 8 = .ok (.invokestatic 75, 3) := by decide +kernel
theorem dX5_isSubscription_11 : decode cX5_isSubscription 11 = .ok (.ireturn, 1) := by decide +kernel
theorem dX5_end_0 : decode cX5_end 0 = .ok (.aload_n 0, 1) := by decide +kernel
theorem dX5_end_1 : decode cX5_end 1 = .ok (.iload_n 1, 1) := by decide +kernel
theorem dX5_end_2 : decode cX5_end 2 = .ok (.invokevirtual 121, 3) := by decide +kernel
theorem dX5_end_5 : decode cX5_end 5 = .ok (.istore_n 2, 1) := by decide +kernel
theorem dX5_end_6 : decode cX5_end 6 = .ok (.aload_n 0, 1) := by decide +kernel
theorem dX5_end_7 : decode cX5_end 7 = .ok (.iload_n 2, 1) := by decide +kernel
theorem dX5_end_8 : decode cX5_end 8 = .ok (.iload_n 2, 1) := by decide +kernel
theorem dX5_end_9 : decode cX5_end 9 = .ok (.ifCond .eq 16, 3) := by decide +kernel
theorem dX5_end_12 : decode cX5_end 12 = .ok (.aload_n 0, 1) := by decide +kernel
theorem dX5_end_13 : decode cX5_end 13 = .ok (.getfield 38, 3) := by decide +kernel
theorem dX5_end_16 : decode cX5_end 16 = .ok (.iload_n 1, 1) := by decide +kernel
theorem dX5_end_17 : decode cX5_end 17 = .ok (.baload, 1) := by decide +kernel
theorem dX5_end_18 : decode cX5_end 18 = .ok (.ifCond .ne 7, 3) := by decide +kernel
theorem dX5_end_21 : decode cX5_end 21 = .ok (.iconst 1, 1) := by decide +kernel
theorem dX5_end_22 : decode cX5_end 22 = .ok (.goto 4, 3) := by decide +kernel
theorem dX5_end_25 : decode cX5_end 25 = .ok (.iconst 0, 1) := by decide +kernel
theorem dX5_end_26 : decode cX5_end 26 = .ok (.iconst 1, 1) := by decide +kernel
theorem dX5_end_27 : decode cX5_end 27 = .ok (.invokevirtual 80, 3) := by decide +kernel
theorem dX5_end_30 : decode cX5_end 30 = .ok (.ifCond .eq 10, 3) := by decide +kernel
theorem dX5_end_33 : decode cX5_end 33 = .ok (.aload_n 0, 1) := by decide +kernel
theorem dX5_end_34 : decode cX5_end 34 = .ok (.getfield 38, 3) := by decide +kernel
theorem dX5_end_37 : decode cX5_end 37 = .ok (.iload_n 1, 1) := by decide +kernel
theorem dX5_end_38 : decode cX5_end 38 = .ok (.iconst 1, 1) := by decide +kernel
theorem dX5_end_39 : decode cX5_end 39 = .ok (.bastore, 1) := by decide +kernel
theorem dX5_end_40 : decode cX5_end 40 = .ok (.return_, 1) := by decide +kernel
theorem dX5_goesOn_0 : decode cX5_goesOn 0 = .ok (.aload_n 0, 1) := by decide +kernel
theorem dX5_goesOn_1 : decode cX5_goesOn 1 = .ok (.aload_n 0, 1) := by decide +kernel
theorem dX5_goesOn_2 : decode cX5_goesOn 2 = .ok (.iload_n 1, 1) := by decide +kernel
theorem dX5_goesOn_3 : decode cX5_goesOn 3 = .ok (.invokevirtual 121, 3) := by decide +kernel
theorem dX5_goesOn_6 : decode cX5_goesOn 6 = .ok (.iconst 1, 1) := by decide +kernel
theorem dX5_goesOn_7 : decode cX5_goesOn 7 = .ok (.iconst 1, 1) := by decide +kernel
theorem dX5_goesOn_8 : decode cX5_goesOn 8 = .ok (.invokevirtual 80, 3) := by decide +kernel
theorem dX5_goesOn_11 : decode cX5_goesOn 11 = .ok (.ifCond .eq 16, 3) := by decide +kernel
theorem dX5_goesOn_14 : decode cX5_goesOn 14 = .ok (.aload_n 0, 1) := by decide +kernel
theorem dX5_goesOn_15 : decode cX5_goesOn 15 = .ok (.getfield 38, 3) := by decide +kernel
theorem dX5_goesOn_18 : decode cX5_goesOn 18 = .ok (.iload_n 1, 1) := by decide +kernel
theorem dX5_goesOn_19 : decode cX5_goesOn 19 = .ok (.baload, 1) := by decide +kernel
theorem dX5_goesOn_20 : decode cX5_goesOn 20 = .ok (.ifCond .ne 7, 3) := by decide +kernel
theorem dX5_goesOn_23 : decode cX5_goesOn 23 = .ok (.iconst 1, 1) := by decide +kernel
theorem dX5_goesOn_24 : decode cX5_goesOn 24 = .ok (.goto 4, 3) := by decide +kernel
theorem dX5_goesOn_27 : decode cX5_goesOn 27 = .ok (.iconst 0, 1) := by decide +kernel
theorem dX5_goesOn_28 : decode cX5_goesOn 28 = .ok (.ireturn, 1) := by decide +kernel
theorem dX5_reports_0 : decode cX5_reports 0 = .ok (.aload_n 0, 1) := by decide +kernel
theorem dX5_reports_1 : decode cX5_reports 1 = .ok (.aload_n 0, 1) := by decide +kernel
theorem dX5_reports_2 : decode cX5_reports 2 = .ok (.iload_n 1, 1) := by decide +kernel
theorem dX5_reports_3 : decode cX5_reports 3 = .ok (.invokevirtual 121, 3) := by decide +kernel
theorem dX5_reports_6 : decode cX5_reports 6 = .ok (.iconst 1, 1) := by decide +kernel
theorem dX5_reports_7 : decode cX5_reports 7 = .ok (.iconst 1, 1) := by decide +kernel
theorem dX5_reports_8 : decode cX5_reports 8 = .ok (.invokevirtual 80, 3) := by decide +kernel
theorem dX5_reports_11 : decode cX5_reports 11 = .ok (.ifCond .eq 12, 3) := by decide +kernel
theorem dX5_reports_14 : decode cX5_reports 14 = .ok (.aload_n 0, 1) := by decide +kernel
theorem dX5_reports_15 : decode cX5_reports 15 = .ok (.getfield 41, 3) := by decide +kernel
theorem dX5_reports_18 : decode cX5_reports 18 = .ok (.iload_n 1, 1) := by decide +kernel
theorem dX5_reports_19 : decode cX5_reports 19 = .ok (.iaload, 1) := by decide +kernel
theorem dX5_reports_20 : decode cX5_reports 20 = .ok (.goto 4, 3) := by decide +kernel
theorem dX5_reports_23 : decode cX5_reports 23 = .ok (.iconst 0, 1) := by decide +kernel
theorem dX5_reports_24 : decode cX5_reports 24 = .ok (.ireturn, 1) := by decide +kernel
theorem dX5_reported_0 : decode cX5_reported 0 = .ok (.aload_n 0, 1) := by decide +kernel
theorem dX5_reported_1 : decode cX5_reported 1 = .ok (.aload_n 0, 1) := by decide +kernel
theorem dX5_reported_2 : decode cX5_reported 2 = .ok (.iload_n 1, 1) := by decide +kernel
theorem dX5_reported_3 : decode cX5_reported 3 = .ok (.invokevirtual 121, 3) := by decide +kernel
theorem dX5_reported_6 : decode cX5_reported 6 = .ok (.iconst 1, 1) := by decide +kernel
theorem dX5_reported_7 : decode cX5_reported 7 = .ok (.iconst 1, 1) := by decide +kernel
theorem dX5_reported_8 : decode cX5_reported 8 = .ok (.invokevirtual 80, 3) := by decide +kernel
theorem dX5_reported_11 : decode cX5_reported 11 = .ok (.ifCond .eq 12, 3) := by decide +kernel
theorem dX5_reported_14 : decode cX5_reported 14 = .ok (.aload_n 0, 1) := by decide +kernel
theorem dX5_reported_15 : decode cX5_reported 15 = .ok (.getfield 44, 3) := by decide +kernel
theorem dX5_reported_18 : decode cX5_reported 18 = .ok (.iload_n 1, 1) := by decide +kernel
theorem dX5_reported_19 : decode cX5_reported 19 = .ok (.iaload, 1) := by decide +kernel
theorem dX5_reported_20 : decode cX5_reported 20 = .ok (.goto 4, 3) := by decide +kernel
theorem dX5_reported_23 : decode cX5_reported 23 = .ok (.iconst 0, 1) := by decide +kernel
theorem dX5_reported_24 : decode cX5_reported 24 = .ok (.ireturn, 1) := by decide +kernel
theorem dX5_isSchedule_0 : decode cX5_isSchedule 0 = .ok (.iload_n 1, 1) := by decide +kernel
theorem dX5_isSchedule_1 : decode cX5_isSchedule 1 = .ok (.iconst 0, 1) := by decide +kernel
theorem dX5_isSchedule_2 : decode cX5_isSchedule 2 = .ok (.aload_n 0, 1) := by decide +kernel
theorem dX5_isSchedule_3 : decode cX5_isSchedule 3 = .ok (.getfield 124, 3) := by decide +kernel
theorem dX5_isSchedule_6 : decode cX5_isSchedule 6 = .ok (.iconst 1, 1) := by decide +kernel
theorem dX5_isSchedule_7 : decode cX5_isSchedule 7 = .ok (.isub, 1) := by decide +kernel
theorem dX5_isSchedule_8 : decode cX5_isSchedule 8 = .ok (.invokestatic 75, 3) := by decide +kernel
theorem dX5_isSchedule_11 : decode cX5_isSchedule 11 = .ok (.ireturn, 1) := by decide +kernel
theorem dX5_addSchedule_0 : decode cX5_addSchedule 0 = .ok (.aload_n 0, 1) := by decide +kernel
theorem dX5_addSchedule_1 : decode cX5_addSchedule 1 = .ok (.aload_n 0, 1) := by decide +kernel
theorem dX5_addSchedule_2 : decode cX5_addSchedule 2 = .ok (.iload_n 1, 1) := by decide +kernel
theorem dX5_addSchedule_3 : decode cX5_addSchedule 3 = .ok (.invokevirtual 108, 3) := by decide +kernel
theorem dX5_addSchedule_6 : decode cX5_addSchedule 6 = .ok (.iload_n 2, 1) := by decide +kernel
theorem dX5_addSchedule_7 : decode cX5_addSchedule 7 = .ok (.bipush 7, 2) := by decide +kernel
theorem dX5_addSchedule_9 : decode cX5_addSchedule 9 = .ok (.bipush 16, 2) := by decide +kernel
theorem dX5_addSchedule_11 : decode cX5_addSchedule 11 = .ok (.invokestatic 75, 3) := by decide +kernel
theorem dX5_addSchedule_14 : decode cX5_addSchedule 14 = .ok (.aload_n 0, 1) := by decide +kernel
theorem dX5_addSchedule_15 : decode cX5_addSchedule 15 = .ok (.getfield 124, 3) := by decide +kernel
theorem dX5_addSchedule_18 : decode cX5_addSchedule 18 = .ok (.iconst 4, 1) := by decide +kernel
theorem dX5_addSchedule_19 : decode cX5_addSchedule 19 = .ok (.if_icmp .ge 7, 3) := by decide +kernel
theorem dX5_addSchedule_22 : decode cX5_addSchedule 22 = .ok (.iconst 1, 1) := by decide +kernel
theorem dX5_addSchedule_23 : decode cX5_addSchedule 23 = .ok (.goto 4, 3) := by decide +kernel
theorem dX5_addSchedule_26 : decode cX5_addSchedule 26 = .ok (.iconst 0, 1) := by decide +kernel
theorem dX5_addSchedule_27 : decode cX5_addSchedule 27 = .ok (.invokevirtual 80, 3) := by decide +kernel
theorem dX5_addSchedule_30 : decode cX5_addSchedule 30 = .ok (.ifCond .ne 5, 3) := by decide +kernel
theorem dX5_addSchedule_33 : decode cX5_addSchedule 33 = .ok (.iconst 0, 1) := by decide +kernel
theorem dX5_addSchedule_34 : decode cX5_addSchedule 34 = .ok (.ireturn, 1) := by decide +kernel
theorem dX5_addSchedule_35 : decode cX5_addSchedule 35 = .ok (.aload_n 0, 1) := by decide +kernel
theorem dX5_addSchedule_36 : decode cX5_addSchedule 36 = .ok (.getfield 47, 3) := by decide +kernel
theorem dX5_addSchedule_39 : decode cX5_addSchedule 39 = .ok (.aload_n 0, 1) := by decide +kernel
theorem dX5_addSchedule_40 : decode cX5_addSchedule 40 = .ok (.getfield 124, 3) := by decide +kernel
theorem dX5_addSchedule_43 : decode cX5_addSchedule 43 = .ok (.iload_n 1, 1) := by decide +kernel
theorem dX5_addSchedule_44 : decode cX5_addSchedule 44 = .ok (.iastore, 1) := by decide +kernel
theorem dX5_addSchedule_45 : decode cX5_addSchedule 45 = .ok (.aload_n 0, 1) := by decide +kernel
theorem dX5_addSchedule_46 : decode cX5_addSchedule 46 = .ok (.getfield 50, 3) := by decide +kernel
theorem dX5_addSchedule_49 : decode cX5_addSchedule 49 = .ok (.aload_n 0, 1) := by decide +kernel
theorem dX5_addSchedule_50 : decode cX5_addSchedule 50 = .ok (.getfield 124, 3) := by decide +kernel
theorem dX5_addSchedule_53 : decode cX5_addSchedule 53 = .ok (.iload_n 2, 1) := by decide +kernel
theorem dX5_addSchedule_54 : decode cX5_addSchedule 54 = .ok (.iastore, 1) := by decide +kernel
theorem dX5_addSchedule_55 : decode cX5_addSchedule 55 = .ok (.aload_n 0, 1) := by decide +kernel
theorem dX5_addSchedule_56 : decode cX5_addSchedule 56 = .ok (.getfield 53, 3) := by decide +kernel
theorem dX5_addSchedule_59 : decode cX5_addSchedule 59 = .ok (.aload_n 0, 1) := by decide +kernel
theorem dX5_addSchedule_60 : decode cX5_addSchedule 60 = .ok (.getfield 124, 3) := by decide +kernel
theorem dX5_addSchedule_63 : decode cX5_addSchedule 63 = .ok (.ldc 79, 2) := by decide +kernel
theorem dX5_addSchedule_65 : decode cX5_addSchedule 65 = .ok (.iastore, 1) := by decide +kernel
theorem dX5_addSchedule_66 : decode cX5_addSchedule 66 = .ok (.aload_n 0, 1) := by decide +kernel
theorem dX5_addSchedule_67 : decode cX5_addSchedule 67 = .ok (.dup, 1) := by decide +kernel
theorem dX5_addSchedule_68 : decode cX5_addSchedule 68 = .ok (.getfield 124, 3) := by decide +kernel
theorem dX5_addSchedule_71 : decode cX5_addSchedule 71 = .ok (.iconst 1, 1) := by decide +kernel
theorem dX5_addSchedule_72 : decode cX5_addSchedule 72 = .ok (.iadd, 1) := by decide +kernel
theorem dX5_addSchedule_73 : decode cX5_addSchedule 73 = .ok (.putfield 124, 3) := by decide +kernel
theorem dX5_addSchedule_76 : decode cX5_addSchedule 76 = .ok (.aload_n 0, 1) := by decide +kernel
theorem dX5_addSchedule_77 : decode cX5_addSchedule 77 = .ok (.getfield 124, 3) := by decide +kernel
theorem dX5_addSchedule_80 : decode cX5_addSchedule 80 = .ok (.iconst 1, 1) := by decide +kernel
theorem dX5_addSchedule_81 : decode cX5_addSchedule 81 = .ok (.isub, 1) := by decide +kernel
theorem dX5_addSchedule_82 : decode cX5_addSchedule 82 = .ok (.ireturn, 1) := by decide +kernel
theorem dX5_toldBy_0 : decode cX5_toldBy 0 = .ok (.bipush 10, 2) := by decide +kernel
theorem dX5_toldBy_2 : decode cX5_toldBy 2 = .ok (.iload_n 2, 1) := by decide +kernel
theorem dX5_toldBy_3 : decode cX5_toldBy 3 = .ok (.sipush 1440, 3) := by decide +kernel
theorem dX5_toldBy_6 : decode cX5_toldBy 6 = .ok (.idiv, 1) := by decide +kernel
theorem dX5_toldBy_7 : decode cX5_toldBy 7 = .ok (.iadd, 1) := by decide +kernel
theorem dX5_toldBy_8 : decode cX5_toldBy 8 = .ok (.istore_n 3, 1) := by decide +kernel
theorem dX5_toldBy_9 : decode cX5_toldBy 9 = .ok (.iconst 0, 1) := by decide +kernel
theorem dX5_toldBy_10 : decode cX5_toldBy 10 = .ok (.istore 4, 2) := by decide +kernel
theorem dX5_toldBy_12 : decode cX5_toldBy 12 = .ok (.bipush 20, 2) := by decide +kernel
theorem dX5_toldBy_14 : decode cX5_toldBy 14 = .ok (.iload_n 1, 1) := by decide +kernel
theorem dX5_toldBy_15 : decode cX5_toldBy 15 = .ok (.imul, 1) := by decide +kernel
theorem dX5_toldBy_16 : decode cX5_toldBy 16 = .ok (.istore 5, 2) := by decide +kernel
theorem dX5_toldBy_18 : decode cX5_toldBy 18 = .ok (.iload 5, 2) := by decide +kernel
theorem dX5_toldBy_20 : decode cX5_toldBy 20 = .ok (.bipush 20, 2) := by decide +kernel
theorem dX5_toldBy_22 : decode cX5_toldBy 22 = .ok (.iload_n 1, 1) := by decide +kernel
theorem dX5_toldBy_23 : decode cX5_toldBy 23 = .ok (.imul, 1) := by decide +kernel
theorem dX5_toldBy_24 : decode cX5_toldBy 24 = .ok (.aload_n 0, 1) := by decide +kernel
theorem dX5_toldBy_25 : decode cX5_toldBy 25 = .ok (.getfield 56, 3) := by decide +kernel
theorem dX5_toldBy_28 : decode cX5_toldBy 28 = .ok (.iload_n 1, 1) := by decide +kernel
theorem dX5_toldBy_29 : decode cX5_toldBy 29 = .ok (.iaload, 1) := by decide +kernel
theorem dX5_toldBy_30 : decode cX5_toldBy 30 = .ok (.iadd, 1) := by decide +kernel
theorem dX5_toldBy_31 : decode cX5_toldBy 31 = .ok (.if_icmp .ge 32, 3) := by decide +kernel
theorem dX5_toldBy_34 : decode cX5_toldBy 34 = .ok (.iload 4, 2) := by decide +kernel
theorem dX5_toldBy_36 : decode cX5_toldBy 36 = .ok (.ifCond .ne 14, 3) := by decide +kernel
theorem dX5_toldBy_39 : decode cX5_toldBy 39 = .ok (.aload_n 0, 1) := by decide +kernel
theorem dX5_toldBy_40 : decode cX5_toldBy 40 = .ok (.getfield 59, 3) := by decide +kernel
theorem dX5_toldBy_43 : decode cX5_toldBy 43 = .ok (.iload 5, 2) := by decide +kernel
theorem dX5_toldBy_45 : decode cX5_toldBy 45 = .ok (.iaload, 1) := by decide +kernel
theorem dX5_toldBy_46 : decode cX5_toldBy 46 = .ok (.iload_n 3, 1) := by decide +kernel
theorem dX5_toldBy_47 : decode cX5_toldBy 47 = .ok (.if_icmp .ne 7, 3) := by decide +kernel
theorem dX5_toldBy_50 : decode cX5_toldBy 50 = .ok (.iconst 1, 1) := by decide +kernel
theorem dX5_toldBy_51 : decode cX5_toldBy 51 = .ok (.goto 4, 3) := by decide +kernel
theorem dX5_toldBy_54 : decode cX5_toldBy 54 = .ok (.iconst 0, 1) := by decide +kernel
theorem dX5_toldBy_55 : decode cX5_toldBy 55 = .ok (.istore 4, 2) := by decide +kernel
theorem dX5_toldBy_57 : decode cX5_toldBy 57 = .ok (.iinc 5 1, 3) := by decide +kernel
theorem dX5_toldBy_60 : decode cX5_toldBy 60 = .ok (.goto (-42), 3) := by decide +kernel
theorem dX5_toldBy_63 : decode cX5_toldBy 63 = .ok (.iload 4, 2) := by decide +kernel
theorem dX5_toldBy_65 : decode cX5_toldBy 65 = .ok (.ifCond .eq 7, 3) := by decide +kernel
theorem dX5_toldBy_68 : decode cX5_toldBy 68 = .ok (.iload_n 3, 1) := by decide +kernel
theorem dX5_toldBy_69 : decode cX5_toldBy 69 = .ok (.goto 11, 3) := by decide +kernel
theorem dX5_toldBy_72 : decode cX5_toldBy 72 = .ok (.iload_n 2, 1) := by decide +kernel
theorem dX5_toldBy_73 : decode cX5_toldBy 73 = .ok (.sipush 1440, 3) := by decide +kernel
theorem dX5_toldBy_76 : decode cX5_toldBy 76 = .ok (.idiv, 1) := by decide +kernel
theorem dX5_toldBy_77 : decode cX5_toldBy 77 = .ok (.bipush 7, 2) := by decide +kernel
theorem dX5_toldBy_79 : decode cX5_toldBy 79 = .ok (.irem, 1) := by decide +kernel
theorem dX5_toldBy_80 : decode cX5_toldBy 80 = .ok (.istore 5, 2) := by decide +kernel
theorem dX5_toldBy_82 : decode cX5_toldBy 82 = .ok (.iconst (-1), 1) := by decide +kernel
theorem dX5_toldBy_83 : decode cX5_toldBy 83 = .ok (.istore 6, 2) := by decide +kernel
theorem dX5_toldBy_85 : decode cX5_toldBy 85 = .ok (.ldc 79, 2) := by decide +kernel
theorem dX5_toldBy_87 : decode cX5_toldBy 87 = .ok (.istore 7, 2) := by decide +kernel
theorem dX5_toldBy_89 : decode cX5_toldBy 89 = .ok (.bipush 20, 2) := by decide +kernel
theorem dX5_toldBy_91 : decode cX5_toldBy 91 = .ok (.iload_n 1, 1) := by decide +kernel
theorem dX5_toldBy_92 : decode cX5_toldBy 92 = .ok (.imul, 1) := by decide +kernel
theorem dX5_toldBy_93 : decode cX5_toldBy 93 = .ok (.istore 8, 2) := by decide +kernel
theorem dX5_toldBy_95 : decode cX5_toldBy 95 = .ok (.iload 8, 2) := by decide +kernel
theorem dX5_toldBy_97 : decode cX5_toldBy 97 = .ok (.bipush 20, 2) := by decide +kernel
theorem dX5_toldBy_99 : decode cX5_toldBy 99 = .ok (.iload_n 1, 1) := by decide +kernel
theorem dX5_toldBy_100 : decode cX5_toldBy 100 = .ok (.imul, 1) := by decide +kernel
theorem dX5_toldBy_101 : decode cX5_toldBy 101 = .ok (.aload_n 0, 1) := by decide +kernel
theorem dX5_toldBy_102 : decode cX5_toldBy 102 = .ok (.getfield 56, 3) := by decide +kernel
theorem dX5_toldBy_105 : decode cX5_toldBy 105 = .ok (.iload_n 1, 1) := by decide +kernel
theorem dX5_toldBy_106 : decode cX5_toldBy 106 = .ok (.iaload, 1) := by decide +kernel
theorem dX5_toldBy_107 : decode cX5_toldBy 107 = .ok (.iadd, 1) := by decide +kernel
theorem dX5_toldBy_108 : decode cX5_toldBy 108 = .ok (.if_icmp .ge 93, 3) := by decide +kernel
theorem dX5_toldBy_111 : decode cX5_toldBy 111 = .ok (.aload_n 0, 1) := by decide +kernel
theorem dX5_toldBy_112 : decode cX5_toldBy 112 = .ok (.getfield 59, 3) := by decide +kernel
theorem dX5_toldBy_115 : decode cX5_toldBy 115 = .ok (.iload 8, 2) := by decide +kernel
theorem dX5_toldBy_117 : decode cX5_toldBy 117 = .ok (.iaload, 1) := by decide +kernel
theorem dX5_toldBy_118 : decode cX5_toldBy 118 = .ok (.iload 5, 2) := by decide +kernel
theorem dX5_toldBy_120 : decode cX5_toldBy 120 = .ok (.if_icmp .ne 34, 3) := by decide +kernel
theorem dX5_toldBy_123 : decode cX5_toldBy 123 = .ok (.aload_n 0, 1) := by decide +kernel
theorem dX5_toldBy_124 : decode cX5_toldBy 124 = .ok (.getfield 62, 3) := by decide +kernel
theorem dX5_toldBy_127 : decode cX5_toldBy 127 = .ok (.iload 8, 2) := by decide +kernel
theorem dX5_toldBy_129 : decode cX5_toldBy 129 = .ok (.iaload, 1) := by decide +kernel
theorem dX5_toldBy_130 : decode cX5_toldBy 130 = .ok (.iload_n 2, 1) := by decide +kernel
theorem dX5_toldBy_131 : decode cX5_toldBy 131 = .ok (.sipush 1440, 3) := by decide +kernel
theorem dX5_toldBy_134 : decode cX5_toldBy 134 = .ok (.irem, 1) := by decide +kernel
theorem dX5_toldBy_135 : decode cX5_toldBy 135 = .ok (.if_icmp .gt 19, 3) := by decide +kernel
theorem dX5_toldBy_138 : decode cX5_toldBy 138 = .ok (.aload_n 0, 1) := by decide +kernel
theorem dX5_toldBy_139 : decode cX5_toldBy 139 = .ok (.getfield 62, 3) := by decide +kernel
theorem dX5_toldBy_142 : decode cX5_toldBy 142 = .ok (.iload 8, 2) := by decide +kernel
theorem dX5_toldBy_144 : decode cX5_toldBy 144 = .ok (.iaload, 1) := by decide +kernel
theorem dX5_toldBy_145 : decode cX5_toldBy 145 = .ok (.iload 6, 2) := by decide +kernel
theorem dX5_toldBy_147 : decode cX5_toldBy 147 = .ok (.if_icmp .lt 7, 3) := by decide +kernel
theorem dX5_toldBy_150 : decode cX5_toldBy 150 = .ok (.iconst 1, 1) := by decide +kernel
theorem dX5_toldBy_151 : decode cX5_toldBy 151 = .ok (.goto 4, 3) := by decide +kernel
theorem dX5_toldBy_154 : decode cX5_toldBy 154 = .ok (.iconst 0, 1) := by decide +kernel
theorem dX5_toldBy_155 : decode cX5_toldBy 155 = .ok (.istore 9, 2) := by decide +kernel
theorem dX5_toldBy_157 : decode cX5_toldBy 157 = .ok (.iload 9, 2) := by decide +kernel
theorem dX5_toldBy_159 : decode cX5_toldBy 159 = .ok (.ifCond .eq 13, 3) := by decide +kernel
theorem dX5_toldBy_162 : decode cX5_toldBy 162 = .ok (.aload_n 0, 1) := by decide +kernel
theorem dX5_toldBy_163 : decode cX5_toldBy 163 = .ok (.getfield 62, 3) := by decide +kernel
theorem dX5_toldBy_166 : decode cX5_toldBy 166 = .ok (.iload 8, 2) := by decide +kernel
theorem dX5_toldBy_168 : decode cX5_toldBy 168 = .ok (.iaload, 1) := by decide +kernel
theorem dX5_toldBy_169 : decode cX5_toldBy 169 = .ok (.goto 5, 3) := by decide +kernel
theorem dX5_toldBy_172 : decode cX5_toldBy 172 = .ok (.iload 6, 2) := by decide +kernel
theorem dX5_toldBy_174 : decode cX5_toldBy 174 = .ok (.istore 6, 2) := by decide +kernel
theorem dX5_toldBy_176 : decode cX5_toldBy 176 = .ok (.iload 9, 2) := by decide +kernel
theorem dX5_toldBy_178 : decode cX5_toldBy 178 = .ok (.ifCond .eq 13, 3) := by decide +kernel
theorem dX5_toldBy_181 : decode cX5_toldBy 181 = .ok (.aload_n 0, 1) := by decide +kernel
theorem dX5_toldBy_182 : decode cX5_toldBy 182 = .ok (.getfield 65, 3) := by decide +kernel
theorem dX5_toldBy_185 : decode cX5_toldBy 185 = .ok (.iload 8, 2) := by decide +kernel
theorem dX5_toldBy_187 : decode cX5_toldBy 187 = .ok (.iaload, 1) := by decide +kernel
theorem dX5_toldBy_188 : decode cX5_toldBy 188 = .ok (.goto 5, 3) := by decide +kernel
theorem dX5_toldBy_191 : decode cX5_toldBy 191 = .ok (.iload 7, 2) := by decide +kernel
theorem dX5_toldBy_193 : decode cX5_toldBy 193 = .ok (.istore 7, 2) := by decide +kernel
theorem dX5_toldBy_195 : decode cX5_toldBy 195 = .ok (.iinc 8 1, 3) := by decide +kernel
theorem dX5_toldBy_198 : decode cX5_toldBy 198 = .ok (.goto (-103), 3) := by decide +kernel
theorem dX5_toldBy_201 : decode cX5_toldBy 201 = .ok (.iload 7, 2) := by decide +kernel
theorem dX5_toldBy_203 : decode cX5_toldBy 203 = .ok (.ireturn, 1) := by decide +kernel
theorem dX5_obeys_0 : decode cX5_obeys 0 = .ok (.aload_n 0, 1) := by decide +kernel
theorem dX5_obeys_1 : decode cX5_obeys 1 = .ok (.iload_n 1, 1) := by decide +kernel
theorem dX5_obeys_2 : decode cX5_obeys 2 = .ok (.aload_n 0, 1) := by decide +kernel
theorem dX5_obeys_3 : decode cX5_obeys 3 = .ok (.getfield 101, 3) := by decide +kernel
theorem dX5_obeys_6 : decode cX5_obeys 6 = .ok (.invokevirtual 127, 3) := by decide +kernel
theorem dX5_obeys_9 : decode cX5_obeys 9 = .ok (.istore_n 2, 1) := by decide +kernel
theorem dX5_obeys_10 : decode cX5_obeys 10 = .ok (.iload_n 2, 1) := by decide +kernel
theorem dX5_obeys_11 : decode cX5_obeys 11 = .ok (.aload_n 0, 1) := by decide +kernel
theorem dX5_obeys_12 : decode cX5_obeys 12 = .ok (.getfield 53, 3) := by decide +kernel
theorem dX5_obeys_15 : decode cX5_obeys 15 = .ok (.iload_n 1, 1) := by decide +kernel
theorem dX5_obeys_16 : decode cX5_obeys 16 = .ok (.iaload, 1) := by decide +kernel
theorem dX5_obeys_17 : decode cX5_obeys 17 = .ok (.if_icmp .eq 27, 3) := by decide +kernel
theorem dX5_obeys_20 : decode cX5_obeys 20 = .ok (.aload_n 0, 1) := by decide +kernel
theorem dX5_obeys_21 : decode cX5_obeys 21 = .ok (.getfield 53, 3) := by decide +kernel
theorem dX5_obeys_24 : decode cX5_obeys 24 = .ok (.iload_n 1, 1) := by decide +kernel
theorem dX5_obeys_25 : decode cX5_obeys 25 = .ok (.iload_n 2, 1) := by decide +kernel
theorem dX5_obeys_26 : decode cX5_obeys 26 = .ok (.iastore, 1) := by decide +kernel
theorem dX5_obeys_27 : decode cX5_obeys 27 = .ok (.aload_n 0, 1) := by decide +kernel
theorem dX5_obeys_28 : decode cX5_obeys 28 = .ok (.aload_n 0, 1) := by decide +kernel
theorem dX5_obeys_29 : decode cX5_obeys 29 = .ok (.getfield 47, 3) := by decide +kernel
theorem dX5_obeys_32 : decode cX5_obeys 32 = .ok (.iload_n 1, 1) := by decide +kernel
theorem dX5_obeys_33 : decode cX5_obeys 33 = .ok (.iaload, 1) := by decide +kernel
theorem dX5_obeys_34 : decode cX5_obeys 34 = .ok (.aload_n 0, 1) := by decide +kernel
theorem dX5_obeys_35 : decode cX5_obeys 35 = .ok (.getfield 50, 3) := by decide +kernel
theorem dX5_obeys_38 : decode cX5_obeys 38 = .ok (.iload_n 1, 1) := by decide +kernel
theorem dX5_obeys_39 : decode cX5_obeys 39 = .ok (.iaload, 1) := by decide +kernel
theorem dX5_obeys_40 : decode cX5_obeys 40 = .ok (.iload_n 2, 1) := by decide +kernel
theorem dX5_obeys_41 : decode cX5_obeys 41 = .ok (.invokevirtual 116, 3) := by decide +kernel
theorem dX5_obeys_44 : decode cX5_obeys 44 = .ok (.return_, 1) := by decide +kernel
theorem dX5_enters_0 : decode cX5_enters 0 = .ok (.bipush 20, 2) := by decide +kernel
theorem dX5_enters_2 : decode cX5_enters 2 = .ok (.iload_n 1, 1) := by decide +kernel
theorem dX5_enters_3 : decode cX5_enters 3 = .ok (.imul, 1) := by decide +kernel
theorem dX5_enters_4 : decode cX5_enters 4 = .ok (.aload_n 0, 1) := by decide +kernel
theorem dX5_enters_5 : decode cX5_enters 5 = .ok (.getfield 56, 3) := by decide +kernel
theorem dX5_enters_8 : decode cX5_enters 8 = .ok (.iload_n 1, 1) := by decide +kernel
theorem dX5_enters_9 : decode cX5_enters 9 = .ok (.iaload, 1) := by decide +kernel
theorem dX5_enters_10 : decode cX5_enters 10 = .ok (.iadd, 1) := by decide +kernel
theorem dX5_enters_11 : decode cX5_enters 11 = .ok (.istore 5, 2) := by decide +kernel
theorem dX5_enters_13 : decode cX5_enters 13 = .ok (.aload_n 0, 1) := by decide +kernel
theorem dX5_enters_14 : decode cX5_enters 14 = .ok (.getfield 59, 3) := by decide +kernel
theorem dX5_enters_17 : decode cX5_enters 17 = .ok (.iload 5, 2) := by decide +kernel
theorem dX5_enters_19 : decode cX5_enters 19 = .ok (.iload_n 2, 1) := by decide +kernel
theorem dX5_enters_20 : decode cX5_enters 20 = .ok (.iastore, 1) := by decide +kernel
theorem dX5_enters_21 : decode cX5_enters 21 = .ok (.aload_n 0, 1) := by decide +kernel
theorem dX5_enters_22 : decode cX5_enters 22 = .ok (.getfield 62, 3) := by decide +kernel
theorem dX5_enters_25 : decode cX5_enters 25 = .ok (.iload 5, 2) := by decide +kernel
theorem dX5_enters_27 : decode cX5_enters 27 = .ok (.iload_n 3, 1) := by decide +kernel
theorem dX5_enters_28 : decode cX5_enters 28 = .ok (.iastore, 1) := by decide +kernel
theorem dX5_enters_29 : decode cX5_enters 29 = .ok (.aload_n 0, 1) := by decide +kernel
theorem dX5_enters_30 : decode cX5_enters 30 = .ok (.getfield 65, 3) := by decide +kernel
theorem dX5_enters_33 : decode cX5_enters 33 = .ok (.iload 5, 2) := by decide +kernel
theorem dX5_enters_35 : decode cX5_enters 35 = .ok (.iload 4, 2) := by decide +kernel
theorem dX5_enters_37 : decode cX5_enters 37 = .ok (.iastore, 1) := by decide +kernel
theorem dX5_enters_38 : decode cX5_enters 38 = .ok (.aload_n 0, 1) := by decide +kernel
theorem dX5_enters_39 : decode cX5_enters 39 = .ok (.getfield 56, 3) := by decide +kernel
theorem dX5_enters_42 : decode cX5_enters 42 = .ok (.iload_n 1, 1) := by decide +kernel
theorem dX5_enters_43 : decode cX5_enters 43 = .ok (.dup2, 1) := by decide +kernel
theorem dX5_enters_44 : decode cX5_enters 44 = .ok (.iaload, 1) := by decide +kernel
theorem dX5_enters_45 : decode cX5_enters 45 = .ok (.iconst 1, 1) := by decide +kernel
theorem dX5_enters_46 : decode cX5_enters 46 = .ok (.iadd, 1) := by decide +kernel
theorem dX5_enters_47 : decode cX5_enters 47 = .ok (.iastore, 1) := by decide +kernel
theorem dX5_enters_48 : decode cX5_enters 48 = .ok (.aload_n 0, 1) := by decide +kernel
theorem dX5_enters_49 : decode cX5_enters 49 = .ok (.iload_n 1, 1) := by decide +kernel
theorem dX5_enters_50 : decode cX5_enters 50 = .ok (.invokevirtual 131, 3) := by decide +kernel
theorem dX5_enters_53 : decode cX5_enters 53 = .ok (.aload_n 0, 1) := by decide +kernel
theorem dX5_enters_54 : decode cX5_enters 54 = .ok (.getfield 53, 3) := by decide +kernel
theorem dX5_enters_57 : decode cX5_enters 57 = .ok (.iload_n 1, 1) := by decide +kernel
theorem dX5_enters_58 : decode cX5_enters 58 = .ok (.iaload, 1) := by decide +kernel
theorem dX5_enters_59 : decode cX5_enters 59 = .ok (.ireturn, 1) := by decide +kernel
theorem dX5_weekly_0 : decode cX5_weekly 0 = .ok (.aload_n 0, 1) := by decide +kernel
theorem dX5_weekly_1 : decode cX5_weekly 1 = .ok (.iload_n 1, 1) := by decide +kernel
theorem dX5_weekly_2 : decode cX5_weekly 2 = .ok (.invokevirtual 135, 3) := by decide +kernel
theorem dX5_weekly_5 : decode cX5_weekly 5 = .ok (.istore 5, 2) := by decide +kernel
theorem dX5_weekly_7 : decode cX5_weekly 7 = .ok (.iload 5, 2) := by decide +kernel
theorem dX5_weekly_9 : decode cX5_weekly 9 = .ok (.ifCond .eq 43, 3) := by decide +kernel
theorem dX5_weekly_12 : decode cX5_weekly 12 = .ok (.iload_n 2, 1) := by decide +kernel
theorem dX5_weekly_13 : decode cX5_weekly 13 = .ok (.iconst 0, 1) := by decide +kernel
theorem dX5_weekly_14 : decode cX5_weekly 14 = .ok (.bipush 6, 2) := by decide +kernel
theorem dX5_weekly_16 : decode cX5_weekly 16 = .ok (.invokestatic 75, 3) := by decide +kernel
theorem dX5_weekly_19 : decode cX5_weekly 19 = .ok (.ifCond .eq 33, 3) := by decide +kernel
theorem dX5_weekly_22 : decode cX5_weekly 22 = .ok (.iload_n 3, 1) := by decide +kernel
theorem dX5_weekly_23 : decode cX5_weekly 23 = .ok (.iconst 0, 1) := by decide +kernel
theorem dX5_weekly_24 : decode cX5_weekly 24 = .ok (.sipush 1439, 3) := by decide +kernel
theorem dX5_weekly_27 : decode cX5_weekly 27 = .ok (.invokestatic 75, 3) := by decide +kernel
theorem dX5_weekly_30 : decode cX5_weekly 30 = .ok (.ifCond .eq 22, 3) := by decide +kernel
theorem dX5_weekly_33 : decode cX5_weekly 33 = .ok (.aload_n 0, 1) := by decide +kernel
theorem dX5_weekly_34 : decode cX5_weekly 34 = .ok (.aload_n 0, 1) := by decide +kernel
theorem dX5_weekly_35 : decode cX5_weekly 35 = .ok (.getfield 47, 3) := by decide +kernel
theorem dX5_weekly_38 : decode cX5_weekly 38 = .ok (.iload_n 1, 1) := by decide +kernel
theorem dX5_weekly_39 : decode cX5_weekly 39 = .ok (.iaload, 1) := by decide +kernel
theorem dX5_weekly_40 : decode cX5_weekly 40 = .ok (.iload 4, 2) := by decide +kernel
theorem dX5_weekly_42 : decode cX5_weekly 42 = .ok (.invokevirtual 112, 3) := by decide +kernel
theorem dX5_weekly_45 : decode cX5_weekly 45 = .ok (.ifCond .eq 7, 3) := by decide +kernel
theorem dX5_weekly_48 : decode cX5_weekly 48 = .ok (.iconst 1, 1) := by decide +kernel
theorem dX5_weekly_49 : decode cX5_weekly 49 = .ok (.goto 4, 3) := by decide +kernel
theorem dX5_weekly_52 : decode cX5_weekly 52 = .ok (.iconst 0, 1) := by decide +kernel
theorem dX5_weekly_53 : decode cX5_weekly 53 = .ok (.istore 6, 2) := by decide +kernel
theorem dX5_weekly_55 : decode cX5_weekly 55 = .ok (.aload_n 0, 1) := by decide +kernel
theorem dX5_weekly_56 : decode cX5_weekly 56 = .ok (.iload 5, 2) := by decide +kernel
theorem dX5_weekly_58 : decode cX5_weekly 58 = .ok (.iload 6, 2) := by decide +kernel
theorem dX5_weekly_60 : decode cX5_weekly 60 = .ok (.iload 5, 2) := by decide +kernel
theorem dX5_weekly_62 : decode cX5_weekly 62 = .ok (.ifCond .eq 18, 3) := by decide +kernel
theorem dX5_weekly_65 : decode cX5_weekly 65 = .ok (.aload_n 0, 1) := by decide +kernel
theorem dX5_weekly_66 : decode cX5_weekly 66 = .ok (.getfield 56, 3) := by decide +kernel
theorem dX5_weekly_69 : decode cX5_weekly 69 = .ok (.iload_n 1, 1) := by decide +kernel
theorem dX5_weekly_70 : decode cX5_weekly 70 = .ok (.iaload, 1) := by decide +kernel
theorem dX5_weekly_71 : decode cX5_weekly 71 = .ok (.bipush 20, 2) := by decide +kernel
theorem dX5_weekly_73 : decode cX5_weekly 73 = .ok (.if_icmp .ge 7, 3) := by decide +kernel
theorem dX5_weekly_76 : decode cX5_weekly 76 = .ok (.iconst 1, 1) := by decide +kernel
theorem dX5_weekly_77 : decode cX5_weekly 77 = .ok (.goto 4, 3) := by decide +kernel
theorem dX5_weekly_80 : decode cX5_weekly 80 = .ok (.iconst 0, 1) := by decide +kernel
theorem dX5_weekly_81 : decode cX5_weekly 81 = .ok (.invokevirtual 80, 3) := by decide +kernel
theorem dX5_weekly_84 : decode cX5_weekly 84 = .ok (.ifCond .eq 15, 3) := by decide +kernel
theorem dX5_weekly_87 : decode cX5_weekly 87 = .ok (.aload_n 0, 1) := by decide +kernel
theorem dX5_weekly_88 : decode cX5_weekly 88 = .ok (.iload_n 1, 1) := by decide +kernel
theorem dX5_weekly_89 : decode cX5_weekly 89 = .ok (.iload_n 2, 1) := by decide +kernel
theorem dX5_weekly_90 : decode cX5_weekly 90 = .ok (.iload_n 3, 1) := by decide +kernel
theorem dX5_weekly_91 : decode cX5_weekly 91 = .ok (.iload 4, 2) := by decide +kernel
theorem dX5_weekly_93 : decode cX5_weekly 93 = .ok (.invokevirtual 138, 3) := by decide +kernel
theorem dX5_weekly_96 : decode cX5_weekly 96 = .ok (.goto 4, 3) := by decide +kernel
theorem dX5_weekly_99 : decode cX5_weekly 99 = .ok (.iconst 0, 1) := by decide +kernel
theorem dX5_weekly_100 : decode cX5_weekly 100 = .ok (.ireturn, 1) := by decide +kernel
theorem dX5_once_0 : decode cX5_once 0 = .ok (.aload_n 0, 1) := by decide +kernel
theorem dX5_once_1 : decode cX5_once 1 = .ok (.iload_n 1, 1) := by decide +kernel
theorem dX5_once_2 : decode cX5_once 2 = .ok (.invokevirtual 135, 3) := by decide +kernel
theorem dX5_once_5 : decode cX5_once 5 = .ok (.istore 5, 2) := by decide +kernel
theorem dX5_once_7 : decode cX5_once 7 = .ok (.iload 5, 2) := by decide +kernel
theorem dX5_once_9 : decode cX5_once 9 = .ok (.ifCond .eq 44, 3) := by decide +kernel
theorem dX5_once_12 : decode cX5_once 12 = .ok (.iload_n 2, 1) := by decide +kernel
theorem dX5_once_13 : decode cX5_once 13 = .ok (.iconst 0, 1) := by decide +kernel
theorem dX5_once_14 : decode cX5_once 14 = .ok (.sipush 700, 3) := by decide +kernel
theorem dX5_once_17 : decode cX5_once 17 = .ok (.invokestatic 75, 3) := by decide +kernel
theorem dX5_once_20 : decode cX5_once 20 = .ok (.ifCond .eq 33, 3) := by decide +kernel
theorem dX5_once_23 : decode cX5_once 23 = .ok (.iload_n 3, 1) := by decide +kernel
theorem dX5_once_24 : decode cX5_once 24 = .ok (.iconst 0, 1) := by decide +kernel
theorem dX5_once_25 : decode cX5_once 25 = .ok (.sipush 1439, 3) := by decide +kernel
theorem dX5_once_28 : decode cX5_once 28 = .ok (.invokestatic 75, 3) := by decide +kernel
theorem dX5_once_31 : decode cX5_once 31 = .ok (.ifCond .eq 22, 3) := by decide +kernel
theorem dX5_once_34 : decode cX5_once 34 = .ok (.aload_n 0, 1) := by decide +kernel
theorem dX5_once_35 : decode cX5_once 35 = .ok (.aload_n 0, 1) := by decide +kernel
theorem dX5_once_36 : decode cX5_once 36 = .ok (.getfield 47, 3) := by decide +kernel
theorem dX5_once_39 : decode cX5_once 39 = .ok (.iload_n 1, 1) := by decide +kernel
theorem dX5_once_40 : decode cX5_once 40 = .ok (.iaload, 1) := by decide +kernel
theorem dX5_once_41 : decode cX5_once 41 = .ok (.iload 4, 2) := by decide +kernel
theorem dX5_once_43 : decode cX5_once 43 = .ok (.invokevirtual 112, 3) := by decide +kernel
theorem dX5_once_46 : decode cX5_once 46 = .ok (.ifCond .eq 7, 3) := by decide +kernel
theorem dX5_once_49 : decode cX5_once 49 = .ok (.iconst 1, 1) := by decide +kernel
theorem dX5_once_50 : decode cX5_once 50 = .ok (.goto 4, 3) := by decide +kernel
theorem dX5_once_53 : decode cX5_once 53 = .ok (.iconst 0, 1) := by decide +kernel
theorem dX5_once_54 : decode cX5_once 54 = .ok (.istore 6, 2) := by decide +kernel
theorem dX5_once_56 : decode cX5_once 56 = .ok (.aload_n 0, 1) := by decide +kernel
theorem dX5_once_57 : decode cX5_once 57 = .ok (.iload 5, 2) := by decide +kernel
theorem dX5_once_59 : decode cX5_once 59 = .ok (.iload 6, 2) := by decide +kernel
theorem dX5_once_61 : decode cX5_once 61 = .ok (.iload 5, 2) := by decide +kernel
theorem dX5_once_63 : decode cX5_once 63 = .ok (.ifCond .eq 18, 3) := by decide +kernel
theorem dX5_once_66 : decode cX5_once 66 = .ok (.aload_n 0, 1) := by decide +kernel
theorem dX5_once_67 : decode cX5_once 67 = .ok (.getfield 56, 3) := by decide +kernel
theorem dX5_once_70 : decode cX5_once 70 = .ok (.iload_n 1, 1) := by decide +kernel
theorem dX5_once_71 : decode cX5_once 71 = .ok (.iaload, 1) := by decide +kernel
theorem dX5_once_72 : decode cX5_once 72 = .ok (.bipush 20, 2) := by decide +kernel
theorem dX5_once_74 : decode cX5_once 74 = .ok (.if_icmp .ge 7, 3) := by decide +kernel
theorem dX5_once_77 : decode cX5_once 77 = .ok (.iconst 1, 1) := by decide +kernel
theorem dX5_once_78 : decode cX5_once 78 = .ok (.goto 4, 3) := by decide +kernel
theorem dX5_once_81 : decode cX5_once 81 = .ok (.iconst 0, 1) := by decide +kernel
theorem dX5_once_82 : decode cX5_once 82 = .ok (.invokevirtual 80, 3) := by decide +kernel
theorem dX5_once_85 : decode cX5_once 85 = .ok (.ifCond .eq 18, 3) := by decide +kernel
theorem dX5_once_88 : decode cX5_once 88 = .ok (.aload_n 0, 1) := by decide +kernel
theorem dX5_once_89 : decode cX5_once 89 = .ok (.iload_n 1, 1) := by decide +kernel
theorem dX5_once_90 : decode cX5_once 90 = .ok (.bipush 10, 2) := by decide +kernel
theorem dX5_once_92 : decode cX5_once 92 = .ok (.iload_n 2, 1) := by decide +kernel
theorem dX5_once_93 : decode cX5_once 93 = .ok (.iadd, 1) := by decide +kernel
theorem dX5_once_94 : decode cX5_once 94 = .ok (.iload_n 3, 1) := by decide +kernel
theorem dX5_once_95 : decode cX5_once 95 = .ok (.iload 4, 2) := by decide +kernel
theorem dX5_once_97 : decode cX5_once 97 = .ok (.invokevirtual 138, 3) := by decide +kernel
theorem dX5_once_100 : decode cX5_once 100 = .ok (.goto 4, 3) := by decide +kernel
theorem dX5_once_103 : decode cX5_once 103 = .ok (.iconst 0, 1) := by decide +kernel
theorem dX5_once_104 : decode cX5_once 104 = .ok (.ireturn, 1) := by decide +kernel
theorem dX5_tells_0 : decode cX5_tells 0 = .ok (.aload_n 0, 1) := by decide +kernel
theorem dX5_tells_1 : decode cX5_tells 1 = .ok (.aload_n 0, 1) := by decide +kernel
theorem dX5_tells_2 : decode cX5_tells 2 = .ok (.iload_n 1, 1) := by decide +kernel
theorem dX5_tells_3 : decode cX5_tells 3 = .ok (.invokevirtual 135, 3) := by decide +kernel
theorem dX5_tells_6 : decode cX5_tells 6 = .ok (.iload_n 2, 1) := by decide +kernel
theorem dX5_tells_7 : decode cX5_tells 7 = .ok (.iconst 0, 1) := by decide +kernel
theorem dX5_tells_8 : decode cX5_tells 8 = .ok (.ldc 142, 2) := by decide +kernel
theorem dX5_tells_10 : decode cX5_tells 10 = .ok (.invokestatic 75, 3) := by decide +kernel
theorem dX5_tells_13 : decode cX5_tells 13 = .ok (.iconst 1, 1) := by decide +kernel
theorem dX5_tells_14 : decode cX5_tells 14 = .ok (.invokevirtual 80, 3) := by decide +kernel
theorem dX5_tells_17 : decode cX5_tells 17 = .ok (.ifCond .eq 12, 3) := by decide +kernel
theorem dX5_tells_20 : decode cX5_tells 20 = .ok (.aload_n 0, 1) := by decide +kernel
theorem dX5_tells_21 : decode cX5_tells 21 = .ok (.iload_n 1, 1) := by decide +kernel
theorem dX5_tells_22 : decode cX5_tells 22 = .ok (.iload_n 2, 1) := by decide +kernel
theorem dX5_tells_23 : decode cX5_tells 23 = .ok (.invokevirtual 127, 3) := by decide +kernel
theorem dX5_tells_26 : decode cX5_tells 26 = .ok (.goto 4, 3) := by decide +kernel
theorem dX5_tells_29 : decode cX5_tells 29 = .ok (.iconst 0, 1) := by decide +kernel
theorem dX5_tells_30 : decode cX5_tells 30 = .ok (.ireturn, 1) := by decide +kernel
theorem dX5_minutes_0 : decode cX5_minutes 0 = .ok (.aload_n 0, 1) := by decide +kernel
theorem dX5_minutes_1 : decode cX5_minutes 1 = .ok (.dup, 1) := by decide +kernel
theorem dX5_minutes_2 : decode cX5_minutes 2 = .ok (.getfield 101, 3) := by decide +kernel
theorem dX5_minutes_5 : decode cX5_minutes 5 = .ok (.iconst 1, 1) := by decide +kernel
theorem dX5_minutes_6 : decode cX5_minutes 6 = .ok (.iadd, 1) := by decide +kernel
theorem dX5_minutes_7 : decode cX5_minutes 7 = .ok (.putfield 101, 3) := by decide +kernel
theorem dX5_minutes_10 : decode cX5_minutes 10 = .ok (.iconst 0, 1) := by decide +kernel
theorem dX5_minutes_11 : decode cX5_minutes 11 = .ok (.istore_n 1, 1) := by decide +kernel
theorem dX5_minutes_12 : decode cX5_minutes 12 = .ok (.iload_n 1, 1) := by decide +kernel
theorem dX5_minutes_13 : decode cX5_minutes 13 = .ok (.aload_n 0, 1) := by decide +kernel
theorem dX5_minutes_14 : decode cX5_minutes 14 = .ok (.getfield 72, 3) := by decide +kernel
theorem dX5_minutes_17 : decode cX5_minutes 17 = .ok (.if_icmp .ge 38, 3) := by decide +kernel
theorem dX5_minutes_20 : decode cX5_minutes 20 = .ok (.aload_n 0, 1) := by decide +kernel
theorem dX5_minutes_21 : decode cX5_minutes 21 = .ok (.getfield 20, 3) := by decide +kernel
theorem dX5_minutes_24 : decode cX5_minutes 24 = .ok (.iload_n 1, 1) := by decide +kernel
theorem dX5_minutes_25 : decode cX5_minutes 25 = .ok (.iaload, 1) := by decide +kernel
theorem dX5_minutes_26 : decode cX5_minutes 26 = .ok (.aload_n 0, 1) := by decide +kernel
theorem dX5_minutes_27 : decode cX5_minutes 27 = .ok (.getfield 101, 3) := by decide +kernel
theorem dX5_minutes_30 : decode cX5_minutes 30 = .ok (.if_icmp .ne 19, 3) := by decide +kernel
theorem dX5_minutes_33 : decode cX5_minutes 33 = .ok (.aload_n 0, 1) := by decide +kernel
theorem dX5_minutes_34 : decode cX5_minutes 34 = .ok (.getfield 20, 3) := by decide +kernel
theorem dX5_minutes_37 : decode cX5_minutes 37 = .ok (.iload_n 1, 1) := by decide +kernel
theorem dX5_minutes_38 : decode cX5_minutes 38 = .ok (.iconst 0, 1) := by decide +kernel
theorem dX5_minutes_39 : decode cX5_minutes 39 = .ok (.iastore, 1) := by decide +kernel
theorem dX5_minutes_40 : decode cX5_minutes 40 = .ok (.aload_n 0, 1) := by decide +kernel
theorem dX5_minutes_41 : decode cX5_minutes 41 = .ok (.iload_n 1, 1) := by decide +kernel
theorem dX5_minutes_42 : decode cX5_minutes 42 = .ok (.bipush 6, 2) := by decide +kernel
theorem dX5_minutes_44 : decode cX5_minutes 44 = .ok (.ldc 79, 2) := by decide +kernel
theorem dX5_minutes_46 : decode cX5_minutes 46 = .ok (.invokevirtual 116, 3) := by decide +kernel
theorem dX5_minutes_49 : decode cX5_minutes 49 = .ok (.iinc 1 1, 3) := by decide +kernel
theorem dX5_minutes_52 : decode cX5_minutes 52 = .ok (.goto (-40), 3) := by decide +kernel
theorem dX5_minutes_55 : decode cX5_minutes 55 = .ok (.iconst 0, 1) := by decide +kernel
theorem dX5_minutes_56 : decode cX5_minutes 56 = .ok (.istore_n 1, 1) := by decide +kernel
theorem dX5_minutes_57 : decode cX5_minutes 57 = .ok (.iload_n 1, 1) := by decide +kernel
theorem dX5_minutes_58 : decode cX5_minutes 58 = .ok (.aload_n 0, 1) := by decide +kernel
theorem dX5_minutes_59 : decode cX5_minutes 59 = .ok (.getfield 92, 3) := by decide +kernel
theorem dX5_minutes_62 : decode cX5_minutes 62 = .ok (.if_icmp .ge 42, 3) := by decide +kernel
theorem dX5_minutes_65 : decode cX5_minutes 65 = .ok (.aload_n 0, 1) := by decide +kernel
theorem dX5_minutes_66 : decode cX5_minutes 66 = .ok (.getfield 38, 3) := by decide +kernel
theorem dX5_minutes_69 : decode cX5_minutes 69 = .ok (.iload_n 1, 1) := by decide +kernel
theorem dX5_minutes_70 : decode cX5_minutes 70 = .ok (.aload_n 0, 1) := by decide +kernel
theorem dX5_minutes_71 : decode cX5_minutes 71 = .ok (.getfield 38, 3) := by decide +kernel
theorem dX5_minutes_74 : decode cX5_minutes 74 = .ok (.iload_n 1, 1) := by decide +kernel
theorem dX5_minutes_75 : decode cX5_minutes 75 = .ok (.baload, 1) := by decide +kernel
theorem dX5_minutes_76 : decode cX5_minutes 76 = .ok (.ifCond .ne 16, 3) := by decide +kernel
theorem dX5_minutes_79 : decode cX5_minutes 79 = .ok (.aload_n 0, 1) := by decide +kernel
theorem dX5_minutes_80 : decode cX5_minutes 80 = .ok (.getfield 35, 3) := by decide +kernel
theorem dX5_minutes_83 : decode cX5_minutes 83 = .ok (.iload_n 1, 1) := by decide +kernel
theorem dX5_minutes_84 : decode cX5_minutes 84 = .ok (.iaload, 1) := by decide +kernel
theorem dX5_minutes_85 : decode cX5_minutes 85 = .ok (.aload_n 0, 1) := by decide +kernel
theorem dX5_minutes_86 : decode cX5_minutes 86 = .ok (.getfield 101, 3) := by decide +kernel
theorem dX5_minutes_89 : decode cX5_minutes 89 = .ok (.if_icmp .ne 7, 3) := by decide +kernel
theorem dX5_minutes_92 : decode cX5_minutes 92 = .ok (.iconst 1, 1) := by decide +kernel
theorem dX5_minutes_93 : decode cX5_minutes 93 = .ok (.goto 4, 3) := by decide +kernel
theorem dX5_minutes_96 : decode cX5_minutes 96 = .ok (.iconst 0, 1) := by decide +kernel
theorem dX5_minutes_97 : decode cX5_minutes 97 = .ok (.bastore, 1) := by decide +kernel
theorem dX5_minutes_98 : decode cX5_minutes 98 = .ok (.iinc 1 1, 3) := by decide +kernel
theorem dX5_minutes_101 : decode cX5_minutes 101 = .ok (.goto (-44), 3) := by decide +kernel
theorem dX5_minutes_104 : decode cX5_minutes 104 = .ok (.iconst 0, 1) := by decide +kernel
theorem dX5_minutes_105 : decode cX5_minutes 105 = .ok (.istore_n 1, 1) := by decide +kernel
theorem dX5_minutes_106 : decode cX5_minutes 106 = .ok (.iload_n 1, 1) := by decide +kernel
theorem dX5_minutes_107 : decode cX5_minutes 107 = .ok (.aload_n 0, 1) := by decide +kernel
theorem dX5_minutes_108 : decode cX5_minutes 108 = .ok (.getfield 124, 3) := by decide +kernel
theorem dX5_minutes_111 : decode cX5_minutes 111 = .ok (.if_icmp .ge 14, 3) := by decide +kernel
theorem dX5_minutes_114 : decode cX5_minutes 114 = .ok (.aload_n 0, 1) := by decide +kernel
theorem dX5_minutes_115 : decode cX5_minutes 115 = .ok (.iload_n 1, 1) := by decide +kernel
theorem dX5_minutes_116 : decode cX5_minutes 116 = .ok (.invokevirtual 131, 3) := by decide +kernel
theorem dX5_minutes_119 : decode cX5_minutes 119 = .ok (.iinc 1 1, 3) := by decide +kernel
theorem dX5_minutes_122 : decode cX5_minutes 122 = .ok (.goto (-16), 3) := by decide +kernel
theorem dX5_minutes_125 : decode cX5_minutes 125 = .ok (.return_, 1) := by decide +kernel
theorem dX5_pass_0 : decode cX5_pass 0 = .ok (.iload_n 1, 1) := by decide +kernel
theorem dX5_pass_1 : decode cX5_pass 1 = .ok (.iconst 1, 1) := by decide +kernel
theorem dX5_pass_2 : decode cX5_pass 2 = .ok (.sipush 5000, 3) := by decide +kernel
theorem dX5_pass_5 : decode cX5_pass 5 = .ok (.invokestatic 75, 3) := by decide +kernel
theorem dX5_pass_8 : decode cX5_pass 8 = .ok (.istore_n 2, 1) := by decide +kernel
theorem dX5_pass_9 : decode cX5_pass 9 = .ok (.aload_n 0, 1) := by decide +kernel
theorem dX5_pass_10 : decode cX5_pass 10 = .ok (.iload_n 2, 1) := by decide +kernel
theorem dX5_pass_11 : decode cX5_pass 11 = .ok (.iload_n 2, 1) := by decide +kernel
theorem dX5_pass_12 : decode cX5_pass 12 = .ok (.ifCond .eq 18, 3) := by decide +kernel
theorem dX5_pass_15 : decode cX5_pass 15 = .ok (.aload_n 0, 1) := by decide +kernel
theorem dX5_pass_16 : decode cX5_pass 16 = .ok (.getfield 101, 3) := by decide +kernel
theorem dX5_pass_19 : decode cX5_pass 19 = .ok (.iload_n 1, 1) := by decide +kernel
theorem dX5_pass_20 : decode cX5_pass 20 = .ok (.iadd, 1) := by decide +kernel
theorem dX5_pass_21 : decode cX5_pass 21 = .ok (.ldc 142, 2) := by decide +kernel
theorem dX5_pass_23 : decode cX5_pass 23 = .ok (.if_icmp .gt 7, 3) := by decide +kernel
theorem dX5_pass_26 : decode cX5_pass 26 = .ok (.iconst 1, 1) := by decide +kernel
theorem dX5_pass_27 : decode cX5_pass 27 = .ok (.goto 4, 3) := by decide +kernel
theorem dX5_pass_30 : decode cX5_pass 30 = .ok (.iconst 0, 1) := by decide +kernel
theorem dX5_pass_31 : decode cX5_pass 31 = .ok (.iconst 1, 1) := by decide +kernel
theorem dX5_pass_32 : decode cX5_pass 32 = .ok (.invokevirtual 80, 3) := by decide +kernel
theorem dX5_pass_35 : decode cX5_pass 35 = .ok (.ifCond .ne 5, 3) := by decide +kernel
theorem dX5_pass_38 : decode cX5_pass 38 = .ok (.iconst 0, 1) := by decide +kernel
theorem dX5_pass_39 : decode cX5_pass 39 = .ok (.ireturn, 1) := by decide +kernel
theorem dX5_pass_40 : decode cX5_pass 40 = .ok (.aload_n 0, 1) := by decide +kernel
theorem dX5_pass_41 : decode cX5_pass 41 = .ok (.iconst 0, 1) := by decide +kernel
theorem dX5_pass_42 : decode cX5_pass 42 = .ok (.putfield 95, 3) := by decide +kernel
theorem dX5_pass_45 : decode cX5_pass 45 = .ok (.iconst 0, 1) := by decide +kernel
theorem dX5_pass_46 : decode cX5_pass 46 = .ok (.istore_n 3, 1) := by decide +kernel
theorem dX5_pass_47 : decode cX5_pass 47 = .ok (.iload_n 3, 1) := by decide +kernel
theorem dX5_pass_48 : decode cX5_pass 48 = .ok (.iload_n 1, 1) := by decide +kernel
theorem dX5_pass_49 : decode cX5_pass 49 = .ok (.if_icmp .ge 13, 3) := by decide +kernel
theorem dX5_pass_52 : decode cX5_pass 52 = .ok (.aload_n 0, 1) := by decide +kernel
theorem dX5_pass_53 : decode cX5_pass 53 = .ok (.invokevirtual 143, 3) := by decide +kernel
theorem dX5_pass_56 : decode cX5_pass 56 = .ok (.iinc 3 1, 3) := by decide +kernel
theorem dX5_pass_59 : decode cX5_pass 59 = .ok (.goto (-12), 3) := by decide +kernel
theorem dX5_pass_62 : decode cX5_pass 62 = .ok (.aload_n 0, 1) := by decide +kernel
theorem dX5_pass_63 : decode cX5_pass 63 = .ok (.getfield 95, 3) := by decide +kernel
theorem dX5_pass_66 : decode cX5_pass 66 = .ok (.ireturn, 1) := by decide +kernel
theorem dX5_clock_0 : decode cX5_clock 0 = .ok (.aload_n 0, 1) := by decide +kernel
theorem dX5_clock_1 : decode cX5_clock 1 = .ok (.iconst 0, 1) := by decide +kernel
theorem dX5_clock_2 : decode cX5_clock 2 = .ok (.putfield 68, 3) := by decide +kernel
theorem dX5_clock_5 : decode cX5_clock 5 = .ok (.aload_n 0, 1) := by decide +kernel
theorem dX5_clock_6 : decode cX5_clock 6 = .ok (.getfield 101, 3) := by decide +kernel
theorem dX5_clock_9 : decode cX5_clock 9 = .ok (.ireturn, 1) := by decide +kernel
theorem dL_addMeasure_0 : decode cL_addMeasure 0 = .ok (.aload_n 2, 1) := by decide +kernel
theorem dL_addMeasure_1 : decode cL_addMeasure 1 = .ok (.iconst 0, 1) := by decide +kernel
theorem dL_addMeasure_2 : decode cL_addMeasure 2 = .ok (.aload_n 0, 1) := by decide +kernel
theorem dL_addMeasure_3 : decode cL_addMeasure 3 = .ok (.iload_n 1, 1) := by decide +kernel
theorem dL_addMeasure_4 : decode cL_addMeasure 4 = .ok (.invokevirtual 7, 3) := by decide +kernel
theorem dL_addMeasure_7 : decode cL_addMeasure 7 = .ok (.i2l, 1) := by decide +kernel
theorem dL_addMeasure_8 : decode cL_addMeasure 8 = .ok (.lastore, 1) := by decide +kernel
theorem dL_addMeasure_9 : decode cL_addMeasure 9 = .ok (.goto 9, 3) := by decide +kernel
theorem dL_addMeasure_12 : decode cL_addMeasure 12 = .ok (.astore_n 3, 1) := by decide +kernel
theorem dL_addMeasure_13 : decode cL_addMeasure 13 = .ok (.iconst 1, 1) := by decide +kernel
theorem dL_addMeasure_14 : decode cL_addMeasure 14 = .ok (.ireturn, 1) := by decide +kernel
theorem dL_addMeasure_15 : decode cL_addMeasure 15 = .ok (.astore_n 3, 1) := by decide +kernel
theorem dL_addMeasure_16 : decode cL_addMeasure 16 = .ok (.iconst 2, 1) := by decide +kernel
theorem dL_addMeasure_17 : decode cL_addMeasure 17 = .ok (.ireturn, 1) := by decide +kernel
theorem dL_addMeasure_18 : decode cL_addMeasure 18 = .ok (.iconst 0, 1) := by decide +kernel
theorem dL_addMeasure_19 : decode cL_addMeasure 19 = .ok (.ireturn, 1) := by decide +kernel
theorem dL_addSwitch_0 : decode cL_addSwitch 0 = .ok (.aload_n 3, 1) := by decide +kernel
theorem dL_addSwitch_1 : decode cL_addSwitch 1 = .ok (.iconst 0, 1) := by decide +kernel
theorem dL_addSwitch_2 : decode cL_addSwitch 2 = .ok (.aload_n 0, 1) := by decide +kernel
theorem dL_addSwitch_3 : decode cL_addSwitch 3 = .ok (.iload_n 1, 1) := by decide +kernel
theorem dL_addSwitch_4 : decode cL_addSwitch 4 = .ok (.iload_n 2, 1) := by decide +kernel
theorem dL_addSwitch_5 : decode cL_addSwitch 5 = .ok (.invokevirtual 17, 3) := by decide +kernel
theorem dL_addSwitch_8 : decode cL_addSwitch 8 = .ok (.i2l, 1) := by decide +kernel
theorem dL_addSwitch_9 : decode cL_addSwitch 9 = .ok (.lastore, 1) := by decide +kernel
theorem dL_addSwitch_10 : decode cL_addSwitch 10 = .ok (.goto 11, 3) := by decide +kernel
theorem dL_addSwitch_13 : decode cL_addSwitch 13 = .ok (.astore 4, 2) := by decide +kernel
theorem dL_addSwitch_15 : decode cL_addSwitch 15 = .ok (.iconst 1, 1) := by decide +kernel
theorem dL_addSwitch_16 : decode cL_addSwitch 16 = .ok (.ireturn, 1) := by decide +kernel
theorem dL_addSwitch_17 : decode cL_addSwitch 17 = .ok (.astore 4, 2) := by decide +kernel
theorem dL_addSwitch_19 : decode cL_addSwitch 19 = .ok (.iconst 2, 1) := by decide +kernel
theorem dL_addSwitch_20 : decode cL_addSwitch 20 = .ok (.ireturn, 1) := by decide +kernel
theorem dL_addSwitch_21 : decode cL_addSwitch 21 = .ok (.iconst 0, 1) := by decide +kernel
theorem dL_addSwitch_22 : decode cL_addSwitch 22 = .ok (.ireturn, 1) := by decide +kernel
theorem dL_write_0 : decode cL_write 0 = .ok (.aload 4, 2) := by decide +kernel
theorem dL_write_2 : decode cL_write 2 = .ok (.iconst 0, 1) := by decide +kernel
theorem dL_write_3 : decode cL_write 3 = .ok (.aload_n 0, 1) := by decide +kernel
theorem dL_write_4 : decode cL_write 4 = .ok (.iload_n 1, 1) := by decide +kernel
theorem dL_write_5 : decode cL_write 5 = .ok (.iload_n 2, 1) := by decide +kernel
theorem dL_write_6 : decode cL_write 6 = .ok (.iload_n 3, 1) := by decide +kernel
theorem dL_write_7 : decode cL_write 7 = .ok (.invokevirtual 21, 3) := by decide +kernel
theorem dL_write_10 : decode cL_write 10 = .ok (.i2l, 1) := by decide +kernel
theorem dL_write_11 : decode cL_write 11 = .ok (.lastore, 1) := by decide +kernel
theorem dL_write_12 : decode cL_write 12 = .ok (.goto 15, 3) := by decide +kernel
theorem dL_write_15 : decode cL_write 15 = .ok (.astore 5, 2) := by decide +kernel
theorem dL_write_17 : decode cL_write 17 = .ok (.iconst 1, 1) := by decide +kernel
theorem dL_write_18 : decode cL_write 18 = .ok (.ireturn, 1) := by decide +kernel
theorem dL_write_19 : decode cL_write 19 = .ok (.astore 5, 2) := by decide +kernel
theorem dL_write_21 : decode cL_write 21 = .ok (.iconst 2, 1) := by decide +kernel
theorem dL_write_22 : decode cL_write 22 = .ok (.ireturn, 1) := by decide +kernel
theorem dL_write_23 : decode cL_write 23 = .ok (.astore 5, 2) := by decide +kernel
theorem dL_write_25 : decode cL_write 25 = .ok (.iconst 3, 1) := by decide +kernel
theorem dL_write_26 : decode cL_write 26 = .ok (.ireturn, 1) := by decide +kernel
theorem dL_write_27 : decode cL_write 27 = .ok (.iconst 0, 1) := by decide +kernel
theorem dL_write_28 : decode cL_write 28 = .ok (.ireturn, 1) := by decide +kernel
theorem dL_value_0 : decode cL_value 0 = .ok (.aload_n 2, 1) := by decide +kernel
theorem dL_value_1 : decode cL_value 1 = .ok (.iconst 0, 1) := by decide +kernel
theorem dL_value_2 : decode cL_value 2 = .ok (.aload_n 0, 1) := by decide +kernel
theorem dL_value_3 : decode cL_value 3 = .ok (.iload_n 1, 1) := by decide +kernel
theorem dL_value_4 : decode cL_value 4 = .ok (.invokevirtual 27, 3) := by decide +kernel
theorem dL_value_7 : decode cL_value 7 = .ok (.i2l, 1) := by decide +kernel
theorem dL_value_8 : decode cL_value 8 = .ok (.lastore, 1) := by decide +kernel
theorem dL_value_9 : decode cL_value 9 = .ok (.goto 6, 3) := by decide +kernel
theorem dL_value_12 : decode cL_value 12 = .ok (.astore_n 3, 1) := by decide +kernel
theorem dL_value_13 : decode cL_value 13 = .ok (.iconst 1, 1) := by decide +kernel
theorem dL_value_14 : decode cL_value 14 = .ok (.ireturn, 1) := by decide +kernel
theorem dL_value_15 : decode cL_value 15 = .ok (.iconst 0, 1) := by decide +kernel
theorem dL_value_16 : decode cL_value 16 = .ok (.ireturn, 1) := by decide +kernel
theorem dL_command_0 : decode cL_command 0 = .ok (.aload_n 3, 1) := by decide +kernel
theorem dL_command_1 : decode cL_command 1 = .ok (.iconst 0, 1) := by decide +kernel
theorem dL_command_2 : decode cL_command 2 = .ok (.aload_n 0, 1) := by decide +kernel
theorem dL_command_3 : decode cL_command 3 = .ok (.iload_n 1, 1) := by decide +kernel
theorem dL_command_4 : decode cL_command 4 = .ok (.iload_n 2, 1) := by decide +kernel
theorem dL_command_5 : decode cL_command 5 = .ok (.invokevirtual 30, 3) := by decide +kernel
theorem dL_command_8 : decode cL_command 8 = .ok (.i2l, 1) := by decide +kernel
theorem dL_command_9 : decode cL_command 9 = .ok (.lastore, 1) := by decide +kernel
theorem dL_command_10 : decode cL_command 10 = .ok (.goto 11, 3) := by decide +kernel
theorem dL_command_13 : decode cL_command 13 = .ok (.astore 4, 2) := by decide +kernel
theorem dL_command_15 : decode cL_command 15 = .ok (.iconst 1, 1) := by decide +kernel
theorem dL_command_16 : decode cL_command 16 = .ok (.ireturn, 1) := by decide +kernel
theorem dL_command_17 : decode cL_command 17 = .ok (.astore 4, 2) := by decide +kernel
theorem dL_command_19 : decode cL_command 19 = .ok (.iconst 2, 1) := by decide +kernel
theorem dL_command_20 : decode cL_command 20 = .ok (.ireturn, 1) := by decide +kernel
theorem dL_command_21 : decode cL_command 21 = .ok (.iconst 0, 1) := by decide +kernel
theorem dL_command_22 : decode cL_command 22 = .ok (.ireturn, 1) := by decide +kernel
theorem dL_standing_0 : decode cL_standing 0 = .ok (.aload_n 2, 1) := by decide +kernel
theorem dL_standing_1 : decode cL_standing 1 = .ok (.iconst 0, 1) := by decide +kernel
theorem dL_standing_2 : decode cL_standing 2 = .ok (.aload_n 0, 1) := by decide +kernel
theorem dL_standing_3 : decode cL_standing 3 = .ok (.iload_n 1, 1) := by decide +kernel
theorem dL_standing_4 : decode cL_standing 4 = .ok (.invokevirtual 33, 3) := by decide +kernel
theorem dL_standing_7 : decode cL_standing 7 = .ok (.i2l, 1) := by decide +kernel
theorem dL_standing_8 : decode cL_standing 8 = .ok (.lastore, 1) := by decide +kernel
theorem dL_standing_9 : decode cL_standing 9 = .ok (.goto 6, 3) := by decide +kernel
theorem dL_standing_12 : decode cL_standing 12 = .ok (.astore_n 3, 1) := by decide +kernel
theorem dL_standing_13 : decode cL_standing 13 = .ok (.iconst 1, 1) := by decide +kernel
theorem dL_standing_14 : decode cL_standing 14 = .ok (.ireturn, 1) := by decide +kernel
theorem dL_standing_15 : decode cL_standing 15 = .ok (.iconst 0, 1) := by decide +kernel
theorem dL_standing_16 : decode cL_standing 16 = .ok (.ireturn, 1) := by decide +kernel
theorem dL_held_0 : decode cL_held 0 = .ok (.aload_n 2, 1) := by decide +kernel
theorem dL_held_1 : decode cL_held 1 = .ok (.iconst 0, 1) := by decide +kernel
theorem dL_held_2 : decode cL_held 2 = .ok (.aload_n 0, 1) := by decide +kernel
theorem dL_held_3 : decode cL_held 3 = .ok (.iload_n 1, 1) := by decide +kernel
theorem dL_held_4 : decode cL_held 4 = .ok (.invokevirtual 36, 3) := by decide +kernel
theorem dL_held_7 : decode cL_held 7 = .ok (.i2l, 1) := by decide +kernel
theorem dL_held_8 : decode cL_held 8 = .ok (.lastore, 1) := by decide +kernel
theorem dL_held_9 : decode cL_held 9 = .ok (.goto 6, 3) := by decide +kernel
theorem dL_held_12 : decode cL_held 12 = .ok (.astore_n 3, 1) := by decide +kernel
theorem dL_held_13 : decode cL_held 13 = .ok (.iconst 1, 1) := by decide +kernel
theorem dL_held_14 : decode cL_held 14 = .ok (.ireturn, 1) := by decide +kernel
theorem dL_held_15 : decode cL_held 15 = .ok (.iconst 0, 1) := by decide +kernel
theorem dL_held_16 : decode cL_held 16 = .ok (.ireturn, 1) := by decide +kernel
theorem dL_changes_0 : decode cL_changes 0 = .ok (.aload_n 2, 1) := by decide +kernel
theorem dL_changes_1 : decode cL_changes 1 = .ok (.iconst 0, 1) := by decide +kernel
theorem dL_changes_2 : decode cL_changes 2 = .ok (.aload_n 0, 1) := by decide +kernel
theorem dL_changes_3 : decode cL_changes 3 = .ok (.iload_n 1, 1) := by decide +kernel
theorem dL_changes_4 : decode cL_changes 4 = .ok (.invokevirtual 39, 3) := by decide +kernel
theorem dL_changes_7 : decode cL_changes 7 = .ok (.i2l, 1) := by decide +kernel
theorem dL_changes_8 : decode cL_changes 8 = .ok (.lastore, 1) := by decide +kernel
theorem dL_changes_9 : decode cL_changes 9 = .ok (.goto 6, 3) := by decide +kernel
theorem dL_changes_12 : decode cL_changes 12 = .ok (.astore_n 3, 1) := by decide +kernel
theorem dL_changes_13 : decode cL_changes 13 = .ok (.iconst 1, 1) := by decide +kernel
theorem dL_changes_14 : decode cL_changes 14 = .ok (.ireturn, 1) := by decide +kernel
theorem dL_changes_15 : decode cL_changes 15 = .ok (.iconst 0, 1) := by decide +kernel
theorem dL_changes_16 : decode cL_changes 16 = .ok (.ireturn, 1) := by decide +kernel
theorem dL_subscribe_0 : decode cL_subscribe 0 = .ok (.aload 4, 2) := by decide +kernel
theorem dL_subscribe_2 : decode cL_subscribe 2 = .ok (.iconst 0, 1) := by decide +kernel
theorem dL_subscribe_3 : decode cL_subscribe 3 = .ok (.aload_n 0, 1) := by decide +kernel
theorem dL_subscribe_4 : decode cL_subscribe 4 = .ok (.iload_n 1, 1) := by decide +kernel
theorem dL_subscribe_5 : decode cL_subscribe 5 = .ok (.iload_n 2, 1) := by decide +kernel
theorem dL_subscribe_6 : decode cL_subscribe 6 = .ok (.iload_n 3, 1) := by decide +kernel
theorem dL_subscribe_7 : decode cL_subscribe 7 = .ok (.invokevirtual 42, 3) := by decide +kernel
theorem dL_subscribe_10 : decode cL_subscribe 10 = .ok (.i2l, 1) := by decide +kernel
theorem dL_subscribe_11 : decode cL_subscribe 11 = .ok (.lastore, 1) := by decide +kernel
theorem dL_subscribe_12 : decode cL_subscribe 12 = .ok (.goto 15, 3) := by decide +kernel
theorem dL_subscribe_15 : decode cL_subscribe 15 = .ok (.astore 5, 2) := by decide +kernel
theorem dL_subscribe_17 : decode cL_subscribe 17 = .ok (.iconst 1, 1) := by decide +kernel
theorem dL_subscribe_18 : decode cL_subscribe 18 = .ok (.ireturn, 1) := by decide +kernel
theorem dL_subscribe_19 : decode cL_subscribe 19 = .ok (.astore 5, 2) := by decide +kernel
theorem dL_subscribe_21 : decode cL_subscribe 21 = .ok (.iconst 2, 1) := by decide +kernel
theorem dL_subscribe_22 : decode cL_subscribe 22 = .ok (.ireturn, 1) := by decide +kernel
theorem dL_subscribe_23 : decode cL_subscribe 23 = .ok (.astore 5, 2) := by decide +kernel
theorem dL_subscribe_25 : decode cL_subscribe 25 = .ok (.iconst 3, 1) := by decide +kernel
theorem dL_subscribe_26 : decode cL_subscribe 26 = .ok (.ireturn, 1) := by decide +kernel
theorem dL_subscribe_27 : decode cL_subscribe 27 = .ok (.iconst 0, 1) := by decide +kernel
theorem dL_subscribe_28 : decode cL_subscribe 28 = .ok (.ireturn, 1) := by decide +kernel
theorem dL_end_0 : decode cL_end 0 = .ok (.aload_n 0, 1) := by decide +kernel
theorem dL_end_1 : decode cL_end 1 = .ok (.iload_n 1, 1) := by decide +kernel
theorem dL_end_2 : decode cL_end 2 = .ok (.invokevirtual 45, 3) := by decide +kernel
theorem dL_end_5 : decode cL_end 5 = .ok (.goto 9, 3) := by decide +kernel
theorem dL_end_8 : decode cL_end 8 = .ok (.astore_n 2, 1) := by decide +kernel
theorem dL_end_9 : decode cL_end 9 = .ok (.iconst 1, 1) := by decide +kernel
theorem dL_end_10 : decode cL_end 10 = .ok (.ireturn, 1) := by decide +kernel
theorem dL_end_11 : decode cL_end 11 = .ok (.astore_n 2, 1) := by decide +kernel
theorem dL_end_12 : decode cL_end 12 = .ok (.iconst 2, 1) := by decide +kernel
theorem dL_end_13 : decode cL_end 13 = .ok (.ireturn, 1) := by decide +kernel
theorem dL_end_14 : decode cL_end 14 = .ok (.iconst 0, 1) := by decide +kernel
theorem dL_end_15 : decode cL_end 15 = .ok (.ireturn, 1) := by decide +kernel
theorem dL_goesOn_0 : decode cL_goesOn 0 = .ok (.aload_n 2, 1) := by decide +kernel
theorem dL_goesOn_1 : decode cL_goesOn 1 = .ok (.iconst 0, 1) := by decide +kernel
theorem dL_goesOn_2 : decode cL_goesOn 2 = .ok (.aload_n 0, 1) := by decide +kernel
theorem dL_goesOn_3 : decode cL_goesOn 3 = .ok (.iload_n 1, 1) := by decide +kernel
theorem dL_goesOn_4 : decode cL_goesOn 4 = .ok (.invokevirtual 49, 3) := by decide +kernel
theorem dL_goesOn_7 : decode cL_goesOn 7 = .ok (.ifCond .eq 7, 3) := by decide +kernel
theorem dL_goesOn_10 : decode cL_goesOn 10 = .ok (.lconst 1, 1) := by decide +kernel
theorem dL_goesOn_11 : decode cL_goesOn 11 = .ok (.goto 4, 3) := by decide +kernel
theorem dL_goesOn_14 : decode cL_goesOn 14 = .ok (.lconst 0, 1) := by decide +kernel
theorem dL_goesOn_15 : decode cL_goesOn 15 = .ok (.lastore, 1) := by decide +kernel
theorem dL_goesOn_16 : decode cL_goesOn 16 = .ok (.goto 6, 3) := by decide +kernel
theorem dL_goesOn_19 : decode cL_goesOn 19 = .ok (.astore_n 3, 1) := by decide +kernel
theorem dL_goesOn_20 : decode cL_goesOn 20 = .ok (.iconst 1, 1) := by decide +kernel
theorem dL_goesOn_21 : decode cL_goesOn 21 = .ok (.ireturn, 1) := by decide +kernel
theorem dL_goesOn_22 : decode cL_goesOn 22 = .ok (.iconst 0, 1) := by decide +kernel
theorem dL_goesOn_23 : decode cL_goesOn 23 = .ok (.ireturn, 1) := by decide +kernel
theorem dL_reports_0 : decode cL_reports 0 = .ok (.aload_n 2, 1) := by decide +kernel
theorem dL_reports_1 : decode cL_reports 1 = .ok (.iconst 0, 1) := by decide +kernel
theorem dL_reports_2 : decode cL_reports 2 = .ok (.aload_n 0, 1) := by decide +kernel
theorem dL_reports_3 : decode cL_reports 3 = .ok (.iload_n 1, 1) := by decide +kernel
theorem dL_reports_4 : decode cL_reports 4 = .ok (.invokevirtual 53, 3) := by decide +kernel
theorem dL_reports_7 : decode cL_reports 7 = .ok (.i2l, 1) := by decide +kernel
theorem dL_reports_8 : decode cL_reports 8 = .ok (.lastore, 1) := by decide +kernel
theorem dL_reports_9 : decode cL_reports 9 = .ok (.goto 6, 3) := by decide +kernel
theorem dL_reports_12 : decode cL_reports 12 = .ok (.astore_n 3, 1) := by decide +kernel
theorem dL_reports_13 : decode cL_reports 13 = .ok (.iconst 1, 1) := by decide +kernel
theorem dL_reports_14 : decode cL_reports 14 = .ok (.ireturn, 1) := by decide +kernel
theorem dL_reports_15 : decode cL_reports 15 = .ok (.iconst 0, 1) := by decide +kernel
theorem dL_reports_16 : decode cL_reports 16 = .ok (.ireturn, 1) := by decide +kernel
theorem dL_reported_0 : decode cL_reported 0 = .ok (.aload_n 2, 1) := by decide +kernel
theorem dL_reported_1 : decode cL_reported 1 = .ok (.iconst 0, 1) := by decide +kernel
theorem dL_reported_2 : decode cL_reported 2 = .ok (.aload_n 0, 1) := by decide +kernel
theorem dL_reported_3 : decode cL_reported 3 = .ok (.iload_n 1, 1) := by decide +kernel
theorem dL_reported_4 : decode cL_reported 4 = .ok (.invokevirtual 56, 3) := by decide +kernel
theorem dL_reported_7 : decode cL_reported 7 = .ok (.i2l, 1) := by decide +kernel
theorem dL_reported_8 : decode cL_reported 8 = .ok (.lastore, 1) := by decide +kernel
theorem dL_reported_9 : decode cL_reported 9 = .ok (.goto 6, 3) := by decide +kernel
theorem dL_reported_12 : decode cL_reported 12 = .ok (.astore_n 3, 1) := by decide +kernel
theorem dL_reported_13 : decode cL_reported 13 = .ok (.iconst 1, 1) := by decide +kernel
theorem dL_reported_14 : decode cL_reported 14 = .ok (.ireturn, 1) := by decide +kernel
theorem dL_reported_15 : decode cL_reported 15 = .ok (.iconst 0, 1) := by decide +kernel
theorem dL_reported_16 : decode cL_reported 16 = .ok (.ireturn, 1) := by decide +kernel
theorem dL_addSchedule_0 : decode cL_addSchedule 0 = .ok (.aload_n 3, 1) := by decide +kernel
theorem dL_addSchedule_1 : decode cL_addSchedule 1 = .ok (.iconst 0, 1) := by decide +kernel
theorem dL_addSchedule_2 : decode cL_addSchedule 2 = .ok (.aload_n 0, 1) := by decide +kernel
theorem dL_addSchedule_3 : decode cL_addSchedule 3 = .ok (.iload_n 1, 1) := by decide +kernel
theorem dL_addSchedule_4 : decode cL_addSchedule 4 = .ok (.iload_n 2, 1) := by decide +kernel
theorem dL_addSchedule_5 : decode cL_addSchedule 5 = .ok (.invokevirtual 59, 3) := by decide +kernel
theorem dL_addSchedule_8 : decode cL_addSchedule 8 = .ok (.i2l, 1) := by decide +kernel
theorem dL_addSchedule_9 : decode cL_addSchedule 9 = .ok (.lastore, 1) := by decide +kernel
theorem dL_addSchedule_10 : decode cL_addSchedule 10 = .ok (.goto 15, 3) := by decide +kernel
theorem dL_addSchedule_13 : decode cL_addSchedule 13 = .ok (.astore 4, 2) := by decide +kernel
theorem dL_addSchedule_15 : decode cL_addSchedule 15 = .ok (.iconst 1, 1) := by decide +kernel
theorem dL_addSchedule_16 : decode cL_addSchedule 16 = .ok (.ireturn, 1) := by decide +kernel
theorem dL_addSchedule_17 : decode cL_addSchedule 17 = .ok (.astore 4, 2) := by decide +kernel
theorem dL_addSchedule_19 : decode cL_addSchedule 19 = .ok (.iconst 2, 1) := by decide +kernel
theorem dL_addSchedule_20 : decode cL_addSchedule 20 = .ok (.ireturn, 1) := by decide +kernel
theorem dL_addSchedule_21 : decode cL_addSchedule 21 = .ok (.astore 4, 2) := by decide +kernel
theorem dL_addSchedule_23 : decode cL_addSchedule 23 = .ok (.iconst 3, 1) := by decide +kernel
theorem dL_addSchedule_24 : decode cL_addSchedule 24 = .ok (.ireturn, 1) := by decide +kernel
theorem dL_addSchedule_25 : decode cL_addSchedule 25 = .ok (.iconst 0, 1) := by decide +kernel
theorem dL_addSchedule_26 : decode cL_addSchedule 26 = .ok (.ireturn, 1) := by decide +kernel
theorem dL_weekly_0 : decode cL_weekly 0 = .ok (.aload 5, 2) := by decide +kernel
theorem dL_weekly_2 : decode cL_weekly 2 = .ok (.iconst 0, 1) := by decide +kernel
theorem dL_weekly_3 : decode cL_weekly 3 = .ok (.aload_n 0, 1) := by decide +kernel
theorem dL_weekly_4 : decode cL_weekly 4 = .ok (.iload_n 1, 1) := by decide +kernel
theorem dL_weekly_5 : decode cL_weekly 5 = .ok (.iload_n 2, 1) := by decide +kernel
theorem dL_weekly_6 : decode cL_weekly 6 = .ok (.iload_n 3, 1) := by decide +kernel
theorem dL_weekly_7 : decode cL_weekly 7 = .ok (.iload 4, 2) := by decide +kernel
theorem dL_weekly_9 : decode cL_weekly 9 = .ok (.invokevirtual 62, 3) := by decide +kernel
theorem dL_weekly_12 : decode cL_weekly 12 = .ok (.i2l, 1) := by decide +kernel
theorem dL_weekly_13 : decode cL_weekly 13 = .ok (.lastore, 1) := by decide +kernel
theorem dL_weekly_14 : decode cL_weekly 14 = .ok (.goto 15, 3) := by decide +kernel
theorem dL_weekly_17 : decode cL_weekly 17 = .ok (.astore 6, 2) := by decide +kernel
theorem dL_weekly_19 : decode cL_weekly 19 = .ok (.iconst 1, 1) := by decide +kernel
theorem dL_weekly_20 : decode cL_weekly 20 = .ok (.ireturn, 1) := by decide +kernel
theorem dL_weekly_21 : decode cL_weekly 21 = .ok (.astore 6, 2) := by decide +kernel
theorem dL_weekly_23 : decode cL_weekly 23 = .ok (.iconst 2, 1) := by decide +kernel
theorem dL_weekly_24 : decode cL_weekly 24 = .ok (.ireturn, 1) := by decide +kernel
theorem dL_weekly_25 : decode cL_weekly 25 = .ok (.astore 6, 2) := by decide +kernel
theorem dL_weekly_27 : decode cL_weekly 27 = .ok (.iconst 3, 1) := by decide +kernel
theorem dL_weekly_28 : decode cL_weekly 28 = .ok (.ireturn, 1) := by decide +kernel
theorem dL_weekly_29 : decode cL_weekly 29 = .ok (.iconst 0, 1) := by decide +kernel
theorem dL_weekly_30 : decode cL_weekly 30 = .ok (.ireturn, 1) := by decide +kernel
theorem dL_once_0 : decode cL_once 0 = .ok (.aload 5, 2) := by decide +kernel
theorem dL_once_2 : decode cL_once 2 = .ok (.iconst 0, 1) := by decide +kernel
theorem dL_once_3 : decode cL_once 3 = .ok (.aload_n 0, 1) := by decide +kernel
theorem dL_once_4 : decode cL_once 4 = .ok (.iload_n 1, 1) := by decide +kernel
theorem dL_once_5 : decode cL_once 5 = .ok (.iload_n 2, 1) := by decide +kernel
theorem dL_once_6 : decode cL_once 6 = .ok (.iload_n 3, 1) := by decide +kernel
theorem dL_once_7 : decode cL_once 7 = .ok (.iload 4, 2) := by decide +kernel
theorem dL_once_9 : decode cL_once 9 = .ok (.invokevirtual 66, 3) := by decide +kernel
theorem dL_once_12 : decode cL_once 12 = .ok (.i2l, 1) := by decide +kernel
theorem dL_once_13 : decode cL_once 13 = .ok (.lastore, 1) := by decide +kernel
theorem dL_once_14 : decode cL_once 14 = .ok (.goto 15, 3) := by decide +kernel
theorem dL_once_17 : decode cL_once 17 = .ok (.astore 6, 2) := by decide +kernel
theorem dL_once_19 : decode cL_once 19 = .ok (.iconst 1, 1) := by decide +kernel
theorem dL_once_20 : decode cL_once 20 = .ok (.ireturn, 1) := by decide +kernel
theorem dL_once_21 : decode cL_once 21 = .ok (.astore 6, 2) := by decide +kernel
theorem dL_once_23 : decode cL_once 23 = .ok (.iconst 2, 1) := by decide +kernel
theorem dL_once_24 : decode cL_once 24 = .ok (.ireturn, 1) := by decide +kernel
theorem dL_once_25 : decode cL_once 25 = .ok (.astore 6, 2) := by decide +kernel
theorem dL_once_27 : decode cL_once 27 = .ok (.iconst 3, 1) := by decide +kernel
theorem dL_once_28 : decode cL_once 28 = .ok (.ireturn, 1) := by decide +kernel
theorem dL_once_29 : decode cL_once 29 = .ok (.iconst 0, 1) := by decide +kernel
theorem dL_once_30 : decode cL_once 30 = .ok (.ireturn, 1) := by decide +kernel
theorem dL_tells_0 : decode cL_tells 0 = .ok (.aload_n 3, 1) := by decide +kernel
theorem dL_tells_1 : decode cL_tells 1 = .ok (.iconst 0, 1) := by decide +kernel
theorem dL_tells_2 : decode cL_tells 2 = .ok (.aload_n 0, 1) := by decide +kernel
theorem dL_tells_3 : decode cL_tells 3 = .ok (.iload_n 1, 1) := by decide +kernel
theorem dL_tells_4 : decode cL_tells 4 = .ok (.iload_n 2, 1) := by decide +kernel
theorem dL_tells_5 : decode cL_tells 5 = .ok (.invokevirtual 69, 3) := by decide +kernel
theorem dL_tells_8 : decode cL_tells 8 = .ok (.i2l, 1) := by decide +kernel
theorem dL_tells_9 : decode cL_tells 9 = .ok (.lastore, 1) := by decide +kernel
theorem dL_tells_10 : decode cL_tells 10 = .ok (.goto 11, 3) := by decide +kernel
theorem dL_tells_13 : decode cL_tells 13 = .ok (.astore 4, 2) := by decide +kernel
theorem dL_tells_15 : decode cL_tells 15 = .ok (.iconst 1, 1) := by decide +kernel
theorem dL_tells_16 : decode cL_tells 16 = .ok (.ireturn, 1) := by decide +kernel
theorem dL_tells_17 : decode cL_tells 17 = .ok (.astore 4, 2) := by decide +kernel
theorem dL_tells_19 : decode cL_tells 19 = .ok (.iconst 2, 1) := by decide +kernel
theorem dL_tells_20 : decode cL_tells 20 = .ok (.ireturn, 1) := by decide +kernel
theorem dL_tells_21 : decode cL_tells 21 = .ok (.iconst 0, 1) := by decide +kernel
theorem dL_tells_22 : decode cL_tells 22 = .ok (.ireturn, 1) := by decide +kernel
theorem dL_pass_0 : decode cL_pass 0 = .ok (.aload_n 2, 1) := by decide +kernel
theorem dL_pass_1 : decode cL_pass 1 = .ok (.iconst 0, 1) := by decide +kernel
theorem dL_pass_2 : decode cL_pass 2 = .ok (.aload_n 0, 1) := by decide +kernel
theorem dL_pass_3 : decode cL_pass 3 = .ok (.iload_n 1, 1) := by decide +kernel
theorem dL_pass_4 : decode cL_pass 4 = .ok (.invokevirtual 72, 3) := by decide +kernel
theorem dL_pass_7 : decode cL_pass 7 = .ok (.i2l, 1) := by decide +kernel
theorem dL_pass_8 : decode cL_pass 8 = .ok (.lastore, 1) := by decide +kernel
theorem dL_pass_9 : decode cL_pass 9 = .ok (.goto 9, 3) := by decide +kernel
theorem dL_pass_12 : decode cL_pass 12 = .ok (.astore_n 3, 1) := by decide +kernel
theorem dL_pass_13 : decode cL_pass 13 = .ok (.iconst 1, 1) := by decide +kernel
theorem dL_pass_14 : decode cL_pass 14 = .ok (.ireturn, 1) := by decide +kernel
theorem dL_pass_15 : decode cL_pass 15 = .ok (.astore_n 3, 1) := by decide +kernel
theorem dL_pass_16 : decode cL_pass 16 = .ok (.iconst 2, 1) := by decide +kernel
theorem dL_pass_17 : decode cL_pass 17 = .ok (.ireturn, 1) := by decide +kernel
theorem dL_pass_18 : decode cL_pass 18 = .ok (.iconst 0, 1) := by decide +kernel
theorem dL_pass_19 : decode cL_pass 19 = .ok (.ireturn, 1) := by decide +kernel
