theorem dX6_init_0 : decode cX6_init 0 = .ok (.aload_n 0, 1) := by decide +kernel
theorem dX6_init_1 : decode cX6_init 1 = .ok (.invokespecial 3, 3) := by decide +kernel
theorem dX6_init_4 : decode cX6_init 4 = .ok (.return_, 1) := by decide +kernel
theorem dX6_first_0 : decode cX6_first 0 = .ok (.aload_n 0, 1) := by decide +kernel
theorem dX6_first_1 : decode cX6_first 1 = .ok (.lload_n 1, 1) := by decide +kernel
theorem dX6_first_2 : decode cX6_first 2 = .ok (.putfield 9, 3) := by decide +kernel
theorem dX6_first_5 : decode cX6_first 5 = .ok (.aload_n 0, 1) := by decide +kernel
theorem dX6_first_6 : decode cX6_first 6 = .ok (.lload_n 3, 1) := by decide +kernel
theorem dX6_first_7 : decode cX6_first 7 = .ok (.putfield 15, 3) := by decide +kernel
theorem dX6_first_10 : decode cX6_first 10 = .ok (.return_, 1) := by decide +kernel
theorem dX6_second_0 : decode cX6_second 0 = .ok (.aload_n 0, 1) := by decide +kernel
theorem dX6_second_1 : decode cX6_second 1 = .ok (.lload_n 1, 1) := by decide +kernel
theorem dX6_second_2 : decode cX6_second 2 = .ok (.putfield 18, 3) := by decide +kernel
theorem dX6_second_5 : decode cX6_second 5 = .ok (.aload_n 0, 1) := by decide +kernel
theorem dX6_second_6 : decode cX6_second 6 = .ok (.lload_n 3, 1) := by decide +kernel
theorem dX6_second_7 : decode cX6_second 7 = .ok (.putfield 21, 3) := by decide +kernel
theorem dX6_second_10 : decode cX6_second 10 = .ok (.return_, 1) := by decide +kernel
theorem dX6_become_0 : decode cX6_become 0 = .ok (.aload_n 0, 1) := by decide +kernel
theorem dX6_become_1 : decode cX6_become 1 = .ok (.lload_n 1, 1) := by decide +kernel
theorem dX6_become_2 : decode cX6_become 2 = .ok (.putfield 24, 3) := by decide +kernel
theorem dX6_become_5 : decode cX6_become 5 = .ok (.aload_n 0, 1) := by decide +kernel
theorem dX6_become_6 : decode cX6_become 6 = .ok (.lload_n 3, 1) := by decide +kernel
theorem dX6_become_7 : decode cX6_become 7 = .ok (.putfield 27, 3) := by decide +kernel
theorem dX6_become_10 : decode cX6_become 10 = .ok (.return_, 1) := by decide +kernel
theorem dX6_turn_0 : decode cX6_turn 0 = .ok (.aload_n 0, 1) := by decide +kernel
theorem dX6_turn_1 : decode cX6_turn 1 = .ok (.getfield 9, 3) := by decide +kernel
theorem dX6_turn_4 : decode cX6_turn 4 = .ok (.aload_n 0, 1) := by decide +kernel
theorem dX6_turn_5 : decode cX6_turn 5 = .ok (.getfield 15, 3) := by decide +kernel
theorem dX6_turn_8 : decode cX6_turn 8 = .ok (.lcmp, 1) := by decide +kernel
theorem dX6_turn_9 : decode cX6_turn 9 = .ok (.ifCond .ne 22, 3) := by decide +kernel
theorem dX6_turn_12 : decode cX6_turn 12 = .ok (.aload_n 0, 1) := by decide +kernel
theorem dX6_turn_13 : decode cX6_turn 13 = .ok (.getfield 9, 3) := by decide +kernel
theorem dX6_turn_16 : decode cX6_turn 16 = .ok (.iload_n 1, 1) := by decide +kernel
theorem dX6_turn_17 : decode cX6_turn 17 = .ok (.iload_n 2, 1) := by decide +kernel
theorem dX6_turn_18 : decode cX6_turn 18 = .ok (.invokestatic 33, 3) := by decide +kernel
theorem dX6_turn_21 : decode cX6_turn 21 = .ok (.lstore_n 3, 1) := by decide +kernel
theorem dX6_turn_22 : decode cX6_turn 22 = .ok (.aload_n 0, 1) := by decide +kernel
theorem dX6_turn_23 : decode cX6_turn 23 = .ok (.lload_n 3, 1) := by decide +kernel
theorem dX6_turn_24 : decode cX6_turn 24 = .ok (.lload_n 3, 1) := by decide +kernel
theorem dX6_turn_25 : decode cX6_turn 25 = .ok (.invokevirtual 39, 3) := by decide +kernel
theorem dX6_turn_28 : decode cX6_turn 28 = .ok (.goto 25, 3) := by decide +kernel
theorem dX6_turn_31 : decode cX6_turn 31 = .ok (.aload_n 0, 1) := by decide +kernel
theorem dX6_turn_32 : decode cX6_turn 32 = .ok (.lconst 0, 1) := by decide +kernel
theorem dX6_turn_33 : decode cX6_turn 33 = .ok (.iload_n 1, 1) := by decide +kernel
theorem dX6_turn_34 : decode cX6_turn 34 = .ok (.bipush 64, 2) := by decide +kernel
theorem dX6_turn_36 : decode cX6_turn 36 = .ok (.if_icmp .ne 9, 3) := by decide +kernel
theorem dX6_turn_39 : decode cX6_turn 39 = .ok (.ldc2_w 43, 3) := by decide +kernel
theorem dX6_turn_42 : decode cX6_turn 42 = .ok (.goto 8, 3) := by decide +kernel
theorem dX6_turn_45 : decode cX6_turn 45 = .ok (.lconst 1, 1) := by decide +kernel
theorem dX6_turn_46 : decode cX6_turn 46 = .ok (.iload_n 1, 1) := by decide +kernel
theorem dX6_turn_47 : decode cX6_turn 47 = .ok (.lshl, 1) := by decide +kernel
theorem dX6_turn_48 : decode cX6_turn 48 = .ok (.lconst 1, 1) := by decide +kernel
theorem dX6_turn_49 : decode cX6_turn 49 = .ok (.lsub, 1) := by decide +kernel
theorem dX6_turn_50 : decode cX6_turn 50 = .ok (.invokevirtual 39, 3) := by decide +kernel
theorem dX6_turn_53 : decode cX6_turn 53 = .ok (.return_, 1) := by decide +kernel
theorem dX6_cutHalves_0 : decode cX6_cutHalves 0 = .ok (.aload_n 0, 1) := by decide +kernel
theorem dX6_cutHalves_1 : decode cX6_cutHalves 1 = .ok (.getfield 9, 3) := by decide +kernel
theorem dX6_cutHalves_4 : decode cX6_cutHalves 4 = .ok (.aload_n 0, 1) := by decide +kernel
theorem dX6_cutHalves_5 : decode cX6_cutHalves 5 = .ok (.getfield 15, 3) := by decide +kernel
theorem dX6_cutHalves_8 : decode cX6_cutHalves 8 = .ok (.lcmp, 1) := by decide +kernel
theorem dX6_cutHalves_9 : decode cX6_cutHalves 9 = .ok (.ifCond .ne 26, 3) := by decide +kernel
theorem dX6_cutHalves_12 : decode cX6_cutHalves 12 = .ok (.aload_n 0, 1) := by decide +kernel
theorem dX6_cutHalves_13 : decode cX6_cutHalves 13 = .ok (.aload_n 0, 1) := by decide +kernel
theorem dX6_cutHalves_14 : decode cX6_cutHalves 14 = .ok (.getfield 9, 3) := by decide +kernel
theorem dX6_cutHalves_17 : decode cX6_cutHalves 17 = .ok (.ldc2_w 45, 3) := by decide +kernel
theorem dX6_cutHalves_20 : decode cX6_cutHalves 20 = .ok (.land, 1) := by decide +kernel
theorem dX6_cutHalves_21 : decode cX6_cutHalves 21 = .ok (.aload_n 0, 1) := by decide +kernel
theorem dX6_cutHalves_22 : decode cX6_cutHalves 22 = .ok (.getfield 15, 3) := by decide +kernel
theorem dX6_cutHalves_25 : decode cX6_cutHalves 25 = .ok (.ldc2_w 45, 3) := by decide +kernel
theorem dX6_cutHalves_28 : decode cX6_cutHalves 28 = .ok (.land, 1) := by decide +kernel
theorem dX6_cutHalves_29 : decode cX6_cutHalves 29 = .ok (.invokevirtual 65, 3) := by decide +kernel
theorem dX6_cutHalves_32 : decode cX6_cutHalves 32 = .ok (.goto 24, 3) := by decide +kernel
theorem dX6_cutHalves_35 : decode cX6_cutHalves 35 = .ok (.ldc2_w 45, 3) := by decide +kernel
theorem dX6_cutHalves_38 : decode cX6_cutHalves 38 = .ok (.aload_n 0, 1) := by decide +kernel
theorem dX6_cutHalves_39 : decode cX6_cutHalves 39 = .ok (.getfield 15, 3) := by decide +kernel
theorem dX6_cutHalves_42 : decode cX6_cutHalves 42 = .ok (.invokestatic 68, 3) := by decide +kernel
theorem dX6_cutHalves_45 : decode cX6_cutHalves 45 = .ok (.ifCond .eq 11, 3) := by decide +kernel
theorem dX6_cutHalves_48 : decode cX6_cutHalves 48 = .ok (.aload_n 0, 1) := by decide +kernel
theorem dX6_cutHalves_49 : decode cX6_cutHalves 49 = .ok (.lconst 0, 1) := by decide +kernel
theorem dX6_cutHalves_50 : decode cX6_cutHalves 50 = .ok (.ldc2_w 45, 3) := by decide +kernel
theorem dX6_cutHalves_53 : decode cX6_cutHalves 53 = .ok (.invokevirtual 65, 3) := by decide +kernel
theorem dX6_cutHalves_56 : decode cX6_cutHalves 56 = .ok (.aload_n 0, 1) := by decide +kernel
theorem dX6_cutHalves_57 : decode cX6_cutHalves 57 = .ok (.getfield 18, 3) := by decide +kernel
theorem dX6_cutHalves_60 : decode cX6_cutHalves 60 = .ok (.aload_n 0, 1) := by decide +kernel
theorem dX6_cutHalves_61 : decode cX6_cutHalves 61 = .ok (.getfield 21, 3) := by decide +kernel
theorem dX6_cutHalves_64 : decode cX6_cutHalves 64 = .ok (.lcmp, 1) := by decide +kernel
theorem dX6_cutHalves_65 : decode cX6_cutHalves 65 = .ok (.ifCond .ne 26, 3) := by decide +kernel
theorem dX6_cutHalves_68 : decode cX6_cutHalves 68 = .ok (.aload_n 0, 1) := by decide +kernel
theorem dX6_cutHalves_69 : decode cX6_cutHalves 69 = .ok (.aload_n 0, 1) := by decide +kernel
theorem dX6_cutHalves_70 : decode cX6_cutHalves 70 = .ok (.getfield 18, 3) := by decide +kernel
theorem dX6_cutHalves_73 : decode cX6_cutHalves 73 = .ok (.ldc2_w 45, 3) := by decide +kernel
theorem dX6_cutHalves_76 : decode cX6_cutHalves 76 = .ok (.land, 1) := by decide +kernel
theorem dX6_cutHalves_77 : decode cX6_cutHalves 77 = .ok (.aload_n 0, 1) := by decide +kernel
theorem dX6_cutHalves_78 : decode cX6_cutHalves 78 = .ok (.getfield 21, 3) := by decide +kernel
theorem dX6_cutHalves_81 : decode cX6_cutHalves 81 = .ok (.ldc2_w 45, 3) := by decide +kernel
theorem dX6_cutHalves_84 : decode cX6_cutHalves 84 = .ok (.land, 1) := by decide +kernel
theorem dX6_cutHalves_85 : decode cX6_cutHalves 85 = .ok (.invokevirtual 72, 3) := by decide +kernel
theorem dX6_cutHalves_88 : decode cX6_cutHalves 88 = .ok (.goto 24, 3) := by decide +kernel
theorem dX6_cutHalves_91 : decode cX6_cutHalves 91 = .ok (.ldc2_w 45, 3) := by decide +kernel
theorem dX6_cutHalves_94 : decode cX6_cutHalves 94 = .ok (.aload_n 0, 1) := by decide +kernel
theorem dX6_cutHalves_95 : decode cX6_cutHalves 95 = .ok (.getfield 21, 3) := by decide +kernel
theorem dX6_cutHalves_98 : decode cX6_cutHalves 98 = .ok (.invokestatic 68, 3) := by decide +kernel
theorem dX6_cutHalves_101 : decode cX6_cutHalves 101 = .ok (.ifCond .eq 11, 3) := by decide +kernel
theorem dX6_cutHalves_104 : decode cX6_cutHalves 104 = .ok (.aload_n 0, 1) := by decide +kernel
theorem dX6_cutHalves_105 : decode cX6_cutHalves 105 = .ok (.lconst 0, 1) := by decide +kernel
theorem dX6_cutHalves_106 : decode cX6_cutHalves 106 = .ok (.ldc2_w 45, 3) := by decide +kernel
theorem dX6_cutHalves_109 : decode cX6_cutHalves 109 = .ok (.invokevirtual 72, 3) := by decide +kernel
theorem dX6_cutHalves_112 : decode cX6_cutHalves 112 = .ok (.return_, 1) := by decide +kernel
theorem dX6_becomeAll_0 : decode cX6_becomeAll 0 = .ok (.aload_n 0, 1) := by decide +kernel
theorem dX6_becomeAll_1 : decode cX6_becomeAll 1 = .ok (.lconst 0, 1) := by decide +kernel
theorem dX6_becomeAll_2 : decode cX6_becomeAll 2 = .ok (.putfield 24, 3) := by decide +kernel
theorem dX6_becomeAll_5 : decode cX6_becomeAll 5 = .ok (.aload_n 0, 1) := by decide +kernel
theorem dX6_becomeAll_6 : decode cX6_becomeAll 6 = .ok (.aload_n 0, 1) := by decide +kernel
theorem dX6_becomeAll_7 : decode cX6_becomeAll 7 = .ok (.getfield 30, 3) := by decide +kernel
theorem dX6_becomeAll_10 : decode cX6_becomeAll 10 = .ok (.putfield 27, 3) := by decide +kernel
theorem dX6_becomeAll_13 : decode cX6_becomeAll 13 = .ok (.return_, 1) := by decide +kernel
theorem dX6_makeDivided_0 : decode cX6_makeDivided 0 = .ok (.iload_n 2, 1) := by decide +kernel
theorem dX6_makeDivided_1 : decode cX6_makeDivided 1 = .ok (.iconst 1, 1) := by decide +kernel
theorem dX6_makeDivided_2 : decode cX6_makeDivided 2 = .ok (.if_icmp .ne 10, 3) := by decide +kernel
theorem dX6_makeDivided_5 : decode cX6_makeDivided 5 = .ok (.aload_n 0, 1) := by decide +kernel
theorem dX6_makeDivided_6 : decode cX6_makeDivided 6 = .ok (.invokevirtual 75, 3) := by decide +kernel
theorem dX6_makeDivided_9 : decode cX6_makeDivided 9 = .ok (.goto 110, 3) := by decide +kernel
theorem dX6_makeDivided_12 : decode cX6_makeDivided 12 = .ok (.aload_n 0, 1) := by decide +kernel
theorem dX6_makeDivided_13 : decode cX6_makeDivided 13 = .ok (.getfield 18, 3) := by decide +kernel
theorem dX6_makeDivided_16 : decode cX6_makeDivided 16 = .ok (.aload_n 0, 1) := by decide +kernel
theorem dX6_makeDivided_17 : decode cX6_makeDivided 17 = .ok (.getfield 21, 3) := by decide +kernel
theorem dX6_makeDivided_20 : decode cX6_makeDivided 20 = .ok (.lcmp, 1) := by decide +kernel
theorem dX6_makeDivided_21 : decode cX6_makeDivided 21 = .ok (.ifCond .ne 12, 3) := by decide +kernel
theorem dX6_makeDivided_24 : decode cX6_makeDivided 24 = .ok (.aload_n 0, 1) := by decide +kernel
theorem dX6_makeDivided_25 : decode cX6_makeDivided 25 = .ok (.getfield 18, 3) := by decide +kernel
theorem dX6_makeDivided_28 : decode cX6_makeDivided 28 = .ok (.lconst 0, 1) := by decide +kernel
theorem dX6_makeDivided_29 : decode cX6_makeDivided 29 = .ok (.lcmp, 1) := by decide +kernel
theorem dX6_makeDivided_30 : decode cX6_makeDivided 30 = .ok (.ifCond .ne 15, 3) := by decide +kernel
theorem dX6_makeDivided_33 : decode cX6_makeDivided 33 = .ok (.aload_n 0, 1) := by decide +kernel
theorem dX6_makeDivided_34 : decode cX6_makeDivided 34 = .ok (.lconst 0, 1) := by decide +kernel
theorem dX6_makeDivided_35 : decode cX6_makeDivided 35 = .ok (.aload_n 0, 1) := by decide +kernel
theorem dX6_makeDivided_36 : decode cX6_makeDivided 36 = .ok (.getfield 15, 3) := by decide +kernel
theorem dX6_makeDivided_39 : decode cX6_makeDivided 39 = .ok (.invokevirtual 39, 3) := by decide +kernel
theorem dX6_makeDivided_42 : decode cX6_makeDivided 42 = .ok (.goto 77, 3) := by decide +kernel
theorem dX6_makeDivided_45 : decode cX6_makeDivided 45 = .ok (.iload_n 1, 1) := by decide +kernel
theorem dX6_makeDivided_46 : decode cX6_makeDivided 46 = .ok (.iconst 3, 1) := by decide +kernel
theorem dX6_makeDivided_47 : decode cX6_makeDivided 47 = .ok (.if_icmp .ne 32, 3) := by decide +kernel
theorem dX6_makeDivided_50 : decode cX6_makeDivided 50 = .ok (.aload_n 0, 1) := by decide +kernel
theorem dX6_makeDivided_51 : decode cX6_makeDivided 51 = .ok (.aload_n 0, 1) := by decide +kernel
theorem dX6_makeDivided_52 : decode cX6_makeDivided 52 = .ok (.getfield 9, 3) := by decide +kernel
theorem dX6_makeDivided_55 : decode cX6_makeDivided 55 = .ok (.aload_n 0, 1) := by decide +kernel
theorem dX6_makeDivided_56 : decode cX6_makeDivided 56 = .ok (.getfield 18, 3) := by decide +kernel
theorem dX6_makeDivided_59 : decode cX6_makeDivided 59 = .ok (.invokestatic 78, 3) := by decide +kernel
theorem dX6_makeDivided_62 : decode cX6_makeDivided 62 = .ok (.aload_n 0, 1) := by decide +kernel
theorem dX6_makeDivided_63 : decode cX6_makeDivided 63 = .ok (.getfield 15, 3) := by decide +kernel
theorem dX6_makeDivided_66 : decode cX6_makeDivided 66 = .ok (.aload_n 0, 1) := by decide +kernel
theorem dX6_makeDivided_67 : decode cX6_makeDivided 67 = .ok (.getfield 18, 3) := by decide +kernel
theorem dX6_makeDivided_70 : decode cX6_makeDivided 70 = .ok (.invokestatic 78, 3) := by decide +kernel
theorem dX6_makeDivided_73 : decode cX6_makeDivided 73 = .ok (.invokevirtual 39, 3) := by decide +kernel
theorem dX6_makeDivided_76 : decode cX6_makeDivided 76 = .ok (.goto 43, 3) := by decide +kernel
theorem dX6_makeDivided_79 : decode cX6_makeDivided 79 = .ok (.aload_n 0, 1) := by decide +kernel
theorem dX6_makeDivided_80 : decode cX6_makeDivided 80 = .ok (.getfield 15, 3) := by decide +kernel
theorem dX6_makeDivided_83 : decode cX6_makeDivided 83 = .ok (.aload_n 0, 1) := by decide +kernel
theorem dX6_makeDivided_84 : decode cX6_makeDivided 84 = .ok (.getfield 18, 3) := by decide +kernel
theorem dX6_makeDivided_87 : decode cX6_makeDivided 87 = .ok (.invokestatic 68, 3) := by decide +kernel
theorem dX6_makeDivided_90 : decode cX6_makeDivided 90 = .ok (.ifCond .eq 18, 3) := by decide +kernel
theorem dX6_makeDivided_93 : decode cX6_makeDivided 93 = .ok (.aload_n 0, 1) := by decide +kernel
theorem dX6_makeDivided_94 : decode cX6_makeDivided 94 = .ok (.aload_n 0, 1) := by decide +kernel
theorem dX6_makeDivided_95 : decode cX6_makeDivided 95 = .ok (.getfield 9, 3) := by decide +kernel
theorem dX6_makeDivided_98 : decode cX6_makeDivided 98 = .ok (.aload_n 0, 1) := by decide +kernel
theorem dX6_makeDivided_99 : decode cX6_makeDivided 99 = .ok (.getfield 15, 3) := by decide +kernel
theorem dX6_makeDivided_102 : decode cX6_makeDivided 102 = .ok (.invokevirtual 39, 3) := by decide +kernel
theorem dX6_makeDivided_105 : decode cX6_makeDivided 105 = .ok (.goto 14, 3) := by decide +kernel
theorem dX6_makeDivided_108 : decode cX6_makeDivided 108 = .ok (.aload_n 0, 1) := by decide +kernel
theorem dX6_makeDivided_109 : decode cX6_makeDivided 109 = .ok (.lconst 0, 1) := by decide +kernel
theorem dX6_makeDivided_110 : decode cX6_makeDivided 110 = .ok (.aload_n 0, 1) := by decide +kernel
theorem dX6_makeDivided_111 : decode cX6_makeDivided 111 = .ok (.getfield 18, 3) := by decide +kernel
theorem dX6_makeDivided_114 : decode cX6_makeDivided 114 = .ok (.lconst 1, 1) := by decide +kernel
theorem dX6_makeDivided_115 : decode cX6_makeDivided 115 = .ok (.lsub, 1) := by decide +kernel
theorem dX6_makeDivided_116 : decode cX6_makeDivided 116 = .ok (.invokevirtual 39, 3) := by decide +kernel
theorem dX6_makeDivided_119 : decode cX6_makeDivided 119 = .ok (.return_, 1) := by decide +kernel
theorem dX6_makeShifted_0 : decode cX6_makeShifted 0 = .ok (.aload_n 0, 1) := by decide +kernel
theorem dX6_makeShifted_1 : decode cX6_makeShifted 1 = .ok (.getfield 18, 3) := by decide +kernel
theorem dX6_makeShifted_4 : decode cX6_makeShifted 4 = .ok (.iload_n 2, 1) := by decide +kernel
theorem dX6_makeShifted_5 : decode cX6_makeShifted 5 = .ok (.ifCond .eq 8, 3) := by decide +kernel
theorem dX6_makeShifted_8 : decode cX6_makeShifted 8 = .ok (.bipush 63, 2) := by decide +kernel
theorem dX6_makeShifted_10 : decode cX6_makeShifted 10 = .ok (.goto 5, 3) := by decide +kernel
theorem dX6_makeShifted_13 : decode cX6_makeShifted 13 = .ok (.bipush 31, 2) := by decide +kernel
theorem dX6_makeShifted_15 : decode cX6_makeShifted 15 = .ok (.i2l, 1) := by decide +kernel
theorem dX6_makeShifted_16 : decode cX6_makeShifted 16 = .ok (.land, 1) := by decide +kernel
theorem dX6_makeShifted_17 : decode cX6_makeShifted 17 = .ok (.lstore_n 3, 1) := by decide +kernel
theorem dX6_makeShifted_18 : decode cX6_makeShifted 18 = .ok (.iload_n 1, 1) := by decide +kernel
theorem dX6_makeShifted_19 : decode cX6_makeShifted 19 = .ok (.bipush 6, 2) := by decide +kernel
theorem dX6_makeShifted_21 : decode cX6_makeShifted 21 = .ok (.if_icmp .ne 72, 3) := by decide +kernel
theorem dX6_makeShifted_24 : decode cX6_makeShifted 24 = .ok (.aload_n 0, 1) := by decide +kernel
theorem dX6_makeShifted_25 : decode cX6_makeShifted 25 = .ok (.getfield 15, 3) := by decide +kernel
theorem dX6_makeShifted_28 : decode cX6_makeShifted 28 = .ok (.lload_n 3, 1) := by decide +kernel
theorem dX6_makeShifted_29 : decode cX6_makeShifted 29 = .ok (.l2i, 1) := by decide +kernel
theorem dX6_makeShifted_30 : decode cX6_makeShifted 30 = .ok (.lshl, 1) := by decide +kernel
theorem dX6_makeShifted_31 : decode cX6_makeShifted 31 = .ok (.lstore 5, 2) := by decide +kernel
theorem dX6_makeShifted_33 : decode cX6_makeShifted 33 = .ok (.aload_n 0, 1) := by decide +kernel
theorem dX6_makeShifted_34 : decode cX6_makeShifted 34 = .ok (.getfield 18, 3) := by decide +kernel
theorem dX6_makeShifted_37 : decode cX6_makeShifted 37 = .ok (.aload_n 0, 1) := by decide +kernel
theorem dX6_makeShifted_38 : decode cX6_makeShifted 38 = .ok (.getfield 21, 3) := by decide +kernel
theorem dX6_makeShifted_41 : decode cX6_makeShifted 41 = .ok (.lcmp, 1) := by decide +kernel
theorem dX6_makeShifted_42 : decode cX6_makeShifted 42 = .ok (.ifCond .ne 44, 3) := by decide +kernel
theorem dX6_makeShifted_45 : decode cX6_makeShifted 45 = .ok (.lload 5, 2) := by decide +kernel
theorem dX6_makeShifted_47 : decode cX6_makeShifted 47 = .ok (.lload_n 3, 1) := by decide +kernel
theorem dX6_makeShifted_48 : decode cX6_makeShifted 48 = .ok (.l2i, 1) := by decide +kernel
theorem dX6_makeShifted_49 : decode cX6_makeShifted 49 = .ok (.lushr, 1) := by decide +kernel
theorem dX6_makeShifted_50 : decode cX6_makeShifted 50 = .ok (.aload_n 0, 1) := by decide +kernel
theorem dX6_makeShifted_51 : decode cX6_makeShifted 51 = .ok (.getfield 15, 3) := by decide +kernel
theorem dX6_makeShifted_54 : decode cX6_makeShifted 54 = .ok (.lcmp, 1) := by decide +kernel
theorem dX6_makeShifted_55 : decode cX6_makeShifted 55 = .ok (.ifCond .ne 31, 3) := by decide +kernel
theorem dX6_makeShifted_58 : decode cX6_makeShifted 58 = .ok (.aload_n 0, 1) := by decide +kernel
theorem dX6_makeShifted_59 : decode cX6_makeShifted 59 = .ok (.getfield 30, 3) := by decide +kernel
theorem dX6_makeShifted_62 : decode cX6_makeShifted 62 = .ok (.lload 5, 2) := by decide +kernel
theorem dX6_makeShifted_64 : decode cX6_makeShifted 64 = .ok (.invokestatic 68, 3) := by decide +kernel
theorem dX6_makeShifted_67 : decode cX6_makeShifted 67 = .ok (.ifCond .ne 19, 3) := by decide +kernel
theorem dX6_makeShifted_70 : decode cX6_makeShifted 70 = .ok (.aload_n 0, 1) := by decide +kernel
theorem dX6_makeShifted_71 : decode cX6_makeShifted 71 = .ok (.aload_n 0, 1) := by decide +kernel
theorem dX6_makeShifted_72 : decode cX6_makeShifted 72 = .ok (.getfield 9, 3) := by decide +kernel
theorem dX6_makeShifted_75 : decode cX6_makeShifted 75 = .ok (.lload_n 3, 1) := by decide +kernel
theorem dX6_makeShifted_76 : decode cX6_makeShifted 76 = .ok (.l2i, 1) := by decide +kernel
theorem dX6_makeShifted_77 : decode cX6_makeShifted 77 = .ok (.lshl, 1) := by decide +kernel
theorem dX6_makeShifted_78 : decode cX6_makeShifted 78 = .ok (.lload 5, 2) := by decide +kernel
theorem dX6_makeShifted_80 : decode cX6_makeShifted 80 = .ok (.invokevirtual 39, 3) := by decide +kernel
theorem dX6_makeShifted_83 : decode cX6_makeShifted 83 = .ok (.goto 7, 3) := by decide +kernel
theorem dX6_makeShifted_86 : decode cX6_makeShifted 86 = .ok (.aload_n 0, 1) := by decide +kernel
theorem dX6_makeShifted_87 : decode cX6_makeShifted 87 = .ok (.invokevirtual 75, 3) := by decide +kernel
theorem dX6_makeShifted_90 : decode cX6_makeShifted 90 = .ok (.goto 74, 3) := by decide +kernel
theorem dX6_makeShifted_93 : decode cX6_makeShifted 93 = .ok (.iload_n 1, 1) := by decide +kernel
theorem dX6_makeShifted_94 : decode cX6_makeShifted 94 = .ok (.bipush 12, 2) := by decide +kernel
theorem dX6_makeShifted_96 : decode cX6_makeShifted 96 = .ok (.if_icmp .ne 26, 3) := by decide +kernel
theorem dX6_makeShifted_99 : decode cX6_makeShifted 99 = .ok (.aload_n 0, 1) := by decide +kernel
theorem dX6_makeShifted_100 : decode cX6_makeShifted 100 = .ok (.getfield 30, 3) := by decide +kernel
theorem dX6_makeShifted_103 : decode cX6_makeShifted 103 = .ok (.iconst 1, 1) := by decide +kernel
theorem dX6_makeShifted_104 : decode cX6_makeShifted 104 = .ok (.lushr, 1) := by decide +kernel
theorem dX6_makeShifted_105 : decode cX6_makeShifted 105 = .ok (.aload_n 0, 1) := by decide +kernel
theorem dX6_makeShifted_106 : decode cX6_makeShifted 106 = .ok (.getfield 15, 3) := by decide +kernel
theorem dX6_makeShifted_109 : decode cX6_makeShifted 109 = .ok (.invokestatic 68, 3) := by decide +kernel
theorem dX6_makeShifted_112 : decode cX6_makeShifted 112 = .ok (.ifCond .eq 10, 3) := by decide +kernel
theorem dX6_makeShifted_115 : decode cX6_makeShifted 115 = .ok (.aload_n 0, 1) := by decide +kernel
theorem dX6_makeShifted_116 : decode cX6_makeShifted 116 = .ok (.invokevirtual 75, 3) := by decide +kernel
theorem dX6_makeShifted_119 : decode cX6_makeShifted 119 = .ok (.goto 45, 3) := by decide +kernel
theorem dX6_makeShifted_122 : decode cX6_makeShifted 122 = .ok (.aload_n 0, 1) := by decide +kernel
theorem dX6_makeShifted_123 : decode cX6_makeShifted 123 = .ok (.getfield 18, 3) := by decide +kernel
theorem dX6_makeShifted_126 : decode cX6_makeShifted 126 = .ok (.aload_n 0, 1) := by decide +kernel
theorem dX6_makeShifted_127 : decode cX6_makeShifted 127 = .ok (.getfield 21, 3) := by decide +kernel
theorem dX6_makeShifted_130 : decode cX6_makeShifted 130 = .ok (.lcmp, 1) := by decide +kernel
theorem dX6_makeShifted_131 : decode cX6_makeShifted 131 = .ok (.ifCond .ne 24, 3) := by decide +kernel
theorem dX6_makeShifted_134 : decode cX6_makeShifted 134 = .ok (.aload_n 0, 1) := by decide +kernel
theorem dX6_makeShifted_135 : decode cX6_makeShifted 135 = .ok (.aload_n 0, 1) := by decide +kernel
theorem dX6_makeShifted_136 : decode cX6_makeShifted 136 = .ok (.getfield 9, 3) := by decide +kernel
theorem dX6_makeShifted_139 : decode cX6_makeShifted 139 = .ok (.lload_n 3, 1) := by decide +kernel
theorem dX6_makeShifted_140 : decode cX6_makeShifted 140 = .ok (.l2i, 1) := by decide +kernel
theorem dX6_makeShifted_141 : decode cX6_makeShifted 141 = .ok (.lushr, 1) := by decide +kernel
theorem dX6_makeShifted_142 : decode cX6_makeShifted 142 = .ok (.aload_n 0, 1) := by decide +kernel
theorem dX6_makeShifted_143 : decode cX6_makeShifted 143 = .ok (.getfield 15, 3) := by decide +kernel
theorem dX6_makeShifted_146 : decode cX6_makeShifted 146 = .ok (.lload_n 3, 1) := by decide +kernel
theorem dX6_makeShifted_147 : decode cX6_makeShifted 147 = .ok (.l2i, 1) := by decide +kernel
theorem dX6_makeShifted_148 : decode cX6_makeShifted 148 = .ok (.lushr, 1) := by decide +kernel
theorem dX6_makeShifted_149 : decode cX6_makeShifted 149 = .ok (.invokevirtual 39, 3) := by decide +kernel
theorem dX6_makeShifted_152 : decode cX6_makeShifted 152 = .ok (.goto 12, 3) := by decide +kernel
theorem dX6_makeShifted_155 : decode cX6_makeShifted 155 = .ok (.aload_n 0, 1) := by decide +kernel
theorem dX6_makeShifted_156 : decode cX6_makeShifted 156 = .ok (.lconst 0, 1) := by decide +kernel
theorem dX6_makeShifted_157 : decode cX6_makeShifted 157 = .ok (.aload_n 0, 1) := by decide +kernel
theorem dX6_makeShifted_158 : decode cX6_makeShifted 158 = .ok (.getfield 15, 3) := by decide +kernel
theorem dX6_makeShifted_161 : decode cX6_makeShifted 161 = .ok (.invokevirtual 39, 3) := by decide +kernel
theorem dX6_makeShifted_164 : decode cX6_makeShifted 164 = .ok (.return_, 1) := by decide +kernel
theorem dX6_onesFor_0 : decode cX6_onesFor 0 = .ok (.lload_n 0, 1) := by decide +kernel
theorem dX6_onesFor_1 : decode cX6_onesFor 1 = .ok (.lstore_n 2, 1) := by decide +kernel
theorem dX6_onesFor_2 : decode cX6_onesFor 2 = .ok (.iconst 1, 1) := by decide +kernel
theorem dX6_onesFor_3 : decode cX6_onesFor 3 = .ok (.istore 4, 2) := by decide +kernel
theorem dX6_onesFor_5 : decode cX6_onesFor 5 = .ok (.iload 4, 2) := by decide +kernel
theorem dX6_onesFor_7 : decode cX6_onesFor 7 = .ok (.bipush 64, 2) := by decide +kernel
theorem dX6_onesFor_9 : decode cX6_onesFor 9 = .ok (.if_icmp .ge 19, 3) := by decide +kernel
theorem dX6_onesFor_12 : decode cX6_onesFor 12 = .ok (.lload_n 2, 1) := by decide +kernel
theorem dX6_onesFor_13 : decode cX6_onesFor 13 = .ok (.lload_n 2, 1) := by decide +kernel
theorem dX6_onesFor_14 : decode cX6_onesFor 14 = .ok (.iload 4, 2) := by decide +kernel
theorem dX6_onesFor_16 : decode cX6_onesFor 16 = .ok (.lushr, 1) := by decide +kernel
theorem dX6_onesFor_17 : decode cX6_onesFor 17 = .ok (.lor, 1) := by decide +kernel
theorem dX6_onesFor_18 : decode cX6_onesFor 18 = .ok (.lstore_n 2, 1) := by decide +kernel
theorem dX6_onesFor_19 : decode cX6_onesFor 19 = .ok (.iload 4, 2) := by decide +kernel
theorem dX6_onesFor_21 : decode cX6_onesFor 21 = .ok (.iconst 2, 1) := by decide +kernel
theorem dX6_onesFor_22 : decode cX6_onesFor 22 = .ok (.imul, 1) := by decide +kernel
theorem dX6_onesFor_23 : decode cX6_onesFor 23 = .ok (.istore 4, 2) := by decide +kernel
theorem dX6_onesFor_25 : decode cX6_onesFor 25 = .ok (.goto (-20), 3) := by decide +kernel
theorem dX6_onesFor_28 : decode cX6_onesFor 28 = .ok (.lload_n 2, 1) := by decide +kernel
theorem dX6_onesFor_29 : decode cX6_onesFor 29 = .ok (.lreturn, 1) := by decide +kernel
theorem dX6_makeOther_0 : decode cX6_makeOther 0 = .ok (.aload_n 0, 1) := by decide +kernel
theorem dX6_makeOther_1 : decode cX6_makeOther 1 = .ok (.getfield 15, 3) := by decide +kernel
theorem dX6_makeOther_4 : decode cX6_makeOther 4 = .ok (.aload_n 0, 1) := by decide +kernel
theorem dX6_makeOther_5 : decode cX6_makeOther 5 = .ok (.getfield 21, 3) := by decide +kernel
theorem dX6_makeOther_8 : decode cX6_makeOther 8 = .ok (.invokestatic 68, 3) := by decide +kernel
theorem dX6_makeOther_11 : decode cX6_makeOther 11 = .ok (.ifCond .eq 10, 3) := by decide +kernel
theorem dX6_makeOther_14 : decode cX6_makeOther 14 = .ok (.aload_n 0, 1) := by decide +kernel
theorem dX6_makeOther_15 : decode cX6_makeOther 15 = .ok (.getfield 21, 3) := by decide +kernel
theorem dX6_makeOther_18 : decode cX6_makeOther 18 = .ok (.goto 7, 3) := by decide +kernel
theorem dX6_makeOther_21 : decode cX6_makeOther 21 = .ok (.aload_n 0, 1) := by decide +kernel
theorem dX6_makeOther_22 : decode cX6_makeOther 22 = .ok (.getfield 15, 3) := by decide +kernel
theorem dX6_makeOther_25 : decode cX6_makeOther 25 = .ok (.lstore_n 3, 1) := by decide +kernel
theorem dX6_makeOther_26 : decode cX6_makeOther 26 = .ok (.iload_n 1, 1) := by decide +kernel
theorem dX6_makeOther_27 : decode cX6_makeOther 27 = .ok (.tableswitch 348 0 11 #[61, 128, 171, 348, 262, 229, 348, 348, 348, 348, 298, 310], 61) := by decide +kernel
theorem dX6_makeOther_88 : decode cX6_makeOther 88 = .ok (.aload_n 0, 1) := by decide +kernel
theorem dX6_makeOther_89 : decode cX6_makeOther 89 = .ok (.aload_n 0, 1) := by decide +kernel
theorem dX6_makeOther_90 : decode cX6_makeOther 90 = .ok (.getfield 9, 3) := by decide +kernel
theorem dX6_makeOther_93 : decode cX6_makeOther 93 = .ok (.aload_n 0, 1) := by decide +kernel
theorem dX6_makeOther_94 : decode cX6_makeOther 94 = .ok (.getfield 18, 3) := by decide +kernel
theorem dX6_makeOther_97 : decode cX6_makeOther 97 = .ok (.ladd, 1) := by decide +kernel
theorem dX6_makeOther_98 : decode cX6_makeOther 98 = .ok (.aload_n 0, 1) := by decide +kernel
theorem dX6_makeOther_99 : decode cX6_makeOther 99 = .ok (.getfield 15, 3) := by decide +kernel
theorem dX6_makeOther_102 : decode cX6_makeOther 102 = .ok (.aload_n 0, 1) := by decide +kernel
theorem dX6_makeOther_103 : decode cX6_makeOther 103 = .ok (.getfield 21, 3) := by decide +kernel
theorem dX6_makeOther_106 : decode cX6_makeOther 106 = .ok (.ladd, 1) := by decide +kernel
theorem dX6_makeOther_107 : decode cX6_makeOther 107 = .ok (.invokevirtual 39, 3) := by decide +kernel
theorem dX6_makeOther_110 : decode cX6_makeOther 110 = .ok (.aload_n 0, 1) := by decide +kernel
theorem dX6_makeOther_111 : decode cX6_makeOther 111 = .ok (.getfield 15, 3) := by decide +kernel
theorem dX6_makeOther_114 : decode cX6_makeOther 114 = .ok (.aload_n 0, 1) := by decide +kernel
theorem dX6_makeOther_115 : decode cX6_makeOther 115 = .ok (.getfield 21, 3) := by decide +kernel
theorem dX6_makeOther_118 : decode cX6_makeOther 118 = .ok (.ladd, 1) := by decide +kernel
theorem dX6_makeOther_119 : decode cX6_makeOther 119 = .ok (.aload_n 0, 1) := by decide +kernel
theorem dX6_makeOther_120 : decode cX6_makeOther 120 = .ok (.getfield 15, 3) := by decide +kernel
theorem dX6_makeOther_123 : decode cX6_makeOther 123 = .ok (.invokestatic 68, 3) := by decide +kernel
theorem dX6_makeOther_126 : decode cX6_makeOther 126 = .ok (.ifCond .ne 22, 3) := by decide +kernel
theorem dX6_makeOther_129 : decode cX6_makeOther 129 = .ok (.aload_n 0, 1) := by decide +kernel
theorem dX6_makeOther_130 : decode cX6_makeOther 130 = .ok (.getfield 30, 3) := by decide +kernel
theorem dX6_makeOther_133 : decode cX6_makeOther 133 = .ok (.aload_n 0, 1) := by decide +kernel
theorem dX6_makeOther_134 : decode cX6_makeOther 134 = .ok (.getfield 15, 3) := by decide +kernel
theorem dX6_makeOther_137 : decode cX6_makeOther 137 = .ok (.aload_n 0, 1) := by decide +kernel
theorem dX6_makeOther_138 : decode cX6_makeOther 138 = .ok (.getfield 21, 3) := by decide +kernel
theorem dX6_makeOther_141 : decode cX6_makeOther 141 = .ok (.ladd, 1) := by decide +kernel
theorem dX6_makeOther_142 : decode cX6_makeOther 142 = .ok (.invokestatic 68, 3) := by decide +kernel
theorem dX6_makeOther_145 : decode cX6_makeOther 145 = .ok (.ifCond .eq 234, 3) := by decide +kernel
theorem dX6_makeOther_148 : decode cX6_makeOther 148 = .ok (.aload_n 0, 1) := by decide +kernel
theorem dX6_makeOther_149 : decode cX6_makeOther 149 = .ok (.invokevirtual 75, 3) := by decide +kernel
theorem dX6_makeOther_152 : decode cX6_makeOther 152 = .ok (.goto 227, 3) := by decide +kernel
theorem dX6_makeOther_155 : decode cX6_makeOther 155 = .ok (.aload_n 0, 1) := by decide +kernel
theorem dX6_makeOther_156 : decode cX6_makeOther 156 = .ok (.aload_n 0, 1) := by decide +kernel
theorem dX6_makeOther_157 : decode cX6_makeOther 157 = .ok (.getfield 9, 3) := by decide +kernel
theorem dX6_makeOther_160 : decode cX6_makeOther 160 = .ok (.aload_n 0, 1) := by decide +kernel
theorem dX6_makeOther_161 : decode cX6_makeOther 161 = .ok (.getfield 21, 3) := by decide +kernel
theorem dX6_makeOther_164 : decode cX6_makeOther 164 = .ok (.lsub, 1) := by decide +kernel
theorem dX6_makeOther_165 : decode cX6_makeOther 165 = .ok (.aload_n 0, 1) := by decide +kernel
theorem dX6_makeOther_166 : decode cX6_makeOther 166 = .ok (.getfield 15, 3) := by decide +kernel
theorem dX6_makeOther_169 : decode cX6_makeOther 169 = .ok (.aload_n 0, 1) := by decide +kernel
theorem dX6_makeOther_170 : decode cX6_makeOther 170 = .ok (.getfield 18, 3) := by decide +kernel
theorem dX6_makeOther_173 : decode cX6_makeOther 173 = .ok (.lsub, 1) := by decide +kernel
theorem dX6_makeOther_174 : decode cX6_makeOther 174 = .ok (.invokevirtual 39, 3) := by decide +kernel
theorem dX6_makeOther_177 : decode cX6_makeOther 177 = .ok (.aload_n 0, 1) := by decide +kernel
theorem dX6_makeOther_178 : decode cX6_makeOther 178 = .ok (.getfield 9, 3) := by decide +kernel
theorem dX6_makeOther_181 : decode cX6_makeOther 181 = .ok (.aload_n 0, 1) := by decide +kernel
theorem dX6_makeOther_182 : decode cX6_makeOther 182 = .ok (.getfield 21, 3) := by decide +kernel
theorem dX6_makeOther_185 : decode cX6_makeOther 185 = .ok (.invokestatic 68, 3) := by decide +kernel
theorem dX6_makeOther_188 : decode cX6_makeOther 188 = .ok (.ifCond .eq 191, 3) := by decide +kernel
theorem dX6_makeOther_191 : decode cX6_makeOther 191 = .ok (.aload_n 0, 1) := by decide +kernel
theorem dX6_makeOther_192 : decode cX6_makeOther 192 = .ok (.invokevirtual 75, 3) := by decide +kernel
theorem dX6_makeOther_195 : decode cX6_makeOther 195 = .ok (.goto 184, 3) := by decide +kernel
theorem dX6_makeOther_198 : decode cX6_makeOther 198 = .ok (.aload_n 0, 1) := by decide +kernel
theorem dX6_makeOther_199 : decode cX6_makeOther 199 = .ok (.aload_n 0, 1) := by decide +kernel
theorem dX6_makeOther_200 : decode cX6_makeOther 200 = .ok (.getfield 9, 3) := by decide +kernel
theorem dX6_makeOther_203 : decode cX6_makeOther 203 = .ok (.aload_n 0, 1) := by decide +kernel
theorem dX6_makeOther_204 : decode cX6_makeOther 204 = .ok (.getfield 18, 3) := by decide +kernel
theorem dX6_makeOther_207 : decode cX6_makeOther 207 = .ok (.lmul, 1) := by decide +kernel
theorem dX6_makeOther_208 : decode cX6_makeOther 208 = .ok (.aload_n 0, 1) := by decide +kernel
theorem dX6_makeOther_209 : decode cX6_makeOther 209 = .ok (.getfield 15, 3) := by decide +kernel
theorem dX6_makeOther_212 : decode cX6_makeOther 212 = .ok (.aload_n 0, 1) := by decide +kernel
theorem dX6_makeOther_213 : decode cX6_makeOther 213 = .ok (.getfield 21, 3) := by decide +kernel
theorem dX6_makeOther_216 : decode cX6_makeOther 216 = .ok (.lmul, 1) := by decide +kernel
theorem dX6_makeOther_217 : decode cX6_makeOther 217 = .ok (.invokevirtual 39, 3) := by decide +kernel
theorem dX6_makeOther_220 : decode cX6_makeOther 220 = .ok (.ldc2_w 45, 3) := by decide +kernel
theorem dX6_makeOther_223 : decode cX6_makeOther 223 = .ok (.lload_n 3, 1) := by decide +kernel
theorem dX6_makeOther_224 : decode cX6_makeOther 224 = .ok (.invokestatic 68, 3) := by decide +kernel
theorem dX6_makeOther_227 : decode cX6_makeOther 227 = .ok (.ifCond .ne 22, 3) := by decide +kernel
theorem dX6_makeOther_230 : decode cX6_makeOther 230 = .ok (.aload_n 0, 1) := by decide +kernel
theorem dX6_makeOther_231 : decode cX6_makeOther 231 = .ok (.getfield 30, 3) := by decide +kernel
theorem dX6_makeOther_234 : decode cX6_makeOther 234 = .ok (.aload_n 0, 1) := by decide +kernel
theorem dX6_makeOther_235 : decode cX6_makeOther 235 = .ok (.getfield 15, 3) := by decide +kernel
theorem dX6_makeOther_238 : decode cX6_makeOther 238 = .ok (.aload_n 0, 1) := by decide +kernel
theorem dX6_makeOther_239 : decode cX6_makeOther 239 = .ok (.getfield 21, 3) := by decide +kernel
theorem dX6_makeOther_242 : decode cX6_makeOther 242 = .ok (.lmul, 1) := by decide +kernel
theorem dX6_makeOther_243 : decode cX6_makeOther 243 = .ok (.invokestatic 68, 3) := by decide +kernel
theorem dX6_makeOther_246 : decode cX6_makeOther 246 = .ok (.ifCond .eq 133, 3) := by decide +kernel
theorem dX6_makeOther_249 : decode cX6_makeOther 249 = .ok (.aload_n 0, 1) := by decide +kernel
theorem dX6_makeOther_250 : decode cX6_makeOther 250 = .ok (.invokevirtual 75, 3) := by decide +kernel
theorem dX6_makeOther_253 : decode cX6_makeOther 253 = .ok (.goto 126, 3) := by decide +kernel
theorem dX6_makeOther_256 : decode cX6_makeOther 256 = .ok (.aload_n 0, 1) := by decide +kernel
theorem dX6_makeOther_257 : decode cX6_makeOther 257 = .ok (.lconst 0, 1) := by decide +kernel
theorem dX6_makeOther_258 : decode cX6_makeOther 258 = .ok (.aload_n 0, 1) := by decide +kernel
theorem dX6_makeOther_259 : decode cX6_makeOther 259 = .ok (.getfield 15, 3) := by decide +kernel
theorem dX6_makeOther_262 : decode cX6_makeOther 262 = .ok (.aload_n 0, 1) := by decide +kernel
theorem dX6_makeOther_263 : decode cX6_makeOther 263 = .ok (.getfield 21, 3) := by decide +kernel
theorem dX6_makeOther_266 : decode cX6_makeOther 266 = .ok (.invokestatic 68, 3) := by decide +kernel
theorem dX6_makeOther_269 : decode cX6_makeOther 269 = .ok (.ifCond .eq 10, 3) := by decide +kernel
theorem dX6_makeOther_272 : decode cX6_makeOther 272 = .ok (.aload_n 0, 1) := by decide +kernel
theorem dX6_makeOther_273 : decode cX6_makeOther 273 = .ok (.getfield 15, 3) := by decide +kernel
theorem dX6_makeOther_276 : decode cX6_makeOther 276 = .ok (.goto 7, 3) := by decide +kernel
theorem dX6_makeOther_279 : decode cX6_makeOther 279 = .ok (.aload_n 0, 1) := by decide +kernel
theorem dX6_makeOther_280 : decode cX6_makeOther 280 = .ok (.getfield 21, 3) := by decide +kernel
theorem dX6_makeOther_283 : decode cX6_makeOther 283 = .ok (.invokevirtual 39, 3) := by decide +kernel
theorem dX6_makeOther_286 : decode cX6_makeOther 286 = .ok (.goto 93, 3) := by decide +kernel
theorem dX6_makeOther_289 : decode cX6_makeOther 289 = .ok (.aload_n 0, 1) := by decide +kernel
theorem dX6_makeOther_290 : decode cX6_makeOther 290 = .ok (.aload_n 0, 1) := by decide +kernel
theorem dX6_makeOther_291 : decode cX6_makeOther 291 = .ok (.getfield 9, 3) := by decide +kernel
theorem dX6_makeOther_294 : decode cX6_makeOther 294 = .ok (.aload_n 0, 1) := by decide +kernel
theorem dX6_makeOther_295 : decode cX6_makeOther 295 = .ok (.getfield 18, 3) := by decide +kernel
theorem dX6_makeOther_298 : decode cX6_makeOther 298 = .ok (.invokestatic 68, 3) := by decide +kernel
theorem dX6_makeOther_301 : decode cX6_makeOther 301 = .ok (.ifCond .eq 10, 3) := by decide +kernel
theorem dX6_makeOther_304 : decode cX6_makeOther 304 = .ok (.aload_n 0, 1) := by decide +kernel
theorem dX6_makeOther_305 : decode cX6_makeOther 305 = .ok (.getfield 18, 3) := by decide +kernel
theorem dX6_makeOther_308 : decode cX6_makeOther 308 = .ok (.goto 7, 3) := by decide +kernel
theorem dX6_makeOther_311 : decode cX6_makeOther 311 = .ok (.aload_n 0, 1) := by decide +kernel
theorem dX6_makeOther_312 : decode cX6_makeOther 312 = .ok (.getfield 9, 3) := by decide +kernel
theorem dX6_makeOther_315 : decode cX6_makeOther 315 = .ok (.lload_n 3, 1) := by decide +kernel
theorem dX6_makeOther_316 : decode cX6_makeOther 316 = .ok (.invokestatic 82, 3) := by decide +kernel
theorem dX6_makeOther_319 : decode cX6_makeOther 319 = .ok (.invokevirtual 39, 3) := by decide +kernel
theorem dX6_makeOther_322 : decode cX6_makeOther 322 = .ok (.goto 57, 3) := by decide +kernel
theorem dX6_makeOther_325 : decode cX6_makeOther 325 = .ok (.aload_n 0, 1) := by decide +kernel
theorem dX6_makeOther_326 : decode cX6_makeOther 326 = .ok (.lconst 0, 1) := by decide +kernel
theorem dX6_makeOther_327 : decode cX6_makeOther 327 = .ok (.lload_n 3, 1) := by decide +kernel
theorem dX6_makeOther_328 : decode cX6_makeOther 328 = .ok (.invokestatic 82, 3) := by decide +kernel
theorem dX6_makeOther_331 : decode cX6_makeOther 331 = .ok (.invokevirtual 39, 3) := by decide +kernel
theorem dX6_makeOther_334 : decode cX6_makeOther 334 = .ok (.goto 45, 3) := by decide +kernel
theorem dX6_makeOther_337 : decode cX6_makeOther 337 = .ok (.aload_n 0, 1) := by decide +kernel
theorem dX6_makeOther_338 : decode cX6_makeOther 338 = .ok (.aload_n 0, 1) := by decide +kernel
theorem dX6_makeOther_339 : decode cX6_makeOther 339 = .ok (.getfield 18, 3) := by decide +kernel
theorem dX6_makeOther_342 : decode cX6_makeOther 342 = .ok (.aload_n 0, 1) := by decide +kernel
theorem dX6_makeOther_343 : decode cX6_makeOther 343 = .ok (.getfield 21, 3) := by decide +kernel
theorem dX6_makeOther_346 : decode cX6_makeOther 346 = .ok (.invokevirtual 39, 3) := by decide +kernel
theorem dX6_makeOther_349 : decode cX6_makeOther 349 = .ok (.iload_n 2, 1) := by decide +kernel
theorem dX6_makeOther_350 : decode cX6_makeOther 350 = .ok (.ifCond .eq 29, 3) := by decide +kernel
theorem dX6_makeOther_353 : decode cX6_makeOther 353 = .ok (.aload_n 0, 1) := by decide +kernel
theorem dX6_makeOther_354 : decode cX6_makeOther 354 = .ok (.getfield 21, 3) := by decide +kernel
theorem dX6_makeOther_357 : decode cX6_makeOther 357 = .ok (.lconst 1, 1) := by decide +kernel
theorem dX6_makeOther_358 : decode cX6_makeOther 358 = .ok (.iload_n 2, 1) := by decide +kernel
theorem dX6_makeOther_359 : decode cX6_makeOther 359 = .ok (.iconst 1, 1) := by decide +kernel
theorem dX6_makeOther_360 : decode cX6_makeOther 360 = .ok (.isub, 1) := by decide +kernel
theorem dX6_makeOther_361 : decode cX6_makeOther 361 = .ok (.lshl, 1) := by decide +kernel
theorem dX6_makeOther_362 : decode cX6_makeOther 362 = .ok (.invokestatic 68, 3) := by decide +kernel
theorem dX6_makeOther_365 : decode cX6_makeOther 365 = .ok (.ifCond .ne 14, 3) := by decide +kernel
theorem dX6_makeOther_368 : decode cX6_makeOther 368 = .ok (.aload_n 0, 1) := by decide +kernel
theorem dX6_makeOther_369 : decode cX6_makeOther 369 = .ok (.invokevirtual 75, 3) := by decide +kernel
theorem dX6_makeOther_372 : decode cX6_makeOther 372 = .ok (.goto 7, 3) := by decide +kernel
theorem dX6_makeOther_375 : decode cX6_makeOther 375 = .ok (.aload_n 0, 1) := by decide +kernel
theorem dX6_makeOther_376 : decode cX6_makeOther 376 = .ok (.invokevirtual 75, 3) := by decide +kernel
theorem dX6_makeOther_379 : decode cX6_makeOther 379 = .ok (.return_, 1) := by decide +kernel
theorem dX6_make_0 : decode cX6_make 0 = .ok (.aload_n 0, 1) := by decide +kernel
theorem dX6_make_1 : decode cX6_make 1 = .ok (.iload_n 2, 1) := by decide +kernel
theorem dX6_make_2 : decode cX6_make 2 = .ok (.ifCond .eq 9, 3) := by decide +kernel
theorem dX6_make_5 : decode cX6_make 5 = .ok (.ldc2_w 43, 3) := by decide +kernel
theorem dX6_make_8 : decode cX6_make 8 = .ok (.goto 6, 3) := by decide +kernel
theorem dX6_make_11 : decode cX6_make 11 = .ok (.ldc2_w 45, 3) := by decide +kernel
theorem dX6_make_14 : decode cX6_make 14 = .ok (.putfield 30, 3) := by decide +kernel
theorem dX6_make_17 : decode cX6_make 17 = .ok (.iload_n 2, 1) := by decide +kernel
theorem dX6_make_18 : decode cX6_make 18 = .ok (.ifCond .ne 7, 3) := by decide +kernel
theorem dX6_make_21 : decode cX6_make 21 = .ok (.aload_n 0, 1) := by decide +kernel
theorem dX6_make_22 : decode cX6_make 22 = .ok (.invokevirtual 47, 3) := by decide +kernel
theorem dX6_make_25 : decode cX6_make 25 = .ok (.aload_n 0, 1) := by decide +kernel
theorem dX6_make_26 : decode cX6_make 26 = .ok (.getfield 9, 3) := by decide +kernel
theorem dX6_make_29 : decode cX6_make 29 = .ok (.aload_n 0, 1) := by decide +kernel
theorem dX6_make_30 : decode cX6_make 30 = .ok (.getfield 15, 3) := by decide +kernel
theorem dX6_make_33 : decode cX6_make 33 = .ok (.lcmp, 1) := by decide +kernel
theorem dX6_make_34 : decode cX6_make 34 = .ok (.ifCond .ne 42, 3) := by decide +kernel
theorem dX6_make_37 : decode cX6_make 37 = .ok (.aload_n 0, 1) := by decide +kernel
theorem dX6_make_38 : decode cX6_make 38 = .ok (.getfield 18, 3) := by decide +kernel
theorem dX6_make_41 : decode cX6_make 41 = .ok (.aload_n 0, 1) := by decide +kernel
theorem dX6_make_42 : decode cX6_make 42 = .ok (.getfield 21, 3) := by decide +kernel
theorem dX6_make_45 : decode cX6_make 45 = .ok (.lcmp, 1) := by decide +kernel
theorem dX6_make_46 : decode cX6_make 46 = .ok (.ifCond .ne 30, 3) := by decide +kernel
theorem dX6_make_49 : decode cX6_make 49 = .ok (.iload_n 1, 1) := by decide +kernel
theorem dX6_make_50 : decode cX6_make 50 = .ok (.iload_n 2, 1) := by decide +kernel
theorem dX6_make_51 : decode cX6_make 51 = .ok (.iload_n 3, 1) := by decide +kernel
theorem dX6_make_52 : decode cX6_make 52 = .ok (.aload_n 0, 1) := by decide +kernel
theorem dX6_make_53 : decode cX6_make 53 = .ok (.getfield 9, 3) := by decide +kernel
theorem dX6_make_56 : decode cX6_make 56 = .ok (.aload_n 0, 1) := by decide +kernel
theorem dX6_make_57 : decode cX6_make 57 = .ok (.getfield 18, 3) := by decide +kernel
theorem dX6_make_60 : decode cX6_make 60 = .ok (.invokestatic 50, 3) := by decide +kernel
theorem dX6_make_63 : decode cX6_make 63 = .ok (.lstore 4, 2) := by decide +kernel
theorem dX6_make_65 : decode cX6_make 65 = .ok (.aload_n 0, 1) := by decide +kernel
theorem dX6_make_66 : decode cX6_make 66 = .ok (.lload 4, 2) := by decide +kernel
theorem dX6_make_68 : decode cX6_make 68 = .ok (.lload 4, 2) := by decide +kernel
theorem dX6_make_70 : decode cX6_make 70 = .ok (.invokevirtual 39, 3) := by decide +kernel
theorem dX6_make_73 : decode cX6_make 73 = .ok (.goto 56, 3) := by decide +kernel
theorem dX6_make_76 : decode cX6_make 76 = .ok (.iload_n 1, 1) := by decide +kernel
theorem dX6_make_77 : decode cX6_make 77 = .ok (.iconst 3, 1) := by decide +kernel
theorem dX6_make_78 : decode cX6_make 78 = .ok (.if_icmp .eq 9, 3) := by decide +kernel
theorem dX6_make_81 : decode cX6_make 81 = .ok (.iload_n 1, 1) := by decide +kernel
theorem dX6_make_82 : decode cX6_make 82 = .ok (.bipush 9, 2) := by decide +kernel
theorem dX6_make_84 : decode cX6_make 84 = .ok (.if_icmp .ne 12, 3) := by decide +kernel
theorem dX6_make_87 : decode cX6_make 87 = .ok (.aload_n 0, 1) := by decide +kernel
theorem dX6_make_88 : decode cX6_make 88 = .ok (.iload_n 1, 1) := by decide +kernel
theorem dX6_make_89 : decode cX6_make 89 = .ok (.iload_n 3, 1) := by decide +kernel
theorem dX6_make_90 : decode cX6_make 90 = .ok (.invokevirtual 54, 3) := by decide +kernel
theorem dX6_make_93 : decode cX6_make 93 = .ok (.goto 36, 3) := by decide +kernel
theorem dX6_make_96 : decode cX6_make 96 = .ok (.iload_n 1, 1) := by decide +kernel
theorem dX6_make_97 : decode cX6_make 97 = .ok (.bipush 6, 2) := by decide +kernel
theorem dX6_make_99 : decode cX6_make 99 = .ok (.if_icmp .eq 15, 3) := by decide +kernel
theorem dX6_make_102 : decode cX6_make 102 = .ok (.iload_n 1, 1) := by decide +kernel
theorem dX6_make_103 : decode cX6_make 103 = .ok (.bipush 7, 2) := by decide +kernel
theorem dX6_make_105 : decode cX6_make 105 = .ok (.if_icmp .eq 9, 3) := by decide +kernel
theorem dX6_make_108 : decode cX6_make 108 = .ok (.iload_n 1, 1) := by decide +kernel
theorem dX6_make_109 : decode cX6_make 109 = .ok (.bipush 12, 2) := by decide +kernel
theorem dX6_make_111 : decode cX6_make 111 = .ok (.if_icmp .ne 12, 3) := by decide +kernel
theorem dX6_make_114 : decode cX6_make 114 = .ok (.aload_n 0, 1) := by decide +kernel
theorem dX6_make_115 : decode cX6_make 115 = .ok (.iload_n 1, 1) := by decide +kernel
theorem dX6_make_116 : decode cX6_make 116 = .ok (.iload_n 2, 1) := by decide +kernel
theorem dX6_make_117 : decode cX6_make 117 = .ok (.invokevirtual 58, 3) := by decide +kernel
theorem dX6_make_120 : decode cX6_make 120 = .ok (.goto 9, 3) := by decide +kernel
theorem dX6_make_123 : decode cX6_make 123 = .ok (.aload_n 0, 1) := by decide +kernel
theorem dX6_make_124 : decode cX6_make 124 = .ok (.iload_n 1, 1) := by decide +kernel
theorem dX6_make_125 : decode cX6_make 125 = .ok (.iload_n 3, 1) := by decide +kernel
theorem dX6_make_126 : decode cX6_make 126 = .ok (.invokevirtual 62, 3) := by decide +kernel
theorem dX6_make_129 : decode cX6_make 129 = .ok (.return_, 1) := by decide +kernel
theorem dX6_takeAway_0 : decode cX6_takeAway 0 = .ok (.aload_n 0, 1) := by decide +kernel
theorem dX6_takeAway_1 : decode cX6_takeAway 1 = .ok (.getfield 9, 3) := by decide +kernel
theorem dX6_takeAway_4 : decode cX6_takeAway 4 = .ok (.aload_n 0, 1) := by decide +kernel
theorem dX6_takeAway_5 : decode cX6_takeAway 5 = .ok (.getfield 15, 3) := by decide +kernel
theorem dX6_takeAway_8 : decode cX6_takeAway 8 = .ok (.lcmp, 1) := by decide +kernel
theorem dX6_takeAway_9 : decode cX6_takeAway 9 = .ok (.ifCond .ne 18, 3) := by decide +kernel
theorem dX6_takeAway_12 : decode cX6_takeAway 12 = .ok (.aload_n 0, 1) := by decide +kernel
theorem dX6_takeAway_13 : decode cX6_takeAway 13 = .ok (.getfield 9, 3) := by decide +kernel
theorem dX6_takeAway_16 : decode cX6_takeAway 16 = .ok (.lload_n 1, 1) := by decide +kernel
theorem dX6_takeAway_17 : decode cX6_takeAway 17 = .ok (.lcmp, 1) := by decide +kernel
theorem dX6_takeAway_18 : decode cX6_takeAway 18 = .ok (.ifCond .eq 7, 3) := by decide +kernel
theorem dX6_takeAway_21 : decode cX6_takeAway 21 = .ok (.iconst 1, 1) := by decide +kernel
theorem dX6_takeAway_22 : decode cX6_takeAway 22 = .ok (.goto 4, 3) := by decide +kernel
theorem dX6_takeAway_25 : decode cX6_takeAway 25 = .ok (.iconst 0, 1) := by decide +kernel
theorem dX6_takeAway_26 : decode cX6_takeAway 26 = .ok (.ireturn, 1) := by decide +kernel
theorem dX6_takeAway_27 : decode cX6_takeAway 27 = .ok (.aload_n 0, 1) := by decide +kernel
theorem dX6_takeAway_28 : decode cX6_takeAway 28 = .ok (.getfield 9, 3) := by decide +kernel
theorem dX6_takeAway_31 : decode cX6_takeAway 31 = .ok (.lload_n 1, 1) := by decide +kernel
theorem dX6_takeAway_32 : decode cX6_takeAway 32 = .ok (.lcmp, 1) := by decide +kernel
theorem dX6_takeAway_33 : decode cX6_takeAway 33 = .ok (.ifCond .ne 16, 3) := by decide +kernel
theorem dX6_takeAway_36 : decode cX6_takeAway 36 = .ok (.aload_n 0, 1) := by decide +kernel
theorem dX6_takeAway_37 : decode cX6_takeAway 37 = .ok (.aload_n 0, 1) := by decide +kernel
theorem dX6_takeAway_38 : decode cX6_takeAway 38 = .ok (.getfield 9, 3) := by decide +kernel
theorem dX6_takeAway_41 : decode cX6_takeAway 41 = .ok (.lconst 1, 1) := by decide +kernel
theorem dX6_takeAway_42 : decode cX6_takeAway 42 = .ok (.ladd, 1) := by decide +kernel
theorem dX6_takeAway_43 : decode cX6_takeAway 43 = .ok (.putfield 24, 3) := by decide +kernel
theorem dX6_takeAway_46 : decode cX6_takeAway 46 = .ok (.goto 22, 3) := by decide +kernel
theorem dX6_takeAway_49 : decode cX6_takeAway 49 = .ok (.aload_n 0, 1) := by decide +kernel
theorem dX6_takeAway_50 : decode cX6_takeAway 50 = .ok (.getfield 15, 3) := by decide +kernel
theorem dX6_takeAway_53 : decode cX6_takeAway 53 = .ok (.lload_n 1, 1) := by decide +kernel
theorem dX6_takeAway_54 : decode cX6_takeAway 54 = .ok (.lcmp, 1) := by decide +kernel
theorem dX6_takeAway_55 : decode cX6_takeAway 55 = .ok (.ifCond .ne 13, 3) := by decide +kernel
theorem dX6_takeAway_58 : decode cX6_takeAway 58 = .ok (.aload_n 0, 1) := by decide +kernel
theorem dX6_takeAway_59 : decode cX6_takeAway 59 = .ok (.aload_n 0, 1) := by decide +kernel
theorem dX6_takeAway_60 : decode cX6_takeAway 60 = .ok (.getfield 15, 3) := by decide +kernel
theorem dX6_takeAway_63 : decode cX6_takeAway 63 = .ok (.lconst 1, 1) := by decide +kernel
theorem dX6_takeAway_64 : decode cX6_takeAway 64 = .ok (.lsub, 1) := by decide +kernel
theorem dX6_takeAway_65 : decode cX6_takeAway 65 = .ok (.putfield 27, 3) := by decide +kernel
theorem dX6_takeAway_68 : decode cX6_takeAway 68 = .ok (.iconst 1, 1) := by decide +kernel
theorem dX6_takeAway_69 : decode cX6_takeAway 69 = .ok (.ireturn, 1) := by decide +kernel
theorem dX6_narrow_0 : decode cX6_narrow 0 = .ok (.aload_n 0, 1) := by decide +kernel
theorem dX6_narrow_1 : decode cX6_narrow 1 = .ok (.aload_n 0, 1) := by decide +kernel
theorem dX6_narrow_2 : decode cX6_narrow 2 = .ok (.getfield 9, 3) := by decide +kernel
theorem dX6_narrow_5 : decode cX6_narrow 5 = .ok (.aload_n 0, 1) := by decide +kernel
theorem dX6_narrow_6 : decode cX6_narrow 6 = .ok (.getfield 15, 3) := by decide +kernel
theorem dX6_narrow_9 : decode cX6_narrow 9 = .ok (.invokevirtual 39, 3) := by decide +kernel
theorem dX6_narrow_12 : decode cX6_narrow 12 = .ok (.iload_n 1, 1) := by decide +kernel
theorem dX6_narrow_13 : decode cX6_narrow 13 = .ok (.tableswitch 203 1 10 #[55, 95, 129, 203, 89, 203, 203, 203, 203, 169], 55) := by decide +kernel
theorem dX6_narrow_68 : decode cX6_narrow 68 = .ok (.aload_n 0, 1) := by decide +kernel
theorem dX6_narrow_69 : decode cX6_narrow 69 = .ok (.lload_n 2, 1) := by decide +kernel
theorem dX6_narrow_70 : decode cX6_narrow 70 = .ok (.lload_n 2, 1) := by decide +kernel
theorem dX6_narrow_71 : decode cX6_narrow 71 = .ok (.invokevirtual 39, 3) := by decide +kernel
theorem dX6_narrow_74 : decode cX6_narrow 74 = .ok (.lload_n 2, 1) := by decide +kernel
theorem dX6_narrow_75 : decode cX6_narrow 75 = .ok (.aload_n 0, 1) := by decide +kernel
theorem dX6_narrow_76 : decode cX6_narrow 76 = .ok (.getfield 9, 3) := by decide +kernel
theorem dX6_narrow_79 : decode cX6_narrow 79 = .ok (.invokestatic 68, 3) := by decide +kernel
theorem dX6_narrow_82 : decode cX6_narrow 82 = .ok (.ifCond .ne 18, 3) := by decide +kernel
theorem dX6_narrow_85 : decode cX6_narrow 85 = .ok (.aload_n 0, 1) := by decide +kernel
theorem dX6_narrow_86 : decode cX6_narrow 86 = .ok (.getfield 15, 3) := by decide +kernel
theorem dX6_narrow_89 : decode cX6_narrow 89 = .ok (.lload_n 2, 1) := by decide +kernel
theorem dX6_narrow_90 : decode cX6_narrow 90 = .ok (.invokestatic 68, 3) := by decide +kernel
theorem dX6_narrow_93 : decode cX6_narrow 93 = .ok (.ifCond .ne 7, 3) := by decide +kernel
theorem dX6_narrow_96 : decode cX6_narrow 96 = .ok (.iconst 1, 1) := by decide +kernel
theorem dX6_narrow_97 : decode cX6_narrow 97 = .ok (.goto 4, 3) := by decide +kernel
theorem dX6_narrow_100 : decode cX6_narrow 100 = .ok (.iconst 0, 1) := by decide +kernel
theorem dX6_narrow_101 : decode cX6_narrow 101 = .ok (.ireturn, 1) := by decide +kernel
theorem dX6_narrow_102 : decode cX6_narrow 102 = .ok (.aload_n 0, 1) := by decide +kernel
theorem dX6_narrow_103 : decode cX6_narrow 103 = .ok (.lload_n 2, 1) := by decide +kernel
theorem dX6_narrow_104 : decode cX6_narrow 104 = .ok (.invokevirtual 86, 3) := by decide +kernel
theorem dX6_narrow_107 : decode cX6_narrow 107 = .ok (.ireturn, 1) := by decide +kernel
theorem dX6_narrow_108 : decode cX6_narrow 108 = .ok (.aload_n 0, 1) := by decide +kernel
theorem dX6_narrow_109 : decode cX6_narrow 109 = .ok (.lload_n 2, 1) := by decide +kernel
theorem dX6_narrow_110 : decode cX6_narrow 110 = .ok (.aload_n 0, 1) := by decide +kernel
theorem dX6_narrow_111 : decode cX6_narrow 111 = .ok (.getfield 9, 3) := by decide +kernel
theorem dX6_narrow_114 : decode cX6_narrow 114 = .ok (.invokestatic 68, 3) := by decide +kernel
theorem dX6_narrow_117 : decode cX6_narrow 117 = .ok (.ifCond .eq 10, 3) := by decide +kernel
theorem dX6_narrow_120 : decode cX6_narrow 120 = .ok (.aload_n 0, 1) := by decide +kernel
theorem dX6_narrow_121 : decode cX6_narrow 121 = .ok (.getfield 9, 3) := by decide +kernel
theorem dX6_narrow_124 : decode cX6_narrow 124 = .ok (.goto 6, 3) := by decide +kernel
theorem dX6_narrow_127 : decode cX6_narrow 127 = .ok (.lload_n 2, 1) := by decide +kernel
theorem dX6_narrow_128 : decode cX6_narrow 128 = .ok (.lconst 1, 1) := by decide +kernel
theorem dX6_narrow_129 : decode cX6_narrow 129 = .ok (.ladd, 1) := by decide +kernel
theorem dX6_narrow_130 : decode cX6_narrow 130 = .ok (.putfield 24, 3) := by decide +kernel
theorem dX6_narrow_133 : decode cX6_narrow 133 = .ok (.lload_n 2, 1) := by decide +kernel
theorem dX6_narrow_134 : decode cX6_narrow 134 = .ok (.aload_n 0, 1) := by decide +kernel
theorem dX6_narrow_135 : decode cX6_narrow 135 = .ok (.getfield 15, 3) := by decide +kernel
theorem dX6_narrow_138 : decode cX6_narrow 138 = .ok (.invokestatic 68, 3) := by decide +kernel
theorem dX6_narrow_141 : decode cX6_narrow 141 = .ok (.ireturn, 1) := by decide +kernel
theorem dX6_narrow_142 : decode cX6_narrow 142 = .ok (.aload_n 0, 1) := by decide +kernel
theorem dX6_narrow_143 : decode cX6_narrow 143 = .ok (.lload_n 2, 1) := by decide +kernel
theorem dX6_narrow_144 : decode cX6_narrow 144 = .ok (.aload_n 0, 1) := by decide +kernel
theorem dX6_narrow_145 : decode cX6_narrow 145 = .ok (.getfield 9, 3) := by decide +kernel
theorem dX6_narrow_148 : decode cX6_narrow 148 = .ok (.invokestatic 68, 3) := by decide +kernel
theorem dX6_narrow_151 : decode cX6_narrow 151 = .ok (.ifCond .eq 10, 3) := by decide +kernel
theorem dX6_narrow_154 : decode cX6_narrow 154 = .ok (.aload_n 0, 1) := by decide +kernel
theorem dX6_narrow_155 : decode cX6_narrow 155 = .ok (.getfield 9, 3) := by decide +kernel
theorem dX6_narrow_158 : decode cX6_narrow 158 = .ok (.goto 4, 3) := by decide +kernel
theorem dX6_narrow_161 : decode cX6_narrow 161 = .ok (.lload_n 2, 1) := by decide +kernel
theorem dX6_narrow_162 : decode cX6_narrow 162 = .ok (.putfield 24, 3) := by decide +kernel
theorem dX6_narrow_165 : decode cX6_narrow 165 = .ok (.aload_n 0, 1) := by decide +kernel
theorem dX6_narrow_166 : decode cX6_narrow 166 = .ok (.getfield 15, 3) := by decide +kernel
theorem dX6_narrow_169 : decode cX6_narrow 169 = .ok (.lload_n 2, 1) := by decide +kernel
theorem dX6_narrow_170 : decode cX6_narrow 170 = .ok (.invokestatic 68, 3) := by decide +kernel
theorem dX6_narrow_173 : decode cX6_narrow 173 = .ok (.ifCond .ne 7, 3) := by decide +kernel
theorem dX6_narrow_176 : decode cX6_narrow 176 = .ok (.iconst 1, 1) := by decide +kernel
theorem dX6_narrow_177 : decode cX6_narrow 177 = .ok (.goto 4, 3) := by decide +kernel
theorem dX6_narrow_180 : decode cX6_narrow 180 = .ok (.iconst 0, 1) := by decide +kernel
theorem dX6_narrow_181 : decode cX6_narrow 181 = .ok (.ireturn, 1) := by decide +kernel
theorem dX6_narrow_182 : decode cX6_narrow 182 = .ok (.aload_n 0, 1) := by decide +kernel
theorem dX6_narrow_183 : decode cX6_narrow 183 = .ok (.aload_n 0, 1) := by decide +kernel
theorem dX6_narrow_184 : decode cX6_narrow 184 = .ok (.getfield 15, 3) := by decide +kernel
theorem dX6_narrow_187 : decode cX6_narrow 187 = .ok (.lload_n 2, 1) := by decide +kernel
theorem dX6_narrow_188 : decode cX6_narrow 188 = .ok (.invokestatic 68, 3) := by decide +kernel
theorem dX6_narrow_191 : decode cX6_narrow 191 = .ok (.ifCond .eq 10, 3) := by decide +kernel
theorem dX6_narrow_194 : decode cX6_narrow 194 = .ok (.aload_n 0, 1) := by decide +kernel
theorem dX6_narrow_195 : decode cX6_narrow 195 = .ok (.getfield 15, 3) := by decide +kernel
theorem dX6_narrow_198 : decode cX6_narrow 198 = .ok (.goto 6, 3) := by decide +kernel
theorem dX6_narrow_201 : decode cX6_narrow 201 = .ok (.lload_n 2, 1) := by decide +kernel
theorem dX6_narrow_202 : decode cX6_narrow 202 = .ok (.lconst 1, 1) := by decide +kernel
theorem dX6_narrow_203 : decode cX6_narrow 203 = .ok (.lsub, 1) := by decide +kernel
theorem dX6_narrow_204 : decode cX6_narrow 204 = .ok (.putfield 27, 3) := by decide +kernel
theorem dX6_narrow_207 : decode cX6_narrow 207 = .ok (.aload_n 0, 1) := by decide +kernel
theorem dX6_narrow_208 : decode cX6_narrow 208 = .ok (.getfield 9, 3) := by decide +kernel
theorem dX6_narrow_211 : decode cX6_narrow 211 = .ok (.lload_n 2, 1) := by decide +kernel
theorem dX6_narrow_212 : decode cX6_narrow 212 = .ok (.invokestatic 68, 3) := by decide +kernel
theorem dX6_narrow_215 : decode cX6_narrow 215 = .ok (.ireturn, 1) := by decide +kernel
theorem dX6_narrow_216 : decode cX6_narrow 216 = .ok (.aload_n 0, 1) := by decide +kernel
theorem dX6_narrow_217 : decode cX6_narrow 217 = .ok (.aload_n 0, 1) := by decide +kernel
theorem dX6_narrow_218 : decode cX6_narrow 218 = .ok (.getfield 15, 3) := by decide +kernel
theorem dX6_narrow_221 : decode cX6_narrow 221 = .ok (.lload_n 2, 1) := by decide +kernel
theorem dX6_narrow_222 : decode cX6_narrow 222 = .ok (.invokestatic 68, 3) := by decide +kernel
theorem dX6_narrow_225 : decode cX6_narrow 225 = .ok (.ifCond .eq 10, 3) := by decide +kernel
theorem dX6_narrow_228 : decode cX6_narrow 228 = .ok (.aload_n 0, 1) := by decide +kernel
theorem dX6_narrow_229 : decode cX6_narrow 229 = .ok (.getfield 15, 3) := by decide +kernel
theorem dX6_narrow_232 : decode cX6_narrow 232 = .ok (.goto 4, 3) := by decide +kernel
theorem dX6_narrow_235 : decode cX6_narrow 235 = .ok (.lload_n 2, 1) := by decide +kernel
theorem dX6_narrow_236 : decode cX6_narrow 236 = .ok (.putfield 27, 3) := by decide +kernel
theorem dX6_narrow_239 : decode cX6_narrow 239 = .ok (.lload_n 2, 1) := by decide +kernel
theorem dX6_narrow_240 : decode cX6_narrow 240 = .ok (.aload_n 0, 1) := by decide +kernel
theorem dX6_narrow_241 : decode cX6_narrow 241 = .ok (.getfield 9, 3) := by decide +kernel
theorem dX6_narrow_244 : decode cX6_narrow 244 = .ok (.invokestatic 68, 3) := by decide +kernel
theorem dX6_narrow_247 : decode cX6_narrow 247 = .ok (.ifCond .ne 7, 3) := by decide +kernel
theorem dX6_narrow_250 : decode cX6_narrow 250 = .ok (.iconst 1, 1) := by decide +kernel
theorem dX6_narrow_251 : decode cX6_narrow 251 = .ok (.goto 4, 3) := by decide +kernel
theorem dX6_narrow_254 : decode cX6_narrow 254 = .ok (.iconst 0, 1) := by decide +kernel
theorem dX6_narrow_255 : decode cX6_narrow 255 = .ok (.ireturn, 1) := by decide +kernel
-- JudgedCode$Span.<init>
def f_X6_init (S : sh) (o0 : Nat) (D : dt) : Option (Unit × dt) := some ((), D)
-- JudgedCode$Span.first
def f_X6_first (S : sh) (o0 : Nat) (x1 : Int64) (x3 : Int64) (D : dt) : Option (Unit × dt) := nm (pL D o0 2 x1) fun D3 => nm (pL D3 o0 3 x3) fun D4 => some ((), D4)
-- JudgedCode$Span.second
def f_X6_second (S : sh) (o0 : Nat) (x1 : Int64) (x3 : Int64) (D : dt) : Option (Unit × dt) := nm (pL D o0 4 x1) fun D3 => nm (pL D3 o0 5 x3) fun D4 => some ((), D4)
-- JudgedCode$Span.become
def f_X6_become (S : sh) (o0 : Nat) (x1 : Int64) (x3 : Int64) (D : dt) : Option (Unit × dt) := nm (pL D o0 0 x1) fun D3 => nm (pL D3 o0 1 x3) fun D4 => some ((), D4)
-- JudgedCode$Span.turn
def f_X6_turn_50 (S : sh) (os0 : Nat) (xs1 : Int64) (xs2 : Int64) (D : dt) : Option (Unit × dt) := cq (f_X6_become S os0 xs1 xs2 D) fun _ D10 => some ((), D10)
def f_X6_turn (S : sh) (o0 : Nat) (x1 : Int32) (x2 : Int32) (D : dt) : Option (Unit × dt) := if (lg_cmp (gL D o0 2) (gL D o0 3)) = 0 then (pq (f_X3_turn (gL D o0 2) x1 x2) fun r14 => cq (f_X6_become S o0 r14 r14 D) fun _ D16 => some ((), D16)) else (if x1 = (64 : Int32) then (f_X6_turn_50 S o0 (0 : Int64) (-1 : Int64) D) else (f_X6_turn_50 S o0 (0 : Int64) ((j_lshl (1 : Int64) x1) - (1 : Int64)) D))
-- JudgedCode$Span.cutHalves
def f_X6_cutHalves_56 (S : sh) (o0 : Nat) (D : dt) : Option (Unit × dt) := if (lg_cmp (gL D o0 4) (gL D o0 5)) = 0 then (cq (f_X6_second S o0 ((gL D o0 4) &&& (4294967295 : Int64)) ((gL D o0 5) &&& (4294967295 : Int64)) D) fun _ D24 => some ((), D24)) else (pq (f_X3_below (4294967295 : Int64) (gL D o0 5)) fun r19 => if r19 = 0 then (some ((), D)) else (cq (f_X6_second S o0 (0 : Int64) (4294967295 : Int64) D) fun _ D22 => some ((), D22)))
def f_X6_cutHalves (S : sh) (o0 : Nat) (D : dt) : Option (Unit × dt) := if (lg_cmp (gL D o0 2) (gL D o0 3)) = 0 then (cq (f_X6_first S o0 ((gL D o0 2) &&& (4294967295 : Int64)) ((gL D o0 3) &&& (4294967295 : Int64)) D) fun _ D32 => f_X6_cutHalves_56 S o0 D32) else (pq (f_X3_below (4294967295 : Int64) (gL D o0 3)) fun r27 => if r27 = 0 then (f_X6_cutHalves_56 S o0 D) else (cq (f_X6_first S o0 (0 : Int64) (4294967295 : Int64) D) fun _ D30 => f_X6_cutHalves_56 S o0 D30))
-- JudgedCode$Span.becomeAll
def f_X6_becomeAll (S : sh) (o0 : Nat) (D : dt) : Option (Unit × dt) := nm (pL D o0 0 (0 : Int64)) fun D3 => nm (pL D3 o0 1 (gL D3 o0 6)) fun D4 => some ((), D4)
-- JudgedCode$Span.makeDivided
def f_X6_makeDivided_33 (S : sh) (o0 : Nat) (D : dt) : Option (Unit × dt) := cq (f_X6_become S o0 (0 : Int64) (gL D o0 3) D) fun _ D23 => some ((), D23)
def f_X6_makeDivided (S : sh) (o0 : Nat) (x1 : Int32) (x2 : Int32) (D : dt) : Option (Unit × dt) := if x2 = (1 : Int32) then (cq (f_X6_becomeAll S o0 D) fun _ D42 => some ((), D42)) else (if (lg_cmp (gL D o0 4) (gL D o0 5)) = 0 then (if (lg_cmp (gL D o0 4) (0 : Int64)) = 0 then (f_X6_makeDivided_33 S o0 D) else (if x1 = (3 : Int32) then (pq (f_X3_quotient (gL D o0 2) (gL D o0 4)) fun r36 => pq (f_X3_quotient (gL D o0 3) (gL D o0 4)) fun r38 => cq (f_X6_become S o0 r36 r38 D) fun _ D40 => some ((), D40)) else (pq (f_X3_below (gL D o0 3) (gL D o0 4)) fun r29 => if r29 = 0 then (cq (f_X6_become S o0 (0 : Int64) ((gL D o0 4) - (1 : Int64)) D) fun _ D32 => some ((), D32)) else (cq (f_X6_become S o0 (gL D o0 2) (gL D o0 3) D) fun _ D34 => some ((), D34))))) else (f_X6_makeDivided_33 S o0 D))
-- JudgedCode$Span.makeShifted
def f_X6_makeShifted_90 (S : sh) (D : dt) : Option (Unit × dt) := some ((), D)
def f_X6_makeShifted_86 (S : sh) (o0 : Nat) (D : dt) : Option (Unit × dt) := cq (f_X6_becomeAll S o0 D) fun _ D26 => f_X6_makeShifted_90 S D26
def f_X6_makeShifted_122 (S : sh) (o0 : Nat) (x3 : Int64) (D : dt) : Option (Unit × dt) := if (lg_cmp (gL D o0 4) (gL D o0 5)) = 0 then (cq (f_X6_become S o0 (j_lushr (gL D o0 2) x3.toInt32) (j_lushr (gL D o0 3) x3.toInt32) D) fun _ D31 => some ((), D31)) else (cq (f_X6_become S o0 (0 : Int64) (gL D o0 3) D) fun _ D29 => some ((), D29))
def f_X6_makeShifted_15 (S : sh) (o0 : Nat) (x1 : Int32) (xs0 : Int64) (xs1 : Int32) (D : dt) : Option (Unit × dt) := nm (xs0 &&& xs1.toInt64) fun y32 => if x1 = (6 : Int32) then (nm (j_lshl (gL D o0 3) y32.toInt32) fun y40 => if (lg_cmp (gL D o0 4) (gL D o0 5)) = 0 then (if (lg_cmp (j_lushr y40 y32.toInt32) (gL D o0 3)) = 0 then (pq (f_X3_below (gL D o0 6) y40) fun r44 => if r44 = 0 then (cq (f_X6_become S o0 (j_lshl (gL D o0 2) y32.toInt32) y40 D) fun _ D47 => f_X6_makeShifted_90 S D47) else (f_X6_makeShifted_86 S o0 D)) else (f_X6_makeShifted_86 S o0 D)) else (f_X6_makeShifted_86 S o0 D)) else (if x1 = (12 : Int32) then (pq (f_X3_below (j_lushr (gL D o0 6) (1 : Int32)) (gL D o0 3)) fun r36 => if r36 = 0 then (f_X6_makeShifted_122 S o0 y32 D) else (cq (f_X6_becomeAll S o0 D) fun _ D39 => some ((), D39))) else (f_X6_makeShifted_122 S o0 y32 D))
def f_X6_makeShifted (S : sh) (o0 : Nat) (x1 : Int32) (x2 : Int32) (D : dt) : Option (Unit × dt) := if x2 = 0 then (f_X6_makeShifted_15 S o0 x1 (gL D o0 4) (31 : Int32) D) else (f_X6_makeShifted_15 S o0 x1 (gL D o0 4) (63 : Int32) D)
-- JudgedCode$Span.onesFor
def f_X6_onesFor_5 : Nat → Int64 → Int32 → Option Int64
  | 0, _, _ => none
  | n + 1, x2, x4 => if (64 : Int32) ≤ x4 then (some x2) else (nm (x2 ||| (j_lushr x2 x4)) fun y6 => nm (x4 * (2 : Int32)) fun y7 => f_X6_onesFor_5 n y6 y7)
def f_X6_onesFor (x0 : Int64) : Option Int64 := nm ((1 : Int32)) fun y8 => f_X6_onesFor_5 LF x0 y8
-- JudgedCode$Span.makeOther
def f_X6_makeOther_315 (S : sh) (x3 : Int64) (os0 : Nat) (xs1 : Int64) (D : dt) : Option (Unit × dt) := pq (f_X6_onesFor x3) fun r70 => cq (f_X6_become S os0 xs1 r70 D) fun _ D72 => some ((), D72)
def f_X6_makeOther_148 (S : sh) (o0 : Nat) (D : dt) : Option (Unit × dt) := cq (f_X6_becomeAll S o0 D) fun _ D74 => some ((), D74)
def f_X6_makeOther_375 (S : sh) (o0 : Nat) (D : dt) : Option (Unit × dt) := cq (f_X6_becomeAll S o0 D) fun _ D76 => some ((), D76)
def f_X6_makeOther_249 (S : sh) (o0 : Nat) (D : dt) : Option (Unit × dt) := cq (f_X6_becomeAll S o0 D) fun _ D78 => some ((), D78)
def f_X6_makeOther_283 (S : sh) (os0 : Nat) (xs1 : Int64) (xs2 : Int64) (D : dt) : Option (Unit × dt) := cq (f_X6_become S os0 xs1 xs2 D) fun _ D80 => some ((), D80)
def f_X6_makeOther_25 (S : sh) (o0 : Nat) (x1 : Int32) (x2 : Int32) (xs0 : Int64) (D : dt) : Option (Unit × dt) := if x1 = 0 then (cq (f_X6_become S o0 ((gL D o0 2) + (gL D o0 4)) ((gL D o0 3) + (gL D o0 5)) D) fun _ D83 => pq (f_X3_below ((gL D83 o0 3) + (gL D83 o0 5)) (gL D83 o0 3)) fun r85 => if r85 = 0 then (pq (f_X3_below (gL D83 o0 6) ((gL D83 o0 3) + (gL D83 o0 5))) fun r88 => if r88 = 0 then (some ((), D83)) else (f_X6_makeOther_148 S o0 D83)) else (f_X6_makeOther_148 S o0 D83)) else if x1 = 1 then (cq (f_X6_become S o0 ((gL D o0 2) - (gL D o0 5)) ((gL D o0 3) - (gL D o0 4)) D) fun _ D92 => pq (f_X3_below (gL D92 o0 2) (gL D92 o0 5)) fun r94 => if r94 = 0 then (some ((), D92)) else (cq (f_X6_becomeAll S o0 D92) fun _ D97 => some ((), D97))) else if x1 = 2 then (cq (f_X6_become S o0 ((gL D o0 2) * (gL D o0 4)) ((gL D o0 3) * (gL D o0 5)) D) fun _ D100 => pq (f_X3_below (4294967295 : Int64) xs0) fun r102 => if r102 = 0 then (pq (f_X3_below (gL D100 o0 6) ((gL D100 o0 3) * (gL D100 o0 5))) fun r105 => if r105 = 0 then (some ((), D100)) else (f_X6_makeOther_249 S o0 D100)) else (f_X6_makeOther_249 S o0 D100)) else if x1 = 3 then (f_X6_makeOther_375 S o0 D) else if x1 = 4 then (pq (f_X3_below (gL D o0 2) (gL D o0 4)) fun r110 => if r110 = 0 then (f_X6_makeOther_315 S xs0 o0 (gL D o0 2) D) else (f_X6_makeOther_315 S xs0 o0 (gL D o0 4) D)) else if x1 = 5 then (pq (f_X3_below (gL D o0 3) (gL D o0 5)) fun r114 => if r114 = 0 then (f_X6_makeOther_283 S o0 (0 : Int64) (gL D o0 5) D) else (f_X6_makeOther_283 S o0 (0 : Int64) (gL D o0 3) D)) else if x1 = 6 then (f_X6_makeOther_375 S o0 D) else if x1 = 7 then (f_X6_makeOther_375 S o0 D) else if x1 = 8 then (f_X6_makeOther_375 S o0 D) else if x1 = 9 then (f_X6_makeOther_375 S o0 D) else if x1 = 10 then (pq (f_X6_onesFor xs0) fun r122 => cq (f_X6_become S o0 (0 : Int64) r122 D) fun _ D124 => some ((), D124)) else if x1 = 11 then (cq (f_X6_become S o0 (gL D o0 4) (gL D o0 5) D) fun _ D127 => if x2 = 0 then (some ((), D127)) else (pq (f_X3_below (gL D127 o0 5) (j_lshl (1 : Int64) (x2 - (1 : Int32)))) fun r130 => if r130 = 0 then (cq (f_X6_becomeAll S o0 D127) fun _ D133 => some ((), D133)) else (some ((), D127)))) else (f_X6_makeOther_375 S o0 D)
def f_X6_makeOther (S : sh) (o0 : Nat) (x1 : Int32) (x2 : Int32) (D : dt) : Option (Unit × dt) := pq (f_X3_below (gL D o0 3) (gL D o0 5)) fun r135 => if r135 = 0 then (f_X6_makeOther_25 S o0 x1 x2 (gL D o0 3) D) else (f_X6_makeOther_25 S o0 x1 x2 (gL D o0 5) D)
-- JudgedCode$Span.make
def f_X6_make_114 (S : sh) (o0 : Nat) (x1 : Int32) (x2 : Int32) (D : dt) : Option (Unit × dt) := cq (f_X6_makeShifted S o0 x1 x2 D) fun _ D24 => some ((), D24)
def f_X6_make_87 (S : sh) (o0 : Nat) (x1 : Int32) (x3 : Int32) (D : dt) : Option (Unit × dt) := cq (f_X6_makeDivided S o0 x1 x3 D) fun _ D26 => some ((), D26)
def f_X6_make_76 (S : sh) (o0 : Nat) (x1 : Int32) (x2 : Int32) (x3 : Int32) (D : dt) : Option (Unit × dt) := if x1 = (3 : Int32) then (f_X6_make_87 S o0 x1 x3 D) else (if x1 = (9 : Int32) then (f_X6_make_87 S o0 x1 x3 D) else (if x1 = (6 : Int32) then (f_X6_make_114 S o0 x1 x2 D) else (if x1 = (7 : Int32) then (f_X6_make_114 S o0 x1 x2 D) else (if x1 = (12 : Int32) then (f_X6_make_114 S o0 x1 x2 D) else (cq (f_X6_makeOther S o0 x1 x3 D) fun _ D33 => some ((), D33))))))
def f_X6_make_25 (S : sh) (o0 : Nat) (x1 : Int32) (x2 : Int32) (x3 : Int32) (D : dt) : Option (Unit × dt) := if (lg_cmp (gL D o0 2) (gL D o0 3)) = 0 then (if (lg_cmp (gL D o0 4) (gL D o0 5)) = 0 then (pq (f_X3_make x1 x2 x3 (gL D o0 2) (gL D o0 4)) fun r37 => cq (f_X6_become S o0 r37 r37 D) fun _ D39 => some ((), D39)) else (f_X6_make_76 S o0 x1 x2 x3 D)) else (f_X6_make_76 S o0 x1 x2 x3 D)
def f_X6_make_14 (S : sh) (o0 : Nat) (x1 : Int32) (x2 : Int32) (x3 : Int32) (os0 : Nat) (xs1 : Int64) (D : dt) : Option (Unit × dt) := nm (pL D os0 6 xs1) fun D40 => if x2 = 0 then (cq (f_X6_cutHalves S o0 D40) fun _ D43 => f_X6_make_25 S o0 x1 x2 x3 D43) else (f_X6_make_25 S o0 x1 x2 x3 D40)
def f_X6_make (S : sh) (o0 : Nat) (x1 : Int32) (x2 : Int32) (x3 : Int32) (D : dt) : Option (Unit × dt) := if x2 = 0 then (f_X6_make_14 S o0 x1 x2 x3 o0 (4294967295 : Int64) D) else (f_X6_make_14 S o0 x1 x2 x3 o0 (-1 : Int64) D)
-- JudgedCode$Span.takeAway
def f_X6_takeAway (S : sh) (o0 : Nat) (x1 : Int64) (D : dt) : Option (Int32 × dt) := if (lg_cmp (gL D o0 2) (gL D o0 3)) = 0 then (if (lg_cmp (gL D o0 2) x1) = 0 then (some ((0 : Int32), D)) else (some ((1 : Int32), D))) else (if (lg_cmp (gL D o0 2) x1) = 0 then (nm (pL D o0 0 ((gL D o0 2) + (1 : Int64))) fun D11 => some ((1 : Int32), D11)) else (if (lg_cmp (gL D o0 3) x1) = 0 then (nm (pL D o0 1 ((gL D o0 3) - (1 : Int64))) fun D10 => some ((1 : Int32), D10)) else (some ((1 : Int32), D))))
-- JudgedCode$Span.narrow
def f_X6_narrow_236 (S : sh) (o0 : Nat) (x2 : Int64) (os0 : Nat) (xs1 : Int64) (D : dt) : Option (Int32 × dt) := nm (pL D os0 1 xs1) fun D53 => pq (f_X3_below x2 (gL D53 o0 2)) fun r55 => if r55 = 0 then (some ((1 : Int32), D53)) else (some ((0 : Int32), D53))
def f_X6_narrow_216 (S : sh) (o0 : Nat) (x2 : Int64) (D : dt) : Option (Int32 × dt) := pq (f_X3_below (gL D o0 3) x2) fun r58 => if r58 = 0 then (f_X6_narrow_236 S o0 x2 o0 x2 D) else (f_X6_narrow_236 S o0 x2 o0 (gL D o0 3) D)
def f_X6_narrow_162 (S : sh) (o0 : Nat) (x2 : Int64) (os0 : Nat) (xs1 : Int64) (D : dt) : Option (Int32 × dt) := nm (pL D os0 0 xs1) fun D60 => pq (f_X3_below (gL D60 o0 3) x2) fun r62 => if r62 = 0 then (some ((1 : Int32), D60)) else (some ((0 : Int32), D60))
def f_X6_narrow_204 (S : sh) (o0 : Nat) (x2 : Int64) (os0 : Nat) (xs1 : Int64) (D : dt) : Option (Int32 × dt) := nm (pL D os0 1 xs1) fun D64 => pq (f_X3_below (gL D64 o0 2) x2) fun r66 => ck (r66 = 0 ∨ r66 = 1) <| some (r66, D64)
def f_X6_narrow_130 (S : sh) (o0 : Nat) (x2 : Int64) (os0 : Nat) (xs1 : Int64) (D : dt) : Option (Int32 × dt) := nm (pL D os0 0 xs1) fun D68 => pq (f_X3_below x2 (gL D68 o0 3)) fun r70 => ck (r70 = 0 ∨ r70 = 1) <| some (r70, D68)
def f_X6_narrow (S : sh) (o0 : Nat) (x1 : Int32) (x2 : Int64) (D : dt) : Option (Int32 × dt) := cq (f_X6_become S o0 (gL D o0 2) (gL D o0 3) D) fun _ D73 => if x1 = 1 then (cq (f_X6_become S o0 x2 x2 D73) fun _ D76 => pq (f_X3_below x2 (gL D76 o0 2)) fun r78 => if r78 = 0 then (pq (f_X3_below (gL D76 o0 3) x2) fun r81 => if r81 = 0 then (some ((1 : Int32), D76)) else (some ((0 : Int32), D76))) else (some ((0 : Int32), D76))) else if x1 = 2 then (pq (f_X3_below x2 (gL D73 o0 2)) fun r85 => if r85 = 0 then (f_X6_narrow_130 S o0 x2 o0 (x2 + (1 : Int64)) D73) else (f_X6_narrow_130 S o0 x2 o0 (gL D73 o0 2) D73)) else if x1 = 3 then (pq (f_X3_below x2 (gL D73 o0 2)) fun r89 => if r89 = 0 then (f_X6_narrow_162 S o0 x2 o0 x2 D73) else (f_X6_narrow_162 S o0 x2 o0 (gL D73 o0 2) D73)) else if x1 = 4 then (f_X6_narrow_216 S o0 x2 D73) else if x1 = 5 then (cq (f_X6_takeAway S o0 x2 D73) fun r94 D95 => ck (r94 = 0 ∨ r94 = 1) <| some (r94, D95)) else if x1 = 6 then (f_X6_narrow_216 S o0 x2 D73) else if x1 = 7 then (f_X6_narrow_216 S o0 x2 D73) else if x1 = 8 then (f_X6_narrow_216 S o0 x2 D73) else if x1 = 9 then (f_X6_narrow_216 S o0 x2 D73) else if x1 = 10 then (pq (f_X3_below (gL D73 o0 3) x2) fun r103 => if r103 = 0 then (f_X6_narrow_204 S o0 x2 o0 (x2 - (1 : Int64)) D73) else (f_X6_narrow_204 S o0 x2 o0 (gL D73 o0 3) D73)) else (f_X6_narrow_216 S o0 x2 D73)
theorem mk_X6_init : MkI yX6_init cX6_init 1 0 := ⟨⟨lk_290, lk_120, (tb_in (i := 291) (by decide +kernel) (by decide +kernel))⟩, rfl, by decide +kernel⟩
theorem mk_X6_first : MkV yX6_first RX6 cX6_first 5 none 2 := ⟨⟨lk_679, lk_680, lk_120, (tb_in (i := 681) (by decide +kernel) (by decide +kernel))⟩, by decide +kernel⟩
theorem mk_X6_second : MkV yX6_second RX6 cX6_second 5 none 2 := ⟨⟨lk_683, lk_684, lk_120, (tb_in (i := 685) (by decide +kernel) (by decide +kernel))⟩, by decide +kernel⟩
theorem mk_X6_become : MkV yX6_become RX6 cX6_become 5 none 2 := ⟨⟨lk_696, lk_24, lk_120, (tb_in (i := 697) (by decide +kernel) (by decide +kernel))⟩, by decide +kernel⟩
theorem mk_X6_turn : MkV yX6_turn RX6 cX6_turn 5 none 2 := ⟨⟨lk_687, lk_688, lk_120, (tb_in (i := 689) (by decide +kernel) (by decide +kernel))⟩, by decide +kernel⟩
theorem mk_X6_cutHalves : MkV yX6_cutHalves RX6 cX6_cutHalves 1 none 0 := ⟨⟨lk_706, lk_25, lk_120, (tb_in (i := 707) (by decide +kernel) (by decide +kernel))⟩, by decide +kernel⟩
theorem mk_X6_becomeAll : MkV yX6_becomeAll RX6 cX6_becomeAll 1 none 0 := ⟨⟨lk_740, lk_27, lk_120, (tb_in (i := 741) (by decide +kernel) (by decide +kernel))⟩, by decide +kernel⟩
theorem mk_X6_makeDivided : MkV yX6_makeDivided RX6 cX6_makeDivided 3 none 2 := ⟨⟨lk_736, lk_26, lk_120, (tb_in (i := 737) (by decide +kernel) (by decide +kernel))⟩, by decide +kernel⟩
theorem mk_X6_makeShifted : MkV yX6_makeShifted RX6 cX6_makeShifted 7 none 2 := ⟨⟨lk_745, lk_28, lk_120, (tb_in (i := 746) (by decide +kernel) (by decide +kernel))⟩, by decide +kernel⟩
theorem mk_X6_onesFor : MkS yX6_onesFor cX6_onesFor 5 (some .long) 1 := ⟨⟨lk_752, lk_120, (tb_in (i := 753) (by decide +kernel) (by decide +kernel))⟩, by decide +kernel⟩
theorem mk_X6_makeOther : MkV yX6_makeOther RX6 cX6_makeOther 5 none 2 := ⟨⟨lk_749, lk_29, lk_120, (tb_in (i := 750) (by decide +kernel) (by decide +kernel))⟩, by decide +kernel⟩
theorem mk_X6_make : MkV yX6_make RX6 cX6_make 6 none 3 := ⟨⟨lk_700, lk_701, lk_120, (tb_in (i := 702) (by decide +kernel) (by decide +kernel))⟩, by decide +kernel⟩
theorem mk_X6_takeAway : MkV yX6_takeAway RX6 cX6_takeAway 3 (some .boolean) 1 := ⟨⟨lk_826, lk_39, lk_120, (tb_in (i := 827) (by decide +kernel) (by decide +kernel))⟩, by decide +kernel⟩
theorem mk_X6_narrow : MkV yX6_narrow RX6 cX6_narrow 4 (some .boolean) 2 := ⟨⟨lk_821, lk_822, lk_120, (tb_in (i := 823) (by decide +kernel) (by decide +kernel))⟩, by decide +kernel⟩
section
variable {p : Program} {l : Launch} {e : Env} {R : Room} {s : State} {m : MethodId} {args : Array Value} {below : List Frame} {meth : Method} {c : Code} {H : Heap} {locs : List Loc} {G : va_G} {cA : Nat → ClassId} {S : sh} {D : dt} {ad : Nat → Nat} {A : Nat → Prop}
set_option maxHeartbeats 4000000 in
set_option maxRecDepth 100000 in
theorem w_X6_init_0 {r : Unit} {D' : dt} (hC : Cx RX6 cX6_init 1 none p s m args meth c) (hin : meth.name = "<init>") (hR : 1 ≤ R.frames ∧ 20 ≤ R.locals) : ∀ (o0 a0 : Nat) (D : dt) (H : Heap) (locs : List Loc) (ls : Array Slot), Is S ad o0 a0 5 → Wd G cA S D ad A s H locs → lv_has ls 1 [(0, .ref a0)] → f_X6_init S o0 D = some (r, D') → W p l e R s m args below meth c H locs 0 0 (MQ below (Qn none True (wpost G cA S D' ad A) A) args s 0 0 A) (F0 m 0 ls []) := by
  obtain ⟨hx, hb, -⟩ := id hC
  intro o0 a0 D H locs ls hi0 hw hl h
  unfold f_X6_init at h
  refine lv_aload_n hx hb dX6_init_0 rfl (lv_at hl 0 rfl) ?_
  refine W.objInit hx hb hC.2.2.2.1 (hC.2.2.2.2.1 _ lk_292) (hC.2.2.2.2.1 _ lk_133) (hC.2.2.2.2.1 _ cd_obj) rfl (by rw [hC.2.2.1]; exact hl.1) rfl dX6_init_1 (Nat.le_trans (by decide) hR.1) (Nat.le_trans (Nat.le_of_ble_eq_true rfl) hR.2) ?_
  refine W.eq (g2 := F0 m 4 ls []) rfl ?_
  cases h
  exact r_vret hC hw dX6_init_4
set_option maxHeartbeats 4000000 in
set_option maxRecDepth 100000 in
theorem k_X6_init {l : Launch} {G : va_G} {cA : Nat → ClassId} {S : sh} {D D' : dt} {ad : Nat → Nat} (sz : Nat) {o0 a0 : Nat} {r : Unit} (hi0 : Is S ad o0 a0 5) (h : f_X6_init S o0 D = some (r, D')) : Co l yX6_init (Cond.code yX6_init cX6_init 1 none :: tb0) 1 20 [.ref a0] G cA S D ad sz none True D' := by
  refine Met.ofW (cc := cX6_init) (maxL := 1) (ret := none) (by decide) rfl ?_
  intro p e s m args below meth c s₁ B hml hv
  obtain ⟨rfl, hsz, hP, hK, hD0, hT, hX⟩ := hv
  subst hsz
  have hts := atoms_spec (ws := Cond.code yX6_init cX6_init 1 none :: tb0) B.pre
  have hC : Cx RX6 cX6_init 1 none p s m _ meth c := ⟨B.exec, B.bytes, hml, findClass_of_methodNamed B.named, fun w q => hts w (List.mem_cons_of_mem _ q), B.returns, B.notSynchronized⟩
  have hin : meth.name = "<init>" := (name_of_methodNamed B.named B.method).1
  have hw := Wd.entry hP hK hD0 hT hX
  have hl := lv_entry ([.ref a0]) (n := 1) (Nat.le_of_ble_eq_true rfl)
  rw [lg_entry_eq]
  exact w_X6_init_0 hC hin ⟨Nat.le_refl _, Nat.le_refl _⟩ o0 a0 D _ _ _ hi0 hw hl h
set_option maxHeartbeats 4000000 in
set_option maxRecDepth 100000 in
theorem w_X6_first_0 {r : Unit} {D' : dt} (hC : Cx RX6 cX6_first 5 none p s m args meth c) (hR : 0 ≤ R.frames ∧ 0 ≤ R.locals) : ∀ (o0 a0 : Nat) (x1 : Int64) (x3 : Int64) (D : dt) (H : Heap) (locs : List Loc) (ls : Array Slot), Is S ad o0 a0 5 → Wd G cA S D ad A s H locs → lv_has ls 5 [(0, .ref a0), (1, .long x1), (3, .long x3)] → f_X6_first S o0 x1 x3 D = some (r, D') → W p l e R s m args below meth c H locs 0 0 (MQ below (Qn none True (wpost G cA S D' ad A) A) args s 0 0 A) (F0 m 0 ls []) := by
  obtain ⟨hx, hb, -⟩ := id hC
  intro o0 a0 x1 x3 D H locs ls hi0 hw hl h
  unfold f_X6_first at h
  refine lv_aload_n hx hb dX6_first_0 rfl (lv_at hl 0 rfl) ?_
  refine lv_lload_n hx hb dX6_first_1 rfl (lv_at hl 1 rfl) ?_
  refine r_pL hC hw kc_5 hi0 2 rfl lk_297 rfl rfl rfl dX6_first_2 (fun D3 eD3 H locs hw => ?_)
  have h := nm_i h D3 eD3
  refine lv_aload_n hx hb dX6_first_5 rfl (lv_at hl 0 rfl) ?_
  refine lv_lload_n hx hb dX6_first_6 rfl (lv_at hl 2 rfl) ?_
  refine r_pL hC hw kc_5 hi0 3 rfl lk_298 rfl rfl rfl dX6_first_7 (fun D4 eD4 H locs hw => ?_)
  have h := nm_i h D4 eD4
  cases h
  exact r_vret hC hw dX6_first_10
set_option maxHeartbeats 4000000 in
set_option maxRecDepth 100000 in
theorem k_X6_first {l : Launch} {G : va_G} {cA : Nat → ClassId} {S : sh} {D D' : dt} {ad : Nat → Nat} (sz : Nat) {o0 a0 : Nat} {x1 : Int64} {x3 : Int64} {r : Unit} (hi0 : Is S ad o0 a0 5) (h : f_X6_first S o0 x1 x3 D = some (r, D')) : Co l yX6_first (Cond.code yX6_first cX6_first 5 none :: tb0) 0 0 [.ref a0, .long x1, .long x3] G cA S D ad sz none True D' := by
  refine Met.ofW (cc := cX6_first) (maxL := 5) (ret := none) (by decide) rfl ?_
  intro p e s m args below meth c s₁ B hml hv
  obtain ⟨rfl, hsz, hP, hK, hD0, hT, hX⟩ := hv
  subst hsz
  have hts := atoms_spec (ws := Cond.code yX6_first cX6_first 5 none :: tb0) B.pre
  have hC : Cx RX6 cX6_first 5 none p s m _ meth c := ⟨B.exec, B.bytes, hml, findClass_of_methodNamed B.named, fun w q => hts w (List.mem_cons_of_mem _ q), B.returns, B.notSynchronized⟩
  have hw := Wd.entry hP hK hD0 hT hX
  have hl := lv_entry ([.ref a0, .long x1, .long x3]) (n := 5) (Nat.le_of_ble_eq_true rfl)
  rw [lg_entry_eq]
  exact w_X6_first_0 hC ⟨Nat.le_refl _, Nat.le_refl _⟩ o0 a0 x1 x3 D _ _ _ hi0 hw hl h
set_option maxHeartbeats 4000000 in
set_option maxRecDepth 100000 in
theorem w_X6_second_0 {r : Unit} {D' : dt} (hC : Cx RX6 cX6_second 5 none p s m args meth c) (hR : 0 ≤ R.frames ∧ 0 ≤ R.locals) : ∀ (o0 a0 : Nat) (x1 : Int64) (x3 : Int64) (D : dt) (H : Heap) (locs : List Loc) (ls : Array Slot), Is S ad o0 a0 5 → Wd G cA S D ad A s H locs → lv_has ls 5 [(0, .ref a0), (1, .long x1), (3, .long x3)] → f_X6_second S o0 x1 x3 D = some (r, D') → W p l e R s m args below meth c H locs 0 0 (MQ below (Qn none True (wpost G cA S D' ad A) A) args s 0 0 A) (F0 m 0 ls []) := by
  obtain ⟨hx, hb, -⟩ := id hC
  intro o0 a0 x1 x3 D H locs ls hi0 hw hl h
  unfold f_X6_second at h
  refine lv_aload_n hx hb dX6_second_0 rfl (lv_at hl 0 rfl) ?_
  refine lv_lload_n hx hb dX6_second_1 rfl (lv_at hl 1 rfl) ?_
  refine r_pL hC hw kc_5 hi0 4 rfl lk_299 rfl rfl rfl dX6_second_2 (fun D3 eD3 H locs hw => ?_)
  have h := nm_i h D3 eD3
  refine lv_aload_n hx hb dX6_second_5 rfl (lv_at hl 0 rfl) ?_
  refine lv_lload_n hx hb dX6_second_6 rfl (lv_at hl 2 rfl) ?_
  refine r_pL hC hw kc_5 hi0 5 rfl lk_300 rfl rfl rfl dX6_second_7 (fun D4 eD4 H locs hw => ?_)
  have h := nm_i h D4 eD4
  cases h
  exact r_vret hC hw dX6_second_10
set_option maxHeartbeats 4000000 in
set_option maxRecDepth 100000 in
theorem k_X6_second {l : Launch} {G : va_G} {cA : Nat → ClassId} {S : sh} {D D' : dt} {ad : Nat → Nat} (sz : Nat) {o0 a0 : Nat} {x1 : Int64} {x3 : Int64} {r : Unit} (hi0 : Is S ad o0 a0 5) (h : f_X6_second S o0 x1 x3 D = some (r, D')) : Co l yX6_second (Cond.code yX6_second cX6_second 5 none :: tb0) 0 0 [.ref a0, .long x1, .long x3] G cA S D ad sz none True D' := by
  refine Met.ofW (cc := cX6_second) (maxL := 5) (ret := none) (by decide) rfl ?_
  intro p e s m args below meth c s₁ B hml hv
  obtain ⟨rfl, hsz, hP, hK, hD0, hT, hX⟩ := hv
  subst hsz
  have hts := atoms_spec (ws := Cond.code yX6_second cX6_second 5 none :: tb0) B.pre
  have hC : Cx RX6 cX6_second 5 none p s m _ meth c := ⟨B.exec, B.bytes, hml, findClass_of_methodNamed B.named, fun w q => hts w (List.mem_cons_of_mem _ q), B.returns, B.notSynchronized⟩
  have hw := Wd.entry hP hK hD0 hT hX
  have hl := lv_entry ([.ref a0, .long x1, .long x3]) (n := 5) (Nat.le_of_ble_eq_true rfl)
  rw [lg_entry_eq]
  exact w_X6_second_0 hC ⟨Nat.le_refl _, Nat.le_refl _⟩ o0 a0 x1 x3 D _ _ _ hi0 hw hl h
set_option maxHeartbeats 4000000 in
set_option maxRecDepth 100000 in
theorem w_X6_become_0 {r : Unit} {D' : dt} (hC : Cx RX6 cX6_become 5 none p s m args meth c) (hR : 0 ≤ R.frames ∧ 0 ≤ R.locals) : ∀ (o0 a0 : Nat) (x1 : Int64) (x3 : Int64) (D : dt) (H : Heap) (locs : List Loc) (ls : Array Slot), Is S ad o0 a0 5 → Wd G cA S D ad A s H locs → lv_has ls 5 [(0, .ref a0), (1, .long x1), (3, .long x3)] → f_X6_become S o0 x1 x3 D = some (r, D') → W p l e R s m args below meth c H locs 0 0 (MQ below (Qn none True (wpost G cA S D' ad A) A) args s 0 0 A) (F0 m 0 ls []) := by
  obtain ⟨hx, hb, -⟩ := id hC
  intro o0 a0 x1 x3 D H locs ls hi0 hw hl h
  unfold f_X6_become at h
  refine lv_aload_n hx hb dX6_become_0 rfl (lv_at hl 0 rfl) ?_
  refine lv_lload_n hx hb dX6_become_1 rfl (lv_at hl 1 rfl) ?_
  refine r_pL hC hw kc_5 hi0 0 rfl lk_293 rfl rfl rfl dX6_become_2 (fun D3 eD3 H locs hw => ?_)
  have h := nm_i h D3 eD3
  refine lv_aload_n hx hb dX6_become_5 rfl (lv_at hl 0 rfl) ?_
  refine lv_lload_n hx hb dX6_become_6 rfl (lv_at hl 2 rfl) ?_
  refine r_pL hC hw kc_5 hi0 1 rfl lk_295 rfl rfl rfl dX6_become_7 (fun D4 eD4 H locs hw => ?_)
  have h := nm_i h D4 eD4
  cases h
  exact r_vret hC hw dX6_become_10
set_option maxHeartbeats 4000000 in
set_option maxRecDepth 100000 in
theorem k_X6_become {l : Launch} {G : va_G} {cA : Nat → ClassId} {S : sh} {D D' : dt} {ad : Nat → Nat} (sz : Nat) {o0 a0 : Nat} {x1 : Int64} {x3 : Int64} {r : Unit} (hi0 : Is S ad o0 a0 5) (h : f_X6_become S o0 x1 x3 D = some (r, D')) : Co l yX6_become (Cond.code yX6_become cX6_become 5 none :: tb0) 0 0 [.ref a0, .long x1, .long x3] G cA S D ad sz none True D' := by
  refine Met.ofW (cc := cX6_become) (maxL := 5) (ret := none) (by decide) rfl ?_
  intro p e s m args below meth c s₁ B hml hv
  obtain ⟨rfl, hsz, hP, hK, hD0, hT, hX⟩ := hv
  subst hsz
  have hts := atoms_spec (ws := Cond.code yX6_become cX6_become 5 none :: tb0) B.pre
  have hC : Cx RX6 cX6_become 5 none p s m _ meth c := ⟨B.exec, B.bytes, hml, findClass_of_methodNamed B.named, fun w q => hts w (List.mem_cons_of_mem _ q), B.returns, B.notSynchronized⟩
  have hw := Wd.entry hP hK hD0 hT hX
  have hl := lv_entry ([.ref a0, .long x1, .long x3]) (n := 5) (Nat.le_of_ble_eq_true rfl)
  rw [lg_entry_eq]
  exact w_X6_become_0 hC ⟨Nat.le_refl _, Nat.le_refl _⟩ o0 a0 x1 x3 D _ _ _ hi0 hw hl h
set_option maxHeartbeats 4000000 in
set_option maxRecDepth 100000 in
theorem w_X6_turn_50 {r : Unit} {D' : dt} (hC : Cx RX6 cX6_turn 5 none p s m args meth c) (hR : 1 ≤ R.frames ∧ 26 ≤ R.locals) : ∀ (os0 as0 : Nat) (xs1 : Int64) (xs2 : Int64) (D : dt) (H : Heap) (locs : List Loc) (ls : Array Slot), Is S ad os0 as0 5 → Wd G cA S D ad A s H locs → lv_has ls 5 [] → f_X6_turn_50 S os0 xs1 xs2 D = some (r, D') → W p l e R s m args below meth c H locs 0 0 (MQ below (Qn none True (wpost G cA S D' ad A) A) args s 0 0 A) (F0 m 50 ls [.long xs2, .long xs1, .ref as0]) := by
  obtain ⟨hx, hb, -⟩ := id hC
  intro os0 as0 xs1 xs2 D H locs ls his0 hw hl h
  unfold f_X6_turn_50 at h
  obtain ⟨_, D10, hq9, h⟩ := cq_i h
  refine r_cV (st' := []) [.long xs1, .long xs2] [] hC hw kc_5 his0 (k_X6_become _ his0 hq9) mk_X6_become lk_694 ⟨Nat.le_trans (by decide) hR.1, Nat.le_trans (by decide) hR.2⟩ ⟨Nat.zero_le _, Nat.zero_le _⟩ rfl hl.1 rfl rfl (Nat.le_of_ble_eq_true rfl) dX6_turn_50 (fun hP H locs hw => ?_)
  cases h
  exact r_vret hC hw dX6_turn_53
set_option maxHeartbeats 4000000 in
set_option maxRecDepth 100000 in
theorem w_X6_turn_0 {r : Unit} {D' : dt} (hC : Cx RX6 cX6_turn 5 none p s m args meth c) (hR : 1 ≤ R.frames ∧ 26 ≤ R.locals) : ∀ (o0 a0 : Nat) (x1 : Int32) (x2 : Int32) (D : dt) (H : Heap) (locs : List Loc) (ls : Array Slot), Is S ad o0 a0 5 → Wd G cA S D ad A s H locs → lv_has ls 5 [(0, .ref a0), (1, .int x1), (2, .int x2)] → f_X6_turn S o0 x1 x2 D = some (r, D') → W p l e R s m args below meth c H locs 0 0 (MQ below (Qn none True (wpost G cA S D' ad A) A) args s 0 0 A) (F0 m 0 ls []) := by
  obtain ⟨hx, hb, -⟩ := id hC
  intro o0 a0 x1 x2 D H locs ls hi0 hw hl h
  unfold f_X6_turn at h
  refine lv_aload_n hx hb dX6_turn_0 rfl (lv_at hl 0 rfl) ?_
  refine r_gL hC hw kc_5 hi0 2 rfl lk_297 dX6_turn_1 ?_
  refine lv_aload_n hx hb dX6_turn_4 rfl (lv_at hl 0 rfl) ?_
  refine r_gL hC hw kc_5 hi0 3 rfl lk_298 dX6_turn_5 ?_
  refine W.lcmp hx hb dX6_turn_8 ?_
  refine lv_if_ne (tgt := 31) hx hb dX6_turn_9 (by decide) (fun c11 => ?_) (fun c11 => ?_)
  · have h := i_no c11 h
    refine lv_aload_n hx hb dX6_turn_31 rfl (lv_at hl 0 rfl) ?_
    refine lv_lconst (v := 0) hx hb dX6_turn_32 (by decide) ?_
    refine lv_iload_n hx hb dX6_turn_33 rfl (lv_at hl 1 rfl) ?_
    refine lv_bipush (v := 64) hx hb dX6_turn_34 (by decide) ?_
    refine lv_icmp_ne (tgt := 45) hx hb dX6_turn_36 (by decide) (fun c12 => ?_) (fun c12 => ?_)
    · have h := i_no c12 h
      refine lv_lconst (v := 1) hx hb dX6_turn_45 (by decide) ?_
      refine lv_iload_n hx hb dX6_turn_46 rfl (lv_at hl 1 rfl) ?_
      refine lv_lshl (v := j_lshl (1 : Int64) x1) hx hb dX6_turn_47 rfl ?_
      refine lv_lconst (v := 1) hx hb dX6_turn_48 (by decide) ?_
      refine lv_lsub hx hb dX6_turn_49 ?_
      exact w_X6_turn_50 hC hR o0 a0 (0 : Int64) ((j_lshl (1 : Int64) x1) - (1 : Int64)) _ _ _ _ hi0 hw (lv_sub hl [] rfl) h
    · have h := i_yes c12 h
      refine lv_ldc2 (v := (-1)) hx hb hC.2.2.2.1 (hC.2.2.2.2.1 _ lk_698) dX6_turn_39 ?_
      refine lv_goto (tgt := 50) hx hb dX6_turn_42 (by decide) ?_
      exact w_X6_turn_50 hC hR o0 a0 (0 : Int64) (-1 : Int64) _ _ _ _ hi0 hw (lv_sub hl [] rfl) h
  · have h := i_yes c11 h
    refine lv_aload_n hx hb dX6_turn_12 rfl (lv_at hl 0 rfl) ?_
    refine r_gL hC hw kc_5 hi0 2 rfl lk_297 dX6_turn_13 ?_
    refine lv_iload_n hx hb dX6_turn_16 rfl (lv_at hl 1 rfl) ?_
    refine lv_iload_n hx hb dX6_turn_17 rfl (lv_at hl 2 rfl) ?_
    obtain ⟨r14, hq13, h⟩ := pq_i h
    refine r_cS (st' := [.long r14]) [.long (gL D o0 2), .int x1, .int x2] [] hC hw (k_X3_turn _ hq13) mk_X3_turn lk_690 ⟨Nat.le_trans (by decide) hR.1, Nat.le_trans (by decide) hR.2⟩ ⟨Nat.zero_le _, Nat.zero_le _⟩ rfl hl.1 rfl rfl (Nat.le_of_ble_eq_true rfl) dX6_turn_18 (fun hP H locs hw => ?_)
    refine lv_lstore_n (lv' := [(3, .long r14), (0, .ref a0), (1, .int x1), (2, .int x2)]) hx hb dX6_turn_21 rfl hl (by decide) rfl (fun ls hl => ?_)
    refine lv_aload_n hx hb dX6_turn_22 rfl (lv_at hl 1 rfl) ?_
    refine lv_lload_n hx hb dX6_turn_23 rfl (lv_at hl 0 rfl) ?_
    refine lv_lload_n hx hb dX6_turn_24 rfl (lv_at hl 0 rfl) ?_
    obtain ⟨_, D16, hq15, h⟩ := cq_i h
    refine r_cV (st' := []) [.long r14, .long r14] [] hC hw kc_5 hi0 (k_X6_become _ hi0 hq15) mk_X6_become lk_694 ⟨Nat.le_trans (by decide) hR.1, Nat.le_trans (by decide) hR.2⟩ ⟨Nat.zero_le _, Nat.zero_le _⟩ rfl hl.1 rfl rfl (Nat.le_of_ble_eq_true rfl) dX6_turn_25 (fun hP H locs hw => ?_)
    refine lv_goto (tgt := 53) hx hb dX6_turn_28 (by decide) ?_
    cases h
    exact r_vret hC hw dX6_turn_53
set_option maxHeartbeats 4000000 in
set_option maxRecDepth 100000 in
theorem k_X6_turn {l : Launch} {G : va_G} {cA : Nat → ClassId} {S : sh} {D D' : dt} {ad : Nat → Nat} (sz : Nat) {o0 a0 : Nat} {x1 : Int32} {x2 : Int32} {r : Unit} (hi0 : Is S ad o0 a0 5) (h : f_X6_turn S o0 x1 x2 D = some (r, D')) : Co l yX6_turn (Cond.code yX6_turn cX6_turn 5 none :: tb0) 1 26 [.ref a0, .int x1, .int x2] G cA S D ad sz none True D' := by
  refine Met.ofW (cc := cX6_turn) (maxL := 5) (ret := none) (by decide) rfl ?_
  intro p e s m args below meth c s₁ B hml hv
  obtain ⟨rfl, hsz, hP, hK, hD0, hT, hX⟩ := hv
  subst hsz
  have hts := atoms_spec (ws := Cond.code yX6_turn cX6_turn 5 none :: tb0) B.pre
  have hC : Cx RX6 cX6_turn 5 none p s m _ meth c := ⟨B.exec, B.bytes, hml, findClass_of_methodNamed B.named, fun w q => hts w (List.mem_cons_of_mem _ q), B.returns, B.notSynchronized⟩
  have hw := Wd.entry hP hK hD0 hT hX
  have hl := lv_entry ([.ref a0, .int x1, .int x2]) (n := 5) (Nat.le_of_ble_eq_true rfl)
  rw [lg_entry_eq]
  exact w_X6_turn_0 hC ⟨Nat.le_refl _, Nat.le_refl _⟩ o0 a0 x1 x2 D _ _ _ hi0 hw hl h
set_option maxHeartbeats 4000000 in
set_option maxRecDepth 100000 in
theorem w_X6_cutHalves_56 {r : Unit} {D' : dt} (hC : Cx RX6 cX6_cutHalves 1 none p s m args meth c) (hR : 1 ≤ R.frames ∧ 24 ≤ R.locals) : ∀ (o0 a0 : Nat) (D : dt) (H : Heap) (locs : List Loc) (ls : Array Slot), Is S ad o0 a0 5 → Wd G cA S D ad A s H locs → lv_has ls 1 [(0, .ref a0)] → f_X6_cutHalves_56 S o0 D = some (r, D') → W p l e R s m args below meth c H locs 0 0 (MQ below (Qn none True (wpost G cA S D' ad A) A) args s 0 0 A) (F0 m 56 ls []) := by
  obtain ⟨hx, hb, -⟩ := id hC
  intro o0 a0 D H locs ls hi0 hw hl h
  unfold f_X6_cutHalves_56 at h
  refine lv_aload_n hx hb dX6_cutHalves_56 rfl (lv_at hl 0 rfl) ?_
  refine r_gL hC hw kc_5 hi0 4 rfl lk_299 dX6_cutHalves_57 ?_
  refine lv_aload_n hx hb dX6_cutHalves_60 rfl (lv_at hl 0 rfl) ?_
  refine r_gL hC hw kc_5 hi0 5 rfl lk_300 dX6_cutHalves_61 ?_
  refine W.lcmp hx hb dX6_cutHalves_64 ?_
  refine lv_if_ne (tgt := 91) hx hb dX6_cutHalves_65 (by decide) (fun c17 => ?_) (fun c17 => ?_)
  · have h := i_no c17 h
    refine lv_ldc2 (v := 4294967295) hx hb hC.2.2.2.1 (hC.2.2.2.2.1 _ lk_703) dX6_cutHalves_91 ?_
    refine lv_aload_n hx hb dX6_cutHalves_94 rfl (lv_at hl 0 rfl) ?_
    refine r_gL hC hw kc_5 hi0 5 rfl lk_300 dX6_cutHalves_95 ?_
    obtain ⟨r19, hq18, h⟩ := pq_i h
    refine r_cS (st' := [.int r19]) [.long (4294967295 : Int64), .long (gL D o0 5)] [] hC hw (k_X3_below _ hq18) mk_X3_below lk_709 ⟨Nat.le_trans (by decide) hR.1, Nat.le_trans (by decide) hR.2⟩ ⟨Nat.zero_le _, Nat.zero_le _⟩ rfl hl.1 rfl rfl (Nat.le_of_ble_eq_true rfl) dX6_cutHalves_98 (fun hP H locs hw => ?_)
    refine lv_if_eq (tgt := 112) hx hb dX6_cutHalves_101 (by decide) (fun c20 => ?_) (fun c20 => ?_)
    · have h := i_yes c20 h
      cases h
      exact r_vret hC hw dX6_cutHalves_112
    · have h := i_no c20 h
      refine lv_aload_n hx hb dX6_cutHalves_104 rfl (lv_at hl 0 rfl) ?_
      refine lv_lconst (v := 0) hx hb dX6_cutHalves_105 (by decide) ?_
      refine lv_ldc2 (v := 4294967295) hx hb hC.2.2.2.1 (hC.2.2.2.2.1 _ lk_703) dX6_cutHalves_106 ?_
      obtain ⟨_, D22, hq21, h⟩ := cq_i h
      refine r_cV (st' := []) [.long (0 : Int64), .long (4294967295 : Int64)] [] hC hw kc_5 hi0 (k_X6_second _ hi0 hq21) mk_X6_second lk_713 ⟨Nat.le_trans (by decide) hR.1, Nat.le_trans (by decide) hR.2⟩ ⟨Nat.zero_le _, Nat.zero_le _⟩ rfl hl.1 rfl rfl (Nat.le_of_ble_eq_true rfl) dX6_cutHalves_109 (fun hP H locs hw => ?_)
      cases h
      exact r_vret hC hw dX6_cutHalves_112
  · have h := i_yes c17 h
    refine lv_aload_n hx hb dX6_cutHalves_68 rfl (lv_at hl 0 rfl) ?_
    refine lv_aload_n hx hb dX6_cutHalves_69 rfl (lv_at hl 0 rfl) ?_
    refine r_gL hC hw kc_5 hi0 4 rfl lk_299 dX6_cutHalves_70 ?_
    refine lv_ldc2 (v := 4294967295) hx hb hC.2.2.2.1 (hC.2.2.2.2.1 _ lk_703) dX6_cutHalves_73 ?_
    refine lv_land hx hb dX6_cutHalves_76 ?_
    refine lv_aload_n hx hb dX6_cutHalves_77 rfl (lv_at hl 0 rfl) ?_
    refine r_gL hC hw kc_5 hi0 5 rfl lk_300 dX6_cutHalves_78 ?_
    refine lv_ldc2 (v := 4294967295) hx hb hC.2.2.2.1 (hC.2.2.2.2.1 _ lk_703) dX6_cutHalves_81 ?_
    refine lv_land hx hb dX6_cutHalves_84 ?_
    obtain ⟨_, D24, hq23, h⟩ := cq_i h
    refine r_cV (st' := []) [.long ((gL D o0 4) &&& (4294967295 : Int64)), .long ((gL D o0 5) &&& (4294967295 : Int64))] [] hC hw kc_5 hi0 (k_X6_second _ hi0 hq23) mk_X6_second lk_713 ⟨Nat.le_trans (by decide) hR.1, Nat.le_trans (by decide) hR.2⟩ ⟨Nat.zero_le _, Nat.zero_le _⟩ rfl hl.1 rfl rfl (Nat.le_of_ble_eq_true rfl) dX6_cutHalves_85 (fun hP H locs hw => ?_)
    refine lv_goto (tgt := 112) hx hb dX6_cutHalves_88 (by decide) ?_
    cases h
    exact r_vret hC hw dX6_cutHalves_112
set_option maxHeartbeats 4000000 in
set_option maxRecDepth 100000 in
theorem w_X6_cutHalves_0 {r : Unit} {D' : dt} (hC : Cx RX6 cX6_cutHalves 1 none p s m args meth c) (hR : 1 ≤ R.frames ∧ 24 ≤ R.locals) : ∀ (o0 a0 : Nat) (D : dt) (H : Heap) (locs : List Loc) (ls : Array Slot), Is S ad o0 a0 5 → Wd G cA S D ad A s H locs → lv_has ls 1 [(0, .ref a0)] → f_X6_cutHalves S o0 D = some (r, D') → W p l e R s m args below meth c H locs 0 0 (MQ below (Qn none True (wpost G cA S D' ad A) A) args s 0 0 A) (F0 m 0 ls []) := by
  obtain ⟨hx, hb, -⟩ := id hC
  intro o0 a0 D H locs ls hi0 hw hl h
  unfold f_X6_cutHalves at h
  refine lv_aload_n hx hb dX6_cutHalves_0 rfl (lv_at hl 0 rfl) ?_
  refine r_gL hC hw kc_5 hi0 2 rfl lk_297 dX6_cutHalves_1 ?_
  refine lv_aload_n hx hb dX6_cutHalves_4 rfl (lv_at hl 0 rfl) ?_
  refine r_gL hC hw kc_5 hi0 3 rfl lk_298 dX6_cutHalves_5 ?_
  refine W.lcmp hx hb dX6_cutHalves_8 ?_
  refine lv_if_ne (tgt := 35) hx hb dX6_cutHalves_9 (by decide) (fun c25 => ?_) (fun c25 => ?_)
  · have h := i_no c25 h
    refine lv_ldc2 (v := 4294967295) hx hb hC.2.2.2.1 (hC.2.2.2.2.1 _ lk_703) dX6_cutHalves_35 ?_
    refine lv_aload_n hx hb dX6_cutHalves_38 rfl (lv_at hl 0 rfl) ?_
    refine r_gL hC hw kc_5 hi0 3 rfl lk_298 dX6_cutHalves_39 ?_
    obtain ⟨r27, hq26, h⟩ := pq_i h
    refine r_cS (st' := [.int r27]) [.long (4294967295 : Int64), .long (gL D o0 3)] [] hC hw (k_X3_below _ hq26) mk_X3_below lk_709 ⟨Nat.le_trans (by decide) hR.1, Nat.le_trans (by decide) hR.2⟩ ⟨Nat.zero_le _, Nat.zero_le _⟩ rfl hl.1 rfl rfl (Nat.le_of_ble_eq_true rfl) dX6_cutHalves_42 (fun hP H locs hw => ?_)
    refine lv_if_eq (tgt := 56) hx hb dX6_cutHalves_45 (by decide) (fun c28 => ?_) (fun c28 => ?_)
    · have h := i_yes c28 h
      exact w_X6_cutHalves_56 hC hR o0 a0 _ _ _ _ hi0 hw (lv_sub hl [0] rfl) h
    · have h := i_no c28 h
      refine lv_aload_n hx hb dX6_cutHalves_48 rfl (lv_at hl 0 rfl) ?_
      refine lv_lconst (v := 0) hx hb dX6_cutHalves_49 (by decide) ?_
      refine lv_ldc2 (v := 4294967295) hx hb hC.2.2.2.1 (hC.2.2.2.2.1 _ lk_703) dX6_cutHalves_50 ?_
      obtain ⟨_, D30, hq29, h⟩ := cq_i h
      refine r_cV (st' := []) [.long (0 : Int64), .long (4294967295 : Int64)] [] hC hw kc_5 hi0 (k_X6_first _ hi0 hq29) mk_X6_first lk_708 ⟨Nat.le_trans (by decide) hR.1, Nat.le_trans (by decide) hR.2⟩ ⟨Nat.zero_le _, Nat.zero_le _⟩ rfl hl.1 rfl rfl (Nat.le_of_ble_eq_true rfl) dX6_cutHalves_53 (fun hP H locs hw => ?_)
      exact w_X6_cutHalves_56 hC hR o0 a0 _ _ _ _ hi0 hw (lv_sub hl [0] rfl) h
  · have h := i_yes c25 h
    refine lv_aload_n hx hb dX6_cutHalves_12 rfl (lv_at hl 0 rfl) ?_
    refine lv_aload_n hx hb dX6_cutHalves_13 rfl (lv_at hl 0 rfl) ?_
    refine r_gL hC hw kc_5 hi0 2 rfl lk_297 dX6_cutHalves_14 ?_
    refine lv_ldc2 (v := 4294967295) hx hb hC.2.2.2.1 (hC.2.2.2.2.1 _ lk_703) dX6_cutHalves_17 ?_
    refine lv_land hx hb dX6_cutHalves_20 ?_
    refine lv_aload_n hx hb dX6_cutHalves_21 rfl (lv_at hl 0 rfl) ?_
    refine r_gL hC hw kc_5 hi0 3 rfl lk_298 dX6_cutHalves_22 ?_
    refine lv_ldc2 (v := 4294967295) hx hb hC.2.2.2.1 (hC.2.2.2.2.1 _ lk_703) dX6_cutHalves_25 ?_
    refine lv_land hx hb dX6_cutHalves_28 ?_
    obtain ⟨_, D32, hq31, h⟩ := cq_i h
    refine r_cV (st' := []) [.long ((gL D o0 2) &&& (4294967295 : Int64)), .long ((gL D o0 3) &&& (4294967295 : Int64))] [] hC hw kc_5 hi0 (k_X6_first _ hi0 hq31) mk_X6_first lk_708 ⟨Nat.le_trans (by decide) hR.1, Nat.le_trans (by decide) hR.2⟩ ⟨Nat.zero_le _, Nat.zero_le _⟩ rfl hl.1 rfl rfl (Nat.le_of_ble_eq_true rfl) dX6_cutHalves_29 (fun hP H locs hw => ?_)
    refine lv_goto (tgt := 56) hx hb dX6_cutHalves_32 (by decide) ?_
    exact w_X6_cutHalves_56 hC hR o0 a0 _ _ _ _ hi0 hw (lv_sub hl [0] rfl) h
set_option maxHeartbeats 4000000 in
set_option maxRecDepth 100000 in
theorem k_X6_cutHalves {l : Launch} {G : va_G} {cA : Nat → ClassId} {S : sh} {D D' : dt} {ad : Nat → Nat} (sz : Nat) {o0 a0 : Nat} {r : Unit} (hi0 : Is S ad o0 a0 5) (h : f_X6_cutHalves S o0 D = some (r, D')) : Co l yX6_cutHalves (Cond.code yX6_cutHalves cX6_cutHalves 1 none :: tb0) 1 24 [.ref a0] G cA S D ad sz none True D' := by
  refine Met.ofW (cc := cX6_cutHalves) (maxL := 1) (ret := none) (by decide) rfl ?_
  intro p e s m args below meth c s₁ B hml hv
  obtain ⟨rfl, hsz, hP, hK, hD0, hT, hX⟩ := hv
  subst hsz
  have hts := atoms_spec (ws := Cond.code yX6_cutHalves cX6_cutHalves 1 none :: tb0) B.pre
  have hC : Cx RX6 cX6_cutHalves 1 none p s m _ meth c := ⟨B.exec, B.bytes, hml, findClass_of_methodNamed B.named, fun w q => hts w (List.mem_cons_of_mem _ q), B.returns, B.notSynchronized⟩
  have hw := Wd.entry hP hK hD0 hT hX
  have hl := lv_entry ([.ref a0]) (n := 1) (Nat.le_of_ble_eq_true rfl)
  rw [lg_entry_eq]
  exact w_X6_cutHalves_0 hC ⟨Nat.le_refl _, Nat.le_refl _⟩ o0 a0 D _ _ _ hi0 hw hl h
set_option maxHeartbeats 4000000 in
set_option maxRecDepth 100000 in
theorem w_X6_becomeAll_0 {r : Unit} {D' : dt} (hC : Cx RX6 cX6_becomeAll 1 none p s m args meth c) (hR : 0 ≤ R.frames ∧ 0 ≤ R.locals) : ∀ (o0 a0 : Nat) (D : dt) (H : Heap) (locs : List Loc) (ls : Array Slot), Is S ad o0 a0 5 → Wd G cA S D ad A s H locs → lv_has ls 1 [(0, .ref a0)] → f_X6_becomeAll S o0 D = some (r, D') → W p l e R s m args below meth c H locs 0 0 (MQ below (Qn none True (wpost G cA S D' ad A) A) args s 0 0 A) (F0 m 0 ls []) := by
  obtain ⟨hx, hb, -⟩ := id hC
  intro o0 a0 D H locs ls hi0 hw hl h
  unfold f_X6_becomeAll at h
  refine lv_aload_n hx hb dX6_becomeAll_0 rfl (lv_at hl 0 rfl) ?_
  refine lv_lconst (v := 0) hx hb dX6_becomeAll_1 (by decide) ?_
  refine r_pL hC hw kc_5 hi0 0 rfl lk_293 rfl rfl rfl dX6_becomeAll_2 (fun D3 eD3 H locs hw => ?_)
  have h := nm_i h D3 eD3
  refine lv_aload_n hx hb dX6_becomeAll_5 rfl (lv_at hl 0 rfl) ?_
  refine lv_aload_n hx hb dX6_becomeAll_6 rfl (lv_at hl 0 rfl) ?_
  refine r_gL hC hw kc_5 hi0 6 rfl lk_301 dX6_becomeAll_7 ?_
  refine r_pL hC hw kc_5 hi0 1 rfl lk_295 rfl rfl rfl dX6_becomeAll_10 (fun D4 eD4 H locs hw => ?_)
  have h := nm_i h D4 eD4
  cases h
  exact r_vret hC hw dX6_becomeAll_13
set_option maxHeartbeats 4000000 in
set_option maxRecDepth 100000 in
theorem k_X6_becomeAll {l : Launch} {G : va_G} {cA : Nat → ClassId} {S : sh} {D D' : dt} {ad : Nat → Nat} (sz : Nat) {o0 a0 : Nat} {r : Unit} (hi0 : Is S ad o0 a0 5) (h : f_X6_becomeAll S o0 D = some (r, D')) : Co l yX6_becomeAll (Cond.code yX6_becomeAll cX6_becomeAll 1 none :: tb0) 0 0 [.ref a0] G cA S D ad sz none True D' := by
  refine Met.ofW (cc := cX6_becomeAll) (maxL := 1) (ret := none) (by decide) rfl ?_
  intro p e s m args below meth c s₁ B hml hv
  obtain ⟨rfl, hsz, hP, hK, hD0, hT, hX⟩ := hv
  subst hsz
  have hts := atoms_spec (ws := Cond.code yX6_becomeAll cX6_becomeAll 1 none :: tb0) B.pre
  have hC : Cx RX6 cX6_becomeAll 1 none p s m _ meth c := ⟨B.exec, B.bytes, hml, findClass_of_methodNamed B.named, fun w q => hts w (List.mem_cons_of_mem _ q), B.returns, B.notSynchronized⟩
  have hw := Wd.entry hP hK hD0 hT hX
  have hl := lv_entry ([.ref a0]) (n := 1) (Nat.le_of_ble_eq_true rfl)
  rw [lg_entry_eq]
  exact w_X6_becomeAll_0 hC ⟨Nat.le_refl _, Nat.le_refl _⟩ o0 a0 D _ _ _ hi0 hw hl h
set_option maxHeartbeats 4000000 in
set_option maxRecDepth 100000 in
theorem w_X6_makeDivided_33 {r : Unit} {D' : dt} (hC : Cx RX6 cX6_makeDivided 3 none p s m args meth c) (hR : 1 ≤ R.frames ∧ 27 ≤ R.locals) : ∀ (o0 a0 : Nat) (D : dt) (H : Heap) (locs : List Loc) (ls : Array Slot), Is S ad o0 a0 5 → Wd G cA S D ad A s H locs → lv_has ls 3 [(0, .ref a0)] → f_X6_makeDivided_33 S o0 D = some (r, D') → W p l e R s m args below meth c H locs 0 0 (MQ below (Qn none True (wpost G cA S D' ad A) A) args s 0 0 A) (F0 m 33 ls []) := by
  obtain ⟨hx, hb, -⟩ := id hC
  intro o0 a0 D H locs ls hi0 hw hl h
  unfold f_X6_makeDivided_33 at h
  refine lv_aload_n hx hb dX6_makeDivided_33 rfl (lv_at hl 0 rfl) ?_
  refine lv_lconst (v := 0) hx hb dX6_makeDivided_34 (by decide) ?_
  refine lv_aload_n hx hb dX6_makeDivided_35 rfl (lv_at hl 0 rfl) ?_
  refine r_gL hC hw kc_5 hi0 3 rfl lk_298 dX6_makeDivided_36 ?_
  obtain ⟨_, D23, hq22, h⟩ := cq_i h
  refine r_cV (st' := []) [.long (0 : Int64), .long (gL D o0 3)] [] hC hw kc_5 hi0 (k_X6_become _ hi0 hq22) mk_X6_become lk_694 ⟨Nat.le_trans (by decide) hR.1, Nat.le_trans (by decide) hR.2⟩ ⟨Nat.zero_le _, Nat.zero_le _⟩ rfl hl.1 rfl rfl (Nat.le_of_ble_eq_true rfl) dX6_makeDivided_39 (fun hP H locs hw => ?_)
  refine lv_goto (tgt := 119) hx hb dX6_makeDivided_42 (by decide) ?_
  cases h
  exact r_vret hC hw dX6_makeDivided_119
set_option maxHeartbeats 4000000 in
set_option maxRecDepth 100000 in
theorem w_X6_makeDivided_0 {r : Unit} {D' : dt} (hC : Cx RX6 cX6_makeDivided 3 none p s m args meth c) (hR : 1 ≤ R.frames ∧ 27 ≤ R.locals) : ∀ (o0 a0 : Nat) (x1 : Int32) (x2 : Int32) (D : dt) (H : Heap) (locs : List Loc) (ls : Array Slot), Is S ad o0 a0 5 → Wd G cA S D ad A s H locs → lv_has ls 3 [(0, .ref a0), (1, .int x1), (2, .int x2)] → f_X6_makeDivided S o0 x1 x2 D = some (r, D') → W p l e R s m args below meth c H locs 0 0 (MQ below (Qn none True (wpost G cA S D' ad A) A) args s 0 0 A) (F0 m 0 ls []) := by
  obtain ⟨hx, hb, -⟩ := id hC
  intro o0 a0 x1 x2 D H locs ls hi0 hw hl h
  unfold f_X6_makeDivided at h
  refine lv_iload_n hx hb dX6_makeDivided_0 rfl (lv_at hl 2 rfl) ?_
  refine lv_iconst (v := 1) hx hb dX6_makeDivided_1 (by decide) ?_
  refine lv_icmp_ne (tgt := 12) hx hb dX6_makeDivided_2 (by decide) (fun c24 => ?_) (fun c24 => ?_)
  · have h := i_no c24 h
    refine lv_aload_n hx hb dX6_makeDivided_12 rfl (lv_at hl 0 rfl) ?_
    refine r_gL hC hw kc_5 hi0 4 rfl lk_299 dX6_makeDivided_13 ?_
    refine lv_aload_n hx hb dX6_makeDivided_16 rfl (lv_at hl 0 rfl) ?_
    refine r_gL hC hw kc_5 hi0 5 rfl lk_300 dX6_makeDivided_17 ?_
    refine W.lcmp hx hb dX6_makeDivided_20 ?_
    refine lv_if_ne (tgt := 33) hx hb dX6_makeDivided_21 (by decide) (fun c25 => ?_) (fun c25 => ?_)
    · have h := i_no c25 h
      exact w_X6_makeDivided_33 hC hR o0 a0 _ _ _ _ hi0 hw (lv_sub hl [0] rfl) h
    · have h := i_yes c25 h
      refine lv_aload_n hx hb dX6_makeDivided_24 rfl (lv_at hl 0 rfl) ?_
      refine r_gL hC hw kc_5 hi0 4 rfl lk_299 dX6_makeDivided_25 ?_
      refine lv_lconst (v := 0) hx hb dX6_makeDivided_28 (by decide) ?_
      refine W.lcmp hx hb dX6_makeDivided_29 ?_
      refine lv_if_ne (tgt := 45) hx hb dX6_makeDivided_30 (by decide) (fun c26 => ?_) (fun c26 => ?_)
      · have h := i_no c26 h
        refine lv_iload_n hx hb dX6_makeDivided_45 rfl (lv_at hl 1 rfl) ?_
        refine lv_iconst (v := 3) hx hb dX6_makeDivided_46 (by decide) ?_
        refine lv_icmp_ne (tgt := 79) hx hb dX6_makeDivided_47 (by decide) (fun c27 => ?_) (fun c27 => ?_)
        · have h := i_no c27 h
          refine lv_aload_n hx hb dX6_makeDivided_79 rfl (lv_at hl 0 rfl) ?_
          refine r_gL hC hw kc_5 hi0 3 rfl lk_298 dX6_makeDivided_80 ?_
          refine lv_aload_n hx hb dX6_makeDivided_83 rfl (lv_at hl 0 rfl) ?_
          refine r_gL hC hw kc_5 hi0 4 rfl lk_299 dX6_makeDivided_84 ?_
          obtain ⟨r29, hq28, h⟩ := pq_i h
          refine r_cS (st' := [.int r29]) [.long (gL D o0 3), .long (gL D o0 4)] [] hC hw (k_X3_below _ hq28) mk_X3_below lk_709 ⟨Nat.le_trans (by decide) hR.1, Nat.le_trans (by decide) hR.2⟩ ⟨Nat.zero_le _, Nat.zero_le _⟩ rfl hl.1 rfl rfl (Nat.le_of_ble_eq_true rfl) dX6_makeDivided_87 (fun hP H locs hw => ?_)
          refine lv_if_eq (tgt := 108) hx hb dX6_makeDivided_90 (by decide) (fun c30 => ?_) (fun c30 => ?_)
          · have h := i_yes c30 h
            refine lv_aload_n hx hb dX6_makeDivided_108 rfl (lv_at hl 0 rfl) ?_
            refine lv_lconst (v := 0) hx hb dX6_makeDivided_109 (by decide) ?_
            refine lv_aload_n hx hb dX6_makeDivided_110 rfl (lv_at hl 0 rfl) ?_
            refine r_gL hC hw kc_5 hi0 4 rfl lk_299 dX6_makeDivided_111 ?_
            refine lv_lconst (v := 1) hx hb dX6_makeDivided_114 (by decide) ?_
            refine lv_lsub hx hb dX6_makeDivided_115 ?_
            obtain ⟨_, D32, hq31, h⟩ := cq_i h
            refine r_cV (st' := []) [.long (0 : Int64), .long ((gL D o0 4) - (1 : Int64))] [] hC hw kc_5 hi0 (k_X6_become _ hi0 hq31) mk_X6_become lk_694 ⟨Nat.le_trans (by decide) hR.1, Nat.le_trans (by decide) hR.2⟩ ⟨Nat.zero_le _, Nat.zero_le _⟩ rfl hl.1 rfl rfl (Nat.le_of_ble_eq_true rfl) dX6_makeDivided_116 (fun hP H locs hw => ?_)
            cases h
            exact r_vret hC hw dX6_makeDivided_119
          · have h := i_no c30 h
            refine lv_aload_n hx hb dX6_makeDivided_93 rfl (lv_at hl 0 rfl) ?_
            refine lv_aload_n hx hb dX6_makeDivided_94 rfl (lv_at hl 0 rfl) ?_
            refine r_gL hC hw kc_5 hi0 2 rfl lk_297 dX6_makeDivided_95 ?_
            refine lv_aload_n hx hb dX6_makeDivided_98 rfl (lv_at hl 0 rfl) ?_
            refine r_gL hC hw kc_5 hi0 3 rfl lk_298 dX6_makeDivided_99 ?_
            obtain ⟨_, D34, hq33, h⟩ := cq_i h
            refine r_cV (st' := []) [.long (gL D o0 2), .long (gL D o0 3)] [] hC hw kc_5 hi0 (k_X6_become _ hi0 hq33) mk_X6_become lk_694 ⟨Nat.le_trans (by decide) hR.1, Nat.le_trans (by decide) hR.2⟩ ⟨Nat.zero_le _, Nat.zero_le _⟩ rfl hl.1 rfl rfl (Nat.le_of_ble_eq_true rfl) dX6_makeDivided_102 (fun hP H locs hw => ?_)
            refine lv_goto (tgt := 119) hx hb dX6_makeDivided_105 (by decide) ?_
            cases h
            exact r_vret hC hw dX6_makeDivided_119
        · have h := i_yes c27 h
          refine lv_aload_n hx hb dX6_makeDivided_50 rfl (lv_at hl 0 rfl) ?_
          refine lv_aload_n hx hb dX6_makeDivided_51 rfl (lv_at hl 0 rfl) ?_
          refine r_gL hC hw kc_5 hi0 2 rfl lk_297 dX6_makeDivided_52 ?_
          refine lv_aload_n hx hb dX6_makeDivided_55 rfl (lv_at hl 0 rfl) ?_
          refine r_gL hC hw kc_5 hi0 4 rfl lk_299 dX6_makeDivided_56 ?_
          obtain ⟨r36, hq35, h⟩ := pq_i h
          refine r_cS (st' := [.long r36, .ref a0]) [.long (gL D o0 2), .long (gL D o0 4)] [.ref a0] hC hw (k_X3_quotient _ hq35) mk_X3_quotient lk_742 ⟨Nat.le_trans (by decide) hR.1, Nat.le_trans (by decide) hR.2⟩ ⟨Nat.zero_le _, Nat.zero_le _⟩ rfl hl.1 rfl rfl (Nat.le_of_ble_eq_true rfl) dX6_makeDivided_59 (fun hP H locs hw => ?_)
          refine lv_aload_n hx hb dX6_makeDivided_62 rfl (lv_at hl 0 rfl) ?_
          refine r_gL hC hw kc_5 hi0 3 rfl lk_298 dX6_makeDivided_63 ?_
          refine lv_aload_n hx hb dX6_makeDivided_66 rfl (lv_at hl 0 rfl) ?_
          refine r_gL hC hw kc_5 hi0 4 rfl lk_299 dX6_makeDivided_67 ?_
          obtain ⟨r38, hq37, h⟩ := pq_i h
          refine r_cS (st' := [.long r38, .long r36, .ref a0]) [.long (gL D o0 3), .long (gL D o0 4)] [.long r36, .ref a0] hC hw (k_X3_quotient _ hq37) mk_X3_quotient lk_742 ⟨Nat.le_trans (by decide) hR.1, Nat.le_trans (by decide) hR.2⟩ ⟨Nat.zero_le _, Nat.zero_le _⟩ rfl hl.1 rfl rfl (Nat.le_of_ble_eq_true rfl) dX6_makeDivided_70 (fun hP H locs hw => ?_)
          obtain ⟨_, D40, hq39, h⟩ := cq_i h
          refine r_cV (st' := []) [.long r36, .long r38] [] hC hw kc_5 hi0 (k_X6_become _ hi0 hq39) mk_X6_become lk_694 ⟨Nat.le_trans (by decide) hR.1, Nat.le_trans (by decide) hR.2⟩ ⟨Nat.zero_le _, Nat.zero_le _⟩ rfl hl.1 rfl rfl (Nat.le_of_ble_eq_true rfl) dX6_makeDivided_73 (fun hP H locs hw => ?_)
          refine lv_goto (tgt := 119) hx hb dX6_makeDivided_76 (by decide) ?_
          cases h
          exact r_vret hC hw dX6_makeDivided_119
      · have h := i_yes c26 h
        exact w_X6_makeDivided_33 hC hR o0 a0 _ _ _ _ hi0 hw (lv_sub hl [0] rfl) h
  · have h := i_yes c24 h
    refine lv_aload_n hx hb dX6_makeDivided_5 rfl (lv_at hl 0 rfl) ?_
    obtain ⟨_, D42, hq41, h⟩ := cq_i h
    refine r_cV (st' := []) [] [] hC hw kc_5 hi0 (k_X6_becomeAll _ hi0 hq41) mk_X6_becomeAll lk_738 ⟨Nat.le_trans (by decide) hR.1, Nat.le_trans (by decide) hR.2⟩ ⟨Nat.zero_le _, Nat.zero_le _⟩ rfl hl.1 rfl rfl (Nat.le_of_ble_eq_true rfl) dX6_makeDivided_6 (fun hP H locs hw => ?_)
    refine lv_goto (tgt := 119) hx hb dX6_makeDivided_9 (by decide) ?_
    cases h
    exact r_vret hC hw dX6_makeDivided_119
set_option maxHeartbeats 4000000 in
set_option maxRecDepth 100000 in
theorem k_X6_makeDivided {l : Launch} {G : va_G} {cA : Nat → ClassId} {S : sh} {D D' : dt} {ad : Nat → Nat} (sz : Nat) {o0 a0 : Nat} {x1 : Int32} {x2 : Int32} {r : Unit} (hi0 : Is S ad o0 a0 5) (h : f_X6_makeDivided S o0 x1 x2 D = some (r, D')) : Co l yX6_makeDivided (Cond.code yX6_makeDivided cX6_makeDivided 3 none :: tb0) 1 27 [.ref a0, .int x1, .int x2] G cA S D ad sz none True D' := by
  refine Met.ofW (cc := cX6_makeDivided) (maxL := 3) (ret := none) (by decide) rfl ?_
  intro p e s m args below meth c s₁ B hml hv
  obtain ⟨rfl, hsz, hP, hK, hD0, hT, hX⟩ := hv
  subst hsz
  have hts := atoms_spec (ws := Cond.code yX6_makeDivided cX6_makeDivided 3 none :: tb0) B.pre
  have hC : Cx RX6 cX6_makeDivided 3 none p s m _ meth c := ⟨B.exec, B.bytes, hml, findClass_of_methodNamed B.named, fun w q => hts w (List.mem_cons_of_mem _ q), B.returns, B.notSynchronized⟩
  have hw := Wd.entry hP hK hD0 hT hX
  have hl := lv_entry ([.ref a0, .int x1, .int x2]) (n := 3) (Nat.le_of_ble_eq_true rfl)
  rw [lg_entry_eq]
  exact w_X6_makeDivided_0 hC ⟨Nat.le_refl _, Nat.le_refl _⟩ o0 a0 x1 x2 D _ _ _ hi0 hw hl h
set_option maxHeartbeats 4000000 in
set_option maxRecDepth 100000 in
theorem w_X6_makeShifted_90 {r : Unit} {D' : dt} (hC : Cx RX6 cX6_makeShifted 7 none p s m args meth c) (hR : 1 ≤ R.frames ∧ 24 ≤ R.locals) : ∀  (D : dt) (H : Heap) (locs : List Loc) (ls : Array Slot), Wd G cA S D ad A s H locs → lv_has ls 7 [] → f_X6_makeShifted_90 S D = some (r, D') → W p l e R s m args below meth c H locs 0 0 (MQ below (Qn none True (wpost G cA S D' ad A) A) args s 0 0 A) (F0 m 90 ls []) := by
  obtain ⟨hx, hb, -⟩ := id hC
  intro D H locs ls  hw hl h
  unfold f_X6_makeShifted_90 at h
  refine lv_goto (tgt := 164) hx hb dX6_makeShifted_90 (by decide) ?_
  cases h
  exact r_vret hC hw dX6_makeShifted_164
set_option maxHeartbeats 4000000 in
set_option maxRecDepth 100000 in
theorem w_X6_makeShifted_86 {r : Unit} {D' : dt} (hC : Cx RX6 cX6_makeShifted 7 none p s m args meth c) (hR : 1 ≤ R.frames ∧ 24 ≤ R.locals) : ∀ (o0 a0 : Nat) (D : dt) (H : Heap) (locs : List Loc) (ls : Array Slot), Is S ad o0 a0 5 → Wd G cA S D ad A s H locs → lv_has ls 7 [(0, .ref a0)] → f_X6_makeShifted_86 S o0 D = some (r, D') → W p l e R s m args below meth c H locs 0 0 (MQ below (Qn none True (wpost G cA S D' ad A) A) args s 0 0 A) (F0 m 86 ls []) := by
  obtain ⟨hx, hb, -⟩ := id hC
  intro o0 a0 D H locs ls hi0 hw hl h
  unfold f_X6_makeShifted_86 at h
  refine lv_aload_n hx hb dX6_makeShifted_86 rfl (lv_at hl 0 rfl) ?_
  obtain ⟨_, D26, hq25, h⟩ := cq_i h
  refine r_cV (st' := []) [] [] hC hw kc_5 hi0 (k_X6_becomeAll _ hi0 hq25) mk_X6_becomeAll lk_738 ⟨Nat.le_trans (by decide) hR.1, Nat.le_trans (by decide) hR.2⟩ ⟨Nat.zero_le _, Nat.zero_le _⟩ rfl hl.1 rfl rfl (Nat.le_of_ble_eq_true rfl) dX6_makeShifted_87 (fun hP H locs hw => ?_)
  exact w_X6_makeShifted_90 hC hR _ _ _ _ hw (lv_sub hl [] rfl) h
set_option maxHeartbeats 4000000 in
set_option maxRecDepth 100000 in
theorem w_X6_makeShifted_122 {r : Unit} {D' : dt} (hC : Cx RX6 cX6_makeShifted 7 none p s m args meth c) (hR : 1 ≤ R.frames ∧ 24 ≤ R.locals) : ∀ (o0 a0 : Nat) (x3 : Int64) (D : dt) (H : Heap) (locs : List Loc) (ls : Array Slot), Is S ad o0 a0 5 → Wd G cA S D ad A s H locs → lv_has ls 7 [(0, .ref a0), (3, .long x3)] → f_X6_makeShifted_122 S o0 x3 D = some (r, D') → W p l e R s m args below meth c H locs 0 0 (MQ below (Qn none True (wpost G cA S D' ad A) A) args s 0 0 A) (F0 m 122 ls []) := by
  obtain ⟨hx, hb, -⟩ := id hC
  intro o0 a0 x3 D H locs ls hi0 hw hl h
  unfold f_X6_makeShifted_122 at h
  refine lv_aload_n hx hb dX6_makeShifted_122 rfl (lv_at hl 0 rfl) ?_
  refine r_gL hC hw kc_5 hi0 4 rfl lk_299 dX6_makeShifted_123 ?_
  refine lv_aload_n hx hb dX6_makeShifted_126 rfl (lv_at hl 0 rfl) ?_
  refine r_gL hC hw kc_5 hi0 5 rfl lk_300 dX6_makeShifted_127 ?_
  refine W.lcmp hx hb dX6_makeShifted_130 ?_
  refine lv_if_ne (tgt := 155) hx hb dX6_makeShifted_131 (by decide) (fun c27 => ?_) (fun c27 => ?_)
  · have h := i_no c27 h
    refine lv_aload_n hx hb dX6_makeShifted_155 rfl (lv_at hl 0 rfl) ?_
    refine lv_lconst (v := 0) hx hb dX6_makeShifted_156 (by decide) ?_
    refine lv_aload_n hx hb dX6_makeShifted_157 rfl (lv_at hl 0 rfl) ?_
    refine r_gL hC hw kc_5 hi0 3 rfl lk_298 dX6_makeShifted_158 ?_
    obtain ⟨_, D29, hq28, h⟩ := cq_i h
    refine r_cV (st' := []) [.long (0 : Int64), .long (gL D o0 3)] [] hC hw kc_5 hi0 (k_X6_become _ hi0 hq28) mk_X6_become lk_694 ⟨Nat.le_trans (by decide) hR.1, Nat.le_trans (by decide) hR.2⟩ ⟨Nat.zero_le _, Nat.zero_le _⟩ rfl hl.1 rfl rfl (Nat.le_of_ble_eq_true rfl) dX6_makeShifted_161 (fun hP H locs hw => ?_)
    cases h
    exact r_vret hC hw dX6_makeShifted_164
  · have h := i_yes c27 h
    refine lv_aload_n hx hb dX6_makeShifted_134 rfl (lv_at hl 0 rfl) ?_
    refine lv_aload_n hx hb dX6_makeShifted_135 rfl (lv_at hl 0 rfl) ?_
    refine r_gL hC hw kc_5 hi0 2 rfl lk_297 dX6_makeShifted_136 ?_
    refine lv_lload_n hx hb dX6_makeShifted_139 rfl (lv_at hl 1 rfl) ?_
    refine lv_l2i (v := x3.toInt32) hx hb dX6_makeShifted_140 rfl ?_
    refine lv_lushr (v := j_lushr (gL D o0 2) x3.toInt32) hx hb dX6_makeShifted_141 rfl ?_
    refine lv_aload_n hx hb dX6_makeShifted_142 rfl (lv_at hl 0 rfl) ?_
    refine r_gL hC hw kc_5 hi0 3 rfl lk_298 dX6_makeShifted_143 ?_
    refine lv_lload_n hx hb dX6_makeShifted_146 rfl (lv_at hl 1 rfl) ?_
    refine lv_l2i (v := x3.toInt32) hx hb dX6_makeShifted_147 rfl ?_
    refine lv_lushr (v := j_lushr (gL D o0 3) x3.toInt32) hx hb dX6_makeShifted_148 rfl ?_
    obtain ⟨_, D31, hq30, h⟩ := cq_i h
    refine r_cV (st' := []) [.long (j_lushr (gL D o0 2) x3.toInt32), .long (j_lushr (gL D o0 3) x3.toInt32)] [] hC hw kc_5 hi0 (k_X6_become _ hi0 hq30) mk_X6_become lk_694 ⟨Nat.le_trans (by decide) hR.1, Nat.le_trans (by decide) hR.2⟩ ⟨Nat.zero_le _, Nat.zero_le _⟩ rfl hl.1 rfl rfl (Nat.le_of_ble_eq_true rfl) dX6_makeShifted_149 (fun hP H locs hw => ?_)
    refine lv_goto (tgt := 164) hx hb dX6_makeShifted_152 (by decide) ?_
    cases h
    exact r_vret hC hw dX6_makeShifted_164
set_option maxHeartbeats 4000000 in
set_option maxRecDepth 100000 in
theorem w_X6_makeShifted_15 {r : Unit} {D' : dt} (hC : Cx RX6 cX6_makeShifted 7 none p s m args meth c) (hR : 1 ≤ R.frames ∧ 24 ≤ R.locals) : ∀ (o0 a0 : Nat) (x1 : Int32) (xs0 : Int64) (xs1 : Int32) (D : dt) (H : Heap) (locs : List Loc) (ls : Array Slot), Is S ad o0 a0 5 → Wd G cA S D ad A s H locs → lv_has ls 7 [(0, .ref a0), (1, .int x1)] → f_X6_makeShifted_15 S o0 x1 xs0 xs1 D = some (r, D') → W p l e R s m args below meth c H locs 0 0 (MQ below (Qn none True (wpost G cA S D' ad A) A) args s 0 0 A) (F0 m 15 ls [.int xs1, .long xs0]) := by
  obtain ⟨hx, hb, -⟩ := id hC
  intro o0 a0 x1 xs0 xs1 D H locs ls hi0 hw hl h
  unfold f_X6_makeShifted_15 at h
  refine lv_i2l (v := xs1.toInt64) hx hb dX6_makeShifted_15 rfl ?_
  refine lv_land hx hb dX6_makeShifted_16 ?_
  refine lv_topl (fun y32 ey32 => ?_)
  have h := nm_i h y32 ey32
  refine lv_lstore_n (lv' := [(3, .long y32), (0, .ref a0), (1, .int x1)]) hx hb dX6_makeShifted_17 rfl hl (by decide) rfl (fun ls hl => ?_)
  refine lv_iload_n hx hb dX6_makeShifted_18 rfl (lv_at hl 2 rfl) ?_
  refine lv_bipush (v := 6) hx hb dX6_makeShifted_19 (by decide) ?_
  refine lv_icmp_ne (tgt := 93) hx hb dX6_makeShifted_21 (by decide) (fun c33 => ?_) (fun c33 => ?_)
  · have h := i_no c33 h
    refine lv_iload_n hx hb dX6_makeShifted_93 rfl (lv_at hl 2 rfl) ?_
    refine lv_bipush (v := 12) hx hb dX6_makeShifted_94 (by decide) ?_
    refine lv_icmp_ne (tgt := 122) hx hb dX6_makeShifted_96 (by decide) (fun c34 => ?_) (fun c34 => ?_)
    · have h := i_no c34 h
      exact w_X6_makeShifted_122 hC hR o0 a0 y32 _ _ _ _ hi0 hw (lv_sub hl [1, 0] rfl) h
    · have h := i_yes c34 h
      refine lv_aload_n hx hb dX6_makeShifted_99 rfl (lv_at hl 1 rfl) ?_
      refine r_gL hC hw kc_5 hi0 6 rfl lk_301 dX6_makeShifted_100 ?_
      refine lv_iconst (v := 1) hx hb dX6_makeShifted_103 (by decide) ?_
      refine lv_lushr (v := j_lushr (gL D o0 6) (1 : Int32)) hx hb dX6_makeShifted_104 rfl ?_
      refine lv_aload_n hx hb dX6_makeShifted_105 rfl (lv_at hl 1 rfl) ?_
      refine r_gL hC hw kc_5 hi0 3 rfl lk_298 dX6_makeShifted_106 ?_
      obtain ⟨r36, hq35, h⟩ := pq_i h
      refine r_cS (st' := [.int r36]) [.long (j_lushr (gL D o0 6) (1 : Int32)), .long (gL D o0 3)] [] hC hw (k_X3_below _ hq35) mk_X3_below lk_709 ⟨Nat.le_trans (by decide) hR.1, Nat.le_trans (by decide) hR.2⟩ ⟨Nat.zero_le _, Nat.zero_le _⟩ rfl hl.1 rfl rfl (Nat.le_of_ble_eq_true rfl) dX6_makeShifted_109 (fun hP H locs hw => ?_)
      refine lv_if_eq (tgt := 122) hx hb dX6_makeShifted_112 (by decide) (fun c37 => ?_) (fun c37 => ?_)
      · have h := i_yes c37 h
        exact w_X6_makeShifted_122 hC hR o0 a0 y32 _ _ _ _ hi0 hw (lv_sub hl [1, 0] rfl) h
      · have h := i_no c37 h
        refine lv_aload_n hx hb dX6_makeShifted_115 rfl (lv_at hl 1 rfl) ?_
        obtain ⟨_, D39, hq38, h⟩ := cq_i h
        refine r_cV (st' := []) [] [] hC hw kc_5 hi0 (k_X6_becomeAll _ hi0 hq38) mk_X6_becomeAll lk_738 ⟨Nat.le_trans (by decide) hR.1, Nat.le_trans (by decide) hR.2⟩ ⟨Nat.zero_le _, Nat.zero_le _⟩ rfl hl.1 rfl rfl (Nat.le_of_ble_eq_true rfl) dX6_makeShifted_116 (fun hP H locs hw => ?_)
        refine lv_goto (tgt := 164) hx hb dX6_makeShifted_119 (by decide) ?_
        cases h
        exact r_vret hC hw dX6_makeShifted_164
  · have h := i_yes c33 h
    refine lv_aload_n hx hb dX6_makeShifted_24 rfl (lv_at hl 1 rfl) ?_
    refine r_gL hC hw kc_5 hi0 3 rfl lk_298 dX6_makeShifted_25 ?_
    refine lv_lload_n hx hb dX6_makeShifted_28 rfl (lv_at hl 0 rfl) ?_
    refine lv_l2i (v := y32.toInt32) hx hb dX6_makeShifted_29 rfl ?_
    refine lv_lshl (v := j_lshl (gL D o0 3) y32.toInt32) hx hb dX6_makeShifted_30 rfl ?_
    refine lv_topl (fun y40 ey40 => ?_)
    have h := nm_i h y40 ey40
    refine lv_lstore (lv' := [(5, .long y40), (3, .long y32), (0, .ref a0), (1, .int x1)]) hx hb dX6_makeShifted_31 hl (by decide) rfl (fun ls hl => ?_)
    refine lv_aload_n hx hb dX6_makeShifted_33 rfl (lv_at hl 2 rfl) ?_
    refine r_gL hC hw kc_5 hi0 4 rfl lk_299 dX6_makeShifted_34 ?_
    refine lv_aload_n hx hb dX6_makeShifted_37 rfl (lv_at hl 2 rfl) ?_
    refine r_gL hC hw kc_5 hi0 5 rfl lk_300 dX6_makeShifted_38 ?_
    refine W.lcmp hx hb dX6_makeShifted_41 ?_
    refine lv_if_ne (tgt := 86) hx hb dX6_makeShifted_42 (by decide) (fun c41 => ?_) (fun c41 => ?_)
    · have h := i_no c41 h
      exact w_X6_makeShifted_86 hC hR o0 a0 _ _ _ _ hi0 hw (lv_sub hl [2] rfl) h
    · have h := i_yes c41 h
      refine lv_lload hx hb dX6_makeShifted_45 (lv_at hl 0 rfl) ?_
      refine lv_lload_n hx hb dX6_makeShifted_47 rfl (lv_at hl 1 rfl) ?_
      refine lv_l2i (v := y32.toInt32) hx hb dX6_makeShifted_48 rfl ?_
      refine lv_lushr (v := j_lushr y40 y32.toInt32) hx hb dX6_makeShifted_49 rfl ?_
      refine lv_aload_n hx hb dX6_makeShifted_50 rfl (lv_at hl 2 rfl) ?_
      refine r_gL hC hw kc_5 hi0 3 rfl lk_298 dX6_makeShifted_51 ?_
      refine W.lcmp hx hb dX6_makeShifted_54 ?_
      refine lv_if_ne (tgt := 86) hx hb dX6_makeShifted_55 (by decide) (fun c42 => ?_) (fun c42 => ?_)
      · have h := i_no c42 h
        exact w_X6_makeShifted_86 hC hR o0 a0 _ _ _ _ hi0 hw (lv_sub hl [2] rfl) h
      · have h := i_yes c42 h
        refine lv_aload_n hx hb dX6_makeShifted_58 rfl (lv_at hl 2 rfl) ?_
        refine r_gL hC hw kc_5 hi0 6 rfl lk_301 dX6_makeShifted_59 ?_
        refine lv_lload hx hb dX6_makeShifted_62 (lv_at hl 0 rfl) ?_
        obtain ⟨r44, hq43, h⟩ := pq_i h
        refine r_cS (st' := [.int r44]) [.long (gL D o0 6), .long y40] [] hC hw (k_X3_below _ hq43) mk_X3_below lk_709 ⟨Nat.le_trans (by decide) hR.1, Nat.le_trans (by decide) hR.2⟩ ⟨Nat.zero_le _, Nat.zero_le _⟩ rfl hl.1 rfl rfl (Nat.le_of_ble_eq_true rfl) dX6_makeShifted_64 (fun hP H locs hw => ?_)
        refine lv_if_ne (tgt := 86) hx hb dX6_makeShifted_67 (by decide) (fun c45 => ?_) (fun c45 => ?_)
        · have h := i_no c45 h
          exact w_X6_makeShifted_86 hC hR o0 a0 _ _ _ _ hi0 hw (lv_sub hl [2] rfl) h
        · have h := i_yes c45 h
          refine lv_aload_n hx hb dX6_makeShifted_70 rfl (lv_at hl 2 rfl) ?_
          refine lv_aload_n hx hb dX6_makeShifted_71 rfl (lv_at hl 2 rfl) ?_
          refine r_gL hC hw kc_5 hi0 2 rfl lk_297 dX6_makeShifted_72 ?_
          refine lv_lload_n hx hb dX6_makeShifted_75 rfl (lv_at hl 1 rfl) ?_
          refine lv_l2i (v := y32.toInt32) hx hb dX6_makeShifted_76 rfl ?_
          refine lv_lshl (v := j_lshl (gL D o0 2) y32.toInt32) hx hb dX6_makeShifted_77 rfl ?_
          refine lv_lload hx hb dX6_makeShifted_78 (lv_at hl 0 rfl) ?_
          obtain ⟨_, D47, hq46, h⟩ := cq_i h
          refine r_cV (st' := []) [.long (j_lshl (gL D o0 2) y32.toInt32), .long y40] [] hC hw kc_5 hi0 (k_X6_become _ hi0 hq46) mk_X6_become lk_694 ⟨Nat.le_trans (by decide) hR.1, Nat.le_trans (by decide) hR.2⟩ ⟨Nat.zero_le _, Nat.zero_le _⟩ rfl hl.1 rfl rfl (Nat.le_of_ble_eq_true rfl) dX6_makeShifted_80 (fun hP H locs hw => ?_)
          refine lv_goto (tgt := 90) hx hb dX6_makeShifted_83 (by decide) ?_
          exact w_X6_makeShifted_90 hC hR _ _ _ _ hw (lv_sub hl [] rfl) h
set_option maxHeartbeats 4000000 in
set_option maxRecDepth 100000 in
theorem w_X6_makeShifted_0 {r : Unit} {D' : dt} (hC : Cx RX6 cX6_makeShifted 7 none p s m args meth c) (hR : 1 ≤ R.frames ∧ 24 ≤ R.locals) : ∀ (o0 a0 : Nat) (x1 : Int32) (x2 : Int32) (D : dt) (H : Heap) (locs : List Loc) (ls : Array Slot), Is S ad o0 a0 5 → Wd G cA S D ad A s H locs → lv_has ls 7 [(0, .ref a0), (1, .int x1), (2, .int x2)] → f_X6_makeShifted S o0 x1 x2 D = some (r, D') → W p l e R s m args below meth c H locs 0 0 (MQ below (Qn none True (wpost G cA S D' ad A) A) args s 0 0 A) (F0 m 0 ls []) := by
  obtain ⟨hx, hb, -⟩ := id hC
  intro o0 a0 x1 x2 D H locs ls hi0 hw hl h
  unfold f_X6_makeShifted at h
  refine lv_aload_n hx hb dX6_makeShifted_0 rfl (lv_at hl 0 rfl) ?_
  refine r_gL hC hw kc_5 hi0 4 rfl lk_299 dX6_makeShifted_1 ?_
  refine lv_iload_n hx hb dX6_makeShifted_4 rfl (lv_at hl 2 rfl) ?_
  refine lv_if_eq (tgt := 13) hx hb dX6_makeShifted_5 (by decide) (fun c48 => ?_) (fun c48 => ?_)
  · have h := i_yes c48 h
    refine lv_bipush (v := 31) hx hb dX6_makeShifted_13 (by decide) ?_
    exact w_X6_makeShifted_15 hC hR o0 a0 x1 (gL D o0 4) (31 : Int32) _ _ _ _ hi0 hw (lv_sub hl [0, 1] rfl) h
  · have h := i_no c48 h
    refine lv_bipush (v := 63) hx hb dX6_makeShifted_8 (by decide) ?_
    refine lv_goto (tgt := 15) hx hb dX6_makeShifted_10 (by decide) ?_
    exact w_X6_makeShifted_15 hC hR o0 a0 x1 (gL D o0 4) (63 : Int32) _ _ _ _ hi0 hw (lv_sub hl [0, 1] rfl) h
set_option maxHeartbeats 4000000 in
set_option maxRecDepth 100000 in
theorem k_X6_makeShifted {l : Launch} {G : va_G} {cA : Nat → ClassId} {S : sh} {D D' : dt} {ad : Nat → Nat} (sz : Nat) {o0 a0 : Nat} {x1 : Int32} {x2 : Int32} {r : Unit} (hi0 : Is S ad o0 a0 5) (h : f_X6_makeShifted S o0 x1 x2 D = some (r, D')) : Co l yX6_makeShifted (Cond.code yX6_makeShifted cX6_makeShifted 7 none :: tb0) 1 24 [.ref a0, .int x1, .int x2] G cA S D ad sz none True D' := by
  refine Met.ofW (cc := cX6_makeShifted) (maxL := 7) (ret := none) (by decide) rfl ?_
  intro p e s m args below meth c s₁ B hml hv
  obtain ⟨rfl, hsz, hP, hK, hD0, hT, hX⟩ := hv
  subst hsz
  have hts := atoms_spec (ws := Cond.code yX6_makeShifted cX6_makeShifted 7 none :: tb0) B.pre
  have hC : Cx RX6 cX6_makeShifted 7 none p s m _ meth c := ⟨B.exec, B.bytes, hml, findClass_of_methodNamed B.named, fun w q => hts w (List.mem_cons_of_mem _ q), B.returns, B.notSynchronized⟩
  have hw := Wd.entry hP hK hD0 hT hX
  have hl := lv_entry ([.ref a0, .int x1, .int x2]) (n := 7) (Nat.le_of_ble_eq_true rfl)
  rw [lg_entry_eq]
  exact w_X6_makeShifted_0 hC ⟨Nat.le_refl _, Nat.le_refl _⟩ o0 a0 x1 x2 D _ _ _ hi0 hw hl h
set_option maxHeartbeats 4000000 in
set_option maxRecDepth 100000 in
theorem w_X6_onesFor_5 {r : Int64} (hC : Cx RX6 cX6_onesFor 5 (some .long) p s m args meth c) (hR : 0 ≤ R.frames ∧ 0 ≤ R.locals) : ∀ (n : Nat), ∀ (x2 : Int64) (x4 : Int32) (H : Heap) (locs : List Loc) (ls : Array Slot), Wd G cA S D ad A s H locs → lv_has ls 5 [(2, .long x2), (4, .int x4)] → f_X6_onesFor_5 n x2 x4 = some r → W p l e R s m args below meth c H locs 0 0 (MQ below (Qn (some (.long r)) True (wpost G cA S D ad A) A) args s 0 0 A) (F0 m 5 ls []) := by
  obtain ⟨hx, hb, -⟩ := id hC
  intro n
  induction n with
  | zero =>
    intro x2 x4 H locs ls hw hl h
    rw [f_X6_onesFor_5.eq_1] at h
    cases h
  | succ n ih =>
    intro x2 x4 H locs ls hw hl h
    rw [f_X6_onesFor_5.eq_2] at h
    refine lv_iload hx hb dX6_onesFor_5 (lv_at hl 1 rfl) ?_
    refine lv_bipush (v := 64) hx hb dX6_onesFor_7 (by decide) ?_
    refine lv_icmp_ge (tgt := 28) hx hb dX6_onesFor_9 (by decide) (fun c5 => ?_) (fun c5 => ?_)
    · have h := i_yes c5 h
      refine lv_lload_n hx hb dX6_onesFor_28 rfl (lv_at hl 0 rfl) ?_
      cases h
      exact r_lret hC hw dX6_onesFor_29
    · have h := i_no c5 h
      refine lv_lload_n hx hb dX6_onesFor_12 rfl (lv_at hl 0 rfl) ?_
      refine lv_lload_n hx hb dX6_onesFor_13 rfl (lv_at hl 0 rfl) ?_
      refine lv_iload hx hb dX6_onesFor_14 (lv_at hl 1 rfl) ?_
      refine lv_lushr (v := j_lushr x2 x4) hx hb dX6_onesFor_16 rfl ?_
      refine lv_lor hx hb dX6_onesFor_17 ?_
      refine lv_topl (fun y6 ey6 => ?_)
      have h := nm_i h y6 ey6
      refine lv_lstore_n (lv' := [(2, .long y6), (4, .int x4)]) hx hb dX6_onesFor_18 rfl hl (by decide) rfl (fun ls hl => ?_)
      refine lv_iload hx hb dX6_onesFor_19 (lv_at hl 1 rfl) ?_
      refine lv_iconst (v := 2) hx hb dX6_onesFor_21 (by decide) ?_
      refine lv_imul hx hb dX6_onesFor_22 ?_
      refine lv_topi (fun y7 ey7 => ?_)
      have h := nm_i h y7 ey7
      refine lv_istore (lv' := [(4, .int y7), (2, .long y6)]) hx hb dX6_onesFor_23 hl (by decide) rfl (fun ls hl => ?_)
      refine lv_goto (tgt := 5) hx hb dX6_onesFor_25 (by decide) ?_
      exact ih y6 y7 _ _ _ hw (lv_sub hl [1, 0] rfl) h
set_option maxHeartbeats 4000000 in
set_option maxRecDepth 100000 in
theorem w_X6_onesFor_0 {r : Int64} (hC : Cx RX6 cX6_onesFor 5 (some .long) p s m args meth c) (hR : 0 ≤ R.frames ∧ 0 ≤ R.locals) : ∀ (x0 : Int64) (H : Heap) (locs : List Loc) (ls : Array Slot), Wd G cA S D ad A s H locs → lv_has ls 5 [(0, .long x0)] → f_X6_onesFor x0 = some r → W p l e R s m args below meth c H locs 0 0 (MQ below (Qn (some (.long r)) True (wpost G cA S D ad A) A) args s 0 0 A) (F0 m 0 ls []) := by
  obtain ⟨hx, hb, -⟩ := id hC
  intro x0 H locs ls hw hl h
  unfold f_X6_onesFor at h
  refine lv_lload_n hx hb dX6_onesFor_0 rfl (lv_at hl 0 rfl) ?_
  refine lv_lstore_n (lv' := [(2, .long x0), (0, .long x0)]) hx hb dX6_onesFor_1 rfl hl (by decide) rfl (fun ls hl => ?_)
  refine lv_iconst (v := 1) hx hb dX6_onesFor_2 (by decide) ?_
  refine lv_topi (fun y8 ey8 => ?_)
  have h := nm_i h y8 ey8
  refine lv_istore (lv' := [(4, .int y8), (2, .long x0), (0, .long x0)]) hx hb dX6_onesFor_3 hl (by decide) rfl (fun ls hl => ?_)
  exact w_X6_onesFor_5 hC hR LF x0 y8 _ _ _ hw (lv_sub hl [1, 0] rfl) h
set_option maxHeartbeats 4000000 in
set_option maxRecDepth 100000 in
theorem k_X6_onesFor {l : Launch} {G : va_G} {cA : Nat → ClassId} {S : sh} {D : dt} {ad : Nat → Nat} (sz : Nat) {x0 : Int64} {r : Int64}  (h : f_X6_onesFor x0 = some r) : Co l yX6_onesFor (Cond.code yX6_onesFor cX6_onesFor 5 (some .long) :: tb0) 0 0 [.long x0] G cA S D ad sz (some (.long r)) True D := by
  refine Met.ofW (cc := cX6_onesFor) (maxL := 5) (ret := (some .long)) (by decide) rfl ?_
  intro p e s m args below meth c s₁ B hml hv
  obtain ⟨rfl, hsz, hP, hK, hD0, hT, hX⟩ := hv
  subst hsz
  have hts := atoms_spec (ws := Cond.code yX6_onesFor cX6_onesFor 5 (some .long) :: tb0) B.pre
  have hC : Cx RX6 cX6_onesFor 5 (some .long) p s m _ meth c := ⟨B.exec, B.bytes, hml, findClass_of_methodNamed B.named, fun w q => hts w (List.mem_cons_of_mem _ q), B.returns, B.notSynchronized⟩
  have hw := Wd.entry hP hK hD0 hT hX
  have hl := lv_entry ([.long x0]) (n := 5) (Nat.le_of_ble_eq_true rfl)
  rw [lg_entry_eq]
  exact w_X6_onesFor_0 hC ⟨Nat.le_refl _, Nat.le_refl _⟩ x0 _ _ _ hw hl h
set_option maxHeartbeats 4000000 in
set_option maxRecDepth 100000 in
theorem w_X6_makeOther_315 {r : Unit} {D' : dt} (hC : Cx RX6 cX6_makeOther 5 none p s m args meth c) (hR : 1 ≤ R.frames ∧ 24 ≤ R.locals) : ∀ (x3 : Int64) (os0 as0 : Nat) (xs1 : Int64) (D : dt) (H : Heap) (locs : List Loc) (ls : Array Slot), Is S ad os0 as0 5 → Wd G cA S D ad A s H locs → lv_has ls 5 [(3, .long x3)] → f_X6_makeOther_315 S x3 os0 xs1 D = some (r, D') → W p l e R s m args below meth c H locs 0 0 (MQ below (Qn none True (wpost G cA S D' ad A) A) args s 0 0 A) (F0 m 315 ls [.long xs1, .ref as0]) := by
  obtain ⟨hx, hb, -⟩ := id hC
  intro x3 os0 as0 xs1 D H locs ls his0 hw hl h
  unfold f_X6_makeOther_315 at h
  refine lv_lload_n hx hb dX6_makeOther_315 rfl (lv_at hl 0 rfl) ?_
  obtain ⟨r70, hq69, h⟩ := pq_i h
  refine r_cS (st' := [.long r70, .long xs1, .ref as0]) [.long x3] [.long xs1, .ref as0] hC hw (k_X6_onesFor _ hq69) mk_X6_onesFor lk_751 ⟨Nat.le_trans (by decide) hR.1, Nat.le_trans (by decide) hR.2⟩ ⟨Nat.zero_le _, Nat.zero_le _⟩ rfl hl.1 rfl rfl (Nat.le_of_ble_eq_true rfl) dX6_makeOther_316 (fun hP H locs hw => ?_)
  obtain ⟨_, D72, hq71, h⟩ := cq_i h
  refine r_cV (st' := []) [.long xs1, .long r70] [] hC hw kc_5 his0 (k_X6_become _ his0 hq71) mk_X6_become lk_694 ⟨Nat.le_trans (by decide) hR.1, Nat.le_trans (by decide) hR.2⟩ ⟨Nat.zero_le _, Nat.zero_le _⟩ rfl hl.1 rfl rfl (Nat.le_of_ble_eq_true rfl) dX6_makeOther_319 (fun hP H locs hw => ?_)
  refine lv_goto (tgt := 379) hx hb dX6_makeOther_322 (by decide) ?_
  cases h
  exact r_vret hC hw dX6_makeOther_379
set_option maxHeartbeats 4000000 in
set_option maxRecDepth 100000 in
theorem w_X6_makeOther_148 {r : Unit} {D' : dt} (hC : Cx RX6 cX6_makeOther 5 none p s m args meth c) (hR : 1 ≤ R.frames ∧ 24 ≤ R.locals) : ∀ (o0 a0 : Nat) (D : dt) (H : Heap) (locs : List Loc) (ls : Array Slot), Is S ad o0 a0 5 → Wd G cA S D ad A s H locs → lv_has ls 5 [(0, .ref a0)] → f_X6_makeOther_148 S o0 D = some (r, D') → W p l e R s m args below meth c H locs 0 0 (MQ below (Qn none True (wpost G cA S D' ad A) A) args s 0 0 A) (F0 m 148 ls []) := by
  obtain ⟨hx, hb, -⟩ := id hC
  intro o0 a0 D H locs ls hi0 hw hl h
  unfold f_X6_makeOther_148 at h
  refine lv_aload_n hx hb dX6_makeOther_148 rfl (lv_at hl 0 rfl) ?_
  obtain ⟨_, D74, hq73, h⟩ := cq_i h
  refine r_cV (st' := []) [] [] hC hw kc_5 hi0 (k_X6_becomeAll _ hi0 hq73) mk_X6_becomeAll lk_738 ⟨Nat.le_trans (by decide) hR.1, Nat.le_trans (by decide) hR.2⟩ ⟨Nat.zero_le _, Nat.zero_le _⟩ rfl hl.1 rfl rfl (Nat.le_of_ble_eq_true rfl) dX6_makeOther_149 (fun hP H locs hw => ?_)
  refine lv_goto (tgt := 379) hx hb dX6_makeOther_152 (by decide) ?_
  cases h
  exact r_vret hC hw dX6_makeOther_379
set_option maxHeartbeats 4000000 in
set_option maxRecDepth 100000 in
theorem w_X6_makeOther_375 {r : Unit} {D' : dt} (hC : Cx RX6 cX6_makeOther 5 none p s m args meth c) (hR : 1 ≤ R.frames ∧ 24 ≤ R.locals) : ∀ (o0 a0 : Nat) (D : dt) (H : Heap) (locs : List Loc) (ls : Array Slot), Is S ad o0 a0 5 → Wd G cA S D ad A s H locs → lv_has ls 5 [(0, .ref a0)] → f_X6_makeOther_375 S o0 D = some (r, D') → W p l e R s m args below meth c H locs 0 0 (MQ below (Qn none True (wpost G cA S D' ad A) A) args s 0 0 A) (F0 m 375 ls []) := by
  obtain ⟨hx, hb, -⟩ := id hC
  intro o0 a0 D H locs ls hi0 hw hl h
  unfold f_X6_makeOther_375 at h
  refine lv_aload_n hx hb dX6_makeOther_375 rfl (lv_at hl 0 rfl) ?_
  obtain ⟨_, D76, hq75, h⟩ := cq_i h
  refine r_cV (st' := []) [] [] hC hw kc_5 hi0 (k_X6_becomeAll _ hi0 hq75) mk_X6_becomeAll lk_738 ⟨Nat.le_trans (by decide) hR.1, Nat.le_trans (by decide) hR.2⟩ ⟨Nat.zero_le _, Nat.zero_le _⟩ rfl hl.1 rfl rfl (Nat.le_of_ble_eq_true rfl) dX6_makeOther_376 (fun hP H locs hw => ?_)
  cases h
  exact r_vret hC hw dX6_makeOther_379
set_option maxHeartbeats 4000000 in
set_option maxRecDepth 100000 in
theorem w_X6_makeOther_249 {r : Unit} {D' : dt} (hC : Cx RX6 cX6_makeOther 5 none p s m args meth c) (hR : 1 ≤ R.frames ∧ 24 ≤ R.locals) : ∀ (o0 a0 : Nat) (D : dt) (H : Heap) (locs : List Loc) (ls : Array Slot), Is S ad o0 a0 5 → Wd G cA S D ad A s H locs → lv_has ls 5 [(0, .ref a0)] → f_X6_makeOther_249 S o0 D = some (r, D') → W p l e R s m args below meth c H locs 0 0 (MQ below (Qn none True (wpost G cA S D' ad A) A) args s 0 0 A) (F0 m 249 ls []) := by
  obtain ⟨hx, hb, -⟩ := id hC
  intro o0 a0 D H locs ls hi0 hw hl h
  unfold f_X6_makeOther_249 at h
  refine lv_aload_n hx hb dX6_makeOther_249 rfl (lv_at hl 0 rfl) ?_
  obtain ⟨_, D78, hq77, h⟩ := cq_i h
  refine r_cV (st' := []) [] [] hC hw kc_5 hi0 (k_X6_becomeAll _ hi0 hq77) mk_X6_becomeAll lk_738 ⟨Nat.le_trans (by decide) hR.1, Nat.le_trans (by decide) hR.2⟩ ⟨Nat.zero_le _, Nat.zero_le _⟩ rfl hl.1 rfl rfl (Nat.le_of_ble_eq_true rfl) dX6_makeOther_250 (fun hP H locs hw => ?_)
  refine lv_goto (tgt := 379) hx hb dX6_makeOther_253 (by decide) ?_
  cases h
  exact r_vret hC hw dX6_makeOther_379
set_option maxHeartbeats 4000000 in
set_option maxRecDepth 100000 in
theorem w_X6_makeOther_283 {r : Unit} {D' : dt} (hC : Cx RX6 cX6_makeOther 5 none p s m args meth c) (hR : 1 ≤ R.frames ∧ 24 ≤ R.locals) : ∀ (os0 as0 : Nat) (xs1 : Int64) (xs2 : Int64) (D : dt) (H : Heap) (locs : List Loc) (ls : Array Slot), Is S ad os0 as0 5 → Wd G cA S D ad A s H locs → lv_has ls 5 [] → f_X6_makeOther_283 S os0 xs1 xs2 D = some (r, D') → W p l e R s m args below meth c H locs 0 0 (MQ below (Qn none True (wpost G cA S D' ad A) A) args s 0 0 A) (F0 m 283 ls [.long xs2, .long xs1, .ref as0]) := by
  obtain ⟨hx, hb, -⟩ := id hC
  intro os0 as0 xs1 xs2 D H locs ls his0 hw hl h
  unfold f_X6_makeOther_283 at h
  obtain ⟨_, D80, hq79, h⟩ := cq_i h
  refine r_cV (st' := []) [.long xs1, .long xs2] [] hC hw kc_5 his0 (k_X6_become _ his0 hq79) mk_X6_become lk_694 ⟨Nat.le_trans (by decide) hR.1, Nat.le_trans (by decide) hR.2⟩ ⟨Nat.zero_le _, Nat.zero_le _⟩ rfl hl.1 rfl rfl (Nat.le_of_ble_eq_true rfl) dX6_makeOther_283 (fun hP H locs hw => ?_)
  refine lv_goto (tgt := 379) hx hb dX6_makeOther_286 (by decide) ?_
  cases h
  exact r_vret hC hw dX6_makeOther_379
set_option maxHeartbeats 4000000 in
set_option maxRecDepth 100000 in
theorem w_X6_makeOther_25 {r : Unit} {D' : dt} (hC : Cx RX6 cX6_makeOther 5 none p s m args meth c) (hR : 1 ≤ R.frames ∧ 24 ≤ R.locals) : ∀ (o0 a0 : Nat) (x1 : Int32) (x2 : Int32) (xs0 : Int64) (D : dt) (H : Heap) (locs : List Loc) (ls : Array Slot), Is S ad o0 a0 5 → Wd G cA S D ad A s H locs → lv_has ls 5 [(0, .ref a0), (1, .int x1), (2, .int x2)] → f_X6_makeOther_25 S o0 x1 x2 xs0 D = some (r, D') → W p l e R s m args below meth c H locs 0 0 (MQ below (Qn none True (wpost G cA S D' ad A) A) args s 0 0 A) (F0 m 25 ls [.long xs0]) := by
  obtain ⟨hx, hb, -⟩ := id hC
  intro o0 a0 x1 x2 xs0 D H locs ls hi0 hw hl h
  unfold f_X6_makeOther_25 at h
  refine lv_lstore_n (lv' := [(3, .long xs0), (0, .ref a0), (1, .int x1), (2, .int x2)]) hx hb dX6_makeOther_25 rfl hl (by decide) rfl (fun ls hl => ?_)
  refine lv_iload_n hx hb dX6_makeOther_26 rfl (lv_at hl 2 rfl) ?_
  by_cases c81 : x1 = 0
  · have h := i_yes c81 h
    refine lv_tableIn (off := 61) (tgt := 88) hx hb dX6_makeOther_27 (by rw [c81]; decide) (by rw [c81]; decide) (by rw [c81] <;> rfl) (by decide) ?_
    refine lv_aload_n hx hb dX6_makeOther_88 rfl (lv_at hl 1 rfl) ?_
    refine lv_aload_n hx hb dX6_makeOther_89 rfl (lv_at hl 1 rfl) ?_
    refine r_gL hC hw kc_5 hi0 2 rfl lk_297 dX6_makeOther_90 ?_
    refine lv_aload_n hx hb dX6_makeOther_93 rfl (lv_at hl 1 rfl) ?_
    refine r_gL hC hw kc_5 hi0 4 rfl lk_299 dX6_makeOther_94 ?_
    refine lv_ladd hx hb dX6_makeOther_97 ?_
    refine lv_aload_n hx hb dX6_makeOther_98 rfl (lv_at hl 1 rfl) ?_
    refine r_gL hC hw kc_5 hi0 3 rfl lk_298 dX6_makeOther_99 ?_
    refine lv_aload_n hx hb dX6_makeOther_102 rfl (lv_at hl 1 rfl) ?_
    refine r_gL hC hw kc_5 hi0 5 rfl lk_300 dX6_makeOther_103 ?_
    refine lv_ladd hx hb dX6_makeOther_106 ?_
    obtain ⟨_, D83, hq82, h⟩ := cq_i h
    refine r_cV (st' := []) [.long ((gL D o0 2) + (gL D o0 4)), .long ((gL D o0 3) + (gL D o0 5))] [] hC hw kc_5 hi0 (k_X6_become _ hi0 hq82) mk_X6_become lk_694 ⟨Nat.le_trans (by decide) hR.1, Nat.le_trans (by decide) hR.2⟩ ⟨Nat.zero_le _, Nat.zero_le _⟩ rfl hl.1 rfl rfl (Nat.le_of_ble_eq_true rfl) dX6_makeOther_107 (fun hP H locs hw => ?_)
    refine lv_aload_n hx hb dX6_makeOther_110 rfl (lv_at hl 1 rfl) ?_
    refine r_gL hC hw kc_5 hi0 3 rfl lk_298 dX6_makeOther_111 ?_
    refine lv_aload_n hx hb dX6_makeOther_114 rfl (lv_at hl 1 rfl) ?_
    refine r_gL hC hw kc_5 hi0 5 rfl lk_300 dX6_makeOther_115 ?_
    refine lv_ladd hx hb dX6_makeOther_118 ?_
    refine lv_aload_n hx hb dX6_makeOther_119 rfl (lv_at hl 1 rfl) ?_
    refine r_gL hC hw kc_5 hi0 3 rfl lk_298 dX6_makeOther_120 ?_
    obtain ⟨r85, hq84, h⟩ := pq_i h
    refine r_cS (st' := [.int r85]) [.long ((gL D83 o0 3) + (gL D83 o0 5)), .long (gL D83 o0 3)] [] hC hw (k_X3_below _ hq84) mk_X3_below lk_709 ⟨Nat.le_trans (by decide) hR.1, Nat.le_trans (by decide) hR.2⟩ ⟨Nat.zero_le _, Nat.zero_le _⟩ rfl hl.1 rfl rfl (Nat.le_of_ble_eq_true rfl) dX6_makeOther_123 (fun hP H locs hw => ?_)
    refine lv_if_ne (tgt := 148) hx hb dX6_makeOther_126 (by decide) (fun c86 => ?_) (fun c86 => ?_)
    · have h := i_no c86 h
      exact w_X6_makeOther_148 hC hR o0 a0 _ _ _ _ hi0 hw (lv_sub hl [1] rfl) h
    · have h := i_yes c86 h
      refine lv_aload_n hx hb dX6_makeOther_129 rfl (lv_at hl 1 rfl) ?_
      refine r_gL hC hw kc_5 hi0 6 rfl lk_301 dX6_makeOther_130 ?_
      refine lv_aload_n hx hb dX6_makeOther_133 rfl (lv_at hl 1 rfl) ?_
      refine r_gL hC hw kc_5 hi0 3 rfl lk_298 dX6_makeOther_134 ?_
      refine lv_aload_n hx hb dX6_makeOther_137 rfl (lv_at hl 1 rfl) ?_
      refine r_gL hC hw kc_5 hi0 5 rfl lk_300 dX6_makeOther_138 ?_
      refine lv_ladd hx hb dX6_makeOther_141 ?_
      obtain ⟨r88, hq87, h⟩ := pq_i h
      refine r_cS (st' := [.int r88]) [.long (gL D83 o0 6), .long ((gL D83 o0 3) + (gL D83 o0 5))] [] hC hw (k_X3_below _ hq87) mk_X3_below lk_709 ⟨Nat.le_trans (by decide) hR.1, Nat.le_trans (by decide) hR.2⟩ ⟨Nat.zero_le _, Nat.zero_le _⟩ rfl hl.1 rfl rfl (Nat.le_of_ble_eq_true rfl) dX6_makeOther_142 (fun hP H locs hw => ?_)
      refine lv_if_eq (tgt := 379) hx hb dX6_makeOther_145 (by decide) (fun c89 => ?_) (fun c89 => ?_)
      · have h := i_yes c89 h
        cases h
        exact r_vret hC hw dX6_makeOther_379
      · have h := i_no c89 h
        exact w_X6_makeOther_148 hC hR o0 a0 _ _ _ _ hi0 hw (lv_sub hl [1] rfl) h
  have h := i_no c81 h
  by_cases c90 : x1 = 1
  · have h := i_yes c90 h
    refine lv_tableIn (off := 128) (tgt := 155) hx hb dX6_makeOther_27 (by rw [c90]; decide) (by rw [c90]; decide) (by rw [c90] <;> rfl) (by decide) ?_
    refine lv_aload_n hx hb dX6_makeOther_155 rfl (lv_at hl 1 rfl) ?_
    refine lv_aload_n hx hb dX6_makeOther_156 rfl (lv_at hl 1 rfl) ?_
    refine r_gL hC hw kc_5 hi0 2 rfl lk_297 dX6_makeOther_157 ?_
    refine lv_aload_n hx hb dX6_makeOther_160 rfl (lv_at hl 1 rfl) ?_
    refine r_gL hC hw kc_5 hi0 5 rfl lk_300 dX6_makeOther_161 ?_
    refine lv_lsub hx hb dX6_makeOther_164 ?_
    refine lv_aload_n hx hb dX6_makeOther_165 rfl (lv_at hl 1 rfl) ?_
    refine r_gL hC hw kc_5 hi0 3 rfl lk_298 dX6_makeOther_166 ?_
    refine lv_aload_n hx hb dX6_makeOther_169 rfl (lv_at hl 1 rfl) ?_
    refine r_gL hC hw kc_5 hi0 4 rfl lk_299 dX6_makeOther_170 ?_
    refine lv_lsub hx hb dX6_makeOther_173 ?_
    obtain ⟨_, D92, hq91, h⟩ := cq_i h
    refine r_cV (st' := []) [.long ((gL D o0 2) - (gL D o0 5)), .long ((gL D o0 3) - (gL D o0 4))] [] hC hw kc_5 hi0 (k_X6_become _ hi0 hq91) mk_X6_become lk_694 ⟨Nat.le_trans (by decide) hR.1, Nat.le_trans (by decide) hR.2⟩ ⟨Nat.zero_le _, Nat.zero_le _⟩ rfl hl.1 rfl rfl (Nat.le_of_ble_eq_true rfl) dX6_makeOther_174 (fun hP H locs hw => ?_)
    refine lv_aload_n hx hb dX6_makeOther_177 rfl (lv_at hl 1 rfl) ?_
    refine r_gL hC hw kc_5 hi0 2 rfl lk_297 dX6_makeOther_178 ?_
    refine lv_aload_n hx hb dX6_makeOther_181 rfl (lv_at hl 1 rfl) ?_
    refine r_gL hC hw kc_5 hi0 5 rfl lk_300 dX6_makeOther_182 ?_
    obtain ⟨r94, hq93, h⟩ := pq_i h
    refine r_cS (st' := [.int r94]) [.long (gL D92 o0 2), .long (gL D92 o0 5)] [] hC hw (k_X3_below _ hq93) mk_X3_below lk_709 ⟨Nat.le_trans (by decide) hR.1, Nat.le_trans (by decide) hR.2⟩ ⟨Nat.zero_le _, Nat.zero_le _⟩ rfl hl.1 rfl rfl (Nat.le_of_ble_eq_true rfl) dX6_makeOther_185 (fun hP H locs hw => ?_)
    refine lv_if_eq (tgt := 379) hx hb dX6_makeOther_188 (by decide) (fun c95 => ?_) (fun c95 => ?_)
    · have h := i_yes c95 h
      cases h
      exact r_vret hC hw dX6_makeOther_379
    · have h := i_no c95 h
      refine lv_aload_n hx hb dX6_makeOther_191 rfl (lv_at hl 1 rfl) ?_
      obtain ⟨_, D97, hq96, h⟩ := cq_i h
      refine r_cV (st' := []) [] [] hC hw kc_5 hi0 (k_X6_becomeAll _ hi0 hq96) mk_X6_becomeAll lk_738 ⟨Nat.le_trans (by decide) hR.1, Nat.le_trans (by decide) hR.2⟩ ⟨Nat.zero_le _, Nat.zero_le _⟩ rfl hl.1 rfl rfl (Nat.le_of_ble_eq_true rfl) dX6_makeOther_192 (fun hP H locs hw => ?_)
      refine lv_goto (tgt := 379) hx hb dX6_makeOther_195 (by decide) ?_
      cases h
      exact r_vret hC hw dX6_makeOther_379
  have h := i_no c90 h
  by_cases c98 : x1 = 2
  · have h := i_yes c98 h
    refine lv_tableIn (off := 171) (tgt := 198) hx hb dX6_makeOther_27 (by rw [c98]; decide) (by rw [c98]; decide) (by rw [c98] <;> rfl) (by decide) ?_
    refine lv_aload_n hx hb dX6_makeOther_198 rfl (lv_at hl 1 rfl) ?_
    refine lv_aload_n hx hb dX6_makeOther_199 rfl (lv_at hl 1 rfl) ?_
    refine r_gL hC hw kc_5 hi0 2 rfl lk_297 dX6_makeOther_200 ?_
    refine lv_aload_n hx hb dX6_makeOther_203 rfl (lv_at hl 1 rfl) ?_
    refine r_gL hC hw kc_5 hi0 4 rfl lk_299 dX6_makeOther_204 ?_
    refine lv_lmul hx hb dX6_makeOther_207 ?_
    refine lv_aload_n hx hb dX6_makeOther_208 rfl (lv_at hl 1 rfl) ?_
    refine r_gL hC hw kc_5 hi0 3 rfl lk_298 dX6_makeOther_209 ?_
    refine lv_aload_n hx hb dX6_makeOther_212 rfl (lv_at hl 1 rfl) ?_
    refine r_gL hC hw kc_5 hi0 5 rfl lk_300 dX6_makeOther_213 ?_
    refine lv_lmul hx hb dX6_makeOther_216 ?_
    obtain ⟨_, D100, hq99, h⟩ := cq_i h
    refine r_cV (st' := []) [.long ((gL D o0 2) * (gL D o0 4)), .long ((gL D o0 3) * (gL D o0 5))] [] hC hw kc_5 hi0 (k_X6_become _ hi0 hq99) mk_X6_become lk_694 ⟨Nat.le_trans (by decide) hR.1, Nat.le_trans (by decide) hR.2⟩ ⟨Nat.zero_le _, Nat.zero_le _⟩ rfl hl.1 rfl rfl (Nat.le_of_ble_eq_true rfl) dX6_makeOther_217 (fun hP H locs hw => ?_)
    refine lv_ldc2 (v := 4294967295) hx hb hC.2.2.2.1 (hC.2.2.2.2.1 _ lk_703) dX6_makeOther_220 ?_
    refine lv_lload_n hx hb dX6_makeOther_223 rfl (lv_at hl 0 rfl) ?_
    obtain ⟨r102, hq101, h⟩ := pq_i h
    refine r_cS (st' := [.int r102]) [.long (4294967295 : Int64), .long xs0] [] hC hw (k_X3_below _ hq101) mk_X3_below lk_709 ⟨Nat.le_trans (by decide) hR.1, Nat.le_trans (by decide) hR.2⟩ ⟨Nat.zero_le _, Nat.zero_le _⟩ rfl hl.1 rfl rfl (Nat.le_of_ble_eq_true rfl) dX6_makeOther_224 (fun hP H locs hw => ?_)
    refine lv_if_ne (tgt := 249) hx hb dX6_makeOther_227 (by decide) (fun c103 => ?_) (fun c103 => ?_)
    · have h := i_no c103 h
      exact w_X6_makeOther_249 hC hR o0 a0 _ _ _ _ hi0 hw (lv_sub hl [1] rfl) h
    · have h := i_yes c103 h
      refine lv_aload_n hx hb dX6_makeOther_230 rfl (lv_at hl 1 rfl) ?_
      refine r_gL hC hw kc_5 hi0 6 rfl lk_301 dX6_makeOther_231 ?_
      refine lv_aload_n hx hb dX6_makeOther_234 rfl (lv_at hl 1 rfl) ?_
      refine r_gL hC hw kc_5 hi0 3 rfl lk_298 dX6_makeOther_235 ?_
      refine lv_aload_n hx hb dX6_makeOther_238 rfl (lv_at hl 1 rfl) ?_
      refine r_gL hC hw kc_5 hi0 5 rfl lk_300 dX6_makeOther_239 ?_
      refine lv_lmul hx hb dX6_makeOther_242 ?_
      obtain ⟨r105, hq104, h⟩ := pq_i h
      refine r_cS (st' := [.int r105]) [.long (gL D100 o0 6), .long ((gL D100 o0 3) * (gL D100 o0 5))] [] hC hw (k_X3_below _ hq104) mk_X3_below lk_709 ⟨Nat.le_trans (by decide) hR.1, Nat.le_trans (by decide) hR.2⟩ ⟨Nat.zero_le _, Nat.zero_le _⟩ rfl hl.1 rfl rfl (Nat.le_of_ble_eq_true rfl) dX6_makeOther_243 (fun hP H locs hw => ?_)
      refine lv_if_eq (tgt := 379) hx hb dX6_makeOther_246 (by decide) (fun c106 => ?_) (fun c106 => ?_)
      · have h := i_yes c106 h
        cases h
        exact r_vret hC hw dX6_makeOther_379
      · have h := i_no c106 h
        exact w_X6_makeOther_249 hC hR o0 a0 _ _ _ _ hi0 hw (lv_sub hl [1] rfl) h
  have h := i_no c98 h
  by_cases c107 : x1 = 3
  · have h := i_yes c107 h
    refine lv_tableIn (off := 348) (tgt := 375) hx hb dX6_makeOther_27 (by rw [c107]; decide) (by rw [c107]; decide) (by rw [c107] <;> rfl) (by decide) ?_
    exact w_X6_makeOther_375 hC hR o0 a0 _ _ _ _ hi0 hw (lv_sub hl [1] rfl) h
  have h := i_no c107 h
  by_cases c108 : x1 = 4
  · have h := i_yes c108 h
    refine lv_tableIn (off := 262) (tgt := 289) hx hb dX6_makeOther_27 (by rw [c108]; decide) (by rw [c108]; decide) (by rw [c108] <;> rfl) (by decide) ?_
    refine lv_aload_n hx hb dX6_makeOther_289 rfl (lv_at hl 1 rfl) ?_
    refine lv_aload_n hx hb dX6_makeOther_290 rfl (lv_at hl 1 rfl) ?_
    refine r_gL hC hw kc_5 hi0 2 rfl lk_297 dX6_makeOther_291 ?_
    refine lv_aload_n hx hb dX6_makeOther_294 rfl (lv_at hl 1 rfl) ?_
    refine r_gL hC hw kc_5 hi0 4 rfl lk_299 dX6_makeOther_295 ?_
    obtain ⟨r110, hq109, h⟩ := pq_i h
    refine r_cS (st' := [.int r110, .ref a0]) [.long (gL D o0 2), .long (gL D o0 4)] [.ref a0] hC hw (k_X3_below _ hq109) mk_X3_below lk_709 ⟨Nat.le_trans (by decide) hR.1, Nat.le_trans (by decide) hR.2⟩ ⟨Nat.zero_le _, Nat.zero_le _⟩ rfl hl.1 rfl rfl (Nat.le_of_ble_eq_true rfl) dX6_makeOther_298 (fun hP H locs hw => ?_)
    refine lv_if_eq (tgt := 311) hx hb dX6_makeOther_301 (by decide) (fun c111 => ?_) (fun c111 => ?_)
    · have h := i_yes c111 h
      refine lv_aload_n hx hb dX6_makeOther_311 rfl (lv_at hl 1 rfl) ?_
      refine r_gL hC hw kc_5 hi0 2 rfl lk_297 dX6_makeOther_312 ?_
      exact w_X6_makeOther_315 hC hR xs0 o0 a0 (gL D o0 2) _ _ _ _ hi0 hw (lv_sub hl [0] rfl) h
    · have h := i_no c111 h
      refine lv_aload_n hx hb dX6_makeOther_304 rfl (lv_at hl 1 rfl) ?_
      refine r_gL hC hw kc_5 hi0 4 rfl lk_299 dX6_makeOther_305 ?_
      refine lv_goto (tgt := 315) hx hb dX6_makeOther_308 (by decide) ?_
      exact w_X6_makeOther_315 hC hR xs0 o0 a0 (gL D o0 4) _ _ _ _ hi0 hw (lv_sub hl [0] rfl) h
  have h := i_no c108 h
  by_cases c112 : x1 = 5
  · have h := i_yes c112 h
    refine lv_tableIn (off := 229) (tgt := 256) hx hb dX6_makeOther_27 (by rw [c112]; decide) (by rw [c112]; decide) (by rw [c112] <;> rfl) (by decide) ?_
    refine lv_aload_n hx hb dX6_makeOther_256 rfl (lv_at hl 1 rfl) ?_
    refine lv_lconst (v := 0) hx hb dX6_makeOther_257 (by decide) ?_
    refine lv_aload_n hx hb dX6_makeOther_258 rfl (lv_at hl 1 rfl) ?_
    refine r_gL hC hw kc_5 hi0 3 rfl lk_298 dX6_makeOther_259 ?_
    refine lv_aload_n hx hb dX6_makeOther_262 rfl (lv_at hl 1 rfl) ?_
    refine r_gL hC hw kc_5 hi0 5 rfl lk_300 dX6_makeOther_263 ?_
    obtain ⟨r114, hq113, h⟩ := pq_i h
    refine r_cS (st' := [.int r114, .long (0 : Int64), .ref a0]) [.long (gL D o0 3), .long (gL D o0 5)] [.long (0 : Int64), .ref a0] hC hw (k_X3_below _ hq113) mk_X3_below lk_709 ⟨Nat.le_trans (by decide) hR.1, Nat.le_trans (by decide) hR.2⟩ ⟨Nat.zero_le _, Nat.zero_le _⟩ rfl hl.1 rfl rfl (Nat.le_of_ble_eq_true rfl) dX6_makeOther_266 (fun hP H locs hw => ?_)
    refine lv_if_eq (tgt := 279) hx hb dX6_makeOther_269 (by decide) (fun c115 => ?_) (fun c115 => ?_)
    · have h := i_yes c115 h
      refine lv_aload_n hx hb dX6_makeOther_279 rfl (lv_at hl 1 rfl) ?_
      refine r_gL hC hw kc_5 hi0 5 rfl lk_300 dX6_makeOther_280 ?_
      exact w_X6_makeOther_283 hC hR o0 a0 (0 : Int64) (gL D o0 5) _ _ _ _ hi0 hw (lv_sub hl [] rfl) h
    · have h := i_no c115 h
      refine lv_aload_n hx hb dX6_makeOther_272 rfl (lv_at hl 1 rfl) ?_
      refine r_gL hC hw kc_5 hi0 3 rfl lk_298 dX6_makeOther_273 ?_
      refine lv_goto (tgt := 283) hx hb dX6_makeOther_276 (by decide) ?_
      exact w_X6_makeOther_283 hC hR o0 a0 (0 : Int64) (gL D o0 3) _ _ _ _ hi0 hw (lv_sub hl [] rfl) h
  have h := i_no c112 h
  by_cases c116 : x1 = 6
  · have h := i_yes c116 h
    refine lv_tableIn (off := 348) (tgt := 375) hx hb dX6_makeOther_27 (by rw [c116]; decide) (by rw [c116]; decide) (by rw [c116] <;> rfl) (by decide) ?_
    exact w_X6_makeOther_375 hC hR o0 a0 _ _ _ _ hi0 hw (lv_sub hl [1] rfl) h
  have h := i_no c116 h
  by_cases c117 : x1 = 7
  · have h := i_yes c117 h
    refine lv_tableIn (off := 348) (tgt := 375) hx hb dX6_makeOther_27 (by rw [c117]; decide) (by rw [c117]; decide) (by rw [c117] <;> rfl) (by decide) ?_
    exact w_X6_makeOther_375 hC hR o0 a0 _ _ _ _ hi0 hw (lv_sub hl [1] rfl) h
  have h := i_no c117 h
  by_cases c118 : x1 = 8
  · have h := i_yes c118 h
    refine lv_tableIn (off := 348) (tgt := 375) hx hb dX6_makeOther_27 (by rw [c118]; decide) (by rw [c118]; decide) (by rw [c118] <;> rfl) (by decide) ?_
    exact w_X6_makeOther_375 hC hR o0 a0 _ _ _ _ hi0 hw (lv_sub hl [1] rfl) h
  have h := i_no c118 h
  by_cases c119 : x1 = 9
  · have h := i_yes c119 h
    refine lv_tableIn (off := 348) (tgt := 375) hx hb dX6_makeOther_27 (by rw [c119]; decide) (by rw [c119]; decide) (by rw [c119] <;> rfl) (by decide) ?_
    exact w_X6_makeOther_375 hC hR o0 a0 _ _ _ _ hi0 hw (lv_sub hl [1] rfl) h
  have h := i_no c119 h
  by_cases c120 : x1 = 10
  · have h := i_yes c120 h
    refine lv_tableIn (off := 298) (tgt := 325) hx hb dX6_makeOther_27 (by rw [c120]; decide) (by rw [c120]; decide) (by rw [c120] <;> rfl) (by decide) ?_
    refine lv_aload_n hx hb dX6_makeOther_325 rfl (lv_at hl 1 rfl) ?_
    refine lv_lconst (v := 0) hx hb dX6_makeOther_326 (by decide) ?_
    refine lv_lload_n hx hb dX6_makeOther_327 rfl (lv_at hl 0 rfl) ?_
    obtain ⟨r122, hq121, h⟩ := pq_i h
    refine r_cS (st' := [.long r122, .long (0 : Int64), .ref a0]) [.long xs0] [.long (0 : Int64), .ref a0] hC hw (k_X6_onesFor _ hq121) mk_X6_onesFor lk_751 ⟨Nat.le_trans (by decide) hR.1, Nat.le_trans (by decide) hR.2⟩ ⟨Nat.zero_le _, Nat.zero_le _⟩ rfl hl.1 rfl rfl (Nat.le_of_ble_eq_true rfl) dX6_makeOther_328 (fun hP H locs hw => ?_)
    obtain ⟨_, D124, hq123, h⟩ := cq_i h
    refine r_cV (st' := []) [.long (0 : Int64), .long r122] [] hC hw kc_5 hi0 (k_X6_become _ hi0 hq123) mk_X6_become lk_694 ⟨Nat.le_trans (by decide) hR.1, Nat.le_trans (by decide) hR.2⟩ ⟨Nat.zero_le _, Nat.zero_le _⟩ rfl hl.1 rfl rfl (Nat.le_of_ble_eq_true rfl) dX6_makeOther_331 (fun hP H locs hw => ?_)
    refine lv_goto (tgt := 379) hx hb dX6_makeOther_334 (by decide) ?_
    cases h
    exact r_vret hC hw dX6_makeOther_379
  have h := i_no c120 h
  by_cases c125 : x1 = 11
  · have h := i_yes c125 h
    refine lv_tableIn (off := 310) (tgt := 337) hx hb dX6_makeOther_27 (by rw [c125]; decide) (by rw [c125]; decide) (by rw [c125] <;> rfl) (by decide) ?_
    refine lv_aload_n hx hb dX6_makeOther_337 rfl (lv_at hl 1 rfl) ?_
    refine lv_aload_n hx hb dX6_makeOther_338 rfl (lv_at hl 1 rfl) ?_
    refine r_gL hC hw kc_5 hi0 4 rfl lk_299 dX6_makeOther_339 ?_
    refine lv_aload_n hx hb dX6_makeOther_342 rfl (lv_at hl 1 rfl) ?_
    refine r_gL hC hw kc_5 hi0 5 rfl lk_300 dX6_makeOther_343 ?_
    obtain ⟨_, D127, hq126, h⟩ := cq_i h
    refine r_cV (st' := []) [.long (gL D o0 4), .long (gL D o0 5)] [] hC hw kc_5 hi0 (k_X6_become _ hi0 hq126) mk_X6_become lk_694 ⟨Nat.le_trans (by decide) hR.1, Nat.le_trans (by decide) hR.2⟩ ⟨Nat.zero_le _, Nat.zero_le _⟩ rfl hl.1 rfl rfl (Nat.le_of_ble_eq_true rfl) dX6_makeOther_346 (fun hP H locs hw => ?_)
    refine lv_iload_n hx hb dX6_makeOther_349 rfl (lv_at hl 3 rfl) ?_
    refine lv_if_eq (tgt := 379) hx hb dX6_makeOther_350 (by decide) (fun c128 => ?_) (fun c128 => ?_)
    · have h := i_yes c128 h
      cases h
      exact r_vret hC hw dX6_makeOther_379
    · have h := i_no c128 h
      refine lv_aload_n hx hb dX6_makeOther_353 rfl (lv_at hl 1 rfl) ?_
      refine r_gL hC hw kc_5 hi0 5 rfl lk_300 dX6_makeOther_354 ?_
      refine lv_lconst (v := 1) hx hb dX6_makeOther_357 (by decide) ?_
      refine lv_iload_n hx hb dX6_makeOther_358 rfl (lv_at hl 3 rfl) ?_
      refine lv_iconst (v := 1) hx hb dX6_makeOther_359 (by decide) ?_
      refine lv_isub hx hb dX6_makeOther_360 ?_
      refine lv_lshl (v := j_lshl (1 : Int64) (x2 - (1 : Int32))) hx hb dX6_makeOther_361 rfl ?_
      obtain ⟨r130, hq129, h⟩ := pq_i h
      refine r_cS (st' := [.int r130]) [.long (gL D127 o0 5), .long (j_lshl (1 : Int64) (x2 - (1 : Int32)))] [] hC hw (k_X3_below _ hq129) mk_X3_below lk_709 ⟨Nat.le_trans (by decide) hR.1, Nat.le_trans (by decide) hR.2⟩ ⟨Nat.zero_le _, Nat.zero_le _⟩ rfl hl.1 rfl rfl (Nat.le_of_ble_eq_true rfl) dX6_makeOther_362 (fun hP H locs hw => ?_)
      refine lv_if_ne (tgt := 379) hx hb dX6_makeOther_365 (by decide) (fun c131 => ?_) (fun c131 => ?_)
      · have h := i_no c131 h
        cases h
        exact r_vret hC hw dX6_makeOther_379
      · have h := i_yes c131 h
        refine lv_aload_n hx hb dX6_makeOther_368 rfl (lv_at hl 1 rfl) ?_
        obtain ⟨_, D133, hq132, h⟩ := cq_i h
        refine r_cV (st' := []) [] [] hC hw kc_5 hi0 (k_X6_becomeAll _ hi0 hq132) mk_X6_becomeAll lk_738 ⟨Nat.le_trans (by decide) hR.1, Nat.le_trans (by decide) hR.2⟩ ⟨Nat.zero_le _, Nat.zero_le _⟩ rfl hl.1 rfl rfl (Nat.le_of_ble_eq_true rfl) dX6_makeOther_369 (fun hP H locs hw => ?_)
        refine lv_goto (tgt := 379) hx hb dX6_makeOther_372 (by decide) ?_
        cases h
        exact r_vret hC hw dX6_makeOther_379
  have h := i_no c125 h
  refine lv_tableOut (tgt := 375) hx hb dX6_makeOther_27 (by have nc81 := lv_neT c81 (a := 0) rfl; have nc90 := lv_neT c90 (a := 1) rfl; have nc98 := lv_neT c98 (a := 2) rfl; have nc107 := lv_neT c107 (a := 3) rfl; have nc108 := lv_neT c108 (a := 4) rfl; have nc112 := lv_neT c112 (a := 5) rfl; have nc116 := lv_neT c116 (a := 6) rfl; have nc117 := lv_neT c117 (a := 7) rfl; have nc118 := lv_neT c118 (a := 8) rfl; have nc119 := lv_neT c119 (a := 9) rfl; have nc120 := lv_neT c120 (a := 10) rfl; have nc125 := lv_neT c125 (a := 11) rfl; omega) (by decide) ?_
  exact w_X6_makeOther_375 hC hR o0 a0 _ _ _ _ hi0 hw (lv_sub hl [1] rfl) h
set_option maxHeartbeats 4000000 in
set_option maxRecDepth 100000 in
theorem w_X6_makeOther_0 {r : Unit} {D' : dt} (hC : Cx RX6 cX6_makeOther 5 none p s m args meth c) (hR : 1 ≤ R.frames ∧ 24 ≤ R.locals) : ∀ (o0 a0 : Nat) (x1 : Int32) (x2 : Int32) (D : dt) (H : Heap) (locs : List Loc) (ls : Array Slot), Is S ad o0 a0 5 → Wd G cA S D ad A s H locs → lv_has ls 5 [(0, .ref a0), (1, .int x1), (2, .int x2)] → f_X6_makeOther S o0 x1 x2 D = some (r, D') → W p l e R s m args below meth c H locs 0 0 (MQ below (Qn none True (wpost G cA S D' ad A) A) args s 0 0 A) (F0 m 0 ls []) := by
  obtain ⟨hx, hb, -⟩ := id hC
  intro o0 a0 x1 x2 D H locs ls hi0 hw hl h
  unfold f_X6_makeOther at h
  refine lv_aload_n hx hb dX6_makeOther_0 rfl (lv_at hl 0 rfl) ?_
  refine r_gL hC hw kc_5 hi0 3 rfl lk_298 dX6_makeOther_1 ?_
  refine lv_aload_n hx hb dX6_makeOther_4 rfl (lv_at hl 0 rfl) ?_
  refine r_gL hC hw kc_5 hi0 5 rfl lk_300 dX6_makeOther_5 ?_
  obtain ⟨r135, hq134, h⟩ := pq_i h
  refine r_cS (st' := [.int r135]) [.long (gL D o0 3), .long (gL D o0 5)] [] hC hw (k_X3_below _ hq134) mk_X3_below lk_709 ⟨Nat.le_trans (by decide) hR.1, Nat.le_trans (by decide) hR.2⟩ ⟨Nat.zero_le _, Nat.zero_le _⟩ rfl hl.1 rfl rfl (Nat.le_of_ble_eq_true rfl) dX6_makeOther_8 (fun hP H locs hw => ?_)
  refine lv_if_eq (tgt := 21) hx hb dX6_makeOther_11 (by decide) (fun c136 => ?_) (fun c136 => ?_)
  · have h := i_yes c136 h
    refine lv_aload_n hx hb dX6_makeOther_21 rfl (lv_at hl 0 rfl) ?_
    refine r_gL hC hw kc_5 hi0 3 rfl lk_298 dX6_makeOther_22 ?_
    exact w_X6_makeOther_25 hC hR o0 a0 x1 x2 (gL D o0 3) _ _ _ _ hi0 hw (lv_sub hl [0, 1, 2] rfl) h
  · have h := i_no c136 h
    refine lv_aload_n hx hb dX6_makeOther_14 rfl (lv_at hl 0 rfl) ?_
    refine r_gL hC hw kc_5 hi0 5 rfl lk_300 dX6_makeOther_15 ?_
    refine lv_goto (tgt := 25) hx hb dX6_makeOther_18 (by decide) ?_
    exact w_X6_makeOther_25 hC hR o0 a0 x1 x2 (gL D o0 5) _ _ _ _ hi0 hw (lv_sub hl [0, 1, 2] rfl) h
set_option maxHeartbeats 4000000 in
set_option maxRecDepth 100000 in
theorem k_X6_makeOther {l : Launch} {G : va_G} {cA : Nat → ClassId} {S : sh} {D D' : dt} {ad : Nat → Nat} (sz : Nat) {o0 a0 : Nat} {x1 : Int32} {x2 : Int32} {r : Unit} (hi0 : Is S ad o0 a0 5) (h : f_X6_makeOther S o0 x1 x2 D = some (r, D')) : Co l yX6_makeOther (Cond.code yX6_makeOther cX6_makeOther 5 none :: tb0) 1 24 [.ref a0, .int x1, .int x2] G cA S D ad sz none True D' := by
  refine Met.ofW (cc := cX6_makeOther) (maxL := 5) (ret := none) (by decide) rfl ?_
  intro p e s m args below meth c s₁ B hml hv
  obtain ⟨rfl, hsz, hP, hK, hD0, hT, hX⟩ := hv
  subst hsz
  have hts := atoms_spec (ws := Cond.code yX6_makeOther cX6_makeOther 5 none :: tb0) B.pre
  have hC : Cx RX6 cX6_makeOther 5 none p s m _ meth c := ⟨B.exec, B.bytes, hml, findClass_of_methodNamed B.named, fun w q => hts w (List.mem_cons_of_mem _ q), B.returns, B.notSynchronized⟩
  have hw := Wd.entry hP hK hD0 hT hX
  have hl := lv_entry ([.ref a0, .int x1, .int x2]) (n := 5) (Nat.le_of_ble_eq_true rfl)
  rw [lg_entry_eq]
  exact w_X6_makeOther_0 hC ⟨Nat.le_refl _, Nat.le_refl _⟩ o0 a0 x1 x2 D _ _ _ hi0 hw hl h
set_option maxHeartbeats 4000000 in
set_option maxRecDepth 100000 in
theorem w_X6_make_114 {r : Unit} {D' : dt} (hC : Cx RX6 cX6_make 6 none p s m args meth c) (hR : 2 ≤ R.frames ∧ 63 ≤ R.locals) : ∀ (o0 a0 : Nat) (x1 : Int32) (x2 : Int32) (D : dt) (H : Heap) (locs : List Loc) (ls : Array Slot), Is S ad o0 a0 5 → Wd G cA S D ad A s H locs → lv_has ls 6 [(0, .ref a0), (1, .int x1), (2, .int x2)] → f_X6_make_114 S o0 x1 x2 D = some (r, D') → W p l e R s m args below meth c H locs 0 0 (MQ below (Qn none True (wpost G cA S D' ad A) A) args s 0 0 A) (F0 m 114 ls []) := by
  obtain ⟨hx, hb, -⟩ := id hC
  intro o0 a0 x1 x2 D H locs ls hi0 hw hl h
  unfold f_X6_make_114 at h
  refine lv_aload_n hx hb dX6_make_114 rfl (lv_at hl 0 rfl) ?_
  refine lv_iload_n hx hb dX6_make_115 rfl (lv_at hl 1 rfl) ?_
  refine lv_iload_n hx hb dX6_make_116 rfl (lv_at hl 2 rfl) ?_
  obtain ⟨_, D24, hq23, h⟩ := cq_i h
  refine r_cV (st' := []) [.int x1, .int x2] [] hC hw kc_5 hi0 (k_X6_makeShifted _ hi0 hq23) mk_X6_makeShifted lk_743 ⟨Nat.le_trans (by decide) hR.1, Nat.le_trans (by decide) hR.2⟩ ⟨Nat.zero_le _, Nat.zero_le _⟩ rfl hl.1 rfl rfl (Nat.le_of_ble_eq_true rfl) dX6_make_117 (fun hP H locs hw => ?_)
  refine lv_goto (tgt := 129) hx hb dX6_make_120 (by decide) ?_
  cases h
  exact r_vret hC hw dX6_make_129
set_option maxHeartbeats 4000000 in
set_option maxRecDepth 100000 in
theorem w_X6_make_87 {r : Unit} {D' : dt} (hC : Cx RX6 cX6_make 6 none p s m args meth c) (hR : 2 ≤ R.frames ∧ 63 ≤ R.locals) : ∀ (o0 a0 : Nat) (x1 : Int32) (x3 : Int32) (D : dt) (H : Heap) (locs : List Loc) (ls : Array Slot), Is S ad o0 a0 5 → Wd G cA S D ad A s H locs → lv_has ls 6 [(0, .ref a0), (1, .int x1), (3, .int x3)] → f_X6_make_87 S o0 x1 x3 D = some (r, D') → W p l e R s m args below meth c H locs 0 0 (MQ below (Qn none True (wpost G cA S D' ad A) A) args s 0 0 A) (F0 m 87 ls []) := by
  obtain ⟨hx, hb, -⟩ := id hC
  intro o0 a0 x1 x3 D H locs ls hi0 hw hl h
  unfold f_X6_make_87 at h
  refine lv_aload_n hx hb dX6_make_87 rfl (lv_at hl 0 rfl) ?_
  refine lv_iload_n hx hb dX6_make_88 rfl (lv_at hl 1 rfl) ?_
  refine lv_iload_n hx hb dX6_make_89 rfl (lv_at hl 2 rfl) ?_
  obtain ⟨_, D26, hq25, h⟩ := cq_i h
  refine r_cV (st' := []) [.int x1, .int x3] [] hC hw kc_5 hi0 (k_X6_makeDivided _ hi0 hq25) mk_X6_makeDivided lk_734 ⟨Nat.le_trans (by decide) hR.1, Nat.le_trans (by decide) hR.2⟩ ⟨Nat.zero_le _, Nat.zero_le _⟩ rfl hl.1 rfl rfl (Nat.le_of_ble_eq_true rfl) dX6_make_90 (fun hP H locs hw => ?_)
  refine lv_goto (tgt := 129) hx hb dX6_make_93 (by decide) ?_
  cases h
  exact r_vret hC hw dX6_make_129
set_option maxHeartbeats 4000000 in
set_option maxRecDepth 100000 in
theorem w_X6_make_76 {r : Unit} {D' : dt} (hC : Cx RX6 cX6_make 6 none p s m args meth c) (hR : 2 ≤ R.frames ∧ 63 ≤ R.locals) : ∀ (o0 a0 : Nat) (x1 : Int32) (x2 : Int32) (x3 : Int32) (D : dt) (H : Heap) (locs : List Loc) (ls : Array Slot), Is S ad o0 a0 5 → Wd G cA S D ad A s H locs → lv_has ls 6 [(0, .ref a0), (1, .int x1), (2, .int x2), (3, .int x3)] → f_X6_make_76 S o0 x1 x2 x3 D = some (r, D') → W p l e R s m args below meth c H locs 0 0 (MQ below (Qn none True (wpost G cA S D' ad A) A) args s 0 0 A) (F0 m 76 ls []) := by
  obtain ⟨hx, hb, -⟩ := id hC
  intro o0 a0 x1 x2 x3 D H locs ls hi0 hw hl h
  unfold f_X6_make_76 at h
  refine lv_iload_n hx hb dX6_make_76 rfl (lv_at hl 1 rfl) ?_
  refine lv_iconst (v := 3) hx hb dX6_make_77 (by decide) ?_
  refine lv_icmp_eq (tgt := 87) hx hb dX6_make_78 (by decide) (fun c27 => ?_) (fun c27 => ?_)
  · have h := i_yes c27 h
    exact w_X6_make_87 hC hR o0 a0 x1 x3 _ _ _ _ hi0 hw (lv_sub hl [0, 1, 3] rfl) h
  · have h := i_no c27 h
    refine lv_iload_n hx hb dX6_make_81 rfl (lv_at hl 1 rfl) ?_
    refine lv_bipush (v := 9) hx hb dX6_make_82 (by decide) ?_
    refine lv_icmp_ne (tgt := 96) hx hb dX6_make_84 (by decide) (fun c28 => ?_) (fun c28 => ?_)
    · have h := i_no c28 h
      refine lv_iload_n hx hb dX6_make_96 rfl (lv_at hl 1 rfl) ?_
      refine lv_bipush (v := 6) hx hb dX6_make_97 (by decide) ?_
      refine lv_icmp_eq (tgt := 114) hx hb dX6_make_99 (by decide) (fun c29 => ?_) (fun c29 => ?_)
      · have h := i_yes c29 h
        exact w_X6_make_114 hC hR o0 a0 x1 x2 _ _ _ _ hi0 hw (lv_sub hl [0, 1, 2] rfl) h
      · have h := i_no c29 h
        refine lv_iload_n hx hb dX6_make_102 rfl (lv_at hl 1 rfl) ?_
        refine lv_bipush (v := 7) hx hb dX6_make_103 (by decide) ?_
        refine lv_icmp_eq (tgt := 114) hx hb dX6_make_105 (by decide) (fun c30 => ?_) (fun c30 => ?_)
        · have h := i_yes c30 h
          exact w_X6_make_114 hC hR o0 a0 x1 x2 _ _ _ _ hi0 hw (lv_sub hl [0, 1, 2] rfl) h
        · have h := i_no c30 h
          refine lv_iload_n hx hb dX6_make_108 rfl (lv_at hl 1 rfl) ?_
          refine lv_bipush (v := 12) hx hb dX6_make_109 (by decide) ?_
          refine lv_icmp_ne (tgt := 123) hx hb dX6_make_111 (by decide) (fun c31 => ?_) (fun c31 => ?_)
          · have h := i_no c31 h
            refine lv_aload_n hx hb dX6_make_123 rfl (lv_at hl 0 rfl) ?_
            refine lv_iload_n hx hb dX6_make_124 rfl (lv_at hl 1 rfl) ?_
            refine lv_iload_n hx hb dX6_make_125 rfl (lv_at hl 3 rfl) ?_
            obtain ⟨_, D33, hq32, h⟩ := cq_i h
            refine r_cV (st' := []) [.int x1, .int x3] [] hC hw kc_5 hi0 (k_X6_makeOther _ hi0 hq32) mk_X6_makeOther lk_747 ⟨Nat.le_trans (by decide) hR.1, Nat.le_trans (by decide) hR.2⟩ ⟨Nat.zero_le _, Nat.zero_le _⟩ rfl hl.1 rfl rfl (Nat.le_of_ble_eq_true rfl) dX6_make_126 (fun hP H locs hw => ?_)
            cases h
            exact r_vret hC hw dX6_make_129
          · have h := i_yes c31 h
            exact w_X6_make_114 hC hR o0 a0 x1 x2 _ _ _ _ hi0 hw (lv_sub hl [0, 1, 2] rfl) h
    · have h := i_yes c28 h
      exact w_X6_make_87 hC hR o0 a0 x1 x3 _ _ _ _ hi0 hw (lv_sub hl [0, 1, 3] rfl) h
set_option maxHeartbeats 4000000 in
set_option maxRecDepth 100000 in
theorem w_X6_make_25 {r : Unit} {D' : dt} (hC : Cx RX6 cX6_make 6 none p s m args meth c) (hR : 2 ≤ R.frames ∧ 63 ≤ R.locals) : ∀ (o0 a0 : Nat) (x1 : Int32) (x2 : Int32) (x3 : Int32) (D : dt) (H : Heap) (locs : List Loc) (ls : Array Slot), Is S ad o0 a0 5 → Wd G cA S D ad A s H locs → lv_has ls 6 [(0, .ref a0), (1, .int x1), (2, .int x2), (3, .int x3)] → f_X6_make_25 S o0 x1 x2 x3 D = some (r, D') → W p l e R s m args below meth c H locs 0 0 (MQ below (Qn none True (wpost G cA S D' ad A) A) args s 0 0 A) (F0 m 25 ls []) := by
  obtain ⟨hx, hb, -⟩ := id hC
  intro o0 a0 x1 x2 x3 D H locs ls hi0 hw hl h
  unfold f_X6_make_25 at h
  refine lv_aload_n hx hb dX6_make_25 rfl (lv_at hl 0 rfl) ?_
  refine r_gL hC hw kc_5 hi0 2 rfl lk_297 dX6_make_26 ?_
  refine lv_aload_n hx hb dX6_make_29 rfl (lv_at hl 0 rfl) ?_
  refine r_gL hC hw kc_5 hi0 3 rfl lk_298 dX6_make_30 ?_
  refine W.lcmp hx hb dX6_make_33 ?_
  refine lv_if_ne (tgt := 76) hx hb dX6_make_34 (by decide) (fun c34 => ?_) (fun c34 => ?_)
  · have h := i_no c34 h
    exact w_X6_make_76 hC hR o0 a0 x1 x2 x3 _ _ _ _ hi0 hw (lv_sub hl [0, 1, 2, 3] rfl) h
  · have h := i_yes c34 h
    refine lv_aload_n hx hb dX6_make_37 rfl (lv_at hl 0 rfl) ?_
    refine r_gL hC hw kc_5 hi0 4 rfl lk_299 dX6_make_38 ?_
    refine lv_aload_n hx hb dX6_make_41 rfl (lv_at hl 0 rfl) ?_
    refine r_gL hC hw kc_5 hi0 5 rfl lk_300 dX6_make_42 ?_
    refine W.lcmp hx hb dX6_make_45 ?_
    refine lv_if_ne (tgt := 76) hx hb dX6_make_46 (by decide) (fun c35 => ?_) (fun c35 => ?_)
    · have h := i_no c35 h
      exact w_X6_make_76 hC hR o0 a0 x1 x2 x3 _ _ _ _ hi0 hw (lv_sub hl [0, 1, 2, 3] rfl) h
    · have h := i_yes c35 h
      refine lv_iload_n hx hb dX6_make_49 rfl (lv_at hl 1 rfl) ?_
      refine lv_iload_n hx hb dX6_make_50 rfl (lv_at hl 2 rfl) ?_
      refine lv_iload_n hx hb dX6_make_51 rfl (lv_at hl 3 rfl) ?_
      refine lv_aload_n hx hb dX6_make_52 rfl (lv_at hl 0 rfl) ?_
      refine r_gL hC hw kc_5 hi0 2 rfl lk_297 dX6_make_53 ?_
      refine lv_aload_n hx hb dX6_make_56 rfl (lv_at hl 0 rfl) ?_
      refine r_gL hC hw kc_5 hi0 4 rfl lk_299 dX6_make_57 ?_
      obtain ⟨r37, hq36, h⟩ := pq_i h
      refine r_cS (st' := [.long r37]) [.int x1, .int x2, .int x3, .long (gL D o0 2), .long (gL D o0 4)] [] hC hw (k_X3_make _ hq36) mk_X3_make lk_714 ⟨Nat.le_trans (by decide) hR.1, Nat.le_trans (by decide) hR.2⟩ ⟨Nat.zero_le _, Nat.zero_le _⟩ rfl hl.1 rfl rfl (Nat.le_of_ble_eq_true rfl) dX6_make_60 (fun hP H locs hw => ?_)
      refine lv_lstore (lv' := [(4, .long r37), (0, .ref a0), (1, .int x1), (2, .int x2), (3, .int x3)]) hx hb dX6_make_63 hl (by decide) rfl (fun ls hl => ?_)
      refine lv_aload_n hx hb dX6_make_65 rfl (lv_at hl 1 rfl) ?_
      refine lv_lload hx hb dX6_make_66 (lv_at hl 0 rfl) ?_
      refine lv_lload hx hb dX6_make_68 (lv_at hl 0 rfl) ?_
      obtain ⟨_, D39, hq38, h⟩ := cq_i h
      refine r_cV (st' := []) [.long r37, .long r37] [] hC hw kc_5 hi0 (k_X6_become _ hi0 hq38) mk_X6_become lk_694 ⟨Nat.le_trans (by decide) hR.1, Nat.le_trans (by decide) hR.2⟩ ⟨Nat.zero_le _, Nat.zero_le _⟩ rfl hl.1 rfl rfl (Nat.le_of_ble_eq_true rfl) dX6_make_70 (fun hP H locs hw => ?_)
      refine lv_goto (tgt := 129) hx hb dX6_make_73 (by decide) ?_
      cases h
      exact r_vret hC hw dX6_make_129
set_option maxHeartbeats 4000000 in
set_option maxRecDepth 100000 in
theorem w_X6_make_14 {r : Unit} {D' : dt} (hC : Cx RX6 cX6_make 6 none p s m args meth c) (hR : 2 ≤ R.frames ∧ 63 ≤ R.locals) : ∀ (o0 a0 : Nat) (x1 : Int32) (x2 : Int32) (x3 : Int32) (os0 as0 : Nat) (xs1 : Int64) (D : dt) (H : Heap) (locs : List Loc) (ls : Array Slot), Is S ad o0 a0 5 → Is S ad os0 as0 5 → Wd G cA S D ad A s H locs → lv_has ls 6 [(0, .ref a0), (1, .int x1), (2, .int x2), (3, .int x3)] → f_X6_make_14 S o0 x1 x2 x3 os0 xs1 D = some (r, D') → W p l e R s m args below meth c H locs 0 0 (MQ below (Qn none True (wpost G cA S D' ad A) A) args s 0 0 A) (F0 m 14 ls [.long xs1, .ref as0]) := by
  obtain ⟨hx, hb, -⟩ := id hC
  intro o0 a0 x1 x2 x3 os0 as0 xs1 D H locs ls hi0 his0 hw hl h
  unfold f_X6_make_14 at h
  refine r_pL hC hw kc_5 his0 6 rfl lk_301 rfl rfl rfl dX6_make_14 (fun D40 eD40 H locs hw => ?_)
  have h := nm_i h D40 eD40
  refine lv_iload_n hx hb dX6_make_17 rfl (lv_at hl 2 rfl) ?_
  refine lv_if_ne (tgt := 25) hx hb dX6_make_18 (by decide) (fun c41 => ?_) (fun c41 => ?_)
  · have h := i_no c41 h
    exact w_X6_make_25 hC hR o0 a0 x1 x2 x3 _ _ _ _ hi0 hw (lv_sub hl [0, 1, 2, 3] rfl) h
  · have h := i_yes c41 h
    refine lv_aload_n hx hb dX6_make_21 rfl (lv_at hl 0 rfl) ?_
    obtain ⟨_, D43, hq42, h⟩ := cq_i h
    refine r_cV (st' := []) [] [] hC hw kc_5 hi0 (k_X6_cutHalves _ hi0 hq42) mk_X6_cutHalves lk_704 ⟨Nat.le_trans (by decide) hR.1, Nat.le_trans (by decide) hR.2⟩ ⟨Nat.zero_le _, Nat.zero_le _⟩ rfl hl.1 rfl rfl (Nat.le_of_ble_eq_true rfl) dX6_make_22 (fun hP H locs hw => ?_)
    exact w_X6_make_25 hC hR o0 a0 x1 x2 x3 _ _ _ _ hi0 hw (lv_sub hl [0, 1, 2, 3] rfl) h
set_option maxHeartbeats 4000000 in
set_option maxRecDepth 100000 in
theorem w_X6_make_0 {r : Unit} {D' : dt} (hC : Cx RX6 cX6_make 6 none p s m args meth c) (hR : 2 ≤ R.frames ∧ 63 ≤ R.locals) : ∀ (o0 a0 : Nat) (x1 : Int32) (x2 : Int32) (x3 : Int32) (D : dt) (H : Heap) (locs : List Loc) (ls : Array Slot), Is S ad o0 a0 5 → Wd G cA S D ad A s H locs → lv_has ls 6 [(0, .ref a0), (1, .int x1), (2, .int x2), (3, .int x3)] → f_X6_make S o0 x1 x2 x3 D = some (r, D') → W p l e R s m args below meth c H locs 0 0 (MQ below (Qn none True (wpost G cA S D' ad A) A) args s 0 0 A) (F0 m 0 ls []) := by
  obtain ⟨hx, hb, -⟩ := id hC
  intro o0 a0 x1 x2 x3 D H locs ls hi0 hw hl h
  unfold f_X6_make at h
  refine lv_aload_n hx hb dX6_make_0 rfl (lv_at hl 0 rfl) ?_
  refine lv_iload_n hx hb dX6_make_1 rfl (lv_at hl 2 rfl) ?_
  refine lv_if_eq (tgt := 11) hx hb dX6_make_2 (by decide) (fun c44 => ?_) (fun c44 => ?_)
  · have h := i_yes c44 h
    refine lv_ldc2 (v := 4294967295) hx hb hC.2.2.2.1 (hC.2.2.2.2.1 _ lk_703) dX6_make_11 ?_
    exact w_X6_make_14 hC hR o0 a0 x1 x2 x3 o0 a0 (4294967295 : Int64) _ _ _ _ hi0 hi0 hw (lv_sub hl [0, 1, 2, 3] rfl) h
  · have h := i_no c44 h
    refine lv_ldc2 (v := (-1)) hx hb hC.2.2.2.1 (hC.2.2.2.2.1 _ lk_698) dX6_make_5 ?_
    refine lv_goto (tgt := 14) hx hb dX6_make_8 (by decide) ?_
    exact w_X6_make_14 hC hR o0 a0 x1 x2 x3 o0 a0 (-1 : Int64) _ _ _ _ hi0 hi0 hw (lv_sub hl [0, 1, 2, 3] rfl) h
set_option maxHeartbeats 4000000 in
set_option maxRecDepth 100000 in
theorem k_X6_make {l : Launch} {G : va_G} {cA : Nat → ClassId} {S : sh} {D D' : dt} {ad : Nat → Nat} (sz : Nat) {o0 a0 : Nat} {x1 : Int32} {x2 : Int32} {x3 : Int32} {r : Unit} (hi0 : Is S ad o0 a0 5) (h : f_X6_make S o0 x1 x2 x3 D = some (r, D')) : Co l yX6_make (Cond.code yX6_make cX6_make 6 none :: tb0) 2 63 [.ref a0, .int x1, .int x2, .int x3] G cA S D ad sz none True D' := by
  refine Met.ofW (cc := cX6_make) (maxL := 6) (ret := none) (by decide) rfl ?_
  intro p e s m args below meth c s₁ B hml hv
  obtain ⟨rfl, hsz, hP, hK, hD0, hT, hX⟩ := hv
  subst hsz
  have hts := atoms_spec (ws := Cond.code yX6_make cX6_make 6 none :: tb0) B.pre
  have hC : Cx RX6 cX6_make 6 none p s m _ meth c := ⟨B.exec, B.bytes, hml, findClass_of_methodNamed B.named, fun w q => hts w (List.mem_cons_of_mem _ q), B.returns, B.notSynchronized⟩
  have hw := Wd.entry hP hK hD0 hT hX
  have hl := lv_entry ([.ref a0, .int x1, .int x2, .int x3]) (n := 6) (Nat.le_of_ble_eq_true rfl)
  rw [lg_entry_eq]
  exact w_X6_make_0 hC ⟨Nat.le_refl _, Nat.le_refl _⟩ o0 a0 x1 x2 x3 D _ _ _ hi0 hw hl h
set_option maxHeartbeats 4000000 in
set_option maxRecDepth 100000 in
theorem w_X6_takeAway_0 {r : Int32} {D' : dt} (hC : Cx RX6 cX6_takeAway 3 (some .boolean) p s m args meth c) (hR : 0 ≤ R.frames ∧ 0 ≤ R.locals) : ∀ (o0 a0 : Nat) (x1 : Int64) (D : dt) (H : Heap) (locs : List Loc) (ls : Array Slot), Is S ad o0 a0 5 → Wd G cA S D ad A s H locs → lv_has ls 3 [(0, .ref a0), (1, .long x1)] → f_X6_takeAway S o0 x1 D = some (r, D') → W p l e R s m args below meth c H locs 0 0 (MQ below (Qn (some (.int r)) True (wpost G cA S D' ad A) A) args s 0 0 A) (F0 m 0 ls []) := by
  obtain ⟨hx, hb, -⟩ := id hC
  intro o0 a0 x1 D H locs ls hi0 hw hl h
  unfold f_X6_takeAway at h
  refine lv_aload_n hx hb dX6_takeAway_0 rfl (lv_at hl 0 rfl) ?_
  refine r_gL hC hw kc_5 hi0 2 rfl lk_297 dX6_takeAway_1 ?_
  refine lv_aload_n hx hb dX6_takeAway_4 rfl (lv_at hl 0 rfl) ?_
  refine r_gL hC hw kc_5 hi0 3 rfl lk_298 dX6_takeAway_5 ?_
  refine W.lcmp hx hb dX6_takeAway_8 ?_
  refine lv_if_ne (tgt := 27) hx hb dX6_takeAway_9 (by decide) (fun c7 => ?_) (fun c7 => ?_)
  · have h := i_no c7 h
    refine lv_aload_n hx hb dX6_takeAway_27 rfl (lv_at hl 0 rfl) ?_
    refine r_gL hC hw kc_5 hi0 2 rfl lk_297 dX6_takeAway_28 ?_
    refine lv_lload_n hx hb dX6_takeAway_31 rfl (lv_at hl 1 rfl) ?_
    refine W.lcmp hx hb dX6_takeAway_32 ?_
    refine lv_if_ne (tgt := 49) hx hb dX6_takeAway_33 (by decide) (fun c8 => ?_) (fun c8 => ?_)
    · have h := i_no c8 h
      refine lv_aload_n hx hb dX6_takeAway_49 rfl (lv_at hl 0 rfl) ?_
      refine r_gL hC hw kc_5 hi0 3 rfl lk_298 dX6_takeAway_50 ?_
      refine lv_lload_n hx hb dX6_takeAway_53 rfl (lv_at hl 1 rfl) ?_
      refine W.lcmp hx hb dX6_takeAway_54 ?_
      refine lv_if_ne (tgt := 68) hx hb dX6_takeAway_55 (by decide) (fun c9 => ?_) (fun c9 => ?_)
      · have h := i_no c9 h
        refine lv_iconst (v := 1) hx hb dX6_takeAway_68 (by decide) ?_
        cases h
        exact r_zret hC hw (Or.inr rfl) dX6_takeAway_69
      · have h := i_yes c9 h
        refine lv_aload_n hx hb dX6_takeAway_58 rfl (lv_at hl 0 rfl) ?_
        refine lv_aload_n hx hb dX6_takeAway_59 rfl (lv_at hl 0 rfl) ?_
        refine r_gL hC hw kc_5 hi0 3 rfl lk_298 dX6_takeAway_60 ?_
        refine lv_lconst (v := 1) hx hb dX6_takeAway_63 (by decide) ?_
        refine lv_lsub hx hb dX6_takeAway_64 ?_
        refine r_pL hC hw kc_5 hi0 1 rfl lk_295 rfl rfl rfl dX6_takeAway_65 (fun D10 eD10 H locs hw => ?_)
        have h := nm_i h D10 eD10
        refine lv_iconst (v := 1) hx hb dX6_takeAway_68 (by decide) ?_
        cases h
        exact r_zret hC hw (Or.inr rfl) dX6_takeAway_69
    · have h := i_yes c8 h
      refine lv_aload_n hx hb dX6_takeAway_36 rfl (lv_at hl 0 rfl) ?_
      refine lv_aload_n hx hb dX6_takeAway_37 rfl (lv_at hl 0 rfl) ?_
      refine r_gL hC hw kc_5 hi0 2 rfl lk_297 dX6_takeAway_38 ?_
      refine lv_lconst (v := 1) hx hb dX6_takeAway_41 (by decide) ?_
      refine lv_ladd hx hb dX6_takeAway_42 ?_
      refine r_pL hC hw kc_5 hi0 0 rfl lk_293 rfl rfl rfl dX6_takeAway_43 (fun D11 eD11 H locs hw => ?_)
      have h := nm_i h D11 eD11
      refine lv_goto (tgt := 68) hx hb dX6_takeAway_46 (by decide) ?_
      refine lv_iconst (v := 1) hx hb dX6_takeAway_68 (by decide) ?_
      cases h
      exact r_zret hC hw (Or.inr rfl) dX6_takeAway_69
  · have h := i_yes c7 h
    refine lv_aload_n hx hb dX6_takeAway_12 rfl (lv_at hl 0 rfl) ?_
    refine r_gL hC hw kc_5 hi0 2 rfl lk_297 dX6_takeAway_13 ?_
    refine lv_lload_n hx hb dX6_takeAway_16 rfl (lv_at hl 1 rfl) ?_
    refine W.lcmp hx hb dX6_takeAway_17 ?_
    refine lv_if_eq (tgt := 25) hx hb dX6_takeAway_18 (by decide) (fun c12 => ?_) (fun c12 => ?_)
    · have h := i_yes c12 h
      refine lv_iconst (v := 0) hx hb dX6_takeAway_25 (by decide) ?_
      cases h
      exact r_zret hC hw (Or.inl rfl) dX6_takeAway_26
    · have h := i_no c12 h
      refine lv_iconst (v := 1) hx hb dX6_takeAway_21 (by decide) ?_
      refine lv_goto (tgt := 26) hx hb dX6_takeAway_22 (by decide) ?_
      cases h
      exact r_zret hC hw (Or.inr rfl) dX6_takeAway_26
set_option maxHeartbeats 4000000 in
set_option maxRecDepth 100000 in
theorem k_X6_takeAway {l : Launch} {G : va_G} {cA : Nat → ClassId} {S : sh} {D D' : dt} {ad : Nat → Nat} (sz : Nat) {o0 a0 : Nat} {x1 : Int64} {r : Int32} (hi0 : Is S ad o0 a0 5) (h : f_X6_takeAway S o0 x1 D = some (r, D')) : Co l yX6_takeAway (Cond.code yX6_takeAway cX6_takeAway 3 (some .boolean) :: tb0) 0 0 [.ref a0, .long x1] G cA S D ad sz (some (.int r)) True D' := by
  refine Met.ofW (cc := cX6_takeAway) (maxL := 3) (ret := (some .boolean)) (by decide) rfl ?_
  intro p e s m args below meth c s₁ B hml hv
  obtain ⟨rfl, hsz, hP, hK, hD0, hT, hX⟩ := hv
  subst hsz
  have hts := atoms_spec (ws := Cond.code yX6_takeAway cX6_takeAway 3 (some .boolean) :: tb0) B.pre
  have hC : Cx RX6 cX6_takeAway 3 (some .boolean) p s m _ meth c := ⟨B.exec, B.bytes, hml, findClass_of_methodNamed B.named, fun w q => hts w (List.mem_cons_of_mem _ q), B.returns, B.notSynchronized⟩
  have hw := Wd.entry hP hK hD0 hT hX
  have hl := lv_entry ([.ref a0, .long x1]) (n := 3) (Nat.le_of_ble_eq_true rfl)
  rw [lg_entry_eq]
  exact w_X6_takeAway_0 hC ⟨Nat.le_refl _, Nat.le_refl _⟩ o0 a0 x1 D _ _ _ hi0 hw hl h
set_option maxHeartbeats 4000000 in
set_option maxRecDepth 100000 in
theorem w_X6_narrow_236 {r : Int32} {D' : dt} (hC : Cx RX6 cX6_narrow 4 (some .boolean) p s m args meth c) (hR : 1 ≤ R.frames ∧ 24 ≤ R.locals) : ∀ (o0 a0 : Nat) (x2 : Int64) (os0 as0 : Nat) (xs1 : Int64) (D : dt) (H : Heap) (locs : List Loc) (ls : Array Slot), Is S ad o0 a0 5 → Is S ad os0 as0 5 → Wd G cA S D ad A s H locs → lv_has ls 4 [(0, .ref a0), (2, .long x2)] → f_X6_narrow_236 S o0 x2 os0 xs1 D = some (r, D') → W p l e R s m args below meth c H locs 0 0 (MQ below (Qn (some (.int r)) True (wpost G cA S D' ad A) A) args s 0 0 A) (F0 m 236 ls [.long xs1, .ref as0]) := by
  obtain ⟨hx, hb, -⟩ := id hC
  intro o0 a0 x2 os0 as0 xs1 D H locs ls hi0 his0 hw hl h
  unfold f_X6_narrow_236 at h
  refine r_pL hC hw kc_5 his0 1 rfl lk_295 rfl rfl rfl dX6_narrow_236 (fun D53 eD53 H locs hw => ?_)
  have h := nm_i h D53 eD53
  refine lv_lload_n hx hb dX6_narrow_239 rfl (lv_at hl 1 rfl) ?_
  refine lv_aload_n hx hb dX6_narrow_240 rfl (lv_at hl 0 rfl) ?_
  refine r_gL hC hw kc_5 hi0 2 rfl lk_297 dX6_narrow_241 ?_
  obtain ⟨r55, hq54, h⟩ := pq_i h
  refine r_cS (st' := [.int r55]) [.long x2, .long (gL D53 o0 2)] [] hC hw (k_X3_below _ hq54) mk_X3_below lk_709 ⟨Nat.le_trans (by decide) hR.1, Nat.le_trans (by decide) hR.2⟩ ⟨Nat.zero_le _, Nat.zero_le _⟩ rfl hl.1 rfl rfl (Nat.le_of_ble_eq_true rfl) dX6_narrow_244 (fun hP H locs hw => ?_)
  refine lv_if_ne (tgt := 254) hx hb dX6_narrow_247 (by decide) (fun c56 => ?_) (fun c56 => ?_)
  · have h := i_no c56 h
    refine lv_iconst (v := 0) hx hb dX6_narrow_254 (by decide) ?_
    cases h
    exact r_zret hC hw (Or.inl rfl) dX6_narrow_255
  · have h := i_yes c56 h
    refine lv_iconst (v := 1) hx hb dX6_narrow_250 (by decide) ?_
    refine lv_goto (tgt := 255) hx hb dX6_narrow_251 (by decide) ?_
    cases h
    exact r_zret hC hw (Or.inr rfl) dX6_narrow_255
set_option maxHeartbeats 4000000 in
set_option maxRecDepth 100000 in
theorem w_X6_narrow_216 {r : Int32} {D' : dt} (hC : Cx RX6 cX6_narrow 4 (some .boolean) p s m args meth c) (hR : 1 ≤ R.frames ∧ 24 ≤ R.locals) : ∀ (o0 a0 : Nat) (x2 : Int64) (D : dt) (H : Heap) (locs : List Loc) (ls : Array Slot), Is S ad o0 a0 5 → Wd G cA S D ad A s H locs → lv_has ls 4 [(0, .ref a0), (2, .long x2)] → f_X6_narrow_216 S o0 x2 D = some (r, D') → W p l e R s m args below meth c H locs 0 0 (MQ below (Qn (some (.int r)) True (wpost G cA S D' ad A) A) args s 0 0 A) (F0 m 216 ls []) := by
  obtain ⟨hx, hb, -⟩ := id hC
  intro o0 a0 x2 D H locs ls hi0 hw hl h
  unfold f_X6_narrow_216 at h
  refine lv_aload_n hx hb dX6_narrow_216 rfl (lv_at hl 0 rfl) ?_
  refine lv_aload_n hx hb dX6_narrow_217 rfl (lv_at hl 0 rfl) ?_
  refine r_gL hC hw kc_5 hi0 3 rfl lk_298 dX6_narrow_218 ?_
  refine lv_lload_n hx hb dX6_narrow_221 rfl (lv_at hl 1 rfl) ?_
  obtain ⟨r58, hq57, h⟩ := pq_i h
  refine r_cS (st' := [.int r58, .ref a0]) [.long (gL D o0 3), .long x2] [.ref a0] hC hw (k_X3_below _ hq57) mk_X3_below lk_709 ⟨Nat.le_trans (by decide) hR.1, Nat.le_trans (by decide) hR.2⟩ ⟨Nat.zero_le _, Nat.zero_le _⟩ rfl hl.1 rfl rfl (Nat.le_of_ble_eq_true rfl) dX6_narrow_222 (fun hP H locs hw => ?_)
  refine lv_if_eq (tgt := 235) hx hb dX6_narrow_225 (by decide) (fun c59 => ?_) (fun c59 => ?_)
  · have h := i_yes c59 h
    refine lv_lload_n hx hb dX6_narrow_235 rfl (lv_at hl 1 rfl) ?_
    exact w_X6_narrow_236 hC hR o0 a0 x2 o0 a0 x2 _ _ _ _ hi0 hi0 hw (lv_sub hl [0, 1] rfl) h
  · have h := i_no c59 h
    refine lv_aload_n hx hb dX6_narrow_228 rfl (lv_at hl 0 rfl) ?_
    refine r_gL hC hw kc_5 hi0 3 rfl lk_298 dX6_narrow_229 ?_
    refine lv_goto (tgt := 236) hx hb dX6_narrow_232 (by decide) ?_
    exact w_X6_narrow_236 hC hR o0 a0 x2 o0 a0 (gL D o0 3) _ _ _ _ hi0 hi0 hw (lv_sub hl [0, 1] rfl) h
set_option maxHeartbeats 4000000 in
set_option maxRecDepth 100000 in
theorem w_X6_narrow_162 {r : Int32} {D' : dt} (hC : Cx RX6 cX6_narrow 4 (some .boolean) p s m args meth c) (hR : 1 ≤ R.frames ∧ 24 ≤ R.locals) : ∀ (o0 a0 : Nat) (x2 : Int64) (os0 as0 : Nat) (xs1 : Int64) (D : dt) (H : Heap) (locs : List Loc) (ls : Array Slot), Is S ad o0 a0 5 → Is S ad os0 as0 5 → Wd G cA S D ad A s H locs → lv_has ls 4 [(0, .ref a0), (2, .long x2)] → f_X6_narrow_162 S o0 x2 os0 xs1 D = some (r, D') → W p l e R s m args below meth c H locs 0 0 (MQ below (Qn (some (.int r)) True (wpost G cA S D' ad A) A) args s 0 0 A) (F0 m 162 ls [.long xs1, .ref as0]) := by
  obtain ⟨hx, hb, -⟩ := id hC
  intro o0 a0 x2 os0 as0 xs1 D H locs ls hi0 his0 hw hl h
  unfold f_X6_narrow_162 at h
  refine r_pL hC hw kc_5 his0 0 rfl lk_293 rfl rfl rfl dX6_narrow_162 (fun D60 eD60 H locs hw => ?_)
  have h := nm_i h D60 eD60
  refine lv_aload_n hx hb dX6_narrow_165 rfl (lv_at hl 0 rfl) ?_
  refine r_gL hC hw kc_5 hi0 3 rfl lk_298 dX6_narrow_166 ?_
  refine lv_lload_n hx hb dX6_narrow_169 rfl (lv_at hl 1 rfl) ?_
  obtain ⟨r62, hq61, h⟩ := pq_i h
  refine r_cS (st' := [.int r62]) [.long (gL D60 o0 3), .long x2] [] hC hw (k_X3_below _ hq61) mk_X3_below lk_709 ⟨Nat.le_trans (by decide) hR.1, Nat.le_trans (by decide) hR.2⟩ ⟨Nat.zero_le _, Nat.zero_le _⟩ rfl hl.1 rfl rfl (Nat.le_of_ble_eq_true rfl) dX6_narrow_170 (fun hP H locs hw => ?_)
  refine lv_if_ne (tgt := 180) hx hb dX6_narrow_173 (by decide) (fun c63 => ?_) (fun c63 => ?_)
  · have h := i_no c63 h
    refine lv_iconst (v := 0) hx hb dX6_narrow_180 (by decide) ?_
    cases h
    exact r_zret hC hw (Or.inl rfl) dX6_narrow_181
  · have h := i_yes c63 h
    refine lv_iconst (v := 1) hx hb dX6_narrow_176 (by decide) ?_
    refine lv_goto (tgt := 181) hx hb dX6_narrow_177 (by decide) ?_
    cases h
    exact r_zret hC hw (Or.inr rfl) dX6_narrow_181
set_option maxHeartbeats 4000000 in
set_option maxRecDepth 100000 in
theorem w_X6_narrow_204 {r : Int32} {D' : dt} (hC : Cx RX6 cX6_narrow 4 (some .boolean) p s m args meth c) (hR : 1 ≤ R.frames ∧ 24 ≤ R.locals) : ∀ (o0 a0 : Nat) (x2 : Int64) (os0 as0 : Nat) (xs1 : Int64) (D : dt) (H : Heap) (locs : List Loc) (ls : Array Slot), Is S ad o0 a0 5 → Is S ad os0 as0 5 → Wd G cA S D ad A s H locs → lv_has ls 4 [(0, .ref a0), (2, .long x2)] → f_X6_narrow_204 S o0 x2 os0 xs1 D = some (r, D') → W p l e R s m args below meth c H locs 0 0 (MQ below (Qn (some (.int r)) True (wpost G cA S D' ad A) A) args s 0 0 A) (F0 m 204 ls [.long xs1, .ref as0]) := by
  obtain ⟨hx, hb, -⟩ := id hC
  intro o0 a0 x2 os0 as0 xs1 D H locs ls hi0 his0 hw hl h
  unfold f_X6_narrow_204 at h
  refine r_pL hC hw kc_5 his0 1 rfl lk_295 rfl rfl rfl dX6_narrow_204 (fun D64 eD64 H locs hw => ?_)
  have h := nm_i h D64 eD64
  refine lv_aload_n hx hb dX6_narrow_207 rfl (lv_at hl 0 rfl) ?_
  refine r_gL hC hw kc_5 hi0 2 rfl lk_297 dX6_narrow_208 ?_
  refine lv_lload_n hx hb dX6_narrow_211 rfl (lv_at hl 1 rfl) ?_
  obtain ⟨r66, hq65, h⟩ := pq_i h
  refine r_cS (st' := [.int r66]) [.long (gL D64 o0 2), .long x2] [] hC hw (k_X3_below _ hq65) mk_X3_below lk_709 ⟨Nat.le_trans (by decide) hR.1, Nat.le_trans (by decide) hR.2⟩ ⟨Nat.zero_le _, Nat.zero_le _⟩ rfl hl.1 rfl rfl (Nat.le_of_ble_eq_true rfl) dX6_narrow_212 (fun hP H locs hw => ?_)
  obtain ⟨hz67, h⟩ := ck_i h
  cases h
  exact r_zret hC hw hz67 dX6_narrow_215
set_option maxHeartbeats 4000000 in
set_option maxRecDepth 100000 in
theorem w_X6_narrow_130 {r : Int32} {D' : dt} (hC : Cx RX6 cX6_narrow 4 (some .boolean) p s m args meth c) (hR : 1 ≤ R.frames ∧ 24 ≤ R.locals) : ∀ (o0 a0 : Nat) (x2 : Int64) (os0 as0 : Nat) (xs1 : Int64) (D : dt) (H : Heap) (locs : List Loc) (ls : Array Slot), Is S ad o0 a0 5 → Is S ad os0 as0 5 → Wd G cA S D ad A s H locs → lv_has ls 4 [(0, .ref a0), (2, .long x2)] → f_X6_narrow_130 S o0 x2 os0 xs1 D = some (r, D') → W p l e R s m args below meth c H locs 0 0 (MQ below (Qn (some (.int r)) True (wpost G cA S D' ad A) A) args s 0 0 A) (F0 m 130 ls [.long xs1, .ref as0]) := by
  obtain ⟨hx, hb, -⟩ := id hC
  intro o0 a0 x2 os0 as0 xs1 D H locs ls hi0 his0 hw hl h
  unfold f_X6_narrow_130 at h
  refine r_pL hC hw kc_5 his0 0 rfl lk_293 rfl rfl rfl dX6_narrow_130 (fun D68 eD68 H locs hw => ?_)
  have h := nm_i h D68 eD68
  refine lv_lload_n hx hb dX6_narrow_133 rfl (lv_at hl 1 rfl) ?_
  refine lv_aload_n hx hb dX6_narrow_134 rfl (lv_at hl 0 rfl) ?_
  refine r_gL hC hw kc_5 hi0 3 rfl lk_298 dX6_narrow_135 ?_
  obtain ⟨r70, hq69, h⟩ := pq_i h
  refine r_cS (st' := [.int r70]) [.long x2, .long (gL D68 o0 3)] [] hC hw (k_X3_below _ hq69) mk_X3_below lk_709 ⟨Nat.le_trans (by decide) hR.1, Nat.le_trans (by decide) hR.2⟩ ⟨Nat.zero_le _, Nat.zero_le _⟩ rfl hl.1 rfl rfl (Nat.le_of_ble_eq_true rfl) dX6_narrow_138 (fun hP H locs hw => ?_)
  obtain ⟨hz71, h⟩ := ck_i h
  cases h
  exact r_zret hC hw hz71 dX6_narrow_141
set_option maxHeartbeats 4000000 in
set_option maxRecDepth 100000 in
theorem w_X6_narrow_0 {r : Int32} {D' : dt} (hC : Cx RX6 cX6_narrow 4 (some .boolean) p s m args meth c) (hR : 1 ≤ R.frames ∧ 24 ≤ R.locals) : ∀ (o0 a0 : Nat) (x1 : Int32) (x2 : Int64) (D : dt) (H : Heap) (locs : List Loc) (ls : Array Slot), Is S ad o0 a0 5 → Wd G cA S D ad A s H locs → lv_has ls 4 [(0, .ref a0), (1, .int x1), (2, .long x2)] → f_X6_narrow S o0 x1 x2 D = some (r, D') → W p l e R s m args below meth c H locs 0 0 (MQ below (Qn (some (.int r)) True (wpost G cA S D' ad A) A) args s 0 0 A) (F0 m 0 ls []) := by
  obtain ⟨hx, hb, -⟩ := id hC
  intro o0 a0 x1 x2 D H locs ls hi0 hw hl h
  unfold f_X6_narrow at h
  refine lv_aload_n hx hb dX6_narrow_0 rfl (lv_at hl 0 rfl) ?_
  refine lv_aload_n hx hb dX6_narrow_1 rfl (lv_at hl 0 rfl) ?_
  refine r_gL hC hw kc_5 hi0 2 rfl lk_297 dX6_narrow_2 ?_
  refine lv_aload_n hx hb dX6_narrow_5 rfl (lv_at hl 0 rfl) ?_
  refine r_gL hC hw kc_5 hi0 3 rfl lk_298 dX6_narrow_6 ?_
  obtain ⟨_, D73, hq72, h⟩ := cq_i h
  refine r_cV (st' := []) [.long (gL D o0 2), .long (gL D o0 3)] [] hC hw kc_5 hi0 (k_X6_become _ hi0 hq72) mk_X6_become lk_694 ⟨Nat.le_trans (by decide) hR.1, Nat.le_trans (by decide) hR.2⟩ ⟨Nat.zero_le _, Nat.zero_le _⟩ rfl hl.1 rfl rfl (Nat.le_of_ble_eq_true rfl) dX6_narrow_9 (fun hP H locs hw => ?_)
  refine lv_iload_n hx hb dX6_narrow_12 rfl (lv_at hl 1 rfl) ?_
  by_cases c74 : x1 = 1
  · have h := i_yes c74 h
    refine lv_tableIn (off := 55) (tgt := 68) hx hb dX6_narrow_13 (by rw [c74]; decide) (by rw [c74]; decide) (by rw [c74] <;> rfl) (by decide) ?_
    refine lv_aload_n hx hb dX6_narrow_68 rfl (lv_at hl 0 rfl) ?_
    refine lv_lload_n hx hb dX6_narrow_69 rfl (lv_at hl 2 rfl) ?_
    refine lv_lload_n hx hb dX6_narrow_70 rfl (lv_at hl 2 rfl) ?_
    obtain ⟨_, D76, hq75, h⟩ := cq_i h
    refine r_cV (st' := []) [.long x2, .long x2] [] hC hw kc_5 hi0 (k_X6_become _ hi0 hq75) mk_X6_become lk_694 ⟨Nat.le_trans (by decide) hR.1, Nat.le_trans (by decide) hR.2⟩ ⟨Nat.zero_le _, Nat.zero_le _⟩ rfl hl.1 rfl rfl (Nat.le_of_ble_eq_true rfl) dX6_narrow_71 (fun hP H locs hw => ?_)
    refine lv_lload_n hx hb dX6_narrow_74 rfl (lv_at hl 2 rfl) ?_
    refine lv_aload_n hx hb dX6_narrow_75 rfl (lv_at hl 0 rfl) ?_
    refine r_gL hC hw kc_5 hi0 2 rfl lk_297 dX6_narrow_76 ?_
    obtain ⟨r78, hq77, h⟩ := pq_i h
    refine r_cS (st' := [.int r78]) [.long x2, .long (gL D76 o0 2)] [] hC hw (k_X3_below _ hq77) mk_X3_below lk_709 ⟨Nat.le_trans (by decide) hR.1, Nat.le_trans (by decide) hR.2⟩ ⟨Nat.zero_le _, Nat.zero_le _⟩ rfl hl.1 rfl rfl (Nat.le_of_ble_eq_true rfl) dX6_narrow_79 (fun hP H locs hw => ?_)
    refine lv_if_ne (tgt := 100) hx hb dX6_narrow_82 (by decide) (fun c79 => ?_) (fun c79 => ?_)
    · have h := i_no c79 h
      refine lv_iconst (v := 0) hx hb dX6_narrow_100 (by decide) ?_
      cases h
      exact r_zret hC hw (Or.inl rfl) dX6_narrow_101
    · have h := i_yes c79 h
      refine lv_aload_n hx hb dX6_narrow_85 rfl (lv_at hl 0 rfl) ?_
      refine r_gL hC hw kc_5 hi0 3 rfl lk_298 dX6_narrow_86 ?_
      refine lv_lload_n hx hb dX6_narrow_89 rfl (lv_at hl 2 rfl) ?_
      obtain ⟨r81, hq80, h⟩ := pq_i h
      refine r_cS (st' := [.int r81]) [.long (gL D76 o0 3), .long x2] [] hC hw (k_X3_below _ hq80) mk_X3_below lk_709 ⟨Nat.le_trans (by decide) hR.1, Nat.le_trans (by decide) hR.2⟩ ⟨Nat.zero_le _, Nat.zero_le _⟩ rfl hl.1 rfl rfl (Nat.le_of_ble_eq_true rfl) dX6_narrow_90 (fun hP H locs hw => ?_)
      refine lv_if_ne (tgt := 100) hx hb dX6_narrow_93 (by decide) (fun c82 => ?_) (fun c82 => ?_)
      · have h := i_no c82 h
        refine lv_iconst (v := 0) hx hb dX6_narrow_100 (by decide) ?_
        cases h
        exact r_zret hC hw (Or.inl rfl) dX6_narrow_101
      · have h := i_yes c82 h
        refine lv_iconst (v := 1) hx hb dX6_narrow_96 (by decide) ?_
        refine lv_goto (tgt := 101) hx hb dX6_narrow_97 (by decide) ?_
        cases h
        exact r_zret hC hw (Or.inr rfl) dX6_narrow_101
  have h := i_no c74 h
  by_cases c83 : x1 = 2
  · have h := i_yes c83 h
    refine lv_tableIn (off := 95) (tgt := 108) hx hb dX6_narrow_13 (by rw [c83]; decide) (by rw [c83]; decide) (by rw [c83] <;> rfl) (by decide) ?_
    refine lv_aload_n hx hb dX6_narrow_108 rfl (lv_at hl 0 rfl) ?_
    refine lv_lload_n hx hb dX6_narrow_109 rfl (lv_at hl 2 rfl) ?_
    refine lv_aload_n hx hb dX6_narrow_110 rfl (lv_at hl 0 rfl) ?_
    refine r_gL hC hw kc_5 hi0 2 rfl lk_297 dX6_narrow_111 ?_
    obtain ⟨r85, hq84, h⟩ := pq_i h
    refine r_cS (st' := [.int r85, .ref a0]) [.long x2, .long (gL D73 o0 2)] [.ref a0] hC hw (k_X3_below _ hq84) mk_X3_below lk_709 ⟨Nat.le_trans (by decide) hR.1, Nat.le_trans (by decide) hR.2⟩ ⟨Nat.zero_le _, Nat.zero_le _⟩ rfl hl.1 rfl rfl (Nat.le_of_ble_eq_true rfl) dX6_narrow_114 (fun hP H locs hw => ?_)
    refine lv_if_eq (tgt := 127) hx hb dX6_narrow_117 (by decide) (fun c86 => ?_) (fun c86 => ?_)
    · have h := i_yes c86 h
      refine lv_lload_n hx hb dX6_narrow_127 rfl (lv_at hl 2 rfl) ?_
      refine lv_lconst (v := 1) hx hb dX6_narrow_128 (by decide) ?_
      refine lv_ladd hx hb dX6_narrow_129 ?_
      exact w_X6_narrow_130 hC hR o0 a0 x2 o0 a0 (x2 + (1 : Int64)) _ _ _ _ hi0 hi0 hw (lv_sub hl [0, 2] rfl) h
    · have h := i_no c86 h
      refine lv_aload_n hx hb dX6_narrow_120 rfl (lv_at hl 0 rfl) ?_
      refine r_gL hC hw kc_5 hi0 2 rfl lk_297 dX6_narrow_121 ?_
      refine lv_goto (tgt := 130) hx hb dX6_narrow_124 (by decide) ?_
      exact w_X6_narrow_130 hC hR o0 a0 x2 o0 a0 (gL D73 o0 2) _ _ _ _ hi0 hi0 hw (lv_sub hl [0, 2] rfl) h
  have h := i_no c83 h
  by_cases c87 : x1 = 3
  · have h := i_yes c87 h
    refine lv_tableIn (off := 129) (tgt := 142) hx hb dX6_narrow_13 (by rw [c87]; decide) (by rw [c87]; decide) (by rw [c87] <;> rfl) (by decide) ?_
    refine lv_aload_n hx hb dX6_narrow_142 rfl (lv_at hl 0 rfl) ?_
    refine lv_lload_n hx hb dX6_narrow_143 rfl (lv_at hl 2 rfl) ?_
    refine lv_aload_n hx hb dX6_narrow_144 rfl (lv_at hl 0 rfl) ?_
    refine r_gL hC hw kc_5 hi0 2 rfl lk_297 dX6_narrow_145 ?_
    obtain ⟨r89, hq88, h⟩ := pq_i h
    refine r_cS (st' := [.int r89, .ref a0]) [.long x2, .long (gL D73 o0 2)] [.ref a0] hC hw (k_X3_below _ hq88) mk_X3_below lk_709 ⟨Nat.le_trans (by decide) hR.1, Nat.le_trans (by decide) hR.2⟩ ⟨Nat.zero_le _, Nat.zero_le _⟩ rfl hl.1 rfl rfl (Nat.le_of_ble_eq_true rfl) dX6_narrow_148 (fun hP H locs hw => ?_)
    refine lv_if_eq (tgt := 161) hx hb dX6_narrow_151 (by decide) (fun c90 => ?_) (fun c90 => ?_)
    · have h := i_yes c90 h
      refine lv_lload_n hx hb dX6_narrow_161 rfl (lv_at hl 2 rfl) ?_
      exact w_X6_narrow_162 hC hR o0 a0 x2 o0 a0 x2 _ _ _ _ hi0 hi0 hw (lv_sub hl [0, 2] rfl) h
    · have h := i_no c90 h
      refine lv_aload_n hx hb dX6_narrow_154 rfl (lv_at hl 0 rfl) ?_
      refine r_gL hC hw kc_5 hi0 2 rfl lk_297 dX6_narrow_155 ?_
      refine lv_goto (tgt := 162) hx hb dX6_narrow_158 (by decide) ?_
      exact w_X6_narrow_162 hC hR o0 a0 x2 o0 a0 (gL D73 o0 2) _ _ _ _ hi0 hi0 hw (lv_sub hl [0, 2] rfl) h
  have h := i_no c87 h
  by_cases c91 : x1 = 4
  · have h := i_yes c91 h
    refine lv_tableIn (off := 203) (tgt := 216) hx hb dX6_narrow_13 (by rw [c91]; decide) (by rw [c91]; decide) (by rw [c91] <;> rfl) (by decide) ?_
    exact w_X6_narrow_216 hC hR o0 a0 x2 _ _ _ _ hi0 hw (lv_sub hl [0, 2] rfl) h
  have h := i_no c91 h
  by_cases c92 : x1 = 5
  · have h := i_yes c92 h
    refine lv_tableIn (off := 89) (tgt := 102) hx hb dX6_narrow_13 (by rw [c92]; decide) (by rw [c92]; decide) (by rw [c92] <;> rfl) (by decide) ?_
    refine lv_aload_n hx hb dX6_narrow_102 rfl (lv_at hl 0 rfl) ?_
    refine lv_lload_n hx hb dX6_narrow_103 rfl (lv_at hl 2 rfl) ?_
    obtain ⟨r94, D95, hq93, h⟩ := cq_i h
    refine r_cV (st' := [.int r94]) [.long x2] [] hC hw kc_5 hi0 (k_X6_takeAway _ hi0 hq93) mk_X6_takeAway lk_824 ⟨Nat.le_trans (by decide) hR.1, Nat.le_trans (by decide) hR.2⟩ ⟨Nat.zero_le _, Nat.zero_le _⟩ rfl hl.1 rfl rfl (Nat.le_of_ble_eq_true rfl) dX6_narrow_104 (fun hP H locs hw => ?_)
    obtain ⟨hz96, h⟩ := ck_i h
    cases h
    exact r_zret hC hw hz96 dX6_narrow_107
  have h := i_no c92 h
  by_cases c97 : x1 = 6
  · have h := i_yes c97 h
    refine lv_tableIn (off := 203) (tgt := 216) hx hb dX6_narrow_13 (by rw [c97]; decide) (by rw [c97]; decide) (by rw [c97] <;> rfl) (by decide) ?_
    exact w_X6_narrow_216 hC hR o0 a0 x2 _ _ _ _ hi0 hw (lv_sub hl [0, 2] rfl) h
  have h := i_no c97 h
  by_cases c98 : x1 = 7
  · have h := i_yes c98 h
    refine lv_tableIn (off := 203) (tgt := 216) hx hb dX6_narrow_13 (by rw [c98]; decide) (by rw [c98]; decide) (by rw [c98] <;> rfl) (by decide) ?_
    exact w_X6_narrow_216 hC hR o0 a0 x2 _ _ _ _ hi0 hw (lv_sub hl [0, 2] rfl) h
  have h := i_no c98 h
  by_cases c99 : x1 = 8
  · have h := i_yes c99 h
    refine lv_tableIn (off := 203) (tgt := 216) hx hb dX6_narrow_13 (by rw [c99]; decide) (by rw [c99]; decide) (by rw [c99] <;> rfl) (by decide) ?_
    exact w_X6_narrow_216 hC hR o0 a0 x2 _ _ _ _ hi0 hw (lv_sub hl [0, 2] rfl) h
  have h := i_no c99 h
  by_cases c100 : x1 = 9
  · have h := i_yes c100 h
    refine lv_tableIn (off := 203) (tgt := 216) hx hb dX6_narrow_13 (by rw [c100]; decide) (by rw [c100]; decide) (by rw [c100] <;> rfl) (by decide) ?_
    exact w_X6_narrow_216 hC hR o0 a0 x2 _ _ _ _ hi0 hw (lv_sub hl [0, 2] rfl) h
  have h := i_no c100 h
  by_cases c101 : x1 = 10
  · have h := i_yes c101 h
    refine lv_tableIn (off := 169) (tgt := 182) hx hb dX6_narrow_13 (by rw [c101]; decide) (by rw [c101]; decide) (by rw [c101] <;> rfl) (by decide) ?_
    refine lv_aload_n hx hb dX6_narrow_182 rfl (lv_at hl 0 rfl) ?_
    refine lv_aload_n hx hb dX6_narrow_183 rfl (lv_at hl 0 rfl) ?_
    refine r_gL hC hw kc_5 hi0 3 rfl lk_298 dX6_narrow_184 ?_
    refine lv_lload_n hx hb dX6_narrow_187 rfl (lv_at hl 2 rfl) ?_
    obtain ⟨r103, hq102, h⟩ := pq_i h
    refine r_cS (st' := [.int r103, .ref a0]) [.long (gL D73 o0 3), .long x2] [.ref a0] hC hw (k_X3_below _ hq102) mk_X3_below lk_709 ⟨Nat.le_trans (by decide) hR.1, Nat.le_trans (by decide) hR.2⟩ ⟨Nat.zero_le _, Nat.zero_le _⟩ rfl hl.1 rfl rfl (Nat.le_of_ble_eq_true rfl) dX6_narrow_188 (fun hP H locs hw => ?_)
    refine lv_if_eq (tgt := 201) hx hb dX6_narrow_191 (by decide) (fun c104 => ?_) (fun c104 => ?_)
    · have h := i_yes c104 h
      refine lv_lload_n hx hb dX6_narrow_201 rfl (lv_at hl 2 rfl) ?_
      refine lv_lconst (v := 1) hx hb dX6_narrow_202 (by decide) ?_
      refine lv_lsub hx hb dX6_narrow_203 ?_
      exact w_X6_narrow_204 hC hR o0 a0 x2 o0 a0 (x2 - (1 : Int64)) _ _ _ _ hi0 hi0 hw (lv_sub hl [0, 2] rfl) h
    · have h := i_no c104 h
      refine lv_aload_n hx hb dX6_narrow_194 rfl (lv_at hl 0 rfl) ?_
      refine r_gL hC hw kc_5 hi0 3 rfl lk_298 dX6_narrow_195 ?_
      refine lv_goto (tgt := 204) hx hb dX6_narrow_198 (by decide) ?_
      exact w_X6_narrow_204 hC hR o0 a0 x2 o0 a0 (gL D73 o0 3) _ _ _ _ hi0 hi0 hw (lv_sub hl [0, 2] rfl) h
  have h := i_no c101 h
  refine lv_tableOut (tgt := 216) hx hb dX6_narrow_13 (by have nc74 := lv_neT c74 (a := 1) rfl; have nc83 := lv_neT c83 (a := 2) rfl; have nc87 := lv_neT c87 (a := 3) rfl; have nc91 := lv_neT c91 (a := 4) rfl; have nc92 := lv_neT c92 (a := 5) rfl; have nc97 := lv_neT c97 (a := 6) rfl; have nc98 := lv_neT c98 (a := 7) rfl; have nc99 := lv_neT c99 (a := 8) rfl; have nc100 := lv_neT c100 (a := 9) rfl; have nc101 := lv_neT c101 (a := 10) rfl; omega) (by decide) ?_
  exact w_X6_narrow_216 hC hR o0 a0 x2 _ _ _ _ hi0 hw (lv_sub hl [0, 2] rfl) h
set_option maxHeartbeats 4000000 in
set_option maxRecDepth 100000 in
theorem k_X6_narrow {l : Launch} {G : va_G} {cA : Nat → ClassId} {S : sh} {D D' : dt} {ad : Nat → Nat} (sz : Nat) {o0 a0 : Nat} {x1 : Int32} {x2 : Int64} {r : Int32} (hi0 : Is S ad o0 a0 5) (h : f_X6_narrow S o0 x1 x2 D = some (r, D')) : Co l yX6_narrow (Cond.code yX6_narrow cX6_narrow 4 (some .boolean) :: tb0) 1 24 [.ref a0, .int x1, .long x2] G cA S D ad sz (some (.int r)) True D' := by
  refine Met.ofW (cc := cX6_narrow) (maxL := 4) (ret := (some .boolean)) (by decide) rfl ?_
  intro p e s m args below meth c s₁ B hml hv
  obtain ⟨rfl, hsz, hP, hK, hD0, hT, hX⟩ := hv
  subst hsz
  have hts := atoms_spec (ws := Cond.code yX6_narrow cX6_narrow 4 (some .boolean) :: tb0) B.pre
  have hC : Cx RX6 cX6_narrow 4 (some .boolean) p s m _ meth c := ⟨B.exec, B.bytes, hml, findClass_of_methodNamed B.named, fun w q => hts w (List.mem_cons_of_mem _ q), B.returns, B.notSynchronized⟩
  have hw := Wd.entry hP hK hD0 hT hX
  have hl := lv_entry ([.ref a0, .int x1, .long x2]) (n := 4) (Nat.le_of_ble_eq_true rfl)
  rw [lg_entry_eq]
  exact w_X6_narrow_0 hC ⟨Nat.le_refl _, Nat.le_refl _⟩ o0 a0 x1 x2 D _ _ _ hi0 hw hl h
end
