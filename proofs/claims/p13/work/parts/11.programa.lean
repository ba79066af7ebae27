theorem dX4_init_0 : decode cX4_init 0 = .ok (.aload_n 0, 1) := by decide +kernel
theorem dX4_init_1 : decode cX4_init 1 = .ok (.invokespecial 3, 3) := by decide +kernel
theorem dX4_init_4 : decode cX4_init 4 = .ok (.aload_n 0, 1) := by decide +kernel
theorem dX4_init_5 : decode cX4_init 5 = .ok (.sipush 200, 3) := by decide +kernel
theorem dX4_init_8 : decode cX4_init 8 = .ok (.newarray .int, 2) := by decide +kernel
theorem dX4_init_10 : decode cX4_init 10 = .ok (.putfield 9, 3) := by decide +kernel
theorem dX4_init_13 : decode cX4_init 13 = .ok (.aload_n 0, 1) := by decide +kernel
theorem dX4_init_14 : decode cX4_init 14 = .ok (.sipush 200, 3) := by decide +kernel
theorem dX4_init_17 : decode cX4_init 17 = .ok (.newarray .int, 2) := by decide +kernel
theorem dX4_init_19 : decode cX4_init 19 = .ok (.putfield 15, 3) := by decide +kernel
theorem dX4_init_22 : decode cX4_init 22 = .ok (.aload_n 0, 1) := by decide +kernel
theorem dX4_init_23 : decode cX4_init 23 = .ok (.sipush 200, 3) := by decide +kernel
theorem dX4_init_26 : decode cX4_init 26 = .ok (.newarray .int, 2) := by decide +kernel
theorem dX4_init_28 : decode cX4_init 28 = .ok (.putfield 18, 3) := by decide +kernel
theorem dX4_init_31 : decode cX4_init 31 = .ok (.aload_n 0, 1) := by decide +kernel
theorem dX4_init_32 : decode cX4_init 32 = .ok (.sipush 200, 3) := by decide +kernel
theorem dX4_init_35 : decode cX4_init 35 = .ok (.newarray .int, 2) := by decide +kernel
theorem dX4_init_37 : decode cX4_init 37 = .ok (.putfield 21, 3) := by decide +kernel
theorem dX4_init_40 : decode cX4_init 40 = .ok (.aload_n 0, 1) := by decide +kernel
theorem dX4_init_41 : decode cX4_init 41 = .ok (.sipush 200, 3) := by decide +kernel
theorem dX4_init_44 : decode cX4_init 44 = .ok (.newarray .int, 2) := by decide +kernel
theorem dX4_init_46 : decode cX4_init 46 = .ok (.putfield 24, 3) := by decide +kernel
theorem dX4_init_49 : decode cX4_init 49 = .ok (.return_, 1) := by decide +kernel
theorem dX4_has_0 : decode cX4_has 0 = .ok (.iload_n 1, 1) := by decide +kernel
theorem dX4_has_1 : decode cX4_has 1 = .ok (.ifCond .lt 15, 3) := by decide +kernel
theorem dX4_has_4 : decode cX4_has 4 = .ok (.iload_n 1, 1) := by decide +kernel
theorem dX4_has_5 : decode cX4_has 5 = .ok (.aload_n 0, 1) := by decide +kernel
theorem dX4_has_6 : decode cX4_has 6 = .ok (.getfield 27, 3) := by decide +kernel
theorem dX4_has_9 : decode cX4_has 9 = .ok (.if_icmp .ge 7, 3) := by decide +kernel
theorem dX4_has_12 : decode cX4_has 12 = .ok (.iconst 1, 1) := by decide +kernel
theorem dX4_has_13 : decode cX4_has 13 = .ok (.goto 4, 3) := by decide +kernel
theorem dX4_has_16 : decode cX4_has 16 = .ok (.iconst 0, 1) := by decide +kernel
theorem dX4_has_17 : decode cX4_has 17 = .ok (.ireturn, 1) := by decide +kernel
theorem dX4_write_0 : decode cX4_write 0 = .ok (.aload_n 0, 1) := by decide +kernel
theorem dX4_write_1 : decode cX4_write 1 = .ok (.iload_n 1, 1) := by decide +kernel
theorem dX4_write_2 : decode cX4_write 2 = .ok (.invokevirtual 31, 3) := by decide +kernel
theorem dX4_write_5 : decode cX4_write 5 = .ok (.ifCond .ne 4, 3) := by decide +kernel
theorem dX4_write_8 : decode cX4_write 8 = .ok (.return_, 1) := by decide +kernel
theorem dX4_write_9 : decode cX4_write 9 = .ok (.aload_n 0, 1) := by decide +kernel
theorem dX4_write_10 : decode cX4_write 10 = .ok (.getfield 9, 3) := by decide +kernel
theorem dX4_write_13 : decode cX4_write 13 = .ok (.iload_n 1, 1) := by decide +kernel
theorem dX4_write_14 : decode cX4_write 14 = .ok (.iload_n 2, 1) := by decide +kernel
theorem dX4_write_15 : decode cX4_write 15 = .ok (.iastore, 1) := by decide +kernel
theorem dX4_write_16 : decode cX4_write 16 = .ok (.aload_n 0, 1) := by decide +kernel
theorem dX4_write_17 : decode cX4_write 17 = .ok (.getfield 15, 3) := by decide +kernel
theorem dX4_write_20 : decode cX4_write 20 = .ok (.iload_n 1, 1) := by decide +kernel
theorem dX4_write_21 : decode cX4_write 21 = .ok (.iload_n 3, 1) := by decide +kernel
theorem dX4_write_22 : decode cX4_write 22 = .ok (.bipush 15, 2) := by decide +kernel
theorem dX4_write_24 : decode cX4_write 24 = .ok (.iand, 1) := by decide +kernel
theorem dX4_write_25 : decode cX4_write 25 = .ok (.iastore, 1) := by decide +kernel
theorem dX4_write_26 : decode cX4_write 26 = .ok (.aload_n 0, 1) := by decide +kernel
theorem dX4_write_27 : decode cX4_write 27 = .ok (.getfield 18, 3) := by decide +kernel
theorem dX4_write_30 : decode cX4_write 30 = .ok (.iload_n 1, 1) := by decide +kernel
theorem dX4_write_31 : decode cX4_write 31 = .ok (.iload_n 3, 1) := by decide +kernel
theorem dX4_write_32 : decode cX4_write 32 = .ok (.iconst 4, 1) := by decide +kernel
theorem dX4_write_33 : decode cX4_write 33 = .ok (.ishr, 1) := by decide +kernel
theorem dX4_write_34 : decode cX4_write 34 = .ok (.bipush 15, 2) := by decide +kernel
theorem dX4_write_36 : decode cX4_write 36 = .ok (.iand, 1) := by decide +kernel
theorem dX4_write_37 : decode cX4_write 37 = .ok (.iastore, 1) := by decide +kernel
theorem dX4_write_38 : decode cX4_write 38 = .ok (.aload_n 0, 1) := by decide +kernel
theorem dX4_write_39 : decode cX4_write 39 = .ok (.getfield 21, 3) := by decide +kernel
theorem dX4_write_42 : decode cX4_write 42 = .ok (.iload_n 1, 1) := by decide +kernel
theorem dX4_write_43 : decode cX4_write 43 = .ok (.iload 4, 2) := by decide +kernel
theorem dX4_write_45 : decode cX4_write 45 = .ok (.iastore, 1) := by decide +kernel
theorem dX4_write_46 : decode cX4_write 46 = .ok (.aload_n 0, 1) := by decide +kernel
theorem dX4_write_47 : decode cX4_write 47 = .ok (.getfield 24, 3) := by decide +kernel
theorem dX4_write_50 : decode cX4_write 50 = .ok (.iload_n 1, 1) := by decide +kernel
theorem dX4_write_51 : decode cX4_write 51 = .ok (.iload 5, 2) := by decide +kernel
theorem dX4_write_53 : decode cX4_write 53 = .ok (.iastore, 1) := by decide +kernel
theorem dX4_write_54 : decode cX4_write 54 = .ok (.return_, 1) := by decide +kernel
theorem dX4_isBadPair_0 : decode cX4_isBadPair 0 = .ok (.aload_n 0, 1) := by decide +kernel
theorem dX4_isBadPair_1 : decode cX4_isBadPair 1 = .ok (.getfield 9, 3) := by decide +kernel
theorem dX4_isBadPair_4 : decode cX4_isBadPair 4 = .ok (.iload_n 1, 1) := by decide +kernel
theorem dX4_isBadPair_5 : decode cX4_isBadPair 5 = .ok (.iaload, 1) := by decide +kernel
theorem dX4_isBadPair_6 : decode cX4_isBadPair 6 = .ok (.bipush 24, 2) := by decide +kernel
theorem dX4_isBadPair_8 : decode cX4_isBadPair 8 = .ok (.if_icmp .ne 33, 3) := by decide +kernel
theorem dX4_isBadPair_11 : decode cX4_isBadPair 11 = .ok (.aload_n 0, 1) := by decide +kernel
theorem dX4_isBadPair_12 : decode cX4_isBadPair 12 = .ok (.getfield 15, 3) := by decide +kernel
theorem dX4_isBadPair_15 : decode cX4_isBadPair 15 = .ok (.iload_n 1, 1) := by decide +kernel
theorem dX4_isBadPair_16 : decode cX4_isBadPair 16 = .ok (.iaload, 1) := by decide +kernel
theorem dX4_isBadPair_17 : decode cX4_isBadPair 17 = .ok (.bipush 10, 2) := by decide +kernel
theorem dX4_isBadPair_19 : decode cX4_isBadPair 19 = .ok (.if_icmp .ge 22, 3) := by decide +kernel
theorem dX4_isBadPair_22 : decode cX4_isBadPair 22 = .ok (.aload_n 0, 1) := by decide +kernel
theorem dX4_isBadPair_23 : decode cX4_isBadPair 23 = .ok (.getfield 18, 3) := by decide +kernel
theorem dX4_isBadPair_26 : decode cX4_isBadPair 26 = .ok (.iload_n 1, 1) := by decide +kernel
theorem dX4_isBadPair_27 : decode cX4_isBadPair 27 = .ok (.iaload, 1) := by decide +kernel
theorem dX4_isBadPair_28 : decode cX4_isBadPair 28 = .ok (.iconst 1, 1) := by decide +kernel
theorem dX4_isBadPair_29 : decode cX4_isBadPair 29 = .ok (.if_icmp .gt 12, 3) := by decide +kernel
theorem dX4_isBadPair_32 : decode cX4_isBadPair 32 = .ok (.aload_n 0, 1) := by decide +kernel
theorem dX4_isBadPair_33 : decode cX4_isBadPair 33 = .ok (.getfield 21, 3) := by decide +kernel
theorem dX4_isBadPair_36 : decode cX4_isBadPair 36 = .ok (.iload_n 1, 1) := by decide +kernel
theorem dX4_isBadPair_37 : decode cX4_isBadPair 37 = .ok (.iaload, 1) := by decide +kernel
theorem dX4_isBadPair_38 : decode cX4_isBadPair 38 = .ok (.ifCond .eq 5, 3) := by decide +kernel
theorem dX4_isBadPair_41 : decode cX4_isBadPair 41 = .ok (.iconst 1, 1) := by decide +kernel
theorem dX4_isBadPair_42 : decode cX4_isBadPair 42 = .ok (.ireturn, 1) := by decide +kernel
theorem dX4_isBadPair_43 : decode cX4_isBadPair 43 = .ok (.iload_n 1, 1) := by decide +kernel
theorem dX4_isBadPair_44 : decode cX4_isBadPair 44 = .ok (.iconst 1, 1) := by decide +kernel
theorem dX4_isBadPair_45 : decode cX4_isBadPair 45 = .ok (.iadd, 1) := by decide +kernel
theorem dX4_isBadPair_46 : decode cX4_isBadPair 46 = .ok (.istore_n 2, 1) := by decide +kernel
theorem dX4_isBadPair_47 : decode cX4_isBadPair 47 = .ok (.aload_n 0, 1) := by decide +kernel
theorem dX4_isBadPair_48 : decode cX4_isBadPair 48 = .ok (.iload_n 2, 1) := by decide +kernel
theorem dX4_isBadPair_49 : decode cX4_isBadPair 49 = .ok (.invokevirtual 31, 3) := by decide +kernel
theorem dX4_isBadPair_52 : decode cX4_isBadPair 52 = .ok (.ifCond .ne 5, 3) := by decide +kernel
theorem dX4_isBadPair_55 : decode cX4_isBadPair 55 = .ok (.iconst 0, 1) := by decide +kernel
theorem dX4_isBadPair_56 : decode cX4_isBadPair 56 = .ok (.ireturn, 1) := by decide +kernel
theorem dX4_isBadPair_57 : decode cX4_isBadPair 57 = .ok (.aload_n 0, 1) := by decide +kernel
theorem dX4_isBadPair_58 : decode cX4_isBadPair 58 = .ok (.getfield 9, 3) := by decide +kernel
theorem dX4_isBadPair_61 : decode cX4_isBadPair 61 = .ok (.iload_n 2, 1) := by decide +kernel
theorem dX4_isBadPair_62 : decode cX4_isBadPair 62 = .ok (.iaload, 1) := by decide +kernel
theorem dX4_isBadPair_63 : decode cX4_isBadPair 63 = .ok (.ifCond .ne 34, 3) := by decide +kernel
theorem dX4_isBadPair_66 : decode cX4_isBadPair 66 = .ok (.aload_n 0, 1) := by decide +kernel
theorem dX4_isBadPair_67 : decode cX4_isBadPair 67 = .ok (.getfield 15, 3) := by decide +kernel
theorem dX4_isBadPair_70 : decode cX4_isBadPair 70 = .ok (.iload_n 2, 1) := by decide +kernel
theorem dX4_isBadPair_71 : decode cX4_isBadPair 71 = .ok (.iaload, 1) := by decide +kernel
theorem dX4_isBadPair_72 : decode cX4_isBadPair 72 = .ok (.ifCond .ne 25, 3) := by decide +kernel
theorem dX4_isBadPair_75 : decode cX4_isBadPair 75 = .ok (.aload_n 0, 1) := by decide +kernel
theorem dX4_isBadPair_76 : decode cX4_isBadPair 76 = .ok (.getfield 18, 3) := by decide +kernel
theorem dX4_isBadPair_79 : decode cX4_isBadPair 79 = .ok (.iload_n 2, 1) := by decide +kernel
theorem dX4_isBadPair_80 : decode cX4_isBadPair 80 = .ok (.iaload, 1) := by decide +kernel
theorem dX4_isBadPair_81 : decode cX4_isBadPair 81 = .ok (.ifCond .ne 16, 3) := by decide +kernel
theorem dX4_isBadPair_84 : decode cX4_isBadPair 84 = .ok (.aload_n 0, 1) := by decide +kernel
theorem dX4_isBadPair_85 : decode cX4_isBadPair 85 = .ok (.getfield 21, 3) := by decide +kernel
theorem dX4_isBadPair_88 : decode cX4_isBadPair 88 = .ok (.iload_n 2, 1) := by decide +kernel
theorem dX4_isBadPair_89 : decode cX4_isBadPair 89 = .ok (.iaload, 1) := by decide +kernel
theorem dX4_isBadPair_90 : decode cX4_isBadPair 90 = .ok (.ifCond .ne 7, 3) := by decide +kernel
theorem dX4_isBadPair_93 : decode cX4_isBadPair 93 = .ok (.iconst 1, 1) := by decide +kernel
theorem dX4_isBadPair_94 : decode cX4_isBadPair 94 = .ok (.goto 4, 3) := by decide +kernel
theorem dX4_isBadPair_97 : decode cX4_isBadPair 97 = .ok (.iconst 0, 1) := by decide +kernel
theorem dX4_isBadPair_98 : decode cX4_isBadPair 98 = .ok (.istore_n 3, 1) := by decide +kernel
theorem dX4_isBadPair_99 : decode cX4_isBadPair 99 = .ok (.iload_n 3, 1) := by decide +kernel
theorem dX4_isBadPair_100 : decode cX4_isBadPair 100 = .ok (.ifCond .eq 22, 3) := by decide +kernel
theorem dX4_isBadPair_103 : decode cX4_isBadPair 103 = .ok (.aload_n 0, 1) := by decide +kernel
theorem dX4_isBadPair_104 : decode cX4_isBadPair 104 = .ok (.getfield 18, 3) := by decide +kernel
theorem dX4_isBadPair_107 : decode cX4_isBadPair 107 = .ok (.iload_n 1, 1) := by decide +kernel
theorem dX4_isBadPair_108 : decode cX4_isBadPair 108 = .ok (.iaload, 1) := by decide +kernel
theorem dX4_isBadPair_109 : decode cX4_isBadPair 109 = .ok (.iconst 1, 1) := by decide +kernel
theorem dX4_isBadPair_110 : decode cX4_isBadPair 110 = .ok (.if_icmp .ne 16, 3) := by decide +kernel
theorem dX4_isBadPair_113 : decode cX4_isBadPair 113 = .ok (.aload_n 0, 1) := by decide +kernel
theorem dX4_isBadPair_114 : decode cX4_isBadPair 114 = .ok (.getfield 24, 3) := by decide +kernel
theorem dX4_isBadPair_117 : decode cX4_isBadPair 117 = .ok (.iload_n 2, 1) := by decide +kernel
theorem dX4_isBadPair_118 : decode cX4_isBadPair 118 = .ok (.iaload, 1) := by decide +kernel
theorem dX4_isBadPair_119 : decode cX4_isBadPair 119 = .ok (.ifCond .eq 7, 3) := by decide +kernel
theorem dX4_isBadPair_122 : decode cX4_isBadPair 122 = .ok (.iconst 1, 1) := by decide +kernel
theorem dX4_isBadPair_123 : decode cX4_isBadPair 123 = .ok (.goto 4, 3) := by decide +kernel
theorem dX4_isBadPair_126 : decode cX4_isBadPair 126 = .ok (.iconst 0, 1) := by decide +kernel
theorem dX4_isBadPair_127 : decode cX4_isBadPair 127 = .ok (.ireturn, 1) := by decide +kernel
theorem dX4_isSignedLoad_0 : decode cX4_isSignedLoad 0 = .ok (.aload_n 0, 1) := by decide +kernel
theorem dX4_isSignedLoad_1 : decode cX4_isSignedLoad 1 = .ok (.getfield 9, 3) := by decide +kernel
theorem dX4_isSignedLoad_4 : decode cX4_isSignedLoad 4 = .ok (.iload_n 1, 1) := by decide +kernel
theorem dX4_isSignedLoad_5 : decode cX4_isSignedLoad 5 = .ok (.iaload, 1) := by decide +kernel
theorem dX4_isSignedLoad_6 : decode cX4_isSignedLoad 6 = .ok (.bipush (-25), 2) := by decide +kernel
theorem dX4_isSignedLoad_8 : decode cX4_isSignedLoad 8 = .ok (.iand, 1) := by decide +kernel
theorem dX4_isSignedLoad_9 : decode cX4_isSignedLoad 9 = .ok (.sipush 129, 3) := by decide +kernel
theorem dX4_isSignedLoad_12 : decode cX4_isSignedLoad 12 = .ok (.if_icmp .ne 7, 3) := by decide +kernel
theorem dX4_isSignedLoad_15 : decode cX4_isSignedLoad 15 = .ok (.iconst 1, 1) := by decide +kernel
theorem dX4_isSignedLoad_16 : decode cX4_isSignedLoad 16 = .ok (.goto 4, 3) := by decide +kernel
theorem dX4_isSignedLoad_19 : decode cX4_isSignedLoad 19 = .ok (.iconst 0, 1) := by decide +kernel
theorem dX4_isSignedLoad_20 : decode cX4_isSignedLoad 20 = .ok (.ireturn, 1) := by decide +kernel
theorem dX4_width_0 : decode cX4_width 0 = .ok (.aload_n 0, 1) := by decide +kernel
theorem dX4_width_1 : decode cX4_width 1 = .ok (.getfield 9, 3) := by decide +kernel
theorem dX4_width_4 : decode cX4_width 4 = .ok (.iload_n 1, 1) := by decide +kernel
theorem dX4_width_5 : decode cX4_width 5 = .ok (.iaload, 1) := by decide +kernel
theorem dX4_width_6 : decode cX4_width 6 = .ok (.bipush 24, 2) := by decide +kernel
theorem dX4_width_8 : decode cX4_width 8 = .ok (.iand, 1) := by decide +kernel
theorem dX4_width_9 : decode cX4_width 9 = .ok (.lookupswitch 41 #[(0, 35), (8, 37), (16, 39)], 35) := by decide +kernel
theorem dX4_width_44 : decode cX4_width 44 = .ok (.iconst 4, 1) := by decide +kernel
theorem dX4_width_45 : decode cX4_width 45 = .ok (.ireturn, 1) := by decide +kernel
theorem dX4_width_46 : decode cX4_width 46 = .ok (.iconst 2, 1) := by decide +kernel
theorem dX4_width_47 : decode cX4_width 47 = .ok (.ireturn, 1) := by decide +kernel
theorem dX4_width_48 : decode cX4_width 48 = .ok (.iconst 1, 1) := by decide +kernel
theorem dX4_width_49 : decode cX4_width 49 = .ok (.ireturn, 1) := by decide +kernel
theorem dX4_width_50 : decode cX4_width 50 = .ok (.bipush 8, 2) := by decide +kernel
theorem dX4_width_52 : decode cX4_width 52 = .ok (.ireturn, 1) := by decide +kernel
theorem dX4_isBadLoad_0 : decode cX4_isBadLoad 0 = .ok (.aload_n 0, 1) := by decide +kernel
theorem dX4_isBadLoad_1 : decode cX4_isBadLoad 1 = .ok (.getfield 9, 3) := by decide +kernel
theorem dX4_isBadLoad_4 : decode cX4_isBadLoad 4 = .ok (.iload_n 1, 1) := by decide +kernel
theorem dX4_isBadLoad_5 : decode cX4_isBadLoad 5 = .ok (.iaload, 1) := by decide +kernel
theorem dX4_isBadLoad_6 : decode cX4_isBadLoad 6 = .ok (.bipush (-25), 2) := by decide +kernel
theorem dX4_isBadLoad_8 : decode cX4_isBadLoad 8 = .ok (.iand, 1) := by decide +kernel
theorem dX4_isBadLoad_9 : decode cX4_isBadLoad 9 = .ok (.bipush 97, 2) := by decide +kernel
theorem dX4_isBadLoad_11 : decode cX4_isBadLoad 11 = .ok (.if_icmp .ne 7, 3) := by decide +kernel
theorem dX4_isBadLoad_14 : decode cX4_isBadLoad 14 = .ok (.iconst 1, 1) := by decide +kernel
theorem dX4_isBadLoad_15 : decode cX4_isBadLoad 15 = .ok (.goto 4, 3) := by decide +kernel
theorem dX4_isBadLoad_18 : decode cX4_isBadLoad 18 = .ok (.iconst 0, 1) := by decide +kernel
theorem dX4_isBadLoad_19 : decode cX4_isBadLoad 19 = .ok (.istore_n 2, 1) := by decide +kernel
theorem dX4_isBadLoad_20 : decode cX4_isBadLoad 20 = .ok (.aload_n 0, 1) := by decide +kernel
theorem dX4_isBadLoad_21 : decode cX4_isBadLoad 21 = .ok (.iload_n 1, 1) := by decide +kernel
theorem dX4_isBadLoad_22 : decode cX4_isBadLoad 22 = .ok (.invokevirtual 57, 3) := by decide +kernel
theorem dX4_isBadLoad_25 : decode cX4_isBadLoad 25 = .ok (.ifCond .eq 17, 3) := by decide +kernel
theorem dX4_isBadLoad_28 : decode cX4_isBadLoad 28 = .ok (.aload_n 0, 1) := by decide +kernel
theorem dX4_isBadLoad_29 : decode cX4_isBadLoad 29 = .ok (.iload_n 1, 1) := by decide +kernel
theorem dX4_isBadLoad_30 : decode cX4_isBadLoad 30 = .ok (.invokevirtual 60, 3) := by decide +kernel
theorem dX4_isBadLoad_33 : decode cX4_isBadLoad 33 = .ok (.bipush 8, 2) := by decide +kernel
theorem dX4_isBadLoad_35 : decode cX4_isBadLoad 35 = .ok (.if_icmp .eq 7, 3) := by decide +kernel
theorem dX4_isBadLoad_38 : decode cX4_isBadLoad 38 = .ok (.iconst 1, 1) := by decide +kernel
theorem dX4_isBadLoad_39 : decode cX4_isBadLoad 39 = .ok (.goto 4, 3) := by decide +kernel
theorem dX4_isBadLoad_42 : decode cX4_isBadLoad 42 = .ok (.iconst 0, 1) := by decide +kernel
theorem dX4_isBadLoad_43 : decode cX4_isBadLoad 43 = .ok (.istore_n 3, 1) := by decide +kernel
theorem dX4_isBadLoad_44 : decode cX4_isBadLoad 44 = .ok (.iload_n 2, 1) := by decide +kernel
theorem dX4_isBadLoad_45 : decode cX4_isBadLoad 45 = .ok (.ifCond .ne 7, 3) := by decide +kernel
theorem dX4_isBadLoad_48 : decode cX4_isBadLoad 48 = .ok (.iload_n 3, 1) := by decide +kernel
theorem dX4_isBadLoad_49 : decode cX4_isBadLoad 49 = .ok (.ifCond .eq 23, 3) := by decide +kernel
theorem dX4_isBadLoad_52 : decode cX4_isBadLoad 52 = .ok (.aload_n 0, 1) := by decide +kernel
theorem dX4_isBadLoad_53 : decode cX4_isBadLoad 53 = .ok (.getfield 24, 3) := by decide +kernel
theorem dX4_isBadLoad_56 : decode cX4_isBadLoad 56 = .ok (.iload_n 1, 1) := by decide +kernel
theorem dX4_isBadLoad_57 : decode cX4_isBadLoad 57 = .ok (.iaload, 1) := by decide +kernel
theorem dX4_isBadLoad_58 : decode cX4_isBadLoad 58 = .ok (.ifCond .ne 14, 3) := by decide +kernel
theorem dX4_isBadLoad_61 : decode cX4_isBadLoad 61 = .ok (.aload_n 0, 1) := by decide +kernel
theorem dX4_isBadLoad_62 : decode cX4_isBadLoad 62 = .ok (.getfield 15, 3) := by decide +kernel
theorem dX4_isBadLoad_65 : decode cX4_isBadLoad 65 = .ok (.iload_n 1, 1) := by decide +kernel
theorem dX4_isBadLoad_66 : decode cX4_isBadLoad 66 = .ok (.iaload, 1) := by decide +kernel
theorem dX4_isBadLoad_67 : decode cX4_isBadLoad 67 = .ok (.bipush 10, 2) := by decide +kernel
theorem dX4_isBadLoad_69 : decode cX4_isBadLoad 69 = .ok (.if_icmp .lt 7, 3) := by decide +kernel
theorem dX4_isBadLoad_72 : decode cX4_isBadLoad 72 = .ok (.iconst 1, 1) := by decide +kernel
theorem dX4_isBadLoad_73 : decode cX4_isBadLoad 73 = .ok (.goto 4, 3) := by decide +kernel
theorem dX4_isBadLoad_76 : decode cX4_isBadLoad 76 = .ok (.iconst 0, 1) := by decide +kernel
theorem dX4_isBadLoad_77 : decode cX4_isBadLoad 77 = .ok (.ireturn, 1) := by decide +kernel
theorem dX4_isBadChange_0 : decode cX4_isBadChange 0 = .ok (.iload_n 0, 1) := by decide +kernel
theorem dX4_isBadChange_1 : decode cX4_isBadChange 1 = .ok (.lookupswitch 93 #[(0, 91), (1, 91), (64, 91), (65, 91), (80, 91), (81, 91), (160, 91), (161, 91), (225, 91), (241, 91)], 91) := by decide +kernel
theorem dX4_isBadChange_92 : decode cX4_isBadChange 92 = .ok (.iconst 0, 1) := by decide +kernel
theorem dX4_isBadChange_93 : decode cX4_isBadChange 93 = .ok (.ireturn, 1) := by decide +kernel
theorem dX4_isBadChange_94 : decode cX4_isBadChange 94 = .ok (.iconst 1, 1) := by decide +kernel
theorem dX4_isBadChange_95 : decode cX4_isBadChange 95 = .ok (.ireturn, 1) := by decide +kernel
theorem dX4_isPlainPut_0 : decode cX4_isPlainPut 0 = .ok (.aload_n 0, 1) := by decide +kernel
theorem dX4_isPlainPut_1 : decode cX4_isPlainPut 1 = .ok (.getfield 9, 3) := by decide +kernel
theorem dX4_isPlainPut_4 : decode cX4_isPlainPut 4 = .ok (.iload_n 1, 1) := by decide +kernel
theorem dX4_isPlainPut_5 : decode cX4_isPlainPut 5 = .ok (.iaload, 1) := by decide +kernel
theorem dX4_isPlainPut_6 : decode cX4_isPlainPut 6 = .ok (.bipush (-25), 2) := by decide +kernel
theorem dX4_isPlainPut_8 : decode cX4_isPlainPut 8 = .ok (.iand, 1) := by decide +kernel
theorem dX4_isPlainPut_9 : decode cX4_isPlainPut 9 = .ok (.bipush 99, 2) := by decide +kernel
theorem dX4_isPlainPut_11 : decode cX4_isPlainPut 11 = .ok (.if_icmp .ne 7, 3) := by decide +kernel
theorem dX4_isPlainPut_14 : decode cX4_isPlainPut 14 = .ok (.iconst 1, 1) := by decide +kernel
theorem dX4_isPlainPut_15 : decode cX4_isPlainPut 15 = .ok (.goto 4, 3) := by decide +kernel
theorem dX4_isPlainPut_18 : decode cX4_isPlainPut 18 = .ok (.iconst 0, 1) := by decide +kernel
theorem dX4_isPlainPut_19 : decode cX4_isPlainPut 19 = .ok (.ireturn, 1) := by decide +kernel
theorem dX4_isBadPut_0 : decode cX4_isBadPut 0 = .ok (.aload_n 0, 1) := by decide +kernel
theorem dX4_isBadPut_1 : decode cX4_isBadPut 1 = .ok (.getfield 9, 3) := by decide +kernel
theorem dX4_isBadPut_4 : decode cX4_isBadPut 4 = .ok (.iload_n 1, 1) := by decide +kernel
theorem dX4_isBadPut_5 : decode cX4_isBadPut 5 = .ok (.iaload, 1) := by decide +kernel
theorem dX4_isBadPut_6 : decode cX4_isBadPut 6 = .ok (.sipush 195, 3) := by decide +kernel
theorem dX4_isBadPut_9 : decode cX4_isBadPut 9 = .ok (.if_icmp .eq 15, 3) := by decide +kernel
theorem dX4_isBadPut_12 : decode cX4_isBadPut 12 = .ok (.aload_n 0, 1) := by decide +kernel
theorem dX4_isBadPut_13 : decode cX4_isBadPut 13 = .ok (.getfield 9, 3) := by decide +kernel
theorem dX4_isBadPut_16 : decode cX4_isBadPut 16 = .ok (.iload_n 1, 1) := by decide +kernel
theorem dX4_isBadPut_17 : decode cX4_isBadPut 17 = .ok (.iaload, 1) := by decide +kernel
theorem dX4_isBadPut_18 : decode cX4_isBadPut 18 = .ok (.sipush 219, 3) := by decide +kernel
theorem dX4_isBadPut_21 : decode cX4_isBadPut 21 = .ok (.if_icmp .ne 13, 3) := by decide +kernel
theorem dX4_isBadPut_24 : decode cX4_isBadPut 24 = .ok (.aload_n 0, 1) := by decide +kernel
theorem dX4_isBadPut_25 : decode cX4_isBadPut 25 = .ok (.getfield 24, 3) := by decide +kernel
theorem dX4_isBadPut_28 : decode cX4_isBadPut 28 = .ok (.iload_n 1, 1) := by decide +kernel
theorem dX4_isBadPut_29 : decode cX4_isBadPut 29 = .ok (.iaload, 1) := by decide +kernel
theorem dX4_isBadPut_30 : decode cX4_isBadPut 30 = .ok (.invokestatic 63, 3) := by decide +kernel
theorem dX4_isBadPut_33 : decode cX4_isBadPut 33 = .ok (.ireturn, 1) := by decide +kernel
theorem dX4_isBadPut_34 : decode cX4_isBadPut 34 = .ok (.aload_n 0, 1) := by decide +kernel
theorem dX4_isBadPut_35 : decode cX4_isBadPut 35 = .ok (.iload_n 1, 1) := by decide +kernel
theorem dX4_isBadPut_36 : decode cX4_isBadPut 36 = .ok (.invokevirtual 66, 3) := by decide +kernel
theorem dX4_isBadPut_39 : decode cX4_isBadPut 39 = .ok (.ifCond .eq 12, 3) := by decide +kernel
theorem dX4_isBadPut_42 : decode cX4_isBadPut 42 = .ok (.aload_n 0, 1) := by decide +kernel
theorem dX4_isBadPut_43 : decode cX4_isBadPut 43 = .ok (.getfield 24, 3) := by decide +kernel
theorem dX4_isBadPut_46 : decode cX4_isBadPut 46 = .ok (.iload_n 1, 1) := by decide +kernel
theorem dX4_isBadPut_47 : decode cX4_isBadPut 47 = .ok (.iaload, 1) := by decide +kernel
theorem dX4_isBadPut_48 : decode cX4_isBadPut 48 = .ok (.ifCond .eq 7, 3) := by decide +kernel
theorem dX4_isBadPut_51 : decode cX4_isBadPut 51 = .ok (.iconst 1, 1) := by decide +kernel
theorem dX4_isBadPut_52 : decode cX4_isBadPut 52 = .ok (.goto 4, 3) := by decide +kernel
theorem dX4_isBadPut_55 : decode cX4_isBadPut 55 = .ok (.iconst 0, 1) := by decide +kernel
theorem dX4_isBadPut_56 : decode cX4_isBadPut 56 = .ok (.ireturn, 1) := by decide +kernel
theorem dX4_code_0 : decode cX4_code 0 = .ok (.aload_n 0, 1) := by decide +kernel
theorem dX4_code_1 : decode cX4_code 1 = .ok (.getfield 9, 3) := by decide +kernel
theorem dX4_code_4 : decode cX4_code 4 = .ok (.iload_n 1, 1) := by decide +kernel
theorem dX4_code_5 : decode cX4_code 5 = .ok (.iaload, 1) := by decide +kernel
theorem dX4_code_6 : decode cX4_code 6 = .ok (.iconst 4, 1) := by decide +kernel
theorem dX4_code_7 : decode cX4_code 7 = .ok (.ishr, 1) := by decide +kernel
theorem dX4_code_8 : decode cX4_code 8 = .ok (.ireturn, 1) := by decide +kernel
theorem dX4_isWide_0 : decode cX4_isWide 0 = .ok (.aload_n 0, 1) := by decide +kernel
theorem dX4_isWide_1 : decode cX4_isWide 1 = .ok (.getfield 9, 3) := by decide +kernel
theorem dX4_isWide_4 : decode cX4_isWide 4 = .ok (.iload_n 1, 1) := by decide +kernel
theorem dX4_isWide_5 : decode cX4_isWide 5 = .ok (.iaload, 1) := by decide +kernel
theorem dX4_isWide_6 : decode cX4_isWide 6 = .ok (.bipush 7, 2) := by decide +kernel
theorem dX4_isWide_8 : decode cX4_isWide 8 = .ok (.iand, 1) := by decide +kernel
theorem dX4_isWide_9 : decode cX4_isWide 9 = .ok (.istore_n 2, 1) := by decide +kernel
theorem dX4_isWide_10 : decode cX4_isWide 10 = .ok (.iload_n 2, 1) := by decide +kernel
theorem dX4_isWide_11 : decode cX4_isWide 11 = .ok (.bipush 7, 2) := by decide +kernel
theorem dX4_isWide_13 : decode cX4_isWide 13 = .ok (.if_icmp .eq 8, 3) := by decide +kernel
theorem dX4_isWide_16 : decode cX4_isWide 16 = .ok (.iload_n 2, 1) := by decide +kernel
theorem dX4_isWide_17 : decode cX4_isWide 17 = .ok (.iconst 5, 1) := by decide +kernel
theorem dX4_isWide_18 : decode cX4_isWide 18 = .ok (.if_icmp .ne 7, 3) := by decide +kernel
theorem dX4_isWide_21 : decode cX4_isWide 21 = .ok (.iconst 1, 1) := by decide +kernel
theorem dX4_isWide_22 : decode cX4_isWide 22 = .ok (.goto 4, 3) := by decide +kernel
theorem dX4_isWide_25 : decode cX4_isWide 25 = .ok (.iconst 0, 1) := by decide +kernel
theorem dX4_isWide_26 : decode cX4_isWide 26 = .ok (.ireturn, 1) := by decide +kernel
theorem dX4_byRegister_0 : decode cX4_byRegister 0 = .ok (.aload_n 0, 1) := by decide +kernel
theorem dX4_byRegister_1 : decode cX4_byRegister 1 = .ok (.getfield 9, 3) := by decide +kernel
theorem dX4_byRegister_4 : decode cX4_byRegister 4 = .ok (.iload_n 1, 1) := by decide +kernel
theorem dX4_byRegister_5 : decode cX4_byRegister 5 = .ok (.iaload, 1) := by decide +kernel
theorem dX4_byRegister_6 : decode cX4_byRegister 6 = .ok (.bipush 8, 2) := by decide +kernel
theorem dX4_byRegister_8 : decode cX4_byRegister 8 = .ok (.iand, 1) := by decide +kernel
theorem dX4_byRegister_9 : decode cX4_byRegister 9 = .ok (.ifCond .eq 7, 3) := by decide +kernel
theorem dX4_byRegister_12 : decode cX4_byRegister 12 = .ok (.iconst 1, 1) := by decide +kernel
theorem dX4_byRegister_13 : decode cX4_byRegister 13 = .ok (.goto 4, 3) := by decide +kernel
theorem dX4_byRegister_16 : decode cX4_byRegister 16 = .ok (.iconst 0, 1) := by decide +kernel
theorem dX4_byRegister_17 : decode cX4_byRegister 17 = .ok (.ireturn, 1) := by decide +kernel
theorem dX4_hasBadX_0 : decode cX4_hasBadX 0 = .ok (.aload_n 0, 1) := by decide +kernel
theorem dX4_hasBadX_1 : decode cX4_hasBadX 1 = .ok (.iload_n 1, 1) := by decide +kernel
theorem dX4_hasBadX_2 : decode cX4_hasBadX 2 = .ok (.invokevirtual 69, 3) := by decide +kernel
theorem dX4_hasBadX_5 : decode cX4_hasBadX 5 = .ok (.ifCond .eq 20, 3) := by decide +kernel
theorem dX4_hasBadX_8 : decode cX4_hasBadX 8 = .ok (.aload_n 0, 1) := by decide +kernel
theorem dX4_hasBadX_9 : decode cX4_hasBadX 9 = .ok (.getfield 24, 3) := by decide +kernel
theorem dX4_hasBadX_12 : decode cX4_hasBadX 12 = .ok (.iload_n 1, 1) := by decide +kernel
theorem dX4_hasBadX_13 : decode cX4_hasBadX 13 = .ok (.iaload, 1) := by decide +kernel
theorem dX4_hasBadX_14 : decode cX4_hasBadX 14 = .ok (.ifCond .eq 7, 3) := by decide +kernel
theorem dX4_hasBadX_17 : decode cX4_hasBadX 17 = .ok (.iconst 1, 1) := by decide +kernel
theorem dX4_hasBadX_18 : decode cX4_hasBadX 18 = .ok (.goto 21, 3) := by decide +kernel
theorem dX4_hasBadX_21 : decode cX4_hasBadX 21 = .ok (.iconst 0, 1) := by decide +kernel
theorem dX4_hasBadX_22 : decode cX4_hasBadX 22 = .ok (.goto 17, 3) := by decide +kernel
theorem dX4_hasBadX_25 : decode cX4_hasBadX 25 = .ok (.aload_n 0, 1) := by decide +kernel
theorem dX4_hasBadX_26 : decode cX4_hasBadX 26 = .ok (.getfield 18, 3) := by decide +kernel
theorem dX4_hasBadX_29 : decode cX4_hasBadX 29 = .ok (.iload_n 1, 1) := by decide +kernel
theorem dX4_hasBadX_30 : decode cX4_hasBadX 30 = .ok (.iaload, 1) := by decide +kernel
theorem dX4_hasBadX_31 : decode cX4_hasBadX 31 = .ok (.ifCond .eq 7, 3) := by decide +kernel
theorem dX4_hasBadX_34 : decode cX4_hasBadX 34 = .ok (.iconst 1, 1) := by decide +kernel
theorem dX4_hasBadX_35 : decode cX4_hasBadX 35 = .ok (.goto 4, 3) := by decide +kernel
theorem dX4_hasBadX_38 : decode cX4_hasBadX 38 = .ok (.iconst 0, 1) := by decide +kernel
theorem dX4_hasBadX_39 : decode cX4_hasBadX 39 = .ok (.ireturn, 1) := by decide +kernel
theorem dX4_hasBadOffset_0 : decode cX4_hasBadOffset 0 = .ok (.aload_n 0, 1) := by decide +kernel
theorem dX4_hasBadOffset_1 : decode cX4_hasBadOffset 1 = .ok (.iload_n 1, 1) := by decide +kernel
theorem dX4_hasBadOffset_2 : decode cX4_hasBadOffset 2 = .ok (.invokevirtual 35, 3) := by decide +kernel
theorem dX4_hasBadOffset_5 : decode cX4_hasBadOffset 5 = .ok (.istore_n 2, 1) := by decide +kernel
theorem dX4_hasBadOffset_6 : decode cX4_hasBadOffset 6 = .ok (.aload_n 0, 1) := by decide +kernel
theorem dX4_hasBadOffset_7 : decode cX4_hasBadOffset 7 = .ok (.getfield 21, 3) := by decide +kernel
theorem dX4_hasBadOffset_10 : decode cX4_hasBadOffset 10 = .ok (.iload_n 1, 1) := by decide +kernel
theorem dX4_hasBadOffset_11 : decode cX4_hasBadOffset 11 = .ok (.iaload, 1) := by decide +kernel
theorem dX4_hasBadOffset_12 : decode cX4_hasBadOffset 12 = .ok (.istore_n 3, 1) := by decide +kernel
theorem dX4_hasBadOffset_13 : decode cX4_hasBadOffset 13 = .ok (.iload_n 3, 1) := by decide +kernel
theorem dX4_hasBadOffset_14 : decode cX4_hasBadOffset 14 = .ok (.ifCond .ne 5, 3) := by decide +kernel
theorem dX4_hasBadOffset_17 : decode cX4_hasBadOffset 17 = .ok (.iconst 0, 1) := by decide +kernel
theorem dX4_hasBadOffset_18 : decode cX4_hasBadOffset 18 = .ok (.ireturn, 1) := by decide +kernel
theorem dX4_hasBadOffset_19 : decode cX4_hasBadOffset 19 = .ok (.iload_n 2, 1) := by decide +kernel
theorem dX4_hasBadOffset_20 : decode cX4_hasBadOffset 20 = .ok (.iconst 3, 1) := by decide +kernel
theorem dX4_hasBadOffset_21 : decode cX4_hasBadOffset 21 = .ok (.if_icmp .eq 9, 3) := by decide +kernel
theorem dX4_hasBadOffset_24 : decode cX4_hasBadOffset 24 = .ok (.iload_n 2, 1) := by decide +kernel
theorem dX4_hasBadOffset_25 : decode cX4_hasBadOffset 25 = .ok (.bipush 9, 2) := by decide +kernel
theorem dX4_hasBadOffset_27 : decode cX4_hasBadOffset 27 = .ok (.if_icmp .ne 14, 3) := by decide +kernel
theorem dX4_hasBadOffset_30 : decode cX4_hasBadOffset 30 = .ok (.iload_n 3, 1) := by decide +kernel
theorem dX4_hasBadOffset_31 : decode cX4_hasBadOffset 31 = .ok (.iconst 1, 1) := by decide +kernel
theorem dX4_hasBadOffset_32 : decode cX4_hasBadOffset 32 = .ok (.if_icmp .eq 7, 3) := by decide +kernel
theorem dX4_hasBadOffset_35 : decode cX4_hasBadOffset 35 = .ok (.iconst 1, 1) := by decide +kernel
theorem dX4_hasBadOffset_36 : decode cX4_hasBadOffset 36 = .ok (.goto 4, 3) := by decide +kernel
theorem dX4_hasBadOffset_39 : decode cX4_hasBadOffset 39 = .ok (.iconst 0, 1) := by decide +kernel
theorem dX4_hasBadOffset_40 : decode cX4_hasBadOffset 40 = .ok (.ireturn, 1) := by decide +kernel
theorem dX4_hasBadOffset_41 : decode cX4_hasBadOffset 41 = .ok (.iload_n 3, 1) := by decide +kernel
theorem dX4_hasBadOffset_42 : decode cX4_hasBadOffset 42 = .ok (.bipush 8, 2) := by decide +kernel
theorem dX4_hasBadOffset_44 : decode cX4_hasBadOffset 44 = .ok (.if_icmp .eq 23, 3) := by decide +kernel
theorem dX4_hasBadOffset_47 : decode cX4_hasBadOffset 47 = .ok (.iload_n 3, 1) := by decide +kernel
theorem dX4_hasBadOffset_48 : decode cX4_hasBadOffset 48 = .ok (.bipush 16, 2) := by decide +kernel
theorem dX4_hasBadOffset_50 : decode cX4_hasBadOffset 50 = .ok (.if_icmp .eq 17, 3) := by decide +kernel
theorem dX4_hasBadOffset_53 : decode cX4_hasBadOffset 53 = .ok (.iload_n 3, 1) := by decide +kernel
theorem dX4_hasBadOffset_54 : decode cX4_hasBadOffset 54 = .ok (.bipush 32, 2) := by decide +kernel
theorem dX4_hasBadOffset_56 : decode cX4_hasBadOffset 56 = .ok (.if_icmp .ne 15, 3) := by decide +kernel
theorem dX4_hasBadOffset_59 : decode cX4_hasBadOffset 59 = .ok (.aload_n 0, 1) := by decide +kernel
theorem dX4_hasBadOffset_60 : decode cX4_hasBadOffset 60 = .ok (.iload_n 1, 1) := by decide +kernel
theorem dX4_hasBadOffset_61 : decode cX4_hasBadOffset 61 = .ok (.invokevirtual 39, 3) := by decide +kernel
theorem dX4_hasBadOffset_64 : decode cX4_hasBadOffset 64 = .ok (.ifCond .eq 7, 3) := by decide +kernel
theorem dX4_hasBadOffset_67 : decode cX4_hasBadOffset 67 = .ok (.iconst 1, 1) := by decide +kernel
theorem dX4_hasBadOffset_68 : decode cX4_hasBadOffset 68 = .ok (.goto 4, 3) := by decide +kernel
theorem dX4_hasBadOffset_71 : decode cX4_hasBadOffset 71 = .ok (.iconst 0, 1) := by decide +kernel
theorem dX4_hasBadOffset_72 : decode cX4_hasBadOffset 72 = .ok (.istore 4, 2) := by decide +kernel
theorem dX4_hasBadOffset_74 : decode cX4_hasBadOffset 74 = .ok (.iload_n 2, 1) := by decide +kernel
theorem dX4_hasBadOffset_75 : decode cX4_hasBadOffset 75 = .ok (.bipush 11, 2) := by decide +kernel
theorem dX4_hasBadOffset_77 : decode cX4_hasBadOffset 77 = .ok (.if_icmp .ne 16, 3) := by decide +kernel
theorem dX4_hasBadOffset_80 : decode cX4_hasBadOffset 80 = .ok (.aload_n 0, 1) := by decide +kernel
theorem dX4_hasBadOffset_81 : decode cX4_hasBadOffset 81 = .ok (.iload_n 1, 1) := by decide +kernel
theorem dX4_hasBadOffset_82 : decode cX4_hasBadOffset 82 = .ok (.invokevirtual 69, 3) := by decide +kernel
theorem dX4_hasBadOffset_85 : decode cX4_hasBadOffset 85 = .ok (.ifCond .eq 8, 3) := by decide +kernel
theorem dX4_hasBadOffset_88 : decode cX4_hasBadOffset 88 = .ok (.iload 4, 2) := by decide +kernel
theorem dX4_hasBadOffset_90 : decode cX4_hasBadOffset 90 = .ok (.ifCond .ne 7, 3) := by decide +kernel
theorem dX4_hasBadOffset_93 : decode cX4_hasBadOffset 93 = .ok (.iconst 1, 1) := by decide +kernel
theorem dX4_hasBadOffset_94 : decode cX4_hasBadOffset 94 = .ok (.goto 4, 3) := by decide +kernel
theorem dX4_hasBadOffset_97 : decode cX4_hasBadOffset 97 = .ok (.iconst 0, 1) := by decide +kernel
theorem dX4_hasBadOffset_98 : decode cX4_hasBadOffset 98 = .ok (.ireturn, 1) := by decide +kernel
theorem dX4_isBadArithmetic_0 : decode cX4_isBadArithmetic 0 = .ok (.aload_n 0, 1) := by decide +kernel
theorem dX4_isBadArithmetic_1 : decode cX4_isBadArithmetic 1 = .ok (.iload_n 1, 1) := by decide +kernel
theorem dX4_isBadArithmetic_2 : decode cX4_isBadArithmetic 2 = .ok (.invokevirtual 35, 3) := by decide +kernel
theorem dX4_isBadArithmetic_5 : decode cX4_isBadArithmetic 5 = .ok (.istore_n 2, 1) := by decide +kernel
theorem dX4_isBadArithmetic_6 : decode cX4_isBadArithmetic 6 = .ok (.aload_n 0, 1) := by decide +kernel
theorem dX4_isBadArithmetic_7 : decode cX4_isBadArithmetic 7 = .ok (.getfield 15, 3) := by decide +kernel
theorem dX4_isBadArithmetic_10 : decode cX4_isBadArithmetic 10 = .ok (.iload_n 1, 1) := by decide +kernel
theorem dX4_isBadArithmetic_11 : decode cX4_isBadArithmetic 11 = .ok (.iaload, 1) := by decide +kernel
theorem dX4_isBadArithmetic_12 : decode cX4_isBadArithmetic 12 = .ok (.bipush 10, 2) := by decide +kernel
theorem dX4_isBadArithmetic_14 : decode cX4_isBadArithmetic 14 = .ok (.if_icmp .ge 9, 3) := by decide +kernel
theorem dX4_isBadArithmetic_17 : decode cX4_isBadArithmetic 17 = .ok (.iload_n 2, 1) := by decide +kernel
theorem dX4_isBadArithmetic_18 : decode cX4_isBadArithmetic 18 = .ok (.bipush 13, 2) := by decide +kernel
theorem dX4_isBadArithmetic_20 : decode cX4_isBadArithmetic 20 = .ok (.if_icmp .le 5, 3) := by decide +kernel
theorem dX4_isBadArithmetic_23 : decode cX4_isBadArithmetic 23 = .ok (.iconst 1, 1) := by decide +kernel
theorem dX4_isBadArithmetic_24 : decode cX4_isBadArithmetic 24 = .ok (.ireturn, 1) := by decide +kernel
theorem dX4_isBadArithmetic_25 : decode cX4_isBadArithmetic 25 = .ok (.iload_n 2, 1) := by decide +kernel
theorem dX4_isBadArithmetic_26 : decode cX4_isBadArithmetic 26 = .ok (.bipush 13, 2) := by decide +kernel
theorem dX4_isBadArithmetic_28 : decode cX4_isBadArithmetic 28 = .ok (.if_icmp .ne 86, 3) := by decide +kernel
theorem dX4_isBadArithmetic_31 : decode cX4_isBadArithmetic 31 = .ok (.aload_n 0, 1) := by decide +kernel
theorem dX4_isBadArithmetic_32 : decode cX4_isBadArithmetic 32 = .ok (.getfield 24, 3) := by decide +kernel
theorem dX4_isBadArithmetic_35 : decode cX4_isBadArithmetic 35 = .ok (.iload_n 1, 1) := by decide +kernel
theorem dX4_isBadArithmetic_36 : decode cX4_isBadArithmetic 36 = .ok (.iaload, 1) := by decide +kernel
theorem dX4_isBadArithmetic_37 : decode cX4_isBadArithmetic 37 = .ok (.bipush 16, 2) := by decide +kernel
theorem dX4_isBadArithmetic_39 : decode cX4_isBadArithmetic 39 = .ok (.if_icmp .eq 25, 3) := by decide +kernel
theorem dX4_isBadArithmetic_42 : decode cX4_isBadArithmetic 42 = .ok (.aload_n 0, 1) := by decide +kernel
theorem dX4_isBadArithmetic_43 : decode cX4_isBadArithmetic 43 = .ok (.getfield 24, 3) := by decide +kernel
theorem dX4_isBadArithmetic_46 : decode cX4_isBadArithmetic 46 = .ok (.iload_n 1, 1) := by decide +kernel
theorem dX4_isBadArithmetic_47 : decode cX4_isBadArithmetic 47 = .ok (.iaload, 1) := by decide +kernel
theorem dX4_isBadArithmetic_48 : decode cX4_isBadArithmetic 48 = .ok (.bipush 32, 2) := by decide +kernel
theorem dX4_isBadArithmetic_50 : decode cX4_isBadArithmetic 50 = .ok (.if_icmp .eq 14, 3) := by decide +kernel
theorem dX4_isBadArithmetic_53 : decode cX4_isBadArithmetic 53 = .ok (.aload_n 0, 1) := by decide +kernel
theorem dX4_isBadArithmetic_54 : decode cX4_isBadArithmetic 54 = .ok (.getfield 24, 3) := by decide +kernel
theorem dX4_isBadArithmetic_57 : decode cX4_isBadArithmetic 57 = .ok (.iload_n 1, 1) := by decide +kernel
theorem dX4_isBadArithmetic_58 : decode cX4_isBadArithmetic 58 = .ok (.iaload, 1) := by decide +kernel
theorem dX4_isBadArithmetic_59 : decode cX4_isBadArithmetic 59 = .ok (.bipush 64, 2) := by decide +kernel
theorem dX4_isBadArithmetic_61 : decode cX4_isBadArithmetic 61 = .ok (.if_icmp .ne 7, 3) := by decide +kernel
theorem dX4_isBadArithmetic_64 : decode cX4_isBadArithmetic 64 = .ok (.iconst 1, 1) := by decide +kernel
theorem dX4_isBadArithmetic_65 : decode cX4_isBadArithmetic 65 = .ok (.goto 4, 3) := by decide +kernel
theorem dX4_isBadArithmetic_68 : decode cX4_isBadArithmetic 68 = .ok (.iconst 0, 1) := by decide +kernel
theorem dX4_isBadArithmetic_69 : decode cX4_isBadArithmetic 69 = .ok (.istore_n 3, 1) := by decide +kernel
theorem dX4_isBadArithmetic_70 : decode cX4_isBadArithmetic 70 = .ok (.iload_n 3, 1) := by decide +kernel
theorem dX4_isBadArithmetic_71 : decode cX4_isBadArithmetic 71 = .ok (.ifCond .eq 37, 3) := by decide +kernel
theorem dX4_isBadArithmetic_74 : decode cX4_isBadArithmetic 74 = .ok (.aload_n 0, 1) := by decide +kernel
theorem dX4_isBadArithmetic_75 : decode cX4_isBadArithmetic 75 = .ok (.getfield 18, 3) := by decide +kernel
theorem dX4_isBadArithmetic_78 : decode cX4_isBadArithmetic 78 = .ok (.iload_n 1, 1) := by decide +kernel
theorem dX4_isBadArithmetic_79 : decode cX4_isBadArithmetic 79 = .ok (.iaload, 1) := by decide +kernel
theorem dX4_isBadArithmetic_80 : decode cX4_isBadArithmetic 80 = .ok (.ifCond .ne 28, 3) := by decide +kernel
theorem dX4_isBadArithmetic_83 : decode cX4_isBadArithmetic 83 = .ok (.aload_n 0, 1) := by decide +kernel
theorem dX4_isBadArithmetic_84 : decode cX4_isBadArithmetic 84 = .ok (.getfield 21, 3) := by decide +kernel
theorem dX4_isBadArithmetic_87 : decode cX4_isBadArithmetic 87 = .ok (.iload_n 1, 1) := by decide +kernel
theorem dX4_isBadArithmetic_88 : decode cX4_isBadArithmetic 88 = .ok (.iaload, 1) := by decide +kernel
theorem dX4_isBadArithmetic_89 : decode cX4_isBadArithmetic 89 = .ok (.ifCond .ne 19, 3) := by decide +kernel
theorem dX4_isBadArithmetic_92 : decode cX4_isBadArithmetic 92 = .ok (.aload_n 0, 1) := by decide +kernel
theorem dX4_isBadArithmetic_93 : decode cX4_isBadArithmetic 93 = .ok (.iload_n 1, 1) := by decide +kernel
theorem dX4_isBadArithmetic_94 : decode cX4_isBadArithmetic 94 = .ok (.invokevirtual 39, 3) := by decide +kernel
theorem dX4_isBadArithmetic_97 : decode cX4_isBadArithmetic 97 = .ok (.ifCond .eq 15, 3) := by decide +kernel
theorem dX4_isBadArithmetic_100 : decode cX4_isBadArithmetic 100 = .ok (.aload_n 0, 1) := by decide +kernel
theorem dX4_isBadArithmetic_101 : decode cX4_isBadArithmetic 101 = .ok (.iload_n 1, 1) := by decide +kernel
theorem dX4_isBadArithmetic_102 : decode cX4_isBadArithmetic 102 = .ok (.invokevirtual 69, 3) := by decide +kernel
theorem dX4_isBadArithmetic_105 : decode cX4_isBadArithmetic 105 = .ok (.ifCond .eq 7, 3) := by decide +kernel
theorem dX4_isBadArithmetic_108 : decode cX4_isBadArithmetic 108 = .ok (.iconst 1, 1) := by decide +kernel
theorem dX4_isBadArithmetic_109 : decode cX4_isBadArithmetic 109 = .ok (.goto 4, 3) := by decide +kernel
theorem dX4_isBadArithmetic_112 : decode cX4_isBadArithmetic 112 = .ok (.iconst 0, 1) := by decide +kernel
theorem dX4_isBadArithmetic_113 : decode cX4_isBadArithmetic 113 = .ok (.ireturn, 1) := by decide +kernel
theorem dX4_isBadArithmetic_114 : decode cX4_isBadArithmetic 114 = .ok (.iload_n 2, 1) := by decide +kernel
theorem dX4_isBadArithmetic_115 : decode cX4_isBadArithmetic 115 = .ok (.bipush 8, 2) := by decide +kernel
theorem dX4_isBadArithmetic_117 : decode cX4_isBadArithmetic 117 = .ok (.if_icmp .ne 22, 3) := by decide +kernel
theorem dX4_isBadArithmetic_120 : decode cX4_isBadArithmetic 120 = .ok (.aload_n 0, 1) := by decide +kernel
theorem dX4_isBadArithmetic_121 : decode cX4_isBadArithmetic 121 = .ok (.iload_n 1, 1) := by decide +kernel
theorem dX4_isBadArithmetic_122 : decode cX4_isBadArithmetic 122 = .ok (.invokevirtual 69, 3) := by decide +kernel
theorem dX4_isBadArithmetic_125 : decode cX4_isBadArithmetic 125 = .ok (.ifCond .ne 12, 3) := by decide +kernel
theorem dX4_isBadArithmetic_128 : decode cX4_isBadArithmetic 128 = .ok (.aload_n 0, 1) := by decide +kernel
theorem dX4_isBadArithmetic_129 : decode cX4_isBadArithmetic 129 = .ok (.getfield 24, 3) := by decide +kernel
theorem dX4_isBadArithmetic_132 : decode cX4_isBadArithmetic 132 = .ok (.iload_n 1, 1) := by decide +kernel
theorem dX4_isBadArithmetic_133 : decode cX4_isBadArithmetic 133 = .ok (.iaload, 1) := by decide +kernel
theorem dX4_isBadArithmetic_134 : decode cX4_isBadArithmetic 134 = .ok (.ifCond .eq 5, 3) := by decide +kernel
theorem dX4_isBadArithmetic_137 : decode cX4_isBadArithmetic 137 = .ok (.iconst 1, 1) := by decide +kernel
theorem dX4_isBadArithmetic_138 : decode cX4_isBadArithmetic 138 = .ok (.ireturn, 1) := by decide +kernel
theorem dX4_isBadArithmetic_139 : decode cX4_isBadArithmetic 139 = .ok (.aload_n 0, 1) := by decide +kernel
theorem dX4_isBadArithmetic_140 : decode cX4_isBadArithmetic 140 = .ok (.iload_n 1, 1) := by decide +kernel
theorem dX4_isBadArithmetic_141 : decode cX4_isBadArithmetic 141 = .ok (.invokevirtual 72, 3) := by decide +kernel
theorem dX4_isBadArithmetic_144 : decode cX4_isBadArithmetic 144 = .ok (.ifCond .ne 11, 3) := by decide +kernel
theorem dX4_isBadArithmetic_147 : decode cX4_isBadArithmetic 147 = .ok (.aload_n 0, 1) := by decide +kernel
theorem dX4_isBadArithmetic_148 : decode cX4_isBadArithmetic 148 = .ok (.iload_n 1, 1) := by decide +kernel
theorem dX4_isBadArithmetic_149 : decode cX4_isBadArithmetic 149 = .ok (.invokevirtual 75, 3) := by decide +kernel
theorem dX4_isBadArithmetic_152 : decode cX4_isBadArithmetic 152 = .ok (.ifCond .eq 7, 3) := by decide +kernel
theorem dX4_isBadArithmetic_155 : decode cX4_isBadArithmetic 155 = .ok (.iconst 1, 1) := by decide +kernel
theorem dX4_isBadArithmetic_156 : decode cX4_isBadArithmetic 156 = .ok (.goto 4, 3) := by decide +kernel
theorem dX4_isBadArithmetic_159 : decode cX4_isBadArithmetic 159 = .ok (.iconst 0, 1) := by decide +kernel
theorem dX4_isBadArithmetic_160 : decode cX4_isBadArithmetic 160 = .ok (.ireturn, 1) := by decide +kernel
theorem dX4_isBadHelper_0 : decode cX4_isBadHelper 0 = .ok (.iload_n 0, 1) := by decide +kernel
theorem dX4_isBadHelper_1 : decode cX4_isBadHelper 1 = .ok (.iconst 1, 1) := by decide +kernel
theorem dX4_isBadHelper_2 : decode cX4_isBadHelper 2 = .ok (.if_icmp .lt 14, 3) := by decide +kernel
theorem dX4_isBadHelper_5 : decode cX4_isBadHelper 5 = .ok (.iload_n 0, 1) := by decide +kernel
theorem dX4_isBadHelper_6 : decode cX4_isBadHelper 6 = .ok (.bipush 6, 2) := by decide +kernel
theorem dX4_isBadHelper_8 : decode cX4_isBadHelper 8 = .ok (.if_icmp .gt 8, 3) := by decide +kernel
theorem dX4_isBadHelper_11 : decode cX4_isBadHelper 11 = .ok (.iload_n 0, 1) := by decide +kernel
theorem dX4_isBadHelper_12 : decode cX4_isBadHelper 12 = .ok (.iconst 4, 1) := by decide +kernel
theorem dX4_isBadHelper_13 : decode cX4_isBadHelper 13 = .ok (.if_icmp .ne 7, 3) := by decide +kernel
theorem dX4_isBadHelper_16 : decode cX4_isBadHelper 16 = .ok (.iconst 1, 1) := by decide +kernel
theorem dX4_isBadHelper_17 : decode cX4_isBadHelper 17 = .ok (.goto 4, 3) := by decide +kernel
theorem dX4_isBadHelper_20 : decode cX4_isBadHelper 20 = .ok (.iconst 0, 1) := by decide +kernel
theorem dX4_isBadHelper_21 : decode cX4_isBadHelper 21 = .ok (.ireturn, 1) := by decide +kernel
theorem dX4_isBadJump_0 : decode cX4_isBadJump 0 = .ok (.aload_n 0, 1) := by decide +kernel
theorem dX4_isBadJump_1 : decode cX4_isBadJump 1 = .ok (.iload_n 1, 1) := by decide +kernel
theorem dX4_isBadJump_2 : decode cX4_isBadJump 2 = .ok (.invokevirtual 35, 3) := by decide +kernel
theorem dX4_isBadJump_5 : decode cX4_isBadJump 5 = .ok (.istore_n 2, 1) := by decide +kernel
theorem dX4_isBadJump_6 : decode cX4_isBadJump 6 = .ok (.iload_n 2, 1) := by decide +kernel
theorem dX4_isBadJump_7 : decode cX4_isBadJump 7 = .ok (.ifCond .eq 35, 3) := by decide +kernel
theorem dX4_isBadJump_10 : decode cX4_isBadJump 10 = .ok (.iload_n 2, 1) := by decide +kernel
theorem dX4_isBadJump_11 : decode cX4_isBadJump 11 = .ok (.bipush 8, 2) := by decide +kernel
theorem dX4_isBadJump_13 : decode cX4_isBadJump 13 = .ok (.if_icmp .eq 29, 3) := by decide +kernel
theorem dX4_isBadJump_16 : decode cX4_isBadJump 16 = .ok (.iload_n 2, 1) := by decide +kernel
theorem dX4_isBadJump_17 : decode cX4_isBadJump 17 = .ok (.bipush 9, 2) := by decide +kernel
theorem dX4_isBadJump_19 : decode cX4_isBadJump 19 = .ok (.if_icmp .eq 23, 3) := by decide +kernel
theorem dX4_isBadJump_22 : decode cX4_isBadJump 22 = .ok (.iload_n 2, 1) := by decide +kernel
theorem dX4_isBadJump_23 : decode cX4_isBadJump 23 = .ok (.bipush 13, 2) := by decide +kernel
theorem dX4_isBadJump_25 : decode cX4_isBadJump 25 = .ok (.if_icmp .gt 11, 3) := by decide +kernel
theorem dX4_isBadJump_28 : decode cX4_isBadJump 28 = .ok (.aload_n 0, 1) := by decide +kernel
theorem dX4_isBadJump_29 : decode cX4_isBadJump 29 = .ok (.iload_n 1, 1) := by decide +kernel
theorem dX4_isBadJump_30 : decode cX4_isBadJump 30 = .ok (.invokevirtual 72, 3) := by decide +kernel
theorem dX4_isBadJump_33 : decode cX4_isBadJump 33 = .ok (.ifCond .eq 7, 3) := by decide +kernel
theorem dX4_isBadJump_36 : decode cX4_isBadJump 36 = .ok (.iconst 1, 1) := by decide +kernel
theorem dX4_isBadJump_37 : decode cX4_isBadJump 37 = .ok (.goto 4, 3) := by decide +kernel
theorem dX4_isBadJump_40 : decode cX4_isBadJump 40 = .ok (.iconst 0, 1) := by decide +kernel
theorem dX4_isBadJump_41 : decode cX4_isBadJump 41 = .ok (.ireturn, 1) := by decide +kernel
theorem dX4_isBadJump_42 : decode cX4_isBadJump 42 = .ok (.aload_n 0, 1) := by decide +kernel
theorem dX4_isBadJump_43 : decode cX4_isBadJump 43 = .ok (.iload_n 1, 1) := by decide +kernel
theorem dX4_isBadJump_44 : decode cX4_isBadJump 44 = .ok (.invokevirtual 69, 3) := by decide +kernel
theorem dX4_isBadJump_47 : decode cX4_isBadJump 47 = .ok (.ifCond .ne 21, 3) := by decide +kernel
theorem dX4_isBadJump_50 : decode cX4_isBadJump 50 = .ok (.aload_n 0, 1) := by decide +kernel
theorem dX4_isBadJump_51 : decode cX4_isBadJump 51 = .ok (.getfield 15, 3) := by decide +kernel
theorem dX4_isBadJump_54 : decode cX4_isBadJump 54 = .ok (.iload_n 1, 1) := by decide +kernel
theorem dX4_isBadJump_55 : decode cX4_isBadJump 55 = .ok (.iaload, 1) := by decide +kernel
theorem dX4_isBadJump_56 : decode cX4_isBadJump 56 = .ok (.ifCond .ne 12, 3) := by decide +kernel
theorem dX4_isBadJump_59 : decode cX4_isBadJump 59 = .ok (.aload_n 0, 1) := by decide +kernel
theorem dX4_isBadJump_60 : decode cX4_isBadJump 60 = .ok (.getfield 18, 3) := by decide +kernel
theorem dX4_isBadJump_63 : decode cX4_isBadJump 63 = .ok (.iload_n 1, 1) := by decide +kernel
theorem dX4_isBadJump_64 : decode cX4_isBadJump 64 = .ok (.iaload, 1) := by decide +kernel
theorem dX4_isBadJump_65 : decode cX4_isBadJump 65 = .ok (.ifCond .eq 5, 3) := by decide +kernel
theorem dX4_isBadJump_68 : decode cX4_isBadJump 68 = .ok (.iconst 1, 1) := by decide +kernel
theorem dX4_isBadJump_69 : decode cX4_isBadJump 69 = .ok (.ireturn, 1) := by decide +kernel
theorem dX4_isBadJump_70 : decode cX4_isBadJump 70 = .ok (.iload_n 2, 1) := by decide +kernel
theorem dX4_isBadJump_71 : decode cX4_isBadJump 71 = .ok (.ifCond .ne 43, 3) := by decide +kernel
theorem dX4_isBadJump_74 : decode cX4_isBadJump 74 = .ok (.aload_n 0, 1) := by decide +kernel
theorem dX4_isBadJump_75 : decode cX4_isBadJump 75 = .ok (.iload_n 1, 1) := by decide +kernel
theorem dX4_isBadJump_76 : decode cX4_isBadJump 76 = .ok (.invokevirtual 39, 3) := by decide +kernel
theorem dX4_isBadJump_79 : decode cX4_isBadJump 79 = .ok (.ifCond .eq 20, 3) := by decide +kernel
theorem dX4_isBadJump_82 : decode cX4_isBadJump 82 = .ok (.aload_n 0, 1) := by decide +kernel
theorem dX4_isBadJump_83 : decode cX4_isBadJump 83 = .ok (.getfield 24, 3) := by decide +kernel
theorem dX4_isBadJump_86 : decode cX4_isBadJump 86 = .ok (.iload_n 1, 1) := by decide +kernel
theorem dX4_isBadJump_87 : decode cX4_isBadJump 87 = .ok (.iaload, 1) := by decide +kernel
theorem dX4_isBadJump_88 : decode cX4_isBadJump 88 = .ok (.ifCond .eq 7, 3) := by decide +kernel
theorem dX4_isBadJump_91 : decode cX4_isBadJump 91 = .ok (.iconst 1, 1) := by decide +kernel
theorem dX4_isBadJump_92 : decode cX4_isBadJump 92 = .ok (.goto 21, 3) := by decide +kernel
theorem dX4_isBadJump_95 : decode cX4_isBadJump 95 = .ok (.iconst 0, 1) := by decide +kernel
theorem dX4_isBadJump_96 : decode cX4_isBadJump 96 = .ok (.goto 17, 3) := by decide +kernel
theorem dX4_isBadJump_99 : decode cX4_isBadJump 99 = .ok (.aload_n 0, 1) := by decide +kernel
theorem dX4_isBadJump_100 : decode cX4_isBadJump 100 = .ok (.getfield 21, 3) := by decide +kernel
theorem dX4_isBadJump_103 : decode cX4_isBadJump 103 = .ok (.iload_n 1, 1) := by decide +kernel
theorem dX4_isBadJump_104 : decode cX4_isBadJump 104 = .ok (.iaload, 1) := by decide +kernel
theorem dX4_isBadJump_105 : decode cX4_isBadJump 105 = .ok (.ifCond .eq 7, 3) := by decide +kernel
theorem dX4_isBadJump_108 : decode cX4_isBadJump 108 = .ok (.iconst 1, 1) := by decide +kernel
theorem dX4_isBadJump_109 : decode cX4_isBadJump 109 = .ok (.goto 4, 3) := by decide +kernel
theorem dX4_isBadJump_112 : decode cX4_isBadJump 112 = .ok (.iconst 0, 1) := by decide +kernel
theorem dX4_isBadJump_113 : decode cX4_isBadJump 113 = .ok (.ireturn, 1) := by decide +kernel
theorem dX4_isBadJump_114 : decode cX4_isBadJump 114 = .ok (.aload_n 0, 1) := by decide +kernel
theorem dX4_isBadJump_115 : decode cX4_isBadJump 115 = .ok (.iload_n 1, 1) := by decide +kernel
theorem dX4_isBadJump_116 : decode cX4_isBadJump 116 = .ok (.invokevirtual 39, 3) := by decide +kernel
theorem dX4_isBadJump_119 : decode cX4_isBadJump 119 = .ok (.ifCond .eq 12, 3) := by decide +kernel
theorem dX4_isBadJump_122 : decode cX4_isBadJump 122 = .ok (.aload_n 0, 1) := by decide +kernel
theorem dX4_isBadJump_123 : decode cX4_isBadJump 123 = .ok (.getfield 21, 3) := by decide +kernel
theorem dX4_isBadJump_126 : decode cX4_isBadJump 126 = .ok (.iload_n 1, 1) := by decide +kernel
theorem dX4_isBadJump_127 : decode cX4_isBadJump 127 = .ok (.iaload, 1) := by decide +kernel
theorem dX4_isBadJump_128 : decode cX4_isBadJump 128 = .ok (.ifCond .eq 5, 3) := by decide +kernel
theorem dX4_isBadJump_131 : decode cX4_isBadJump 131 = .ok (.iconst 1, 1) := by decide +kernel
theorem dX4_isBadJump_132 : decode cX4_isBadJump 132 = .ok (.ireturn, 1) := by decide +kernel
theorem dX4_isBadJump_133 : decode cX4_isBadJump 133 = .ok (.iload_n 2, 1) := by decide +kernel
theorem dX4_isBadJump_134 : decode cX4_isBadJump 134 = .ok (.bipush 8, 2) := by decide +kernel
theorem dX4_isBadJump_136 : decode cX4_isBadJump 136 = .ok (.if_icmp .ne 15, 3) := by decide +kernel
theorem dX4_isBadJump_139 : decode cX4_isBadJump 139 = .ok (.aload_n 0, 1) := by decide +kernel
theorem dX4_isBadJump_140 : decode cX4_isBadJump 140 = .ok (.getfield 24, 3) := by decide +kernel
theorem dX4_isBadJump_143 : decode cX4_isBadJump 143 = .ok (.iload_n 1, 1) := by decide +kernel
theorem dX4_isBadJump_144 : decode cX4_isBadJump 144 = .ok (.iaload, 1) := by decide +kernel
theorem dX4_isBadJump_145 : decode cX4_isBadJump 145 = .ok (.invokestatic 78, 3) := by decide +kernel
theorem dX4_isBadJump_148 : decode cX4_isBadJump 148 = .ok (.goto 17, 3) := by decide +kernel
theorem dX4_isBadJump_151 : decode cX4_isBadJump 151 = .ok (.aload_n 0, 1) := by decide +kernel
theorem dX4_isBadJump_152 : decode cX4_isBadJump 152 = .ok (.getfield 24, 3) := by decide +kernel
theorem dX4_isBadJump_155 : decode cX4_isBadJump 155 = .ok (.iload_n 1, 1) := by decide +kernel
theorem dX4_isBadJump_156 : decode cX4_isBadJump 156 = .ok (.iaload, 1) := by decide +kernel
theorem dX4_isBadJump_157 : decode cX4_isBadJump 157 = .ok (.ifCond .eq 7, 3) := by decide +kernel
theorem dX4_isBadJump_160 : decode cX4_isBadJump 160 = .ok (.iconst 1, 1) := by decide +kernel
theorem dX4_isBadJump_161 : decode cX4_isBadJump 161 = .ok (.goto 4, 3) := by decide +kernel
theorem dX4_isBadJump_164 : decode cX4_isBadJump 164 = .ok (.iconst 0, 1) := by decide +kernel
theorem dX4_isBadJump_165 : decode cX4_isBadJump 165 = .ok (.ireturn, 1) := by decide +kernel
theorem dX4_isBad_0 : decode cX4_isBad 0 = .ok (.aload_n 0, 1) := by decide +kernel
theorem dX4_isBad_1 : decode cX4_isBad 1 = .ok (.iload_n 1, 1) := by decide +kernel
theorem dX4_isBad_2 : decode cX4_isBad 2 = .ok (.invokevirtual 31, 3) := by decide +kernel
theorem dX4_isBad_5 : decode cX4_isBad 5 = .ok (.ifCond .eq 25, 3) := by decide +kernel
theorem dX4_isBad_8 : decode cX4_isBad 8 = .ok (.aload_n 0, 1) := by decide +kernel
theorem dX4_isBad_9 : decode cX4_isBad 9 = .ok (.getfield 15, 3) := by decide +kernel
theorem dX4_isBad_12 : decode cX4_isBad 12 = .ok (.iload_n 1, 1) := by decide +kernel
theorem dX4_isBad_13 : decode cX4_isBad 13 = .ok (.iaload, 1) := by decide +kernel
theorem dX4_isBad_14 : decode cX4_isBad 14 = .ok (.bipush 11, 2) := by decide +kernel
theorem dX4_isBad_16 : decode cX4_isBad 16 = .ok (.if_icmp .ge 14, 3) := by decide +kernel
theorem dX4_isBad_19 : decode cX4_isBad 19 = .ok (.aload_n 0, 1) := by decide +kernel
theorem dX4_isBad_20 : decode cX4_isBad 20 = .ok (.getfield 18, 3) := by decide +kernel
theorem dX4_isBad_23 : decode cX4_isBad 23 = .ok (.iload_n 1, 1) := by decide +kernel
theorem dX4_isBad_24 : decode cX4_isBad 24 = .ok (.iaload, 1) := by decide +kernel
theorem dX4_isBad_25 : decode cX4_isBad 25 = .ok (.bipush 11, 2) := by decide +kernel
theorem dX4_isBad_27 : decode cX4_isBad 27 = .ok (.if_icmp .lt 5, 3) := by decide +kernel
theorem dX4_isBad_30 : decode cX4_isBad 30 = .ok (.iconst 1, 1) := by decide +kernel
theorem dX4_isBad_31 : decode cX4_isBad 31 = .ok (.ireturn, 1) := by decide +kernel
theorem dX4_isBad_32 : decode cX4_isBad 32 = .ok (.aload_n 0, 1) := by decide +kernel
theorem dX4_isBad_33 : decode cX4_isBad 33 = .ok (.getfield 9, 3) := by decide +kernel
theorem dX4_isBad_36 : decode cX4_isBad 36 = .ok (.iload_n 1, 1) := by decide +kernel
theorem dX4_isBad_37 : decode cX4_isBad 37 = .ok (.iaload, 1) := by decide +kernel
theorem dX4_isBad_38 : decode cX4_isBad 38 = .ok (.bipush 7, 2) := by decide +kernel
theorem dX4_isBad_40 : decode cX4_isBad 40 = .ok (.iand, 1) := by decide +kernel
theorem dX4_isBad_41 : decode cX4_isBad 41 = .ok (.tableswitch 100 0 7 #[47, 53, 59, 88, 94, 100, 100, 94], 47) := by decide +kernel
theorem dX4_isBad_88 : decode cX4_isBad 88 = .ok (.aload_n 0, 1) := by decide +kernel
theorem dX4_isBad_89 : decode cX4_isBad 89 = .ok (.iload_n 1, 1) := by decide +kernel
theorem dX4_isBad_90 : decode cX4_isBad 90 = .ok (.invokevirtual 42, 3) := by decide +kernel
theorem dX4_isBad_93 : decode cX4_isBad 93 = .ok (.ireturn, 1) := by decide +kernel
theorem dX4_isBad_94 : decode cX4_isBad 94 = .ok (.aload_n 0, 1) := by decide +kernel
theorem dX4_isBad_95 : decode cX4_isBad 95 = .ok (.iload_n 1, 1) := by decide +kernel
theorem dX4_isBad_96 : decode cX4_isBad 96 = .ok (.invokevirtual 45, 3) := by decide +kernel
theorem dX4_isBad_99 : decode cX4_isBad 99 = .ok (.ireturn, 1) := by decide +kernel
theorem dX4_isBad_100 : decode cX4_isBad 100 = .ok (.aload_n 0, 1) := by decide +kernel
theorem dX4_isBad_101 : decode cX4_isBad 101 = .ok (.getfield 9, 3) := by decide +kernel
theorem dX4_isBad_104 : decode cX4_isBad 104 = .ok (.iload_n 1, 1) := by decide +kernel
theorem dX4_isBad_105 : decode cX4_isBad 105 = .ok (.iaload, 1) := by decide +kernel
theorem dX4_isBad_106 : decode cX4_isBad 106 = .ok (.bipush (-25), 2) := by decide +kernel
theorem dX4_isBad_108 : decode cX4_isBad 108 = .ok (.iand, 1) := by decide +kernel
theorem dX4_isBad_109 : decode cX4_isBad 109 = .ok (.bipush 98, 2) := by decide +kernel
theorem dX4_isBad_111 : decode cX4_isBad 111 = .ok (.if_icmp .ne 12, 3) := by decide +kernel
theorem dX4_isBad_114 : decode cX4_isBad 114 = .ok (.aload_n 0, 1) := by decide +kernel
theorem dX4_isBad_115 : decode cX4_isBad 115 = .ok (.getfield 18, 3) := by decide +kernel
theorem dX4_isBad_118 : decode cX4_isBad 118 = .ok (.iload_n 1, 1) := by decide +kernel
theorem dX4_isBad_119 : decode cX4_isBad 119 = .ok (.iaload, 1) := by decide +kernel
theorem dX4_isBad_120 : decode cX4_isBad 120 = .ok (.ifCond .eq 7, 3) := by decide +kernel
theorem dX4_isBad_123 : decode cX4_isBad 123 = .ok (.iconst 1, 1) := by decide +kernel
theorem dX4_isBad_124 : decode cX4_isBad 124 = .ok (.goto 4, 3) := by decide +kernel
theorem dX4_isBad_127 : decode cX4_isBad 127 = .ok (.iconst 0, 1) := by decide +kernel
theorem dX4_isBad_128 : decode cX4_isBad 128 = .ok (.ireturn, 1) := by decide +kernel
theorem dX4_isBad_129 : decode cX4_isBad 129 = .ok (.aload_n 0, 1) := by decide +kernel
theorem dX4_isBad_130 : decode cX4_isBad 130 = .ok (.iload_n 1, 1) := by decide +kernel
theorem dX4_isBad_131 : decode cX4_isBad 131 = .ok (.invokevirtual 48, 3) := by decide +kernel
theorem dX4_isBad_134 : decode cX4_isBad 134 = .ok (.ireturn, 1) := by decide +kernel
theorem dX4_isBad_135 : decode cX4_isBad 135 = .ok (.aload_n 0, 1) := by decide +kernel
theorem dX4_isBad_136 : decode cX4_isBad 136 = .ok (.iload_n 1, 1) := by decide +kernel
theorem dX4_isBad_137 : decode cX4_isBad 137 = .ok (.invokevirtual 51, 3) := by decide +kernel
theorem dX4_isBad_140 : decode cX4_isBad 140 = .ok (.ireturn, 1) := by decide +kernel
theorem dX4_isBad_141 : decode cX4_isBad 141 = .ok (.aload_n 0, 1) := by decide +kernel
theorem dX4_isBad_142 : decode cX4_isBad 142 = .ok (.iload_n 1, 1) := by decide +kernel
theorem dX4_isBad_143 : decode cX4_isBad 143 = .ok (.invokevirtual 54, 3) := by decide +kernel
theorem dX4_isBad_146 : decode cX4_isBad 146 = .ok (.ireturn, 1) := by decide +kernel
theorem dX4_distance_0 : decode cX4_distance 0 = .ok (.aload_n 0, 1) := by decide +kernel
theorem dX4_distance_1 : decode cX4_distance 1 = .ok (.iload_n 1, 1) := by decide +kernel
theorem dX4_distance_2 : decode cX4_distance 2 = .ok (.invokevirtual 35, 3) := by decide +kernel
theorem dX4_distance_5 : decode cX4_distance 5 = .ok (.ifCond .ne 20, 3) := by decide +kernel
theorem dX4_distance_8 : decode cX4_distance 8 = .ok (.aload_n 0, 1) := by decide +kernel
theorem dX4_distance_9 : decode cX4_distance 9 = .ok (.iload_n 1, 1) := by decide +kernel
theorem dX4_distance_10 : decode cX4_distance 10 = .ok (.invokevirtual 39, 3) := by decide +kernel
theorem dX4_distance_13 : decode cX4_distance 13 = .ok (.ifCond .ne 12, 3) := by decide +kernel
theorem dX4_distance_16 : decode cX4_distance 16 = .ok (.aload_n 0, 1) := by decide +kernel
theorem dX4_distance_17 : decode cX4_distance 17 = .ok (.getfield 24, 3) := by decide +kernel
theorem dX4_distance_20 : decode cX4_distance 20 = .ok (.iload_n 1, 1) := by decide +kernel
theorem dX4_distance_21 : decode cX4_distance 21 = .ok (.iaload, 1) := by decide +kernel
theorem dX4_distance_22 : decode cX4_distance 22 = .ok (.goto 9, 3) := by decide +kernel
theorem dX4_distance_25 : decode cX4_distance 25 = .ok (.aload_n 0, 1) := by decide +kernel
theorem dX4_distance_26 : decode cX4_distance 26 = .ok (.getfield 21, 3) := by decide +kernel
theorem dX4_distance_29 : decode cX4_distance 29 = .ok (.iload_n 1, 1) := by decide +kernel
theorem dX4_distance_30 : decode cX4_distance 30 = .ok (.iaload, 1) := by decide +kernel
theorem dX4_distance_31 : decode cX4_distance 31 = .ok (.ireturn, 1) := by decide +kernel
-- JudgedCode$Program.<init>
def f_X4_init_46 (os0 : Nat) (os1 : Nat) (S : sh) (D : dt) : Option (Unit × sh × dt) := nm (pR D os0 4 (some os1)) fun D31 => some ((), S, D31)
def f_X4_init_37 (o0 : Nat) (os0 : Nat) (os1 : Nat) (S : sh) (D : dt) : Option (Unit × sh × dt) := nm (pR D os0 3 (some os1)) fun D32 => f_X4_init_46 o0 (sN S) (aS S 100 200 200) (aD S D32)
def f_X4_init_28 (o0 : Nat) (os0 : Nat) (os1 : Nat) (S : sh) (D : dt) : Option (Unit × sh × dt) := nm (pR D os0 2 (some os1)) fun D38 => f_X4_init_37 o0 o0 (sN S) (aS S 100 200 200) (aD S D38)
def f_X4_init_19 (o0 : Nat) (os0 : Nat) (os1 : Nat) (S : sh) (D : dt) : Option (Unit × sh × dt) := nm (pR D os0 1 (some os1)) fun D44 => f_X4_init_28 o0 o0 (sN S) (aS S 100 200 200) (aD S D44)
def f_X4_init_10 (o0 : Nat) (os0 : Nat) (os1 : Nat) (S : sh) (D : dt) : Option (Unit × sh × dt) := nm (pR D os0 0 (some os1)) fun D50 => f_X4_init_19 o0 o0 (sN S) (aS S 100 200 200) (aD S D50)
def f_X4_init (o0 : Nat) (S : sh) (D : dt) : Option (Unit × sh × dt) := f_X4_init_10 o0 o0 (sN S) (aS S 100 200 200) (aD S D)
-- JudgedCode$Program.has
def f_X4_has (S : sh) (D : dt) (o0 : Nat) (x1 : Int32) : Option Int32 := if x1 < 0 then (some (0 : Int32)) else (if (gI D o0 5) ≤ x1 then (some (0 : Int32)) else (some (1 : Int32)))
-- JudgedCode$Program.write
def f_X4_write (S : sh) (o0 : Nat) (x1 : Int32) (x2 : Int32) (x3 : Int32) (x4 : Int32) (x5 : Int32) (D : dt) : Option (Unit × dt) := pq (f_X4_has S D o0 x1) fun r35 => if r35 = 0 then (some ((), D)) else (rq (gR D o0 0) fun o37 => ix x1 (sA S o37) <| nm (pI D o37 x1.toNatClampNeg x2) fun D42 => rq (gR D42 o0 1) fun o43 => ix x1 (sA S o43) <| nm (pI D42 o43 x1.toNatClampNeg (x3 &&& (15 : Int32))) fun D48 => rq (gR D48 o0 2) fun o49 => ix x1 (sA S o49) <| nm (pI D48 o49 x1.toNatClampNeg ((x3 >>> ((4 : Int32) &&& 31)) &&& (15 : Int32))) fun D54 => rq (gR D54 o0 3) fun o55 => ix x1 (sA S o55) <| nm (pI D54 o55 x1.toNatClampNeg x4) fun D60 => rq (gR D60 o0 4) fun o61 => ix x1 (sA S o61) <| nm (pI D60 o61 x1.toNatClampNeg x5) fun D66 => some ((), D66))
-- JudgedCode$Program.isBadPair
def f_X4_isBadPair_122 (S : sh) (D : dt) : Option Int32 := some (1 : Int32)
def f_X4_isBadPair_98 (S : sh) (D : dt) (o0 : Nat) (x1 : Int32) (x2 : Int32) (xs0 : Int32) : Option Int32 := if xs0 = 0 then (f_X4_isBadPair_122 S D) else (rq (gR D o0 2) fun o67 => ix x1 (sA S o67) <| if (gI D o67 x1.toNatClampNeg) = (1 : Int32) then (rq (gR D o0 4) fun o73 => ix x2 (sA S o73) <| if (gI D o73 x2.toNatClampNeg) = 0 then (some (0 : Int32)) else (f_X4_isBadPair_122 S D)) else (some (0 : Int32)))
def f_X4_isBadPair_97 (S : sh) (D : dt) (o0 : Nat) (x1 : Int32) (x2 : Int32) : Option Int32 := f_X4_isBadPair_98 S D o0 x1 x2 (0 : Int32)
def f_X4_isBadPair (S : sh) (D : dt) (o0 : Nat) (x1 : Int32) : Option Int32 := rq (gR D o0 0) fun o79 => ix x1 (sA S o79) <| if (gI D o79 x1.toNatClampNeg) = (24 : Int32) then (rq (gR D o0 1) fun o85 => ix x1 (sA S o85) <| if (10 : Int32) ≤ (gI D o85 x1.toNatClampNeg) then (some (1 : Int32)) else (rq (gR D o0 2) fun o91 => ix x1 (sA S o91) <| if (1 : Int32) < (gI D o91 x1.toNatClampNeg) then (some (1 : Int32)) else (rq (gR D o0 3) fun o97 => ix x1 (sA S o97) <| if (gI D o97 x1.toNatClampNeg) = 0 then (nm (x1 + (1 : Int32)) fun y103 => pq (f_X4_has S D o0 y103) fun r105 => if r105 = 0 then (some (0 : Int32)) else (rq (gR D o0 0) fun o107 => ix y103 (sA S o107) <| if (gI D o107 y103.toNatClampNeg) = 0 then (rq (gR D o0 1) fun o113 => ix y103 (sA S o113) <| if (gI D o113 y103.toNatClampNeg) = 0 then (rq (gR D o0 2) fun o119 => ix y103 (sA S o119) <| if (gI D o119 y103.toNatClampNeg) = 0 then (rq (gR D o0 3) fun o125 => ix y103 (sA S o125) <| if (gI D o125 y103.toNatClampNeg) = 0 then (f_X4_isBadPair_98 S D o0 x1 y103 (1 : Int32)) else (f_X4_isBadPair_97 S D o0 x1 y103)) else (f_X4_isBadPair_97 S D o0 x1 y103)) else (f_X4_isBadPair_97 S D o0 x1 y103)) else (f_X4_isBadPair_97 S D o0 x1 y103))) else (some (1 : Int32))))) else (some (1 : Int32))
-- JudgedCode$Program.isSignedLoad
def f_X4_isSignedLoad (S : sh) (D : dt) (o0 : Nat) (x1 : Int32) : Option Int32 := rq (gR D o0 0) fun o7 => ix x1 (sA S o7) <| if ((gI D o7 x1.toNatClampNeg) &&& (-25 : Int32)) = (129 : Int32) then (some (1 : Int32)) else (some (0 : Int32))
-- JudgedCode$Program.width
def f_X4_width (S : sh) (D : dt) (o0 : Nat) (x1 : Int32) : Option Int32 := rq (gR D o0 0) fun o9 => ix x1 (sA S o9) <| if ((gI D o9 x1.toNatClampNeg) &&& (24 : Int32)) = 0 then (some (4 : Int32)) else if ((gI D o9 x1.toNatClampNeg) &&& (24 : Int32)) = 8 then (some (2 : Int32)) else if ((gI D o9 x1.toNatClampNeg) &&& (24 : Int32)) = 16 then (some (1 : Int32)) else (some (8 : Int32))
-- JudgedCode$Program.isBadLoad
def f_X4_isBadLoad_72 (S : sh) (D : dt) : Option Int32 := some (1 : Int32)
def f_X4_isBadLoad_52 (S : sh) (D : dt) (o0 : Nat) (x1 : Int32) : Option Int32 := rq (gR D o0 4) fun o27 => ix x1 (sA S o27) <| if (gI D o27 x1.toNatClampNeg) = 0 then (rq (gR D o0 1) fun o33 => ix x1 (sA S o33) <| if (gI D o33 x1.toNatClampNeg) < (10 : Int32) then (some (0 : Int32)) else (f_X4_isBadLoad_72 S D)) else (f_X4_isBadLoad_72 S D)
def f_X4_isBadLoad_43 (S : sh) (D : dt) (o0 : Nat) (x1 : Int32) (x2 : Int32) (xs0 : Int32) : Option Int32 := if x2 = 0 then (if xs0 = 0 then (f_X4_isBadLoad_72 S D) else (f_X4_isBadLoad_52 S D o0 x1)) else (f_X4_isBadLoad_52 S D o0 x1)
def f_X4_isBadLoad_42 (S : sh) (D : dt) (o0 : Nat) (x1 : Int32) (x2 : Int32) : Option Int32 := f_X4_isBadLoad_43 S D o0 x1 x2 (0 : Int32)
def f_X4_isBadLoad_19 (S : sh) (D : dt) (o0 : Nat) (x1 : Int32) (xs0 : Int32) : Option Int32 := pq (f_X4_isSignedLoad S D o0 x1) fun r42 => if r42 = 0 then (f_X4_isBadLoad_42 S D o0 x1 xs0) else (pq (f_X4_width S D o0 x1) fun r45 => if r45 = (8 : Int32) then (f_X4_isBadLoad_42 S D o0 x1 xs0) else (f_X4_isBadLoad_43 S D o0 x1 xs0 (1 : Int32)))
def f_X4_isBadLoad (S : sh) (D : dt) (o0 : Nat) (x1 : Int32) : Option Int32 := rq (gR D o0 0) fun o47 => ix x1 (sA S o47) <| if ((gI D o47 x1.toNatClampNeg) &&& (-25 : Int32)) = (97 : Int32) then (f_X4_isBadLoad_19 S D o0 x1 (1 : Int32)) else (f_X4_isBadLoad_19 S D o0 x1 (0 : Int32))
-- JudgedCode$Program.isBadChange
def f_X4_isBadChange (x0 : Int32) : Option Int32 := if x0 = 0 then (some (0 : Int32)) else if x0 = 1 then (some (0 : Int32)) else if x0 = 64 then (some (0 : Int32)) else if x0 = 65 then (some (0 : Int32)) else if x0 = 80 then (some (0 : Int32)) else if x0 = 81 then (some (0 : Int32)) else if x0 = 160 then (some (0 : Int32)) else if x0 = 161 then (some (0 : Int32)) else if x0 = 225 then (some (0 : Int32)) else if x0 = 241 then (some (0 : Int32)) else (some (1 : Int32))
-- JudgedCode$Program.isPlainPut
def f_X4_isPlainPut (S : sh) (D : dt) (o0 : Nat) (x1 : Int32) : Option Int32 := rq (gR D o0 0) fun o7 => ix x1 (sA S o7) <| if ((gI D o7 x1.toNatClampNeg) &&& (-25 : Int32)) = (99 : Int32) then (some (1 : Int32)) else (some (0 : Int32))
-- JudgedCode$Program.isBadPut
def f_X4_isBadPut_24 (S : sh) (D : dt) (o0 : Nat) (x1 : Int32) : Option Int32 := rq (gR D o0 4) fun o30 => ix x1 (sA S o30) <| pq (f_X4_isBadChange (gI D o30 x1.toNatClampNeg)) fun r36 => ck (r36 = 0 ∨ r36 = 1) <| some r36
def f_X4_isBadPut_51 (S : sh) (D : dt) : Option Int32 := some (1 : Int32)
def f_X4_isBadPut (S : sh) (D : dt) (o0 : Nat) (x1 : Int32) : Option Int32 := rq (gR D o0 0) fun o38 => ix x1 (sA S o38) <| if (gI D o38 x1.toNatClampNeg) = (195 : Int32) then (f_X4_isBadPut_24 S D o0 x1) else (rq (gR D o0 0) fun o44 => ix x1 (sA S o44) <| if (gI D o44 x1.toNatClampNeg) = (219 : Int32) then (f_X4_isBadPut_24 S D o0 x1) else (pq (f_X4_isPlainPut S D o0 x1) fun r51 => if r51 = 0 then (f_X4_isBadPut_51 S D) else (rq (gR D o0 4) fun o53 => ix x1 (sA S o53) <| if (gI D o53 x1.toNatClampNeg) = 0 then (some (0 : Int32)) else (f_X4_isBadPut_51 S D))))
-- JudgedCode$Program.code
def f_X4_code (S : sh) (D : dt) (o0 : Nat) (x1 : Int32) : Option Int32 := rq (gR D o0 0) fun o6 => ix x1 (sA S o6) <| some ((gI D o6 x1.toNatClampNeg) >>> ((4 : Int32) &&& 31))
-- JudgedCode$Program.isWide
def f_X4_isWide_21 (S : sh) (D : dt) : Option Int32 := some (1 : Int32)
def f_X4_isWide (S : sh) (D : dt) (o0 : Nat) (x1 : Int32) : Option Int32 := rq (gR D o0 0) fun o9 => ix x1 (sA S o9) <| nm ((gI D o9 x1.toNatClampNeg) &&& (7 : Int32)) fun y14 => if y14 = (7 : Int32) then (f_X4_isWide_21 S D) else (if y14 = (5 : Int32) then (f_X4_isWide_21 S D) else (some (0 : Int32)))
-- JudgedCode$Program.byRegister
def f_X4_byRegister (S : sh) (D : dt) (o0 : Nat) (x1 : Int32) : Option Int32 := rq (gR D o0 0) fun o7 => ix x1 (sA S o7) <| if ((gI D o7 x1.toNatClampNeg) &&& (8 : Int32)) = 0 then (some (0 : Int32)) else (some (1 : Int32))
-- JudgedCode$Program.hasBadX
def f_X4_hasBadX (S : sh) (D : dt) (o0 : Nat) (x1 : Int32) : Option Int32 := pq (f_X4_byRegister S D o0 x1) fun r17 => if r17 = 0 then (rq (gR D o0 2) fun o19 => ix x1 (sA S o19) <| if (gI D o19 x1.toNatClampNeg) = 0 then (some (0 : Int32)) else (some (1 : Int32))) else (rq (gR D o0 4) fun o25 => ix x1 (sA S o25) <| if (gI D o25 x1.toNatClampNeg) = 0 then (some (0 : Int32)) else (some (1 : Int32)))
-- JudgedCode$Program.hasBadOffset
def f_X4_hasBadOffset_93 (S : sh) (D : dt) : Option Int32 := some (1 : Int32)
def f_X4_hasBadOffset_72 (S : sh) (D : dt) (o0 : Nat) (x1 : Int32) (x2 : Int32) (xs0 : Int32) : Option Int32 := if x2 = (11 : Int32) then (pq (f_X4_byRegister S D o0 x1) fun r26 => if r26 = 0 then (f_X4_hasBadOffset_93 S D) else (if xs0 = 0 then (f_X4_hasBadOffset_93 S D) else (some (0 : Int32)))) else (f_X4_hasBadOffset_93 S D)
def f_X4_hasBadOffset_67 (S : sh) (D : dt) (o0 : Nat) (x1 : Int32) (x2 : Int32) : Option Int32 := f_X4_hasBadOffset_72 S D o0 x1 x2 (1 : Int32)
def f_X4_hasBadOffset_30 (S : sh) (D : dt) (x3 : Int32) : Option Int32 := if x3 = (1 : Int32) then (some (0 : Int32)) else (some (1 : Int32))
def f_X4_hasBadOffset_71 (S : sh) (D : dt) (o0 : Nat) (x1 : Int32) (x2 : Int32) : Option Int32 := f_X4_hasBadOffset_72 S D o0 x1 x2 (0 : Int32)
def f_X4_hasBadOffset (S : sh) (D : dt) (o0 : Nat) (x1 : Int32) : Option Int32 := pq (f_X4_code S D o0 x1) fun r31 => rq (gR D o0 3) fun o32 => ix x1 (sA S o32) <| nm (gI D o32 x1.toNatClampNeg) fun y37 => if y37 = 0 then (some (0 : Int32)) else (if r31 = (3 : Int32) then (f_X4_hasBadOffset_30 S D y37) else (if r31 = (9 : Int32) then (f_X4_hasBadOffset_30 S D y37) else (if y37 = (8 : Int32) then (f_X4_hasBadOffset_67 S D o0 x1 r31) else (if y37 = (16 : Int32) then (f_X4_hasBadOffset_67 S D o0 x1 r31) else (if y37 = (32 : Int32) then (pq (f_X4_isWide S D o0 x1) fun r45 => if r45 = 0 then (f_X4_hasBadOffset_71 S D o0 x1 r31) else (f_X4_hasBadOffset_67 S D o0 x1 r31)) else (f_X4_hasBadOffset_71 S D o0 x1 r31))))))
-- JudgedCode$Program.isBadArithmetic
def f_X4_isBadArithmetic_108 (S : sh) (D : dt) : Option Int32 := some (1 : Int32)
def f_X4_isBadArithmetic_69 (S : sh) (D : dt) (o0 : Nat) (x1 : Int32) (xs0 : Int32) : Option Int32 := if xs0 = 0 then (f_X4_isBadArithmetic_108 S D) else (rq (gR D o0 2) fun o65 => ix x1 (sA S o65) <| if (gI D o65 x1.toNatClampNeg) = 0 then (rq (gR D o0 3) fun o71 => ix x1 (sA S o71) <| if (gI D o71 x1.toNatClampNeg) = 0 then (pq (f_X4_isWide S D o0 x1) fun r78 => if r78 = 0 then (some (0 : Int32)) else (pq (f_X4_byRegister S D o0 x1) fun r81 => if r81 = 0 then (some (0 : Int32)) else (f_X4_isBadArithmetic_108 S D))) else (f_X4_isBadArithmetic_108 S D)) else (f_X4_isBadArithmetic_108 S D))
def f_X4_isBadArithmetic_64 (S : sh) (D : dt) (o0 : Nat) (x1 : Int32) : Option Int32 := f_X4_isBadArithmetic_69 S D o0 x1 (1 : Int32)
def f_X4_isBadArithmetic_155 (S : sh) (D : dt) : Option Int32 := some (1 : Int32)
def f_X4_isBadArithmetic_139 (S : sh) (D : dt) (o0 : Nat) (x1 : Int32) : Option Int32 := pq (f_X4_hasBadX S D o0 x1) fun r84 => if r84 = 0 then (pq (f_X4_hasBadOffset S D o0 x1) fun r87 => if r87 = 0 then (some (0 : Int32)) else (f_X4_isBadArithmetic_155 S D)) else (f_X4_isBadArithmetic_155 S D)
def f_X4_isBadArithmetic (S : sh) (D : dt) (o0 : Nat) (x1 : Int32) : Option Int32 := pq (f_X4_code S D o0 x1) fun r90 => rq (gR D o0 1) fun o91 => ix x1 (sA S o91) <| if (10 : Int32) ≤ (gI D o91 x1.toNatClampNeg) then (some (1 : Int32)) else (if r90 ≤ (13 : Int32) then (if r90 = (13 : Int32) then (rq (gR D o0 4) fun o109 => ix x1 (sA S o109) <| if (gI D o109 x1.toNatClampNeg) = (16 : Int32) then (f_X4_isBadArithmetic_64 S D o0 x1) else (rq (gR D o0 4) fun o115 => ix x1 (sA S o115) <| if (gI D o115 x1.toNatClampNeg) = (32 : Int32) then (f_X4_isBadArithmetic_64 S D o0 x1) else (rq (gR D o0 4) fun o121 => ix x1 (sA S o121) <| if (gI D o121 x1.toNatClampNeg) = (64 : Int32) then (f_X4_isBadArithmetic_64 S D o0 x1) else (f_X4_isBadArithmetic_69 S D o0 x1 (0 : Int32))))) else (if r90 = (8 : Int32) then (pq (f_X4_byRegister S D o0 x1) fun r101 => if r101 = 0 then (rq (gR D o0 4) fun o103 => ix x1 (sA S o103) <| if (gI D o103 x1.toNatClampNeg) = 0 then (f_X4_isBadArithmetic_139 S D o0 x1) else (some (1 : Int32))) else (some (1 : Int32))) else (f_X4_isBadArithmetic_139 S D o0 x1))) else (some (1 : Int32)))
-- JudgedCode$Program.isBadHelper
def f_X4_isBadHelper_16 : Option Int32 := some (1 : Int32)
def f_X4_isBadHelper (x0 : Int32) : Option Int32 := if x0 < (1 : Int32) then (f_X4_isBadHelper_16) else (if (6 : Int32) < x0 then (f_X4_isBadHelper_16) else (if x0 = (4 : Int32) then (f_X4_isBadHelper_16) else (some (0 : Int32))))
-- JudgedCode$Program.isBadJump
def f_X4_isBadJump_42 (S : sh) (D : dt) (o0 : Nat) (x1 : Int32) (x2 : Int32) : Option Int32 := pq (f_X4_byRegister S D o0 x1) fun r66 => if r66 = 0 then (rq (gR D o0 1) fun o68 => ix x1 (sA S o68) <| if (gI D o68 x1.toNatClampNeg) = 0 then (rq (gR D o0 2) fun o74 => ix x1 (sA S o74) <| if (gI D o74 x1.toNatClampNeg) = 0 then (if x2 = 0 then (pq (f_X4_isWide S D o0 x1) fun r106 => if r106 = 0 then (rq (gR D o0 3) fun o108 => ix x1 (sA S o108) <| if (gI D o108 x1.toNatClampNeg) = 0 then (some (0 : Int32)) else (some (1 : Int32))) else (rq (gR D o0 4) fun o114 => ix x1 (sA S o114) <| if (gI D o114 x1.toNatClampNeg) = 0 then (some (0 : Int32)) else (some (1 : Int32)))) else (pq (f_X4_isWide S D o0 x1) fun r82 => if r82 = 0 then (some (1 : Int32)) else (rq (gR D o0 3) fun o84 => ix x1 (sA S o84) <| if (gI D o84 x1.toNatClampNeg) = 0 then (if x2 = (8 : Int32) then (rq (gR D o0 4) fun o97 => ix x1 (sA S o97) <| pq (f_X4_isBadHelper (gI D o97 x1.toNatClampNeg)) fun r103 => ck (r103 = 0 ∨ r103 = 1) <| some r103) else (rq (gR D o0 4) fun o91 => ix x1 (sA S o91) <| if (gI D o91 x1.toNatClampNeg) = 0 then (some (0 : Int32)) else (some (1 : Int32)))) else (some (1 : Int32))))) else (some (1 : Int32))) else (some (1 : Int32))) else (some (1 : Int32))
def f_X4_isBadJump_36 (S : sh) (D : dt) : Option Int32 := some (1 : Int32)
def f_X4_isBadJump (S : sh) (D : dt) (o0 : Nat) (x1 : Int32) : Option Int32 := pq (f_X4_code S D o0 x1) fun r121 => if r121 = 0 then (f_X4_isBadJump_42 S D o0 x1 r121) else (if r121 = (8 : Int32) then (f_X4_isBadJump_42 S D o0 x1 r121) else (if r121 = (9 : Int32) then (f_X4_isBadJump_42 S D o0 x1 r121) else (if (13 : Int32) < r121 then (f_X4_isBadJump_36 S D) else (pq (f_X4_hasBadX S D o0 x1) fun r127 => if r127 = 0 then (some (0 : Int32)) else (f_X4_isBadJump_36 S D)))))
-- JudgedCode$Program.isBad
def f_X4_isBad_123 (S : sh) (D : dt) : Option Int32 := some (1 : Int32)
def f_X4_isBad_141 (S : sh) (D : dt) (o0 : Nat) (x1 : Int32) : Option Int32 := pq (f_X4_isBadJump S D o0 x1) fun r57 => ck (r57 = 0 ∨ r57 = 1) <| some r57
def f_X4_isBad_135 (S : sh) (D : dt) (o0 : Nat) (x1 : Int32) : Option Int32 := pq (f_X4_isBadArithmetic S D o0 x1) fun r60 => ck (r60 = 0 ∨ r60 = 1) <| some r60
def f_X4_isBad (S : sh) (D : dt) (o0 : Nat) (x1 : Int32) : Option Int32 := pq (f_X4_has S D o0 x1) fun r63 => if r63 = 0 then (some (1 : Int32)) else (rq (gR D o0 1) fun o65 => ix x1 (sA S o65) <| if (11 : Int32) ≤ (gI D o65 x1.toNatClampNeg) then (some (1 : Int32)) else (rq (gR D o0 2) fun o71 => ix x1 (sA S o71) <| if (gI D o71 x1.toNatClampNeg) < (11 : Int32) then (rq (gR D o0 0) fun o77 => ix x1 (sA S o77) <| if ((gI D o77 x1.toNatClampNeg) &&& (7 : Int32)) = 0 then (pq (f_X4_isBadPair S D o0 x1) fun r84 => ck (r84 = 0 ∨ r84 = 1) <| some r84) else if ((gI D o77 x1.toNatClampNeg) &&& (7 : Int32)) = 1 then (pq (f_X4_isBadLoad S D o0 x1) fun r88 => ck (r88 = 0 ∨ r88 = 1) <| some r88) else if ((gI D o77 x1.toNatClampNeg) &&& (7 : Int32)) = 2 then (rq (gR D o0 0) fun o91 => ix x1 (sA S o91) <| if ((gI D o91 x1.toNatClampNeg) &&& (-25 : Int32)) = (98 : Int32) then (rq (gR D o0 2) fun o97 => ix x1 (sA S o97) <| if (gI D o97 x1.toNatClampNeg) = 0 then (some (0 : Int32)) else (f_X4_isBad_123 S D)) else (f_X4_isBad_123 S D)) else if ((gI D o77 x1.toNatClampNeg) &&& (7 : Int32)) = 3 then (pq (f_X4_isBadPut S D o0 x1) fun r105 => ck (r105 = 0 ∨ r105 = 1) <| some r105) else if ((gI D o77 x1.toNatClampNeg) &&& (7 : Int32)) = 4 then (f_X4_isBad_135 S D o0 x1) else if ((gI D o77 x1.toNatClampNeg) &&& (7 : Int32)) = 5 then (f_X4_isBad_141 S D o0 x1) else if ((gI D o77 x1.toNatClampNeg) &&& (7 : Int32)) = 6 then (f_X4_isBad_141 S D o0 x1) else if ((gI D o77 x1.toNatClampNeg) &&& (7 : Int32)) = 7 then (f_X4_isBad_135 S D o0 x1) else (f_X4_isBad_141 S D o0 x1)) else (some (1 : Int32))))
-- JudgedCode$Program.distance
def f_X4_distance_25 (S : sh) (D : dt) (o0 : Nat) (x1 : Int32) : Option Int32 := rq (gR D o0 3) fun o17 => ix x1 (sA S o17) <| some (gI D o17 x1.toNatClampNeg)
def f_X4_distance (S : sh) (D : dt) (o0 : Nat) (x1 : Int32) : Option Int32 := pq (f_X4_code S D o0 x1) fun r23 => if r23 = 0 then (pq (f_X4_isWide S D o0 x1) fun r26 => if r26 = 0 then (rq (gR D o0 4) fun o28 => ix x1 (sA S o28) <| some (gI D o28 x1.toNatClampNeg)) else (f_X4_distance_25 S D o0 x1)) else (f_X4_distance_25 S D o0 x1)
theorem mk_X4_init : MkI yX4_init cX4_init 1 0 := ⟨⟨lk_138, lk_115, (tb_in (i := 139) (by decide +kernel) (by decide +kernel))⟩, rfl, by decide +kernel⟩
theorem mk_X4_has : MkV yX4_has RX4 cX4_has 2 (some .boolean) 1 := ⟨⟨lk_380, lk_381, lk_115, (tb_in (i := 382) (by decide +kernel) (by decide +kernel))⟩, by decide +kernel⟩
theorem mk_X4_write : MkV yX4_write RX4 cX4_write 6 none 5 := ⟨⟨lk_376, lk_377, lk_115, (tb_in (i := 378) (by decide +kernel) (by decide +kernel))⟩, by decide +kernel⟩
theorem mk_X4_isBadPair : MkV yX4_isBadPair RX4 cX4_isBadPair 4 (some .boolean) 1 := ⟨⟨lk_504, lk_3, lk_115, (tb_in (i := 505) (by decide +kernel) (by decide +kernel))⟩, by decide +kernel⟩
theorem mk_X4_isSignedLoad : MkV yX4_isSignedLoad RX4 cX4_isSignedLoad 2 (some .boolean) 1 := ⟨⟨lk_511, lk_512, lk_115, (tb_in (i := 513) (by decide +kernel) (by decide +kernel))⟩, by decide +kernel⟩
theorem mk_X4_width : MkV yX4_width RX4 cX4_width 2 (some .int) 1 := ⟨⟨lk_515, lk_516, lk_115, (tb_in (i := 517) (by decide +kernel) (by decide +kernel))⟩, by decide +kernel⟩
theorem mk_X4_isBadLoad : MkV yX4_isBadLoad RX4 cX4_isBadLoad 4 (some .boolean) 1 := ⟨⟨lk_508, lk_4, lk_115, (tb_in (i := 509) (by decide +kernel) (by decide +kernel))⟩, by decide +kernel⟩
theorem mk_X4_isBadChange : MkS yX4_isBadChange cX4_isBadChange 1 (some .boolean) 1 := ⟨⟨lk_523, lk_115, (tb_in (i := 524) (by decide +kernel) (by decide +kernel))⟩, by decide +kernel⟩
theorem mk_X4_isPlainPut : MkV yX4_isPlainPut RX4 cX4_isPlainPut 2 (some .boolean) 1 := ⟨⟨lk_526, lk_527, lk_115, (tb_in (i := 528) (by decide +kernel) (by decide +kernel))⟩, by decide +kernel⟩
theorem mk_X4_isBadPut : MkV yX4_isBadPut RX4 cX4_isBadPut 2 (some .boolean) 1 := ⟨⟨lk_520, lk_5, lk_115, (tb_in (i := 521) (by decide +kernel) (by decide +kernel))⟩, by decide +kernel⟩
theorem mk_X4_code : MkV yX4_code RX4 cX4_code 2 (some .int) 1 := ⟨⟨lk_534, lk_535, lk_115, (tb_in (i := 536) (by decide +kernel) (by decide +kernel))⟩, by decide +kernel⟩
theorem mk_X4_isWide : MkV yX4_isWide RX4 cX4_isWide 3 (some .boolean) 1 := ⟨⟨lk_538, lk_539, lk_115, (tb_in (i := 540) (by decide +kernel) (by decide +kernel))⟩, by decide +kernel⟩
theorem mk_X4_byRegister : MkV yX4_byRegister RX4 cX4_byRegister 2 (some .boolean) 1 := ⟨⟨lk_542, lk_543, lk_115, (tb_in (i := 544) (by decide +kernel) (by decide +kernel))⟩, by decide +kernel⟩
theorem mk_X4_hasBadX : MkV yX4_hasBadX RX4 cX4_hasBadX 2 (some .boolean) 1 := ⟨⟨lk_547, lk_7, lk_115, (tb_in (i := 548) (by decide +kernel) (by decide +kernel))⟩, by decide +kernel⟩
theorem mk_X4_hasBadOffset : MkV yX4_hasBadOffset RX4 cX4_hasBadOffset 5 (some .boolean) 1 := ⟨⟨lk_551, lk_8, lk_115, (tb_in (i := 552) (by decide +kernel) (by decide +kernel))⟩, by decide +kernel⟩
theorem mk_X4_isBadArithmetic : MkV yX4_isBadArithmetic RX4 cX4_isBadArithmetic 4 (some .boolean) 1 := ⟨⟨lk_531, lk_6, lk_115, (tb_in (i := 532) (by decide +kernel) (by decide +kernel))⟩, by decide +kernel⟩
theorem mk_X4_isBadHelper : MkS yX4_isBadHelper cX4_isBadHelper 1 (some .boolean) 1 := ⟨⟨lk_558, lk_115, (tb_in (i := 559) (by decide +kernel) (by decide +kernel))⟩, by decide +kernel⟩
theorem mk_X4_isBadJump : MkV yX4_isBadJump RX4 cX4_isBadJump 3 (some .boolean) 1 := ⟨⟨lk_555, lk_9, lk_115, (tb_in (i := 556) (by decide +kernel) (by decide +kernel))⟩, by decide +kernel⟩
theorem mk_X4_isBad : MkV yX4_isBad RX4 cX4_isBad 2 (some .boolean) 1 := ⟨⟨lk_499, lk_500, lk_115, (tb_in (i := 501) (by decide +kernel) (by decide +kernel))⟩, by decide +kernel⟩
theorem mk_X4_distance : MkV yX4_distance RX4 cX4_distance 2 (some .int) 1 := ⟨⟨lk_785, lk_786, lk_115, (tb_in (i := 787) (by decide +kernel) (by decide +kernel))⟩, by decide +kernel⟩
section
variable {p : Program} {l : Launch} {e : Env} {R : Room} {s : State} {m : MethodId} {args : Array Value} {below : List Frame} {meth : Method} {c : Code} {H : Heap} {locs : List Loc} {G : va_G} {cA : Nat → ClassId} {S : sh} {D : dt} {ad : Nat → Nat} {A : Nat → Prop}
theorem mn_X4_init_46 {r : Unit} {S' : sh} {D' : dt} {os0 : Nat} {os1 : Nat} {S : sh} {D : dt} (h : f_X4_init_46 os0 os1 S D = some (r, S', D')) : Ext S S' := by
  unfold f_X4_init_46 at h
  have h := nm_i h _ rfl
  cases h
  exact Ext.rf _
set_option maxHeartbeats 4000000 in
set_option maxRecDepth 100000 in
theorem w_X4_init_46 {r : Unit} {S' : sh} {D' : dt} {S0 : sh} {ad0 : Nat → Nat} (hC : Cx RX4 cX4_init 1 none p s m args meth c) (hin : meth.name = "<init>") (hR : 1 ≤ R.frames ∧ 20 ≤ R.locals) (ho : R.cells = sN S' - sN S0 ∧ R.slots = sZ S' - sZ S0) : ∀ (os0 as0 : Nat) (os1 as1 : Nat) (S : sh) (D : dt) (ad : Nat → Nat) (H : Heap) (locs : List Loc) (ls : Array Slot) (cells slots : Nat), Is S ad os0 as0 3 → Is S ad os1 as1 100 → Wd G cA S D ad A s H locs → Al S0 ad0 S ad cells slots → lv_has ls 1 [] → f_X4_init_46 os0 os1 S D = some (r, S', D') → W p l e R s m args below meth c H locs cells slots (MQ below (Qa (fun _ => none) (fun ad' => (∀ k, k < sN S0 → ad' k = ad0 k) ∧ True) (fun ad' => wpost G cA S' D' ad' A) A) args s (sN S' - sN S0) (sZ S' - sZ S0) A) (F0 m 46 ls [.ref as1, .ref as0]) := by
  obtain ⟨hx, hb, -⟩ := id hC
  intro os0 as0 os1 as1 S D ad H locs ls cells slots his0 his1 hw hc hl h
  have hE : Ext S S' := mn_X4_init_46  h
  unfold f_X4_init_46 at h
  refine r_pRF hC hin hw kc_3 his0 4 rfl lk_153 rfl rfl rfl rfl rfl his1 dX4_init_46 (fun D31 eD31 H locs hw => ?_)
  have h := nm_i h D31 eD31
  cases h
  exact r_vretA hC hw hc dX4_init_49
theorem mn_X4_init_37 {r : Unit} {S' : sh} {D' : dt} {o0 : Nat} {os0 : Nat} {os1 : Nat} {S : sh} {D : dt} (h : f_X4_init_37 o0 os0 os1 S D = some (r, S', D')) : Ext S S' := by
  unfold f_X4_init_37 at h
  have h := nm_i h _ rfl
  have hA := (Ext.aS S 100 200 200)
  exact hA.tr (mn_X4_init_46 h)
set_option maxHeartbeats 4000000 in
set_option maxRecDepth 100000 in
theorem w_X4_init_37 {r : Unit} {S' : sh} {D' : dt} {S0 : sh} {ad0 : Nat → Nat} (hC : Cx RX4 cX4_init 1 none p s m args meth c) (hin : meth.name = "<init>") (hR : 1 ≤ R.frames ∧ 20 ≤ R.locals) (ho : R.cells = sN S' - sN S0 ∧ R.slots = sZ S' - sZ S0) : ∀ (o0 a0 : Nat) (os0 as0 : Nat) (os1 as1 : Nat) (S : sh) (D : dt) (ad : Nat → Nat) (H : Heap) (locs : List Loc) (ls : Array Slot) (cells slots : Nat), Is S ad o0 a0 3 → Is S ad os0 as0 3 → Is S ad os1 as1 100 → Wd G cA S D ad A s H locs → Al S0 ad0 S ad cells slots → lv_has ls 1 [(0, .ref a0)] → f_X4_init_37 o0 os0 os1 S D = some (r, S', D') → W p l e R s m args below meth c H locs cells slots (MQ below (Qa (fun _ => none) (fun ad' => (∀ k, k < sN S0 → ad' k = ad0 k) ∧ True) (fun ad' => wpost G cA S' D' ad' A) A) args s (sN S' - sN S0) (sZ S' - sZ S0) A) (F0 m 37 ls [.ref as1, .ref as0]) := by
  obtain ⟨hx, hb, -⟩ := id hC
  intro o0 a0 os0 as0 os1 as1 S D ad H locs ls cells slots hi0 his0 his1 hw hc hl h
  have hE : Ext S S' := mn_X4_init_37  h
  unfold f_X4_init_37 at h
  refine r_pRF hC hin hw kc_3 his0 3 rfl lk_150 rfl rfl rfl rfl rfl his1 dX4_init_37 (fun D32 eD32 H locs hw => ?_)
  have h := nm_i h D32 eD32
  refine lv_aload_n hx hb dX4_init_40 rfl (lv_at hl 0 rfl) ?_
  refine lv_sipush (v := 200) hx hb dX4_init_41 (by decide) ?_
  have hE35 := mn_X4_init_46 h
  refine r_newI hC hw lk_172 (by decide) (by decide) (by decide) (hc.room ho hE35).1 (hc.room ho hE35).2 dX4_init_44 (fun q33 H hw hi34 => ?_)
  have hi36 := Is.up hi0 (Ext.aS S 100 200 200) (up_lt (q := q33))
  have hc := hc.new 100 200 200 q33
  exact w_X4_init_46 hC hin hR ho o0 a0 (sN S) q33 _ _ _ _ _ _ _ _ hi36 hi34 hw hc (lv_sub hl [] rfl) h --j37
theorem mn_X4_init_28 {r : Unit} {S' : sh} {D' : dt} {o0 : Nat} {os0 : Nat} {os1 : Nat} {S : sh} {D : dt} (h : f_X4_init_28 o0 os0 os1 S D = some (r, S', D')) : Ext S S' := by
  unfold f_X4_init_28 at h
  have h := nm_i h _ rfl
  have hA := (Ext.aS S 100 200 200)
  exact hA.tr (mn_X4_init_37 h)
set_option maxHeartbeats 4000000 in
set_option maxRecDepth 100000 in
theorem w_X4_init_28 {r : Unit} {S' : sh} {D' : dt} {S0 : sh} {ad0 : Nat → Nat} (hC : Cx RX4 cX4_init 1 none p s m args meth c) (hin : meth.name = "<init>") (hR : 1 ≤ R.frames ∧ 20 ≤ R.locals) (ho : R.cells = sN S' - sN S0 ∧ R.slots = sZ S' - sZ S0) : ∀ (o0 a0 : Nat) (os0 as0 : Nat) (os1 as1 : Nat) (S : sh) (D : dt) (ad : Nat → Nat) (H : Heap) (locs : List Loc) (ls : Array Slot) (cells slots : Nat), Is S ad o0 a0 3 → Is S ad os0 as0 3 → Is S ad os1 as1 100 → Wd G cA S D ad A s H locs → Al S0 ad0 S ad cells slots → lv_has ls 1 [(0, .ref a0)] → f_X4_init_28 o0 os0 os1 S D = some (r, S', D') → W p l e R s m args below meth c H locs cells slots (MQ below (Qa (fun _ => none) (fun ad' => (∀ k, k < sN S0 → ad' k = ad0 k) ∧ True) (fun ad' => wpost G cA S' D' ad' A) A) args s (sN S' - sN S0) (sZ S' - sZ S0) A) (F0 m 28 ls [.ref as1, .ref as0]) := by
  obtain ⟨hx, hb, -⟩ := id hC
  intro o0 a0 os0 as0 os1 as1 S D ad H locs ls cells slots hi0 his0 his1 hw hc hl h
  have hE : Ext S S' := mn_X4_init_28  h
  unfold f_X4_init_28 at h
  refine r_pRF hC hin hw kc_3 his0 2 rfl lk_147 rfl rfl rfl rfl rfl his1 dX4_init_28 (fun D38 eD38 H locs hw => ?_)
  have h := nm_i h D38 eD38
  refine lv_aload_n hx hb dX4_init_31 rfl (lv_at hl 0 rfl) ?_
  refine lv_sipush (v := 200) hx hb dX4_init_32 (by decide) ?_
  have hE41 := mn_X4_init_37 h
  refine r_newI hC hw lk_172 (by decide) (by decide) (by decide) (hc.room ho hE41).1 (hc.room ho hE41).2 dX4_init_35 (fun q39 H hw hi40 => ?_)
  have hi42 := Is.up hi0 (Ext.aS S 100 200 200) (up_lt (q := q39))
  have hc := hc.new 100 200 200 q39
  exact w_X4_init_37 hC hin hR ho o0 a0 o0 a0 (sN S) q39 _ _ _ _ _ _ _ _ hi42 hi42 hi40 hw hc (lv_sub hl [0] rfl) h --j43
theorem mn_X4_init_19 {r : Unit} {S' : sh} {D' : dt} {o0 : Nat} {os0 : Nat} {os1 : Nat} {S : sh} {D : dt} (h : f_X4_init_19 o0 os0 os1 S D = some (r, S', D')) : Ext S S' := by
  unfold f_X4_init_19 at h
  have h := nm_i h _ rfl
  have hA := (Ext.aS S 100 200 200)
  exact hA.tr (mn_X4_init_28 h)
set_option maxHeartbeats 4000000 in
set_option maxRecDepth 100000 in
theorem w_X4_init_19 {r : Unit} {S' : sh} {D' : dt} {S0 : sh} {ad0 : Nat → Nat} (hC : Cx RX4 cX4_init 1 none p s m args meth c) (hin : meth.name = "<init>") (hR : 1 ≤ R.frames ∧ 20 ≤ R.locals) (ho : R.cells = sN S' - sN S0 ∧ R.slots = sZ S' - sZ S0) : ∀ (o0 a0 : Nat) (os0 as0 : Nat) (os1 as1 : Nat) (S : sh) (D : dt) (ad : Nat → Nat) (H : Heap) (locs : List Loc) (ls : Array Slot) (cells slots : Nat), Is S ad o0 a0 3 → Is S ad os0 as0 3 → Is S ad os1 as1 100 → Wd G cA S D ad A s H locs → Al S0 ad0 S ad cells slots → lv_has ls 1 [(0, .ref a0)] → f_X4_init_19 o0 os0 os1 S D = some (r, S', D') → W p l e R s m args below meth c H locs cells slots (MQ below (Qa (fun _ => none) (fun ad' => (∀ k, k < sN S0 → ad' k = ad0 k) ∧ True) (fun ad' => wpost G cA S' D' ad' A) A) args s (sN S' - sN S0) (sZ S' - sZ S0) A) (F0 m 19 ls [.ref as1, .ref as0]) := by
  obtain ⟨hx, hb, -⟩ := id hC
  intro o0 a0 os0 as0 os1 as1 S D ad H locs ls cells slots hi0 his0 his1 hw hc hl h
  have hE : Ext S S' := mn_X4_init_19  h
  unfold f_X4_init_19 at h
  refine r_pRF hC hin hw kc_3 his0 1 rfl lk_144 rfl rfl rfl rfl rfl his1 dX4_init_19 (fun D44 eD44 H locs hw => ?_)
  have h := nm_i h D44 eD44
  refine lv_aload_n hx hb dX4_init_22 rfl (lv_at hl 0 rfl) ?_
  refine lv_sipush (v := 200) hx hb dX4_init_23 (by decide) ?_
  have hE47 := mn_X4_init_28 h
  refine r_newI hC hw lk_172 (by decide) (by decide) (by decide) (hc.room ho hE47).1 (hc.room ho hE47).2 dX4_init_26 (fun q45 H hw hi46 => ?_)
  have hi48 := Is.up hi0 (Ext.aS S 100 200 200) (up_lt (q := q45))
  have hc := hc.new 100 200 200 q45
  exact w_X4_init_28 hC hin hR ho o0 a0 o0 a0 (sN S) q45 _ _ _ _ _ _ _ _ hi48 hi48 hi46 hw hc (lv_sub hl [0] rfl) h --j49
theorem mn_X4_init_10 {r : Unit} {S' : sh} {D' : dt} {o0 : Nat} {os0 : Nat} {os1 : Nat} {S : sh} {D : dt} (h : f_X4_init_10 o0 os0 os1 S D = some (r, S', D')) : Ext S S' := by
  unfold f_X4_init_10 at h
  have h := nm_i h _ rfl
  have hA := (Ext.aS S 100 200 200)
  exact hA.tr (mn_X4_init_19 h)
set_option maxHeartbeats 4000000 in
set_option maxRecDepth 100000 in
theorem w_X4_init_10 {r : Unit} {S' : sh} {D' : dt} {S0 : sh} {ad0 : Nat → Nat} (hC : Cx RX4 cX4_init 1 none p s m args meth c) (hin : meth.name = "<init>") (hR : 1 ≤ R.frames ∧ 20 ≤ R.locals) (ho : R.cells = sN S' - sN S0 ∧ R.slots = sZ S' - sZ S0) : ∀ (o0 a0 : Nat) (os0 as0 : Nat) (os1 as1 : Nat) (S : sh) (D : dt) (ad : Nat → Nat) (H : Heap) (locs : List Loc) (ls : Array Slot) (cells slots : Nat), Is S ad o0 a0 3 → Is S ad os0 as0 3 → Is S ad os1 as1 100 → Wd G cA S D ad A s H locs → Al S0 ad0 S ad cells slots → lv_has ls 1 [(0, .ref a0)] → f_X4_init_10 o0 os0 os1 S D = some (r, S', D') → W p l e R s m args below meth c H locs cells slots (MQ below (Qa (fun _ => none) (fun ad' => (∀ k, k < sN S0 → ad' k = ad0 k) ∧ True) (fun ad' => wpost G cA S' D' ad' A) A) args s (sN S' - sN S0) (sZ S' - sZ S0) A) (F0 m 10 ls [.ref as1, .ref as0]) := by
  obtain ⟨hx, hb, -⟩ := id hC
  intro o0 a0 os0 as0 os1 as1 S D ad H locs ls cells slots hi0 his0 his1 hw hc hl h
  have hE : Ext S S' := mn_X4_init_10  h
  unfold f_X4_init_10 at h
  refine r_pRF hC hin hw kc_3 his0 0 rfl lk_141 rfl rfl rfl rfl rfl his1 dX4_init_10 (fun D50 eD50 H locs hw => ?_)
  have h := nm_i h D50 eD50
  refine lv_aload_n hx hb dX4_init_13 rfl (lv_at hl 0 rfl) ?_
  refine lv_sipush (v := 200) hx hb dX4_init_14 (by decide) ?_
  have hE53 := mn_X4_init_19 h
  refine r_newI hC hw lk_172 (by decide) (by decide) (by decide) (hc.room ho hE53).1 (hc.room ho hE53).2 dX4_init_17 (fun q51 H hw hi52 => ?_)
  have hi54 := Is.up hi0 (Ext.aS S 100 200 200) (up_lt (q := q51))
  have hc := hc.new 100 200 200 q51
  exact w_X4_init_19 hC hin hR ho o0 a0 o0 a0 (sN S) q51 _ _ _ _ _ _ _ _ hi54 hi54 hi52 hw hc (lv_sub hl [0] rfl) h --j55
theorem mn_X4_init_0 {r : Unit} {S' : sh} {D' : dt} {o0 : Nat} {S : sh} {D : dt} (h : f_X4_init o0 S D = some (r, S', D')) : Ext S S' := by
  unfold f_X4_init at h
  have hA := (Ext.aS S 100 200 200)
  exact hA.tr (mn_X4_init_10 h)
set_option maxHeartbeats 4000000 in
set_option maxRecDepth 100000 in
theorem w_X4_init_0 {r : Unit} {S' : sh} {D' : dt} {S0 : sh} {ad0 : Nat → Nat} (hC : Cx RX4 cX4_init 1 none p s m args meth c) (hin : meth.name = "<init>") (hR : 1 ≤ R.frames ∧ 20 ≤ R.locals) (ho : R.cells = sN S' - sN S0 ∧ R.slots = sZ S' - sZ S0) : ∀ (o0 a0 : Nat) (S : sh) (D : dt) (ad : Nat → Nat) (H : Heap) (locs : List Loc) (ls : Array Slot) (cells slots : Nat), Is S ad o0 a0 3 → Wd G cA S D ad A s H locs → Al S0 ad0 S ad cells slots → lv_has ls 1 [(0, .ref a0)] → f_X4_init o0 S D = some (r, S', D') → W p l e R s m args below meth c H locs cells slots (MQ below (Qa (fun _ => none) (fun ad' => (∀ k, k < sN S0 → ad' k = ad0 k) ∧ True) (fun ad' => wpost G cA S' D' ad' A) A) args s (sN S' - sN S0) (sZ S' - sZ S0) A) (F0 m 0 ls []) := by
  obtain ⟨hx, hb, -⟩ := id hC
  intro o0 a0 S D ad H locs ls cells slots hi0 hw hc hl h
  have hE : Ext S S' := mn_X4_init_0  h
  unfold f_X4_init at h
  refine lv_aload_n hx hb dX4_init_0 rfl (lv_at hl 0 rfl) ?_
  refine W.objInit hx hb hC.2.2.2.1 (hC.2.2.2.2.1 _ lk_140) (hC.2.2.2.2.1 _ lk_133) (hC.2.2.2.2.1 _ cd_obj) rfl (by rw [hC.2.2.1]; exact hl.1) rfl dX4_init_1 (Nat.le_trans (by decide) hR.1) (Nat.le_trans (Nat.le_of_ble_eq_true rfl) hR.2) ?_
  refine W.eq (g2 := F0 m 4 ls []) rfl ?_
  refine lv_aload_n hx hb dX4_init_4 rfl (lv_at hl 0 rfl) ?_
  refine lv_sipush (v := 200) hx hb dX4_init_5 (by decide) ?_
  have hE58 := mn_X4_init_10 h
  refine r_newI hC hw lk_172 (by decide) (by decide) (by decide) (hc.room ho hE58).1 (hc.room ho hE58).2 dX4_init_8 (fun q56 H hw hi57 => ?_)
  have hi59 := Is.up hi0 (Ext.aS S 100 200 200) (up_lt (q := q56))
  have hc := hc.new 100 200 200 q56
  exact w_X4_init_10 hC hin hR ho o0 a0 o0 a0 (sN S) q56 _ _ _ _ _ _ _ _ hi59 hi59 hi57 hw hc (lv_sub hl [0] rfl) h --j60
set_option maxHeartbeats 4000000 in
set_option maxRecDepth 100000 in
theorem k_X4_init {l : Launch} {G : va_G} {cA : Nat → ClassId} {S S' : sh} {D D' : dt} {ad : Nat → Nat} (sz : Nat) {o0 a0 : Nat} {r : Unit} (hi0 : Is S ad o0 a0 3) (h : f_X4_init o0 S D = some (r, S', D')) : CoA l yX4_init (Cond.code yX4_init cX4_init 1 none :: tb0) 1 20 [.ref a0] G cA S D ad sz (fun _ => none) True S' D' := by
  refine Met.ofW (cc := cX4_init) (maxL := 1) (ret := none) (by decide) rfl ?_
  intro p e s m args below meth c s₁ B hml hv
  obtain ⟨rfl, hsz, hP, hK, hD0, hT, hX⟩ := hv
  subst hsz
  have hts := atoms_spec (ws := Cond.code yX4_init cX4_init 1 none :: tb0) B.pre
  have hC : Cx RX4 cX4_init 1 none p s m _ meth c := ⟨B.exec, B.bytes, hml, findClass_of_methodNamed B.named, fun w q => hts w (List.mem_cons_of_mem _ q), B.returns, B.notSynchronized⟩
  have hin : meth.name = "<init>" := (name_of_methodNamed B.named B.method).1
  have hw := Wd.entry hP hK hD0 hT hX
  have hl := lv_entry ([.ref a0]) (n := 1) (Nat.le_of_ble_eq_true rfl)
  rw [lg_entry_eq]
  exact w_X4_init_0 hC hin ⟨Nat.le_refl _, Nat.le_refl _⟩ ⟨rfl, rfl⟩ o0 a0 S D ad _ _ _ 0 0 hi0 hw (Al.rf S ad) hl h
set_option maxHeartbeats 4000000 in
set_option maxRecDepth 100000 in
theorem w_X4_has_0 {r : Int32} (hC : Cx RX4 cX4_has 2 (some .boolean) p s m args meth c) (hR : 0 ≤ R.frames ∧ 0 ≤ R.locals) : ∀ (o0 a0 : Nat) (x1 : Int32) (H : Heap) (locs : List Loc) (ls : Array Slot), Is S ad o0 a0 3 → Wd G cA S D ad A s H locs → lv_has ls 2 [(0, .ref a0), (1, .int x1)] → f_X4_has S D o0 x1 = some r → W p l e R s m args below meth c H locs 0 0 (MQ below (Qn (some (.int r)) True (wpost G cA S D ad A) A) args s 0 0 A) (F0 m 0 ls []) := by
  obtain ⟨hx, hb, -⟩ := id hC
  intro o0 a0 x1 H locs ls hi0 hw hl h
  unfold f_X4_has at h
  refine lv_iload_n hx hb dX4_has_0 rfl (lv_at hl 1 rfl) ?_
  refine lv_if_lt (tgt := 16) hx hb dX4_has_1 (by decide) (fun c3 => ?_) (fun c3 => ?_)
  · have h := i_yes c3 h
    refine lv_iconst (v := 0) hx hb dX4_has_16 (by decide) ?_
    cases h
    exact r_zret hC hw (Or.inl rfl) dX4_has_17
  · have h := i_no c3 h
    refine lv_iload_n hx hb dX4_has_4 rfl (lv_at hl 1 rfl) ?_
    refine lv_aload_n hx hb dX4_has_5 rfl (lv_at hl 0 rfl) ?_
    refine r_gI hC hw kc_3 hi0 5 rfl lk_156 dX4_has_6 ?_
    refine lv_icmp_ge (tgt := 16) hx hb dX4_has_9 (by decide) (fun c4 => ?_) (fun c4 => ?_)
    · have h := i_yes c4 h
      refine lv_iconst (v := 0) hx hb dX4_has_16 (by decide) ?_
      cases h
      exact r_zret hC hw (Or.inl rfl) dX4_has_17
    · have h := i_no c4 h
      refine lv_iconst (v := 1) hx hb dX4_has_12 (by decide) ?_
      refine lv_goto (tgt := 17) hx hb dX4_has_13 (by decide) ?_
      cases h
      exact r_zret hC hw (Or.inr rfl) dX4_has_17
set_option maxHeartbeats 4000000 in
set_option maxRecDepth 100000 in
theorem k_X4_has {l : Launch} {G : va_G} {cA : Nat → ClassId} {S : sh} {D : dt} {ad : Nat → Nat} (sz : Nat) {o0 a0 : Nat} {x1 : Int32} {r : Int32} (hi0 : Is S ad o0 a0 3) (h : f_X4_has S D o0 x1 = some r) : Co l yX4_has (Cond.code yX4_has cX4_has 2 (some .boolean) :: tb0) 0 0 [.ref a0, .int x1] G cA S D ad sz (some (.int r)) True D := by
  refine Met.ofW (cc := cX4_has) (maxL := 2) (ret := (some .boolean)) (by decide) rfl ?_
  intro p e s m args below meth c s₁ B hml hv
  obtain ⟨rfl, hsz, hP, hK, hD0, hT, hX⟩ := hv
  subst hsz
  have hts := atoms_spec (ws := Cond.code yX4_has cX4_has 2 (some .boolean) :: tb0) B.pre
  have hC : Cx RX4 cX4_has 2 (some .boolean) p s m _ meth c := ⟨B.exec, B.bytes, hml, findClass_of_methodNamed B.named, fun w q => hts w (List.mem_cons_of_mem _ q), B.returns, B.notSynchronized⟩
  have hw := Wd.entry hP hK hD0 hT hX
  have hl := lv_entry ([.ref a0, .int x1]) (n := 2) (Nat.le_of_ble_eq_true rfl)
  rw [lg_entry_eq]
  exact w_X4_has_0 hC ⟨Nat.le_refl _, Nat.le_refl _⟩ o0 a0 x1 _ _ _ hi0 hw hl h
set_option maxHeartbeats 4000000 in
set_option maxRecDepth 100000 in
theorem w_X4_write_0 {r : Unit} {D' : dt} (hC : Cx RX4 cX4_write 6 none p s m args meth c) (hR : 1 ≤ R.frames ∧ 21 ≤ R.locals) : ∀ (o0 a0 : Nat) (x1 : Int32) (x2 : Int32) (x3 : Int32) (x4 : Int32) (x5 : Int32) (D : dt) (H : Heap) (locs : List Loc) (ls : Array Slot), Is S ad o0 a0 3 → Wd G cA S D ad A s H locs → lv_has ls 6 [(0, .ref a0), (1, .int x1), (2, .int x2), (3, .int x3), (4, .int x4), (5, .int x5)] → f_X4_write S o0 x1 x2 x3 x4 x5 D = some (r, D') → W p l e R s m args below meth c H locs 0 0 (MQ below (Qn none True (wpost G cA S D' ad A) A) args s 0 0 A) (F0 m 0 ls []) := by
  obtain ⟨hx, hb, -⟩ := id hC
  intro o0 a0 x1 x2 x3 x4 x5 D H locs ls hi0 hw hl h
  unfold f_X4_write at h
  refine lv_aload_n hx hb dX4_write_0 rfl (lv_at hl 0 rfl) ?_
  refine lv_iload_n hx hb dX4_write_1 rfl (lv_at hl 1 rfl) ?_
  obtain ⟨r35, hq34, h⟩ := pq_i h
  refine r_cV (st' := [.int r35]) [.int x1] [] hC hw kc_3 hi0 (k_X4_has _ hi0 hq34) mk_X4_has lk_379 ⟨Nat.le_trans (by decide) hR.1, Nat.le_trans (by decide) hR.2⟩ ⟨Nat.zero_le _, Nat.zero_le _⟩ rfl hl.1 rfl rfl (Nat.le_of_ble_eq_true rfl) dX4_write_2 (fun hP H locs hw => ?_)
  refine lv_if_ne (tgt := 9) hx hb dX4_write_5 (by decide) (fun c36 => ?_) (fun c36 => ?_)
  · have h := i_no c36 h
    refine lv_aload_n hx hb dX4_write_9 rfl (lv_at hl 0 rfl) ?_
    obtain ⟨o37, ho40, h⟩ := rq_i h
    refine r_getR hC hw kc_3 hi0 0 rfl lk_141 dX4_write_10 rfl ho40 (fun a38 hi39 => ?_)
    refine lv_iload_n hx hb dX4_write_13 rfl (lv_at hl 1 rfl) ?_
    refine lv_iload_n hx hb dX4_write_14 rfl (lv_at hl 2 rfl) ?_
    obtain ⟨hn41, h⟩ := ix_i h
    refine r_ias hC hw hi39 hn41 dX4_write_15 (fun D42 eD42 H locs hw => ?_)
    have h := nm_i h D42 eD42
    refine lv_aload_n hx hb dX4_write_16 rfl (lv_at hl 0 rfl) ?_
    obtain ⟨o43, ho46, h⟩ := rq_i h
    refine r_getR hC hw kc_3 hi0 1 rfl lk_144 dX4_write_17 rfl ho46 (fun a44 hi45 => ?_)
    refine lv_iload_n hx hb dX4_write_20 rfl (lv_at hl 1 rfl) ?_
    refine lv_iload_n hx hb dX4_write_21 rfl (lv_at hl 3 rfl) ?_
    refine lv_bipush (v := 15) hx hb dX4_write_22 (by decide) ?_
    refine lv_iand hx hb dX4_write_24 ?_
    obtain ⟨hn47, h⟩ := ix_i h
    refine r_ias hC hw hi45 hn47 dX4_write_25 (fun D48 eD48 H locs hw => ?_)
    have h := nm_i h D48 eD48
    refine lv_aload_n hx hb dX4_write_26 rfl (lv_at hl 0 rfl) ?_
    obtain ⟨o49, ho52, h⟩ := rq_i h
    refine r_getR hC hw kc_3 hi0 2 rfl lk_147 dX4_write_27 rfl ho52 (fun a50 hi51 => ?_)
    refine lv_iload_n hx hb dX4_write_30 rfl (lv_at hl 1 rfl) ?_
    refine lv_iload_n hx hb dX4_write_31 rfl (lv_at hl 3 rfl) ?_
    refine lv_iconst (v := 4) hx hb dX4_write_32 (by decide) ?_
    refine lv_ishr hx hb dX4_write_33 ?_
    refine lv_bipush (v := 15) hx hb dX4_write_34 (by decide) ?_
    refine lv_iand hx hb dX4_write_36 ?_
    obtain ⟨hn53, h⟩ := ix_i h
    refine r_ias hC hw hi51 hn53 dX4_write_37 (fun D54 eD54 H locs hw => ?_)
    have h := nm_i h D54 eD54
    refine lv_aload_n hx hb dX4_write_38 rfl (lv_at hl 0 rfl) ?_
    obtain ⟨o55, ho58, h⟩ := rq_i h
    refine r_getR hC hw kc_3 hi0 3 rfl lk_150 dX4_write_39 rfl ho58 (fun a56 hi57 => ?_)
    refine lv_iload_n hx hb dX4_write_42 rfl (lv_at hl 1 rfl) ?_
    refine lv_iload hx hb dX4_write_43 (lv_at hl 4 rfl) ?_
    obtain ⟨hn59, h⟩ := ix_i h
    refine r_ias hC hw hi57 hn59 dX4_write_45 (fun D60 eD60 H locs hw => ?_)
    have h := nm_i h D60 eD60
    refine lv_aload_n hx hb dX4_write_46 rfl (lv_at hl 0 rfl) ?_
    obtain ⟨o61, ho64, h⟩ := rq_i h
    refine r_getR hC hw kc_3 hi0 4 rfl lk_153 dX4_write_47 rfl ho64 (fun a62 hi63 => ?_)
    refine lv_iload_n hx hb dX4_write_50 rfl (lv_at hl 1 rfl) ?_
    refine lv_iload hx hb dX4_write_51 (lv_at hl 5 rfl) ?_
    obtain ⟨hn65, h⟩ := ix_i h
    refine r_ias hC hw hi63 hn65 dX4_write_53 (fun D66 eD66 H locs hw => ?_)
    have h := nm_i h D66 eD66
    cases h
    exact r_vret hC hw dX4_write_54
  · have h := i_yes c36 h
    cases h
    exact r_vret hC hw dX4_write_8
set_option maxHeartbeats 4000000 in
set_option maxRecDepth 100000 in
theorem k_X4_write {l : Launch} {G : va_G} {cA : Nat → ClassId} {S : sh} {D D' : dt} {ad : Nat → Nat} (sz : Nat) {o0 a0 : Nat} {x1 : Int32} {x2 : Int32} {x3 : Int32} {x4 : Int32} {x5 : Int32} {r : Unit} (hi0 : Is S ad o0 a0 3) (h : f_X4_write S o0 x1 x2 x3 x4 x5 D = some (r, D')) : Co l yX4_write (Cond.code yX4_write cX4_write 6 none :: tb0) 1 21 [.ref a0, .int x1, .int x2, .int x3, .int x4, .int x5] G cA S D ad sz none True D' := by
  refine Met.ofW (cc := cX4_write) (maxL := 6) (ret := none) (by decide) rfl ?_
  intro p e s m args below meth c s₁ B hml hv
  obtain ⟨rfl, hsz, hP, hK, hD0, hT, hX⟩ := hv
  subst hsz
  have hts := atoms_spec (ws := Cond.code yX4_write cX4_write 6 none :: tb0) B.pre
  have hC : Cx RX4 cX4_write 6 none p s m _ meth c := ⟨B.exec, B.bytes, hml, findClass_of_methodNamed B.named, fun w q => hts w (List.mem_cons_of_mem _ q), B.returns, B.notSynchronized⟩
  have hw := Wd.entry hP hK hD0 hT hX
  have hl := lv_entry ([.ref a0, .int x1, .int x2, .int x3, .int x4, .int x5]) (n := 6) (Nat.le_of_ble_eq_true rfl)
  rw [lg_entry_eq]
  exact w_X4_write_0 hC ⟨Nat.le_refl _, Nat.le_refl _⟩ o0 a0 x1 x2 x3 x4 x5 D _ _ _ hi0 hw hl h
set_option maxHeartbeats 4000000 in
set_option maxRecDepth 100000 in
theorem w_X4_isBadPair_122 {r : Int32} (hC : Cx RX4 cX4_isBadPair 4 (some .boolean) p s m args meth c) (hR : 1 ≤ R.frames ∧ 21 ≤ R.locals) : ∀  (H : Heap) (locs : List Loc) (ls : Array Slot), Wd G cA S D ad A s H locs → lv_has ls 4 [] → f_X4_isBadPair_122 S D = some r → W p l e R s m args below meth c H locs 0 0 (MQ below (Qn (some (.int r)) True (wpost G cA S D ad A) A) args s 0 0 A) (F0 m 122 ls []) := by
  obtain ⟨hx, hb, -⟩ := id hC
  intro H locs ls  hw hl h
  unfold f_X4_isBadPair_122 at h
  refine lv_iconst (v := 1) hx hb dX4_isBadPair_122 (by decide) ?_
  refine lv_goto (tgt := 127) hx hb dX4_isBadPair_123 (by decide) ?_
  cases h
  exact r_zret hC hw (Or.inr rfl) dX4_isBadPair_127
set_option maxHeartbeats 4000000 in
set_option maxRecDepth 100000 in
theorem w_X4_isBadPair_98 {r : Int32} (hC : Cx RX4 cX4_isBadPair 4 (some .boolean) p s m args meth c) (hR : 1 ≤ R.frames ∧ 21 ≤ R.locals) : ∀ (o0 a0 : Nat) (x1 : Int32) (x2 : Int32) (xs0 : Int32) (H : Heap) (locs : List Loc) (ls : Array Slot), Is S ad o0 a0 3 → Wd G cA S D ad A s H locs → lv_has ls 4 [(0, .ref a0), (1, .int x1), (2, .int x2)] → f_X4_isBadPair_98 S D o0 x1 x2 xs0 = some r → W p l e R s m args below meth c H locs 0 0 (MQ below (Qn (some (.int r)) True (wpost G cA S D ad A) A) args s 0 0 A) (F0 m 98 ls [.int xs0]) := by
  obtain ⟨hx, hb, -⟩ := id hC
  intro o0 a0 x1 x2 xs0 H locs ls hi0 hw hl h
  unfold f_X4_isBadPair_98 at h
  refine lv_istore_n (lv' := [(3, .int xs0), (0, .ref a0), (1, .int x1), (2, .int x2)]) hx hb dX4_isBadPair_98 rfl hl (by decide) rfl (fun ls hl => ?_)
  refine lv_iload_n hx hb dX4_isBadPair_99 rfl (lv_at hl 0 rfl) ?_
  refine lv_if_eq (tgt := 122) hx hb dX4_isBadPair_100 (by decide) (fun c66 => ?_) (fun c66 => ?_)
  · have h := i_yes c66 h
    exact w_X4_isBadPair_122 hC hR _ _ _ hw (lv_sub hl [] rfl) h
  · have h := i_no c66 h
    refine lv_aload_n hx hb dX4_isBadPair_103 rfl (lv_at hl 1 rfl) ?_
    obtain ⟨o67, ho70, h⟩ := rq_i h
    refine r_getR hC hw kc_3 hi0 2 rfl lk_147 dX4_isBadPair_104 rfl ho70 (fun a68 hi69 => ?_)
    refine lv_iload_n hx hb dX4_isBadPair_107 rfl (lv_at hl 2 rfl) ?_
    obtain ⟨hn71, h⟩ := ix_i h
    refine r_iald hC hw hi69 hn71 dX4_isBadPair_108 ?_
    refine lv_iconst (v := 1) hx hb dX4_isBadPair_109 (by decide) ?_
    refine lv_icmp_ne (tgt := 126) hx hb dX4_isBadPair_110 (by decide) (fun c72 => ?_) (fun c72 => ?_)
    · have h := i_no c72 h
      refine lv_iconst (v := 0) hx hb dX4_isBadPair_126 (by decide) ?_
      cases h
      exact r_zret hC hw (Or.inl rfl) dX4_isBadPair_127
    · have h := i_yes c72 h
      refine lv_aload_n hx hb dX4_isBadPair_113 rfl (lv_at hl 1 rfl) ?_
      obtain ⟨o73, ho76, h⟩ := rq_i h
      refine r_getR hC hw kc_3 hi0 4 rfl lk_153 dX4_isBadPair_114 rfl ho76 (fun a74 hi75 => ?_)
      refine lv_iload_n hx hb dX4_isBadPair_117 rfl (lv_at hl 3 rfl) ?_
      obtain ⟨hn77, h⟩ := ix_i h
      refine r_iald hC hw hi75 hn77 dX4_isBadPair_118 ?_
      refine lv_if_eq (tgt := 126) hx hb dX4_isBadPair_119 (by decide) (fun c78 => ?_) (fun c78 => ?_)
      · have h := i_yes c78 h
        refine lv_iconst (v := 0) hx hb dX4_isBadPair_126 (by decide) ?_
        cases h
        exact r_zret hC hw (Or.inl rfl) dX4_isBadPair_127
      · have h := i_no c78 h
        exact w_X4_isBadPair_122 hC hR _ _ _ hw (lv_sub hl [] rfl) h
set_option maxHeartbeats 4000000 in
set_option maxRecDepth 100000 in
theorem w_X4_isBadPair_97 {r : Int32} (hC : Cx RX4 cX4_isBadPair 4 (some .boolean) p s m args meth c) (hR : 1 ≤ R.frames ∧ 21 ≤ R.locals) : ∀ (o0 a0 : Nat) (x1 : Int32) (x2 : Int32) (H : Heap) (locs : List Loc) (ls : Array Slot), Is S ad o0 a0 3 → Wd G cA S D ad A s H locs → lv_has ls 4 [(0, .ref a0), (1, .int x1), (2, .int x2)] → f_X4_isBadPair_97 S D o0 x1 x2 = some r → W p l e R s m args below meth c H locs 0 0 (MQ below (Qn (some (.int r)) True (wpost G cA S D ad A) A) args s 0 0 A) (F0 m 97 ls []) := by
  obtain ⟨hx, hb, -⟩ := id hC
  intro o0 a0 x1 x2 H locs ls hi0 hw hl h
  unfold f_X4_isBadPair_97 at h
  refine lv_iconst (v := 0) hx hb dX4_isBadPair_97 (by decide) ?_
  exact w_X4_isBadPair_98 hC hR o0 a0 x1 x2 (0 : Int32) _ _ _ hi0 hw (lv_sub hl [0, 1, 2] rfl) h
set_option maxHeartbeats 4000000 in
set_option maxRecDepth 100000 in
theorem w_X4_isBadPair_0 {r : Int32} (hC : Cx RX4 cX4_isBadPair 4 (some .boolean) p s m args meth c) (hR : 1 ≤ R.frames ∧ 21 ≤ R.locals) : ∀ (o0 a0 : Nat) (x1 : Int32) (H : Heap) (locs : List Loc) (ls : Array Slot), Is S ad o0 a0 3 → Wd G cA S D ad A s H locs → lv_has ls 4 [(0, .ref a0), (1, .int x1)] → f_X4_isBadPair S D o0 x1 = some r → W p l e R s m args below meth c H locs 0 0 (MQ below (Qn (some (.int r)) True (wpost G cA S D ad A) A) args s 0 0 A) (F0 m 0 ls []) := by
  obtain ⟨hx, hb, -⟩ := id hC
  intro o0 a0 x1 H locs ls hi0 hw hl h
  unfold f_X4_isBadPair at h
  refine lv_aload_n hx hb dX4_isBadPair_0 rfl (lv_at hl 0 rfl) ?_
  obtain ⟨o79, ho82, h⟩ := rq_i h
  refine r_getR hC hw kc_3 hi0 0 rfl lk_141 dX4_isBadPair_1 rfl ho82 (fun a80 hi81 => ?_)
  refine lv_iload_n hx hb dX4_isBadPair_4 rfl (lv_at hl 1 rfl) ?_
  obtain ⟨hn83, h⟩ := ix_i h
  refine r_iald hC hw hi81 hn83 dX4_isBadPair_5 ?_
  refine lv_bipush (v := 24) hx hb dX4_isBadPair_6 (by decide) ?_
  refine lv_icmp_ne (tgt := 41) hx hb dX4_isBadPair_8 (by decide) (fun c84 => ?_) (fun c84 => ?_)
  · have h := i_no c84 h
    refine lv_iconst (v := 1) hx hb dX4_isBadPair_41 (by decide) ?_
    cases h
    exact r_zret hC hw (Or.inr rfl) dX4_isBadPair_42
  · have h := i_yes c84 h
    refine lv_aload_n hx hb dX4_isBadPair_11 rfl (lv_at hl 0 rfl) ?_
    obtain ⟨o85, ho88, h⟩ := rq_i h
    refine r_getR hC hw kc_3 hi0 1 rfl lk_144 dX4_isBadPair_12 rfl ho88 (fun a86 hi87 => ?_)
    refine lv_iload_n hx hb dX4_isBadPair_15 rfl (lv_at hl 1 rfl) ?_
    obtain ⟨hn89, h⟩ := ix_i h
    refine r_iald hC hw hi87 hn89 dX4_isBadPair_16 ?_
    refine lv_bipush (v := 10) hx hb dX4_isBadPair_17 (by decide) ?_
    refine lv_icmp_ge (tgt := 41) hx hb dX4_isBadPair_19 (by decide) (fun c90 => ?_) (fun c90 => ?_)
    · have h := i_yes c90 h
      refine lv_iconst (v := 1) hx hb dX4_isBadPair_41 (by decide) ?_
      cases h
      exact r_zret hC hw (Or.inr rfl) dX4_isBadPair_42
    · have h := i_no c90 h
      refine lv_aload_n hx hb dX4_isBadPair_22 rfl (lv_at hl 0 rfl) ?_
      obtain ⟨o91, ho94, h⟩ := rq_i h
      refine r_getR hC hw kc_3 hi0 2 rfl lk_147 dX4_isBadPair_23 rfl ho94 (fun a92 hi93 => ?_)
      refine lv_iload_n hx hb dX4_isBadPair_26 rfl (lv_at hl 1 rfl) ?_
      obtain ⟨hn95, h⟩ := ix_i h
      refine r_iald hC hw hi93 hn95 dX4_isBadPair_27 ?_
      refine lv_iconst (v := 1) hx hb dX4_isBadPair_28 (by decide) ?_
      refine lv_icmp_gt (tgt := 41) hx hb dX4_isBadPair_29 (by decide) (fun c96 => ?_) (fun c96 => ?_)
      · have h := i_yes c96 h
        refine lv_iconst (v := 1) hx hb dX4_isBadPair_41 (by decide) ?_
        cases h
        exact r_zret hC hw (Or.inr rfl) dX4_isBadPair_42
      · have h := i_no c96 h
        refine lv_aload_n hx hb dX4_isBadPair_32 rfl (lv_at hl 0 rfl) ?_
        obtain ⟨o97, ho100, h⟩ := rq_i h
        refine r_getR hC hw kc_3 hi0 3 rfl lk_150 dX4_isBadPair_33 rfl ho100 (fun a98 hi99 => ?_)
        refine lv_iload_n hx hb dX4_isBadPair_36 rfl (lv_at hl 1 rfl) ?_
        obtain ⟨hn101, h⟩ := ix_i h
        refine r_iald hC hw hi99 hn101 dX4_isBadPair_37 ?_
        refine lv_if_eq (tgt := 43) hx hb dX4_isBadPair_38 (by decide) (fun c102 => ?_) (fun c102 => ?_)
        · have h := i_yes c102 h
          refine lv_iload_n hx hb dX4_isBadPair_43 rfl (lv_at hl 1 rfl) ?_
          refine lv_iconst (v := 1) hx hb dX4_isBadPair_44 (by decide) ?_
          refine lv_iadd hx hb dX4_isBadPair_45 ?_
          refine lv_topi (fun y103 ey103 => ?_)
          have h := nm_i h y103 ey103
          refine lv_istore_n (lv' := [(2, .int y103), (0, .ref a0), (1, .int x1)]) hx hb dX4_isBadPair_46 rfl hl (by decide) rfl (fun ls hl => ?_)
          refine lv_aload_n hx hb dX4_isBadPair_47 rfl (lv_at hl 1 rfl) ?_
          refine lv_iload_n hx hb dX4_isBadPair_48 rfl (lv_at hl 0 rfl) ?_
          obtain ⟨r105, hq104, h⟩ := pq_i h
          refine r_cV (st' := [.int r105]) [.int y103] [] hC hw kc_3 hi0 (k_X4_has _ hi0 hq104) mk_X4_has lk_379 ⟨Nat.le_trans (by decide) hR.1, Nat.le_trans (by decide) hR.2⟩ ⟨Nat.zero_le _, Nat.zero_le _⟩ rfl hl.1 rfl rfl (Nat.le_of_ble_eq_true rfl) dX4_isBadPair_49 (fun hP H locs hw => ?_)
          refine lv_if_ne (tgt := 57) hx hb dX4_isBadPair_52 (by decide) (fun c106 => ?_) (fun c106 => ?_)
          · have h := i_no c106 h
            refine lv_aload_n hx hb dX4_isBadPair_57 rfl (lv_at hl 1 rfl) ?_
            obtain ⟨o107, ho110, h⟩ := rq_i h
            refine r_getR hC hw kc_3 hi0 0 rfl lk_141 dX4_isBadPair_58 rfl ho110 (fun a108 hi109 => ?_)
            refine lv_iload_n hx hb dX4_isBadPair_61 rfl (lv_at hl 0 rfl) ?_
            obtain ⟨hn111, h⟩ := ix_i h
            refine r_iald hC hw hi109 hn111 dX4_isBadPair_62 ?_
            refine lv_if_ne (tgt := 97) hx hb dX4_isBadPair_63 (by decide) (fun c112 => ?_) (fun c112 => ?_)
            · have h := i_no c112 h
              exact w_X4_isBadPair_97 hC hR o0 a0 x1 y103 _ _ _ hi0 hw (lv_sub hl [1, 2, 0] rfl) h
            · have h := i_yes c112 h
              refine lv_aload_n hx hb dX4_isBadPair_66 rfl (lv_at hl 1 rfl) ?_
              obtain ⟨o113, ho116, h⟩ := rq_i h
              refine r_getR hC hw kc_3 hi0 1 rfl lk_144 dX4_isBadPair_67 rfl ho116 (fun a114 hi115 => ?_)
              refine lv_iload_n hx hb dX4_isBadPair_70 rfl (lv_at hl 0 rfl) ?_
              obtain ⟨hn117, h⟩ := ix_i h
              refine r_iald hC hw hi115 hn117 dX4_isBadPair_71 ?_
              refine lv_if_ne (tgt := 97) hx hb dX4_isBadPair_72 (by decide) (fun c118 => ?_) (fun c118 => ?_)
              · have h := i_no c118 h
                exact w_X4_isBadPair_97 hC hR o0 a0 x1 y103 _ _ _ hi0 hw (lv_sub hl [1, 2, 0] rfl) h
              · have h := i_yes c118 h
                refine lv_aload_n hx hb dX4_isBadPair_75 rfl (lv_at hl 1 rfl) ?_
                obtain ⟨o119, ho122, h⟩ := rq_i h
                refine r_getR hC hw kc_3 hi0 2 rfl lk_147 dX4_isBadPair_76 rfl ho122 (fun a120 hi121 => ?_)
                refine lv_iload_n hx hb dX4_isBadPair_79 rfl (lv_at hl 0 rfl) ?_
                obtain ⟨hn123, h⟩ := ix_i h
                refine r_iald hC hw hi121 hn123 dX4_isBadPair_80 ?_
                refine lv_if_ne (tgt := 97) hx hb dX4_isBadPair_81 (by decide) (fun c124 => ?_) (fun c124 => ?_)
                · have h := i_no c124 h
                  exact w_X4_isBadPair_97 hC hR o0 a0 x1 y103 _ _ _ hi0 hw (lv_sub hl [1, 2, 0] rfl) h
                · have h := i_yes c124 h
                  refine lv_aload_n hx hb dX4_isBadPair_84 rfl (lv_at hl 1 rfl) ?_
                  obtain ⟨o125, ho128, h⟩ := rq_i h
                  refine r_getR hC hw kc_3 hi0 3 rfl lk_150 dX4_isBadPair_85 rfl ho128 (fun a126 hi127 => ?_)
                  refine lv_iload_n hx hb dX4_isBadPair_88 rfl (lv_at hl 0 rfl) ?_
                  obtain ⟨hn129, h⟩ := ix_i h
                  refine r_iald hC hw hi127 hn129 dX4_isBadPair_89 ?_
                  refine lv_if_ne (tgt := 97) hx hb dX4_isBadPair_90 (by decide) (fun c130 => ?_) (fun c130 => ?_)
                  · have h := i_no c130 h
                    exact w_X4_isBadPair_97 hC hR o0 a0 x1 y103 _ _ _ hi0 hw (lv_sub hl [1, 2, 0] rfl) h
                  · have h := i_yes c130 h
                    refine lv_iconst (v := 1) hx hb dX4_isBadPair_93 (by decide) ?_
                    refine lv_goto (tgt := 98) hx hb dX4_isBadPair_94 (by decide) ?_
                    exact w_X4_isBadPair_98 hC hR o0 a0 x1 y103 (1 : Int32) _ _ _ hi0 hw (lv_sub hl [1, 2, 0] rfl) h
          · have h := i_yes c106 h
            refine lv_iconst (v := 0) hx hb dX4_isBadPair_55 (by decide) ?_
            cases h
            exact r_zret hC hw (Or.inl rfl) dX4_isBadPair_56
        · have h := i_no c102 h
          refine lv_iconst (v := 1) hx hb dX4_isBadPair_41 (by decide) ?_
          cases h
          exact r_zret hC hw (Or.inr rfl) dX4_isBadPair_42
set_option maxHeartbeats 4000000 in
set_option maxRecDepth 100000 in
theorem k_X4_isBadPair {l : Launch} {G : va_G} {cA : Nat → ClassId} {S : sh} {D : dt} {ad : Nat → Nat} (sz : Nat) {o0 a0 : Nat} {x1 : Int32} {r : Int32} (hi0 : Is S ad o0 a0 3) (h : f_X4_isBadPair S D o0 x1 = some r) : Co l yX4_isBadPair (Cond.code yX4_isBadPair cX4_isBadPair 4 (some .boolean) :: tb0) 1 21 [.ref a0, .int x1] G cA S D ad sz (some (.int r)) True D := by
  refine Met.ofW (cc := cX4_isBadPair) (maxL := 4) (ret := (some .boolean)) (by decide) rfl ?_
  intro p e s m args below meth c s₁ B hml hv
  obtain ⟨rfl, hsz, hP, hK, hD0, hT, hX⟩ := hv
  subst hsz
  have hts := atoms_spec (ws := Cond.code yX4_isBadPair cX4_isBadPair 4 (some .boolean) :: tb0) B.pre
  have hC : Cx RX4 cX4_isBadPair 4 (some .boolean) p s m _ meth c := ⟨B.exec, B.bytes, hml, findClass_of_methodNamed B.named, fun w q => hts w (List.mem_cons_of_mem _ q), B.returns, B.notSynchronized⟩
  have hw := Wd.entry hP hK hD0 hT hX
  have hl := lv_entry ([.ref a0, .int x1]) (n := 4) (Nat.le_of_ble_eq_true rfl)
  rw [lg_entry_eq]
  exact w_X4_isBadPair_0 hC ⟨Nat.le_refl _, Nat.le_refl _⟩ o0 a0 x1 _ _ _ hi0 hw hl h
set_option maxHeartbeats 4000000 in
set_option maxRecDepth 100000 in
theorem w_X4_isSignedLoad_0 {r : Int32} (hC : Cx RX4 cX4_isSignedLoad 2 (some .boolean) p s m args meth c) (hR : 0 ≤ R.frames ∧ 0 ≤ R.locals) : ∀ (o0 a0 : Nat) (x1 : Int32) (H : Heap) (locs : List Loc) (ls : Array Slot), Is S ad o0 a0 3 → Wd G cA S D ad A s H locs → lv_has ls 2 [(0, .ref a0), (1, .int x1)] → f_X4_isSignedLoad S D o0 x1 = some r → W p l e R s m args below meth c H locs 0 0 (MQ below (Qn (some (.int r)) True (wpost G cA S D ad A) A) args s 0 0 A) (F0 m 0 ls []) := by
  obtain ⟨hx, hb, -⟩ := id hC
  intro o0 a0 x1 H locs ls hi0 hw hl h
  unfold f_X4_isSignedLoad at h
  refine lv_aload_n hx hb dX4_isSignedLoad_0 rfl (lv_at hl 0 rfl) ?_
  obtain ⟨o7, ho10, h⟩ := rq_i h
  refine r_getR hC hw kc_3 hi0 0 rfl lk_141 dX4_isSignedLoad_1 rfl ho10 (fun a8 hi9 => ?_)
  refine lv_iload_n hx hb dX4_isSignedLoad_4 rfl (lv_at hl 1 rfl) ?_
  obtain ⟨hn11, h⟩ := ix_i h
  refine r_iald hC hw hi9 hn11 dX4_isSignedLoad_5 ?_
  refine lv_bipush (v := (-25)) hx hb dX4_isSignedLoad_6 (by decide) ?_
  refine lv_iand hx hb dX4_isSignedLoad_8 ?_
  refine lv_sipush (v := 129) hx hb dX4_isSignedLoad_9 (by decide) ?_
  refine lv_icmp_ne (tgt := 19) hx hb dX4_isSignedLoad_12 (by decide) (fun c12 => ?_) (fun c12 => ?_)
  · have h := i_no c12 h
    refine lv_iconst (v := 0) hx hb dX4_isSignedLoad_19 (by decide) ?_
    cases h
    exact r_zret hC hw (Or.inl rfl) dX4_isSignedLoad_20
  · have h := i_yes c12 h
    refine lv_iconst (v := 1) hx hb dX4_isSignedLoad_15 (by decide) ?_
    refine lv_goto (tgt := 20) hx hb dX4_isSignedLoad_16 (by decide) ?_
    cases h
    exact r_zret hC hw (Or.inr rfl) dX4_isSignedLoad_20
set_option maxHeartbeats 4000000 in
set_option maxRecDepth 100000 in
theorem k_X4_isSignedLoad {l : Launch} {G : va_G} {cA : Nat → ClassId} {S : sh} {D : dt} {ad : Nat → Nat} (sz : Nat) {o0 a0 : Nat} {x1 : Int32} {r : Int32} (hi0 : Is S ad o0 a0 3) (h : f_X4_isSignedLoad S D o0 x1 = some r) : Co l yX4_isSignedLoad (Cond.code yX4_isSignedLoad cX4_isSignedLoad 2 (some .boolean) :: tb0) 0 0 [.ref a0, .int x1] G cA S D ad sz (some (.int r)) True D := by
  refine Met.ofW (cc := cX4_isSignedLoad) (maxL := 2) (ret := (some .boolean)) (by decide) rfl ?_
  intro p e s m args below meth c s₁ B hml hv
  obtain ⟨rfl, hsz, hP, hK, hD0, hT, hX⟩ := hv
  subst hsz
  have hts := atoms_spec (ws := Cond.code yX4_isSignedLoad cX4_isSignedLoad 2 (some .boolean) :: tb0) B.pre
  have hC : Cx RX4 cX4_isSignedLoad 2 (some .boolean) p s m _ meth c := ⟨B.exec, B.bytes, hml, findClass_of_methodNamed B.named, fun w q => hts w (List.mem_cons_of_mem _ q), B.returns, B.notSynchronized⟩
  have hw := Wd.entry hP hK hD0 hT hX
  have hl := lv_entry ([.ref a0, .int x1]) (n := 2) (Nat.le_of_ble_eq_true rfl)
  rw [lg_entry_eq]
  exact w_X4_isSignedLoad_0 hC ⟨Nat.le_refl _, Nat.le_refl _⟩ o0 a0 x1 _ _ _ hi0 hw hl h
set_option maxHeartbeats 4000000 in
set_option maxRecDepth 100000 in
theorem w_X4_width_0 {r : Int32} (hC : Cx RX4 cX4_width 2 (some .int) p s m args meth c) (hR : 0 ≤ R.frames ∧ 0 ≤ R.locals) : ∀ (o0 a0 : Nat) (x1 : Int32) (H : Heap) (locs : List Loc) (ls : Array Slot), Is S ad o0 a0 3 → Wd G cA S D ad A s H locs → lv_has ls 2 [(0, .ref a0), (1, .int x1)] → f_X4_width S D o0 x1 = some r → W p l e R s m args below meth c H locs 0 0 (MQ below (Qn (some (.int r)) True (wpost G cA S D ad A) A) args s 0 0 A) (F0 m 0 ls []) := by
  obtain ⟨hx, hb, -⟩ := id hC
  intro o0 a0 x1 H locs ls hi0 hw hl h
  unfold f_X4_width at h
  refine lv_aload_n hx hb dX4_width_0 rfl (lv_at hl 0 rfl) ?_
  obtain ⟨o9, ho12, h⟩ := rq_i h
  refine r_getR hC hw kc_3 hi0 0 rfl lk_141 dX4_width_1 rfl ho12 (fun a10 hi11 => ?_)
  refine lv_iload_n hx hb dX4_width_4 rfl (lv_at hl 1 rfl) ?_
  obtain ⟨hn13, h⟩ := ix_i h
  refine r_iald hC hw hi11 hn13 dX4_width_5 ?_
  refine lv_bipush (v := 24) hx hb dX4_width_6 (by decide) ?_
  refine lv_iand hx hb dX4_width_8 ?_
  by_cases c14 : ((gI D o9 x1.toNatClampNeg) &&& (24 : Int32)) = 0
  · have h := i_yes c14 h
    refine lv_lookup (off := 35) (tgt := 44) hx hb dX4_width_9 (by decide) (by rw [c14] <;> rfl) (by decide) ?_
    refine lv_iconst (v := 4) hx hb dX4_width_44 (by decide) ?_
    cases h
    exact r_iret hC hw dX4_width_45
  have h := i_no c14 h
  by_cases c15 : ((gI D o9 x1.toNatClampNeg) &&& (24 : Int32)) = 8
  · have h := i_yes c15 h
    refine lv_lookup (off := 37) (tgt := 46) hx hb dX4_width_9 (by decide) (by rw [c15] <;> rfl) (by decide) ?_
    refine lv_iconst (v := 2) hx hb dX4_width_46 (by decide) ?_
    cases h
    exact r_iret hC hw dX4_width_47
  have h := i_no c15 h
  by_cases c16 : ((gI D o9 x1.toNatClampNeg) &&& (24 : Int32)) = 16
  · have h := i_yes c16 h
    refine lv_lookup (off := 39) (tgt := 48) hx hb dX4_width_9 (by decide) (by rw [c16] <;> rfl) (by decide) ?_
    refine lv_iconst (v := 1) hx hb dX4_width_48 (by decide) ?_
    cases h
    exact r_iret hC hw dX4_width_49
  have h := i_no c16 h
  refine lv_lookup (off := 41) (tgt := 50) hx hb dX4_width_9 (by decide) ((lv_osw c14 rfl).trans ((lv_osw c15 rfl).trans ((lv_osw c16 rfl).trans (rfl)))) (by decide) ?_
  refine lv_bipush (v := 8) hx hb dX4_width_50 (by decide) ?_
  cases h
  exact r_iret hC hw dX4_width_52
set_option maxHeartbeats 4000000 in
set_option maxRecDepth 100000 in
theorem k_X4_width {l : Launch} {G : va_G} {cA : Nat → ClassId} {S : sh} {D : dt} {ad : Nat → Nat} (sz : Nat) {o0 a0 : Nat} {x1 : Int32} {r : Int32} (hi0 : Is S ad o0 a0 3) (h : f_X4_width S D o0 x1 = some r) : Co l yX4_width (Cond.code yX4_width cX4_width 2 (some .int) :: tb0) 0 0 [.ref a0, .int x1] G cA S D ad sz (some (.int r)) True D := by
  refine Met.ofW (cc := cX4_width) (maxL := 2) (ret := (some .int)) (by decide) rfl ?_
  intro p e s m args below meth c s₁ B hml hv
  obtain ⟨rfl, hsz, hP, hK, hD0, hT, hX⟩ := hv
  subst hsz
  have hts := atoms_spec (ws := Cond.code yX4_width cX4_width 2 (some .int) :: tb0) B.pre
  have hC : Cx RX4 cX4_width 2 (some .int) p s m _ meth c := ⟨B.exec, B.bytes, hml, findClass_of_methodNamed B.named, fun w q => hts w (List.mem_cons_of_mem _ q), B.returns, B.notSynchronized⟩
  have hw := Wd.entry hP hK hD0 hT hX
  have hl := lv_entry ([.ref a0, .int x1]) (n := 2) (Nat.le_of_ble_eq_true rfl)
  rw [lg_entry_eq]
  exact w_X4_width_0 hC ⟨Nat.le_refl _, Nat.le_refl _⟩ o0 a0 x1 _ _ _ hi0 hw hl h
set_option maxHeartbeats 4000000 in
set_option maxRecDepth 100000 in
theorem w_X4_isBadLoad_72 {r : Int32} (hC : Cx RX4 cX4_isBadLoad 4 (some .boolean) p s m args meth c) (hR : 1 ≤ R.frames ∧ 21 ≤ R.locals) : ∀  (H : Heap) (locs : List Loc) (ls : Array Slot), Wd G cA S D ad A s H locs → lv_has ls 4 [] → f_X4_isBadLoad_72 S D = some r → W p l e R s m args below meth c H locs 0 0 (MQ below (Qn (some (.int r)) True (wpost G cA S D ad A) A) args s 0 0 A) (F0 m 72 ls []) := by
  obtain ⟨hx, hb, -⟩ := id hC
  intro H locs ls  hw hl h
  unfold f_X4_isBadLoad_72 at h
  refine lv_iconst (v := 1) hx hb dX4_isBadLoad_72 (by decide) ?_
  refine lv_goto (tgt := 77) hx hb dX4_isBadLoad_73 (by decide) ?_
  cases h
  exact r_zret hC hw (Or.inr rfl) dX4_isBadLoad_77
set_option maxHeartbeats 4000000 in
set_option maxRecDepth 100000 in
theorem w_X4_isBadLoad_52 {r : Int32} (hC : Cx RX4 cX4_isBadLoad 4 (some .boolean) p s m args meth c) (hR : 1 ≤ R.frames ∧ 21 ≤ R.locals) : ∀ (o0 a0 : Nat) (x1 : Int32) (H : Heap) (locs : List Loc) (ls : Array Slot), Is S ad o0 a0 3 → Wd G cA S D ad A s H locs → lv_has ls 4 [(0, .ref a0), (1, .int x1)] → f_X4_isBadLoad_52 S D o0 x1 = some r → W p l e R s m args below meth c H locs 0 0 (MQ below (Qn (some (.int r)) True (wpost G cA S D ad A) A) args s 0 0 A) (F0 m 52 ls []) := by
  obtain ⟨hx, hb, -⟩ := id hC
  intro o0 a0 x1 H locs ls hi0 hw hl h
  unfold f_X4_isBadLoad_52 at h
  refine lv_aload_n hx hb dX4_isBadLoad_52 rfl (lv_at hl 0 rfl) ?_
  obtain ⟨o27, ho30, h⟩ := rq_i h
  refine r_getR hC hw kc_3 hi0 4 rfl lk_153 dX4_isBadLoad_53 rfl ho30 (fun a28 hi29 => ?_)
  refine lv_iload_n hx hb dX4_isBadLoad_56 rfl (lv_at hl 1 rfl) ?_
  obtain ⟨hn31, h⟩ := ix_i h
  refine r_iald hC hw hi29 hn31 dX4_isBadLoad_57 ?_
  refine lv_if_ne (tgt := 72) hx hb dX4_isBadLoad_58 (by decide) (fun c32 => ?_) (fun c32 => ?_)
  · have h := i_no c32 h
    exact w_X4_isBadLoad_72 hC hR _ _ _ hw (lv_sub hl [] rfl) h
  · have h := i_yes c32 h
    refine lv_aload_n hx hb dX4_isBadLoad_61 rfl (lv_at hl 0 rfl) ?_
    obtain ⟨o33, ho36, h⟩ := rq_i h
    refine r_getR hC hw kc_3 hi0 1 rfl lk_144 dX4_isBadLoad_62 rfl ho36 (fun a34 hi35 => ?_)
    refine lv_iload_n hx hb dX4_isBadLoad_65 rfl (lv_at hl 1 rfl) ?_
    obtain ⟨hn37, h⟩ := ix_i h
    refine r_iald hC hw hi35 hn37 dX4_isBadLoad_66 ?_
    refine lv_bipush (v := 10) hx hb dX4_isBadLoad_67 (by decide) ?_
    refine lv_icmp_lt (tgt := 76) hx hb dX4_isBadLoad_69 (by decide) (fun c38 => ?_) (fun c38 => ?_)
    · have h := i_yes c38 h
      refine lv_iconst (v := 0) hx hb dX4_isBadLoad_76 (by decide) ?_
      cases h
      exact r_zret hC hw (Or.inl rfl) dX4_isBadLoad_77
    · have h := i_no c38 h
      exact w_X4_isBadLoad_72 hC hR _ _ _ hw (lv_sub hl [] rfl) h
set_option maxHeartbeats 4000000 in
set_option maxRecDepth 100000 in
theorem w_X4_isBadLoad_43 {r : Int32} (hC : Cx RX4 cX4_isBadLoad 4 (some .boolean) p s m args meth c) (hR : 1 ≤ R.frames ∧ 21 ≤ R.locals) : ∀ (o0 a0 : Nat) (x1 : Int32) (x2 : Int32) (xs0 : Int32) (H : Heap) (locs : List Loc) (ls : Array Slot), Is S ad o0 a0 3 → Wd G cA S D ad A s H locs → lv_has ls 4 [(0, .ref a0), (1, .int x1), (2, .int x2)] → f_X4_isBadLoad_43 S D o0 x1 x2 xs0 = some r → W p l e R s m args below meth c H locs 0 0 (MQ below (Qn (some (.int r)) True (wpost G cA S D ad A) A) args s 0 0 A) (F0 m 43 ls [.int xs0]) := by
  obtain ⟨hx, hb, -⟩ := id hC
  intro o0 a0 x1 x2 xs0 H locs ls hi0 hw hl h
  unfold f_X4_isBadLoad_43 at h
  refine lv_istore_n (lv' := [(3, .int xs0), (0, .ref a0), (1, .int x1), (2, .int x2)]) hx hb dX4_isBadLoad_43 rfl hl (by decide) rfl (fun ls hl => ?_)
  refine lv_iload_n hx hb dX4_isBadLoad_44 rfl (lv_at hl 3 rfl) ?_
  refine lv_if_ne (tgt := 52) hx hb dX4_isBadLoad_45 (by decide) (fun c39 => ?_) (fun c39 => ?_)
  · have h := i_no c39 h
    exact w_X4_isBadLoad_52 hC hR o0 a0 x1 _ _ _ hi0 hw (lv_sub hl [1, 2] rfl) h
  · have h := i_yes c39 h
    refine lv_iload_n hx hb dX4_isBadLoad_48 rfl (lv_at hl 0 rfl) ?_
    refine lv_if_eq (tgt := 72) hx hb dX4_isBadLoad_49 (by decide) (fun c40 => ?_) (fun c40 => ?_)
    · have h := i_yes c40 h
      exact w_X4_isBadLoad_72 hC hR _ _ _ hw (lv_sub hl [] rfl) h
    · have h := i_no c40 h
      exact w_X4_isBadLoad_52 hC hR o0 a0 x1 _ _ _ hi0 hw (lv_sub hl [1, 2] rfl) h
set_option maxHeartbeats 4000000 in
set_option maxRecDepth 100000 in
theorem w_X4_isBadLoad_42 {r : Int32} (hC : Cx RX4 cX4_isBadLoad 4 (some .boolean) p s m args meth c) (hR : 1 ≤ R.frames ∧ 21 ≤ R.locals) : ∀ (o0 a0 : Nat) (x1 : Int32) (x2 : Int32) (H : Heap) (locs : List Loc) (ls : Array Slot), Is S ad o0 a0 3 → Wd G cA S D ad A s H locs → lv_has ls 4 [(0, .ref a0), (1, .int x1), (2, .int x2)] → f_X4_isBadLoad_42 S D o0 x1 x2 = some r → W p l e R s m args below meth c H locs 0 0 (MQ below (Qn (some (.int r)) True (wpost G cA S D ad A) A) args s 0 0 A) (F0 m 42 ls []) := by
  obtain ⟨hx, hb, -⟩ := id hC
  intro o0 a0 x1 x2 H locs ls hi0 hw hl h
  unfold f_X4_isBadLoad_42 at h
  refine lv_iconst (v := 0) hx hb dX4_isBadLoad_42 (by decide) ?_
  exact w_X4_isBadLoad_43 hC hR o0 a0 x1 x2 (0 : Int32) _ _ _ hi0 hw (lv_sub hl [0, 1, 2] rfl) h
set_option maxHeartbeats 4000000 in
set_option maxRecDepth 100000 in
theorem w_X4_isBadLoad_19 {r : Int32} (hC : Cx RX4 cX4_isBadLoad 4 (some .boolean) p s m args meth c) (hR : 1 ≤ R.frames ∧ 21 ≤ R.locals) : ∀ (o0 a0 : Nat) (x1 : Int32) (xs0 : Int32) (H : Heap) (locs : List Loc) (ls : Array Slot), Is S ad o0 a0 3 → Wd G cA S D ad A s H locs → lv_has ls 4 [(0, .ref a0), (1, .int x1)] → f_X4_isBadLoad_19 S D o0 x1 xs0 = some r → W p l e R s m args below meth c H locs 0 0 (MQ below (Qn (some (.int r)) True (wpost G cA S D ad A) A) args s 0 0 A) (F0 m 19 ls [.int xs0]) := by
  obtain ⟨hx, hb, -⟩ := id hC
  intro o0 a0 x1 xs0 H locs ls hi0 hw hl h
  unfold f_X4_isBadLoad_19 at h
  refine lv_istore_n (lv' := [(2, .int xs0), (0, .ref a0), (1, .int x1)]) hx hb dX4_isBadLoad_19 rfl hl (by decide) rfl (fun ls hl => ?_)
  refine lv_aload_n hx hb dX4_isBadLoad_20 rfl (lv_at hl 1 rfl) ?_
  refine lv_iload_n hx hb dX4_isBadLoad_21 rfl (lv_at hl 2 rfl) ?_
  obtain ⟨r42, hq41, h⟩ := pq_i h
  refine r_cV (st' := [.int r42]) [.int x1] [] hC hw kc_3 hi0 (k_X4_isSignedLoad _ hi0 hq41) mk_X4_isSignedLoad lk_510 ⟨Nat.le_trans (by decide) hR.1, Nat.le_trans (by decide) hR.2⟩ ⟨Nat.zero_le _, Nat.zero_le _⟩ rfl hl.1 rfl rfl (Nat.le_of_ble_eq_true rfl) dX4_isBadLoad_22 (fun hP H locs hw => ?_)
  refine lv_if_eq (tgt := 42) hx hb dX4_isBadLoad_25 (by decide) (fun c43 => ?_) (fun c43 => ?_)
  · have h := i_yes c43 h
    exact w_X4_isBadLoad_42 hC hR o0 a0 x1 xs0 _ _ _ hi0 hw (lv_sub hl [1, 2, 0] rfl) h
  · have h := i_no c43 h
    refine lv_aload_n hx hb dX4_isBadLoad_28 rfl (lv_at hl 1 rfl) ?_
    refine lv_iload_n hx hb dX4_isBadLoad_29 rfl (lv_at hl 2 rfl) ?_
    obtain ⟨r45, hq44, h⟩ := pq_i h
    refine r_cV (st' := [.int r45]) [.int x1] [] hC hw kc_3 hi0 (k_X4_width _ hi0 hq44) mk_X4_width lk_514 ⟨Nat.le_trans (by decide) hR.1, Nat.le_trans (by decide) hR.2⟩ ⟨Nat.zero_le _, Nat.zero_le _⟩ rfl hl.1 rfl rfl (Nat.le_of_ble_eq_true rfl) dX4_isBadLoad_30 (fun hP H locs hw => ?_)
    refine lv_bipush (v := 8) hx hb dX4_isBadLoad_33 (by decide) ?_
    refine lv_icmp_eq (tgt := 42) hx hb dX4_isBadLoad_35 (by decide) (fun c46 => ?_) (fun c46 => ?_)
    · have h := i_yes c46 h
      exact w_X4_isBadLoad_42 hC hR o0 a0 x1 xs0 _ _ _ hi0 hw (lv_sub hl [1, 2, 0] rfl) h
    · have h := i_no c46 h
      refine lv_iconst (v := 1) hx hb dX4_isBadLoad_38 (by decide) ?_
      refine lv_goto (tgt := 43) hx hb dX4_isBadLoad_39 (by decide) ?_
      exact w_X4_isBadLoad_43 hC hR o0 a0 x1 xs0 (1 : Int32) _ _ _ hi0 hw (lv_sub hl [1, 2, 0] rfl) h
set_option maxHeartbeats 4000000 in
set_option maxRecDepth 100000 in
theorem w_X4_isBadLoad_0 {r : Int32} (hC : Cx RX4 cX4_isBadLoad 4 (some .boolean) p s m args meth c) (hR : 1 ≤ R.frames ∧ 21 ≤ R.locals) : ∀ (o0 a0 : Nat) (x1 : Int32) (H : Heap) (locs : List Loc) (ls : Array Slot), Is S ad o0 a0 3 → Wd G cA S D ad A s H locs → lv_has ls 4 [(0, .ref a0), (1, .int x1)] → f_X4_isBadLoad S D o0 x1 = some r → W p l e R s m args below meth c H locs 0 0 (MQ below (Qn (some (.int r)) True (wpost G cA S D ad A) A) args s 0 0 A) (F0 m 0 ls []) := by
  obtain ⟨hx, hb, -⟩ := id hC
  intro o0 a0 x1 H locs ls hi0 hw hl h
  unfold f_X4_isBadLoad at h
  refine lv_aload_n hx hb dX4_isBadLoad_0 rfl (lv_at hl 0 rfl) ?_
  obtain ⟨o47, ho50, h⟩ := rq_i h
  refine r_getR hC hw kc_3 hi0 0 rfl lk_141 dX4_isBadLoad_1 rfl ho50 (fun a48 hi49 => ?_)
  refine lv_iload_n hx hb dX4_isBadLoad_4 rfl (lv_at hl 1 rfl) ?_
  obtain ⟨hn51, h⟩ := ix_i h
  refine r_iald hC hw hi49 hn51 dX4_isBadLoad_5 ?_
  refine lv_bipush (v := (-25)) hx hb dX4_isBadLoad_6 (by decide) ?_
  refine lv_iand hx hb dX4_isBadLoad_8 ?_
  refine lv_bipush (v := 97) hx hb dX4_isBadLoad_9 (by decide) ?_
  refine lv_icmp_ne (tgt := 18) hx hb dX4_isBadLoad_11 (by decide) (fun c52 => ?_) (fun c52 => ?_)
  · have h := i_no c52 h
    refine lv_iconst (v := 0) hx hb dX4_isBadLoad_18 (by decide) ?_
    exact w_X4_isBadLoad_19 hC hR o0 a0 x1 (0 : Int32) _ _ _ hi0 hw (lv_sub hl [0, 1] rfl) h
  · have h := i_yes c52 h
    refine lv_iconst (v := 1) hx hb dX4_isBadLoad_14 (by decide) ?_
    refine lv_goto (tgt := 19) hx hb dX4_isBadLoad_15 (by decide) ?_
    exact w_X4_isBadLoad_19 hC hR o0 a0 x1 (1 : Int32) _ _ _ hi0 hw (lv_sub hl [0, 1] rfl) h
set_option maxHeartbeats 4000000 in
set_option maxRecDepth 100000 in
theorem k_X4_isBadLoad {l : Launch} {G : va_G} {cA : Nat → ClassId} {S : sh} {D : dt} {ad : Nat → Nat} (sz : Nat) {o0 a0 : Nat} {x1 : Int32} {r : Int32} (hi0 : Is S ad o0 a0 3) (h : f_X4_isBadLoad S D o0 x1 = some r) : Co l yX4_isBadLoad (Cond.code yX4_isBadLoad cX4_isBadLoad 4 (some .boolean) :: tb0) 1 21 [.ref a0, .int x1] G cA S D ad sz (some (.int r)) True D := by
  refine Met.ofW (cc := cX4_isBadLoad) (maxL := 4) (ret := (some .boolean)) (by decide) rfl ?_
  intro p e s m args below meth c s₁ B hml hv
  obtain ⟨rfl, hsz, hP, hK, hD0, hT, hX⟩ := hv
  subst hsz
  have hts := atoms_spec (ws := Cond.code yX4_isBadLoad cX4_isBadLoad 4 (some .boolean) :: tb0) B.pre
  have hC : Cx RX4 cX4_isBadLoad 4 (some .boolean) p s m _ meth c := ⟨B.exec, B.bytes, hml, findClass_of_methodNamed B.named, fun w q => hts w (List.mem_cons_of_mem _ q), B.returns, B.notSynchronized⟩
  have hw := Wd.entry hP hK hD0 hT hX
  have hl := lv_entry ([.ref a0, .int x1]) (n := 4) (Nat.le_of_ble_eq_true rfl)
  rw [lg_entry_eq]
  exact w_X4_isBadLoad_0 hC ⟨Nat.le_refl _, Nat.le_refl _⟩ o0 a0 x1 _ _ _ hi0 hw hl h
set_option maxHeartbeats 4000000 in
set_option maxRecDepth 100000 in
theorem w_X4_isBadChange_0 {r : Int32} (hC : Cx RX4 cX4_isBadChange 1 (some .boolean) p s m args meth c) (hR : 0 ≤ R.frames ∧ 0 ≤ R.locals) : ∀ (x0 : Int32) (H : Heap) (locs : List Loc) (ls : Array Slot), Wd G cA S D ad A s H locs → lv_has ls 1 [(0, .int x0)] → f_X4_isBadChange x0 = some r → W p l e R s m args below meth c H locs 0 0 (MQ below (Qn (some (.int r)) True (wpost G cA S D ad A) A) args s 0 0 A) (F0 m 0 ls []) := by
  obtain ⟨hx, hb, -⟩ := id hC
  intro x0 H locs ls hw hl h
  unfold f_X4_isBadChange at h
  refine lv_iload_n hx hb dX4_isBadChange_0 rfl (lv_at hl 0 rfl) ?_
  by_cases c11 : x0 = 0
  · have h := i_yes c11 h
    refine lv_lookup (off := 91) (tgt := 92) hx hb dX4_isBadChange_1 (by decide) (by rw [c11] <;> rfl) (by decide) ?_
    refine lv_iconst (v := 0) hx hb dX4_isBadChange_92 (by decide) ?_
    cases h
    exact r_zret hC hw (Or.inl rfl) dX4_isBadChange_93
  have h := i_no c11 h
  by_cases c12 : x0 = 1
  · have h := i_yes c12 h
    refine lv_lookup (off := 91) (tgt := 92) hx hb dX4_isBadChange_1 (by decide) (by rw [c12] <;> rfl) (by decide) ?_
    refine lv_iconst (v := 0) hx hb dX4_isBadChange_92 (by decide) ?_
    cases h
    exact r_zret hC hw (Or.inl rfl) dX4_isBadChange_93
  have h := i_no c12 h
  by_cases c13 : x0 = 64
  · have h := i_yes c13 h
    refine lv_lookup (off := 91) (tgt := 92) hx hb dX4_isBadChange_1 (by decide) (by rw [c13] <;> rfl) (by decide) ?_
    refine lv_iconst (v := 0) hx hb dX4_isBadChange_92 (by decide) ?_
    cases h
    exact r_zret hC hw (Or.inl rfl) dX4_isBadChange_93
  have h := i_no c13 h
  by_cases c14 : x0 = 65
  · have h := i_yes c14 h
    refine lv_lookup (off := 91) (tgt := 92) hx hb dX4_isBadChange_1 (by decide) (by rw [c14] <;> rfl) (by decide) ?_
    refine lv_iconst (v := 0) hx hb dX4_isBadChange_92 (by decide) ?_
    cases h
    exact r_zret hC hw (Or.inl rfl) dX4_isBadChange_93
  have h := i_no c14 h
  by_cases c15 : x0 = 80
  · have h := i_yes c15 h
    refine lv_lookup (off := 91) (tgt := 92) hx hb dX4_isBadChange_1 (by decide) (by rw [c15] <;> rfl) (by decide) ?_
    refine lv_iconst (v := 0) hx hb dX4_isBadChange_92 (by decide) ?_
    cases h
    exact r_zret hC hw (Or.inl rfl) dX4_isBadChange_93
  have h := i_no c15 h
  by_cases c16 : x0 = 81
  · have h := i_yes c16 h
    refine lv_lookup (off := 91) (tgt := 92) hx hb dX4_isBadChange_1 (by decide) (by rw [c16] <;> rfl) (by decide) ?_
    refine lv_iconst (v := 0) hx hb dX4_isBadChange_92 (by decide) ?_
    cases h
    exact r_zret hC hw (Or.inl rfl) dX4_isBadChange_93
  have h := i_no c16 h
  by_cases c17 : x0 = 160
  · have h := i_yes c17 h
    refine lv_lookup (off := 91) (tgt := 92) hx hb dX4_isBadChange_1 (by decide) (by rw [c17] <;> rfl) (by decide) ?_
    refine lv_iconst (v := 0) hx hb dX4_isBadChange_92 (by decide) ?_
    cases h
    exact r_zret hC hw (Or.inl rfl) dX4_isBadChange_93
  have h := i_no c17 h
  by_cases c18 : x0 = 161
  · have h := i_yes c18 h
    refine lv_lookup (off := 91) (tgt := 92) hx hb dX4_isBadChange_1 (by decide) (by rw [c18] <;> rfl) (by decide) ?_
    refine lv_iconst (v := 0) hx hb dX4_isBadChange_92 (by decide) ?_
    cases h
    exact r_zret hC hw (Or.inl rfl) dX4_isBadChange_93
  have h := i_no c18 h
  by_cases c19 : x0 = 225
  · have h := i_yes c19 h
    refine lv_lookup (off := 91) (tgt := 92) hx hb dX4_isBadChange_1 (by decide) (by rw [c19] <;> rfl) (by decide) ?_
    refine lv_iconst (v := 0) hx hb dX4_isBadChange_92 (by decide) ?_
    cases h
    exact r_zret hC hw (Or.inl rfl) dX4_isBadChange_93
  have h := i_no c19 h
  by_cases c20 : x0 = 241
  · have h := i_yes c20 h
    refine lv_lookup (off := 91) (tgt := 92) hx hb dX4_isBadChange_1 (by decide) (by rw [c20] <;> rfl) (by decide) ?_
    refine lv_iconst (v := 0) hx hb dX4_isBadChange_92 (by decide) ?_
    cases h
    exact r_zret hC hw (Or.inl rfl) dX4_isBadChange_93
  have h := i_no c20 h
  refine lv_lookup (off := 93) (tgt := 94) hx hb dX4_isBadChange_1 (by decide) ((lv_osw c11 rfl).trans ((lv_osw c12 rfl).trans ((lv_osw c13 rfl).trans ((lv_osw c14 rfl).trans ((lv_osw c15 rfl).trans ((lv_osw c16 rfl).trans ((lv_osw c17 rfl).trans ((lv_osw c18 rfl).trans ((lv_osw c19 rfl).trans ((lv_osw c20 rfl).trans (rfl))))))))))) (by decide) ?_
  refine lv_iconst (v := 1) hx hb dX4_isBadChange_94 (by decide) ?_
  cases h
  exact r_zret hC hw (Or.inr rfl) dX4_isBadChange_95
set_option maxHeartbeats 4000000 in
set_option maxRecDepth 100000 in
theorem k_X4_isBadChange {l : Launch} {G : va_G} {cA : Nat → ClassId} {S : sh} {D : dt} {ad : Nat → Nat} (sz : Nat) {x0 : Int32} {r : Int32}  (h : f_X4_isBadChange x0 = some r) : Co l yX4_isBadChange (Cond.code yX4_isBadChange cX4_isBadChange 1 (some .boolean) :: tb0) 0 0 [.int x0] G cA S D ad sz (some (.int r)) True D := by
  refine Met.ofW (cc := cX4_isBadChange) (maxL := 1) (ret := (some .boolean)) (by decide) rfl ?_
  intro p e s m args below meth c s₁ B hml hv
  obtain ⟨rfl, hsz, hP, hK, hD0, hT, hX⟩ := hv
  subst hsz
  have hts := atoms_spec (ws := Cond.code yX4_isBadChange cX4_isBadChange 1 (some .boolean) :: tb0) B.pre
  have hC : Cx RX4 cX4_isBadChange 1 (some .boolean) p s m _ meth c := ⟨B.exec, B.bytes, hml, findClass_of_methodNamed B.named, fun w q => hts w (List.mem_cons_of_mem _ q), B.returns, B.notSynchronized⟩
  have hw := Wd.entry hP hK hD0 hT hX
  have hl := lv_entry ([.int x0]) (n := 1) (Nat.le_of_ble_eq_true rfl)
  rw [lg_entry_eq]
  exact w_X4_isBadChange_0 hC ⟨Nat.le_refl _, Nat.le_refl _⟩ x0 _ _ _ hw hl h
set_option maxHeartbeats 4000000 in
set_option maxRecDepth 100000 in
theorem w_X4_isPlainPut_0 {r : Int32} (hC : Cx RX4 cX4_isPlainPut 2 (some .boolean) p s m args meth c) (hR : 0 ≤ R.frames ∧ 0 ≤ R.locals) : ∀ (o0 a0 : Nat) (x1 : Int32) (H : Heap) (locs : List Loc) (ls : Array Slot), Is S ad o0 a0 3 → Wd G cA S D ad A s H locs → lv_has ls 2 [(0, .ref a0), (1, .int x1)] → f_X4_isPlainPut S D o0 x1 = some r → W p l e R s m args below meth c H locs 0 0 (MQ below (Qn (some (.int r)) True (wpost G cA S D ad A) A) args s 0 0 A) (F0 m 0 ls []) := by
  obtain ⟨hx, hb, -⟩ := id hC
  intro o0 a0 x1 H locs ls hi0 hw hl h
  unfold f_X4_isPlainPut at h
  refine lv_aload_n hx hb dX4_isPlainPut_0 rfl (lv_at hl 0 rfl) ?_
  obtain ⟨o7, ho10, h⟩ := rq_i h
  refine r_getR hC hw kc_3 hi0 0 rfl lk_141 dX4_isPlainPut_1 rfl ho10 (fun a8 hi9 => ?_)
  refine lv_iload_n hx hb dX4_isPlainPut_4 rfl (lv_at hl 1 rfl) ?_
  obtain ⟨hn11, h⟩ := ix_i h
  refine r_iald hC hw hi9 hn11 dX4_isPlainPut_5 ?_
  refine lv_bipush (v := (-25)) hx hb dX4_isPlainPut_6 (by decide) ?_
  refine lv_iand hx hb dX4_isPlainPut_8 ?_
  refine lv_bipush (v := 99) hx hb dX4_isPlainPut_9 (by decide) ?_
  refine lv_icmp_ne (tgt := 18) hx hb dX4_isPlainPut_11 (by decide) (fun c12 => ?_) (fun c12 => ?_)
  · have h := i_no c12 h
    refine lv_iconst (v := 0) hx hb dX4_isPlainPut_18 (by decide) ?_
    cases h
    exact r_zret hC hw (Or.inl rfl) dX4_isPlainPut_19
  · have h := i_yes c12 h
    refine lv_iconst (v := 1) hx hb dX4_isPlainPut_14 (by decide) ?_
    refine lv_goto (tgt := 19) hx hb dX4_isPlainPut_15 (by decide) ?_
    cases h
    exact r_zret hC hw (Or.inr rfl) dX4_isPlainPut_19
set_option maxHeartbeats 4000000 in
set_option maxRecDepth 100000 in
theorem k_X4_isPlainPut {l : Launch} {G : va_G} {cA : Nat → ClassId} {S : sh} {D : dt} {ad : Nat → Nat} (sz : Nat) {o0 a0 : Nat} {x1 : Int32} {r : Int32} (hi0 : Is S ad o0 a0 3) (h : f_X4_isPlainPut S D o0 x1 = some r) : Co l yX4_isPlainPut (Cond.code yX4_isPlainPut cX4_isPlainPut 2 (some .boolean) :: tb0) 0 0 [.ref a0, .int x1] G cA S D ad sz (some (.int r)) True D := by
  refine Met.ofW (cc := cX4_isPlainPut) (maxL := 2) (ret := (some .boolean)) (by decide) rfl ?_
  intro p e s m args below meth c s₁ B hml hv
  obtain ⟨rfl, hsz, hP, hK, hD0, hT, hX⟩ := hv
  subst hsz
  have hts := atoms_spec (ws := Cond.code yX4_isPlainPut cX4_isPlainPut 2 (some .boolean) :: tb0) B.pre
  have hC : Cx RX4 cX4_isPlainPut 2 (some .boolean) p s m _ meth c := ⟨B.exec, B.bytes, hml, findClass_of_methodNamed B.named, fun w q => hts w (List.mem_cons_of_mem _ q), B.returns, B.notSynchronized⟩
  have hw := Wd.entry hP hK hD0 hT hX
  have hl := lv_entry ([.ref a0, .int x1]) (n := 2) (Nat.le_of_ble_eq_true rfl)
  rw [lg_entry_eq]
  exact w_X4_isPlainPut_0 hC ⟨Nat.le_refl _, Nat.le_refl _⟩ o0 a0 x1 _ _ _ hi0 hw hl h
set_option maxHeartbeats 4000000 in
set_option maxRecDepth 100000 in
theorem w_X4_isBadPut_24 {r : Int32} (hC : Cx RX4 cX4_isBadPut 2 (some .boolean) p s m args meth c) (hR : 1 ≤ R.frames ∧ 21 ≤ R.locals) : ∀ (o0 a0 : Nat) (x1 : Int32) (H : Heap) (locs : List Loc) (ls : Array Slot), Is S ad o0 a0 3 → Wd G cA S D ad A s H locs → lv_has ls 2 [(0, .ref a0), (1, .int x1)] → f_X4_isBadPut_24 S D o0 x1 = some r → W p l e R s m args below meth c H locs 0 0 (MQ below (Qn (some (.int r)) True (wpost G cA S D ad A) A) args s 0 0 A) (F0 m 24 ls []) := by
  obtain ⟨hx, hb, -⟩ := id hC
  intro o0 a0 x1 H locs ls hi0 hw hl h
  unfold f_X4_isBadPut_24 at h
  refine lv_aload_n hx hb dX4_isBadPut_24 rfl (lv_at hl 0 rfl) ?_
  obtain ⟨o30, ho33, h⟩ := rq_i h
  refine r_getR hC hw kc_3 hi0 4 rfl lk_153 dX4_isBadPut_25 rfl ho33 (fun a31 hi32 => ?_)
  refine lv_iload_n hx hb dX4_isBadPut_28 rfl (lv_at hl 1 rfl) ?_
  obtain ⟨hn34, h⟩ := ix_i h
  refine r_iald hC hw hi32 hn34 dX4_isBadPut_29 ?_
  obtain ⟨r36, hq35, h⟩ := pq_i h
  refine r_cS (st' := [.int r36]) [.int (gI D o30 x1.toNatClampNeg)] [] hC hw (k_X4_isBadChange _ hq35) mk_X4_isBadChange lk_522 ⟨Nat.le_trans (by decide) hR.1, Nat.le_trans (by decide) hR.2⟩ ⟨Nat.zero_le _, Nat.zero_le _⟩ rfl hl.1 rfl rfl (Nat.le_of_ble_eq_true rfl) dX4_isBadPut_30 (fun hP H locs hw => ?_)
  obtain ⟨hz37, h⟩ := ck_i h
  cases h
  exact r_zret hC hw hz37 dX4_isBadPut_33
set_option maxHeartbeats 4000000 in
set_option maxRecDepth 100000 in
theorem w_X4_isBadPut_51 {r : Int32} (hC : Cx RX4 cX4_isBadPut 2 (some .boolean) p s m args meth c) (hR : 1 ≤ R.frames ∧ 21 ≤ R.locals) : ∀  (H : Heap) (locs : List Loc) (ls : Array Slot), Wd G cA S D ad A s H locs → lv_has ls 2 [] → f_X4_isBadPut_51 S D = some r → W p l e R s m args below meth c H locs 0 0 (MQ below (Qn (some (.int r)) True (wpost G cA S D ad A) A) args s 0 0 A) (F0 m 51 ls []) := by
  obtain ⟨hx, hb, -⟩ := id hC
  intro H locs ls  hw hl h
  unfold f_X4_isBadPut_51 at h
  refine lv_iconst (v := 1) hx hb dX4_isBadPut_51 (by decide) ?_
  refine lv_goto (tgt := 56) hx hb dX4_isBadPut_52 (by decide) ?_
  cases h
  exact r_zret hC hw (Or.inr rfl) dX4_isBadPut_56
set_option maxHeartbeats 4000000 in
set_option maxRecDepth 100000 in
theorem w_X4_isBadPut_0 {r : Int32} (hC : Cx RX4 cX4_isBadPut 2 (some .boolean) p s m args meth c) (hR : 1 ≤ R.frames ∧ 21 ≤ R.locals) : ∀ (o0 a0 : Nat) (x1 : Int32) (H : Heap) (locs : List Loc) (ls : Array Slot), Is S ad o0 a0 3 → Wd G cA S D ad A s H locs → lv_has ls 2 [(0, .ref a0), (1, .int x1)] → f_X4_isBadPut S D o0 x1 = some r → W p l e R s m args below meth c H locs 0 0 (MQ below (Qn (some (.int r)) True (wpost G cA S D ad A) A) args s 0 0 A) (F0 m 0 ls []) := by
  obtain ⟨hx, hb, -⟩ := id hC
  intro o0 a0 x1 H locs ls hi0 hw hl h
  unfold f_X4_isBadPut at h
  refine lv_aload_n hx hb dX4_isBadPut_0 rfl (lv_at hl 0 rfl) ?_
  obtain ⟨o38, ho41, h⟩ := rq_i h
  refine r_getR hC hw kc_3 hi0 0 rfl lk_141 dX4_isBadPut_1 rfl ho41 (fun a39 hi40 => ?_)
  refine lv_iload_n hx hb dX4_isBadPut_4 rfl (lv_at hl 1 rfl) ?_
  obtain ⟨hn42, h⟩ := ix_i h
  refine r_iald hC hw hi40 hn42 dX4_isBadPut_5 ?_
  refine lv_sipush (v := 195) hx hb dX4_isBadPut_6 (by decide) ?_
  refine lv_icmp_eq (tgt := 24) hx hb dX4_isBadPut_9 (by decide) (fun c43 => ?_) (fun c43 => ?_)
  · have h := i_yes c43 h
    exact w_X4_isBadPut_24 hC hR o0 a0 x1 _ _ _ hi0 hw (lv_sub hl [0, 1] rfl) h
  · have h := i_no c43 h
    refine lv_aload_n hx hb dX4_isBadPut_12 rfl (lv_at hl 0 rfl) ?_
    obtain ⟨o44, ho47, h⟩ := rq_i h
    refine r_getR hC hw kc_3 hi0 0 rfl lk_141 dX4_isBadPut_13 rfl ho47 (fun a45 hi46 => ?_)
    refine lv_iload_n hx hb dX4_isBadPut_16 rfl (lv_at hl 1 rfl) ?_
    obtain ⟨hn48, h⟩ := ix_i h
    refine r_iald hC hw hi46 hn48 dX4_isBadPut_17 ?_
    refine lv_sipush (v := 219) hx hb dX4_isBadPut_18 (by decide) ?_
    refine lv_icmp_ne (tgt := 34) hx hb dX4_isBadPut_21 (by decide) (fun c49 => ?_) (fun c49 => ?_)
    · have h := i_no c49 h
      refine lv_aload_n hx hb dX4_isBadPut_34 rfl (lv_at hl 0 rfl) ?_
      refine lv_iload_n hx hb dX4_isBadPut_35 rfl (lv_at hl 1 rfl) ?_
      obtain ⟨r51, hq50, h⟩ := pq_i h
      refine r_cV (st' := [.int r51]) [.int x1] [] hC hw kc_3 hi0 (k_X4_isPlainPut _ hi0 hq50) mk_X4_isPlainPut lk_525 ⟨Nat.le_trans (by decide) hR.1, Nat.le_trans (by decide) hR.2⟩ ⟨Nat.zero_le _, Nat.zero_le _⟩ rfl hl.1 rfl rfl (Nat.le_of_ble_eq_true rfl) dX4_isBadPut_36 (fun hP H locs hw => ?_)
      refine lv_if_eq (tgt := 51) hx hb dX4_isBadPut_39 (by decide) (fun c52 => ?_) (fun c52 => ?_)
      · have h := i_yes c52 h
        exact w_X4_isBadPut_51 hC hR _ _ _ hw (lv_sub hl [] rfl) h
      · have h := i_no c52 h
        refine lv_aload_n hx hb dX4_isBadPut_42 rfl (lv_at hl 0 rfl) ?_
        obtain ⟨o53, ho56, h⟩ := rq_i h
        refine r_getR hC hw kc_3 hi0 4 rfl lk_153 dX4_isBadPut_43 rfl ho56 (fun a54 hi55 => ?_)
        refine lv_iload_n hx hb dX4_isBadPut_46 rfl (lv_at hl 1 rfl) ?_
        obtain ⟨hn57, h⟩ := ix_i h
        refine r_iald hC hw hi55 hn57 dX4_isBadPut_47 ?_
        refine lv_if_eq (tgt := 55) hx hb dX4_isBadPut_48 (by decide) (fun c58 => ?_) (fun c58 => ?_)
        · have h := i_yes c58 h
          refine lv_iconst (v := 0) hx hb dX4_isBadPut_55 (by decide) ?_
          cases h
          exact r_zret hC hw (Or.inl rfl) dX4_isBadPut_56
        · have h := i_no c58 h
          exact w_X4_isBadPut_51 hC hR _ _ _ hw (lv_sub hl [] rfl) h
    · have h := i_yes c49 h
      exact w_X4_isBadPut_24 hC hR o0 a0 x1 _ _ _ hi0 hw (lv_sub hl [0, 1] rfl) h
set_option maxHeartbeats 4000000 in
set_option maxRecDepth 100000 in
theorem k_X4_isBadPut {l : Launch} {G : va_G} {cA : Nat → ClassId} {S : sh} {D : dt} {ad : Nat → Nat} (sz : Nat) {o0 a0 : Nat} {x1 : Int32} {r : Int32} (hi0 : Is S ad o0 a0 3) (h : f_X4_isBadPut S D o0 x1 = some r) : Co l yX4_isBadPut (Cond.code yX4_isBadPut cX4_isBadPut 2 (some .boolean) :: tb0) 1 21 [.ref a0, .int x1] G cA S D ad sz (some (.int r)) True D := by
  refine Met.ofW (cc := cX4_isBadPut) (maxL := 2) (ret := (some .boolean)) (by decide) rfl ?_
  intro p e s m args below meth c s₁ B hml hv
  obtain ⟨rfl, hsz, hP, hK, hD0, hT, hX⟩ := hv
  subst hsz
  have hts := atoms_spec (ws := Cond.code yX4_isBadPut cX4_isBadPut 2 (some .boolean) :: tb0) B.pre
  have hC : Cx RX4 cX4_isBadPut 2 (some .boolean) p s m _ meth c := ⟨B.exec, B.bytes, hml, findClass_of_methodNamed B.named, fun w q => hts w (List.mem_cons_of_mem _ q), B.returns, B.notSynchronized⟩
  have hw := Wd.entry hP hK hD0 hT hX
  have hl := lv_entry ([.ref a0, .int x1]) (n := 2) (Nat.le_of_ble_eq_true rfl)
  rw [lg_entry_eq]
  exact w_X4_isBadPut_0 hC ⟨Nat.le_refl _, Nat.le_refl _⟩ o0 a0 x1 _ _ _ hi0 hw hl h
set_option maxHeartbeats 4000000 in
set_option maxRecDepth 100000 in
theorem w_X4_code_0 {r : Int32} (hC : Cx RX4 cX4_code 2 (some .int) p s m args meth c) (hR : 0 ≤ R.frames ∧ 0 ≤ R.locals) : ∀ (o0 a0 : Nat) (x1 : Int32) (H : Heap) (locs : List Loc) (ls : Array Slot), Is S ad o0 a0 3 → Wd G cA S D ad A s H locs → lv_has ls 2 [(0, .ref a0), (1, .int x1)] → f_X4_code S D o0 x1 = some r → W p l e R s m args below meth c H locs 0 0 (MQ below (Qn (some (.int r)) True (wpost G cA S D ad A) A) args s 0 0 A) (F0 m 0 ls []) := by
  obtain ⟨hx, hb, -⟩ := id hC
  intro o0 a0 x1 H locs ls hi0 hw hl h
  unfold f_X4_code at h
  refine lv_aload_n hx hb dX4_code_0 rfl (lv_at hl 0 rfl) ?_
  obtain ⟨o6, ho9, h⟩ := rq_i h
  refine r_getR hC hw kc_3 hi0 0 rfl lk_141 dX4_code_1 rfl ho9 (fun a7 hi8 => ?_)
  refine lv_iload_n hx hb dX4_code_4 rfl (lv_at hl 1 rfl) ?_
  obtain ⟨hn10, h⟩ := ix_i h
  refine r_iald hC hw hi8 hn10 dX4_code_5 ?_
  refine lv_iconst (v := 4) hx hb dX4_code_6 (by decide) ?_
  refine lv_ishr hx hb dX4_code_7 ?_
  cases h
  exact r_iret hC hw dX4_code_8
set_option maxHeartbeats 4000000 in
set_option maxRecDepth 100000 in
theorem k_X4_code {l : Launch} {G : va_G} {cA : Nat → ClassId} {S : sh} {D : dt} {ad : Nat → Nat} (sz : Nat) {o0 a0 : Nat} {x1 : Int32} {r : Int32} (hi0 : Is S ad o0 a0 3) (h : f_X4_code S D o0 x1 = some r) : Co l yX4_code (Cond.code yX4_code cX4_code 2 (some .int) :: tb0) 0 0 [.ref a0, .int x1] G cA S D ad sz (some (.int r)) True D := by
  refine Met.ofW (cc := cX4_code) (maxL := 2) (ret := (some .int)) (by decide) rfl ?_
  intro p e s m args below meth c s₁ B hml hv
  obtain ⟨rfl, hsz, hP, hK, hD0, hT, hX⟩ := hv
  subst hsz
  have hts := atoms_spec (ws := Cond.code yX4_code cX4_code 2 (some .int) :: tb0) B.pre
  have hC : Cx RX4 cX4_code 2 (some .int) p s m _ meth c := ⟨B.exec, B.bytes, hml, findClass_of_methodNamed B.named, fun w q => hts w (List.mem_cons_of_mem _ q), B.returns, B.notSynchronized⟩
  have hw := Wd.entry hP hK hD0 hT hX
  have hl := lv_entry ([.ref a0, .int x1]) (n := 2) (Nat.le_of_ble_eq_true rfl)
  rw [lg_entry_eq]
  exact w_X4_code_0 hC ⟨Nat.le_refl _, Nat.le_refl _⟩ o0 a0 x1 _ _ _ hi0 hw hl h
set_option maxHeartbeats 4000000 in
set_option maxRecDepth 100000 in
theorem w_X4_isWide_21 {r : Int32} (hC : Cx RX4 cX4_isWide 3 (some .boolean) p s m args meth c) (hR : 0 ≤ R.frames ∧ 0 ≤ R.locals) : ∀  (H : Heap) (locs : List Loc) (ls : Array Slot), Wd G cA S D ad A s H locs → lv_has ls 3 [] → f_X4_isWide_21 S D = some r → W p l e R s m args below meth c H locs 0 0 (MQ below (Qn (some (.int r)) True (wpost G cA S D ad A) A) args s 0 0 A) (F0 m 21 ls []) := by
  obtain ⟨hx, hb, -⟩ := id hC
  intro H locs ls  hw hl h
  unfold f_X4_isWide_21 at h
  refine lv_iconst (v := 1) hx hb dX4_isWide_21 (by decide) ?_
  refine lv_goto (tgt := 26) hx hb dX4_isWide_22 (by decide) ?_
  cases h
  exact r_zret hC hw (Or.inr rfl) dX4_isWide_26
set_option maxHeartbeats 4000000 in
set_option maxRecDepth 100000 in
theorem w_X4_isWide_0 {r : Int32} (hC : Cx RX4 cX4_isWide 3 (some .boolean) p s m args meth c) (hR : 0 ≤ R.frames ∧ 0 ≤ R.locals) : ∀ (o0 a0 : Nat) (x1 : Int32) (H : Heap) (locs : List Loc) (ls : Array Slot), Is S ad o0 a0 3 → Wd G cA S D ad A s H locs → lv_has ls 3 [(0, .ref a0), (1, .int x1)] → f_X4_isWide S D o0 x1 = some r → W p l e R s m args below meth c H locs 0 0 (MQ below (Qn (some (.int r)) True (wpost G cA S D ad A) A) args s 0 0 A) (F0 m 0 ls []) := by
  obtain ⟨hx, hb, -⟩ := id hC
  intro o0 a0 x1 H locs ls hi0 hw hl h
  unfold f_X4_isWide at h
  refine lv_aload_n hx hb dX4_isWide_0 rfl (lv_at hl 0 rfl) ?_
  obtain ⟨o9, ho12, h⟩ := rq_i h
  refine r_getR hC hw kc_3 hi0 0 rfl lk_141 dX4_isWide_1 rfl ho12 (fun a10 hi11 => ?_)
  refine lv_iload_n hx hb dX4_isWide_4 rfl (lv_at hl 1 rfl) ?_
  obtain ⟨hn13, h⟩ := ix_i h
  refine r_iald hC hw hi11 hn13 dX4_isWide_5 ?_
  refine lv_bipush (v := 7) hx hb dX4_isWide_6 (by decide) ?_
  refine lv_iand hx hb dX4_isWide_8 ?_
  refine lv_topi (fun y14 ey14 => ?_)
  have h := nm_i h y14 ey14
  refine lv_istore_n (lv' := [(2, .int y14), (0, .ref a0), (1, .int x1)]) hx hb dX4_isWide_9 rfl hl (by decide) rfl (fun ls hl => ?_)
  refine lv_iload_n hx hb dX4_isWide_10 rfl (lv_at hl 0 rfl) ?_
  refine lv_bipush (v := 7) hx hb dX4_isWide_11 (by decide) ?_
  refine lv_icmp_eq (tgt := 21) hx hb dX4_isWide_13 (by decide) (fun c15 => ?_) (fun c15 => ?_)
  · have h := i_yes c15 h
    exact w_X4_isWide_21 hC hR _ _ _ hw (lv_sub hl [] rfl) h
  · have h := i_no c15 h
    refine lv_iload_n hx hb dX4_isWide_16 rfl (lv_at hl 0 rfl) ?_
    refine lv_iconst (v := 5) hx hb dX4_isWide_17 (by decide) ?_
    refine lv_icmp_ne (tgt := 25) hx hb dX4_isWide_18 (by decide) (fun c16 => ?_) (fun c16 => ?_)
    · have h := i_no c16 h
      refine lv_iconst (v := 0) hx hb dX4_isWide_25 (by decide) ?_
      cases h
      exact r_zret hC hw (Or.inl rfl) dX4_isWide_26
    · have h := i_yes c16 h
      exact w_X4_isWide_21 hC hR _ _ _ hw (lv_sub hl [] rfl) h
set_option maxHeartbeats 4000000 in
set_option maxRecDepth 100000 in
theorem k_X4_isWide {l : Launch} {G : va_G} {cA : Nat → ClassId} {S : sh} {D : dt} {ad : Nat → Nat} (sz : Nat) {o0 a0 : Nat} {x1 : Int32} {r : Int32} (hi0 : Is S ad o0 a0 3) (h : f_X4_isWide S D o0 x1 = some r) : Co l yX4_isWide (Cond.code yX4_isWide cX4_isWide 3 (some .boolean) :: tb0) 0 0 [.ref a0, .int x1] G cA S D ad sz (some (.int r)) True D := by
  refine Met.ofW (cc := cX4_isWide) (maxL := 3) (ret := (some .boolean)) (by decide) rfl ?_
  intro p e s m args below meth c s₁ B hml hv
  obtain ⟨rfl, hsz, hP, hK, hD0, hT, hX⟩ := hv
  subst hsz
  have hts := atoms_spec (ws := Cond.code yX4_isWide cX4_isWide 3 (some .boolean) :: tb0) B.pre
  have hC : Cx RX4 cX4_isWide 3 (some .boolean) p s m _ meth c := ⟨B.exec, B.bytes, hml, findClass_of_methodNamed B.named, fun w q => hts w (List.mem_cons_of_mem _ q), B.returns, B.notSynchronized⟩
  have hw := Wd.entry hP hK hD0 hT hX
  have hl := lv_entry ([.ref a0, .int x1]) (n := 3) (Nat.le_of_ble_eq_true rfl)
  rw [lg_entry_eq]
  exact w_X4_isWide_0 hC ⟨Nat.le_refl _, Nat.le_refl _⟩ o0 a0 x1 _ _ _ hi0 hw hl h
set_option maxHeartbeats 4000000 in
set_option maxRecDepth 100000 in
theorem w_X4_byRegister_0 {r : Int32} (hC : Cx RX4 cX4_byRegister 2 (some .boolean) p s m args meth c) (hR : 0 ≤ R.frames ∧ 0 ≤ R.locals) : ∀ (o0 a0 : Nat) (x1 : Int32) (H : Heap) (locs : List Loc) (ls : Array Slot), Is S ad o0 a0 3 → Wd G cA S D ad A s H locs → lv_has ls 2 [(0, .ref a0), (1, .int x1)] → f_X4_byRegister S D o0 x1 = some r → W p l e R s m args below meth c H locs 0 0 (MQ below (Qn (some (.int r)) True (wpost G cA S D ad A) A) args s 0 0 A) (F0 m 0 ls []) := by
  obtain ⟨hx, hb, -⟩ := id hC
  intro o0 a0 x1 H locs ls hi0 hw hl h
  unfold f_X4_byRegister at h
  refine lv_aload_n hx hb dX4_byRegister_0 rfl (lv_at hl 0 rfl) ?_
  obtain ⟨o7, ho10, h⟩ := rq_i h
  refine r_getR hC hw kc_3 hi0 0 rfl lk_141 dX4_byRegister_1 rfl ho10 (fun a8 hi9 => ?_)
  refine lv_iload_n hx hb dX4_byRegister_4 rfl (lv_at hl 1 rfl) ?_
  obtain ⟨hn11, h⟩ := ix_i h
  refine r_iald hC hw hi9 hn11 dX4_byRegister_5 ?_
  refine lv_bipush (v := 8) hx hb dX4_byRegister_6 (by decide) ?_
  refine lv_iand hx hb dX4_byRegister_8 ?_
  refine lv_if_eq (tgt := 16) hx hb dX4_byRegister_9 (by decide) (fun c12 => ?_) (fun c12 => ?_)
  · have h := i_yes c12 h
    refine lv_iconst (v := 0) hx hb dX4_byRegister_16 (by decide) ?_
    cases h
    exact r_zret hC hw (Or.inl rfl) dX4_byRegister_17
  · have h := i_no c12 h
    refine lv_iconst (v := 1) hx hb dX4_byRegister_12 (by decide) ?_
    refine lv_goto (tgt := 17) hx hb dX4_byRegister_13 (by decide) ?_
    cases h
    exact r_zret hC hw (Or.inr rfl) dX4_byRegister_17
set_option maxHeartbeats 4000000 in
set_option maxRecDepth 100000 in
theorem k_X4_byRegister {l : Launch} {G : va_G} {cA : Nat → ClassId} {S : sh} {D : dt} {ad : Nat → Nat} (sz : Nat) {o0 a0 : Nat} {x1 : Int32} {r : Int32} (hi0 : Is S ad o0 a0 3) (h : f_X4_byRegister S D o0 x1 = some r) : Co l yX4_byRegister (Cond.code yX4_byRegister cX4_byRegister 2 (some .boolean) :: tb0) 0 0 [.ref a0, .int x1] G cA S D ad sz (some (.int r)) True D := by
  refine Met.ofW (cc := cX4_byRegister) (maxL := 2) (ret := (some .boolean)) (by decide) rfl ?_
  intro p e s m args below meth c s₁ B hml hv
  obtain ⟨rfl, hsz, hP, hK, hD0, hT, hX⟩ := hv
  subst hsz
  have hts := atoms_spec (ws := Cond.code yX4_byRegister cX4_byRegister 2 (some .boolean) :: tb0) B.pre
  have hC : Cx RX4 cX4_byRegister 2 (some .boolean) p s m _ meth c := ⟨B.exec, B.bytes, hml, findClass_of_methodNamed B.named, fun w q => hts w (List.mem_cons_of_mem _ q), B.returns, B.notSynchronized⟩
  have hw := Wd.entry hP hK hD0 hT hX
  have hl := lv_entry ([.ref a0, .int x1]) (n := 2) (Nat.le_of_ble_eq_true rfl)
  rw [lg_entry_eq]
  exact w_X4_byRegister_0 hC ⟨Nat.le_refl _, Nat.le_refl _⟩ o0 a0 x1 _ _ _ hi0 hw hl h
set_option maxHeartbeats 4000000 in
set_option maxRecDepth 100000 in
theorem w_X4_hasBadX_0 {r : Int32} (hC : Cx RX4 cX4_hasBadX 2 (some .boolean) p s m args meth c) (hR : 1 ≤ R.frames ∧ 21 ≤ R.locals) : ∀ (o0 a0 : Nat) (x1 : Int32) (H : Heap) (locs : List Loc) (ls : Array Slot), Is S ad o0 a0 3 → Wd G cA S D ad A s H locs → lv_has ls 2 [(0, .ref a0), (1, .int x1)] → f_X4_hasBadX S D o0 x1 = some r → W p l e R s m args below meth c H locs 0 0 (MQ below (Qn (some (.int r)) True (wpost G cA S D ad A) A) args s 0 0 A) (F0 m 0 ls []) := by
  obtain ⟨hx, hb, -⟩ := id hC
  intro o0 a0 x1 H locs ls hi0 hw hl h
  unfold f_X4_hasBadX at h
  refine lv_aload_n hx hb dX4_hasBadX_0 rfl (lv_at hl 0 rfl) ?_
  refine lv_iload_n hx hb dX4_hasBadX_1 rfl (lv_at hl 1 rfl) ?_
  obtain ⟨r17, hq16, h⟩ := pq_i h
  refine r_cV (st' := [.int r17]) [.int x1] [] hC hw kc_3 hi0 (k_X4_byRegister _ hi0 hq16) mk_X4_byRegister lk_541 ⟨Nat.le_trans (by decide) hR.1, Nat.le_trans (by decide) hR.2⟩ ⟨Nat.zero_le _, Nat.zero_le _⟩ rfl hl.1 rfl rfl (Nat.le_of_ble_eq_true rfl) dX4_hasBadX_2 (fun hP H locs hw => ?_)
  refine lv_if_eq (tgt := 25) hx hb dX4_hasBadX_5 (by decide) (fun c18 => ?_) (fun c18 => ?_)
  · have h := i_yes c18 h
    refine lv_aload_n hx hb dX4_hasBadX_25 rfl (lv_at hl 0 rfl) ?_
    obtain ⟨o19, ho22, h⟩ := rq_i h
    refine r_getR hC hw kc_3 hi0 2 rfl lk_147 dX4_hasBadX_26 rfl ho22 (fun a20 hi21 => ?_)
    refine lv_iload_n hx hb dX4_hasBadX_29 rfl (lv_at hl 1 rfl) ?_
    obtain ⟨hn23, h⟩ := ix_i h
    refine r_iald hC hw hi21 hn23 dX4_hasBadX_30 ?_
    refine lv_if_eq (tgt := 38) hx hb dX4_hasBadX_31 (by decide) (fun c24 => ?_) (fun c24 => ?_)
    · have h := i_yes c24 h
      refine lv_iconst (v := 0) hx hb dX4_hasBadX_38 (by decide) ?_
      cases h
      exact r_zret hC hw (Or.inl rfl) dX4_hasBadX_39
    · have h := i_no c24 h
      refine lv_iconst (v := 1) hx hb dX4_hasBadX_34 (by decide) ?_
      refine lv_goto (tgt := 39) hx hb dX4_hasBadX_35 (by decide) ?_
      cases h
      exact r_zret hC hw (Or.inr rfl) dX4_hasBadX_39
  · have h := i_no c18 h
    refine lv_aload_n hx hb dX4_hasBadX_8 rfl (lv_at hl 0 rfl) ?_
    obtain ⟨o25, ho28, h⟩ := rq_i h
    refine r_getR hC hw kc_3 hi0 4 rfl lk_153 dX4_hasBadX_9 rfl ho28 (fun a26 hi27 => ?_)
    refine lv_iload_n hx hb dX4_hasBadX_12 rfl (lv_at hl 1 rfl) ?_
    obtain ⟨hn29, h⟩ := ix_i h
    refine r_iald hC hw hi27 hn29 dX4_hasBadX_13 ?_
    refine lv_if_eq (tgt := 21) hx hb dX4_hasBadX_14 (by decide) (fun c30 => ?_) (fun c30 => ?_)
    · have h := i_yes c30 h
      refine lv_iconst (v := 0) hx hb dX4_hasBadX_21 (by decide) ?_
      refine lv_goto (tgt := 39) hx hb dX4_hasBadX_22 (by decide) ?_
      cases h
      exact r_zret hC hw (Or.inl rfl) dX4_hasBadX_39
    · have h := i_no c30 h
      refine lv_iconst (v := 1) hx hb dX4_hasBadX_17 (by decide) ?_
      refine lv_goto (tgt := 39) hx hb dX4_hasBadX_18 (by decide) ?_
      cases h
      exact r_zret hC hw (Or.inr rfl) dX4_hasBadX_39
set_option maxHeartbeats 4000000 in
set_option maxRecDepth 100000 in
theorem k_X4_hasBadX {l : Launch} {G : va_G} {cA : Nat → ClassId} {S : sh} {D : dt} {ad : Nat → Nat} (sz : Nat) {o0 a0 : Nat} {x1 : Int32} {r : Int32} (hi0 : Is S ad o0 a0 3) (h : f_X4_hasBadX S D o0 x1 = some r) : Co l yX4_hasBadX (Cond.code yX4_hasBadX cX4_hasBadX 2 (some .boolean) :: tb0) 1 21 [.ref a0, .int x1] G cA S D ad sz (some (.int r)) True D := by
  refine Met.ofW (cc := cX4_hasBadX) (maxL := 2) (ret := (some .boolean)) (by decide) rfl ?_
  intro p e s m args below meth c s₁ B hml hv
  obtain ⟨rfl, hsz, hP, hK, hD0, hT, hX⟩ := hv
  subst hsz
  have hts := atoms_spec (ws := Cond.code yX4_hasBadX cX4_hasBadX 2 (some .boolean) :: tb0) B.pre
  have hC : Cx RX4 cX4_hasBadX 2 (some .boolean) p s m _ meth c := ⟨B.exec, B.bytes, hml, findClass_of_methodNamed B.named, fun w q => hts w (List.mem_cons_of_mem _ q), B.returns, B.notSynchronized⟩
  have hw := Wd.entry hP hK hD0 hT hX
  have hl := lv_entry ([.ref a0, .int x1]) (n := 2) (Nat.le_of_ble_eq_true rfl)
  rw [lg_entry_eq]
  exact w_X4_hasBadX_0 hC ⟨Nat.le_refl _, Nat.le_refl _⟩ o0 a0 x1 _ _ _ hi0 hw hl h
set_option maxHeartbeats 4000000 in
set_option maxRecDepth 100000 in
theorem w_X4_hasBadOffset_93 {r : Int32} (hC : Cx RX4 cX4_hasBadOffset 5 (some .boolean) p s m args meth c) (hR : 1 ≤ R.frames ∧ 22 ≤ R.locals) : ∀  (H : Heap) (locs : List Loc) (ls : Array Slot), Wd G cA S D ad A s H locs → lv_has ls 5 [] → f_X4_hasBadOffset_93 S D = some r → W p l e R s m args below meth c H locs 0 0 (MQ below (Qn (some (.int r)) True (wpost G cA S D ad A) A) args s 0 0 A) (F0 m 93 ls []) := by
  obtain ⟨hx, hb, -⟩ := id hC
  intro H locs ls  hw hl h
  unfold f_X4_hasBadOffset_93 at h
  refine lv_iconst (v := 1) hx hb dX4_hasBadOffset_93 (by decide) ?_
  refine lv_goto (tgt := 98) hx hb dX4_hasBadOffset_94 (by decide) ?_
  cases h
  exact r_zret hC hw (Or.inr rfl) dX4_hasBadOffset_98
set_option maxHeartbeats 4000000 in
set_option maxRecDepth 100000 in
theorem w_X4_hasBadOffset_72 {r : Int32} (hC : Cx RX4 cX4_hasBadOffset 5 (some .boolean) p s m args meth c) (hR : 1 ≤ R.frames ∧ 22 ≤ R.locals) : ∀ (o0 a0 : Nat) (x1 : Int32) (x2 : Int32) (xs0 : Int32) (H : Heap) (locs : List Loc) (ls : Array Slot), Is S ad o0 a0 3 → Wd G cA S D ad A s H locs → lv_has ls 5 [(0, .ref a0), (1, .int x1), (2, .int x2)] → f_X4_hasBadOffset_72 S D o0 x1 x2 xs0 = some r → W p l e R s m args below meth c H locs 0 0 (MQ below (Qn (some (.int r)) True (wpost G cA S D ad A) A) args s 0 0 A) (F0 m 72 ls [.int xs0]) := by
  obtain ⟨hx, hb, -⟩ := id hC
  intro o0 a0 x1 x2 xs0 H locs ls hi0 hw hl h
  unfold f_X4_hasBadOffset_72 at h
  refine lv_istore (lv' := [(4, .int xs0), (0, .ref a0), (1, .int x1), (2, .int x2)]) hx hb dX4_hasBadOffset_72 hl (by decide) rfl (fun ls hl => ?_)
  refine lv_iload_n hx hb dX4_hasBadOffset_74 rfl (lv_at hl 3 rfl) ?_
  refine lv_bipush (v := 11) hx hb dX4_hasBadOffset_75 (by decide) ?_
  refine lv_icmp_ne (tgt := 93) hx hb dX4_hasBadOffset_77 (by decide) (fun c24 => ?_) (fun c24 => ?_)
  · have h := i_no c24 h
    exact w_X4_hasBadOffset_93 hC hR _ _ _ hw (lv_sub hl [] rfl) h
  · have h := i_yes c24 h
    refine lv_aload_n hx hb dX4_hasBadOffset_80 rfl (lv_at hl 1 rfl) ?_
    refine lv_iload_n hx hb dX4_hasBadOffset_81 rfl (lv_at hl 2 rfl) ?_
    obtain ⟨r26, hq25, h⟩ := pq_i h
    refine r_cV (st' := [.int r26]) [.int x1] [] hC hw kc_3 hi0 (k_X4_byRegister _ hi0 hq25) mk_X4_byRegister lk_541 ⟨Nat.le_trans (by decide) hR.1, Nat.le_trans (by decide) hR.2⟩ ⟨Nat.zero_le _, Nat.zero_le _⟩ rfl hl.1 rfl rfl (Nat.le_of_ble_eq_true rfl) dX4_hasBadOffset_82 (fun hP H locs hw => ?_)
    refine lv_if_eq (tgt := 93) hx hb dX4_hasBadOffset_85 (by decide) (fun c27 => ?_) (fun c27 => ?_)
    · have h := i_yes c27 h
      exact w_X4_hasBadOffset_93 hC hR _ _ _ hw (lv_sub hl [] rfl) h
    · have h := i_no c27 h
      refine lv_iload hx hb dX4_hasBadOffset_88 (lv_at hl 0 rfl) ?_
      refine lv_if_ne (tgt := 97) hx hb dX4_hasBadOffset_90 (by decide) (fun c28 => ?_) (fun c28 => ?_)
      · have h := i_no c28 h
        refine lv_iconst (v := 0) hx hb dX4_hasBadOffset_97 (by decide) ?_
        cases h
        exact r_zret hC hw (Or.inl rfl) dX4_hasBadOffset_98
      · have h := i_yes c28 h
        exact w_X4_hasBadOffset_93 hC hR _ _ _ hw (lv_sub hl [] rfl) h
set_option maxHeartbeats 4000000 in
set_option maxRecDepth 100000 in
theorem w_X4_hasBadOffset_67 {r : Int32} (hC : Cx RX4 cX4_hasBadOffset 5 (some .boolean) p s m args meth c) (hR : 1 ≤ R.frames ∧ 22 ≤ R.locals) : ∀ (o0 a0 : Nat) (x1 : Int32) (x2 : Int32) (H : Heap) (locs : List Loc) (ls : Array Slot), Is S ad o0 a0 3 → Wd G cA S D ad A s H locs → lv_has ls 5 [(0, .ref a0), (1, .int x1), (2, .int x2)] → f_X4_hasBadOffset_67 S D o0 x1 x2 = some r → W p l e R s m args below meth c H locs 0 0 (MQ below (Qn (some (.int r)) True (wpost G cA S D ad A) A) args s 0 0 A) (F0 m 67 ls []) := by
  obtain ⟨hx, hb, -⟩ := id hC
  intro o0 a0 x1 x2 H locs ls hi0 hw hl h
  unfold f_X4_hasBadOffset_67 at h
  refine lv_iconst (v := 1) hx hb dX4_hasBadOffset_67 (by decide) ?_
  refine lv_goto (tgt := 72) hx hb dX4_hasBadOffset_68 (by decide) ?_
  exact w_X4_hasBadOffset_72 hC hR o0 a0 x1 x2 (1 : Int32) _ _ _ hi0 hw (lv_sub hl [0, 1, 2] rfl) h
set_option maxHeartbeats 4000000 in
set_option maxRecDepth 100000 in
theorem w_X4_hasBadOffset_30 {r : Int32} (hC : Cx RX4 cX4_hasBadOffset 5 (some .boolean) p s m args meth c) (hR : 1 ≤ R.frames ∧ 22 ≤ R.locals) : ∀ (x3 : Int32) (H : Heap) (locs : List Loc) (ls : Array Slot), Wd G cA S D ad A s H locs → lv_has ls 5 [(3, .int x3)] → f_X4_hasBadOffset_30 S D x3 = some r → W p l e R s m args below meth c H locs 0 0 (MQ below (Qn (some (.int r)) True (wpost G cA S D ad A) A) args s 0 0 A) (F0 m 30 ls []) := by
  obtain ⟨hx, hb, -⟩ := id hC
  intro x3 H locs ls  hw hl h
  unfold f_X4_hasBadOffset_30 at h
  refine lv_iload_n hx hb dX4_hasBadOffset_30 rfl (lv_at hl 0 rfl) ?_
  refine lv_iconst (v := 1) hx hb dX4_hasBadOffset_31 (by decide) ?_
  refine lv_icmp_eq (tgt := 39) hx hb dX4_hasBadOffset_32 (by decide) (fun c29 => ?_) (fun c29 => ?_)
  · have h := i_yes c29 h
    refine lv_iconst (v := 0) hx hb dX4_hasBadOffset_39 (by decide) ?_
    cases h
    exact r_zret hC hw (Or.inl rfl) dX4_hasBadOffset_40
  · have h := i_no c29 h
    refine lv_iconst (v := 1) hx hb dX4_hasBadOffset_35 (by decide) ?_
    refine lv_goto (tgt := 40) hx hb dX4_hasBadOffset_36 (by decide) ?_
    cases h
    exact r_zret hC hw (Or.inr rfl) dX4_hasBadOffset_40
set_option maxHeartbeats 4000000 in
set_option maxRecDepth 100000 in
theorem w_X4_hasBadOffset_71 {r : Int32} (hC : Cx RX4 cX4_hasBadOffset 5 (some .boolean) p s m args meth c) (hR : 1 ≤ R.frames ∧ 22 ≤ R.locals) : ∀ (o0 a0 : Nat) (x1 : Int32) (x2 : Int32) (H : Heap) (locs : List Loc) (ls : Array Slot), Is S ad o0 a0 3 → Wd G cA S D ad A s H locs → lv_has ls 5 [(0, .ref a0), (1, .int x1), (2, .int x2)] → f_X4_hasBadOffset_71 S D o0 x1 x2 = some r → W p l e R s m args below meth c H locs 0 0 (MQ below (Qn (some (.int r)) True (wpost G cA S D ad A) A) args s 0 0 A) (F0 m 71 ls []) := by
  obtain ⟨hx, hb, -⟩ := id hC
  intro o0 a0 x1 x2 H locs ls hi0 hw hl h
  unfold f_X4_hasBadOffset_71 at h
  refine lv_iconst (v := 0) hx hb dX4_hasBadOffset_71 (by decide) ?_
  exact w_X4_hasBadOffset_72 hC hR o0 a0 x1 x2 (0 : Int32) _ _ _ hi0 hw (lv_sub hl [0, 1, 2] rfl) h
set_option maxHeartbeats 4000000 in
set_option maxRecDepth 100000 in
theorem w_X4_hasBadOffset_0 {r : Int32} (hC : Cx RX4 cX4_hasBadOffset 5 (some .boolean) p s m args meth c) (hR : 1 ≤ R.frames ∧ 22 ≤ R.locals) : ∀ (o0 a0 : Nat) (x1 : Int32) (H : Heap) (locs : List Loc) (ls : Array Slot), Is S ad o0 a0 3 → Wd G cA S D ad A s H locs → lv_has ls 5 [(0, .ref a0), (1, .int x1)] → f_X4_hasBadOffset S D o0 x1 = some r → W p l e R s m args below meth c H locs 0 0 (MQ below (Qn (some (.int r)) True (wpost G cA S D ad A) A) args s 0 0 A) (F0 m 0 ls []) := by
  obtain ⟨hx, hb, -⟩ := id hC
  intro o0 a0 x1 H locs ls hi0 hw hl h
  unfold f_X4_hasBadOffset at h
  refine lv_aload_n hx hb dX4_hasBadOffset_0 rfl (lv_at hl 0 rfl) ?_
  refine lv_iload_n hx hb dX4_hasBadOffset_1 rfl (lv_at hl 1 rfl) ?_
  obtain ⟨r31, hq30, h⟩ := pq_i h
  refine r_cV (st' := [.int r31]) [.int x1] [] hC hw kc_3 hi0 (k_X4_code _ hi0 hq30) mk_X4_code lk_533 ⟨Nat.le_trans (by decide) hR.1, Nat.le_trans (by decide) hR.2⟩ ⟨Nat.zero_le _, Nat.zero_le _⟩ rfl hl.1 rfl rfl (Nat.le_of_ble_eq_true rfl) dX4_hasBadOffset_2 (fun hP H locs hw => ?_)
  refine lv_istore_n (lv' := [(2, .int r31), (0, .ref a0), (1, .int x1)]) hx hb dX4_hasBadOffset_5 rfl hl (by decide) rfl (fun ls hl => ?_)
  refine lv_aload_n hx hb dX4_hasBadOffset_6 rfl (lv_at hl 1 rfl) ?_
  obtain ⟨o32, ho35, h⟩ := rq_i h
  refine r_getR hC hw kc_3 hi0 3 rfl lk_150 dX4_hasBadOffset_7 rfl ho35 (fun a33 hi34 => ?_)
  refine lv_iload_n hx hb dX4_hasBadOffset_10 rfl (lv_at hl 2 rfl) ?_
  obtain ⟨hn36, h⟩ := ix_i h
  refine r_iald hC hw hi34 hn36 dX4_hasBadOffset_11 ?_
  refine lv_topi (fun y37 ey37 => ?_)
  have h := nm_i h y37 ey37
  refine lv_istore_n (lv' := [(3, .int y37), (2, .int r31), (0, .ref a0), (1, .int x1)]) hx hb dX4_hasBadOffset_12 rfl hl (by decide) rfl (fun ls hl => ?_)
  refine lv_iload_n hx hb dX4_hasBadOffset_13 rfl (lv_at hl 0 rfl) ?_
  refine lv_if_ne (tgt := 19) hx hb dX4_hasBadOffset_14 (by decide) (fun c38 => ?_) (fun c38 => ?_)
  · have h := i_no c38 h
    refine lv_iload_n hx hb dX4_hasBadOffset_19 rfl (lv_at hl 1 rfl) ?_
    refine lv_iconst (v := 3) hx hb dX4_hasBadOffset_20 (by decide) ?_
    refine lv_icmp_eq (tgt := 30) hx hb dX4_hasBadOffset_21 (by decide) (fun c39 => ?_) (fun c39 => ?_)
    · have h := i_yes c39 h
      exact w_X4_hasBadOffset_30 hC hR y37 _ _ _ hw (lv_sub hl [0] rfl) h
    · have h := i_no c39 h
      refine lv_iload_n hx hb dX4_hasBadOffset_24 rfl (lv_at hl 1 rfl) ?_
      refine lv_bipush (v := 9) hx hb dX4_hasBadOffset_25 (by decide) ?_
      refine lv_icmp_ne (tgt := 41) hx hb dX4_hasBadOffset_27 (by decide) (fun c40 => ?_) (fun c40 => ?_)
      · have h := i_no c40 h
        refine lv_iload_n hx hb dX4_hasBadOffset_41 rfl (lv_at hl 0 rfl) ?_
        refine lv_bipush (v := 8) hx hb dX4_hasBadOffset_42 (by decide) ?_
        refine lv_icmp_eq (tgt := 67) hx hb dX4_hasBadOffset_44 (by decide) (fun c41 => ?_) (fun c41 => ?_)
        · have h := i_yes c41 h
          exact w_X4_hasBadOffset_67 hC hR o0 a0 x1 r31 _ _ _ hi0 hw (lv_sub hl [2, 3, 1] rfl) h
        · have h := i_no c41 h
          refine lv_iload_n hx hb dX4_hasBadOffset_47 rfl (lv_at hl 0 rfl) ?_
          refine lv_bipush (v := 16) hx hb dX4_hasBadOffset_48 (by decide) ?_
          refine lv_icmp_eq (tgt := 67) hx hb dX4_hasBadOffset_50 (by decide) (fun c42 => ?_) (fun c42 => ?_)
          · have h := i_yes c42 h
            exact w_X4_hasBadOffset_67 hC hR o0 a0 x1 r31 _ _ _ hi0 hw (lv_sub hl [2, 3, 1] rfl) h
          · have h := i_no c42 h
            refine lv_iload_n hx hb dX4_hasBadOffset_53 rfl (lv_at hl 0 rfl) ?_
            refine lv_bipush (v := 32) hx hb dX4_hasBadOffset_54 (by decide) ?_
            refine lv_icmp_ne (tgt := 71) hx hb dX4_hasBadOffset_56 (by decide) (fun c43 => ?_) (fun c43 => ?_)
            · have h := i_no c43 h
              exact w_X4_hasBadOffset_71 hC hR o0 a0 x1 r31 _ _ _ hi0 hw (lv_sub hl [2, 3, 1] rfl) h
            · have h := i_yes c43 h
              refine lv_aload_n hx hb dX4_hasBadOffset_59 rfl (lv_at hl 2 rfl) ?_
              refine lv_iload_n hx hb dX4_hasBadOffset_60 rfl (lv_at hl 3 rfl) ?_
              obtain ⟨r45, hq44, h⟩ := pq_i h
              refine r_cV (st' := [.int r45]) [.int x1] [] hC hw kc_3 hi0 (k_X4_isWide _ hi0 hq44) mk_X4_isWide lk_537 ⟨Nat.le_trans (by decide) hR.1, Nat.le_trans (by decide) hR.2⟩ ⟨Nat.zero_le _, Nat.zero_le _⟩ rfl hl.1 rfl rfl (Nat.le_of_ble_eq_true rfl) dX4_hasBadOffset_61 (fun hP H locs hw => ?_)
              refine lv_if_eq (tgt := 71) hx hb dX4_hasBadOffset_64 (by decide) (fun c46 => ?_) (fun c46 => ?_)
              · have h := i_yes c46 h
                exact w_X4_hasBadOffset_71 hC hR o0 a0 x1 r31 _ _ _ hi0 hw (lv_sub hl [2, 3, 1] rfl) h
              · have h := i_no c46 h
                exact w_X4_hasBadOffset_67 hC hR o0 a0 x1 r31 _ _ _ hi0 hw (lv_sub hl [2, 3, 1] rfl) h
      · have h := i_yes c40 h
        exact w_X4_hasBadOffset_30 hC hR y37 _ _ _ hw (lv_sub hl [0] rfl) h
  · have h := i_yes c38 h
    refine lv_iconst (v := 0) hx hb dX4_hasBadOffset_17 (by decide) ?_
    cases h
    exact r_zret hC hw (Or.inl rfl) dX4_hasBadOffset_18
set_option maxHeartbeats 4000000 in
set_option maxRecDepth 100000 in
theorem k_X4_hasBadOffset {l : Launch} {G : va_G} {cA : Nat → ClassId} {S : sh} {D : dt} {ad : Nat → Nat} (sz : Nat) {o0 a0 : Nat} {x1 : Int32} {r : Int32} (hi0 : Is S ad o0 a0 3) (h : f_X4_hasBadOffset S D o0 x1 = some r) : Co l yX4_hasBadOffset (Cond.code yX4_hasBadOffset cX4_hasBadOffset 5 (some .boolean) :: tb0) 1 22 [.ref a0, .int x1] G cA S D ad sz (some (.int r)) True D := by
  refine Met.ofW (cc := cX4_hasBadOffset) (maxL := 5) (ret := (some .boolean)) (by decide) rfl ?_
  intro p e s m args below meth c s₁ B hml hv
  obtain ⟨rfl, hsz, hP, hK, hD0, hT, hX⟩ := hv
  subst hsz
  have hts := atoms_spec (ws := Cond.code yX4_hasBadOffset cX4_hasBadOffset 5 (some .boolean) :: tb0) B.pre
  have hC : Cx RX4 cX4_hasBadOffset 5 (some .boolean) p s m _ meth c := ⟨B.exec, B.bytes, hml, findClass_of_methodNamed B.named, fun w q => hts w (List.mem_cons_of_mem _ q), B.returns, B.notSynchronized⟩
  have hw := Wd.entry hP hK hD0 hT hX
  have hl := lv_entry ([.ref a0, .int x1]) (n := 5) (Nat.le_of_ble_eq_true rfl)
  rw [lg_entry_eq]
  exact w_X4_hasBadOffset_0 hC ⟨Nat.le_refl _, Nat.le_refl _⟩ o0 a0 x1 _ _ _ hi0 hw hl h
set_option maxHeartbeats 4000000 in
set_option maxRecDepth 100000 in
theorem w_X4_isBadArithmetic_108 {r : Int32} (hC : Cx RX4 cX4_isBadArithmetic 4 (some .boolean) p s m args meth c) (hR : 2 ≤ R.frames ∧ 46 ≤ R.locals) : ∀  (H : Heap) (locs : List Loc) (ls : Array Slot), Wd G cA S D ad A s H locs → lv_has ls 4 [] → f_X4_isBadArithmetic_108 S D = some r → W p l e R s m args below meth c H locs 0 0 (MQ below (Qn (some (.int r)) True (wpost G cA S D ad A) A) args s 0 0 A) (F0 m 108 ls []) := by
  obtain ⟨hx, hb, -⟩ := id hC
  intro H locs ls  hw hl h
  unfold f_X4_isBadArithmetic_108 at h
  refine lv_iconst (v := 1) hx hb dX4_isBadArithmetic_108 (by decide) ?_
  refine lv_goto (tgt := 113) hx hb dX4_isBadArithmetic_109 (by decide) ?_
  cases h
  exact r_zret hC hw (Or.inr rfl) dX4_isBadArithmetic_113
set_option maxHeartbeats 4000000 in
set_option maxRecDepth 100000 in
theorem w_X4_isBadArithmetic_69 {r : Int32} (hC : Cx RX4 cX4_isBadArithmetic 4 (some .boolean) p s m args meth c) (hR : 2 ≤ R.frames ∧ 46 ≤ R.locals) : ∀ (o0 a0 : Nat) (x1 : Int32) (xs0 : Int32) (H : Heap) (locs : List Loc) (ls : Array Slot), Is S ad o0 a0 3 → Wd G cA S D ad A s H locs → lv_has ls 4 [(0, .ref a0), (1, .int x1)] → f_X4_isBadArithmetic_69 S D o0 x1 xs0 = some r → W p l e R s m args below meth c H locs 0 0 (MQ below (Qn (some (.int r)) True (wpost G cA S D ad A) A) args s 0 0 A) (F0 m 69 ls [.int xs0]) := by
  obtain ⟨hx, hb, -⟩ := id hC
  intro o0 a0 x1 xs0 H locs ls hi0 hw hl h
  unfold f_X4_isBadArithmetic_69 at h
  refine lv_istore_n (lv' := [(3, .int xs0), (0, .ref a0), (1, .int x1)]) hx hb dX4_isBadArithmetic_69 rfl hl (by decide) rfl (fun ls hl => ?_)
  refine lv_iload_n hx hb dX4_isBadArithmetic_70 rfl (lv_at hl 0 rfl) ?_
  refine lv_if_eq (tgt := 108) hx hb dX4_isBadArithmetic_71 (by decide) (fun c64 => ?_) (fun c64 => ?_)
  · have h := i_yes c64 h
    exact w_X4_isBadArithmetic_108 hC hR _ _ _ hw (lv_sub hl [] rfl) h
  · have h := i_no c64 h
    refine lv_aload_n hx hb dX4_isBadArithmetic_74 rfl (lv_at hl 1 rfl) ?_
    obtain ⟨o65, ho68, h⟩ := rq_i h
    refine r_getR hC hw kc_3 hi0 2 rfl lk_147 dX4_isBadArithmetic_75 rfl ho68 (fun a66 hi67 => ?_)
    refine lv_iload_n hx hb dX4_isBadArithmetic_78 rfl (lv_at hl 2 rfl) ?_
    obtain ⟨hn69, h⟩ := ix_i h
    refine r_iald hC hw hi67 hn69 dX4_isBadArithmetic_79 ?_
    refine lv_if_ne (tgt := 108) hx hb dX4_isBadArithmetic_80 (by decide) (fun c70 => ?_) (fun c70 => ?_)
    · have h := i_no c70 h
      exact w_X4_isBadArithmetic_108 hC hR _ _ _ hw (lv_sub hl [] rfl) h
    · have h := i_yes c70 h
      refine lv_aload_n hx hb dX4_isBadArithmetic_83 rfl (lv_at hl 1 rfl) ?_
      obtain ⟨o71, ho74, h⟩ := rq_i h
      refine r_getR hC hw kc_3 hi0 3 rfl lk_150 dX4_isBadArithmetic_84 rfl ho74 (fun a72 hi73 => ?_)
      refine lv_iload_n hx hb dX4_isBadArithmetic_87 rfl (lv_at hl 2 rfl) ?_
      obtain ⟨hn75, h⟩ := ix_i h
      refine r_iald hC hw hi73 hn75 dX4_isBadArithmetic_88 ?_
      refine lv_if_ne (tgt := 108) hx hb dX4_isBadArithmetic_89 (by decide) (fun c76 => ?_) (fun c76 => ?_)
      · have h := i_no c76 h
        exact w_X4_isBadArithmetic_108 hC hR _ _ _ hw (lv_sub hl [] rfl) h
      · have h := i_yes c76 h
        refine lv_aload_n hx hb dX4_isBadArithmetic_92 rfl (lv_at hl 1 rfl) ?_
        refine lv_iload_n hx hb dX4_isBadArithmetic_93 rfl (lv_at hl 2 rfl) ?_
        obtain ⟨r78, hq77, h⟩ := pq_i h
        refine r_cV (st' := [.int r78]) [.int x1] [] hC hw kc_3 hi0 (k_X4_isWide _ hi0 hq77) mk_X4_isWide lk_537 ⟨Nat.le_trans (by decide) hR.1, Nat.le_trans (by decide) hR.2⟩ ⟨Nat.zero_le _, Nat.zero_le _⟩ rfl hl.1 rfl rfl (Nat.le_of_ble_eq_true rfl) dX4_isBadArithmetic_94 (fun hP H locs hw => ?_)
        refine lv_if_eq (tgt := 112) hx hb dX4_isBadArithmetic_97 (by decide) (fun c79 => ?_) (fun c79 => ?_)
        · have h := i_yes c79 h
          refine lv_iconst (v := 0) hx hb dX4_isBadArithmetic_112 (by decide) ?_
          cases h
          exact r_zret hC hw (Or.inl rfl) dX4_isBadArithmetic_113
        · have h := i_no c79 h
          refine lv_aload_n hx hb dX4_isBadArithmetic_100 rfl (lv_at hl 1 rfl) ?_
          refine lv_iload_n hx hb dX4_isBadArithmetic_101 rfl (lv_at hl 2 rfl) ?_
          obtain ⟨r81, hq80, h⟩ := pq_i h
          refine r_cV (st' := [.int r81]) [.int x1] [] hC hw kc_3 hi0 (k_X4_byRegister _ hi0 hq80) mk_X4_byRegister lk_541 ⟨Nat.le_trans (by decide) hR.1, Nat.le_trans (by decide) hR.2⟩ ⟨Nat.zero_le _, Nat.zero_le _⟩ rfl hl.1 rfl rfl (Nat.le_of_ble_eq_true rfl) dX4_isBadArithmetic_102 (fun hP H locs hw => ?_)
          refine lv_if_eq (tgt := 112) hx hb dX4_isBadArithmetic_105 (by decide) (fun c82 => ?_) (fun c82 => ?_)
          · have h := i_yes c82 h
            refine lv_iconst (v := 0) hx hb dX4_isBadArithmetic_112 (by decide) ?_
            cases h
            exact r_zret hC hw (Or.inl rfl) dX4_isBadArithmetic_113
          · have h := i_no c82 h
            exact w_X4_isBadArithmetic_108 hC hR _ _ _ hw (lv_sub hl [] rfl) h
set_option maxHeartbeats 4000000 in
set_option maxRecDepth 100000 in
theorem w_X4_isBadArithmetic_64 {r : Int32} (hC : Cx RX4 cX4_isBadArithmetic 4 (some .boolean) p s m args meth c) (hR : 2 ≤ R.frames ∧ 46 ≤ R.locals) : ∀ (o0 a0 : Nat) (x1 : Int32) (H : Heap) (locs : List Loc) (ls : Array Slot), Is S ad o0 a0 3 → Wd G cA S D ad A s H locs → lv_has ls 4 [(0, .ref a0), (1, .int x1)] → f_X4_isBadArithmetic_64 S D o0 x1 = some r → W p l e R s m args below meth c H locs 0 0 (MQ below (Qn (some (.int r)) True (wpost G cA S D ad A) A) args s 0 0 A) (F0 m 64 ls []) := by
  obtain ⟨hx, hb, -⟩ := id hC
  intro o0 a0 x1 H locs ls hi0 hw hl h
  unfold f_X4_isBadArithmetic_64 at h
  refine lv_iconst (v := 1) hx hb dX4_isBadArithmetic_64 (by decide) ?_
  refine lv_goto (tgt := 69) hx hb dX4_isBadArithmetic_65 (by decide) ?_
  exact w_X4_isBadArithmetic_69 hC hR o0 a0 x1 (1 : Int32) _ _ _ hi0 hw (lv_sub hl [0, 1] rfl) h
set_option maxHeartbeats 4000000 in
set_option maxRecDepth 100000 in
theorem w_X4_isBadArithmetic_155 {r : Int32} (hC : Cx RX4 cX4_isBadArithmetic 4 (some .boolean) p s m args meth c) (hR : 2 ≤ R.frames ∧ 46 ≤ R.locals) : ∀  (H : Heap) (locs : List Loc) (ls : Array Slot), Wd G cA S D ad A s H locs → lv_has ls 4 [] → f_X4_isBadArithmetic_155 S D = some r → W p l e R s m args below meth c H locs 0 0 (MQ below (Qn (some (.int r)) True (wpost G cA S D ad A) A) args s 0 0 A) (F0 m 155 ls []) := by
  obtain ⟨hx, hb, -⟩ := id hC
  intro H locs ls  hw hl h
  unfold f_X4_isBadArithmetic_155 at h
  refine lv_iconst (v := 1) hx hb dX4_isBadArithmetic_155 (by decide) ?_
  refine lv_goto (tgt := 160) hx hb dX4_isBadArithmetic_156 (by decide) ?_
  cases h
  exact r_zret hC hw (Or.inr rfl) dX4_isBadArithmetic_160
set_option maxHeartbeats 4000000 in
set_option maxRecDepth 100000 in
theorem w_X4_isBadArithmetic_139 {r : Int32} (hC : Cx RX4 cX4_isBadArithmetic 4 (some .boolean) p s m args meth c) (hR : 2 ≤ R.frames ∧ 46 ≤ R.locals) : ∀ (o0 a0 : Nat) (x1 : Int32) (H : Heap) (locs : List Loc) (ls : Array Slot), Is S ad o0 a0 3 → Wd G cA S D ad A s H locs → lv_has ls 4 [(0, .ref a0), (1, .int x1)] → f_X4_isBadArithmetic_139 S D o0 x1 = some r → W p l e R s m args below meth c H locs 0 0 (MQ below (Qn (some (.int r)) True (wpost G cA S D ad A) A) args s 0 0 A) (F0 m 139 ls []) := by
  obtain ⟨hx, hb, -⟩ := id hC
  intro o0 a0 x1 H locs ls hi0 hw hl h
  unfold f_X4_isBadArithmetic_139 at h
  refine lv_aload_n hx hb dX4_isBadArithmetic_139 rfl (lv_at hl 0 rfl) ?_
  refine lv_iload_n hx hb dX4_isBadArithmetic_140 rfl (lv_at hl 1 rfl) ?_
  obtain ⟨r84, hq83, h⟩ := pq_i h
  refine r_cV (st' := [.int r84]) [.int x1] [] hC hw kc_3 hi0 (k_X4_hasBadX _ hi0 hq83) mk_X4_hasBadX lk_545 ⟨Nat.le_trans (by decide) hR.1, Nat.le_trans (by decide) hR.2⟩ ⟨Nat.zero_le _, Nat.zero_le _⟩ rfl hl.1 rfl rfl (Nat.le_of_ble_eq_true rfl) dX4_isBadArithmetic_141 (fun hP H locs hw => ?_)
  refine lv_if_ne (tgt := 155) hx hb dX4_isBadArithmetic_144 (by decide) (fun c85 => ?_) (fun c85 => ?_)
  · have h := i_no c85 h
    exact w_X4_isBadArithmetic_155 hC hR _ _ _ hw (lv_sub hl [] rfl) h
  · have h := i_yes c85 h
    refine lv_aload_n hx hb dX4_isBadArithmetic_147 rfl (lv_at hl 0 rfl) ?_
    refine lv_iload_n hx hb dX4_isBadArithmetic_148 rfl (lv_at hl 1 rfl) ?_
    obtain ⟨r87, hq86, h⟩ := pq_i h
    refine r_cV (st' := [.int r87]) [.int x1] [] hC hw kc_3 hi0 (k_X4_hasBadOffset _ hi0 hq86) mk_X4_hasBadOffset lk_549 ⟨Nat.le_trans (by decide) hR.1, Nat.le_trans (by decide) hR.2⟩ ⟨Nat.zero_le _, Nat.zero_le _⟩ rfl hl.1 rfl rfl (Nat.le_of_ble_eq_true rfl) dX4_isBadArithmetic_149 (fun hP H locs hw => ?_)
    refine lv_if_eq (tgt := 159) hx hb dX4_isBadArithmetic_152 (by decide) (fun c88 => ?_) (fun c88 => ?_)
    · have h := i_yes c88 h
      refine lv_iconst (v := 0) hx hb dX4_isBadArithmetic_159 (by decide) ?_
      cases h
      exact r_zret hC hw (Or.inl rfl) dX4_isBadArithmetic_160
    · have h := i_no c88 h
      exact w_X4_isBadArithmetic_155 hC hR _ _ _ hw (lv_sub hl [] rfl) h
set_option maxHeartbeats 4000000 in
set_option maxRecDepth 100000 in
theorem w_X4_isBadArithmetic_0 {r : Int32} (hC : Cx RX4 cX4_isBadArithmetic 4 (some .boolean) p s m args meth c) (hR : 2 ≤ R.frames ∧ 46 ≤ R.locals) : ∀ (o0 a0 : Nat) (x1 : Int32) (H : Heap) (locs : List Loc) (ls : Array Slot), Is S ad o0 a0 3 → Wd G cA S D ad A s H locs → lv_has ls 4 [(0, .ref a0), (1, .int x1)] → f_X4_isBadArithmetic S D o0 x1 = some r → W p l e R s m args below meth c H locs 0 0 (MQ below (Qn (some (.int r)) True (wpost G cA S D ad A) A) args s 0 0 A) (F0 m 0 ls []) := by
  obtain ⟨hx, hb, -⟩ := id hC
  intro o0 a0 x1 H locs ls hi0 hw hl h
  unfold f_X4_isBadArithmetic at h
  refine lv_aload_n hx hb dX4_isBadArithmetic_0 rfl (lv_at hl 0 rfl) ?_
  refine lv_iload_n hx hb dX4_isBadArithmetic_1 rfl (lv_at hl 1 rfl) ?_
  obtain ⟨r90, hq89, h⟩ := pq_i h
  refine r_cV (st' := [.int r90]) [.int x1] [] hC hw kc_3 hi0 (k_X4_code _ hi0 hq89) mk_X4_code lk_533 ⟨Nat.le_trans (by decide) hR.1, Nat.le_trans (by decide) hR.2⟩ ⟨Nat.zero_le _, Nat.zero_le _⟩ rfl hl.1 rfl rfl (Nat.le_of_ble_eq_true rfl) dX4_isBadArithmetic_2 (fun hP H locs hw => ?_)
  refine lv_istore_n (lv' := [(2, .int r90), (0, .ref a0), (1, .int x1)]) hx hb dX4_isBadArithmetic_5 rfl hl (by decide) rfl (fun ls hl => ?_)
  refine lv_aload_n hx hb dX4_isBadArithmetic_6 rfl (lv_at hl 1 rfl) ?_
  obtain ⟨o91, ho94, h⟩ := rq_i h
  refine r_getR hC hw kc_3 hi0 1 rfl lk_144 dX4_isBadArithmetic_7 rfl ho94 (fun a92 hi93 => ?_)
  refine lv_iload_n hx hb dX4_isBadArithmetic_10 rfl (lv_at hl 2 rfl) ?_
  obtain ⟨hn95, h⟩ := ix_i h
  refine r_iald hC hw hi93 hn95 dX4_isBadArithmetic_11 ?_
  refine lv_bipush (v := 10) hx hb dX4_isBadArithmetic_12 (by decide) ?_
  refine lv_icmp_ge (tgt := 23) hx hb dX4_isBadArithmetic_14 (by decide) (fun c96 => ?_) (fun c96 => ?_)
  · have h := i_yes c96 h
    refine lv_iconst (v := 1) hx hb dX4_isBadArithmetic_23 (by decide) ?_
    cases h
    exact r_zret hC hw (Or.inr rfl) dX4_isBadArithmetic_24
  · have h := i_no c96 h
    refine lv_iload_n hx hb dX4_isBadArithmetic_17 rfl (lv_at hl 0 rfl) ?_
    refine lv_bipush (v := 13) hx hb dX4_isBadArithmetic_18 (by decide) ?_
    refine lv_icmp_le (tgt := 25) hx hb dX4_isBadArithmetic_20 (by decide) (fun c97 => ?_) (fun c97 => ?_)
    · have h := i_yes c97 h
      refine lv_iload_n hx hb dX4_isBadArithmetic_25 rfl (lv_at hl 0 rfl) ?_
      refine lv_bipush (v := 13) hx hb dX4_isBadArithmetic_26 (by decide) ?_
      refine lv_icmp_ne (tgt := 114) hx hb dX4_isBadArithmetic_28 (by decide) (fun c98 => ?_) (fun c98 => ?_)
      · have h := i_no c98 h
        refine lv_iload_n hx hb dX4_isBadArithmetic_114 rfl (lv_at hl 0 rfl) ?_
        refine lv_bipush (v := 8) hx hb dX4_isBadArithmetic_115 (by decide) ?_
        refine lv_icmp_ne (tgt := 139) hx hb dX4_isBadArithmetic_117 (by decide) (fun c99 => ?_) (fun c99 => ?_)
        · have h := i_no c99 h
          exact w_X4_isBadArithmetic_139 hC hR o0 a0 x1 _ _ _ hi0 hw (lv_sub hl [1, 2] rfl) h
        · have h := i_yes c99 h
          refine lv_aload_n hx hb dX4_isBadArithmetic_120 rfl (lv_at hl 1 rfl) ?_
          refine lv_iload_n hx hb dX4_isBadArithmetic_121 rfl (lv_at hl 2 rfl) ?_
          obtain ⟨r101, hq100, h⟩ := pq_i h
          refine r_cV (st' := [.int r101]) [.int x1] [] hC hw kc_3 hi0 (k_X4_byRegister _ hi0 hq100) mk_X4_byRegister lk_541 ⟨Nat.le_trans (by decide) hR.1, Nat.le_trans (by decide) hR.2⟩ ⟨Nat.zero_le _, Nat.zero_le _⟩ rfl hl.1 rfl rfl (Nat.le_of_ble_eq_true rfl) dX4_isBadArithmetic_122 (fun hP H locs hw => ?_)
          refine lv_if_ne (tgt := 137) hx hb dX4_isBadArithmetic_125 (by decide) (fun c102 => ?_) (fun c102 => ?_)
          · have h := i_no c102 h
            refine lv_iconst (v := 1) hx hb dX4_isBadArithmetic_137 (by decide) ?_
            cases h
            exact r_zret hC hw (Or.inr rfl) dX4_isBadArithmetic_138
          · have h := i_yes c102 h
            refine lv_aload_n hx hb dX4_isBadArithmetic_128 rfl (lv_at hl 1 rfl) ?_
            obtain ⟨o103, ho106, h⟩ := rq_i h
            refine r_getR hC hw kc_3 hi0 4 rfl lk_153 dX4_isBadArithmetic_129 rfl ho106 (fun a104 hi105 => ?_)
            refine lv_iload_n hx hb dX4_isBadArithmetic_132 rfl (lv_at hl 2 rfl) ?_
            obtain ⟨hn107, h⟩ := ix_i h
            refine r_iald hC hw hi105 hn107 dX4_isBadArithmetic_133 ?_
            refine lv_if_eq (tgt := 139) hx hb dX4_isBadArithmetic_134 (by decide) (fun c108 => ?_) (fun c108 => ?_)
            · have h := i_yes c108 h
              exact w_X4_isBadArithmetic_139 hC hR o0 a0 x1 _ _ _ hi0 hw (lv_sub hl [1, 2] rfl) h
            · have h := i_no c108 h
              refine lv_iconst (v := 1) hx hb dX4_isBadArithmetic_137 (by decide) ?_
              cases h
              exact r_zret hC hw (Or.inr rfl) dX4_isBadArithmetic_138
      · have h := i_yes c98 h
        refine lv_aload_n hx hb dX4_isBadArithmetic_31 rfl (lv_at hl 1 rfl) ?_
        obtain ⟨o109, ho112, h⟩ := rq_i h
        refine r_getR hC hw kc_3 hi0 4 rfl lk_153 dX4_isBadArithmetic_32 rfl ho112 (fun a110 hi111 => ?_)
        refine lv_iload_n hx hb dX4_isBadArithmetic_35 rfl (lv_at hl 2 rfl) ?_
        obtain ⟨hn113, h⟩ := ix_i h
        refine r_iald hC hw hi111 hn113 dX4_isBadArithmetic_36 ?_
        refine lv_bipush (v := 16) hx hb dX4_isBadArithmetic_37 (by decide) ?_
        refine lv_icmp_eq (tgt := 64) hx hb dX4_isBadArithmetic_39 (by decide) (fun c114 => ?_) (fun c114 => ?_)
        · have h := i_yes c114 h
          exact w_X4_isBadArithmetic_64 hC hR o0 a0 x1 _ _ _ hi0 hw (lv_sub hl [1, 2] rfl) h
        · have h := i_no c114 h
          refine lv_aload_n hx hb dX4_isBadArithmetic_42 rfl (lv_at hl 1 rfl) ?_
          obtain ⟨o115, ho118, h⟩ := rq_i h
          refine r_getR hC hw kc_3 hi0 4 rfl lk_153 dX4_isBadArithmetic_43 rfl ho118 (fun a116 hi117 => ?_)
          refine lv_iload_n hx hb dX4_isBadArithmetic_46 rfl (lv_at hl 2 rfl) ?_
          obtain ⟨hn119, h⟩ := ix_i h
          refine r_iald hC hw hi117 hn119 dX4_isBadArithmetic_47 ?_
          refine lv_bipush (v := 32) hx hb dX4_isBadArithmetic_48 (by decide) ?_
          refine lv_icmp_eq (tgt := 64) hx hb dX4_isBadArithmetic_50 (by decide) (fun c120 => ?_) (fun c120 => ?_)
          · have h := i_yes c120 h
            exact w_X4_isBadArithmetic_64 hC hR o0 a0 x1 _ _ _ hi0 hw (lv_sub hl [1, 2] rfl) h
          · have h := i_no c120 h
            refine lv_aload_n hx hb dX4_isBadArithmetic_53 rfl (lv_at hl 1 rfl) ?_
            obtain ⟨o121, ho124, h⟩ := rq_i h
            refine r_getR hC hw kc_3 hi0 4 rfl lk_153 dX4_isBadArithmetic_54 rfl ho124 (fun a122 hi123 => ?_)
            refine lv_iload_n hx hb dX4_isBadArithmetic_57 rfl (lv_at hl 2 rfl) ?_
            obtain ⟨hn125, h⟩ := ix_i h
            refine r_iald hC hw hi123 hn125 dX4_isBadArithmetic_58 ?_
            refine lv_bipush (v := 64) hx hb dX4_isBadArithmetic_59 (by decide) ?_
            refine lv_icmp_ne (tgt := 68) hx hb dX4_isBadArithmetic_61 (by decide) (fun c126 => ?_) (fun c126 => ?_)
            · have h := i_no c126 h
              refine lv_iconst (v := 0) hx hb dX4_isBadArithmetic_68 (by decide) ?_
              exact w_X4_isBadArithmetic_69 hC hR o0 a0 x1 (0 : Int32) _ _ _ hi0 hw (lv_sub hl [1, 2] rfl) h
            · have h := i_yes c126 h
              exact w_X4_isBadArithmetic_64 hC hR o0 a0 x1 _ _ _ hi0 hw (lv_sub hl [1, 2] rfl) h
    · have h := i_no c97 h
      refine lv_iconst (v := 1) hx hb dX4_isBadArithmetic_23 (by decide) ?_
      cases h
      exact r_zret hC hw (Or.inr rfl) dX4_isBadArithmetic_24
set_option maxHeartbeats 4000000 in
set_option maxRecDepth 100000 in
theorem k_X4_isBadArithmetic {l : Launch} {G : va_G} {cA : Nat → ClassId} {S : sh} {D : dt} {ad : Nat → Nat} (sz : Nat) {o0 a0 : Nat} {x1 : Int32} {r : Int32} (hi0 : Is S ad o0 a0 3) (h : f_X4_isBadArithmetic S D o0 x1 = some r) : Co l yX4_isBadArithmetic (Cond.code yX4_isBadArithmetic cX4_isBadArithmetic 4 (some .boolean) :: tb0) 2 46 [.ref a0, .int x1] G cA S D ad sz (some (.int r)) True D := by
  refine Met.ofW (cc := cX4_isBadArithmetic) (maxL := 4) (ret := (some .boolean)) (by decide) rfl ?_
  intro p e s m args below meth c s₁ B hml hv
  obtain ⟨rfl, hsz, hP, hK, hD0, hT, hX⟩ := hv
  subst hsz
  have hts := atoms_spec (ws := Cond.code yX4_isBadArithmetic cX4_isBadArithmetic 4 (some .boolean) :: tb0) B.pre
  have hC : Cx RX4 cX4_isBadArithmetic 4 (some .boolean) p s m _ meth c := ⟨B.exec, B.bytes, hml, findClass_of_methodNamed B.named, fun w q => hts w (List.mem_cons_of_mem _ q), B.returns, B.notSynchronized⟩
  have hw := Wd.entry hP hK hD0 hT hX
  have hl := lv_entry ([.ref a0, .int x1]) (n := 4) (Nat.le_of_ble_eq_true rfl)
  rw [lg_entry_eq]
  exact w_X4_isBadArithmetic_0 hC ⟨Nat.le_refl _, Nat.le_refl _⟩ o0 a0 x1 _ _ _ hi0 hw hl h
set_option maxHeartbeats 4000000 in
set_option maxRecDepth 100000 in
theorem w_X4_isBadHelper_16 {r : Int32} (hC : Cx RX4 cX4_isBadHelper 1 (some .boolean) p s m args meth c) (hR : 0 ≤ R.frames ∧ 0 ≤ R.locals) : ∀  (H : Heap) (locs : List Loc) (ls : Array Slot), Wd G cA S D ad A s H locs → lv_has ls 1 [] → f_X4_isBadHelper_16 = some r → W p l e R s m args below meth c H locs 0 0 (MQ below (Qn (some (.int r)) True (wpost G cA S D ad A) A) args s 0 0 A) (F0 m 16 ls []) := by
  obtain ⟨hx, hb, -⟩ := id hC
  intro H locs ls hw hl h
  unfold f_X4_isBadHelper_16 at h
  refine lv_iconst (v := 1) hx hb dX4_isBadHelper_16 (by decide) ?_
  refine lv_goto (tgt := 21) hx hb dX4_isBadHelper_17 (by decide) ?_
  cases h
  exact r_zret hC hw (Or.inr rfl) dX4_isBadHelper_21
set_option maxHeartbeats 4000000 in
set_option maxRecDepth 100000 in
theorem w_X4_isBadHelper_0 {r : Int32} (hC : Cx RX4 cX4_isBadHelper 1 (some .boolean) p s m args meth c) (hR : 0 ≤ R.frames ∧ 0 ≤ R.locals) : ∀ (x0 : Int32) (H : Heap) (locs : List Loc) (ls : Array Slot), Wd G cA S D ad A s H locs → lv_has ls 1 [(0, .int x0)] → f_X4_isBadHelper x0 = some r → W p l e R s m args below meth c H locs 0 0 (MQ below (Qn (some (.int r)) True (wpost G cA S D ad A) A) args s 0 0 A) (F0 m 0 ls []) := by
  obtain ⟨hx, hb, -⟩ := id hC
  intro x0 H locs ls hw hl h
  unfold f_X4_isBadHelper at h
  refine lv_iload_n hx hb dX4_isBadHelper_0 rfl (lv_at hl 0 rfl) ?_
  refine lv_iconst (v := 1) hx hb dX4_isBadHelper_1 (by decide) ?_
  refine lv_icmp_lt (tgt := 16) hx hb dX4_isBadHelper_2 (by decide) (fun c4 => ?_) (fun c4 => ?_)
  · have h := i_yes c4 h
    exact w_X4_isBadHelper_16 hC hR _ _ _ hw (lv_sub hl [] rfl) h
  · have h := i_no c4 h
    refine lv_iload_n hx hb dX4_isBadHelper_5 rfl (lv_at hl 0 rfl) ?_
    refine lv_bipush (v := 6) hx hb dX4_isBadHelper_6 (by decide) ?_
    refine lv_icmp_gt (tgt := 16) hx hb dX4_isBadHelper_8 (by decide) (fun c5 => ?_) (fun c5 => ?_)
    · have h := i_yes c5 h
      exact w_X4_isBadHelper_16 hC hR _ _ _ hw (lv_sub hl [] rfl) h
    · have h := i_no c5 h
      refine lv_iload_n hx hb dX4_isBadHelper_11 rfl (lv_at hl 0 rfl) ?_
      refine lv_iconst (v := 4) hx hb dX4_isBadHelper_12 (by decide) ?_
      refine lv_icmp_ne (tgt := 20) hx hb dX4_isBadHelper_13 (by decide) (fun c6 => ?_) (fun c6 => ?_)
      · have h := i_no c6 h
        refine lv_iconst (v := 0) hx hb dX4_isBadHelper_20 (by decide) ?_
        cases h
        exact r_zret hC hw (Or.inl rfl) dX4_isBadHelper_21
      · have h := i_yes c6 h
        exact w_X4_isBadHelper_16 hC hR _ _ _ hw (lv_sub hl [] rfl) h
set_option maxHeartbeats 4000000 in
set_option maxRecDepth 100000 in
theorem k_X4_isBadHelper {l : Launch} {G : va_G} {cA : Nat → ClassId} {S : sh} {D : dt} {ad : Nat → Nat} (sz : Nat) {x0 : Int32} {r : Int32}  (h : f_X4_isBadHelper x0 = some r) : Co l yX4_isBadHelper (Cond.code yX4_isBadHelper cX4_isBadHelper 1 (some .boolean) :: tb0) 0 0 [.int x0] G cA S D ad sz (some (.int r)) True D := by
  refine Met.ofW (cc := cX4_isBadHelper) (maxL := 1) (ret := (some .boolean)) (by decide) rfl ?_
  intro p e s m args below meth c s₁ B hml hv
  obtain ⟨rfl, hsz, hP, hK, hD0, hT, hX⟩ := hv
  subst hsz
  have hts := atoms_spec (ws := Cond.code yX4_isBadHelper cX4_isBadHelper 1 (some .boolean) :: tb0) B.pre
  have hC : Cx RX4 cX4_isBadHelper 1 (some .boolean) p s m _ meth c := ⟨B.exec, B.bytes, hml, findClass_of_methodNamed B.named, fun w q => hts w (List.mem_cons_of_mem _ q), B.returns, B.notSynchronized⟩
  have hw := Wd.entry hP hK hD0 hT hX
  have hl := lv_entry ([.int x0]) (n := 1) (Nat.le_of_ble_eq_true rfl)
  rw [lg_entry_eq]
  exact w_X4_isBadHelper_0 hC ⟨Nat.le_refl _, Nat.le_refl _⟩ x0 _ _ _ hw hl h
set_option maxHeartbeats 4000000 in
set_option maxRecDepth 100000 in
theorem w_X4_isBadJump_42 {r : Int32} (hC : Cx RX4 cX4_isBadJump 3 (some .boolean) p s m args meth c) (hR : 2 ≤ R.frames ∧ 42 ≤ R.locals) : ∀ (o0 a0 : Nat) (x1 : Int32) (x2 : Int32) (H : Heap) (locs : List Loc) (ls : Array Slot), Is S ad o0 a0 3 → Wd G cA S D ad A s H locs → lv_has ls 3 [(0, .ref a0), (1, .int x1), (2, .int x2)] → f_X4_isBadJump_42 S D o0 x1 x2 = some r → W p l e R s m args below meth c H locs 0 0 (MQ below (Qn (some (.int r)) True (wpost G cA S D ad A) A) args s 0 0 A) (F0 m 42 ls []) := by
  obtain ⟨hx, hb, -⟩ := id hC
  intro o0 a0 x1 x2 H locs ls hi0 hw hl h
  unfold f_X4_isBadJump_42 at h
  refine lv_aload_n hx hb dX4_isBadJump_42 rfl (lv_at hl 0 rfl) ?_
  refine lv_iload_n hx hb dX4_isBadJump_43 rfl (lv_at hl 1 rfl) ?_
  obtain ⟨r66, hq65, h⟩ := pq_i h
  refine r_cV (st' := [.int r66]) [.int x1] [] hC hw kc_3 hi0 (k_X4_byRegister _ hi0 hq65) mk_X4_byRegister lk_541 ⟨Nat.le_trans (by decide) hR.1, Nat.le_trans (by decide) hR.2⟩ ⟨Nat.zero_le _, Nat.zero_le _⟩ rfl hl.1 rfl rfl (Nat.le_of_ble_eq_true rfl) dX4_isBadJump_44 (fun hP H locs hw => ?_)
  refine lv_if_ne (tgt := 68) hx hb dX4_isBadJump_47 (by decide) (fun c67 => ?_) (fun c67 => ?_)
  · have h := i_no c67 h
    refine lv_iconst (v := 1) hx hb dX4_isBadJump_68 (by decide) ?_
    cases h
    exact r_zret hC hw (Or.inr rfl) dX4_isBadJump_69
  · have h := i_yes c67 h
    refine lv_aload_n hx hb dX4_isBadJump_50 rfl (lv_at hl 0 rfl) ?_
    obtain ⟨o68, ho71, h⟩ := rq_i h
    refine r_getR hC hw kc_3 hi0 1 rfl lk_144 dX4_isBadJump_51 rfl ho71 (fun a69 hi70 => ?_)
    refine lv_iload_n hx hb dX4_isBadJump_54 rfl (lv_at hl 1 rfl) ?_
    obtain ⟨hn72, h⟩ := ix_i h
    refine r_iald hC hw hi70 hn72 dX4_isBadJump_55 ?_
    refine lv_if_ne (tgt := 68) hx hb dX4_isBadJump_56 (by decide) (fun c73 => ?_) (fun c73 => ?_)
    · have h := i_no c73 h
      refine lv_iconst (v := 1) hx hb dX4_isBadJump_68 (by decide) ?_
      cases h
      exact r_zret hC hw (Or.inr rfl) dX4_isBadJump_69
    · have h := i_yes c73 h
      refine lv_aload_n hx hb dX4_isBadJump_59 rfl (lv_at hl 0 rfl) ?_
      obtain ⟨o74, ho77, h⟩ := rq_i h
      refine r_getR hC hw kc_3 hi0 2 rfl lk_147 dX4_isBadJump_60 rfl ho77 (fun a75 hi76 => ?_)
      refine lv_iload_n hx hb dX4_isBadJump_63 rfl (lv_at hl 1 rfl) ?_
      obtain ⟨hn78, h⟩ := ix_i h
      refine r_iald hC hw hi76 hn78 dX4_isBadJump_64 ?_
      refine lv_if_eq (tgt := 70) hx hb dX4_isBadJump_65 (by decide) (fun c79 => ?_) (fun c79 => ?_)
      · have h := i_yes c79 h
        refine lv_iload_n hx hb dX4_isBadJump_70 rfl (lv_at hl 2 rfl) ?_
        refine lv_if_ne (tgt := 114) hx hb dX4_isBadJump_71 (by decide) (fun c80 => ?_) (fun c80 => ?_)
        · have h := i_no c80 h
          refine lv_aload_n hx hb dX4_isBadJump_114 rfl (lv_at hl 0 rfl) ?_
          refine lv_iload_n hx hb dX4_isBadJump_115 rfl (lv_at hl 1 rfl) ?_
          obtain ⟨r82, hq81, h⟩ := pq_i h
          refine r_cV (st' := [.int r82]) [.int x1] [] hC hw kc_3 hi0 (k_X4_isWide _ hi0 hq81) mk_X4_isWide lk_537 ⟨Nat.le_trans (by decide) hR.1, Nat.le_trans (by decide) hR.2⟩ ⟨Nat.zero_le _, Nat.zero_le _⟩ rfl hl.1 rfl rfl (Nat.le_of_ble_eq_true rfl) dX4_isBadJump_116 (fun hP H locs hw => ?_)
          refine lv_if_eq (tgt := 131) hx hb dX4_isBadJump_119 (by decide) (fun c83 => ?_) (fun c83 => ?_)
          · have h := i_yes c83 h
            refine lv_iconst (v := 1) hx hb dX4_isBadJump_131 (by decide) ?_
            cases h
            exact r_zret hC hw (Or.inr rfl) dX4_isBadJump_132
          · have h := i_no c83 h
            refine lv_aload_n hx hb dX4_isBadJump_122 rfl (lv_at hl 0 rfl) ?_
            obtain ⟨o84, ho87, h⟩ := rq_i h
            refine r_getR hC hw kc_3 hi0 3 rfl lk_150 dX4_isBadJump_123 rfl ho87 (fun a85 hi86 => ?_)
            refine lv_iload_n hx hb dX4_isBadJump_126 rfl (lv_at hl 1 rfl) ?_
            obtain ⟨hn88, h⟩ := ix_i h
            refine r_iald hC hw hi86 hn88 dX4_isBadJump_127 ?_
            refine lv_if_eq (tgt := 133) hx hb dX4_isBadJump_128 (by decide) (fun c89 => ?_) (fun c89 => ?_)
            · have h := i_yes c89 h
              refine lv_iload_n hx hb dX4_isBadJump_133 rfl (lv_at hl 2 rfl) ?_
              refine lv_bipush (v := 8) hx hb dX4_isBadJump_134 (by decide) ?_
              refine lv_icmp_ne (tgt := 151) hx hb dX4_isBadJump_136 (by decide) (fun c90 => ?_) (fun c90 => ?_)
              · have h := i_no c90 h
                refine lv_aload_n hx hb dX4_isBadJump_151 rfl (lv_at hl 0 rfl) ?_
                obtain ⟨o91, ho94, h⟩ := rq_i h
                refine r_getR hC hw kc_3 hi0 4 rfl lk_153 dX4_isBadJump_152 rfl ho94 (fun a92 hi93 => ?_)
                refine lv_iload_n hx hb dX4_isBadJump_155 rfl (lv_at hl 1 rfl) ?_
                obtain ⟨hn95, h⟩ := ix_i h
                refine r_iald hC hw hi93 hn95 dX4_isBadJump_156 ?_
                refine lv_if_eq (tgt := 164) hx hb dX4_isBadJump_157 (by decide) (fun c96 => ?_) (fun c96 => ?_)
                · have h := i_yes c96 h
                  refine lv_iconst (v := 0) hx hb dX4_isBadJump_164 (by decide) ?_
                  cases h
                  exact r_zret hC hw (Or.inl rfl) dX4_isBadJump_165
                · have h := i_no c96 h
                  refine lv_iconst (v := 1) hx hb dX4_isBadJump_160 (by decide) ?_
                  refine lv_goto (tgt := 165) hx hb dX4_isBadJump_161 (by decide) ?_
                  cases h
                  exact r_zret hC hw (Or.inr rfl) dX4_isBadJump_165
              · have h := i_yes c90 h
                refine lv_aload_n hx hb dX4_isBadJump_139 rfl (lv_at hl 0 rfl) ?_
                obtain ⟨o97, ho100, h⟩ := rq_i h
                refine r_getR hC hw kc_3 hi0 4 rfl lk_153 dX4_isBadJump_140 rfl ho100 (fun a98 hi99 => ?_)
                refine lv_iload_n hx hb dX4_isBadJump_143 rfl (lv_at hl 1 rfl) ?_
                obtain ⟨hn101, h⟩ := ix_i h
                refine r_iald hC hw hi99 hn101 dX4_isBadJump_144 ?_
                obtain ⟨r103, hq102, h⟩ := pq_i h
                refine r_cS (st' := [.int r103]) [.int (gI D o97 x1.toNatClampNeg)] [] hC hw (k_X4_isBadHelper _ hq102) mk_X4_isBadHelper lk_557 ⟨Nat.le_trans (by decide) hR.1, Nat.le_trans (by decide) hR.2⟩ ⟨Nat.zero_le _, Nat.zero_le _⟩ rfl hl.1 rfl rfl (Nat.le_of_ble_eq_true rfl) dX4_isBadJump_145 (fun hP H locs hw => ?_)
                refine lv_goto (tgt := 165) hx hb dX4_isBadJump_148 (by decide) ?_
                obtain ⟨hz104, h⟩ := ck_i h
                cases h
                exact r_zret hC hw hz104 dX4_isBadJump_165
            · have h := i_no c89 h
              refine lv_iconst (v := 1) hx hb dX4_isBadJump_131 (by decide) ?_
              cases h
              exact r_zret hC hw (Or.inr rfl) dX4_isBadJump_132
        · have h := i_yes c80 h
          refine lv_aload_n hx hb dX4_isBadJump_74 rfl (lv_at hl 0 rfl) ?_
          refine lv_iload_n hx hb dX4_isBadJump_75 rfl (lv_at hl 1 rfl) ?_
          obtain ⟨r106, hq105, h⟩ := pq_i h
          refine r_cV (st' := [.int r106]) [.int x1] [] hC hw kc_3 hi0 (k_X4_isWide _ hi0 hq105) mk_X4_isWide lk_537 ⟨Nat.le_trans (by decide) hR.1, Nat.le_trans (by decide) hR.2⟩ ⟨Nat.zero_le _, Nat.zero_le _⟩ rfl hl.1 rfl rfl (Nat.le_of_ble_eq_true rfl) dX4_isBadJump_76 (fun hP H locs hw => ?_)
          refine lv_if_eq (tgt := 99) hx hb dX4_isBadJump_79 (by decide) (fun c107 => ?_) (fun c107 => ?_)
          · have h := i_yes c107 h
            refine lv_aload_n hx hb dX4_isBadJump_99 rfl (lv_at hl 0 rfl) ?_
            obtain ⟨o108, ho111, h⟩ := rq_i h
            refine r_getR hC hw kc_3 hi0 3 rfl lk_150 dX4_isBadJump_100 rfl ho111 (fun a109 hi110 => ?_)
            refine lv_iload_n hx hb dX4_isBadJump_103 rfl (lv_at hl 1 rfl) ?_
            obtain ⟨hn112, h⟩ := ix_i h
            refine r_iald hC hw hi110 hn112 dX4_isBadJump_104 ?_
            refine lv_if_eq (tgt := 112) hx hb dX4_isBadJump_105 (by decide) (fun c113 => ?_) (fun c113 => ?_)
            · have h := i_yes c113 h
              refine lv_iconst (v := 0) hx hb dX4_isBadJump_112 (by decide) ?_
              cases h
              exact r_zret hC hw (Or.inl rfl) dX4_isBadJump_113
            · have h := i_no c113 h
              refine lv_iconst (v := 1) hx hb dX4_isBadJump_108 (by decide) ?_
              refine lv_goto (tgt := 113) hx hb dX4_isBadJump_109 (by decide) ?_
              cases h
              exact r_zret hC hw (Or.inr rfl) dX4_isBadJump_113
          · have h := i_no c107 h
            refine lv_aload_n hx hb dX4_isBadJump_82 rfl (lv_at hl 0 rfl) ?_
            obtain ⟨o114, ho117, h⟩ := rq_i h
            refine r_getR hC hw kc_3 hi0 4 rfl lk_153 dX4_isBadJump_83 rfl ho117 (fun a115 hi116 => ?_)
            refine lv_iload_n hx hb dX4_isBadJump_86 rfl (lv_at hl 1 rfl) ?_
            obtain ⟨hn118, h⟩ := ix_i h
            refine r_iald hC hw hi116 hn118 dX4_isBadJump_87 ?_
            refine lv_if_eq (tgt := 95) hx hb dX4_isBadJump_88 (by decide) (fun c119 => ?_) (fun c119 => ?_)
            · have h := i_yes c119 h
              refine lv_iconst (v := 0) hx hb dX4_isBadJump_95 (by decide) ?_
              refine lv_goto (tgt := 113) hx hb dX4_isBadJump_96 (by decide) ?_
              cases h
              exact r_zret hC hw (Or.inl rfl) dX4_isBadJump_113
            · have h := i_no c119 h
              refine lv_iconst (v := 1) hx hb dX4_isBadJump_91 (by decide) ?_
              refine lv_goto (tgt := 113) hx hb dX4_isBadJump_92 (by decide) ?_
              cases h
              exact r_zret hC hw (Or.inr rfl) dX4_isBadJump_113
      · have h := i_no c79 h
        refine lv_iconst (v := 1) hx hb dX4_isBadJump_68 (by decide) ?_
        cases h
        exact r_zret hC hw (Or.inr rfl) dX4_isBadJump_69
set_option maxHeartbeats 4000000 in
set_option maxRecDepth 100000 in
theorem w_X4_isBadJump_36 {r : Int32} (hC : Cx RX4 cX4_isBadJump 3 (some .boolean) p s m args meth c) (hR : 2 ≤ R.frames ∧ 42 ≤ R.locals) : ∀  (H : Heap) (locs : List Loc) (ls : Array Slot), Wd G cA S D ad A s H locs → lv_has ls 3 [] → f_X4_isBadJump_36 S D = some r → W p l e R s m args below meth c H locs 0 0 (MQ below (Qn (some (.int r)) True (wpost G cA S D ad A) A) args s 0 0 A) (F0 m 36 ls []) := by
  obtain ⟨hx, hb, -⟩ := id hC
  intro H locs ls  hw hl h
  unfold f_X4_isBadJump_36 at h
  refine lv_iconst (v := 1) hx hb dX4_isBadJump_36 (by decide) ?_
  refine lv_goto (tgt := 41) hx hb dX4_isBadJump_37 (by decide) ?_
  cases h
  exact r_zret hC hw (Or.inr rfl) dX4_isBadJump_41
set_option maxHeartbeats 4000000 in
set_option maxRecDepth 100000 in
theorem w_X4_isBadJump_0 {r : Int32} (hC : Cx RX4 cX4_isBadJump 3 (some .boolean) p s m args meth c) (hR : 2 ≤ R.frames ∧ 42 ≤ R.locals) : ∀ (o0 a0 : Nat) (x1 : Int32) (H : Heap) (locs : List Loc) (ls : Array Slot), Is S ad o0 a0 3 → Wd G cA S D ad A s H locs → lv_has ls 3 [(0, .ref a0), (1, .int x1)] → f_X4_isBadJump S D o0 x1 = some r → W p l e R s m args below meth c H locs 0 0 (MQ below (Qn (some (.int r)) True (wpost G cA S D ad A) A) args s 0 0 A) (F0 m 0 ls []) := by
  obtain ⟨hx, hb, -⟩ := id hC
  intro o0 a0 x1 H locs ls hi0 hw hl h
  unfold f_X4_isBadJump at h
  refine lv_aload_n hx hb dX4_isBadJump_0 rfl (lv_at hl 0 rfl) ?_
  refine lv_iload_n hx hb dX4_isBadJump_1 rfl (lv_at hl 1 rfl) ?_
  obtain ⟨r121, hq120, h⟩ := pq_i h
  refine r_cV (st' := [.int r121]) [.int x1] [] hC hw kc_3 hi0 (k_X4_code _ hi0 hq120) mk_X4_code lk_533 ⟨Nat.le_trans (by decide) hR.1, Nat.le_trans (by decide) hR.2⟩ ⟨Nat.zero_le _, Nat.zero_le _⟩ rfl hl.1 rfl rfl (Nat.le_of_ble_eq_true rfl) dX4_isBadJump_2 (fun hP H locs hw => ?_)
  refine lv_istore_n (lv' := [(2, .int r121), (0, .ref a0), (1, .int x1)]) hx hb dX4_isBadJump_5 rfl hl (by decide) rfl (fun ls hl => ?_)
  refine lv_iload_n hx hb dX4_isBadJump_6 rfl (lv_at hl 0 rfl) ?_
  refine lv_if_eq (tgt := 42) hx hb dX4_isBadJump_7 (by decide) (fun c122 => ?_) (fun c122 => ?_)
  · have h := i_yes c122 h
    exact w_X4_isBadJump_42 hC hR o0 a0 x1 r121 _ _ _ hi0 hw (lv_sub hl [1, 2, 0] rfl) h
  · have h := i_no c122 h
    refine lv_iload_n hx hb dX4_isBadJump_10 rfl (lv_at hl 0 rfl) ?_
    refine lv_bipush (v := 8) hx hb dX4_isBadJump_11 (by decide) ?_
    refine lv_icmp_eq (tgt := 42) hx hb dX4_isBadJump_13 (by decide) (fun c123 => ?_) (fun c123 => ?_)
    · have h := i_yes c123 h
      exact w_X4_isBadJump_42 hC hR o0 a0 x1 r121 _ _ _ hi0 hw (lv_sub hl [1, 2, 0] rfl) h
    · have h := i_no c123 h
      refine lv_iload_n hx hb dX4_isBadJump_16 rfl (lv_at hl 0 rfl) ?_
      refine lv_bipush (v := 9) hx hb dX4_isBadJump_17 (by decide) ?_
      refine lv_icmp_eq (tgt := 42) hx hb dX4_isBadJump_19 (by decide) (fun c124 => ?_) (fun c124 => ?_)
      · have h := i_yes c124 h
        exact w_X4_isBadJump_42 hC hR o0 a0 x1 r121 _ _ _ hi0 hw (lv_sub hl [1, 2, 0] rfl) h
      · have h := i_no c124 h
        refine lv_iload_n hx hb dX4_isBadJump_22 rfl (lv_at hl 0 rfl) ?_
        refine lv_bipush (v := 13) hx hb dX4_isBadJump_23 (by decide) ?_
        refine lv_icmp_gt (tgt := 36) hx hb dX4_isBadJump_25 (by decide) (fun c125 => ?_) (fun c125 => ?_)
        · have h := i_yes c125 h
          exact w_X4_isBadJump_36 hC hR _ _ _ hw (lv_sub hl [] rfl) h
        · have h := i_no c125 h
          refine lv_aload_n hx hb dX4_isBadJump_28 rfl (lv_at hl 1 rfl) ?_
          refine lv_iload_n hx hb dX4_isBadJump_29 rfl (lv_at hl 2 rfl) ?_
          obtain ⟨r127, hq126, h⟩ := pq_i h
          refine r_cV (st' := [.int r127]) [.int x1] [] hC hw kc_3 hi0 (k_X4_hasBadX _ hi0 hq126) mk_X4_hasBadX lk_545 ⟨Nat.le_trans (by decide) hR.1, Nat.le_trans (by decide) hR.2⟩ ⟨Nat.zero_le _, Nat.zero_le _⟩ rfl hl.1 rfl rfl (Nat.le_of_ble_eq_true rfl) dX4_isBadJump_30 (fun hP H locs hw => ?_)
          refine lv_if_eq (tgt := 40) hx hb dX4_isBadJump_33 (by decide) (fun c128 => ?_) (fun c128 => ?_)
          · have h := i_yes c128 h
            refine lv_iconst (v := 0) hx hb dX4_isBadJump_40 (by decide) ?_
            cases h
            exact r_zret hC hw (Or.inl rfl) dX4_isBadJump_41
          · have h := i_no c128 h
            exact w_X4_isBadJump_36 hC hR _ _ _ hw (lv_sub hl [] rfl) h
set_option maxHeartbeats 4000000 in
set_option maxRecDepth 100000 in
theorem k_X4_isBadJump {l : Launch} {G : va_G} {cA : Nat → ClassId} {S : sh} {D : dt} {ad : Nat → Nat} (sz : Nat) {o0 a0 : Nat} {x1 : Int32} {r : Int32} (hi0 : Is S ad o0 a0 3) (h : f_X4_isBadJump S D o0 x1 = some r) : Co l yX4_isBadJump (Cond.code yX4_isBadJump cX4_isBadJump 3 (some .boolean) :: tb0) 2 42 [.ref a0, .int x1] G cA S D ad sz (some (.int r)) True D := by
  refine Met.ofW (cc := cX4_isBadJump) (maxL := 3) (ret := (some .boolean)) (by decide) rfl ?_
  intro p e s m args below meth c s₁ B hml hv
  obtain ⟨rfl, hsz, hP, hK, hD0, hT, hX⟩ := hv
  subst hsz
  have hts := atoms_spec (ws := Cond.code yX4_isBadJump cX4_isBadJump 3 (some .boolean) :: tb0) B.pre
  have hC : Cx RX4 cX4_isBadJump 3 (some .boolean) p s m _ meth c := ⟨B.exec, B.bytes, hml, findClass_of_methodNamed B.named, fun w q => hts w (List.mem_cons_of_mem _ q), B.returns, B.notSynchronized⟩
  have hw := Wd.entry hP hK hD0 hT hX
  have hl := lv_entry ([.ref a0, .int x1]) (n := 3) (Nat.le_of_ble_eq_true rfl)
  rw [lg_entry_eq]
  exact w_X4_isBadJump_0 hC ⟨Nat.le_refl _, Nat.le_refl _⟩ o0 a0 x1 _ _ _ hi0 hw hl h
set_option maxHeartbeats 4000000 in
set_option maxRecDepth 100000 in
theorem w_X4_isBad_123 {r : Int32} (hC : Cx RX4 cX4_isBad 2 (some .boolean) p s m args meth c) (hR : 3 ≤ R.frames ∧ 69 ≤ R.locals) : ∀  (H : Heap) (locs : List Loc) (ls : Array Slot), Wd G cA S D ad A s H locs → lv_has ls 2 [] → f_X4_isBad_123 S D = some r → W p l e R s m args below meth c H locs 0 0 (MQ below (Qn (some (.int r)) True (wpost G cA S D ad A) A) args s 0 0 A) (F0 m 123 ls []) := by
  obtain ⟨hx, hb, -⟩ := id hC
  intro H locs ls  hw hl h
  unfold f_X4_isBad_123 at h
  refine lv_iconst (v := 1) hx hb dX4_isBad_123 (by decide) ?_
  refine lv_goto (tgt := 128) hx hb dX4_isBad_124 (by decide) ?_
  cases h
  exact r_zret hC hw (Or.inr rfl) dX4_isBad_128
set_option maxHeartbeats 4000000 in
set_option maxRecDepth 100000 in
theorem w_X4_isBad_141 {r : Int32} (hC : Cx RX4 cX4_isBad 2 (some .boolean) p s m args meth c) (hR : 3 ≤ R.frames ∧ 69 ≤ R.locals) : ∀ (o0 a0 : Nat) (x1 : Int32) (H : Heap) (locs : List Loc) (ls : Array Slot), Is S ad o0 a0 3 → Wd G cA S D ad A s H locs → lv_has ls 2 [(0, .ref a0), (1, .int x1)] → f_X4_isBad_141 S D o0 x1 = some r → W p l e R s m args below meth c H locs 0 0 (MQ below (Qn (some (.int r)) True (wpost G cA S D ad A) A) args s 0 0 A) (F0 m 141 ls []) := by
  obtain ⟨hx, hb, -⟩ := id hC
  intro o0 a0 x1 H locs ls hi0 hw hl h
  unfold f_X4_isBad_141 at h
  refine lv_aload_n hx hb dX4_isBad_141 rfl (lv_at hl 0 rfl) ?_
  refine lv_iload_n hx hb dX4_isBad_142 rfl (lv_at hl 1 rfl) ?_
  obtain ⟨r57, hq56, h⟩ := pq_i h
  refine r_cV (st' := [.int r57]) [.int x1] [] hC hw kc_3 hi0 (k_X4_isBadJump _ hi0 hq56) mk_X4_isBadJump lk_553 ⟨Nat.le_trans (by decide) hR.1, Nat.le_trans (by decide) hR.2⟩ ⟨Nat.zero_le _, Nat.zero_le _⟩ rfl hl.1 rfl rfl (Nat.le_of_ble_eq_true rfl) dX4_isBad_143 (fun hP H locs hw => ?_)
  obtain ⟨hz58, h⟩ := ck_i h
  cases h
  exact r_zret hC hw hz58 dX4_isBad_146
set_option maxHeartbeats 4000000 in
set_option maxRecDepth 100000 in
theorem w_X4_isBad_135 {r : Int32} (hC : Cx RX4 cX4_isBad 2 (some .boolean) p s m args meth c) (hR : 3 ≤ R.frames ∧ 69 ≤ R.locals) : ∀ (o0 a0 : Nat) (x1 : Int32) (H : Heap) (locs : List Loc) (ls : Array Slot), Is S ad o0 a0 3 → Wd G cA S D ad A s H locs → lv_has ls 2 [(0, .ref a0), (1, .int x1)] → f_X4_isBad_135 S D o0 x1 = some r → W p l e R s m args below meth c H locs 0 0 (MQ below (Qn (some (.int r)) True (wpost G cA S D ad A) A) args s 0 0 A) (F0 m 135 ls []) := by
  obtain ⟨hx, hb, -⟩ := id hC
  intro o0 a0 x1 H locs ls hi0 hw hl h
  unfold f_X4_isBad_135 at h
  refine lv_aload_n hx hb dX4_isBad_135 rfl (lv_at hl 0 rfl) ?_
  refine lv_iload_n hx hb dX4_isBad_136 rfl (lv_at hl 1 rfl) ?_
  obtain ⟨r60, hq59, h⟩ := pq_i h
  refine r_cV (st' := [.int r60]) [.int x1] [] hC hw kc_3 hi0 (k_X4_isBadArithmetic _ hi0 hq59) mk_X4_isBadArithmetic lk_529 ⟨Nat.le_trans (by decide) hR.1, Nat.le_trans (by decide) hR.2⟩ ⟨Nat.zero_le _, Nat.zero_le _⟩ rfl hl.1 rfl rfl (Nat.le_of_ble_eq_true rfl) dX4_isBad_137 (fun hP H locs hw => ?_)
  obtain ⟨hz61, h⟩ := ck_i h
  cases h
  exact r_zret hC hw hz61 dX4_isBad_140
set_option maxHeartbeats 4000000 in
set_option maxRecDepth 100000 in
theorem w_X4_isBad_0 {r : Int32} (hC : Cx RX4 cX4_isBad 2 (some .boolean) p s m args meth c) (hR : 3 ≤ R.frames ∧ 69 ≤ R.locals) : ∀ (o0 a0 : Nat) (x1 : Int32) (H : Heap) (locs : List Loc) (ls : Array Slot), Is S ad o0 a0 3 → Wd G cA S D ad A s H locs → lv_has ls 2 [(0, .ref a0), (1, .int x1)] → f_X4_isBad S D o0 x1 = some r → W p l e R s m args below meth c H locs 0 0 (MQ below (Qn (some (.int r)) True (wpost G cA S D ad A) A) args s 0 0 A) (F0 m 0 ls []) := by
  obtain ⟨hx, hb, -⟩ := id hC
  intro o0 a0 x1 H locs ls hi0 hw hl h
  unfold f_X4_isBad at h
  refine lv_aload_n hx hb dX4_isBad_0 rfl (lv_at hl 0 rfl) ?_
  refine lv_iload_n hx hb dX4_isBad_1 rfl (lv_at hl 1 rfl) ?_
  obtain ⟨r63, hq62, h⟩ := pq_i h
  refine r_cV (st' := [.int r63]) [.int x1] [] hC hw kc_3 hi0 (k_X4_has _ hi0 hq62) mk_X4_has lk_379 ⟨Nat.le_trans (by decide) hR.1, Nat.le_trans (by decide) hR.2⟩ ⟨Nat.zero_le _, Nat.zero_le _⟩ rfl hl.1 rfl rfl (Nat.le_of_ble_eq_true rfl) dX4_isBad_2 (fun hP H locs hw => ?_)
  refine lv_if_eq (tgt := 30) hx hb dX4_isBad_5 (by decide) (fun c64 => ?_) (fun c64 => ?_)
  · have h := i_yes c64 h
    refine lv_iconst (v := 1) hx hb dX4_isBad_30 (by decide) ?_
    cases h
    exact r_zret hC hw (Or.inr rfl) dX4_isBad_31
  · have h := i_no c64 h
    refine lv_aload_n hx hb dX4_isBad_8 rfl (lv_at hl 0 rfl) ?_
    obtain ⟨o65, ho68, h⟩ := rq_i h
    refine r_getR hC hw kc_3 hi0 1 rfl lk_144 dX4_isBad_9 rfl ho68 (fun a66 hi67 => ?_)
    refine lv_iload_n hx hb dX4_isBad_12 rfl (lv_at hl 1 rfl) ?_
    obtain ⟨hn69, h⟩ := ix_i h
    refine r_iald hC hw hi67 hn69 dX4_isBad_13 ?_
    refine lv_bipush (v := 11) hx hb dX4_isBad_14 (by decide) ?_
    refine lv_icmp_ge (tgt := 30) hx hb dX4_isBad_16 (by decide) (fun c70 => ?_) (fun c70 => ?_)
    · have h := i_yes c70 h
      refine lv_iconst (v := 1) hx hb dX4_isBad_30 (by decide) ?_
      cases h
      exact r_zret hC hw (Or.inr rfl) dX4_isBad_31
    · have h := i_no c70 h
      refine lv_aload_n hx hb dX4_isBad_19 rfl (lv_at hl 0 rfl) ?_
      obtain ⟨o71, ho74, h⟩ := rq_i h
      refine r_getR hC hw kc_3 hi0 2 rfl lk_147 dX4_isBad_20 rfl ho74 (fun a72 hi73 => ?_)
      refine lv_iload_n hx hb dX4_isBad_23 rfl (lv_at hl 1 rfl) ?_
      obtain ⟨hn75, h⟩ := ix_i h
      refine r_iald hC hw hi73 hn75 dX4_isBad_24 ?_
      refine lv_bipush (v := 11) hx hb dX4_isBad_25 (by decide) ?_
      refine lv_icmp_lt (tgt := 32) hx hb dX4_isBad_27 (by decide) (fun c76 => ?_) (fun c76 => ?_)
      · have h := i_yes c76 h
        refine lv_aload_n hx hb dX4_isBad_32 rfl (lv_at hl 0 rfl) ?_
        obtain ⟨o77, ho80, h⟩ := rq_i h
        refine r_getR hC hw kc_3 hi0 0 rfl lk_141 dX4_isBad_33 rfl ho80 (fun a78 hi79 => ?_)
        refine lv_iload_n hx hb dX4_isBad_36 rfl (lv_at hl 1 rfl) ?_
        obtain ⟨hn81, h⟩ := ix_i h
        refine r_iald hC hw hi79 hn81 dX4_isBad_37 ?_
        refine lv_bipush (v := 7) hx hb dX4_isBad_38 (by decide) ?_
        refine lv_iand hx hb dX4_isBad_40 ?_
        by_cases c82 : ((gI D o77 x1.toNatClampNeg) &&& (7 : Int32)) = 0
        · have h := i_yes c82 h
          refine lv_tableIn (off := 47) (tgt := 88) hx hb dX4_isBad_41 (by rw [c82]; decide) (by rw [c82]; decide) (by rw [c82] <;> rfl) (by decide) ?_
          refine lv_aload_n hx hb dX4_isBad_88 rfl (lv_at hl 0 rfl) ?_
          refine lv_iload_n hx hb dX4_isBad_89 rfl (lv_at hl 1 rfl) ?_
          obtain ⟨r84, hq83, h⟩ := pq_i h
          refine r_cV (st' := [.int r84]) [.int x1] [] hC hw kc_3 hi0 (k_X4_isBadPair _ hi0 hq83) mk_X4_isBadPair lk_502 ⟨Nat.le_trans (by decide) hR.1, Nat.le_trans (by decide) hR.2⟩ ⟨Nat.zero_le _, Nat.zero_le _⟩ rfl hl.1 rfl rfl (Nat.le_of_ble_eq_true rfl) dX4_isBad_90 (fun hP H locs hw => ?_)
          obtain ⟨hz85, h⟩ := ck_i h
          cases h
          exact r_zret hC hw hz85 dX4_isBad_93
        have h := i_no c82 h
        by_cases c86 : ((gI D o77 x1.toNatClampNeg) &&& (7 : Int32)) = 1
        · have h := i_yes c86 h
          refine lv_tableIn (off := 53) (tgt := 94) hx hb dX4_isBad_41 (by rw [c86]; decide) (by rw [c86]; decide) (by rw [c86] <;> rfl) (by decide) ?_
          refine lv_aload_n hx hb dX4_isBad_94 rfl (lv_at hl 0 rfl) ?_
          refine lv_iload_n hx hb dX4_isBad_95 rfl (lv_at hl 1 rfl) ?_
          obtain ⟨r88, hq87, h⟩ := pq_i h
          refine r_cV (st' := [.int r88]) [.int x1] [] hC hw kc_3 hi0 (k_X4_isBadLoad _ hi0 hq87) mk_X4_isBadLoad lk_506 ⟨Nat.le_trans (by decide) hR.1, Nat.le_trans (by decide) hR.2⟩ ⟨Nat.zero_le _, Nat.zero_le _⟩ rfl hl.1 rfl rfl (Nat.le_of_ble_eq_true rfl) dX4_isBad_96 (fun hP H locs hw => ?_)
          obtain ⟨hz89, h⟩ := ck_i h
          cases h
          exact r_zret hC hw hz89 dX4_isBad_99
        have h := i_no c86 h
        by_cases c90 : ((gI D o77 x1.toNatClampNeg) &&& (7 : Int32)) = 2
        · have h := i_yes c90 h
          refine lv_tableIn (off := 59) (tgt := 100) hx hb dX4_isBad_41 (by rw [c90]; decide) (by rw [c90]; decide) (by rw [c90] <;> rfl) (by decide) ?_
          refine lv_aload_n hx hb dX4_isBad_100 rfl (lv_at hl 0 rfl) ?_
          obtain ⟨o91, ho94, h⟩ := rq_i h
          refine r_getR hC hw kc_3 hi0 0 rfl lk_141 dX4_isBad_101 rfl ho94 (fun a92 hi93 => ?_)
          refine lv_iload_n hx hb dX4_isBad_104 rfl (lv_at hl 1 rfl) ?_
          obtain ⟨hn95, h⟩ := ix_i h
          refine r_iald hC hw hi93 hn95 dX4_isBad_105 ?_
          refine lv_bipush (v := (-25)) hx hb dX4_isBad_106 (by decide) ?_
          refine lv_iand hx hb dX4_isBad_108 ?_
          refine lv_bipush (v := 98) hx hb dX4_isBad_109 (by decide) ?_
          refine lv_icmp_ne (tgt := 123) hx hb dX4_isBad_111 (by decide) (fun c96 => ?_) (fun c96 => ?_)
          · have h := i_no c96 h
            exact w_X4_isBad_123 hC hR _ _ _ hw (lv_sub hl [] rfl) h
          · have h := i_yes c96 h
            refine lv_aload_n hx hb dX4_isBad_114 rfl (lv_at hl 0 rfl) ?_
            obtain ⟨o97, ho100, h⟩ := rq_i h
            refine r_getR hC hw kc_3 hi0 2 rfl lk_147 dX4_isBad_115 rfl ho100 (fun a98 hi99 => ?_)
            refine lv_iload_n hx hb dX4_isBad_118 rfl (lv_at hl 1 rfl) ?_
            obtain ⟨hn101, h⟩ := ix_i h
            refine r_iald hC hw hi99 hn101 dX4_isBad_119 ?_
            refine lv_if_eq (tgt := 127) hx hb dX4_isBad_120 (by decide) (fun c102 => ?_) (fun c102 => ?_)
            · have h := i_yes c102 h
              refine lv_iconst (v := 0) hx hb dX4_isBad_127 (by decide) ?_
              cases h
              exact r_zret hC hw (Or.inl rfl) dX4_isBad_128
            · have h := i_no c102 h
              exact w_X4_isBad_123 hC hR _ _ _ hw (lv_sub hl [] rfl) h
        have h := i_no c90 h
        by_cases c103 : ((gI D o77 x1.toNatClampNeg) &&& (7 : Int32)) = 3
        · have h := i_yes c103 h
          refine lv_tableIn (off := 88) (tgt := 129) hx hb dX4_isBad_41 (by rw [c103]; decide) (by rw [c103]; decide) (by rw [c103] <;> rfl) (by decide) ?_
          refine lv_aload_n hx hb dX4_isBad_129 rfl (lv_at hl 0 rfl) ?_
          refine lv_iload_n hx hb dX4_isBad_130 rfl (lv_at hl 1 rfl) ?_
          obtain ⟨r105, hq104, h⟩ := pq_i h
          refine r_cV (st' := [.int r105]) [.int x1] [] hC hw kc_3 hi0 (k_X4_isBadPut _ hi0 hq104) mk_X4_isBadPut lk_518 ⟨Nat.le_trans (by decide) hR.1, Nat.le_trans (by decide) hR.2⟩ ⟨Nat.zero_le _, Nat.zero_le _⟩ rfl hl.1 rfl rfl (Nat.le_of_ble_eq_true rfl) dX4_isBad_131 (fun hP H locs hw => ?_)
          obtain ⟨hz106, h⟩ := ck_i h
          cases h
          exact r_zret hC hw hz106 dX4_isBad_134
        have h := i_no c103 h
        by_cases c107 : ((gI D o77 x1.toNatClampNeg) &&& (7 : Int32)) = 4
        · have h := i_yes c107 h
          refine lv_tableIn (off := 94) (tgt := 135) hx hb dX4_isBad_41 (by rw [c107]; decide) (by rw [c107]; decide) (by rw [c107] <;> rfl) (by decide) ?_
          exact w_X4_isBad_135 hC hR o0 a0 x1 _ _ _ hi0 hw (lv_sub hl [0, 1] rfl) h
        have h := i_no c107 h
        by_cases c108 : ((gI D o77 x1.toNatClampNeg) &&& (7 : Int32)) = 5
        · have h := i_yes c108 h
          refine lv_tableIn (off := 100) (tgt := 141) hx hb dX4_isBad_41 (by rw [c108]; decide) (by rw [c108]; decide) (by rw [c108] <;> rfl) (by decide) ?_
          exact w_X4_isBad_141 hC hR o0 a0 x1 _ _ _ hi0 hw (lv_sub hl [0, 1] rfl) h
        have h := i_no c108 h
        by_cases c109 : ((gI D o77 x1.toNatClampNeg) &&& (7 : Int32)) = 6
        · have h := i_yes c109 h
          refine lv_tableIn (off := 100) (tgt := 141) hx hb dX4_isBad_41 (by rw [c109]; decide) (by rw [c109]; decide) (by rw [c109] <;> rfl) (by decide) ?_
          exact w_X4_isBad_141 hC hR o0 a0 x1 _ _ _ hi0 hw (lv_sub hl [0, 1] rfl) h
        have h := i_no c109 h
        by_cases c110 : ((gI D o77 x1.toNatClampNeg) &&& (7 : Int32)) = 7
        · have h := i_yes c110 h
          refine lv_tableIn (off := 94) (tgt := 135) hx hb dX4_isBad_41 (by rw [c110]; decide) (by rw [c110]; decide) (by rw [c110] <;> rfl) (by decide) ?_
          exact w_X4_isBad_135 hC hR o0 a0 x1 _ _ _ hi0 hw (lv_sub hl [0, 1] rfl) h
        have h := i_no c110 h
        refine lv_tableOut (tgt := 141) hx hb dX4_isBad_41 (by have nc82 := lv_neT c82 (a := 0) rfl; have nc86 := lv_neT c86 (a := 1) rfl; have nc90 := lv_neT c90 (a := 2) rfl; have nc103 := lv_neT c103 (a := 3) rfl; have nc107 := lv_neT c107 (a := 4) rfl; have nc108 := lv_neT c108 (a := 5) rfl; have nc109 := lv_neT c109 (a := 6) rfl; have nc110 := lv_neT c110 (a := 7) rfl; omega) (by decide) ?_
        exact w_X4_isBad_141 hC hR o0 a0 x1 _ _ _ hi0 hw (lv_sub hl [0, 1] rfl) h
      · have h := i_no c76 h
        refine lv_iconst (v := 1) hx hb dX4_isBad_30 (by decide) ?_
        cases h
        exact r_zret hC hw (Or.inr rfl) dX4_isBad_31
set_option maxHeartbeats 4000000 in
set_option maxRecDepth 100000 in
theorem k_X4_isBad {l : Launch} {G : va_G} {cA : Nat → ClassId} {S : sh} {D : dt} {ad : Nat → Nat} (sz : Nat) {o0 a0 : Nat} {x1 : Int32} {r : Int32} (hi0 : Is S ad o0 a0 3) (h : f_X4_isBad S D o0 x1 = some r) : Co l yX4_isBad (Cond.code yX4_isBad cX4_isBad 2 (some .boolean) :: tb0) 3 69 [.ref a0, .int x1] G cA S D ad sz (some (.int r)) True D := by
  refine Met.ofW (cc := cX4_isBad) (maxL := 2) (ret := (some .boolean)) (by decide) rfl ?_
  intro p e s m args below meth c s₁ B hml hv
  obtain ⟨rfl, hsz, hP, hK, hD0, hT, hX⟩ := hv
  subst hsz
  have hts := atoms_spec (ws := Cond.code yX4_isBad cX4_isBad 2 (some .boolean) :: tb0) B.pre
  have hC : Cx RX4 cX4_isBad 2 (some .boolean) p s m _ meth c := ⟨B.exec, B.bytes, hml, findClass_of_methodNamed B.named, fun w q => hts w (List.mem_cons_of_mem _ q), B.returns, B.notSynchronized⟩
  have hw := Wd.entry hP hK hD0 hT hX
  have hl := lv_entry ([.ref a0, .int x1]) (n := 2) (Nat.le_of_ble_eq_true rfl)
  rw [lg_entry_eq]
  exact w_X4_isBad_0 hC ⟨Nat.le_refl _, Nat.le_refl _⟩ o0 a0 x1 _ _ _ hi0 hw hl h
set_option maxHeartbeats 4000000 in
set_option maxRecDepth 100000 in
theorem w_X4_distance_25 {r : Int32} (hC : Cx RX4 cX4_distance 2 (some .int) p s m args meth c) (hR : 1 ≤ R.frames ∧ 22 ≤ R.locals) : ∀ (o0 a0 : Nat) (x1 : Int32) (H : Heap) (locs : List Loc) (ls : Array Slot), Is S ad o0 a0 3 → Wd G cA S D ad A s H locs → lv_has ls 2 [(0, .ref a0), (1, .int x1)] → f_X4_distance_25 S D o0 x1 = some r → W p l e R s m args below meth c H locs 0 0 (MQ below (Qn (some (.int r)) True (wpost G cA S D ad A) A) args s 0 0 A) (F0 m 25 ls []) := by
  obtain ⟨hx, hb, -⟩ := id hC
  intro o0 a0 x1 H locs ls hi0 hw hl h
  unfold f_X4_distance_25 at h
  refine lv_aload_n hx hb dX4_distance_25 rfl (lv_at hl 0 rfl) ?_
  obtain ⟨o17, ho20, h⟩ := rq_i h
  refine r_getR hC hw kc_3 hi0 3 rfl lk_150 dX4_distance_26 rfl ho20 (fun a18 hi19 => ?_)
  refine lv_iload_n hx hb dX4_distance_29 rfl (lv_at hl 1 rfl) ?_
  obtain ⟨hn21, h⟩ := ix_i h
  refine r_iald hC hw hi19 hn21 dX4_distance_30 ?_
  cases h
  exact r_iret hC hw dX4_distance_31
set_option maxHeartbeats 4000000 in
set_option maxRecDepth 100000 in
theorem w_X4_distance_0 {r : Int32} (hC : Cx RX4 cX4_distance 2 (some .int) p s m args meth c) (hR : 1 ≤ R.frames ∧ 22 ≤ R.locals) : ∀ (o0 a0 : Nat) (x1 : Int32) (H : Heap) (locs : List Loc) (ls : Array Slot), Is S ad o0 a0 3 → Wd G cA S D ad A s H locs → lv_has ls 2 [(0, .ref a0), (1, .int x1)] → f_X4_distance S D o0 x1 = some r → W p l e R s m args below meth c H locs 0 0 (MQ below (Qn (some (.int r)) True (wpost G cA S D ad A) A) args s 0 0 A) (F0 m 0 ls []) := by
  obtain ⟨hx, hb, -⟩ := id hC
  intro o0 a0 x1 H locs ls hi0 hw hl h
  unfold f_X4_distance at h
  refine lv_aload_n hx hb dX4_distance_0 rfl (lv_at hl 0 rfl) ?_
  refine lv_iload_n hx hb dX4_distance_1 rfl (lv_at hl 1 rfl) ?_
  obtain ⟨r23, hq22, h⟩ := pq_i h
  refine r_cV (st' := [.int r23]) [.int x1] [] hC hw kc_3 hi0 (k_X4_code _ hi0 hq22) mk_X4_code lk_533 ⟨Nat.le_trans (by decide) hR.1, Nat.le_trans (by decide) hR.2⟩ ⟨Nat.zero_le _, Nat.zero_le _⟩ rfl hl.1 rfl rfl (Nat.le_of_ble_eq_true rfl) dX4_distance_2 (fun hP H locs hw => ?_)
  refine lv_if_ne (tgt := 25) hx hb dX4_distance_5 (by decide) (fun c24 => ?_) (fun c24 => ?_)
  · have h := i_no c24 h
    exact w_X4_distance_25 hC hR o0 a0 x1 _ _ _ hi0 hw (lv_sub hl [0, 1] rfl) h
  · have h := i_yes c24 h
    refine lv_aload_n hx hb dX4_distance_8 rfl (lv_at hl 0 rfl) ?_
    refine lv_iload_n hx hb dX4_distance_9 rfl (lv_at hl 1 rfl) ?_
    obtain ⟨r26, hq25, h⟩ := pq_i h
    refine r_cV (st' := [.int r26]) [.int x1] [] hC hw kc_3 hi0 (k_X4_isWide _ hi0 hq25) mk_X4_isWide lk_537 ⟨Nat.le_trans (by decide) hR.1, Nat.le_trans (by decide) hR.2⟩ ⟨Nat.zero_le _, Nat.zero_le _⟩ rfl hl.1 rfl rfl (Nat.le_of_ble_eq_true rfl) dX4_distance_10 (fun hP H locs hw => ?_)
    refine lv_if_ne (tgt := 25) hx hb dX4_distance_13 (by decide) (fun c27 => ?_) (fun c27 => ?_)
    · have h := i_no c27 h
      exact w_X4_distance_25 hC hR o0 a0 x1 _ _ _ hi0 hw (lv_sub hl [0, 1] rfl) h
    · have h := i_yes c27 h
      refine lv_aload_n hx hb dX4_distance_16 rfl (lv_at hl 0 rfl) ?_
      obtain ⟨o28, ho31, h⟩ := rq_i h
      refine r_getR hC hw kc_3 hi0 4 rfl lk_153 dX4_distance_17 rfl ho31 (fun a29 hi30 => ?_)
      refine lv_iload_n hx hb dX4_distance_20 rfl (lv_at hl 1 rfl) ?_
      obtain ⟨hn32, h⟩ := ix_i h
      refine r_iald hC hw hi30 hn32 dX4_distance_21 ?_
      refine lv_goto (tgt := 31) hx hb dX4_distance_22 (by decide) ?_
      cases h
      exact r_iret hC hw dX4_distance_31
set_option maxHeartbeats 4000000 in
set_option maxRecDepth 100000 in
theorem k_X4_distance {l : Launch} {G : va_G} {cA : Nat → ClassId} {S : sh} {D : dt} {ad : Nat → Nat} (sz : Nat) {o0 a0 : Nat} {x1 : Int32} {r : Int32} (hi0 : Is S ad o0 a0 3) (h : f_X4_distance S D o0 x1 = some r) : Co l yX4_distance (Cond.code yX4_distance cX4_distance 2 (some .int) :: tb0) 1 22 [.ref a0, .int x1] G cA S D ad sz (some (.int r)) True D := by
  refine Met.ofW (cc := cX4_distance) (maxL := 2) (ret := (some .int)) (by decide) rfl ?_
  intro p e s m args below meth c s₁ B hml hv
  obtain ⟨rfl, hsz, hP, hK, hD0, hT, hX⟩ := hv
  subst hsz
  have hts := atoms_spec (ws := Cond.code yX4_distance cX4_distance 2 (some .int) :: tb0) B.pre
  have hC : Cx RX4 cX4_distance 2 (some .int) p s m _ meth c := ⟨B.exec, B.bytes, hml, findClass_of_methodNamed B.named, fun w q => hts w (List.mem_cons_of_mem _ q), B.returns, B.notSynchronized⟩
  have hw := Wd.entry hP hK hD0 hT hX
  have hl := lv_entry ([.ref a0, .int x1]) (n := 2) (Nat.le_of_ble_eq_true rfl)
  rw [lg_entry_eq]
  exact w_X4_distance_0 hC ⟨Nat.le_refl _, Nat.le_refl _⟩ o0 a0 x1 _ _ _ hi0 hw hl h
end
