theorem dX9_start_0 : decode cX9_start 0 = .ok (.aload_n 0, 1) := by decide +kernel
theorem dX9_start_1 : decode cX9_start 1 = .ok (.getfield 147, 3) := by decide +kernel
theorem dX9_start_4 : decode cX9_start 4 = .ok (.ifCond .ne 6, 3) := by decide +kernel
theorem dX9_start_7 : decode cX9_start 7 = .ok (.bipush (-3), 2) := by decide +kernel
theorem dX9_start_9 : decode cX9_start 9 = .ok (.ireturn, 1) := by decide +kernel
theorem dX9_start_10 : decode cX9_start 10 = .ok (.iconst 0, 1) := by decide +kernel
theorem dX9_start_11 : decode cX9_start 11 = .ok (.istore_n 1, 1) := by decide +kernel
theorem dX9_start_12 : decode cX9_start 12 = .ok (.iload_n 1, 1) := by decide +kernel
theorem dX9_start_13 : decode cX9_start 13 = .ok (.bipush 11, 2) := by decide +kernel
theorem dX9_start_15 : decode cX9_start 15 = .ok (.if_icmp .ge 39, 3) := by decide +kernel
theorem dX9_start_18 : decode cX9_start 18 = .ok (.aload_n 0, 1) := by decide +kernel
theorem dX9_start_19 : decode cX9_start 19 = .ok (.getfield 53, 3) := by decide +kernel
theorem dX9_start_22 : decode cX9_start 22 = .ok (.iload_n 1, 1) := by decide +kernel
theorem dX9_start_23 : decode cX9_start 23 = .ok (.iload_n 1, 1) := by decide +kernel
theorem dX9_start_24 : decode cX9_start 24 = .ok (.iconst 1, 1) := by decide +kernel
theorem dX9_start_25 : decode cX9_start 25 = .ok (.if_icmp .ne 9, 3) := by decide +kernel
theorem dX9_start_28 : decode cX9_start 28 = .ok (.ldc2_w 207, 3) := by decide +kernel
theorem dX9_start_31 : decode cX9_start 31 = .ok (.goto 16, 3) := by decide +kernel
theorem dX9_start_34 : decode cX9_start 34 = .ok (.iload_n 1, 1) := by decide +kernel
theorem dX9_start_35 : decode cX9_start 35 = .ok (.bipush 10, 2) := by decide +kernel
theorem dX9_start_37 : decode cX9_start 37 = .ok (.if_icmp .ne 9, 3) := by decide +kernel
theorem dX9_start_40 : decode cX9_start 40 = .ok (.ldc2_w 216, 3) := by decide +kernel
theorem dX9_start_43 : decode cX9_start 43 = .ok (.goto 4, 3) := by decide +kernel
theorem dX9_start_46 : decode cX9_start 46 = .ok (.lconst 0, 1) := by decide +kernel
theorem dX9_start_47 : decode cX9_start 47 = .ok (.lastore, 1) := by decide +kernel
theorem dX9_start_48 : decode cX9_start 48 = .ok (.iinc 1 1, 3) := by decide +kernel
theorem dX9_start_51 : decode cX9_start 51 = .ok (.goto (-39), 3) := by decide +kernel
theorem dX9_start_54 : decode cX9_start 54 = .ok (.iconst 0, 1) := by decide +kernel
theorem dX9_start_55 : decode cX9_start 55 = .ok (.istore_n 1, 1) := by decide +kernel
theorem dX9_start_56 : decode cX9_start 56 = .ok (.iload_n 1, 1) := by decide +kernel
theorem dX9_start_57 : decode cX9_start 57 = .ok (.sipush 512, 3) := by decide +kernel
theorem dX9_start_60 : decode cX9_start 60 = .ok (.if_icmp .ge 16, 3) := by decide +kernel
theorem dX9_start_63 : decode cX9_start 63 = .ok (.aload_n 0, 1) := by decide +kernel
theorem dX9_start_64 : decode cX9_start 64 = .ok (.getfield 28, 3) := by decide +kernel
theorem dX9_start_67 : decode cX9_start 67 = .ok (.iload_n 1, 1) := by decide +kernel
theorem dX9_start_68 : decode cX9_start 68 = .ok (.iconst 0, 1) := by decide +kernel
theorem dX9_start_69 : decode cX9_start 69 = .ok (.iastore, 1) := by decide +kernel
theorem dX9_start_70 : decode cX9_start 70 = .ok (.iinc 1 1, 3) := by decide +kernel
theorem dX9_start_73 : decode cX9_start 73 = .ok (.goto (-17), 3) := by decide +kernel
theorem dX9_start_76 : decode cX9_start 76 = .ok (.aload_n 0, 1) := by decide +kernel
theorem dX9_start_77 : decode cX9_start 77 = .ok (.iconst 0, 1) := by decide +kernel
theorem dX9_start_78 : decode cX9_start 78 = .ok (.putfield 260, 3) := by decide +kernel
theorem dX9_start_81 : decode cX9_start 81 = .ok (.aload_n 0, 1) := by decide +kernel
theorem dX9_start_82 : decode cX9_start 82 = .ok (.iconst 0, 1) := by decide +kernel
theorem dX9_start_83 : decode cX9_start 83 = .ok (.putfield 263, 3) := by decide +kernel
theorem dX9_start_86 : decode cX9_start 86 = .ok (.aload_n 0, 1) := by decide +kernel
theorem dX9_start_87 : decode cX9_start 87 = .ok (.iconst 0, 1) := by decide +kernel
theorem dX9_start_88 : decode cX9_start 88 = .ok (.putfield 248, 3) := by decide +kernel
theorem dX9_start_91 : decode cX9_start 91 = .ok (.aload_n 0, 1) := by decide +kernel
theorem dX9_start_92 : decode cX9_start 92 = .ok (.iconst 1, 1) := by decide +kernel
theorem dX9_start_93 : decode cX9_start 93 = .ok (.putfield 140, 3) := by decide +kernel
theorem dX9_start_96 : decode cX9_start 96 = .ok (.iconst 1, 1) := by decide +kernel
theorem dX9_start_97 : decode cX9_start 97 = .ok (.ireturn, 1) := by decide +kernel
theorem dX9_load_0 : decode cX9_load 0 = .ok (.aload_n 0, 1) := by decide +kernel
theorem dX9_load_1 : decode cX9_load 1 = .ok (.getfield 53, 3) := by decide +kernel
theorem dX9_load_4 : decode cX9_load 4 = .ok (.aload_n 0, 1) := by decide +kernel
theorem dX9_load_5 : decode cX9_load 5 = .ok (.getfield 16, 3) := by decide +kernel
theorem dX9_load_8 : decode cX9_load 8 = .ok (.iload_n 1, 1) := by decide +kernel
theorem dX9_load_9 : decode cX9_load 9 = .ok (.iaload, 1) := by decide +kernel
theorem dX9_load_10 : decode cX9_load 10 = .ok (.laload, 1) := by decide +kernel
theorem dX9_load_11 : decode cX9_load 11 = .ok (.aload_n 0, 1) := by decide +kernel
theorem dX9_load_12 : decode cX9_load 12 = .ok (.getfield 19, 3) := by decide +kernel
theorem dX9_load_15 : decode cX9_load 15 = .ok (.iload_n 1, 1) := by decide +kernel
theorem dX9_load_16 : decode cX9_load 16 = .ok (.iaload, 1) := by decide +kernel
theorem dX9_load_17 : decode cX9_load 17 = .ok (.i2l, 1) := by decide +kernel
theorem dX9_load_18 : decode cX9_load 18 = .ok (.ladd, 1) := by decide +kernel
theorem dX9_load_19 : decode cX9_load 19 = .ok (.lstore 4, 2) := by decide +kernel
theorem dX9_load_21 : decode cX9_load 21 = .ok (.aload_n 0, 1) := by decide +kernel
theorem dX9_load_22 : decode cX9_load 22 = .ok (.lload 4, 2) := by decide +kernel
theorem dX9_load_24 : decode cX9_load 24 = .ok (.iload_n 2, 1) := by decide +kernel
theorem dX9_load_25 : decode cX9_load 25 = .ok (.iconst 0, 1) := by decide +kernel
theorem dX9_load_26 : decode cX9_load 26 = .ok (.invokevirtual 234, 3) := by decide +kernel
theorem dX9_load_29 : decode cX9_load 29 = .ok (.ifCond .ne 5, 3) := by decide +kernel
theorem dX9_load_32 : decode cX9_load 32 = .ok (.iconst 0, 1) := by decide +kernel
theorem dX9_load_33 : decode cX9_load 33 = .ok (.ireturn, 1) := by decide +kernel
theorem dX9_load_34 : decode cX9_load 34 = .ok (.aload_n 0, 1) := by decide +kernel
theorem dX9_load_35 : decode cX9_load 35 = .ok (.lload 4, 2) := by decide +kernel
theorem dX9_load_37 : decode cX9_load 37 = .ok (.iload_n 2, 1) := by decide +kernel
theorem dX9_load_38 : decode cX9_load 38 = .ok (.invokevirtual 266, 3) := by decide +kernel
theorem dX9_load_41 : decode cX9_load 41 = .ok (.lstore 6, 2) := by decide +kernel
theorem dX9_load_43 : decode cX9_load 43 = .ok (.aload_n 0, 1) := by decide +kernel
theorem dX9_load_44 : decode cX9_load 44 = .ok (.getfield 53, 3) := by decide +kernel
theorem dX9_load_47 : decode cX9_load 47 = .ok (.aload_n 0, 1) := by decide +kernel
theorem dX9_load_48 : decode cX9_load 48 = .ok (.getfield 13, 3) := by decide +kernel
theorem dX9_load_51 : decode cX9_load 51 = .ok (.iload_n 1, 1) := by decide +kernel
theorem dX9_load_52 : decode cX9_load 52 = .ok (.iaload, 1) := by decide +kernel
theorem dX9_load_53 : decode cX9_load 53 = .ok (.iload_n 3, 1) := by decide +kernel
theorem dX9_load_54 : decode cX9_load 54 = .ok (.ifCond .eq 15, 3) := by decide +kernel
theorem dX9_load_57 : decode cX9_load 57 = .ok (.lload 6, 2) := by decide +kernel
theorem dX9_load_59 : decode cX9_load 59 = .ok (.bipush 8, 2) := by decide +kernel
theorem dX9_load_61 : decode cX9_load 61 = .ok (.iload_n 2, 1) := by decide +kernel
theorem dX9_load_62 : decode cX9_load 62 = .ok (.imul, 1) := by decide +kernel
theorem dX9_load_63 : decode cX9_load 63 = .ok (.invokestatic 183, 3) := by decide +kernel
theorem dX9_load_66 : decode cX9_load 66 = .ok (.goto 5, 3) := by decide +kernel
theorem dX9_load_69 : decode cX9_load 69 = .ok (.lload 6, 2) := by decide +kernel
theorem dX9_load_71 : decode cX9_load 71 = .ok (.lastore, 1) := by decide +kernel
theorem dX9_load_72 : decode cX9_load 72 = .ok (.iconst 1, 1) := by decide +kernel
theorem dX9_load_73 : decode cX9_load 73 = .ok (.ireturn, 1) := by decide +kernel
theorem dX9_put_0 : decode cX9_put 0 = .ok (.aload_n 0, 1) := by decide +kernel
theorem dX9_put_1 : decode cX9_put 1 = .ok (.getfield 53, 3) := by decide +kernel
theorem dX9_put_4 : decode cX9_put 4 = .ok (.aload_n 0, 1) := by decide +kernel
theorem dX9_put_5 : decode cX9_put 5 = .ok (.getfield 13, 3) := by decide +kernel
theorem dX9_put_8 : decode cX9_put 8 = .ok (.iload_n 1, 1) := by decide +kernel
theorem dX9_put_9 : decode cX9_put 9 = .ok (.iaload, 1) := by decide +kernel
theorem dX9_put_10 : decode cX9_put 10 = .ok (.laload, 1) := by decide +kernel
theorem dX9_put_11 : decode cX9_put 11 = .ok (.aload_n 0, 1) := by decide +kernel
theorem dX9_put_12 : decode cX9_put 12 = .ok (.getfield 19, 3) := by decide +kernel
theorem dX9_put_15 : decode cX9_put 15 = .ok (.iload_n 1, 1) := by decide +kernel
theorem dX9_put_16 : decode cX9_put 16 = .ok (.iaload, 1) := by decide +kernel
theorem dX9_put_17 : decode cX9_put 17 = .ok (.i2l, 1) := by decide +kernel
theorem dX9_put_18 : decode cX9_put 18 = .ok (.ladd, 1) := by decide +kernel
theorem dX9_put_19 : decode cX9_put 19 = .ok (.lstore 5, 2) := by decide +kernel
theorem dX9_put_21 : decode cX9_put 21 = .ok (.aload_n 0, 1) := by decide +kernel
theorem dX9_put_22 : decode cX9_put 22 = .ok (.lload 5, 2) := by decide +kernel
theorem dX9_put_24 : decode cX9_put 24 = .ok (.iload_n 2, 1) := by decide +kernel
theorem dX9_put_25 : decode cX9_put 25 = .ok (.iconst 1, 1) := by decide +kernel
theorem dX9_put_26 : decode cX9_put 26 = .ok (.invokevirtual 234, 3) := by decide +kernel
theorem dX9_put_29 : decode cX9_put 29 = .ok (.ifCond .ne 5, 3) := by decide +kernel
theorem dX9_put_32 : decode cX9_put 32 = .ok (.iconst 0, 1) := by decide +kernel
theorem dX9_put_33 : decode cX9_put 33 = .ok (.ireturn, 1) := by decide +kernel
theorem dX9_put_34 : decode cX9_put 34 = .ok (.aload_n 0, 1) := by decide +kernel
theorem dX9_put_35 : decode cX9_put 35 = .ok (.lload 5, 2) := by decide +kernel
theorem dX9_put_37 : decode cX9_put 37 = .ok (.iload_n 2, 1) := by decide +kernel
theorem dX9_put_38 : decode cX9_put 38 = .ok (.lload_n 3, 1) := by decide +kernel
theorem dX9_put_39 : decode cX9_put 39 = .ok (.invokevirtual 269, 3) := by decide +kernel
theorem dX9_put_42 : decode cX9_put 42 = .ok (.iconst 1, 1) := by decide +kernel
theorem dX9_put_43 : decode cX9_put 43 = .ok (.ireturn, 1) := by decide +kernel
theorem dX9_both_0 : decode cX9_both 0 = .ok (.aload_n 0, 1) := by decide +kernel
theorem dX9_both_1 : decode cX9_both 1 = .ok (.getfield 53, 3) := by decide +kernel
theorem dX9_both_4 : decode cX9_both 4 = .ok (.aload_n 0, 1) := by decide +kernel
theorem dX9_both_5 : decode cX9_both 5 = .ok (.getfield 13, 3) := by decide +kernel
theorem dX9_both_8 : decode cX9_both 8 = .ok (.iload_n 1, 1) := by decide +kernel
theorem dX9_both_9 : decode cX9_both 9 = .ok (.iaload, 1) := by decide +kernel
theorem dX9_both_10 : decode cX9_both 10 = .ok (.laload, 1) := by decide +kernel
theorem dX9_both_11 : decode cX9_both 11 = .ok (.aload_n 0, 1) := by decide +kernel
theorem dX9_both_12 : decode cX9_both 12 = .ok (.getfield 19, 3) := by decide +kernel
theorem dX9_both_15 : decode cX9_both 15 = .ok (.iload_n 1, 1) := by decide +kernel
theorem dX9_both_16 : decode cX9_both 16 = .ok (.iaload, 1) := by decide +kernel
theorem dX9_both_17 : decode cX9_both 17 = .ok (.i2l, 1) := by decide +kernel
theorem dX9_both_18 : decode cX9_both 18 = .ok (.ladd, 1) := by decide +kernel
theorem dX9_both_19 : decode cX9_both 19 = .ok (.lstore_n 3, 1) := by decide +kernel
theorem dX9_both_20 : decode cX9_both 20 = .ok (.aload_n 0, 1) := by decide +kernel
theorem dX9_both_21 : decode cX9_both 21 = .ok (.lload_n 3, 1) := by decide +kernel
theorem dX9_both_22 : decode cX9_both 22 = .ok (.iload_n 2, 1) := by decide +kernel
theorem dX9_both_23 : decode cX9_both 23 = .ok (.iconst 1, 1) := by decide +kernel
theorem dX9_both_24 : decode cX9_both 24 = .ok (.invokevirtual 234, 3) := by decide +kernel
theorem dX9_both_27 : decode cX9_both 27 = .ok (.ifCond .ne 5, 3) := by decide +kernel
theorem dX9_both_30 : decode cX9_both 30 = .ok (.iconst 0, 1) := by decide +kernel
theorem dX9_both_31 : decode cX9_both 31 = .ok (.ireturn, 1) := by decide +kernel
theorem dX9_both_32 : decode cX9_both 32 = .ok (.aload_n 0, 1) := by decide +kernel
theorem dX9_both_33 : decode cX9_both 33 = .ok (.lload_n 3, 1) := by decide +kernel
theorem dX9_both_34 : decode cX9_both 34 = .ok (.iload_n 2, 1) := by decide +kernel
theorem dX9_both_35 : decode cX9_both 35 = .ok (.invokevirtual 266, 3) := by decide +kernel
theorem dX9_both_38 : decode cX9_both 38 = .ok (.lstore 5, 2) := by decide +kernel
theorem dX9_both_40 : decode cX9_both 40 = .ok (.aload_n 0, 1) := by decide +kernel
theorem dX9_both_41 : decode cX9_both 41 = .ok (.getfield 53, 3) := by decide +kernel
theorem dX9_both_44 : decode cX9_both 44 = .ok (.aload_n 0, 1) := by decide +kernel
theorem dX9_both_45 : decode cX9_both 45 = .ok (.getfield 16, 3) := by decide +kernel
theorem dX9_both_48 : decode cX9_both 48 = .ok (.iload_n 1, 1) := by decide +kernel
theorem dX9_both_49 : decode cX9_both 49 = .ok (.iaload, 1) := by decide +kernel
theorem dX9_both_50 : decode cX9_both 50 = .ok (.laload, 1) := by decide +kernel
theorem dX9_both_51 : decode cX9_both 51 = .ok (.lstore 7, 2) := by decide +kernel
theorem dX9_both_53 : decode cX9_both 53 = .ok (.aload_n 0, 1) := by decide +kernel
theorem dX9_both_54 : decode cX9_both 54 = .ok (.getfield 22, 3) := by decide +kernel
theorem dX9_both_57 : decode cX9_both 57 = .ok (.iload_n 1, 1) := by decide +kernel
theorem dX9_both_58 : decode cX9_both 58 = .ok (.iaload, 1) := by decide +kernel
theorem dX9_both_59 : decode cX9_both 59 = .ok (.istore 9, 2) := by decide +kernel
theorem dX9_both_61 : decode cX9_both 61 = .ok (.iload 9, 2) := by decide +kernel
theorem dX9_both_63 : decode cX9_both 63 = .ok (.sipush 241, 3) := by decide +kernel
theorem dX9_both_66 : decode cX9_both 66 = .ok (.if_icmp .ne 56, 3) := by decide +kernel
theorem dX9_both_69 : decode cX9_both 69 = .ok (.iload_n 2, 1) := by decide +kernel
theorem dX9_both_70 : decode cX9_both 70 = .ok (.bipush 8, 2) := by decide +kernel
theorem dX9_both_72 : decode cX9_both 72 = .ok (.if_icmp .ne 12, 3) := by decide +kernel
theorem dX9_both_75 : decode cX9_both 75 = .ok (.aload_n 0, 1) := by decide +kernel
theorem dX9_both_76 : decode cX9_both 76 = .ok (.getfield 53, 3) := by decide +kernel
theorem dX9_both_79 : decode cX9_both 79 = .ok (.iconst 0, 1) := by decide +kernel
theorem dX9_both_80 : decode cX9_both 80 = .ok (.laload, 1) := by decide +kernel
theorem dX9_both_81 : decode cX9_both 81 = .ok (.goto 13, 3) := by decide +kernel
theorem dX9_both_84 : decode cX9_both 84 = .ok (.aload_n 0, 1) := by decide +kernel
theorem dX9_both_85 : decode cX9_both 85 = .ok (.getfield 53, 3) := by decide +kernel
theorem dX9_both_88 : decode cX9_both 88 = .ok (.iconst 0, 1) := by decide +kernel
theorem dX9_both_89 : decode cX9_both 89 = .ok (.laload, 1) := by decide +kernel
theorem dX9_both_90 : decode cX9_both 90 = .ok (.ldc2_w 192, 3) := by decide +kernel
theorem dX9_both_93 : decode cX9_both 93 = .ok (.land, 1) := by decide +kernel
theorem dX9_both_94 : decode cX9_both 94 = .ok (.lstore 10, 2) := by decide +kernel
theorem dX9_both_96 : decode cX9_both 96 = .ok (.lload 10, 2) := by decide +kernel
theorem dX9_both_98 : decode cX9_both 98 = .ok (.lload 5, 2) := by decide +kernel
theorem dX9_both_100 : decode cX9_both 100 = .ok (.lcmp, 1) := by decide +kernel
theorem dX9_both_101 : decode cX9_both 101 = .ok (.ifCond .ne 11, 3) := by decide +kernel
theorem dX9_both_104 : decode cX9_both 104 = .ok (.aload_n 0, 1) := by decide +kernel
theorem dX9_both_105 : decode cX9_both 105 = .ok (.lload_n 3, 1) := by decide +kernel
theorem dX9_both_106 : decode cX9_both 106 = .ok (.iload_n 2, 1) := by decide +kernel
theorem dX9_both_107 : decode cX9_both 107 = .ok (.lload 7, 2) := by decide +kernel
theorem dX9_both_109 : decode cX9_both 109 = .ok (.invokevirtual 269, 3) := by decide +kernel
theorem dX9_both_112 : decode cX9_both 112 = .ok (.aload_n 0, 1) := by decide +kernel
theorem dX9_both_113 : decode cX9_both 113 = .ok (.getfield 53, 3) := by decide +kernel
theorem dX9_both_116 : decode cX9_both 116 = .ok (.iconst 0, 1) := by decide +kernel
theorem dX9_both_117 : decode cX9_both 117 = .ok (.lload 5, 2) := by decide +kernel
theorem dX9_both_119 : decode cX9_both 119 = .ok (.lastore, 1) := by decide +kernel
theorem dX9_both_120 : decode cX9_both 120 = .ok (.iconst 1, 1) := by decide +kernel
theorem dX9_both_121 : decode cX9_both 121 = .ok (.ireturn, 1) := by decide +kernel
theorem dX9_both_122 : decode cX9_both 122 = .ok (.iload 9, 2) := by decide +kernel
theorem dX9_both_124 : decode cX9_both 124 = .ok (.bipush (-2), 2) := by decide +kernel
theorem dX9_both_126 : decode cX9_both 126 = .ok (.iand, 1) := by decide +kernel
theorem dX9_both_127 : decode cX9_both 127 = .ok (.istore 10, 2) := by decide +kernel
theorem dX9_both_129 : decode cX9_both 129 = .ok (.aload_n 0, 1) := by decide +kernel
theorem dX9_both_130 : decode cX9_both 130 = .ok (.lload_n 3, 1) := by decide +kernel
theorem dX9_both_131 : decode cX9_both 131 = .ok (.iload_n 2, 1) := by decide +kernel
theorem dX9_both_132 : decode cX9_both 132 = .ok (.iload 10, 2) := by decide +kernel
theorem dX9_both_134 : decode cX9_both 134 = .ok (.ifCond .ne 11, 3) := by decide +kernel
theorem dX9_both_137 : decode cX9_both 137 = .ok (.lload 5, 2) := by decide +kernel
theorem dX9_both_139 : decode cX9_both 139 = .ok (.lload 7, 2) := by decide +kernel
theorem dX9_both_141 : decode cX9_both 141 = .ok (.ladd, 1) := by decide +kernel
theorem dX9_both_142 : decode cX9_both 142 = .ok (.goto 51, 3) := by decide +kernel
theorem dX9_both_145 : decode cX9_both 145 = .ok (.iload 10, 2) := by decide +kernel
theorem dX9_both_147 : decode cX9_both 147 = .ok (.bipush 64, 2) := by decide +kernel
theorem dX9_both_149 : decode cX9_both 149 = .ok (.if_icmp .ne 11, 3) := by decide +kernel
theorem dX9_both_152 : decode cX9_both 152 = .ok (.lload 5, 2) := by decide +kernel
theorem dX9_both_154 : decode cX9_both 154 = .ok (.lload 7, 2) := by decide +kernel
theorem dX9_both_156 : decode cX9_both 156 = .ok (.lor, 1) := by decide +kernel
theorem dX9_both_157 : decode cX9_both 157 = .ok (.goto 36, 3) := by decide +kernel
theorem dX9_both_160 : decode cX9_both 160 = .ok (.iload 10, 2) := by decide +kernel
theorem dX9_both_162 : decode cX9_both 162 = .ok (.bipush 80, 2) := by decide +kernel
theorem dX9_both_164 : decode cX9_both 164 = .ok (.if_icmp .ne 11, 3) := by decide +kernel
theorem dX9_both_167 : decode cX9_both 167 = .ok (.lload 5, 2) := by decide +kernel
theorem dX9_both_169 : decode cX9_both 169 = .ok (.lload 7, 2) := by decide +kernel
theorem dX9_both_171 : decode cX9_both 171 = .ok (.land, 1) := by decide +kernel
theorem dX9_both_172 : decode cX9_both 172 = .ok (.goto 21, 3) := by decide +kernel
theorem dX9_both_175 : decode cX9_both 175 = .ok (.iload 10, 2) := by decide +kernel
theorem dX9_both_177 : decode cX9_both 177 = .ok (.sipush 160, 3) := by decide +kernel
theorem dX9_both_180 : decode cX9_both 180 = .ok (.if_icmp .ne 11, 3) := by decide +kernel
theorem dX9_both_183 : decode cX9_both 183 = .ok (.lload 5, 2) := by decide +kernel
theorem dX9_both_185 : decode cX9_both 185 = .ok (.lload 7, 2) := by decide +kernel
theorem dX9_both_187 : decode cX9_both 187 = .ok (.lxor, 1) := by decide +kernel
theorem dX9_both_188 : decode cX9_both 188 = .ok (.goto 5, 3) := by decide +kernel
theorem dX9_both_191 : decode cX9_both 191 = .ok (.lload 7, 2) := by decide +kernel
theorem dX9_both_193 : decode cX9_both 193 = .ok (.invokevirtual 269, 3) := by decide +kernel
theorem dX9_both_196 : decode cX9_both 196 = .ok (.iload 9, 2) := by decide +kernel
theorem dX9_both_198 : decode cX9_both 198 = .ok (.iconst 1, 1) := by decide +kernel
theorem dX9_both_199 : decode cX9_both 199 = .ok (.iand, 1) := by decide +kernel
theorem dX9_both_200 : decode cX9_both 200 = .ok (.iconst 1, 1) := by decide +kernel
theorem dX9_both_201 : decode cX9_both 201 = .ok (.if_icmp .ne 16, 3) := by decide +kernel
theorem dX9_both_204 : decode cX9_both 204 = .ok (.aload_n 0, 1) := by decide +kernel
theorem dX9_both_205 : decode cX9_both 205 = .ok (.getfield 53, 3) := by decide +kernel
theorem dX9_both_208 : decode cX9_both 208 = .ok (.aload_n 0, 1) := by decide +kernel
theorem dX9_both_209 : decode cX9_both 209 = .ok (.getfield 16, 3) := by decide +kernel
theorem dX9_both_212 : decode cX9_both 212 = .ok (.iload_n 1, 1) := by decide +kernel
theorem dX9_both_213 : decode cX9_both 213 = .ok (.iaload, 1) := by decide +kernel
theorem dX9_both_214 : decode cX9_both 214 = .ok (.lload 5, 2) := by decide +kernel
theorem dX9_both_216 : decode cX9_both 216 = .ok (.lastore, 1) := by decide +kernel
theorem dX9_both_217 : decode cX9_both 217 = .ok (.iconst 1, 1) := by decide +kernel
theorem dX9_both_218 : decode cX9_both 218 = .ok (.ireturn, 1) := by decide +kernel
theorem dX9_wide_0 : decode cX9_wide 0 = .ok (.iload_n 1, 1) := by decide +kernel
theorem dX9_wide_1 : decode cX9_wide 1 = .ok (.iconst 1, 1) := by decide +kernel
theorem dX9_wide_2 : decode cX9_wide 2 = .ok (.iadd, 1) := by decide +kernel
theorem dX9_wide_3 : decode cX9_wide 3 = .ok (.aload_n 0, 1) := by decide +kernel
theorem dX9_wide_4 : decode cX9_wide 4 = .ok (.getfield 147, 3) := by decide +kernel
theorem dX9_wide_7 : decode cX9_wide 7 = .ok (.if_icmp .ne 5, 3) := by decide +kernel
theorem dX9_wide_10 : decode cX9_wide 10 = .ok (.iconst 5, 1) := by decide +kernel
theorem dX9_wide_11 : decode cX9_wide 11 = .ok (.ireturn, 1) := by decide +kernel
theorem dX9_wide_12 : decode cX9_wide 12 = .ok (.aload_n 0, 1) := by decide +kernel
theorem dX9_wide_13 : decode cX9_wide 13 = .ok (.iload_n 1, 1) := by decide +kernel
theorem dX9_wide_14 : decode cX9_wide 14 = .ok (.iconst 1, 1) := by decide +kernel
theorem dX9_wide_15 : decode cX9_wide 15 = .ok (.iadd, 1) := by decide +kernel
theorem dX9_wide_16 : decode cX9_wide 16 = .ok (.invokevirtual 309, 3) := by decide +kernel
theorem dX9_wide_19 : decode cX9_wide 19 = .ok (.ifCond .ne 5, 3) := by decide +kernel
theorem dX9_wide_22 : decode cX9_wide 22 = .ok (.iconst 3, 1) := by decide +kernel
theorem dX9_wide_23 : decode cX9_wide 23 = .ok (.ireturn, 1) := by decide +kernel
theorem dX9_wide_24 : decode cX9_wide 24 = .ok (.aload_n 0, 1) := by decide +kernel
theorem dX9_wide_25 : decode cX9_wide 25 = .ok (.getfield 16, 3) := by decide +kernel
theorem dX9_wide_28 : decode cX9_wide 28 = .ok (.iload_n 1, 1) := by decide +kernel
theorem dX9_wide_29 : decode cX9_wide 29 = .ok (.iaload, 1) := by decide +kernel
theorem dX9_wide_30 : decode cX9_wide 30 = .ok (.iconst 1, 1) := by decide +kernel
theorem dX9_wide_31 : decode cX9_wide 31 = .ok (.if_icmp .ne 26, 3) := by decide +kernel
theorem dX9_wide_34 : decode cX9_wide 34 = .ok (.aload_n 0, 1) := by decide +kernel
theorem dX9_wide_35 : decode cX9_wide 35 = .ok (.getfield 22, 3) := by decide +kernel
theorem dX9_wide_38 : decode cX9_wide 38 = .ok (.iload_n 1, 1) := by decide +kernel
theorem dX9_wide_39 : decode cX9_wide 39 = .ok (.iaload, 1) := by decide +kernel
theorem dX9_wide_40 : decode cX9_wide 40 = .ok (.i2l, 1) := by decide +kernel
theorem dX9_wide_41 : decode cX9_wide 41 = .ok (.lconst 0, 1) := by decide +kernel
theorem dX9_wide_42 : decode cX9_wide 42 = .ok (.aload_n 0, 1) := by decide +kernel
theorem dX9_wide_43 : decode cX9_wide 43 = .ok (.getfield 204, 3) := by decide +kernel
theorem dX9_wide_46 : decode cX9_wide 46 = .ok (.iconst 1, 1) := by decide +kernel
theorem dX9_wide_47 : decode cX9_wide 47 = .ok (.isub, 1) := by decide +kernel
theorem dX9_wide_48 : decode cX9_wide 48 = .ok (.i2l, 1) := by decide +kernel
theorem dX9_wide_49 : decode cX9_wide 49 = .ok (.invokestatic 132, 3) := by decide +kernel
theorem dX9_wide_52 : decode cX9_wide 52 = .ok (.ifCond .ne 5, 3) := by decide +kernel
theorem dX9_wide_55 : decode cX9_wide 55 = .ok (.iconst 4, 1) := by decide +kernel
theorem dX9_wide_56 : decode cX9_wide 56 = .ok (.ireturn, 1) := by decide +kernel
theorem dX9_wide_57 : decode cX9_wide 57 = .ok (.aload_n 0, 1) := by decide +kernel
theorem dX9_wide_58 : decode cX9_wide 58 = .ok (.getfield 53, 3) := by decide +kernel
theorem dX9_wide_61 : decode cX9_wide 61 = .ok (.aload_n 0, 1) := by decide +kernel
theorem dX9_wide_62 : decode cX9_wide 62 = .ok (.getfield 13, 3) := by decide +kernel
theorem dX9_wide_65 : decode cX9_wide 65 = .ok (.iload_n 1, 1) := by decide +kernel
theorem dX9_wide_66 : decode cX9_wide 66 = .ok (.iaload, 1) := by decide +kernel
theorem dX9_wide_67 : decode cX9_wide 67 = .ok (.aload_n 0, 1) := by decide +kernel
theorem dX9_wide_68 : decode cX9_wide 68 = .ok (.getfield 16, 3) := by decide +kernel
theorem dX9_wide_71 : decode cX9_wide 71 = .ok (.iload_n 1, 1) := by decide +kernel
theorem dX9_wide_72 : decode cX9_wide 72 = .ok (.iaload, 1) := by decide +kernel
theorem dX9_wide_73 : decode cX9_wide 73 = .ok (.iconst 1, 1) := by decide +kernel
theorem dX9_wide_74 : decode cX9_wide 74 = .ok (.if_icmp .ne 17, 3) := by decide +kernel
theorem dX9_wide_77 : decode cX9_wide 77 = .ok (.ldc2_w 251, 3) := by decide +kernel
theorem dX9_wide_80 : decode cX9_wide 80 = .ok (.aload_n 0, 1) := by decide +kernel
theorem dX9_wide_81 : decode cX9_wide 81 = .ok (.getfield 22, 3) := by decide +kernel
theorem dX9_wide_84 : decode cX9_wide 84 = .ok (.iload_n 1, 1) := by decide +kernel
theorem dX9_wide_85 : decode cX9_wide 85 = .ok (.iaload, 1) := by decide +kernel
theorem dX9_wide_86 : decode cX9_wide 86 = .ok (.i2l, 1) := by decide +kernel
theorem dX9_wide_87 : decode cX9_wide 87 = .ok (.ladd, 1) := by decide +kernel
theorem dX9_wide_88 : decode cX9_wide 88 = .ok (.goto 27, 3) := by decide +kernel
theorem dX9_wide_91 : decode cX9_wide 91 = .ok (.aload_n 0, 1) := by decide +kernel
theorem dX9_wide_92 : decode cX9_wide 92 = .ok (.getfield 22, 3) := by decide +kernel
theorem dX9_wide_95 : decode cX9_wide 95 = .ok (.iload_n 1, 1) := by decide +kernel
theorem dX9_wide_96 : decode cX9_wide 96 = .ok (.iaload, 1) := by decide +kernel
theorem dX9_wide_97 : decode cX9_wide 97 = .ok (.i2l, 1) := by decide +kernel
theorem dX9_wide_98 : decode cX9_wide 98 = .ok (.ldc2_w 192, 3) := by decide +kernel
theorem dX9_wide_101 : decode cX9_wide 101 = .ok (.land, 1) := by decide +kernel
theorem dX9_wide_102 : decode cX9_wide 102 = .ok (.aload_n 0, 1) := by decide +kernel
theorem dX9_wide_103 : decode cX9_wide 103 = .ok (.getfield 22, 3) := by decide +kernel
theorem dX9_wide_106 : decode cX9_wide 106 = .ok (.iload_n 1, 1) := by decide +kernel
theorem dX9_wide_107 : decode cX9_wide 107 = .ok (.iconst 1, 1) := by decide +kernel
theorem dX9_wide_108 : decode cX9_wide 108 = .ok (.iadd, 1) := by decide +kernel
theorem dX9_wide_109 : decode cX9_wide 109 = .ok (.iaload, 1) := by decide +kernel
theorem dX9_wide_110 : decode cX9_wide 110 = .ok (.i2l, 1) := by decide +kernel
theorem dX9_wide_111 : decode cX9_wide 111 = .ok (.bipush 32, 2) := by decide +kernel
theorem dX9_wide_113 : decode cX9_wide 113 = .ok (.lshl, 1) := by decide +kernel
theorem dX9_wide_114 : decode cX9_wide 114 = .ok (.lor, 1) := by decide +kernel
theorem dX9_wide_115 : decode cX9_wide 115 = .ok (.lastore, 1) := by decide +kernel
theorem dX9_wide_116 : decode cX9_wide 116 = .ok (.aload_n 0, 1) := by decide +kernel
theorem dX9_wide_117 : decode cX9_wide 117 = .ok (.iload_n 1, 1) := by decide +kernel
theorem dX9_wide_118 : decode cX9_wide 118 = .ok (.iconst 2, 1) := by decide +kernel
theorem dX9_wide_119 : decode cX9_wide 119 = .ok (.iadd, 1) := by decide +kernel
theorem dX9_wide_120 : decode cX9_wide 120 = .ok (.putfield 260, 3) := by decide +kernel
theorem dX9_wide_123 : decode cX9_wide 123 = .ok (.iconst 0, 1) := by decide +kernel
theorem dX9_wide_124 : decode cX9_wide 124 = .ok (.ireturn, 1) := by decide +kernel
-- JudgedCodeModel.start
def f_X9_start_56 (S : sh) : Nat → Nat → Int32 → dt → Option (Int32 × dt)
  | 0, _, _, _ => none
  | n + 1, o0, x1, D => if (512 : Int32) ≤ x1 then (nm (pI D o0 19 (0 : Int32)) fun D27 => nm (pI D27 o0 20 (0 : Int32)) fun D28 => nm (pI D28 o0 22 (0 : Int32)) fun D29 => nm (pI D29 o0 18 (1 : Int32)) fun D30 => some ((1 : Int32), D30)) else (rq (gR D o0 8) fun o31 => ix x1 (sA S o31) <| nm (pI D o31 x1.toNatClampNeg (0 : Int32)) fun D36 => nm (x1 + 1) fun y37 => f_X9_start_56 S n o0 y37 D36)
def f_X9_start_47 (S : sh) (k12 : Nat → Int32 → dt → Option (Int32 × dt)) (o0 : Nat) (x1 : Int32) (os0 : Nat) (xs1 : Int32) (xs2 : Int64) (D : dt) : Option (Int32 × dt) := ix xs1 (sA S os0) <| nm (pL D os0 xs1.toNatClampNeg xs2) fun D39 => nm (x1 + 1) fun y40 => k12 o0 y40 D39
def f_X9_start_12 (S : sh) : Nat → Nat → Int32 → dt → Option (Int32 × dt)
  | 0, _, _, _ => none
  | n + 1, o0, x1, D => if (11 : Int32) ≤ x1 then (nm ((0 : Int32)) fun y42 => f_X9_start_56 S LF o0 y42 D) else (rq (gR D o0 21) fun o43 => if x1 = (1 : Int32) then (f_X9_start_47 S (f_X9_start_12 S n) o0 x1 o43 x1 (4294967296 : Int64) D) else (if x1 = (10 : Int32) then (f_X9_start_47 S (f_X9_start_12 S n) o0 x1 o43 x1 (8589934592 : Int64) D) else (f_X9_start_47 S (f_X9_start_12 S n) o0 x1 o43 x1 (0 : Int64) D)))
def f_X9_start (S : sh) (o0 : Nat) (D : dt) : Option (Int32 × dt) := if (gI D o0 0) = 0 then (some ((-3 : Int32), D)) else (nm ((0 : Int32)) fun y50 => f_X9_start_12 S LF o0 y50 D)
-- JudgedCodeModel.load
def f_X9_load_71 (S : sh) (os0 : Nat) (xs1 : Int32) (xs2 : Int64) (D : dt) : Option (Int32 × dt) := ix xs1 (sA S os0) <| nm (pL D os0 xs1.toNatClampNeg xs2) fun D37 => some ((1 : Int32), D37)
def f_X9_load (S : sh) (o0 : Nat) (x1 : Int32) (x2 : Int32) (x3 : Int32) (D : dt) : Option (Int32 × dt) := rq (gR D o0 21) fun o38 => rq (gR D o0 3) fun o42 => ix x1 (sA S o42) <| ix (gI D o42 x1.toNatClampNeg) (sA S o38) <| rq (gR D o0 4) fun o48 => ix x1 (sA S o48) <| nm ((gL D o38 (gI D o42 x1.toNatClampNeg).toNatClampNeg) + ((gI D o48 x1.toNatClampNeg).toInt64)) fun y53 => pq (f_X9_isThere S D o0 y53 x2 (0 : Int32)) fun r55 => if r55 = 0 then (some ((0 : Int32), D)) else (pq (f_X9_numberAt S D o0 y53 x2) fun r58 => rq (gR D o0 21) fun o59 => rq (gR D o0 2) fun o63 => ix x1 (sA S o63) <| if x3 = 0 then (f_X9_load_71 S o59 (gI D o63 x1.toNatClampNeg) r58 D) else (pq (f_X9_signed r58 ((8 : Int32) * x2)) fun r70 => f_X9_load_71 S o59 (gI D o63 x1.toNatClampNeg) r70 D))
-- JudgedCodeModel.put
def f_X9_put (S : sh) (o0 : Nat) (x1 : Int32) (x2 : Int32) (x3 : Int64) (D : dt) : Option (Int32 × dt) := rq (gR D o0 21) fun o22 => rq (gR D o0 2) fun o26 => ix x1 (sA S o26) <| ix (gI D o26 x1.toNatClampNeg) (sA S o22) <| rq (gR D o0 4) fun o32 => ix x1 (sA S o32) <| nm ((gL D o22 (gI D o26 x1.toNatClampNeg).toNatClampNeg) + ((gI D o32 x1.toNatClampNeg).toInt64)) fun y37 => pq (f_X9_isThere S D o0 y37 x2 (1 : Int32)) fun r39 => if r39 = 0 then (some ((0 : Int32), D)) else (cq (f_X9_setNumber S o0 y37 x2 x3 D) fun _ D42 => some ((1 : Int32), D42))
-- JudgedCodeModel.both
def f_X9_both_193 (S : sh) (o0 : Nat) (x1 : Int32) (x5 : Int64) (x9 : Int32) (os0 : Nat) (xs1 : Int64) (xs2 : Int32) (xs3 : Int64) (D : dt) : Option (Int32 × dt) := cq (f_X9_setNumber S os0 xs1 xs2 xs3 D) fun _ D80 => if (x9 &&& (1 : Int32)) = (1 : Int32) then (rq (gR D80 o0 21) fun o82 => rq (gR D80 o0 3) fun o86 => ix x1 (sA S o86) <| ix (gI D80 o86 x1.toNatClampNeg) (sA S o82) <| nm (pL D80 o82 (gI D80 o86 x1.toNatClampNeg).toNatClampNeg x5) fun D92 => some ((1 : Int32), D92)) else (some ((1 : Int32), D80))
def f_X9_both_112 (S : sh) (o0 : Nat) (x5 : Int64) (D : dt) : Option (Int32 × dt) := rq (gR D o0 21) fun o93 => ix (0 : Int32) (sA S o93) <| nm (pL D o93 (0 : Int32).toNatClampNeg x5) fun D98 => some ((1 : Int32), D98)
def f_X9_both_94 (S : sh) (o0 : Nat) (x2 : Int32) (x3 : Int64) (x5 : Int64) (x7 : Int64) (xs0 : Int64) (D : dt) : Option (Int32 × dt) := if (lg_cmp xs0 x5) = 0 then (cq (f_X9_setNumber S o0 x3 x2 x7 D) fun _ D101 => f_X9_both_112 S o0 x5 D101) else (f_X9_both_112 S o0 x5 D)
def f_X9_both (S : sh) (o0 : Nat) (x1 : Int32) (x2 : Int32) (D : dt) : Option (Int32 × dt) := rq (gR D o0 21) fun o102 => rq (gR D o0 2) fun o106 => ix x1 (sA S o106) <| ix (gI D o106 x1.toNatClampNeg) (sA S o102) <| rq (gR D o0 4) fun o112 => ix x1 (sA S o112) <| nm ((gL D o102 (gI D o106 x1.toNatClampNeg).toNatClampNeg) + ((gI D o112 x1.toNatClampNeg).toInt64)) fun y117 => pq (f_X9_isThere S D o0 y117 x2 (1 : Int32)) fun r119 => if r119 = 0 then (some ((0 : Int32), D)) else (pq (f_X9_numberAt S D o0 y117 x2) fun r122 => rq (gR D o0 21) fun o123 => rq (gR D o0 3) fun o127 => ix x1 (sA S o127) <| ix (gI D o127 x1.toNatClampNeg) (sA S o123) <| nm (gL D o123 (gI D o127 x1.toNatClampNeg).toNatClampNeg) fun y133 => rq (gR D o0 5) fun o134 => ix x1 (sA S o134) <| nm (gI D o134 x1.toNatClampNeg) fun y139 => if y139 = (241 : Int32) then (if x2 = (8 : Int32) then (rq (gR D o0 21) fun o152 => ix (0 : Int32) (sA S o152) <| f_X9_both_94 S o0 x2 y117 r122 y133 (gL D o152 (0 : Int32).toNatClampNeg) D) else (rq (gR D o0 21) fun o147 => ix (0 : Int32) (sA S o147) <| f_X9_both_94 S o0 x2 y117 r122 y133 ((gL D o147 (0 : Int32).toNatClampNeg) &&& (4294967295 : Int64)) D)) else (nm (y139 &&& (-2 : Int32)) fun y141 => if y141 = 0 then (f_X9_both_193 S o0 x1 r122 y139 o0 y117 x2 (r122 + y133) D) else (if y141 = (64 : Int32) then (f_X9_both_193 S o0 x1 r122 y139 o0 y117 x2 (r122 ||| y133) D) else (if y141 = (80 : Int32) then (f_X9_both_193 S o0 x1 r122 y139 o0 y117 x2 (r122 &&& y133) D) else (if y141 = (160 : Int32) then (f_X9_both_193 S o0 x1 r122 y139 o0 y117 x2 (r122 ^^^ y133) D) else (f_X9_both_193 S o0 x1 r122 y139 o0 y117 x2 y133 D))))))
-- JudgedCodeModel.wide
def f_X9_wide_115 (S : sh) (o0 : Nat) (x1 : Int32) (os0 : Nat) (xs1 : Int32) (xs2 : Int64) (D : dt) : Option (Int32 × dt) := ix xs1 (sA S os0) <| nm (pL D os0 xs1.toNatClampNeg xs2) fun D53 => nm (pI D53 o0 19 (x1 + (2 : Int32))) fun D54 => some ((0 : Int32), D54)
def f_X9_wide_57 (S : sh) (o0 : Nat) (x1 : Int32) (D : dt) : Option (Int32 × dt) := rq (gR D o0 21) fun o55 => rq (gR D o0 2) fun o59 => ix x1 (sA S o59) <| rq (gR D o0 3) fun o64 => ix x1 (sA S o64) <| if (gI D o64 x1.toNatClampNeg) = (1 : Int32) then (rq (gR D o0 5) fun o80 => ix x1 (sA S o80) <| f_X9_wide_115 S o0 x1 o55 (gI D o59 x1.toNatClampNeg) ((17179869184 : Int64) + ((gI D o80 x1.toNatClampNeg).toInt64)) D) else (rq (gR D o0 5) fun o70 => ix x1 (sA S o70) <| rq (gR D o0 5) fun o75 => ix (x1 + (1 : Int32)) (sA S o75) <| f_X9_wide_115 S o0 x1 o55 (gI D o59 x1.toNatClampNeg) ((((gI D o70 x1.toNatClampNeg).toInt64) &&& (4294967295 : Int64)) ||| (j_lshl ((gI D o75 (x1 + (1 : Int32)).toNatClampNeg).toInt64) (32 : Int32))) D)
def f_X9_wide (S : sh) (o0 : Nat) (x1 : Int32) (D : dt) : Option (Int32 × dt) := if (x1 + (1 : Int32)) = (gI D o0 0) then (some ((5 : Int32), D)) else (pq (f_X9_isSecond S D o0 (x1 + (1 : Int32))) fun r87 => if r87 = 0 then (some ((3 : Int32), D)) else (rq (gR D o0 3) fun o89 => ix x1 (sA S o89) <| if (gI D o89 x1.toNatClampNeg) = (1 : Int32) then (rq (gR D o0 5) fun o95 => ix x1 (sA S o95) <| pq (f_X9_in ((gI D o95 x1.toNatClampNeg).toInt64) (0 : Int64) (((gI D o0 9) - (1 : Int32)).toInt64)) fun r101 => if r101 = 0 then (some ((4 : Int32), D)) else (f_X9_wide_57 S o0 x1 D)) else (f_X9_wide_57 S o0 x1 D)))
theorem mk_X9_start : MkV yX9_start RX9 cX9_start 2 (some .int) 0 := ⟨⟨lk_1297, lk_1298, lk_121, (tb_in (i := 1299) (by decide +kernel) (by decide +kernel))⟩, by decide +kernel⟩
theorem mk_X9_load : MkV yX9_load RX9 cX9_load 8 (some .boolean) 3 := ⟨⟨lk_1386, lk_77, lk_121, (tb_in (i := 1387) (by decide +kernel) (by decide +kernel))⟩, by decide +kernel⟩
theorem mk_X9_put : MkV yX9_put RX9 cX9_put 7 (some .boolean) 3 := ⟨⟨lk_1394, lk_79, lk_121, (tb_in (i := 1395) (by decide +kernel) (by decide +kernel))⟩, by decide +kernel⟩
theorem mk_X9_both : MkV yX9_both RX9 cX9_both 12 (some .boolean) 2 := ⟨⟨lk_1406, lk_82, lk_121, (tb_in (i := 1407) (by decide +kernel) (by decide +kernel))⟩, by decide +kernel⟩
theorem mk_X9_wide : MkV yX9_wide RX9 cX9_wide 2 (some .int) 1 := ⟨⟨lk_1410, lk_83, lk_121, (tb_in (i := 1411) (by decide +kernel) (by decide +kernel))⟩, by decide +kernel⟩
section
variable {p : Program} {l : Launch} {e : Env} {R : Room} {s : State} {m : MethodId} {args : Array Value} {below : List Frame} {meth : Method} {c : Code} {H : Heap} {locs : List Loc} {G : va_G} {cA : Nat → ClassId} {S : sh} {D : dt} {ad : Nat → Nat} {A : Nat → Prop}
set_option maxHeartbeats 4000000 in
set_option maxRecDepth 100000 in
theorem w_X9_start_56 {r : Int32} {D' : dt} (hC : Cx RX9 cX9_start 2 (some .int) p s m args meth c) (hR : 0 ≤ R.frames ∧ 0 ≤ R.locals) : ∀ (n : Nat), ∀ (o0 a0 : Nat) (x1 : Int32) (D : dt) (H : Heap) (locs : List Loc) (ls : Array Slot), Is S ad o0 a0 8 → Wd G cA S D ad A s H locs → lv_has ls 2 [(0, .ref a0), (1, .int x1)] → f_X9_start_56 S n o0 x1 D = some (r, D') → W p l e R s m args below meth c H locs 0 0 (MQ below (Qn (some (.int r)) True (wpost G cA S D' ad A) A) args s 0 0 A) (F0 m 56 ls []) := by
  obtain ⟨hx, hb, -⟩ := id hC
  intro n
  induction n with
  | zero =>
    intro o0 a0 x1 D H locs ls hi0 hw hl h
    rw [f_X9_start_56.eq_1] at h
    cases h
  | succ n ih =>
    intro o0 a0 x1 D H locs ls hi0 hw hl h
    rw [f_X9_start_56.eq_2] at h
    refine lv_iload_n hx hb dX9_start_56 rfl (lv_at hl 1 rfl) ?_
    refine lv_sipush (v := 512) hx hb dX9_start_57 (by decide) ?_
    refine lv_icmp_ge (tgt := 76) hx hb dX9_start_60 (by decide) (fun c26 => ?_) (fun c26 => ?_)
    · have h := i_yes c26 h
      refine lv_aload_n hx hb dX9_start_76 rfl (lv_at hl 0 rfl) ?_
      refine lv_iconst (v := 0) hx hb dX9_start_77 (by decide) ?_
      refine r_pI hC hw kc_8 hi0 19 rfl lk_1091 rfl rfl rfl dX9_start_78 (fun D27 eD27 H locs hw => ?_)
      have h := nm_i h D27 eD27
      refine lv_aload_n hx hb dX9_start_81 rfl (lv_at hl 0 rfl) ?_
      refine lv_iconst (v := 0) hx hb dX9_start_82 (by decide) ?_
      refine r_pI hC hw kc_8 hi0 20 rfl lk_1092 rfl rfl rfl dX9_start_83 (fun D28 eD28 H locs hw => ?_)
      have h := nm_i h D28 eD28
      refine lv_aload_n hx hb dX9_start_86 rfl (lv_at hl 0 rfl) ?_
      refine lv_iconst (v := 0) hx hb dX9_start_87 (by decide) ?_
      refine r_pI hC hw kc_8 hi0 22 rfl lk_1094 rfl rfl rfl dX9_start_88 (fun D29 eD29 H locs hw => ?_)
      have h := nm_i h D29 eD29
      refine lv_aload_n hx hb dX9_start_91 rfl (lv_at hl 0 rfl) ?_
      refine lv_iconst (v := 1) hx hb dX9_start_92 (by decide) ?_
      refine r_pI hC hw kc_8 hi0 18 rfl lk_1090 rfl rfl rfl dX9_start_93 (fun D30 eD30 H locs hw => ?_)
      have h := nm_i h D30 eD30
      refine lv_iconst (v := 1) hx hb dX9_start_96 (by decide) ?_
      cases h
      exact r_iret hC hw dX9_start_97
    · have h := i_no c26 h
      refine lv_aload_n hx hb dX9_start_63 rfl (lv_at hl 0 rfl) ?_
      obtain ⟨o31, ho34, h⟩ := rq_i h
      refine r_getR hC hw kc_8 hi0 8 rfl lk_1080 dX9_start_64 rfl ho34 (fun a32 hi33 => ?_)
      refine lv_iload_n hx hb dX9_start_67 rfl (lv_at hl 1 rfl) ?_
      refine lv_iconst (v := 0) hx hb dX9_start_68 (by decide) ?_
      obtain ⟨hn35, h⟩ := ix_i h
      refine r_ias hC hw hi33 hn35 dX9_start_69 (fun D36 eD36 H locs hw => ?_)
      have h := nm_i h D36 eD36
      obtain ⟨y37, ey37⟩ : ∃ z : Int32, z = x1 + 1 := ⟨_, rfl⟩
      have h := nm_i h y37 ey37
      refine lv_iinc (v := y37) (lv' := [(1, .int y37), (0, .ref a0)]) hx hb dX9_start_70 hl (k := 1) rfl (by rw [ey37]; rfl) (by decide) rfl (fun ls hl => ?_)
      refine lv_goto (tgt := 56) hx hb dX9_start_73 (by decide) ?_
      exact ih o0 a0 y37 _ _ _ _ hi0 hw (lv_sub hl [1, 0] rfl) h
set_option maxHeartbeats 4000000 in
set_option maxRecDepth 100000 in
theorem w_X9_start_47 {r : Int32} {D' : dt} (hC : Cx RX9 cX9_start 2 (some .int) p s m args meth c) (hR : 0 ≤ R.frames ∧ 0 ≤ R.locals) {k12 : Nat → Int32 → dt → Option (Int32 × dt)} (hk12 : ∀ (o0 a0 : Nat) (x1 : Int32) (D : dt) (H : Heap) (locs : List Loc) (ls : Array Slot), Is S ad o0 a0 8 → Wd G cA S D ad A s H locs → lv_has ls 2 [(0, .ref a0), (1, .int x1)] → k12 o0 x1 D = some (r, D') → W p l e R s m args below meth c H locs 0 0 (MQ below (Qn (some (.int r)) True (wpost G cA S D' ad A) A) args s 0 0 A) (F0 m 12 ls [])) : ∀ (o0 a0 : Nat) (x1 : Int32) (os0 as0 : Nat) (xs1 : Int32) (xs2 : Int64) (D : dt) (H : Heap) (locs : List Loc) (ls : Array Slot), Is S ad o0 a0 8 → Is S ad os0 as0 101 → Wd G cA S D ad A s H locs → lv_has ls 2 [(0, .ref a0), (1, .int x1)] → f_X9_start_47 S k12 o0 x1 os0 xs1 xs2 D = some (r, D') → W p l e R s m args below meth c H locs 0 0 (MQ below (Qn (some (.int r)) True (wpost G cA S D' ad A) A) args s 0 0 A) (F0 m 47 ls [.long xs2, .int xs1, .ref as0]) := by
  obtain ⟨hx, hb, -⟩ := id hC
  intro o0 a0 x1 os0 as0 xs1 xs2 D H locs ls hi0 his0 hw hl h
  unfold f_X9_start_47 at h
  obtain ⟨hn38, h⟩ := ix_i h
  refine r_las hC hw his0 hn38 dX9_start_47 (fun D39 eD39 H locs hw => ?_)
  have h := nm_i h D39 eD39
  obtain ⟨y40, ey40⟩ : ∃ z : Int32, z = x1 + 1 := ⟨_, rfl⟩
  have h := nm_i h y40 ey40
  refine lv_iinc (v := y40) (lv' := [(1, .int y40), (0, .ref a0)]) hx hb dX9_start_48 hl (k := 1) rfl (by rw [ey40]; rfl) (by decide) rfl (fun ls hl => ?_)
  refine lv_goto (tgt := 12) hx hb dX9_start_51 (by decide) ?_
  exact hk12 o0 a0 y40 _ _ _ _ hi0 hw (lv_sub hl [1, 0] rfl) h
set_option maxHeartbeats 4000000 in
set_option maxRecDepth 100000 in
theorem w_X9_start_12 {r : Int32} {D' : dt} (hC : Cx RX9 cX9_start 2 (some .int) p s m args meth c) (hR : 0 ≤ R.frames ∧ 0 ≤ R.locals) : ∀ (n : Nat), ∀ (o0 a0 : Nat) (x1 : Int32) (D : dt) (H : Heap) (locs : List Loc) (ls : Array Slot), Is S ad o0 a0 8 → Wd G cA S D ad A s H locs → lv_has ls 2 [(0, .ref a0), (1, .int x1)] → f_X9_start_12 S n o0 x1 D = some (r, D') → W p l e R s m args below meth c H locs 0 0 (MQ below (Qn (some (.int r)) True (wpost G cA S D' ad A) A) args s 0 0 A) (F0 m 12 ls []) := by
  obtain ⟨hx, hb, -⟩ := id hC
  intro n
  induction n with
  | zero =>
    intro o0 a0 x1 D H locs ls hi0 hw hl h
    rw [f_X9_start_12.eq_1] at h
    cases h
  | succ n ih =>
    intro o0 a0 x1 D H locs ls hi0 hw hl h
    rw [f_X9_start_12.eq_2] at h
    refine lv_iload_n hx hb dX9_start_12 rfl (lv_at hl 1 rfl) ?_
    refine lv_bipush (v := 11) hx hb dX9_start_13 (by decide) ?_
    refine lv_icmp_ge (tgt := 54) hx hb dX9_start_15 (by decide) (fun c41 => ?_) (fun c41 => ?_)
    · have h := i_yes c41 h
      refine lv_iconst (v := 0) hx hb dX9_start_54 (by decide) ?_
      refine lv_topi (fun y42 ey42 => ?_)
      have h := nm_i h y42 ey42
      refine lv_istore_n (lv' := [(1, .int y42), (0, .ref a0)]) hx hb dX9_start_55 rfl hl (by decide) rfl (fun ls hl => ?_)
      exact w_X9_start_56 hC hR LF o0 a0 y42 _ _ _ _ hi0 hw (lv_sub hl [1, 0] rfl) h
    · have h := i_no c41 h
      refine lv_aload_n hx hb dX9_start_18 rfl (lv_at hl 0 rfl) ?_
      obtain ⟨o43, ho46, h⟩ := rq_i h
      refine r_getR hC hw kc_8 hi0 21 rfl lk_1093 dX9_start_19 rfl ho46 (fun a44 hi45 => ?_)
      refine lv_iload_n hx hb dX9_start_22 rfl (lv_at hl 1 rfl) ?_
      refine lv_iload_n hx hb dX9_start_23 rfl (lv_at hl 1 rfl) ?_
      refine lv_iconst (v := 1) hx hb dX9_start_24 (by decide) ?_
      refine lv_icmp_ne (tgt := 34) hx hb dX9_start_25 (by decide) (fun c47 => ?_) (fun c47 => ?_)
      · have h := i_no c47 h
        refine lv_iload_n hx hb dX9_start_34 rfl (lv_at hl 1 rfl) ?_
        refine lv_bipush (v := 10) hx hb dX9_start_35 (by decide) ?_
        refine lv_icmp_ne (tgt := 46) hx hb dX9_start_37 (by decide) (fun c48 => ?_) (fun c48 => ?_)
        · have h := i_no c48 h
          refine lv_lconst (v := 0) hx hb dX9_start_46 (by decide) ?_
          exact w_X9_start_47 hC hR ih o0 a0 x1 o43 a44 x1 (0 : Int64) _ _ _ _ hi0 hi45 hw (lv_sub hl [0, 1] rfl) h
        · have h := i_yes c48 h
          refine lv_ldc2 (v := 8589934592) hx hb hC.2.2.2.1 (hC.2.2.2.2.1 _ lk_1271) dX9_start_40 ?_
          refine lv_goto (tgt := 47) hx hb dX9_start_43 (by decide) ?_
          exact w_X9_start_47 hC hR ih o0 a0 x1 o43 a44 x1 (8589934592 : Int64) _ _ _ _ hi0 hi45 hw (lv_sub hl [0, 1] rfl) h
      · have h := i_yes c47 h
        refine lv_ldc2 (v := 4294967296) hx hb hC.2.2.2.1 (hC.2.2.2.2.1 _ lk_1268) dX9_start_28 ?_
        refine lv_goto (tgt := 47) hx hb dX9_start_31 (by decide) ?_
        exact w_X9_start_47 hC hR ih o0 a0 x1 o43 a44 x1 (4294967296 : Int64) _ _ _ _ hi0 hi45 hw (lv_sub hl [0, 1] rfl) h
set_option maxHeartbeats 4000000 in
set_option maxRecDepth 100000 in
theorem w_X9_start_0 {r : Int32} {D' : dt} (hC : Cx RX9 cX9_start 2 (some .int) p s m args meth c) (hR : 0 ≤ R.frames ∧ 0 ≤ R.locals) : ∀ (o0 a0 : Nat) (D : dt) (H : Heap) (locs : List Loc) (ls : Array Slot), Is S ad o0 a0 8 → Wd G cA S D ad A s H locs → lv_has ls 2 [(0, .ref a0)] → f_X9_start S o0 D = some (r, D') → W p l e R s m args below meth c H locs 0 0 (MQ below (Qn (some (.int r)) True (wpost G cA S D' ad A) A) args s 0 0 A) (F0 m 0 ls []) := by
  obtain ⟨hx, hb, -⟩ := id hC
  intro o0 a0 D H locs ls hi0 hw hl h
  unfold f_X9_start at h
  refine lv_aload_n hx hb dX9_start_0 rfl (lv_at hl 0 rfl) ?_
  refine r_gI hC hw kc_8 hi0 0 rfl lk_1072 dX9_start_1 ?_
  refine lv_if_ne (tgt := 10) hx hb dX9_start_4 (by decide) (fun c49 => ?_) (fun c49 => ?_)
  · have h := i_no c49 h
    refine lv_iconst (v := 0) hx hb dX9_start_10 (by decide) ?_
    refine lv_topi (fun y50 ey50 => ?_)
    have h := nm_i h y50 ey50
    refine lv_istore_n (lv' := [(1, .int y50), (0, .ref a0)]) hx hb dX9_start_11 rfl hl (by decide) rfl (fun ls hl => ?_)
    exact w_X9_start_12 hC hR LF o0 a0 y50 _ _ _ _ hi0 hw (lv_sub hl [1, 0] rfl) h
  · have h := i_yes c49 h
    refine lv_bipush (v := (-3)) hx hb dX9_start_7 (by decide) ?_
    cases h
    exact r_iret hC hw dX9_start_9
set_option maxHeartbeats 4000000 in
set_option maxRecDepth 100000 in
theorem k_X9_start {l : Launch} {G : va_G} {cA : Nat → ClassId} {S : sh} {D D' : dt} {ad : Nat → Nat} (sz : Nat) {o0 a0 : Nat} {r : Int32} (hi0 : Is S ad o0 a0 8) (h : f_X9_start S o0 D = some (r, D')) : Co l yX9_start (Cond.code yX9_start cX9_start 2 (some .int) :: tb0) 0 0 [.ref a0] G cA S D ad sz (some (.int r)) True D' := by
  refine Met.ofW (cc := cX9_start) (maxL := 2) (ret := (some .int)) (by decide) rfl ?_
  intro p e s m args below meth c s₁ B hml hv
  obtain ⟨rfl, hsz, hP, hK, hD0, hT, hX⟩ := hv
  subst hsz
  have hts := atoms_spec (ws := Cond.code yX9_start cX9_start 2 (some .int) :: tb0) B.pre
  have hC : Cx RX9 cX9_start 2 (some .int) p s m _ meth c := ⟨B.exec, B.bytes, hml, findClass_of_methodNamed B.named, fun w q => hts w (List.mem_cons_of_mem _ q), B.returns, B.notSynchronized⟩
  have hw := Wd.entry hP hK hD0 hT hX
  have hl := lv_entry ([.ref a0]) (n := 2) (Nat.le_of_ble_eq_true rfl)
  rw [lg_entry_eq]
  exact w_X9_start_0 hC ⟨Nat.le_refl _, Nat.le_refl _⟩ o0 a0 D _ _ _ hi0 hw hl h
set_option maxHeartbeats 4000000 in
set_option maxRecDepth 100000 in
theorem w_X9_load_71 {r : Int32} {D' : dt} (hC : Cx RX9 cX9_load 8 (some .boolean) p s m args meth c) (hR : 4 ≤ R.frames ∧ 95 ≤ R.locals) : ∀ (os0 as0 : Nat) (xs1 : Int32) (xs2 : Int64) (D : dt) (H : Heap) (locs : List Loc) (ls : Array Slot), Is S ad os0 as0 101 → Wd G cA S D ad A s H locs → lv_has ls 8 [] → f_X9_load_71 S os0 xs1 xs2 D = some (r, D') → W p l e R s m args below meth c H locs 0 0 (MQ below (Qn (some (.int r)) True (wpost G cA S D' ad A) A) args s 0 0 A) (F0 m 71 ls [.long xs2, .int xs1, .ref as0]) := by
  obtain ⟨hx, hb, -⟩ := id hC
  intro os0 as0 xs1 xs2 D H locs ls his0 hw hl h
  unfold f_X9_load_71 at h
  obtain ⟨hn36, h⟩ := ix_i h
  refine r_las hC hw his0 hn36 dX9_load_71 (fun D37 eD37 H locs hw => ?_)
  have h := nm_i h D37 eD37
  refine lv_iconst (v := 1) hx hb dX9_load_72 (by decide) ?_
  cases h
  exact r_zret hC hw (Or.inr rfl) dX9_load_73
set_option maxHeartbeats 4000000 in
set_option maxRecDepth 100000 in
theorem w_X9_load_0 {r : Int32} {D' : dt} (hC : Cx RX9 cX9_load 8 (some .boolean) p s m args meth c) (hR : 4 ≤ R.frames ∧ 95 ≤ R.locals) : ∀ (o0 a0 : Nat) (x1 : Int32) (x2 : Int32) (x3 : Int32) (D : dt) (H : Heap) (locs : List Loc) (ls : Array Slot), Is S ad o0 a0 8 → Wd G cA S D ad A s H locs → lv_has ls 8 [(0, .ref a0), (1, .int x1), (2, .int x2), (3, .int x3)] → f_X9_load S o0 x1 x2 x3 D = some (r, D') → W p l e R s m args below meth c H locs 0 0 (MQ below (Qn (some (.int r)) True (wpost G cA S D' ad A) A) args s 0 0 A) (F0 m 0 ls []) := by
  obtain ⟨hx, hb, -⟩ := id hC
  intro o0 a0 x1 x2 x3 D H locs ls hi0 hw hl h
  unfold f_X9_load at h
  refine lv_aload_n hx hb dX9_load_0 rfl (lv_at hl 0 rfl) ?_
  obtain ⟨o38, ho41, h⟩ := rq_i h
  refine r_getR hC hw kc_8 hi0 21 rfl lk_1093 dX9_load_1 rfl ho41 (fun a39 hi40 => ?_)
  refine lv_aload_n hx hb dX9_load_4 rfl (lv_at hl 0 rfl) ?_
  obtain ⟨o42, ho45, h⟩ := rq_i h
  refine r_getR hC hw kc_8 hi0 3 rfl lk_1075 dX9_load_5 rfl ho45 (fun a43 hi44 => ?_)
  refine lv_iload_n hx hb dX9_load_8 rfl (lv_at hl 1 rfl) ?_
  obtain ⟨hn46, h⟩ := ix_i h
  refine r_iald hC hw hi44 hn46 dX9_load_9 ?_
  obtain ⟨hn47, h⟩ := ix_i h
  refine r_lald hC hw hi40 hn47 dX9_load_10 ?_
  refine lv_aload_n hx hb dX9_load_11 rfl (lv_at hl 0 rfl) ?_
  obtain ⟨o48, ho51, h⟩ := rq_i h
  refine r_getR hC hw kc_8 hi0 4 rfl lk_1076 dX9_load_12 rfl ho51 (fun a49 hi50 => ?_)
  refine lv_iload_n hx hb dX9_load_15 rfl (lv_at hl 1 rfl) ?_
  obtain ⟨hn52, h⟩ := ix_i h
  refine r_iald hC hw hi50 hn52 dX9_load_16 ?_
  refine lv_i2l (v := (gI D o48 x1.toNatClampNeg).toInt64) hx hb dX9_load_17 rfl ?_
  refine lv_ladd hx hb dX9_load_18 ?_
  refine lv_topl (fun y53 ey53 => ?_)
  have h := nm_i h y53 ey53
  refine lv_lstore (lv' := [(4, .long y53), (0, .ref a0), (1, .int x1), (2, .int x2), (3, .int x3)]) hx hb dX9_load_19 hl (by decide) rfl (fun ls hl => ?_)
  refine lv_aload_n hx hb dX9_load_21 rfl (lv_at hl 1 rfl) ?_
  refine lv_lload hx hb dX9_load_22 (lv_at hl 0 rfl) ?_
  refine lv_iload_n hx hb dX9_load_24 rfl (lv_at hl 3 rfl) ?_
  refine lv_iconst (v := 0) hx hb dX9_load_25 (by decide) ?_
  obtain ⟨r55, hq54, h⟩ := pq_i h
  refine r_cV (st' := [.int r55]) [.long y53, .int x2, .int (0 : Int32)] [] hC hw kc_8 hi0 (k_X9_isThere _ hi0 hq54) mk_X9_isThere lk_1264 ⟨Nat.le_trans (by decide) hR.1, Nat.le_trans (by decide) hR.2⟩ ⟨Nat.zero_le _, Nat.zero_le _⟩ rfl hl.1 rfl rfl (Nat.le_of_ble_eq_true rfl) dX9_load_26 (fun hP H locs hw => ?_)
  refine lv_if_ne (tgt := 34) hx hb dX9_load_29 (by decide) (fun c56 => ?_) (fun c56 => ?_)
  · have h := i_no c56 h
    refine lv_aload_n hx hb dX9_load_34 rfl (lv_at hl 1 rfl) ?_
    refine lv_lload hx hb dX9_load_35 (lv_at hl 0 rfl) ?_
    refine lv_iload_n hx hb dX9_load_37 rfl (lv_at hl 3 rfl) ?_
    obtain ⟨r58, hq57, h⟩ := pq_i h
    refine r_cV (st' := [.long r58]) [.long y53, .int x2] [] hC hw kc_8 hi0 (k_X9_numberAt _ hi0 hq57) mk_X9_numberAt lk_1388 ⟨Nat.le_trans (by decide) hR.1, Nat.le_trans (by decide) hR.2⟩ ⟨Nat.zero_le _, Nat.zero_le _⟩ rfl hl.1 rfl rfl (Nat.le_of_ble_eq_true rfl) dX9_load_38 (fun hP H locs hw => ?_)
    refine lv_lstore (lv' := [(6, .long r58), (4, .long y53), (0, .ref a0), (1, .int x1), (2, .int x2), (3, .int x3)]) hx hb dX9_load_41 hl (by decide) rfl (fun ls hl => ?_)
    refine lv_aload_n hx hb dX9_load_43 rfl (lv_at hl 2 rfl) ?_
    obtain ⟨o59, ho62, h⟩ := rq_i h
    refine r_getR hC hw kc_8 hi0 21 rfl lk_1093 dX9_load_44 rfl ho62 (fun a60 hi61 => ?_)
    refine lv_aload_n hx hb dX9_load_47 rfl (lv_at hl 2 rfl) ?_
    obtain ⟨o63, ho66, h⟩ := rq_i h
    refine r_getR hC hw kc_8 hi0 2 rfl lk_1074 dX9_load_48 rfl ho66 (fun a64 hi65 => ?_)
    refine lv_iload_n hx hb dX9_load_51 rfl (lv_at hl 3 rfl) ?_
    obtain ⟨hn67, h⟩ := ix_i h
    refine r_iald hC hw hi65 hn67 dX9_load_52 ?_
    refine lv_iload_n hx hb dX9_load_53 rfl (lv_at hl 5 rfl) ?_
    refine lv_if_eq (tgt := 69) hx hb dX9_load_54 (by decide) (fun c68 => ?_) (fun c68 => ?_)
    · have h := i_yes c68 h
      refine lv_lload hx hb dX9_load_69 (lv_at hl 0 rfl) ?_
      exact w_X9_load_71 hC hR o59 a60 (gI D o63 x1.toNatClampNeg) r58 _ _ _ _ hi61 hw (lv_sub hl [] rfl) h
    · have h := i_no c68 h
      refine lv_lload hx hb dX9_load_57 (lv_at hl 0 rfl) ?_
      refine lv_bipush (v := 8) hx hb dX9_load_59 (by decide) ?_
      refine lv_iload_n hx hb dX9_load_61 rfl (lv_at hl 4 rfl) ?_
      refine lv_imul hx hb dX9_load_62 ?_
      obtain ⟨r70, hq69, h⟩ := pq_i h
      refine r_cS (st' := [.long r70, .int (gI D o63 x1.toNatClampNeg), .ref a60]) [.long r58, .int ((8 : Int32) * x2)] [.int (gI D o63 x1.toNatClampNeg), .ref a60] hC hw (k_X9_signed _ hq69) mk_X9_signed lk_1362 ⟨Nat.le_trans (by decide) hR.1, Nat.le_trans (by decide) hR.2⟩ ⟨Nat.zero_le _, Nat.zero_le _⟩ rfl hl.1 rfl rfl (Nat.le_of_ble_eq_true rfl) dX9_load_63 (fun hP H locs hw => ?_)
      refine lv_goto (tgt := 71) hx hb dX9_load_66 (by decide) ?_
      exact w_X9_load_71 hC hR o59 a60 (gI D o63 x1.toNatClampNeg) r70 _ _ _ _ hi61 hw (lv_sub hl [] rfl) h
  · have h := i_yes c56 h
    refine lv_iconst (v := 0) hx hb dX9_load_32 (by decide) ?_
    cases h
    exact r_zret hC hw (Or.inl rfl) dX9_load_33
set_option maxHeartbeats 4000000 in
set_option maxRecDepth 100000 in
theorem k_X9_load {l : Launch} {G : va_G} {cA : Nat → ClassId} {S : sh} {D D' : dt} {ad : Nat → Nat} (sz : Nat) {o0 a0 : Nat} {x1 : Int32} {x2 : Int32} {x3 : Int32} {r : Int32} (hi0 : Is S ad o0 a0 8) (h : f_X9_load S o0 x1 x2 x3 D = some (r, D')) : Co l yX9_load (Cond.code yX9_load cX9_load 8 (some .boolean) :: tb0) 4 95 [.ref a0, .int x1, .int x2, .int x3] G cA S D ad sz (some (.int r)) True D' := by
  refine Met.ofW (cc := cX9_load) (maxL := 8) (ret := (some .boolean)) (by decide) rfl ?_
  intro p e s m args below meth c s₁ B hml hv
  obtain ⟨rfl, hsz, hP, hK, hD0, hT, hX⟩ := hv
  subst hsz
  have hts := atoms_spec (ws := Cond.code yX9_load cX9_load 8 (some .boolean) :: tb0) B.pre
  have hC : Cx RX9 cX9_load 8 (some .boolean) p s m _ meth c := ⟨B.exec, B.bytes, hml, findClass_of_methodNamed B.named, fun w q => hts w (List.mem_cons_of_mem _ q), B.returns, B.notSynchronized⟩
  have hw := Wd.entry hP hK hD0 hT hX
  have hl := lv_entry ([.ref a0, .int x1, .int x2, .int x3]) (n := 8) (Nat.le_of_ble_eq_true rfl)
  rw [lg_entry_eq]
  exact w_X9_load_0 hC ⟨Nat.le_refl _, Nat.le_refl _⟩ o0 a0 x1 x2 x3 D _ _ _ hi0 hw hl h
set_option maxHeartbeats 4000000 in
set_option maxRecDepth 100000 in
theorem w_X9_put_0 {r : Int32} {D' : dt} (hC : Cx RX9 cX9_put 7 (some .boolean) p s m args meth c) (hR : 4 ≤ R.frames ∧ 96 ≤ R.locals) : ∀ (o0 a0 : Nat) (x1 : Int32) (x2 : Int32) (x3 : Int64) (D : dt) (H : Heap) (locs : List Loc) (ls : Array Slot), Is S ad o0 a0 8 → Wd G cA S D ad A s H locs → lv_has ls 7 [(0, .ref a0), (1, .int x1), (2, .int x2), (3, .long x3)] → f_X9_put S o0 x1 x2 x3 D = some (r, D') → W p l e R s m args below meth c H locs 0 0 (MQ below (Qn (some (.int r)) True (wpost G cA S D' ad A) A) args s 0 0 A) (F0 m 0 ls []) := by
  obtain ⟨hx, hb, -⟩ := id hC
  intro o0 a0 x1 x2 x3 D H locs ls hi0 hw hl h
  unfold f_X9_put at h
  refine lv_aload_n hx hb dX9_put_0 rfl (lv_at hl 0 rfl) ?_
  obtain ⟨o22, ho25, h⟩ := rq_i h
  refine r_getR hC hw kc_8 hi0 21 rfl lk_1093 dX9_put_1 rfl ho25 (fun a23 hi24 => ?_)
  refine lv_aload_n hx hb dX9_put_4 rfl (lv_at hl 0 rfl) ?_
  obtain ⟨o26, ho29, h⟩ := rq_i h
  refine r_getR hC hw kc_8 hi0 2 rfl lk_1074 dX9_put_5 rfl ho29 (fun a27 hi28 => ?_)
  refine lv_iload_n hx hb dX9_put_8 rfl (lv_at hl 1 rfl) ?_
  obtain ⟨hn30, h⟩ := ix_i h
  refine r_iald hC hw hi28 hn30 dX9_put_9 ?_
  obtain ⟨hn31, h⟩ := ix_i h
  refine r_lald hC hw hi24 hn31 dX9_put_10 ?_
  refine lv_aload_n hx hb dX9_put_11 rfl (lv_at hl 0 rfl) ?_
  obtain ⟨o32, ho35, h⟩ := rq_i h
  refine r_getR hC hw kc_8 hi0 4 rfl lk_1076 dX9_put_12 rfl ho35 (fun a33 hi34 => ?_)
  refine lv_iload_n hx hb dX9_put_15 rfl (lv_at hl 1 rfl) ?_
  obtain ⟨hn36, h⟩ := ix_i h
  refine r_iald hC hw hi34 hn36 dX9_put_16 ?_
  refine lv_i2l (v := (gI D o32 x1.toNatClampNeg).toInt64) hx hb dX9_put_17 rfl ?_
  refine lv_ladd hx hb dX9_put_18 ?_
  refine lv_topl (fun y37 ey37 => ?_)
  have h := nm_i h y37 ey37
  refine lv_lstore (lv' := [(5, .long y37), (0, .ref a0), (1, .int x1), (2, .int x2), (3, .long x3)]) hx hb dX9_put_19 hl (by decide) rfl (fun ls hl => ?_)
  refine lv_aload_n hx hb dX9_put_21 rfl (lv_at hl 1 rfl) ?_
  refine lv_lload hx hb dX9_put_22 (lv_at hl 0 rfl) ?_
  refine lv_iload_n hx hb dX9_put_24 rfl (lv_at hl 3 rfl) ?_
  refine lv_iconst (v := 1) hx hb dX9_put_25 (by decide) ?_
  obtain ⟨r39, hq38, h⟩ := pq_i h
  refine r_cV (st' := [.int r39]) [.long y37, .int x2, .int (1 : Int32)] [] hC hw kc_8 hi0 (k_X9_isThere _ hi0 hq38) mk_X9_isThere lk_1264 ⟨Nat.le_trans (by decide) hR.1, Nat.le_trans (by decide) hR.2⟩ ⟨Nat.zero_le _, Nat.zero_le _⟩ rfl hl.1 rfl rfl (Nat.le_of_ble_eq_true rfl) dX9_put_26 (fun hP H locs hw => ?_)
  refine lv_if_ne (tgt := 34) hx hb dX9_put_29 (by decide) (fun c40 => ?_) (fun c40 => ?_)
  · have h := i_no c40 h
    refine lv_aload_n hx hb dX9_put_34 rfl (lv_at hl 1 rfl) ?_
    refine lv_lload hx hb dX9_put_35 (lv_at hl 0 rfl) ?_
    refine lv_iload_n hx hb dX9_put_37 rfl (lv_at hl 3 rfl) ?_
    refine lv_lload_n hx hb dX9_put_38 rfl (lv_at hl 4 rfl) ?_
    obtain ⟨_, D42, hq41, h⟩ := cq_i h
    refine r_cV (st' := []) [.long y37, .int x2, .long x3] [] hC hw kc_8 hi0 (k_X9_setNumber _ hi0 hq41) mk_X9_setNumber lk_1396 ⟨Nat.le_trans (by decide) hR.1, Nat.le_trans (by decide) hR.2⟩ ⟨Nat.zero_le _, Nat.zero_le _⟩ rfl hl.1 rfl rfl (Nat.le_of_ble_eq_true rfl) dX9_put_39 (fun hP H locs hw => ?_)
    refine lv_iconst (v := 1) hx hb dX9_put_42 (by decide) ?_
    cases h
    exact r_zret hC hw (Or.inr rfl) dX9_put_43
  · have h := i_yes c40 h
    refine lv_iconst (v := 0) hx hb dX9_put_32 (by decide) ?_
    cases h
    exact r_zret hC hw (Or.inl rfl) dX9_put_33
set_option maxHeartbeats 4000000 in
set_option maxRecDepth 100000 in
theorem k_X9_put {l : Launch} {G : va_G} {cA : Nat → ClassId} {S : sh} {D D' : dt} {ad : Nat → Nat} (sz : Nat) {o0 a0 : Nat} {x1 : Int32} {x2 : Int32} {x3 : Int64} {r : Int32} (hi0 : Is S ad o0 a0 8) (h : f_X9_put S o0 x1 x2 x3 D = some (r, D')) : Co l yX9_put (Cond.code yX9_put cX9_put 7 (some .boolean) :: tb0) 4 96 [.ref a0, .int x1, .int x2, .long x3] G cA S D ad sz (some (.int r)) True D' := by
  refine Met.ofW (cc := cX9_put) (maxL := 7) (ret := (some .boolean)) (by decide) rfl ?_
  intro p e s m args below meth c s₁ B hml hv
  obtain ⟨rfl, hsz, hP, hK, hD0, hT, hX⟩ := hv
  subst hsz
  have hts := atoms_spec (ws := Cond.code yX9_put cX9_put 7 (some .boolean) :: tb0) B.pre
  have hC : Cx RX9 cX9_put 7 (some .boolean) p s m _ meth c := ⟨B.exec, B.bytes, hml, findClass_of_methodNamed B.named, fun w q => hts w (List.mem_cons_of_mem _ q), B.returns, B.notSynchronized⟩
  have hw := Wd.entry hP hK hD0 hT hX
  have hl := lv_entry ([.ref a0, .int x1, .int x2, .long x3]) (n := 7) (Nat.le_of_ble_eq_true rfl)
  rw [lg_entry_eq]
  exact w_X9_put_0 hC ⟨Nat.le_refl _, Nat.le_refl _⟩ o0 a0 x1 x2 x3 D _ _ _ hi0 hw hl h
set_option maxHeartbeats 4000000 in
set_option maxRecDepth 100000 in
theorem w_X9_both_193 {r : Int32} {D' : dt} (hC : Cx RX9 cX9_both 12 (some .boolean) p s m args meth c) (hR : 4 ≤ R.frames ∧ 96 ≤ R.locals) : ∀ (o0 a0 : Nat) (x1 : Int32) (x5 : Int64) (x9 : Int32) (os0 as0 : Nat) (xs1 : Int64) (xs2 : Int32) (xs3 : Int64) (D : dt) (H : Heap) (locs : List Loc) (ls : Array Slot), Is S ad o0 a0 8 → Is S ad os0 as0 8 → Wd G cA S D ad A s H locs → lv_has ls 12 [(0, .ref a0), (1, .int x1), (5, .long x5), (9, .int x9)] → f_X9_both_193 S o0 x1 x5 x9 os0 xs1 xs2 xs3 D = some (r, D') → W p l e R s m args below meth c H locs 0 0 (MQ below (Qn (some (.int r)) True (wpost G cA S D' ad A) A) args s 0 0 A) (F0 m 193 ls [.long xs3, .int xs2, .long xs1, .ref as0]) := by
  obtain ⟨hx, hb, -⟩ := id hC
  intro o0 a0 x1 x5 x9 os0 as0 xs1 xs2 xs3 D H locs ls hi0 his0 hw hl h
  unfold f_X9_both_193 at h
  obtain ⟨_, D80, hq79, h⟩ := cq_i h
  refine r_cV (st' := []) [.long xs1, .int xs2, .long xs3] [] hC hw kc_8 his0 (k_X9_setNumber _ his0 hq79) mk_X9_setNumber lk_1396 ⟨Nat.le_trans (by decide) hR.1, Nat.le_trans (by decide) hR.2⟩ ⟨Nat.zero_le _, Nat.zero_le _⟩ rfl hl.1 rfl rfl (Nat.le_of_ble_eq_true rfl) dX9_both_193 (fun hP H locs hw => ?_)
  refine lv_iload hx hb dX9_both_196 (lv_at hl 3 rfl) ?_
  refine lv_iconst (v := 1) hx hb dX9_both_198 (by decide) ?_
  refine lv_iand hx hb dX9_both_199 ?_
  refine lv_iconst (v := 1) hx hb dX9_both_200 (by decide) ?_
  refine lv_icmp_ne (tgt := 217) hx hb dX9_both_201 (by decide) (fun c81 => ?_) (fun c81 => ?_)
  · have h := i_no c81 h
    refine lv_iconst (v := 1) hx hb dX9_both_217 (by decide) ?_
    cases h
    exact r_zret hC hw (Or.inr rfl) dX9_both_218
  · have h := i_yes c81 h
    refine lv_aload_n hx hb dX9_both_204 rfl (lv_at hl 0 rfl) ?_
    obtain ⟨o82, ho85, h⟩ := rq_i h
    refine r_getR hC hw kc_8 hi0 21 rfl lk_1093 dX9_both_205 rfl ho85 (fun a83 hi84 => ?_)
    refine lv_aload_n hx hb dX9_both_208 rfl (lv_at hl 0 rfl) ?_
    obtain ⟨o86, ho89, h⟩ := rq_i h
    refine r_getR hC hw kc_8 hi0 3 rfl lk_1075 dX9_both_209 rfl ho89 (fun a87 hi88 => ?_)
    refine lv_iload_n hx hb dX9_both_212 rfl (lv_at hl 1 rfl) ?_
    obtain ⟨hn90, h⟩ := ix_i h
    refine r_iald hC hw hi88 hn90 dX9_both_213 ?_
    refine lv_lload hx hb dX9_both_214 (lv_at hl 2 rfl) ?_
    obtain ⟨hn91, h⟩ := ix_i h
    refine r_las hC hw hi84 hn91 dX9_both_216 (fun D92 eD92 H locs hw => ?_)
    have h := nm_i h D92 eD92
    refine lv_iconst (v := 1) hx hb dX9_both_217 (by decide) ?_
    cases h
    exact r_zret hC hw (Or.inr rfl) dX9_both_218
set_option maxHeartbeats 4000000 in
set_option maxRecDepth 100000 in
theorem w_X9_both_112 {r : Int32} {D' : dt} (hC : Cx RX9 cX9_both 12 (some .boolean) p s m args meth c) (hR : 4 ≤ R.frames ∧ 96 ≤ R.locals) : ∀ (o0 a0 : Nat) (x5 : Int64) (D : dt) (H : Heap) (locs : List Loc) (ls : Array Slot), Is S ad o0 a0 8 → Wd G cA S D ad A s H locs → lv_has ls 12 [(0, .ref a0), (5, .long x5)] → f_X9_both_112 S o0 x5 D = some (r, D') → W p l e R s m args below meth c H locs 0 0 (MQ below (Qn (some (.int r)) True (wpost G cA S D' ad A) A) args s 0 0 A) (F0 m 112 ls []) := by
  obtain ⟨hx, hb, -⟩ := id hC
  intro o0 a0 x5 D H locs ls hi0 hw hl h
  unfold f_X9_both_112 at h
  refine lv_aload_n hx hb dX9_both_112 rfl (lv_at hl 0 rfl) ?_
  obtain ⟨o93, ho96, h⟩ := rq_i h
  refine r_getR hC hw kc_8 hi0 21 rfl lk_1093 dX9_both_113 rfl ho96 (fun a94 hi95 => ?_)
  refine lv_iconst (v := 0) hx hb dX9_both_116 (by decide) ?_
  refine lv_lload hx hb dX9_both_117 (lv_at hl 1 rfl) ?_
  obtain ⟨hn97, h⟩ := ix_i h
  refine r_las hC hw hi95 hn97 dX9_both_119 (fun D98 eD98 H locs hw => ?_)
  have h := nm_i h D98 eD98
  refine lv_iconst (v := 1) hx hb dX9_both_120 (by decide) ?_
  cases h
  exact r_zret hC hw (Or.inr rfl) dX9_both_121
set_option maxHeartbeats 4000000 in
set_option maxRecDepth 100000 in
theorem w_X9_both_94 {r : Int32} {D' : dt} (hC : Cx RX9 cX9_both 12 (some .boolean) p s m args meth c) (hR : 4 ≤ R.frames ∧ 96 ≤ R.locals) : ∀ (o0 a0 : Nat) (x2 : Int32) (x3 : Int64) (x5 : Int64) (x7 : Int64) (xs0 : Int64) (D : dt) (H : Heap) (locs : List Loc) (ls : Array Slot), Is S ad o0 a0 8 → Wd G cA S D ad A s H locs → lv_has ls 12 [(0, .ref a0), (2, .int x2), (3, .long x3), (5, .long x5), (7, .long x7)] → f_X9_both_94 S o0 x2 x3 x5 x7 xs0 D = some (r, D') → W p l e R s m args below meth c H locs 0 0 (MQ below (Qn (some (.int r)) True (wpost G cA S D' ad A) A) args s 0 0 A) (F0 m 94 ls [.long xs0]) := by
  obtain ⟨hx, hb, -⟩ := id hC
  intro o0 a0 x2 x3 x5 x7 xs0 D H locs ls hi0 hw hl h
  unfold f_X9_both_94 at h
  refine lv_lstore (lv' := [(10, .long xs0), (0, .ref a0), (2, .int x2), (3, .long x3), (5, .long x5), (7, .long x7)]) hx hb dX9_both_94 hl (by decide) rfl (fun ls hl => ?_)
  refine lv_lload hx hb dX9_both_96 (lv_at hl 0 rfl) ?_
  refine lv_lload hx hb dX9_both_98 (lv_at hl 4 rfl) ?_
  refine W.lcmp hx hb dX9_both_100 ?_
  refine lv_if_ne (tgt := 112) hx hb dX9_both_101 (by decide) (fun c99 => ?_) (fun c99 => ?_)
  · have h := i_no c99 h
    exact w_X9_both_112 hC hR o0 a0 x5 _ _ _ _ hi0 hw (lv_sub hl [1, 4] rfl) h
  · have h := i_yes c99 h
    refine lv_aload_n hx hb dX9_both_104 rfl (lv_at hl 1 rfl) ?_
    refine lv_lload_n hx hb dX9_both_105 rfl (lv_at hl 3 rfl) ?_
    refine lv_iload_n hx hb dX9_both_106 rfl (lv_at hl 2 rfl) ?_
    refine lv_lload hx hb dX9_both_107 (lv_at hl 5 rfl) ?_
    obtain ⟨_, D101, hq100, h⟩ := cq_i h
    refine r_cV (st' := []) [.long x3, .int x2, .long x7] [] hC hw kc_8 hi0 (k_X9_setNumber _ hi0 hq100) mk_X9_setNumber lk_1396 ⟨Nat.le_trans (by decide) hR.1, Nat.le_trans (by decide) hR.2⟩ ⟨Nat.zero_le _, Nat.zero_le _⟩ rfl hl.1 rfl rfl (Nat.le_of_ble_eq_true rfl) dX9_both_109 (fun hP H locs hw => ?_)
    exact w_X9_both_112 hC hR o0 a0 x5 _ _ _ _ hi0 hw (lv_sub hl [1, 4] rfl) h
set_option maxHeartbeats 4000000 in
set_option maxRecDepth 100000 in
theorem w_X9_both_0 {r : Int32} {D' : dt} (hC : Cx RX9 cX9_both 12 (some .boolean) p s m args meth c) (hR : 4 ≤ R.frames ∧ 96 ≤ R.locals) : ∀ (o0 a0 : Nat) (x1 : Int32) (x2 : Int32) (D : dt) (H : Heap) (locs : List Loc) (ls : Array Slot), Is S ad o0 a0 8 → Wd G cA S D ad A s H locs → lv_has ls 12 [(0, .ref a0), (1, .int x1), (2, .int x2)] → f_X9_both S o0 x1 x2 D = some (r, D') → W p l e R s m args below meth c H locs 0 0 (MQ below (Qn (some (.int r)) True (wpost G cA S D' ad A) A) args s 0 0 A) (F0 m 0 ls []) := by
  obtain ⟨hx, hb, -⟩ := id hC
  intro o0 a0 x1 x2 D H locs ls hi0 hw hl h
  unfold f_X9_both at h
  refine lv_aload_n hx hb dX9_both_0 rfl (lv_at hl 0 rfl) ?_
  obtain ⟨o102, ho105, h⟩ := rq_i h
  refine r_getR hC hw kc_8 hi0 21 rfl lk_1093 dX9_both_1 rfl ho105 (fun a103 hi104 => ?_)
  refine lv_aload_n hx hb dX9_both_4 rfl (lv_at hl 0 rfl) ?_
  obtain ⟨o106, ho109, h⟩ := rq_i h
  refine r_getR hC hw kc_8 hi0 2 rfl lk_1074 dX9_both_5 rfl ho109 (fun a107 hi108 => ?_)
  refine lv_iload_n hx hb dX9_both_8 rfl (lv_at hl 1 rfl) ?_
  obtain ⟨hn110, h⟩ := ix_i h
  refine r_iald hC hw hi108 hn110 dX9_both_9 ?_
  obtain ⟨hn111, h⟩ := ix_i h
  refine r_lald hC hw hi104 hn111 dX9_both_10 ?_
  refine lv_aload_n hx hb dX9_both_11 rfl (lv_at hl 0 rfl) ?_
  obtain ⟨o112, ho115, h⟩ := rq_i h
  refine r_getR hC hw kc_8 hi0 4 rfl lk_1076 dX9_both_12 rfl ho115 (fun a113 hi114 => ?_)
  refine lv_iload_n hx hb dX9_both_15 rfl (lv_at hl 1 rfl) ?_
  obtain ⟨hn116, h⟩ := ix_i h
  refine r_iald hC hw hi114 hn116 dX9_both_16 ?_
  refine lv_i2l (v := (gI D o112 x1.toNatClampNeg).toInt64) hx hb dX9_both_17 rfl ?_
  refine lv_ladd hx hb dX9_both_18 ?_
  refine lv_topl (fun y117 ey117 => ?_)
  have h := nm_i h y117 ey117
  refine lv_lstore_n (lv' := [(3, .long y117), (0, .ref a0), (1, .int x1), (2, .int x2)]) hx hb dX9_both_19 rfl hl (by decide) rfl (fun ls hl => ?_)
  refine lv_aload_n hx hb dX9_both_20 rfl (lv_at hl 1 rfl) ?_
  refine lv_lload_n hx hb dX9_both_21 rfl (lv_at hl 0 rfl) ?_
  refine lv_iload_n hx hb dX9_both_22 rfl (lv_at hl 3 rfl) ?_
  refine lv_iconst (v := 1) hx hb dX9_both_23 (by decide) ?_
  obtain ⟨r119, hq118, h⟩ := pq_i h
  refine r_cV (st' := [.int r119]) [.long y117, .int x2, .int (1 : Int32)] [] hC hw kc_8 hi0 (k_X9_isThere _ hi0 hq118) mk_X9_isThere lk_1264 ⟨Nat.le_trans (by decide) hR.1, Nat.le_trans (by decide) hR.2⟩ ⟨Nat.zero_le _, Nat.zero_le _⟩ rfl hl.1 rfl rfl (Nat.le_of_ble_eq_true rfl) dX9_both_24 (fun hP H locs hw => ?_)
  refine lv_if_ne (tgt := 32) hx hb dX9_both_27 (by decide) (fun c120 => ?_) (fun c120 => ?_)
  · have h := i_no c120 h
    refine lv_aload_n hx hb dX9_both_32 rfl (lv_at hl 1 rfl) ?_
    refine lv_lload_n hx hb dX9_both_33 rfl (lv_at hl 0 rfl) ?_
    refine lv_iload_n hx hb dX9_both_34 rfl (lv_at hl 3 rfl) ?_
    obtain ⟨r122, hq121, h⟩ := pq_i h
    refine r_cV (st' := [.long r122]) [.long y117, .int x2] [] hC hw kc_8 hi0 (k_X9_numberAt _ hi0 hq121) mk_X9_numberAt lk_1388 ⟨Nat.le_trans (by decide) hR.1, Nat.le_trans (by decide) hR.2⟩ ⟨Nat.zero_le _, Nat.zero_le _⟩ rfl hl.1 rfl rfl (Nat.le_of_ble_eq_true rfl) dX9_both_35 (fun hP H locs hw => ?_)
    refine lv_lstore (lv' := [(5, .long r122), (3, .long y117), (0, .ref a0), (1, .int x1), (2, .int x2)]) hx hb dX9_both_38 hl (by decide) rfl (fun ls hl => ?_)
    refine lv_aload_n hx hb dX9_both_40 rfl (lv_at hl 2 rfl) ?_
    obtain ⟨o123, ho126, h⟩ := rq_i h
    refine r_getR hC hw kc_8 hi0 21 rfl lk_1093 dX9_both_41 rfl ho126 (fun a124 hi125 => ?_)
    refine lv_aload_n hx hb dX9_both_44 rfl (lv_at hl 2 rfl) ?_
    obtain ⟨o127, ho130, h⟩ := rq_i h
    refine r_getR hC hw kc_8 hi0 3 rfl lk_1075 dX9_both_45 rfl ho130 (fun a128 hi129 => ?_)
    refine lv_iload_n hx hb dX9_both_48 rfl (lv_at hl 3 rfl) ?_
    obtain ⟨hn131, h⟩ := ix_i h
    refine r_iald hC hw hi129 hn131 dX9_both_49 ?_
    obtain ⟨hn132, h⟩ := ix_i h
    refine r_lald hC hw hi125 hn132 dX9_both_50 ?_
    refine lv_topl (fun y133 ey133 => ?_)
    have h := nm_i h y133 ey133
    refine lv_lstore (lv' := [(7, .long y133), (5, .long r122), (3, .long y117), (0, .ref a0), (1, .int x1), (2, .int x2)]) hx hb dX9_both_51 hl (by decide) rfl (fun ls hl => ?_)
    refine lv_aload_n hx hb dX9_both_53 rfl (lv_at hl 3 rfl) ?_
    obtain ⟨o134, ho137, h⟩ := rq_i h
    refine r_getR hC hw kc_8 hi0 5 rfl lk_1077 dX9_both_54 rfl ho137 (fun a135 hi136 => ?_)
    refine lv_iload_n hx hb dX9_both_57 rfl (lv_at hl 4 rfl) ?_
    obtain ⟨hn138, h⟩ := ix_i h
    refine r_iald hC hw hi136 hn138 dX9_both_58 ?_
    refine lv_topi (fun y139 ey139 => ?_)
    have h := nm_i h y139 ey139
    refine lv_istore (lv' := [(9, .int y139), (7, .long y133), (5, .long r122), (3, .long y117), (0, .ref a0), (1, .int x1), (2, .int x2)]) hx hb dX9_both_59 hl (by decide) rfl (fun ls hl => ?_)
    refine lv_iload hx hb dX9_both_61 (lv_at hl 0 rfl) ?_
    refine lv_sipush (v := 241) hx hb dX9_both_63 (by decide) ?_
    refine lv_icmp_ne (tgt := 122) hx hb dX9_both_66 (by decide) (fun c140 => ?_) (fun c140 => ?_)
    · have h := i_no c140 h
      refine lv_iload hx hb dX9_both_122 (lv_at hl 0 rfl) ?_
      refine lv_bipush (v := (-2)) hx hb dX9_both_124 (by decide) ?_
      refine lv_iand hx hb dX9_both_126 ?_
      refine lv_topi (fun y141 ey141 => ?_)
      have h := nm_i h y141 ey141
      refine lv_istore (lv' := [(10, .int y141), (9, .int y139), (7, .long y133), (5, .long r122), (3, .long y117), (0, .ref a0), (1, .int x1), (2, .int x2)]) hx hb dX9_both_127 hl (by decide) rfl (fun ls hl => ?_)
      refine lv_aload_n hx hb dX9_both_129 rfl (lv_at hl 5 rfl) ?_
      refine lv_lload_n hx hb dX9_both_130 rfl (lv_at hl 4 rfl) ?_
      refine lv_iload_n hx hb dX9_both_131 rfl (lv_at hl 7 rfl) ?_
      refine lv_iload hx hb dX9_both_132 (lv_at hl 0 rfl) ?_
      refine lv_if_ne (tgt := 145) hx hb dX9_both_134 (by decide) (fun c142 => ?_) (fun c142 => ?_)
      · have h := i_no c142 h
        refine lv_iload hx hb dX9_both_145 (lv_at hl 0 rfl) ?_
        refine lv_bipush (v := 64) hx hb dX9_both_147 (by decide) ?_
        refine lv_icmp_ne (tgt := 160) hx hb dX9_both_149 (by decide) (fun c143 => ?_) (fun c143 => ?_)
        · have h := i_no c143 h
          refine lv_iload hx hb dX9_both_160 (lv_at hl 0 rfl) ?_
          refine lv_bipush (v := 80) hx hb dX9_both_162 (by decide) ?_
          refine lv_icmp_ne (tgt := 175) hx hb dX9_both_164 (by decide) (fun c144 => ?_) (fun c144 => ?_)
          · have h := i_no c144 h
            refine lv_iload hx hb dX9_both_175 (lv_at hl 0 rfl) ?_
            refine lv_sipush (v := 160) hx hb dX9_both_177 (by decide) ?_
            refine lv_icmp_ne (tgt := 191) hx hb dX9_both_180 (by decide) (fun c145 => ?_) (fun c145 => ?_)
            · have h := i_no c145 h
              refine lv_lload hx hb dX9_both_191 (lv_at hl 2 rfl) ?_
              exact w_X9_both_193 hC hR o0 a0 x1 r122 y139 o0 a0 y117 x2 y133 _ _ _ _ hi0 hi0 hw (lv_sub hl [5, 6, 3, 1] rfl) h
            · have h := i_yes c145 h
              refine lv_lload hx hb dX9_both_183 (lv_at hl 3 rfl) ?_
              refine lv_lload hx hb dX9_both_185 (lv_at hl 2 rfl) ?_
              refine lv_lxor hx hb dX9_both_187 ?_
              refine lv_goto (tgt := 193) hx hb dX9_both_188 (by decide) ?_
              exact w_X9_both_193 hC hR o0 a0 x1 r122 y139 o0 a0 y117 x2 (r122 ^^^ y133) _ _ _ _ hi0 hi0 hw (lv_sub hl [5, 6, 3, 1] rfl) h
          · have h := i_yes c144 h
            refine lv_lload hx hb dX9_both_167 (lv_at hl 3 rfl) ?_
            refine lv_lload hx hb dX9_both_169 (lv_at hl 2 rfl) ?_
            refine lv_land hx hb dX9_both_171 ?_
            refine lv_goto (tgt := 193) hx hb dX9_both_172 (by decide) ?_
            exact w_X9_both_193 hC hR o0 a0 x1 r122 y139 o0 a0 y117 x2 (r122 &&& y133) _ _ _ _ hi0 hi0 hw (lv_sub hl [5, 6, 3, 1] rfl) h
        · have h := i_yes c143 h
          refine lv_lload hx hb dX9_both_152 (lv_at hl 3 rfl) ?_
          refine lv_lload hx hb dX9_both_154 (lv_at hl 2 rfl) ?_
          refine lv_lor hx hb dX9_both_156 ?_
          refine lv_goto (tgt := 193) hx hb dX9_both_157 (by decide) ?_
          exact w_X9_both_193 hC hR o0 a0 x1 r122 y139 o0 a0 y117 x2 (r122 ||| y133) _ _ _ _ hi0 hi0 hw (lv_sub hl [5, 6, 3, 1] rfl) h
      · have h := i_yes c142 h
        refine lv_lload hx hb dX9_both_137 (lv_at hl 3 rfl) ?_
        refine lv_lload hx hb dX9_both_139 (lv_at hl 2 rfl) ?_
        refine lv_ladd hx hb dX9_both_141 ?_
        refine lv_goto (tgt := 193) hx hb dX9_both_142 (by decide) ?_
        exact w_X9_both_193 hC hR o0 a0 x1 r122 y139 o0 a0 y117 x2 (r122 + y133) _ _ _ _ hi0 hi0 hw (lv_sub hl [5, 6, 3, 1] rfl) h
    · have h := i_yes c140 h
      refine lv_iload_n hx hb dX9_both_69 rfl (lv_at hl 6 rfl) ?_
      refine lv_bipush (v := 8) hx hb dX9_both_70 (by decide) ?_
      refine lv_icmp_ne (tgt := 84) hx hb dX9_both_72 (by decide) (fun c146 => ?_) (fun c146 => ?_)
      · have h := i_no c146 h
        refine lv_aload_n hx hb dX9_both_84 rfl (lv_at hl 4 rfl) ?_
        obtain ⟨o147, ho150, h⟩ := rq_i h
        refine r_getR hC hw kc_8 hi0 21 rfl lk_1093 dX9_both_85 rfl ho150 (fun a148 hi149 => ?_)
        refine lv_iconst (v := 0) hx hb dX9_both_88 (by decide) ?_
        obtain ⟨hn151, h⟩ := ix_i h
        refine r_lald hC hw hi149 hn151 dX9_both_89 ?_
        refine lv_ldc2 (v := 4294967295) hx hb hC.2.2.2.1 (hC.2.2.2.2.1 _ lk_1347) dX9_both_90 ?_
        refine lv_land hx hb dX9_both_93 ?_
        exact w_X9_both_94 hC hR o0 a0 x2 y117 r122 y133 ((gL D o147 (0 : Int32).toNatClampNeg) &&& (4294967295 : Int64)) _ _ _ _ hi0 hw (lv_sub hl [4, 6, 3, 2, 1] rfl) h
      · have h := i_yes c146 h
        refine lv_aload_n hx hb dX9_both_75 rfl (lv_at hl 4 rfl) ?_
        obtain ⟨o152, ho155, h⟩ := rq_i h
        refine r_getR hC hw kc_8 hi0 21 rfl lk_1093 dX9_both_76 rfl ho155 (fun a153 hi154 => ?_)
        refine lv_iconst (v := 0) hx hb dX9_both_79 (by decide) ?_
        obtain ⟨hn156, h⟩ := ix_i h
        refine r_lald hC hw hi154 hn156 dX9_both_80 ?_
        refine lv_goto (tgt := 94) hx hb dX9_both_81 (by decide) ?_
        exact w_X9_both_94 hC hR o0 a0 x2 y117 r122 y133 (gL D o152 (0 : Int32).toNatClampNeg) _ _ _ _ hi0 hw (lv_sub hl [4, 6, 3, 2, 1] rfl) h
  · have h := i_yes c120 h
    refine lv_iconst (v := 0) hx hb dX9_both_30 (by decide) ?_
    cases h
    exact r_zret hC hw (Or.inl rfl) dX9_both_31
set_option maxHeartbeats 4000000 in
set_option maxRecDepth 100000 in
theorem k_X9_both {l : Launch} {G : va_G} {cA : Nat → ClassId} {S : sh} {D D' : dt} {ad : Nat → Nat} (sz : Nat) {o0 a0 : Nat} {x1 : Int32} {x2 : Int32} {r : Int32} (hi0 : Is S ad o0 a0 8) (h : f_X9_both S o0 x1 x2 D = some (r, D')) : Co l yX9_both (Cond.code yX9_both cX9_both 12 (some .boolean) :: tb0) 4 96 [.ref a0, .int x1, .int x2] G cA S D ad sz (some (.int r)) True D' := by
  refine Met.ofW (cc := cX9_both) (maxL := 12) (ret := (some .boolean)) (by decide) rfl ?_
  intro p e s m args below meth c s₁ B hml hv
  obtain ⟨rfl, hsz, hP, hK, hD0, hT, hX⟩ := hv
  subst hsz
  have hts := atoms_spec (ws := Cond.code yX9_both cX9_both 12 (some .boolean) :: tb0) B.pre
  have hC : Cx RX9 cX9_both 12 (some .boolean) p s m _ meth c := ⟨B.exec, B.bytes, hml, findClass_of_methodNamed B.named, fun w q => hts w (List.mem_cons_of_mem _ q), B.returns, B.notSynchronized⟩
  have hw := Wd.entry hP hK hD0 hT hX
  have hl := lv_entry ([.ref a0, .int x1, .int x2]) (n := 12) (Nat.le_of_ble_eq_true rfl)
  rw [lg_entry_eq]
  exact w_X9_both_0 hC ⟨Nat.le_refl _, Nat.le_refl _⟩ o0 a0 x1 x2 D _ _ _ hi0 hw hl h
set_option maxHeartbeats 4000000 in
set_option maxRecDepth 100000 in
theorem w_X9_wide_115 {r : Int32} {D' : dt} (hC : Cx RX9 cX9_wide 2 (some .int) p s m args meth c) (hR : 1 ≤ R.frames ∧ 25 ≤ R.locals) : ∀ (o0 a0 : Nat) (x1 : Int32) (os0 as0 : Nat) (xs1 : Int32) (xs2 : Int64) (D : dt) (H : Heap) (locs : List Loc) (ls : Array Slot), Is S ad o0 a0 8 → Is S ad os0 as0 101 → Wd G cA S D ad A s H locs → lv_has ls 2 [(0, .ref a0), (1, .int x1)] → f_X9_wide_115 S o0 x1 os0 xs1 xs2 D = some (r, D') → W p l e R s m args below meth c H locs 0 0 (MQ below (Qn (some (.int r)) True (wpost G cA S D' ad A) A) args s 0 0 A) (F0 m 115 ls [.long xs2, .int xs1, .ref as0]) := by
  obtain ⟨hx, hb, -⟩ := id hC
  intro o0 a0 x1 os0 as0 xs1 xs2 D H locs ls hi0 his0 hw hl h
  unfold f_X9_wide_115 at h
  obtain ⟨hn52, h⟩ := ix_i h
  refine r_las hC hw his0 hn52 dX9_wide_115 (fun D53 eD53 H locs hw => ?_)
  have h := nm_i h D53 eD53
  refine lv_aload_n hx hb dX9_wide_116 rfl (lv_at hl 0 rfl) ?_
  refine lv_iload_n hx hb dX9_wide_117 rfl (lv_at hl 1 rfl) ?_
  refine lv_iconst (v := 2) hx hb dX9_wide_118 (by decide) ?_
  refine lv_iadd hx hb dX9_wide_119 ?_
  refine r_pI hC hw kc_8 hi0 19 rfl lk_1091 rfl rfl rfl dX9_wide_120 (fun D54 eD54 H locs hw => ?_)
  have h := nm_i h D54 eD54
  refine lv_iconst (v := 0) hx hb dX9_wide_123 (by decide) ?_
  cases h
  exact r_iret hC hw dX9_wide_124
set_option maxHeartbeats 4000000 in
set_option maxRecDepth 100000 in
theorem w_X9_wide_57 {r : Int32} {D' : dt} (hC : Cx RX9 cX9_wide 2 (some .int) p s m args meth c) (hR : 1 ≤ R.frames ∧ 25 ≤ R.locals) : ∀ (o0 a0 : Nat) (x1 : Int32) (D : dt) (H : Heap) (locs : List Loc) (ls : Array Slot), Is S ad o0 a0 8 → Wd G cA S D ad A s H locs → lv_has ls 2 [(0, .ref a0), (1, .int x1)] → f_X9_wide_57 S o0 x1 D = some (r, D') → W p l e R s m args below meth c H locs 0 0 (MQ below (Qn (some (.int r)) True (wpost G cA S D' ad A) A) args s 0 0 A) (F0 m 57 ls []) := by
  obtain ⟨hx, hb, -⟩ := id hC
  intro o0 a0 x1 D H locs ls hi0 hw hl h
  unfold f_X9_wide_57 at h
  refine lv_aload_n hx hb dX9_wide_57 rfl (lv_at hl 0 rfl) ?_
  obtain ⟨o55, ho58, h⟩ := rq_i h
  refine r_getR hC hw kc_8 hi0 21 rfl lk_1093 dX9_wide_58 rfl ho58 (fun a56 hi57 => ?_)
  refine lv_aload_n hx hb dX9_wide_61 rfl (lv_at hl 0 rfl) ?_
  obtain ⟨o59, ho62, h⟩ := rq_i h
  refine r_getR hC hw kc_8 hi0 2 rfl lk_1074 dX9_wide_62 rfl ho62 (fun a60 hi61 => ?_)
  refine lv_iload_n hx hb dX9_wide_65 rfl (lv_at hl 1 rfl) ?_
  obtain ⟨hn63, h⟩ := ix_i h
  refine r_iald hC hw hi61 hn63 dX9_wide_66 ?_
  refine lv_aload_n hx hb dX9_wide_67 rfl (lv_at hl 0 rfl) ?_
  obtain ⟨o64, ho67, h⟩ := rq_i h
  refine r_getR hC hw kc_8 hi0 3 rfl lk_1075 dX9_wide_68 rfl ho67 (fun a65 hi66 => ?_)
  refine lv_iload_n hx hb dX9_wide_71 rfl (lv_at hl 1 rfl) ?_
  obtain ⟨hn68, h⟩ := ix_i h
  refine r_iald hC hw hi66 hn68 dX9_wide_72 ?_
  refine lv_iconst (v := 1) hx hb dX9_wide_73 (by decide) ?_
  refine lv_icmp_ne (tgt := 91) hx hb dX9_wide_74 (by decide) (fun c69 => ?_) (fun c69 => ?_)
  · have h := i_no c69 h
    refine lv_aload_n hx hb dX9_wide_91 rfl (lv_at hl 0 rfl) ?_
    obtain ⟨o70, ho73, h⟩ := rq_i h
    refine r_getR hC hw kc_8 hi0 5 rfl lk_1077 dX9_wide_92 rfl ho73 (fun a71 hi72 => ?_)
    refine lv_iload_n hx hb dX9_wide_95 rfl (lv_at hl 1 rfl) ?_
    obtain ⟨hn74, h⟩ := ix_i h
    refine r_iald hC hw hi72 hn74 dX9_wide_96 ?_
    refine lv_i2l (v := (gI D o70 x1.toNatClampNeg).toInt64) hx hb dX9_wide_97 rfl ?_
    refine lv_ldc2 (v := 4294967295) hx hb hC.2.2.2.1 (hC.2.2.2.2.1 _ lk_1347) dX9_wide_98 ?_
    refine lv_land hx hb dX9_wide_101 ?_
    refine lv_aload_n hx hb dX9_wide_102 rfl (lv_at hl 0 rfl) ?_
    obtain ⟨o75, ho78, h⟩ := rq_i h
    refine r_getR hC hw kc_8 hi0 5 rfl lk_1077 dX9_wide_103 rfl ho78 (fun a76 hi77 => ?_)
    refine lv_iload_n hx hb dX9_wide_106 rfl (lv_at hl 1 rfl) ?_
    refine lv_iconst (v := 1) hx hb dX9_wide_107 (by decide) ?_
    refine lv_iadd hx hb dX9_wide_108 ?_
    obtain ⟨hn79, h⟩ := ix_i h
    refine r_iald hC hw hi77 hn79 dX9_wide_109 ?_
    refine lv_i2l (v := (gI D o75 (x1 + (1 : Int32)).toNatClampNeg).toInt64) hx hb dX9_wide_110 rfl ?_
    refine lv_bipush (v := 32) hx hb dX9_wide_111 (by decide) ?_
    refine lv_lshl (v := j_lshl ((gI D o75 (x1 + (1 : Int32)).toNatClampNeg).toInt64) (32 : Int32)) hx hb dX9_wide_113 rfl ?_
    refine lv_lor hx hb dX9_wide_114 ?_
    exact w_X9_wide_115 hC hR o0 a0 x1 o55 a56 (gI D o59 x1.toNatClampNeg) ((((gI D o70 x1.toNatClampNeg).toInt64) &&& (4294967295 : Int64)) ||| (j_lshl ((gI D o75 (x1 + (1 : Int32)).toNatClampNeg).toInt64) (32 : Int32))) _ _ _ _ hi0 hi57 hw (lv_sub hl [0, 1] rfl) h
  · have h := i_yes c69 h
    refine lv_ldc2 (v := 17179869184) hx hb hC.2.2.2.1 (hC.2.2.2.2.1 _ lk_1374) dX9_wide_77 ?_
    refine lv_aload_n hx hb dX9_wide_80 rfl (lv_at hl 0 rfl) ?_
    obtain ⟨o80, ho83, h⟩ := rq_i h
    refine r_getR hC hw kc_8 hi0 5 rfl lk_1077 dX9_wide_81 rfl ho83 (fun a81 hi82 => ?_)
    refine lv_iload_n hx hb dX9_wide_84 rfl (lv_at hl 1 rfl) ?_
    obtain ⟨hn84, h⟩ := ix_i h
    refine r_iald hC hw hi82 hn84 dX9_wide_85 ?_
    refine lv_i2l (v := (gI D o80 x1.toNatClampNeg).toInt64) hx hb dX9_wide_86 rfl ?_
    refine lv_ladd hx hb dX9_wide_87 ?_
    refine lv_goto (tgt := 115) hx hb dX9_wide_88 (by decide) ?_
    exact w_X9_wide_115 hC hR o0 a0 x1 o55 a56 (gI D o59 x1.toNatClampNeg) ((17179869184 : Int64) + ((gI D o80 x1.toNatClampNeg).toInt64)) _ _ _ _ hi0 hi57 hw (lv_sub hl [0, 1] rfl) h
set_option maxHeartbeats 4000000 in
set_option maxRecDepth 100000 in
theorem w_X9_wide_0 {r : Int32} {D' : dt} (hC : Cx RX9 cX9_wide 2 (some .int) p s m args meth c) (hR : 1 ≤ R.frames ∧ 25 ≤ R.locals) : ∀ (o0 a0 : Nat) (x1 : Int32) (D : dt) (H : Heap) (locs : List Loc) (ls : Array Slot), Is S ad o0 a0 8 → Wd G cA S D ad A s H locs → lv_has ls 2 [(0, .ref a0), (1, .int x1)] → f_X9_wide S o0 x1 D = some (r, D') → W p l e R s m args below meth c H locs 0 0 (MQ below (Qn (some (.int r)) True (wpost G cA S D' ad A) A) args s 0 0 A) (F0 m 0 ls []) := by
  obtain ⟨hx, hb, -⟩ := id hC
  intro o0 a0 x1 D H locs ls hi0 hw hl h
  unfold f_X9_wide at h
  refine lv_iload_n hx hb dX9_wide_0 rfl (lv_at hl 1 rfl) ?_
  refine lv_iconst (v := 1) hx hb dX9_wide_1 (by decide) ?_
  refine lv_iadd hx hb dX9_wide_2 ?_
  refine lv_aload_n hx hb dX9_wide_3 rfl (lv_at hl 0 rfl) ?_
  refine r_gI hC hw kc_8 hi0 0 rfl lk_1072 dX9_wide_4 ?_
  refine lv_icmp_ne (tgt := 12) hx hb dX9_wide_7 (by decide) (fun c85 => ?_) (fun c85 => ?_)
  · have h := i_no c85 h
    refine lv_aload_n hx hb dX9_wide_12 rfl (lv_at hl 0 rfl) ?_
    refine lv_iload_n hx hb dX9_wide_13 rfl (lv_at hl 1 rfl) ?_
    refine lv_iconst (v := 1) hx hb dX9_wide_14 (by decide) ?_
    refine lv_iadd hx hb dX9_wide_15 ?_
    obtain ⟨r87, hq86, h⟩ := pq_i h
    refine r_cV (st' := [.int r87]) [.int (x1 + (1 : Int32))] [] hC hw kc_8 hi0 (k_X9_isSecond _ hi0 hq86) mk_X9_isSecond lk_1412 ⟨Nat.le_trans (by decide) hR.1, Nat.le_trans (by decide) hR.2⟩ ⟨Nat.zero_le _, Nat.zero_le _⟩ rfl hl.1 rfl rfl (Nat.le_of_ble_eq_true rfl) dX9_wide_16 (fun hP H locs hw => ?_)
    refine lv_if_ne (tgt := 24) hx hb dX9_wide_19 (by decide) (fun c88 => ?_) (fun c88 => ?_)
    · have h := i_no c88 h
      refine lv_aload_n hx hb dX9_wide_24 rfl (lv_at hl 0 rfl) ?_
      obtain ⟨o89, ho92, h⟩ := rq_i h
      refine r_getR hC hw kc_8 hi0 3 rfl lk_1075 dX9_wide_25 rfl ho92 (fun a90 hi91 => ?_)
      refine lv_iload_n hx hb dX9_wide_28 rfl (lv_at hl 1 rfl) ?_
      obtain ⟨hn93, h⟩ := ix_i h
      refine r_iald hC hw hi91 hn93 dX9_wide_29 ?_
      refine lv_iconst (v := 1) hx hb dX9_wide_30 (by decide) ?_
      refine lv_icmp_ne (tgt := 57) hx hb dX9_wide_31 (by decide) (fun c94 => ?_) (fun c94 => ?_)
      · have h := i_no c94 h
        exact w_X9_wide_57 hC hR o0 a0 x1 _ _ _ _ hi0 hw (lv_sub hl [0, 1] rfl) h
      · have h := i_yes c94 h
        refine lv_aload_n hx hb dX9_wide_34 rfl (lv_at hl 0 rfl) ?_
        obtain ⟨o95, ho98, h⟩ := rq_i h
        refine r_getR hC hw kc_8 hi0 5 rfl lk_1077 dX9_wide_35 rfl ho98 (fun a96 hi97 => ?_)
        refine lv_iload_n hx hb dX9_wide_38 rfl (lv_at hl 1 rfl) ?_
        obtain ⟨hn99, h⟩ := ix_i h
        refine r_iald hC hw hi97 hn99 dX9_wide_39 ?_
        refine lv_i2l (v := (gI D o95 x1.toNatClampNeg).toInt64) hx hb dX9_wide_40 rfl ?_
        refine lv_lconst (v := 0) hx hb dX9_wide_41 (by decide) ?_
        refine lv_aload_n hx hb dX9_wide_42 rfl (lv_at hl 0 rfl) ?_
        refine r_gI hC hw kc_8 hi0 9 rfl lk_1081 dX9_wide_43 ?_
        refine lv_iconst (v := 1) hx hb dX9_wide_46 (by decide) ?_
        refine lv_isub hx hb dX9_wide_47 ?_
        refine lv_i2l (v := ((gI D o0 9) - (1 : Int32)).toInt64) hx hb dX9_wide_48 rfl ?_
        obtain ⟨r101, hq100, h⟩ := pq_i h
        refine r_cS (st' := [.int r101]) [.long ((gI D o95 x1.toNatClampNeg).toInt64), .long (0 : Int64), .long (((gI D o0 9) - (1 : Int32)).toInt64)] [] hC hw (k_X9_in _ hq100) mk_X9_in lk_1243 ⟨Nat.le_trans (by decide) hR.1, Nat.le_trans (by decide) hR.2⟩ ⟨Nat.zero_le _, Nat.zero_le _⟩ rfl hl.1 rfl rfl (Nat.le_of_ble_eq_true rfl) dX9_wide_49 (fun hP H locs hw => ?_)
        refine lv_if_ne (tgt := 57) hx hb dX9_wide_52 (by decide) (fun c102 => ?_) (fun c102 => ?_)
        · have h := i_no c102 h
          exact w_X9_wide_57 hC hR o0 a0 x1 _ _ _ _ hi0 hw (lv_sub hl [0, 1] rfl) h
        · have h := i_yes c102 h
          refine lv_iconst (v := 4) hx hb dX9_wide_55 (by decide) ?_
          cases h
          exact r_iret hC hw dX9_wide_56
    · have h := i_yes c88 h
      refine lv_iconst (v := 3) hx hb dX9_wide_22 (by decide) ?_
      cases h
      exact r_iret hC hw dX9_wide_23
  · have h := i_yes c85 h
    refine lv_iconst (v := 5) hx hb dX9_wide_10 (by decide) ?_
    cases h
    exact r_iret hC hw dX9_wide_11
set_option maxHeartbeats 4000000 in
set_option maxRecDepth 100000 in
theorem k_X9_wide {l : Launch} {G : va_G} {cA : Nat → ClassId} {S : sh} {D D' : dt} {ad : Nat → Nat} (sz : Nat) {o0 a0 : Nat} {x1 : Int32} {r : Int32} (hi0 : Is S ad o0 a0 8) (h : f_X9_wide S o0 x1 D = some (r, D')) : Co l yX9_wide (Cond.code yX9_wide cX9_wide 2 (some .int) :: tb0) 1 25 [.ref a0, .int x1] G cA S D ad sz (some (.int r)) True D' := by
  refine Met.ofW (cc := cX9_wide) (maxL := 2) (ret := (some .int)) (by decide) rfl ?_
  intro p e s m args below meth c s₁ B hml hv
  obtain ⟨rfl, hsz, hP, hK, hD0, hT, hX⟩ := hv
  subst hsz
  have hts := atoms_spec (ws := Cond.code yX9_wide cX9_wide 2 (some .int) :: tb0) B.pre
  have hC : Cx RX9 cX9_wide 2 (some .int) p s m _ meth c := ⟨B.exec, B.bytes, hml, findClass_of_methodNamed B.named, fun w q => hts w (List.mem_cons_of_mem _ q), B.returns, B.notSynchronized⟩
  have hw := Wd.entry hP hK hD0 hT hX
  have hl := lv_entry ([.ref a0, .int x1]) (n := 2) (Nat.le_of_ble_eq_true rfl)
  rw [lg_entry_eq]
  exact w_X9_wide_0 hC ⟨Nat.le_refl _, Nat.le_refl _⟩ o0 a0 x1 D _ _ _ hi0 hw hl h
end
