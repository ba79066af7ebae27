theorem dX9_access_0 : decode cX9_access 0 = .ok (.aload_n 0, 1) := by decide +kernel
theorem dX9_access_1 : decode cX9_access 1 = .ok (.getfield 109, 3) := by decide +kernel
theorem dX9_access_4 : decode cX9_access 4 = .ok (.iload_n 1, 1) := by decide +kernel
theorem dX9_access_5 : decode cX9_access 5 = .ok (.laload, 1) := by decide +kernel
theorem dX9_access_6 : decode cX9_access 6 = .ok (.iload_n 2, 1) := by decide +kernel
theorem dX9_access_7 : decode cX9_access 7 = .ok (.i2l, 1) := by decide +kernel
theorem dX9_access_8 : decode cX9_access 8 = .ok (.ladd, 1) := by decide +kernel
theorem dX9_access_9 : decode cX9_access 9 = .ok (.lstore 5, 2) := by decide +kernel
theorem dX9_access_11 : decode cX9_access 11 = .ok (.aload_n 0, 1) := by decide +kernel
theorem dX9_access_12 : decode cX9_access 12 = .ok (.getfield 112, 3) := by decide +kernel
theorem dX9_access_15 : decode cX9_access 15 = .ok (.iload_n 1, 1) := by decide +kernel
theorem dX9_access_16 : decode cX9_access 16 = .ok (.laload, 1) := by decide +kernel
theorem dX9_access_17 : decode cX9_access 17 = .ok (.iload_n 2, 1) := by decide +kernel
theorem dX9_access_18 : decode cX9_access 18 = .ok (.i2l, 1) := by decide +kernel
theorem dX9_access_19 : decode cX9_access 19 = .ok (.ladd, 1) := by decide +kernel
theorem dX9_access_20 : decode cX9_access 20 = .ok (.iload_n 3, 1) := by decide +kernel
theorem dX9_access_21 : decode cX9_access 21 = .ok (.i2l, 1) := by decide +kernel
theorem dX9_access_22 : decode cX9_access 22 = .ok (.ladd, 1) := by decide +kernel
theorem dX9_access_23 : decode cX9_access 23 = .ok (.lstore 7, 2) := by decide +kernel
theorem dX9_access_25 : decode cX9_access 25 = .ok (.aload_n 0, 1) := by decide +kernel
theorem dX9_access_26 : decode cX9_access 26 = .ok (.getfield 106, 3) := by decide +kernel
theorem dX9_access_29 : decode cX9_access 29 = .ok (.iload_n 1, 1) := by decide +kernel
theorem dX9_access_30 : decode cX9_access 30 = .ok (.iaload, 1) := by decide +kernel
theorem dX9_access_31 : decode cX9_access 31 = .ok (.tableswitch 114 2 5 #[29, 89, 114, 58], 29) := by decide +kernel
theorem dX9_access_60 : decode cX9_access 60 = .ok (.iload 4, 2) := by decide +kernel
theorem dX9_access_62 : decode cX9_access 62 = .ok (.ifCond .ne 25, 3) := by decide +kernel
theorem dX9_access_65 : decode cX9_access 65 = .ok (.lload 5, 2) := by decide +kernel
theorem dX9_access_67 : decode cX9_access 67 = .ok (.lconst 0, 1) := by decide +kernel
theorem dX9_access_68 : decode cX9_access 68 = .ok (.lcmp, 1) := by decide +kernel
theorem dX9_access_69 : decode cX9_access 69 = .ok (.ifCond .lt 18, 3) := by decide +kernel
theorem dX9_access_72 : decode cX9_access 72 = .ok (.lload 7, 2) := by decide +kernel
theorem dX9_access_74 : decode cX9_access 74 = .ok (.aload_n 0, 1) := by decide +kernel
theorem dX9_access_75 : decode cX9_access 75 = .ok (.getfield 209, 3) := by decide +kernel
theorem dX9_access_78 : decode cX9_access 78 = .ok (.i2l, 1) := by decide +kernel
theorem dX9_access_79 : decode cX9_access 79 = .ok (.lcmp, 1) := by decide +kernel
theorem dX9_access_80 : decode cX9_access 80 = .ok (.ifCond .gt 7, 3) := by decide +kernel
theorem dX9_access_83 : decode cX9_access 83 = .ok (.iconst 0, 1) := by decide +kernel
theorem dX9_access_84 : decode cX9_access 84 = .ok (.goto 4, 3) := by decide +kernel
theorem dX9_access_87 : decode cX9_access 87 = .ok (.iconst 4, 1) := by decide +kernel
theorem dX9_access_88 : decode cX9_access 88 = .ok (.ireturn, 1) := by decide +kernel
theorem dX9_access_89 : decode cX9_access 89 = .ok (.lload 5, 2) := by decide +kernel
theorem dX9_access_91 : decode cX9_access 91 = .ok (.lconst 0, 1) := by decide +kernel
theorem dX9_access_92 : decode cX9_access 92 = .ok (.lcmp, 1) := by decide +kernel
theorem dX9_access_93 : decode cX9_access 93 = .ok (.ifCond .lt 25, 3) := by decide +kernel
theorem dX9_access_96 : decode cX9_access 96 = .ok (.lload 7, 2) := by decide +kernel
theorem dX9_access_98 : decode cX9_access 98 = .ok (.aload_n 0, 1) := by decide +kernel
theorem dX9_access_99 : decode cX9_access 99 = .ok (.getfield 37, 3) := by decide +kernel
theorem dX9_access_102 : decode cX9_access 102 = .ok (.aload_n 0, 1) := by decide +kernel
theorem dX9_access_103 : decode cX9_access 103 = .ok (.getfield 115, 3) := by decide +kernel
theorem dX9_access_106 : decode cX9_access 106 = .ok (.iload_n 1, 1) := by decide +kernel
theorem dX9_access_107 : decode cX9_access 107 = .ok (.iaload, 1) := by decide +kernel
theorem dX9_access_108 : decode cX9_access 108 = .ok (.iaload, 1) := by decide +kernel
theorem dX9_access_109 : decode cX9_access 109 = .ok (.i2l, 1) := by decide +kernel
theorem dX9_access_110 : decode cX9_access 110 = .ok (.lcmp, 1) := by decide +kernel
theorem dX9_access_111 : decode cX9_access 111 = .ok (.ifCond .gt 7, 3) := by decide +kernel
theorem dX9_access_114 : decode cX9_access 114 = .ok (.iconst 0, 1) := by decide +kernel
theorem dX9_access_115 : decode cX9_access 115 = .ok (.goto 4, 3) := by decide +kernel
theorem dX9_access_118 : decode cX9_access 118 = .ok (.iconst 4, 1) := by decide +kernel
theorem dX9_access_119 : decode cX9_access 119 = .ok (.ireturn, 1) := by decide +kernel
theorem dX9_access_120 : decode cX9_access 120 = .ok (.lload 5, 2) := by decide +kernel
theorem dX9_access_122 : decode cX9_access 122 = .ok (.ldc2_w 464, 3) := by decide +kernel
theorem dX9_access_125 : decode cX9_access 125 = .ok (.lcmp, 1) := by decide +kernel
theorem dX9_access_126 : decode cX9_access 126 = .ok (.ifCond .lt 17, 3) := by decide +kernel
theorem dX9_access_129 : decode cX9_access 129 = .ok (.lload 5, 2) := by decide +kernel
theorem dX9_access_131 : decode cX9_access 131 = .ok (.iload_n 3, 1) := by decide +kernel
theorem dX9_access_132 : decode cX9_access 132 = .ok (.i2l, 1) := by decide +kernel
theorem dX9_access_133 : decode cX9_access 133 = .ok (.ladd, 1) := by decide +kernel
theorem dX9_access_134 : decode cX9_access 134 = .ok (.lconst 0, 1) := by decide +kernel
theorem dX9_access_135 : decode cX9_access 135 = .ok (.lcmp, 1) := by decide +kernel
theorem dX9_access_136 : decode cX9_access 136 = .ok (.ifCond .gt 7, 3) := by decide +kernel
theorem dX9_access_139 : decode cX9_access 139 = .ok (.iconst 0, 1) := by decide +kernel
theorem dX9_access_140 : decode cX9_access 140 = .ok (.goto 4, 3) := by decide +kernel
theorem dX9_access_143 : decode cX9_access 143 = .ok (.iconst 4, 1) := by decide +kernel
theorem dX9_access_144 : decode cX9_access 144 = .ok (.ireturn, 1) := by decide +kernel
theorem dX9_access_145 : decode cX9_access 145 = .ok (.iconst 3, 1) := by decide +kernel
theorem dX9_access_146 : decode cX9_access 146 = .ok (.ireturn, 1) := by decide +kernel
theorem dX9_areKnown_0 : decode cX9_areKnown 0 = .ok (.iconst 1, 1) := by decide +kernel
theorem dX9_areKnown_1 : decode cX9_areKnown 1 = .ok (.istore_n 3, 1) := by decide +kernel
theorem dX9_areKnown_2 : decode cX9_areKnown 2 = .ok (.iload_n 1, 1) := by decide +kernel
theorem dX9_areKnown_3 : decode cX9_areKnown 3 = .ok (.istore 4, 2) := by decide +kernel
theorem dX9_areKnown_5 : decode cX9_areKnown 5 = .ok (.iload 4, 2) := by decide +kernel
theorem dX9_areKnown_7 : decode cX9_areKnown 7 = .ok (.iload_n 1, 1) := by decide +kernel
theorem dX9_areKnown_8 : decode cX9_areKnown 8 = .ok (.iload_n 2, 1) := by decide +kernel
theorem dX9_areKnown_9 : decode cX9_areKnown 9 = .ok (.iadd, 1) := by decide +kernel
theorem dX9_areKnown_10 : decode cX9_areKnown 10 = .ok (.if_icmp .ge 29, 3) := by decide +kernel
theorem dX9_areKnown_13 : decode cX9_areKnown 13 = .ok (.iload_n 3, 1) := by decide +kernel
theorem dX9_areKnown_14 : decode cX9_areKnown 14 = .ok (.ifCond .eq 17, 3) := by decide +kernel
theorem dX9_areKnown_17 : decode cX9_areKnown 17 = .ok (.aload_n 0, 1) := by decide +kernel
theorem dX9_areKnown_18 : decode cX9_areKnown 18 = .ok (.getfield 121, 3) := by decide +kernel
theorem dX9_areKnown_21 : decode cX9_areKnown 21 = .ok (.iload 4, 2) := by decide +kernel
theorem dX9_areKnown_23 : decode cX9_areKnown 23 = .ok (.baload, 1) := by decide +kernel
theorem dX9_areKnown_24 : decode cX9_areKnown 24 = .ok (.ifCond .eq 7, 3) := by decide +kernel
theorem dX9_areKnown_27 : decode cX9_areKnown 27 = .ok (.iconst 1, 1) := by decide +kernel
theorem dX9_areKnown_28 : decode cX9_areKnown 28 = .ok (.goto 4, 3) := by decide +kernel
theorem dX9_areKnown_31 : decode cX9_areKnown 31 = .ok (.iconst 0, 1) := by decide +kernel
theorem dX9_areKnown_32 : decode cX9_areKnown 32 = .ok (.istore_n 3, 1) := by decide +kernel
theorem dX9_areKnown_33 : decode cX9_areKnown 33 = .ok (.iinc 4 1, 3) := by decide +kernel
theorem dX9_areKnown_36 : decode cX9_areKnown 36 = .ok (.goto (-31), 3) := by decide +kernel
theorem dX9_areKnown_39 : decode cX9_areKnown 39 = .ok (.iload_n 3, 1) := by decide +kernel
theorem dX9_areKnown_40 : decode cX9_areKnown 40 = .ok (.ireturn, 1) := by decide +kernel
theorem dX9_reads_0 : decode cX9_reads 0 = .ok (.aload_n 0, 1) := by decide +kernel
theorem dX9_reads_1 : decode cX9_reads 1 = .ok (.iload_n 1, 1) := by decide +kernel
theorem dX9_reads_2 : decode cX9_reads 2 = .ok (.iconst 0, 1) := by decide +kernel
theorem dX9_reads_3 : decode cX9_reads 3 = .ok (.iload_n 2, 1) := by decide +kernel
theorem dX9_reads_4 : decode cX9_reads 4 = .ok (.iconst 0, 1) := by decide +kernel
theorem dX9_reads_5 : decode cX9_reads 5 = .ok (.invokevirtual 466, 3) := by decide +kernel
theorem dX9_reads_8 : decode cX9_reads 8 = .ok (.istore_n 3, 1) := by decide +kernel
theorem dX9_reads_9 : decode cX9_reads 9 = .ok (.iload_n 3, 1) := by decide +kernel
theorem dX9_reads_10 : decode cX9_reads 10 = .ok (.ifCond .ne 36, 3) := by decide +kernel
theorem dX9_reads_13 : decode cX9_reads 13 = .ok (.aload_n 0, 1) := by decide +kernel
theorem dX9_reads_14 : decode cX9_reads 14 = .ok (.getfield 106, 3) := by decide +kernel
theorem dX9_reads_17 : decode cX9_reads 17 = .ok (.iload_n 1, 1) := by decide +kernel
theorem dX9_reads_18 : decode cX9_reads 18 = .ok (.iaload, 1) := by decide +kernel
theorem dX9_reads_19 : decode cX9_reads 19 = .ok (.iconst 3, 1) := by decide +kernel
theorem dX9_reads_20 : decode cX9_reads 20 = .ok (.if_icmp .ne 26, 3) := by decide +kernel
theorem dX9_reads_23 : decode cX9_reads 23 = .ok (.aload_n 0, 1) := by decide +kernel
theorem dX9_reads_24 : decode cX9_reads 24 = .ok (.aload_n 0, 1) := by decide +kernel
theorem dX9_reads_25 : decode cX9_reads 25 = .ok (.getfield 109, 3) := by decide +kernel
theorem dX9_reads_28 : decode cX9_reads 28 = .ok (.iload_n 1, 1) := by decide +kernel
theorem dX9_reads_29 : decode cX9_reads 29 = .ok (.laload, 1) := by decide +kernel
theorem dX9_reads_30 : decode cX9_reads 30 = .ok (.l2i, 1) := by decide +kernel
theorem dX9_reads_31 : decode cX9_reads 31 = .ok (.sipush 512, 3) := by decide +kernel
theorem dX9_reads_34 : decode cX9_reads 34 = .ok (.iadd, 1) := by decide +kernel
theorem dX9_reads_35 : decode cX9_reads 35 = .ok (.iload_n 2, 1) := by decide +kernel
theorem dX9_reads_36 : decode cX9_reads 36 = .ok (.invokevirtual 470, 3) := by decide +kernel
theorem dX9_reads_39 : decode cX9_reads 39 = .ok (.ifCond .ne 7, 3) := by decide +kernel
theorem dX9_reads_42 : decode cX9_reads 42 = .ok (.iconst 1, 1) := by decide +kernel
theorem dX9_reads_43 : decode cX9_reads 43 = .ok (.goto 4, 3) := by decide +kernel
theorem dX9_reads_46 : decode cX9_reads 46 = .ok (.iconst 0, 1) := by decide +kernel
theorem dX9_reads_47 : decode cX9_reads 47 = .ok (.istore 4, 2) := by decide +kernel
theorem dX9_reads_49 : decode cX9_reads 49 = .ok (.iload 4, 2) := by decide +kernel
theorem dX9_reads_51 : decode cX9_reads 51 = .ok (.ifCond .eq 7, 3) := by decide +kernel
theorem dX9_reads_54 : decode cX9_reads 54 = .ok (.iconst 4, 1) := by decide +kernel
theorem dX9_reads_55 : decode cX9_reads 55 = .ok (.goto 4, 3) := by decide +kernel
theorem dX9_reads_58 : decode cX9_reads 58 = .ok (.iload_n 3, 1) := by decide +kernel
theorem dX9_reads_59 : decode cX9_reads 59 = .ok (.ireturn, 1) := by decide +kernel
theorem dX9_lookCall_0 : decode cX9_lookCall 0 = .ok (.iload_n 2, 1) := by decide +kernel
theorem dX9_lookCall_1 : decode cX9_lookCall 1 = .ok (.iconst 2, 1) := by decide +kernel
theorem dX9_lookCall_2 : decode cX9_lookCall 2 = .ok (.if_icmp .ne 7, 3) := by decide +kernel
theorem dX9_lookCall_5 : decode cX9_lookCall 5 = .ok (.iconst 4, 1) := by decide +kernel
theorem dX9_lookCall_6 : decode cX9_lookCall 6 = .ok (.goto 23, 3) := by decide +kernel
theorem dX9_lookCall_9 : decode cX9_lookCall 9 = .ok (.iload_n 2, 1) := by decide +kernel
theorem dX9_lookCall_10 : decode cX9_lookCall 10 = .ok (.iconst 5, 1) := by decide +kernel
theorem dX9_lookCall_11 : decode cX9_lookCall 11 = .ok (.if_icmp .ne 7, 3) := by decide +kernel
theorem dX9_lookCall_14 : decode cX9_lookCall 14 = .ok (.iconst 0, 1) := by decide +kernel
theorem dX9_lookCall_15 : decode cX9_lookCall 15 = .ok (.goto 14, 3) := by decide +kernel
theorem dX9_lookCall_18 : decode cX9_lookCall 18 = .ok (.iload_n 2, 1) := by decide +kernel
theorem dX9_lookCall_19 : decode cX9_lookCall 19 = .ok (.bipush 6, 2) := by decide +kernel
theorem dX9_lookCall_21 : decode cX9_lookCall 21 = .ok (.if_icmp .ne 7, 3) := by decide +kernel
theorem dX9_lookCall_24 : decode cX9_lookCall 24 = .ok (.iconst 1, 1) := by decide +kernel
theorem dX9_lookCall_25 : decode cX9_lookCall 25 = .ok (.goto 4, 3) := by decide +kernel
theorem dX9_lookCall_28 : decode cX9_lookCall 28 = .ok (.iconst 2, 1) := by decide +kernel
theorem dX9_lookCall_29 : decode cX9_lookCall 29 = .ok (.istore_n 3, 1) := by decide +kernel
theorem dX9_lookCall_30 : decode cX9_lookCall 30 = .ok (.iconst 1, 1) := by decide +kernel
theorem dX9_lookCall_31 : decode cX9_lookCall 31 = .ok (.istore 4, 2) := by decide +kernel
theorem dX9_lookCall_33 : decode cX9_lookCall 33 = .ok (.iload 4, 2) := by decide +kernel
theorem dX9_lookCall_35 : decode cX9_lookCall 35 = .ok (.iload_n 3, 1) := by decide +kernel
theorem dX9_lookCall_36 : decode cX9_lookCall 36 = .ok (.if_icmp .gt 21, 3) := by decide +kernel
theorem dX9_lookCall_39 : decode cX9_lookCall 39 = .ok (.aload_n 0, 1) := by decide +kernel
theorem dX9_lookCall_40 : decode cX9_lookCall 40 = .ok (.getfield 106, 3) := by decide +kernel
theorem dX9_lookCall_43 : decode cX9_lookCall 43 = .ok (.iload 4, 2) := by decide +kernel
theorem dX9_lookCall_45 : decode cX9_lookCall 45 = .ok (.iaload, 1) := by decide +kernel
theorem dX9_lookCall_46 : decode cX9_lookCall 46 = .ok (.ifCond .ne 5, 3) := by decide +kernel
theorem dX9_lookCall_49 : decode cX9_lookCall 49 = .ok (.iconst 2, 1) := by decide +kernel
theorem dX9_lookCall_50 : decode cX9_lookCall 50 = .ok (.ireturn, 1) := by decide +kernel
theorem dX9_lookCall_51 : decode cX9_lookCall 51 = .ok (.iinc 4 1, 3) := by decide +kernel
theorem dX9_lookCall_54 : decode cX9_lookCall 54 = .ok (.goto (-21), 3) := by decide +kernel
theorem dX9_lookCall_57 : decode cX9_lookCall 57 = .ok (.aload_n 0, 1) := by decide +kernel
theorem dX9_lookCall_58 : decode cX9_lookCall 58 = .ok (.getfield 115, 3) := by decide +kernel
theorem dX9_lookCall_61 : decode cX9_lookCall 61 = .ok (.iconst 1, 1) := by decide +kernel
theorem dX9_lookCall_62 : decode cX9_lookCall 62 = .ok (.iaload, 1) := by decide +kernel
theorem dX9_lookCall_63 : decode cX9_lookCall 63 = .ok (.istore 4, 2) := by decide +kernel
theorem dX9_lookCall_65 : decode cX9_lookCall 65 = .ok (.iload_n 2, 1) := by decide +kernel
theorem dX9_lookCall_66 : decode cX9_lookCall 66 = .ok (.bipush 6, 2) := by decide +kernel
theorem dX9_lookCall_68 : decode cX9_lookCall 68 = .ok (.if_icmp .ne 13, 3) := by decide +kernel
theorem dX9_lookCall_71 : decode cX9_lookCall 71 = .ok (.aload_n 0, 1) := by decide +kernel
theorem dX9_lookCall_72 : decode cX9_lookCall 72 = .ok (.getfield 106, 3) := by decide +kernel
theorem dX9_lookCall_75 : decode cX9_lookCall 75 = .ok (.iconst 1, 1) := by decide +kernel
theorem dX9_lookCall_76 : decode cX9_lookCall 76 = .ok (.iaload, 1) := by decide +kernel
theorem dX9_lookCall_77 : decode cX9_lookCall 77 = .ok (.iconst 1, 1) := by decide +kernel
theorem dX9_lookCall_78 : decode cX9_lookCall 78 = .ok (.if_icmp .ne 18, 3) := by decide +kernel
theorem dX9_lookCall_81 : decode cX9_lookCall 81 = .ok (.iload_n 2, 1) := by decide +kernel
theorem dX9_lookCall_82 : decode cX9_lookCall 82 = .ok (.iconst 4, 1) := by decide +kernel
theorem dX9_lookCall_83 : decode cX9_lookCall 83 = .ok (.if_icmp .ge 15, 3) := by decide +kernel
theorem dX9_lookCall_86 : decode cX9_lookCall 86 = .ok (.aload_n 0, 1) := by decide +kernel
theorem dX9_lookCall_87 : decode cX9_lookCall 87 = .ok (.getfield 106, 3) := by decide +kernel
theorem dX9_lookCall_90 : decode cX9_lookCall 90 = .ok (.iconst 1, 1) := by decide +kernel
theorem dX9_lookCall_91 : decode cX9_lookCall 91 = .ok (.iaload, 1) := by decide +kernel
theorem dX9_lookCall_92 : decode cX9_lookCall 92 = .ok (.iconst 4, 1) := by decide +kernel
theorem dX9_lookCall_93 : decode cX9_lookCall 93 = .ok (.if_icmp .eq 5, 3) := by decide +kernel
theorem dX9_lookCall_96 : decode cX9_lookCall 96 = .ok (.iconst 3, 1) := by decide +kernel
theorem dX9_lookCall_97 : decode cX9_lookCall 97 = .ok (.ireturn, 1) := by decide +kernel
theorem dX9_lookCall_98 : decode cX9_lookCall 98 = .ok (.iload_n 2, 1) := by decide +kernel
theorem dX9_lookCall_99 : decode cX9_lookCall 99 = .ok (.iconst 4, 1) := by decide +kernel
theorem dX9_lookCall_100 : decode cX9_lookCall 100 = .ok (.if_icmp .ge 81, 3) := by decide +kernel
theorem dX9_lookCall_103 : decode cX9_lookCall 103 = .ok (.aload_n 0, 1) := by decide +kernel
theorem dX9_lookCall_104 : decode cX9_lookCall 104 = .ok (.iconst 2, 1) := by decide +kernel
theorem dX9_lookCall_105 : decode cX9_lookCall 105 = .ok (.aload_n 0, 1) := by decide +kernel
theorem dX9_lookCall_106 : decode cX9_lookCall 106 = .ok (.getfield 34, 3) := by decide +kernel
theorem dX9_lookCall_109 : decode cX9_lookCall 109 = .ok (.iload 4, 2) := by decide +kernel
theorem dX9_lookCall_111 : decode cX9_lookCall 111 = .ok (.iaload, 1) := by decide +kernel
theorem dX9_lookCall_112 : decode cX9_lookCall 112 = .ok (.invokevirtual 482, 3) := by decide +kernel
theorem dX9_lookCall_115 : decode cX9_lookCall 115 = .ok (.istore 5, 2) := by decide +kernel
theorem dX9_lookCall_117 : decode cX9_lookCall 117 = .ok (.iload_n 2, 1) := by decide +kernel
theorem dX9_lookCall_118 : decode cX9_lookCall 118 = .ok (.iconst 2, 1) := by decide +kernel
theorem dX9_lookCall_119 : decode cX9_lookCall 119 = .ok (.if_icmp .ne 18, 3) := by decide +kernel
theorem dX9_lookCall_122 : decode cX9_lookCall 122 = .ok (.aload_n 0, 1) := by decide +kernel
theorem dX9_lookCall_123 : decode cX9_lookCall 123 = .ok (.iconst 3, 1) := by decide +kernel
theorem dX9_lookCall_124 : decode cX9_lookCall 124 = .ok (.aload_n 0, 1) := by decide +kernel
theorem dX9_lookCall_125 : decode cX9_lookCall 125 = .ok (.getfield 37, 3) := by decide +kernel
theorem dX9_lookCall_128 : decode cX9_lookCall 128 = .ok (.iload 4, 2) := by decide +kernel
theorem dX9_lookCall_130 : decode cX9_lookCall 130 = .ok (.iaload, 1) := by decide +kernel
theorem dX9_lookCall_131 : decode cX9_lookCall 131 = .ok (.invokevirtual 482, 3) := by decide +kernel
theorem dX9_lookCall_134 : decode cX9_lookCall 134 = .ok (.goto 4, 3) := by decide +kernel
theorem dX9_lookCall_137 : decode cX9_lookCall 137 = .ok (.iconst 0, 1) := by decide +kernel
theorem dX9_lookCall_138 : decode cX9_lookCall 138 = .ok (.istore 6, 2) := by decide +kernel
theorem dX9_lookCall_140 : decode cX9_lookCall 140 = .ok (.iload 5, 2) := by decide +kernel
theorem dX9_lookCall_142 : decode cX9_lookCall 142 = .ok (.iconst 3, 1) := by decide +kernel
theorem dX9_lookCall_143 : decode cX9_lookCall 143 = .ok (.if_icmp .eq 24, 3) := by decide +kernel
theorem dX9_lookCall_146 : decode cX9_lookCall 146 = .ok (.iload 6, 2) := by decide +kernel
theorem dX9_lookCall_148 : decode cX9_lookCall 148 = .ok (.iconst 3, 1) := by decide +kernel
theorem dX9_lookCall_149 : decode cX9_lookCall 149 = .ok (.if_icmp .eq 18, 3) := by decide +kernel
theorem dX9_lookCall_152 : decode cX9_lookCall 152 = .ok (.iload_n 2, 1) := by decide +kernel
theorem dX9_lookCall_153 : decode cX9_lookCall 153 = .ok (.iconst 2, 1) := by decide +kernel
theorem dX9_lookCall_154 : decode cX9_lookCall 154 = .ok (.if_icmp .ne 15, 3) := by decide +kernel
theorem dX9_lookCall_157 : decode cX9_lookCall 157 = .ok (.aload_n 0, 1) := by decide +kernel
theorem dX9_lookCall_158 : decode cX9_lookCall 158 = .ok (.getfield 106, 3) := by decide +kernel
theorem dX9_lookCall_161 : decode cX9_lookCall 161 = .ok (.iconst 4, 1) := by decide +kernel
theorem dX9_lookCall_162 : decode cX9_lookCall 162 = .ok (.iaload, 1) := by decide +kernel
theorem dX9_lookCall_163 : decode cX9_lookCall 163 = .ok (.iconst 1, 1) := by decide +kernel
theorem dX9_lookCall_164 : decode cX9_lookCall 164 = .ok (.if_icmp .eq 5, 3) := by decide +kernel
theorem dX9_lookCall_167 : decode cX9_lookCall 167 = .ok (.iconst 3, 1) := by decide +kernel
theorem dX9_lookCall_168 : decode cX9_lookCall 168 = .ok (.ireturn, 1) := by decide +kernel
theorem dX9_lookCall_169 : decode cX9_lookCall 169 = .ok (.iload 5, 2) := by decide +kernel
theorem dX9_lookCall_171 : decode cX9_lookCall 171 = .ok (.ifCond .gt 8, 3) := by decide +kernel
theorem dX9_lookCall_174 : decode cX9_lookCall 174 = .ok (.iload 6, 2) := by decide +kernel
theorem dX9_lookCall_176 : decode cX9_lookCall 176 = .ok (.ifCond .le 5, 3) := by decide +kernel
theorem dX9_lookCall_179 : decode cX9_lookCall 179 = .ok (.iconst 4, 1) := by decide +kernel
theorem dX9_lookCall_180 : decode cX9_lookCall 180 = .ok (.ireturn, 1) := by decide +kernel
theorem dX9_lookCall_181 : decode cX9_lookCall 181 = .ok (.iload_n 2, 1) := by decide +kernel
theorem dX9_lookCall_182 : decode cX9_lookCall 182 = .ok (.iconst 1, 1) := by decide +kernel
theorem dX9_lookCall_183 : decode cX9_lookCall 183 = .ok (.if_icmp .ne 34, 3) := by decide +kernel
theorem dX9_lookCall_186 : decode cX9_lookCall 186 = .ok (.aload_n 0, 1) := by decide +kernel
theorem dX9_lookCall_187 : decode cX9_lookCall 187 = .ok (.iconst 0, 1) := by decide +kernel
theorem dX9_lookCall_188 : decode cX9_lookCall 188 = .ok (.invokevirtual 351, 3) := by decide +kernel
theorem dX9_lookCall_191 : decode cX9_lookCall 191 = .ok (.aload_n 0, 1) := by decide +kernel
theorem dX9_lookCall_192 : decode cX9_lookCall 192 = .ok (.getfield 106, 3) := by decide +kernel
theorem dX9_lookCall_195 : decode cX9_lookCall 195 = .ok (.iconst 0, 1) := by decide +kernel
theorem dX9_lookCall_196 : decode cX9_lookCall 196 = .ok (.bipush 6, 2) := by decide +kernel
theorem dX9_lookCall_198 : decode cX9_lookCall 198 = .ok (.iastore, 1) := by decide +kernel
theorem dX9_lookCall_199 : decode cX9_lookCall 199 = .ok (.aload_n 0, 1) := by decide +kernel
theorem dX9_lookCall_200 : decode cX9_lookCall 200 = .ok (.getfield 115, 3) := by decide +kernel
theorem dX9_lookCall_203 : decode cX9_lookCall 203 = .ok (.iconst 0, 1) := by decide +kernel
theorem dX9_lookCall_204 : decode cX9_lookCall 204 = .ok (.iload 4, 2) := by decide +kernel
theorem dX9_lookCall_206 : decode cX9_lookCall 206 = .ok (.iastore, 1) := by decide +kernel
theorem dX9_lookCall_207 : decode cX9_lookCall 207 = .ok (.aload_n 0, 1) := by decide +kernel
theorem dX9_lookCall_208 : decode cX9_lookCall 208 = .ok (.getfield 118, 3) := by decide +kernel
theorem dX9_lookCall_211 : decode cX9_lookCall 211 = .ok (.iconst 0, 1) := by decide +kernel
theorem dX9_lookCall_212 : decode cX9_lookCall 212 = .ok (.iload_n 1, 1) := by decide +kernel
theorem dX9_lookCall_213 : decode cX9_lookCall 213 = .ok (.iastore, 1) := by decide +kernel
theorem dX9_lookCall_214 : decode cX9_lookCall 214 = .ok (.goto 12, 3) := by decide +kernel
theorem dX9_lookCall_217 : decode cX9_lookCall 217 = .ok (.aload_n 0, 1) := by decide +kernel
theorem dX9_lookCall_218 : decode cX9_lookCall 218 = .ok (.iconst 0, 1) := by decide +kernel
theorem dX9_lookCall_219 : decode cX9_lookCall 219 = .ok (.lconst 0, 1) := by decide +kernel
theorem dX9_lookCall_220 : decode cX9_lookCall 220 = .ok (.ldc2_w 187, 3) := by decide +kernel
theorem dX9_lookCall_223 : decode cX9_lookCall 223 = .ok (.invokevirtual 393, 3) := by decide +kernel
theorem dX9_lookCall_226 : decode cX9_lookCall 226 = .ok (.iconst 1, 1) := by decide +kernel
theorem dX9_lookCall_227 : decode cX9_lookCall 227 = .ok (.istore 5, 2) := by decide +kernel
theorem dX9_lookCall_229 : decode cX9_lookCall 229 = .ok (.iload 5, 2) := by decide +kernel
theorem dX9_lookCall_231 : decode cX9_lookCall 231 = .ok (.bipush 6, 2) := by decide +kernel
theorem dX9_lookCall_233 : decode cX9_lookCall 233 = .ok (.if_icmp .ge 15, 3) := by decide +kernel
theorem dX9_lookCall_236 : decode cX9_lookCall 236 = .ok (.aload_n 0, 1) := by decide +kernel
theorem dX9_lookCall_237 : decode cX9_lookCall 237 = .ok (.iload 5, 2) := by decide +kernel
theorem dX9_lookCall_239 : decode cX9_lookCall 239 = .ok (.invokevirtual 351, 3) := by decide +kernel
theorem dX9_lookCall_242 : decode cX9_lookCall 242 = .ok (.iinc 5 1, 3) := by decide +kernel
theorem dX9_lookCall_245 : decode cX9_lookCall 245 = .ok (.goto (-16), 3) := by decide +kernel
theorem dX9_lookCall_248 : decode cX9_lookCall 248 = .ok (.iconst 0, 1) := by decide +kernel
theorem dX9_lookCall_249 : decode cX9_lookCall 249 = .ok (.ireturn, 1) := by decide +kernel
theorem dX9_mostOf_0 : decode cX9_mostOf 0 = .ok (.iload_n 0, 1) := by decide +kernel
theorem dX9_mostOf_1 : decode cX9_mostOf 1 = .ok (.bipush 8, 2) := by decide +kernel
theorem dX9_mostOf_3 : decode cX9_mostOf 3 = .ok (.if_icmp .ne 9, 3) := by decide +kernel
theorem dX9_mostOf_6 : decode cX9_mostOf 6 = .ok (.ldc2_w 187, 3) := by decide +kernel
theorem dX9_mostOf_9 : decode cX9_mostOf 9 = .ok (.goto 11, 3) := by decide +kernel
theorem dX9_mostOf_12 : decode cX9_mostOf 12 = .ok (.lconst 1, 1) := by decide +kernel
theorem dX9_mostOf_13 : decode cX9_mostOf 13 = .ok (.bipush 8, 2) := by decide +kernel
theorem dX9_mostOf_15 : decode cX9_mostOf 15 = .ok (.iload_n 0, 1) := by decide +kernel
theorem dX9_mostOf_16 : decode cX9_mostOf 16 = .ok (.imul, 1) := by decide +kernel
theorem dX9_mostOf_17 : decode cX9_mostOf 17 = .ok (.lshl, 1) := by decide +kernel
theorem dX9_mostOf_18 : decode cX9_mostOf 18 = .ok (.lconst 1, 1) := by decide +kernel
theorem dX9_mostOf_19 : decode cX9_mostOf 19 = .ok (.lsub, 1) := by decide +kernel
theorem dX9_mostOf_20 : decode cX9_mostOf 20 = .ok (.lreturn, 1) := by decide +kernel
theorem dX9_lookLoad_0 : decode cX9_lookLoad 0 = .ok (.aload_n 0, 1) := by decide +kernel
theorem dX9_lookLoad_1 : decode cX9_lookLoad 1 = .ok (.getfield 16, 3) := by decide +kernel
theorem dX9_lookLoad_4 : decode cX9_lookLoad 4 = .ok (.iload_n 1, 1) := by decide +kernel
theorem dX9_lookLoad_5 : decode cX9_lookLoad 5 = .ok (.iaload, 1) := by decide +kernel
theorem dX9_lookLoad_6 : decode cX9_lookLoad 6 = .ok (.istore_n 3, 1) := by decide +kernel
theorem dX9_lookLoad_7 : decode cX9_lookLoad 7 = .ok (.aload_n 0, 1) := by decide +kernel
theorem dX9_lookLoad_8 : decode cX9_lookLoad 8 = .ok (.iload_n 1, 1) := by decide +kernel
theorem dX9_lookLoad_9 : decode cX9_lookLoad 9 = .ok (.invokevirtual 273, 3) := by decide +kernel
theorem dX9_lookLoad_12 : decode cX9_lookLoad 12 = .ok (.istore 4, 2) := by decide +kernel
theorem dX9_lookLoad_14 : decode cX9_lookLoad 14 = .ok (.aload_n 0, 1) := by decide +kernel
theorem dX9_lookLoad_15 : decode cX9_lookLoad 15 = .ok (.getfield 106, 3) := by decide +kernel
theorem dX9_lookLoad_18 : decode cX9_lookLoad 18 = .ok (.iload_n 3, 1) := by decide +kernel
theorem dX9_lookLoad_19 : decode cX9_lookLoad 19 = .ok (.iaload, 1) := by decide +kernel
theorem dX9_lookLoad_20 : decode cX9_lookLoad 20 = .ok (.ifCond .ne 5, 3) := by decide +kernel
theorem dX9_lookLoad_23 : decode cX9_lookLoad 23 = .ok (.iconst 2, 1) := by decide +kernel
theorem dX9_lookLoad_24 : decode cX9_lookLoad 24 = .ok (.ireturn, 1) := by decide +kernel
theorem dX9_lookLoad_25 : decode cX9_lookLoad 25 = .ok (.aload_n 0, 1) := by decide +kernel
theorem dX9_lookLoad_26 : decode cX9_lookLoad 26 = .ok (.iload_n 3, 1) := by decide +kernel
theorem dX9_lookLoad_27 : decode cX9_lookLoad 27 = .ok (.aload_n 0, 1) := by decide +kernel
theorem dX9_lookLoad_28 : decode cX9_lookLoad 28 = .ok (.getfield 19, 3) := by decide +kernel
theorem dX9_lookLoad_31 : decode cX9_lookLoad 31 = .ok (.iload_n 1, 1) := by decide +kernel
theorem dX9_lookLoad_32 : decode cX9_lookLoad 32 = .ok (.iaload, 1) := by decide +kernel
theorem dX9_lookLoad_33 : decode cX9_lookLoad 33 = .ok (.iload 4, 2) := by decide +kernel
theorem dX9_lookLoad_35 : decode cX9_lookLoad 35 = .ok (.iconst 0, 1) := by decide +kernel
theorem dX9_lookLoad_36 : decode cX9_lookLoad 36 = .ok (.invokevirtual 466, 3) := by decide +kernel
theorem dX9_lookLoad_39 : decode cX9_lookLoad 39 = .ok (.istore 5, 2) := by decide +kernel
theorem dX9_lookLoad_41 : decode cX9_lookLoad 41 = .ok (.iload 5, 2) := by decide +kernel
theorem dX9_lookLoad_43 : decode cX9_lookLoad 43 = .ok (.ifCond .le 6, 3) := by decide +kernel
theorem dX9_lookLoad_46 : decode cX9_lookLoad 46 = .ok (.iload 5, 2) := by decide +kernel
theorem dX9_lookLoad_48 : decode cX9_lookLoad 48 = .ok (.ireturn, 1) := by decide +kernel
theorem dX9_lookLoad_49 : decode cX9_lookLoad 49 = .ok (.aload_n 0, 1) := by decide +kernel
theorem dX9_lookLoad_50 : decode cX9_lookLoad 50 = .ok (.getfield 106, 3) := by decide +kernel
theorem dX9_lookLoad_53 : decode cX9_lookLoad 53 = .ok (.iload_n 3, 1) := by decide +kernel
theorem dX9_lookLoad_54 : decode cX9_lookLoad 54 = .ok (.iaload, 1) := by decide +kernel
theorem dX9_lookLoad_55 : decode cX9_lookLoad 55 = .ok (.iconst 3, 1) := by decide +kernel
theorem dX9_lookLoad_56 : decode cX9_lookLoad 56 = .ok (.if_icmp .ne 85, 3) := by decide +kernel
theorem dX9_lookLoad_59 : decode cX9_lookLoad 59 = .ok (.aload_n 0, 1) := by decide +kernel
theorem dX9_lookLoad_60 : decode cX9_lookLoad 60 = .ok (.getfield 109, 3) := by decide +kernel
theorem dX9_lookLoad_63 : decode cX9_lookLoad 63 = .ok (.iload_n 3, 1) := by decide +kernel
theorem dX9_lookLoad_64 : decode cX9_lookLoad 64 = .ok (.laload, 1) := by decide +kernel
theorem dX9_lookLoad_65 : decode cX9_lookLoad 65 = .ok (.l2i, 1) := by decide +kernel
theorem dX9_lookLoad_66 : decode cX9_lookLoad 66 = .ok (.aload_n 0, 1) := by decide +kernel
theorem dX9_lookLoad_67 : decode cX9_lookLoad 67 = .ok (.getfield 19, 3) := by decide +kernel
theorem dX9_lookLoad_70 : decode cX9_lookLoad 70 = .ok (.iload_n 1, 1) := by decide +kernel
theorem dX9_lookLoad_71 : decode cX9_lookLoad 71 = .ok (.iaload, 1) := by decide +kernel
theorem dX9_lookLoad_72 : decode cX9_lookLoad 72 = .ok (.iadd, 1) := by decide +kernel
theorem dX9_lookLoad_73 : decode cX9_lookLoad 73 = .ok (.sipush 512, 3) := by decide +kernel
theorem dX9_lookLoad_76 : decode cX9_lookLoad 76 = .ok (.iadd, 1) := by decide +kernel
theorem dX9_lookLoad_77 : decode cX9_lookLoad 77 = .ok (.istore 6, 2) := by decide +kernel
theorem dX9_lookLoad_79 : decode cX9_lookLoad 79 = .ok (.bipush 11, 2) := by decide +kernel
theorem dX9_lookLoad_81 : decode cX9_lookLoad 81 = .ok (.iload 6, 2) := by decide +kernel
theorem dX9_lookLoad_83 : decode cX9_lookLoad 83 = .ok (.bipush 8, 2) := by decide +kernel
theorem dX9_lookLoad_85 : decode cX9_lookLoad 85 = .ok (.idiv, 1) := by decide +kernel
theorem dX9_lookLoad_86 : decode cX9_lookLoad 86 = .ok (.iadd, 1) := by decide +kernel
theorem dX9_lookLoad_87 : decode cX9_lookLoad 87 = .ok (.istore 7, 2) := by decide +kernel
theorem dX9_lookLoad_89 : decode cX9_lookLoad 89 = .ok (.iload 4, 2) := by decide +kernel
theorem dX9_lookLoad_91 : decode cX9_lookLoad 91 = .ok (.bipush 8, 2) := by decide +kernel
theorem dX9_lookLoad_93 : decode cX9_lookLoad 93 = .ok (.if_icmp .ne 35, 3) := by decide +kernel
theorem dX9_lookLoad_96 : decode cX9_lookLoad 96 = .ok (.iload 6, 2) := by decide +kernel
theorem dX9_lookLoad_98 : decode cX9_lookLoad 98 = .ok (.bipush 8, 2) := by decide +kernel
theorem dX9_lookLoad_100 : decode cX9_lookLoad 100 = .ok (.irem, 1) := by decide +kernel
theorem dX9_lookLoad_101 : decode cX9_lookLoad 101 = .ok (.ifCond .ne 27, 3) := by decide +kernel
theorem dX9_lookLoad_104 : decode cX9_lookLoad 104 = .ok (.aload_n 0, 1) := by decide +kernel
theorem dX9_lookLoad_105 : decode cX9_lookLoad 105 = .ok (.getfield 106, 3) := by decide +kernel
theorem dX9_lookLoad_108 : decode cX9_lookLoad 108 = .ok (.iload 7, 2) := by decide +kernel
theorem dX9_lookLoad_110 : decode cX9_lookLoad 110 = .ok (.iaload, 1) := by decide +kernel
theorem dX9_lookLoad_111 : decode cX9_lookLoad 111 = .ok (.ifCond .eq 17, 3) := by decide +kernel
theorem dX9_lookLoad_114 : decode cX9_lookLoad 114 = .ok (.aload_n 0, 1) := by decide +kernel
theorem dX9_lookLoad_115 : decode cX9_lookLoad 115 = .ok (.iload 7, 2) := by decide +kernel
theorem dX9_lookLoad_117 : decode cX9_lookLoad 117 = .ok (.aload_n 0, 1) := by decide +kernel
theorem dX9_lookLoad_118 : decode cX9_lookLoad 118 = .ok (.getfield 13, 3) := by decide +kernel
theorem dX9_lookLoad_121 : decode cX9_lookLoad 121 = .ok (.iload_n 1, 1) := by decide +kernel
theorem dX9_lookLoad_122 : decode cX9_lookLoad 122 = .ok (.iaload, 1) := by decide +kernel
theorem dX9_lookLoad_123 : decode cX9_lookLoad 123 = .ok (.invokevirtual 409, 3) := by decide +kernel
theorem dX9_lookLoad_126 : decode cX9_lookLoad 126 = .ok (.iconst 0, 1) := by decide +kernel
theorem dX9_lookLoad_127 : decode cX9_lookLoad 127 = .ok (.ireturn, 1) := by decide +kernel
theorem dX9_lookLoad_128 : decode cX9_lookLoad 128 = .ok (.aload_n 0, 1) := by decide +kernel
theorem dX9_lookLoad_129 : decode cX9_lookLoad 129 = .ok (.iload 6, 2) := by decide +kernel
theorem dX9_lookLoad_131 : decode cX9_lookLoad 131 = .ok (.iload 4, 2) := by decide +kernel
theorem dX9_lookLoad_133 : decode cX9_lookLoad 133 = .ok (.invokevirtual 470, 3) := by decide +kernel
theorem dX9_lookLoad_136 : decode cX9_lookLoad 136 = .ok (.ifCond .ne 5, 3) := by decide +kernel
theorem dX9_lookLoad_139 : decode cX9_lookLoad 139 = .ok (.iconst 4, 1) := by decide +kernel
theorem dX9_lookLoad_140 : decode cX9_lookLoad 140 = .ok (.ireturn, 1) := by decide +kernel
theorem dX9_lookLoad_141 : decode cX9_lookLoad 141 = .ok (.aload_n 0, 1) := by decide +kernel
theorem dX9_lookLoad_142 : decode cX9_lookLoad 142 = .ok (.aload_n 0, 1) := by decide +kernel
theorem dX9_lookLoad_143 : decode cX9_lookLoad 143 = .ok (.getfield 13, 3) := by decide +kernel
theorem dX9_lookLoad_146 : decode cX9_lookLoad 146 = .ok (.iload_n 1, 1) := by decide +kernel
theorem dX9_lookLoad_147 : decode cX9_lookLoad 147 = .ok (.iaload, 1) := by decide +kernel
theorem dX9_lookLoad_148 : decode cX9_lookLoad 148 = .ok (.lconst 0, 1) := by decide +kernel
theorem dX9_lookLoad_149 : decode cX9_lookLoad 149 = .ok (.iload_n 2, 1) := by decide +kernel
theorem dX9_lookLoad_150 : decode cX9_lookLoad 150 = .ok (.ifCond .eq 9, 3) := by decide +kernel
theorem dX9_lookLoad_153 : decode cX9_lookLoad 153 = .ok (.ldc2_w 187, 3) := by decide +kernel
theorem dX9_lookLoad_156 : decode cX9_lookLoad 156 = .ok (.goto 8, 3) := by decide +kernel
theorem dX9_lookLoad_159 : decode cX9_lookLoad 159 = .ok (.iload 4, 2) := by decide +kernel
theorem dX9_lookLoad_161 : decode cX9_lookLoad 161 = .ok (.invokestatic 473, 3) := by decide +kernel
theorem dX9_lookLoad_164 : decode cX9_lookLoad 164 = .ok (.invokevirtual 393, 3) := by decide +kernel
theorem dX9_lookLoad_167 : decode cX9_lookLoad 167 = .ok (.iconst 0, 1) := by decide +kernel
theorem dX9_lookLoad_168 : decode cX9_lookLoad 168 = .ok (.ireturn, 1) := by decide +kernel
theorem dX9_put__0 : decode cX9_put_ 0 = .ok (.iload_n 1, 1) := by decide +kernel
theorem dX9_put__1 : decode cX9_put_ 1 = .ok (.istore_n 3, 1) := by decide +kernel
theorem dX9_put__2 : decode cX9_put_ 2 = .ok (.iload_n 3, 1) := by decide +kernel
theorem dX9_put__3 : decode cX9_put_ 3 = .ok (.iload_n 1, 1) := by decide +kernel
theorem dX9_put__4 : decode cX9_put_ 4 = .ok (.iload_n 2, 1) := by decide +kernel
theorem dX9_put__5 : decode cX9_put_ 5 = .ok (.iadd, 1) := by decide +kernel
theorem dX9_put__6 : decode cX9_put_ 6 = .ok (.if_icmp .ge 27, 3) := by decide +kernel
theorem dX9_put__9 : decode cX9_put_ 9 = .ok (.aload_n 0, 1) := by decide +kernel
theorem dX9_put__10 : decode cX9_put_ 10 = .ok (.bipush 11, 2) := by decide +kernel
theorem dX9_put__12 : decode cX9_put_ 12 = .ok (.iload_n 3, 1) := by decide +kernel
theorem dX9_put__13 : decode cX9_put_ 13 = .ok (.bipush 8, 2) := by decide +kernel
theorem dX9_put__15 : decode cX9_put_ 15 = .ok (.idiv, 1) := by decide +kernel
theorem dX9_put__16 : decode cX9_put_ 16 = .ok (.iadd, 1) := by decide +kernel
theorem dX9_put__17 : decode cX9_put_ 17 = .ok (.invokevirtual 351, 3) := by decide +kernel
theorem dX9_put__20 : decode cX9_put_ 20 = .ok (.aload_n 0, 1) := by decide +kernel
theorem dX9_put__21 : decode cX9_put_ 21 = .ok (.getfield 121, 3) := by decide +kernel
theorem dX9_put__24 : decode cX9_put_ 24 = .ok (.iload_n 3, 1) := by decide +kernel
theorem dX9_put__25 : decode cX9_put_ 25 = .ok (.iconst 1, 1) := by decide +kernel
theorem dX9_put__26 : decode cX9_put_ 26 = .ok (.bastore, 1) := by decide +kernel
theorem dX9_put__27 : decode cX9_put_ 27 = .ok (.iinc 3 1, 3) := by decide +kernel
theorem dX9_put__30 : decode cX9_put_ 30 = .ok (.goto (-28), 3) := by decide +kernel
theorem dX9_put__33 : decode cX9_put_ 33 = .ok (.return_, 1) := by decide +kernel
-- JudgedCodeModel.access
def f_X9_access (S : sh) (D : dt) (o0 : Nat) (x1 : Int32) (x2 : Int32) (x3 : Int32) (x4 : Int32) : Option Int32 := rq (gR D o0 41) fun o39 => ix x1 (sA S o39) <| nm ((gL D o39 x1.toNatClampNeg) + x2.toInt64) fun y44 => rq (gR D o0 42) fun o45 => ix x1 (sA S o45) <| nm (((gL D o45 x1.toNatClampNeg) + x2.toInt64) + x3.toInt64) fun y50 => rq (gR D o0 40) fun o51 => ix x1 (sA S o51) <| if (gI D o51 x1.toNatClampNeg) = 2 then (if x4 = 0 then (if (lg_cmp y44 (0 : Int64)) < 0 then (some (4 : Int32)) else (if 0 < (lg_cmp y50 ((gI D o0 7).toInt64)) then (some (4 : Int32)) else (some (0 : Int32)))) else (some (4 : Int32))) else if (gI D o51 x1.toNatClampNeg) = 3 then (if (lg_cmp y44 (-512 : Int64)) < 0 then (some (4 : Int32)) else (if 0 < (lg_cmp (y44 + x3.toInt64) (0 : Int64)) then (some (4 : Int32)) else (some (0 : Int32)))) else if (gI D o51 x1.toNatClampNeg) = 4 then (some (3 : Int32)) else if (gI D o51 x1.toNatClampNeg) = 5 then (if (lg_cmp y44 (0 : Int64)) < 0 then (some (4 : Int32)) else (rq (gR D o0 12) fun o66 => rq (gR D o0 43) fun o70 => ix x1 (sA S o70) <| ix (gI D o70 x1.toNatClampNeg) (sA S o66) <| if 0 < (lg_cmp y50 ((gI D o66 (gI D o70 x1.toNatClampNeg).toNatClampNeg).toInt64)) then (some (4 : Int32)) else (some (0 : Int32)))) else (some (3 : Int32))
-- JudgedCodeModel.areKnown
def f_X9_areKnown_32 (S : sh) (D : dt) (k5 : Nat → Int32 → Int32 → Int32 → Int32 → Option Int32) (o0 : Nat) (x1 : Int32) (x2 : Int32) (x4 : Int32) (xs0 : Int32) : Option Int32 := nm (x4 + 1) fun y12 => k5 o0 x1 x2 xs0 y12
def f_X9_areKnown_31 (S : sh) (D : dt) (k5 : Nat → Int32 → Int32 → Int32 → Int32 → Option Int32) (o0 : Nat) (x1 : Int32) (x2 : Int32) (x4 : Int32) : Option Int32 := f_X9_areKnown_32 S D k5 o0 x1 x2 x4 (0 : Int32)
def f_X9_areKnown_5 (S : sh) (D : dt) : Nat → Nat → Int32 → Int32 → Int32 → Int32 → Option Int32
  | 0, _, _, _, _, _ => none
  | n + 1, o0, x1, x2, x3, x4 => if (x1 + x2) ≤ x4 then (ck (x3 = 0 ∨ x3 = 1) <| some x3) else (if x3 = 0 then (f_X9_areKnown_31 S D (f_X9_areKnown_5 S D n) o0 x1 x2 x4) else (rq (gR D o0 45) fun o16 => ix x4 (sA S o16) <| if (gI D o16 x4.toNatClampNeg) = 0 then (f_X9_areKnown_31 S D (f_X9_areKnown_5 S D n) o0 x1 x2 x4) else (f_X9_areKnown_32 S D (f_X9_areKnown_5 S D n) o0 x1 x2 x4 (1 : Int32))))
def f_X9_areKnown (S : sh) (D : dt) (o0 : Nat) (x1 : Int32) (x2 : Int32) : Option Int32 := nm ((1 : Int32)) fun y22 => f_X9_areKnown_5 S D LF o0 x1 x2 y22 x1
-- JudgedCodeModel.reads
def f_X9_reads_47 (S : sh) (D : dt) (x3 : Int32) (xs0 : Int32) : Option Int32 := if xs0 = 0 then (some x3) else (some (4 : Int32))
def f_X9_reads_46 (S : sh) (D : dt) (x3 : Int32) : Option Int32 := f_X9_reads_47 S D x3 (0 : Int32)
def f_X9_reads (S : sh) (D : dt) (o0 : Nat) (x1 : Int32) (x2 : Int32) : Option Int32 := pq (f_X9_access S D o0 x1 (0 : Int32) x2 (0 : Int32)) fun r21 => if r21 = 0 then (rq (gR D o0 40) fun o23 => ix x1 (sA S o23) <| if (gI D o23 x1.toNatClampNeg) = (3 : Int32) then (rq (gR D o0 41) fun o29 => ix x1 (sA S o29) <| pq (f_X9_areKnown S D o0 (((gL D o29 x1.toNatClampNeg).toInt32) + (512 : Int32)) x2) fun r35 => if r35 = 0 then (f_X9_reads_47 S D r21 (1 : Int32)) else (f_X9_reads_46 S D r21)) else (f_X9_reads_46 S D r21)) else (f_X9_reads_46 S D r21)
-- JudgedCodeModel.lookCall
def f_X9_lookCall_229 (S : sh) : Nat → Nat → Int32 → dt → Option (Int32 × dt)
  | 0, _, _, _ => none
  | n + 1, o0, x5, D => if (6 : Int32) ≤ x5 then (some ((0 : Int32), D)) else (cq (f_X9_forget S o0 x5 D) fun _ D90 => nm (x5 + 1) fun y91 => f_X9_lookCall_229 S n o0 y91 D90)
def f_X9_lookCall_226 (S : sh) (o0 : Nat) (D : dt) : Option (Int32 × dt) := nm ((1 : Int32)) fun y92 => f_X9_lookCall_229 S LF o0 y92 D
def f_X9_lookCall_181 (S : sh) (o0 : Nat) (x1 : Int32) (x2 : Int32) (x4 : Int32) (D : dt) : Option (Int32 × dt) := if x2 = (1 : Int32) then (cq (f_X9_forget S o0 (0 : Int32) D) fun _ D97 => rq (gR D97 o0 40) fun o98 => ix (0 : Int32) (sA S o98) <| nm (pI D97 o98 (0 : Int32).toNatClampNeg (6 : Int32)) fun D103 => rq (gR D103 o0 43) fun o104 => ix (0 : Int32) (sA S o104) <| nm (pI D103 o104 (0 : Int32).toNatClampNeg x4) fun D109 => rq (gR D109 o0 44) fun o110 => ix (0 : Int32) (sA S o110) <| nm (pI D109 o110 (0 : Int32).toNatClampNeg x1) fun D115 => f_X9_lookCall_226 S o0 D115) else (cq (f_X9_number S o0 (0 : Int32) (0 : Int64) (-1 : Int64) D) fun _ D95 => f_X9_lookCall_226 S o0 D95)
def f_X9_lookCall_169 (S : sh) (o0 : Nat) (x1 : Int32) (x2 : Int32) (x4 : Int32) (x5 : Int32) (x6 : Int32) (D : dt) : Option (Int32 × dt) := if 0 < x5 then (some ((4 : Int32), D)) else (if x6 ≤ 0 then (f_X9_lookCall_181 S o0 x1 x2 x4 D) else (some ((4 : Int32), D)))
def f_X9_lookCall_138 (S : sh) (o0 : Nat) (x1 : Int32) (x2 : Int32) (x4 : Int32) (x5 : Int32) (xs0 : Int32) (D : dt) : Option (Int32 × dt) := if x5 = (3 : Int32) then (some ((3 : Int32), D)) else (if xs0 = (3 : Int32) then (some ((3 : Int32), D)) else (if x2 = (2 : Int32) then (rq (gR D o0 40) fun o121 => ix (4 : Int32) (sA S o121) <| if (gI D o121 (4 : Int32).toNatClampNeg) = (1 : Int32) then (f_X9_lookCall_169 S o0 x1 x2 x4 x5 xs0 D) else (some ((3 : Int32), D))) else (f_X9_lookCall_169 S o0 x1 x2 x4 x5 xs0 D)))
def f_X9_lookCall_98 (S : sh) (o0 : Nat) (x1 : Int32) (x2 : Int32) (x4 : Int32) (D : dt) : Option (Int32 × dt) := if (4 : Int32) ≤ x2 then (f_X9_lookCall_181 S o0 x1 x2 x4 D) else (rq (gR D o0 11) fun o128 => ix x4 (sA S o128) <| pq (f_X9_reads S D o0 (2 : Int32) (gI D o128 x4.toNatClampNeg)) fun r134 => if x2 = (2 : Int32) then (rq (gR D o0 12) fun o136 => ix x4 (sA S o136) <| pq (f_X9_reads S D o0 (3 : Int32) (gI D o136 x4.toNatClampNeg)) fun r142 => f_X9_lookCall_138 S o0 x1 x2 x4 r134 r142 D) else (f_X9_lookCall_138 S o0 x1 x2 x4 r134 (0 : Int32) D))
def f_X9_lookCall_81 (S : sh) (o0 : Nat) (x1 : Int32) (x2 : Int32) (x4 : Int32) (D : dt) : Option (Int32 × dt) := if (4 : Int32) ≤ x2 then (f_X9_lookCall_98 S o0 x1 x2 x4 D) else (rq (gR D o0 40) fun o144 => ix (1 : Int32) (sA S o144) <| if (gI D o144 (1 : Int32).toNatClampNeg) = (4 : Int32) then (f_X9_lookCall_98 S o0 x1 x2 x4 D) else (some ((3 : Int32), D)))
def f_X9_lookCall_33 (S : sh) : Nat → Nat → Int32 → Int32 → Int32 → Int32 → dt → Option (Int32 × dt)
  | 0, _, _, _, _, _, _ => none
  | n + 1, o0, x1, x2, x3, x4, D => if x3 < x4 then (rq (gR D o0 43) fun o151 => ix (1 : Int32) (sA S o151) <| nm (gI D o151 (1 : Int32).toNatClampNeg) fun y156 => if x2 = (6 : Int32) then (rq (gR D o0 40) fun o158 => ix (1 : Int32) (sA S o158) <| if (gI D o158 (1 : Int32).toNatClampNeg) = (1 : Int32) then (f_X9_lookCall_81 S o0 x1 x2 y156 D) else (some ((3 : Int32), D))) else (f_X9_lookCall_81 S o0 x1 x2 y156 D)) else (rq (gR D o0 40) fun o164 => ix x4 (sA S o164) <| if (gI D o164 x4.toNatClampNeg) = 0 then (some ((2 : Int32), D)) else (nm (x4 + 1) fun y170 => f_X9_lookCall_33 S n o0 x1 x2 x3 y170 D))
def f_X9_lookCall_29 (S : sh) (o0 : Nat) (x1 : Int32) (x2 : Int32) (xs0 : Int32) (D : dt) : Option (Int32 × dt) := nm ((1 : Int32)) fun y171 => f_X9_lookCall_33 S LF o0 x1 x2 xs0 y171 D
def f_X9_lookCall (S : sh) (o0 : Nat) (x1 : Int32) (x2 : Int32) (D : dt) : Option (Int32 × dt) := if x2 = (2 : Int32) then (f_X9_lookCall_29 S o0 x1 x2 (4 : Int32) D) else (if x2 = (5 : Int32) then (f_X9_lookCall_29 S o0 x1 x2 (0 : Int32) D) else (if x2 = (6 : Int32) then (f_X9_lookCall_29 S o0 x1 x2 (1 : Int32) D) else (f_X9_lookCall_29 S o0 x1 x2 (2 : Int32) D)))
-- JudgedCodeModel.mostOf
def f_X9_mostOf (x0 : Int32) : Option Int64 := if x0 = (8 : Int32) then (some (-1 : Int64)) else (some ((j_lshl (1 : Int64) ((8 : Int32) * x0)) - (1 : Int64)))
-- JudgedCodeModel.lookLoad
def f_X9_lookLoad_164 (S : sh) (os0 : Nat) (xs1 : Int32) (xs2 : Int64) (xs3 : Int64) (D : dt) : Option (Int32 × dt) := cq (f_X9_number S os0 xs1 xs2 xs3 D) fun _ D70 => some ((0 : Int32), D70)
def f_X9_lookLoad_141 (S : sh) (o0 : Nat) (x1 : Int32) (x2 : Int32) (x4 : Int32) (D : dt) : Option (Int32 × dt) := rq (gR D o0 2) fun o71 => ix x1 (sA S o71) <| if x2 = 0 then (pq (f_X9_mostOf x4) fun r78 => f_X9_lookLoad_164 S o0 (gI D o71 x1.toNatClampNeg) (0 : Int64) r78 D) else (f_X9_lookLoad_164 S o0 (gI D o71 x1.toNatClampNeg) (0 : Int64) (-1 : Int64) D)
def f_X9_lookLoad_128 (S : sh) (o0 : Nat) (x1 : Int32) (x2 : Int32) (x4 : Int32) (x6 : Int32) (D : dt) : Option (Int32 × dt) := pq (f_X9_areKnown S D o0 x6 x4) fun r80 => if r80 = 0 then (some ((4 : Int32), D)) else (f_X9_lookLoad_141 S o0 x1 x2 x4 D)
def f_X9_lookLoad (S : sh) (o0 : Nat) (x1 : Int32) (x2 : Int32) (D : dt) : Option (Int32 × dt) := rq (gR D o0 3) fun o82 => ix x1 (sA S o82) <| nm (gI D o82 x1.toNatClampNeg) fun y87 => pq (f_X9_widthOf S D o0 x1) fun r89 => rq (gR D o0 40) fun o90 => ix y87 (sA S o90) <| if (gI D o90 y87.toNatClampNeg) = 0 then (some ((2 : Int32), D)) else (rq (gR D o0 4) fun o96 => ix x1 (sA S o96) <| pq (f_X9_access S D o0 y87 (gI D o96 x1.toNatClampNeg) r89 (0 : Int32)) fun r102 => if r102 ≤ 0 then (rq (gR D o0 40) fun o104 => ix y87 (sA S o104) <| if (gI D o104 y87.toNatClampNeg) = (3 : Int32) then (rq (gR D o0 41) fun o110 => ix y87 (sA S o110) <| rq (gR D o0 4) fun o115 => ix x1 (sA S o115) <| nm ((((gL D o110 y87.toNatClampNeg).toInt32) + (gI D o115 x1.toNatClampNeg)) + (512 : Int32)) fun y120 => nm ((11 : Int32) + (y120 / (8 : Int32))) fun y121 => if r89 = (8 : Int32) then (if (y120 - y120 / (8 : Int32) * (8 : Int32)) = 0 then (rq (gR D o0 40) fun o124 => ix y121 (sA S o124) <| if (gI D o124 y121.toNatClampNeg) = 0 then (f_X9_lookLoad_128 S o0 x1 x2 r89 y120 D) else (rq (gR D o0 2) fun o130 => ix x1 (sA S o130) <| cq (f_X9_same S o0 y121 (gI D o130 x1.toNatClampNeg) D) fun _ D136 => some ((0 : Int32), D136))) else (f_X9_lookLoad_128 S o0 x1 x2 r89 y120 D)) else (f_X9_lookLoad_128 S o0 x1 x2 r89 y120 D)) else (f_X9_lookLoad_141 S o0 x1 x2 r89 D)) else (some (r102, D)))
-- JudgedCodeModel.put
def f_X9_put__2 (S : sh) : Nat → Nat → Int32 → Int32 → Int32 → dt → Option (Unit × dt)
  | 0, _, _, _, _, _ => none
  | n + 1, o0, x1, x2, x3, D => if (x1 + x2) ≤ x3 then (some ((), D)) else (cq (f_X9_forget S o0 ((11 : Int32) + (x3 / (8 : Int32))) D) fun _ D13 => rq (gR D13 o0 45) fun o14 => ix x3 (sA S o14) <| nm (pI D13 o14 x3.toNatClampNeg (vp_nar .boolean (1 : Int32))) fun D19 => nm (x3 + 1) fun y20 => f_X9_put__2 S n o0 x1 x2 y20 D19)
def f_X9_put_ (S : sh) (o0 : Nat) (x1 : Int32) (x2 : Int32) (D : dt) : Option (Unit × dt) := f_X9_put__2 S LF o0 x1 x2 x1 D
theorem mk_X9_access : MkV yX9_access RX9 cX9_access 9 (some .int) 4 := ⟨⟨lk_1563, lk_106, lk_121, (tb_in (i := 1564) (by decide +kernel) (by decide +kernel))⟩, by decide +kernel⟩
theorem mk_X9_areKnown : MkV yX9_areKnown RX9 cX9_areKnown 5 (some .boolean) 2 := ⟨⟨lk_1568, lk_107, lk_121, (tb_in (i := 1569) (by decide +kernel) (by decide +kernel))⟩, by decide +kernel⟩
theorem mk_X9_reads : MkV yX9_reads RX9 cX9_reads 5 (some .int) 2 := ⟨⟨lk_1559, lk_105, lk_121, (tb_in (i := 1560) (by decide +kernel) (by decide +kernel))⟩, by decide +kernel⟩
theorem mk_X9_lookCall : MkV yX9_lookCall RX9 cX9_lookCall 7 (some .int) 2 := ⟨⟨lk_1555, lk_104, lk_121, (tb_in (i := 1556) (by decide +kernel) (by decide +kernel))⟩, by decide +kernel⟩
theorem mk_X9_mostOf : MkS yX9_mostOf cX9_mostOf 1 (some .long) 1 := ⟨⟨lk_1575, lk_121, (tb_in (i := 1576) (by decide +kernel) (by decide +kernel))⟩, by decide +kernel⟩
theorem mk_X9_lookLoad : MkV yX9_lookLoad RX9 cX9_lookLoad 8 (some .int) 2 := ⟨⟨lk_1572, lk_108, lk_121, (tb_in (i := 1573) (by decide +kernel) (by decide +kernel))⟩, by decide +kernel⟩
theorem mk_X9_put_ : MkV yX9_put_ RX9 cX9_put_ 4 none 2 := ⟨⟨lk_1585, lk_110, lk_121, (tb_in (i := 1586) (by decide +kernel) (by decide +kernel))⟩, by decide +kernel⟩
section
variable {p : Program} {l : Launch} {e : Env} {R : Room} {s : State} {m : MethodId} {args : Array Value} {below : List Frame} {meth : Method} {c : Code} {H : Heap} {locs : List Loc} {G : va_G} {cA : Nat → ClassId} {S : sh} {D : dt} {ad : Nat → Nat} {A : Nat → Prop}
set_option maxHeartbeats 4000000 in
set_option maxRecDepth 100000 in
theorem w_X9_access_0 {r : Int32} (hC : Cx RX9 cX9_access 9 (some .int) p s m args meth c) (hR : 0 ≤ R.frames ∧ 0 ≤ R.locals) : ∀ (o0 a0 : Nat) (x1 : Int32) (x2 : Int32) (x3 : Int32) (x4 : Int32) (H : Heap) (locs : List Loc) (ls : Array Slot), Is S ad o0 a0 8 → Wd G cA S D ad A s H locs → lv_has ls 9 [(0, .ref a0), (1, .int x1), (2, .int x2), (3, .int x3), (4, .int x4)] → f_X9_access S D o0 x1 x2 x3 x4 = some r → W p l e R s m args below meth c H locs 0 0 (MQ below (Qn (some (.int r)) True (wpost G cA S D ad A) A) args s 0 0 A) (F0 m 0 ls []) := by
  obtain ⟨hx, hb, -⟩ := id hC
  intro o0 a0 x1 x2 x3 x4 H locs ls hi0 hw hl h
  unfold f_X9_access at h
  refine lv_aload_n hx hb dX9_access_0 rfl (lv_at hl 0 rfl) ?_
  obtain ⟨o39, ho42, h⟩ := rq_i h
  refine r_getR hC hw kc_8 hi0 41 rfl lk_1113 dX9_access_1 rfl ho42 (fun a40 hi41 => ?_)
  refine lv_iload_n hx hb dX9_access_4 rfl (lv_at hl 1 rfl) ?_
  obtain ⟨hn43, h⟩ := ix_i h
  refine r_lald hC hw hi41 hn43 dX9_access_5 ?_
  refine lv_iload_n hx hb dX9_access_6 rfl (lv_at hl 2 rfl) ?_
  refine lv_i2l (v := x2.toInt64) hx hb dX9_access_7 rfl ?_
  refine lv_ladd hx hb dX9_access_8 ?_
  refine lv_topl (fun y44 ey44 => ?_)
  have h := nm_i h y44 ey44
  refine lv_lstore (lv' := [(5, .long y44), (0, .ref a0), (1, .int x1), (2, .int x2), (3, .int x3), (4, .int x4)]) hx hb dX9_access_9 hl (by decide) rfl (fun ls hl => ?_)
  refine lv_aload_n hx hb dX9_access_11 rfl (lv_at hl 1 rfl) ?_
  obtain ⟨o45, ho48, h⟩ := rq_i h
  refine r_getR hC hw kc_8 hi0 42 rfl lk_1114 dX9_access_12 rfl ho48 (fun a46 hi47 => ?_)
  refine lv_iload_n hx hb dX9_access_15 rfl (lv_at hl 2 rfl) ?_
  obtain ⟨hn49, h⟩ := ix_i h
  refine r_lald hC hw hi47 hn49 dX9_access_16 ?_
  refine lv_iload_n hx hb dX9_access_17 rfl (lv_at hl 3 rfl) ?_
  refine lv_i2l (v := x2.toInt64) hx hb dX9_access_18 rfl ?_
  refine lv_ladd hx hb dX9_access_19 ?_
  refine lv_iload_n hx hb dX9_access_20 rfl (lv_at hl 4 rfl) ?_
  refine lv_i2l (v := x3.toInt64) hx hb dX9_access_21 rfl ?_
  refine lv_ladd hx hb dX9_access_22 ?_
  refine lv_topl (fun y50 ey50 => ?_)
  have h := nm_i h y50 ey50
  refine lv_lstore (lv' := [(7, .long y50), (5, .long y44), (0, .ref a0), (1, .int x1), (2, .int x2), (3, .int x3), (4, .int x4)]) hx hb dX9_access_23 hl (by decide) rfl (fun ls hl => ?_)
  refine lv_aload_n hx hb dX9_access_25 rfl (lv_at hl 2 rfl) ?_
  obtain ⟨o51, ho54, h⟩ := rq_i h
  refine r_getR hC hw kc_8 hi0 40 rfl lk_1112 dX9_access_26 rfl ho54 (fun a52 hi53 => ?_)
  refine lv_iload_n hx hb dX9_access_29 rfl (lv_at hl 3 rfl) ?_
  obtain ⟨hn55, h⟩ := ix_i h
  refine r_iald hC hw hi53 hn55 dX9_access_30 ?_
  by_cases c56 : (gI D o51 x1.toNatClampNeg) = 2
  · have h := i_yes c56 h
    refine lv_tableIn (off := 29) (tgt := 60) hx hb dX9_access_31 (by rw [c56]; decide) (by rw [c56]; decide) (by rw [c56] <;> rfl) (by decide) ?_
    refine lv_iload hx hb dX9_access_60 (lv_at hl 6 rfl) ?_
    refine lv_if_ne (tgt := 87) hx hb dX9_access_62 (by decide) (fun c57 => ?_) (fun c57 => ?_)
    · have h := i_no c57 h
      refine lv_iconst (v := 4) hx hb dX9_access_87 (by decide) ?_
      cases h
      exact r_iret hC hw dX9_access_88
    · have h := i_yes c57 h
      refine lv_lload hx hb dX9_access_65 (lv_at hl 1 rfl) ?_
      refine lv_lconst (v := 0) hx hb dX9_access_67 (by decide) ?_
      refine W.lcmp hx hb dX9_access_68 ?_
      refine lv_if_lt (tgt := 87) hx hb dX9_access_69 (by decide) (fun c58 => ?_) (fun c58 => ?_)
      · have h := i_yes c58 h
        refine lv_iconst (v := 4) hx hb dX9_access_87 (by decide) ?_
        cases h
        exact r_iret hC hw dX9_access_88
      · have h := i_no c58 h
        refine lv_lload hx hb dX9_access_72 (lv_at hl 0 rfl) ?_
        refine lv_aload_n hx hb dX9_access_74 rfl (lv_at hl 2 rfl) ?_
        refine r_gI hC hw kc_8 hi0 7 rfl lk_1079 dX9_access_75 ?_
        refine lv_i2l (v := (gI D o0 7).toInt64) hx hb dX9_access_78 rfl ?_
        refine W.lcmp hx hb dX9_access_79 ?_
        refine lv_if_gt (tgt := 87) hx hb dX9_access_80 (by decide) (fun c59 => ?_) (fun c59 => ?_)
        · have h := i_yes c59 h
          refine lv_iconst (v := 4) hx hb dX9_access_87 (by decide) ?_
          cases h
          exact r_iret hC hw dX9_access_88
        · have h := i_no c59 h
          refine lv_iconst (v := 0) hx hb dX9_access_83 (by decide) ?_
          refine lv_goto (tgt := 88) hx hb dX9_access_84 (by decide) ?_
          cases h
          exact r_iret hC hw dX9_access_88
  have h := i_no c56 h
  by_cases c60 : (gI D o51 x1.toNatClampNeg) = 3
  · have h := i_yes c60 h
    refine lv_tableIn (off := 89) (tgt := 120) hx hb dX9_access_31 (by rw [c60]; decide) (by rw [c60]; decide) (by rw [c60] <;> rfl) (by decide) ?_
    refine lv_lload hx hb dX9_access_120 (lv_at hl 1 rfl) ?_
    refine lv_ldc2 (v := (-512)) hx hb hC.2.2.2.1 (hC.2.2.2.2.1 _ lk_1565) dX9_access_122 ?_
    refine W.lcmp hx hb dX9_access_125 ?_
    refine lv_if_lt (tgt := 143) hx hb dX9_access_126 (by decide) (fun c61 => ?_) (fun c61 => ?_)
    · have h := i_yes c61 h
      refine lv_iconst (v := 4) hx hb dX9_access_143 (by decide) ?_
      cases h
      exact r_iret hC hw dX9_access_144
    · have h := i_no c61 h
      refine lv_lload hx hb dX9_access_129 (lv_at hl 1 rfl) ?_
      refine lv_iload_n hx hb dX9_access_131 rfl (lv_at hl 5 rfl) ?_
      refine lv_i2l (v := x3.toInt64) hx hb dX9_access_132 rfl ?_
      refine lv_ladd hx hb dX9_access_133 ?_
      refine lv_lconst (v := 0) hx hb dX9_access_134 (by decide) ?_
      refine W.lcmp hx hb dX9_access_135 ?_
      refine lv_if_gt (tgt := 143) hx hb dX9_access_136 (by decide) (fun c62 => ?_) (fun c62 => ?_)
      · have h := i_yes c62 h
        refine lv_iconst (v := 4) hx hb dX9_access_143 (by decide) ?_
        cases h
        exact r_iret hC hw dX9_access_144
      · have h := i_no c62 h
        refine lv_iconst (v := 0) hx hb dX9_access_139 (by decide) ?_
        refine lv_goto (tgt := 144) hx hb dX9_access_140 (by decide) ?_
        cases h
        exact r_iret hC hw dX9_access_144
  have h := i_no c60 h
  by_cases c63 : (gI D o51 x1.toNatClampNeg) = 4
  · have h := i_yes c63 h
    refine lv_tableIn (off := 114) (tgt := 145) hx hb dX9_access_31 (by rw [c63]; decide) (by rw [c63]; decide) (by rw [c63] <;> rfl) (by decide) ?_
    refine lv_iconst (v := 3) hx hb dX9_access_145 (by decide) ?_
    cases h
    exact r_iret hC hw dX9_access_146
  have h := i_no c63 h
  by_cases c64 : (gI D o51 x1.toNatClampNeg) = 5
  · have h := i_yes c64 h
    refine lv_tableIn (off := 58) (tgt := 89) hx hb dX9_access_31 (by rw [c64]; decide) (by rw [c64]; decide) (by rw [c64] <;> rfl) (by decide) ?_
    refine lv_lload hx hb dX9_access_89 (lv_at hl 1 rfl) ?_
    refine lv_lconst (v := 0) hx hb dX9_access_91 (by decide) ?_
    refine W.lcmp hx hb dX9_access_92 ?_
    refine lv_if_lt (tgt := 118) hx hb dX9_access_93 (by decide) (fun c65 => ?_) (fun c65 => ?_)
    · have h := i_yes c65 h
      refine lv_iconst (v := 4) hx hb dX9_access_118 (by decide) ?_
      cases h
      exact r_iret hC hw dX9_access_119
    · have h := i_no c65 h
      refine lv_lload hx hb dX9_access_96 (lv_at hl 0 rfl) ?_
      refine lv_aload_n hx hb dX9_access_98 rfl (lv_at hl 2 rfl) ?_
      obtain ⟨o66, ho69, h⟩ := rq_i h
      refine r_getR hC hw kc_8 hi0 12 rfl lk_1084 dX9_access_99 rfl ho69 (fun a67 hi68 => ?_)
      refine lv_aload_n hx hb dX9_access_102 rfl (lv_at hl 2 rfl) ?_
      obtain ⟨o70, ho73, h⟩ := rq_i h
      refine r_getR hC hw kc_8 hi0 43 rfl lk_1115 dX9_access_103 rfl ho73 (fun a71 hi72 => ?_)
      refine lv_iload_n hx hb dX9_access_106 rfl (lv_at hl 3 rfl) ?_
      obtain ⟨hn74, h⟩ := ix_i h
      refine r_iald hC hw hi72 hn74 dX9_access_107 ?_
      obtain ⟨hn75, h⟩ := ix_i h
      refine r_iald hC hw hi68 hn75 dX9_access_108 ?_
      refine lv_i2l (v := (gI D o66 (gI D o70 x1.toNatClampNeg).toNatClampNeg).toInt64) hx hb dX9_access_109 rfl ?_
      refine W.lcmp hx hb dX9_access_110 ?_
      refine lv_if_gt (tgt := 118) hx hb dX9_access_111 (by decide) (fun c76 => ?_) (fun c76 => ?_)
      · have h := i_yes c76 h
        refine lv_iconst (v := 4) hx hb dX9_access_118 (by decide) ?_
        cases h
        exact r_iret hC hw dX9_access_119
      · have h := i_no c76 h
        refine lv_iconst (v := 0) hx hb dX9_access_114 (by decide) ?_
        refine lv_goto (tgt := 119) hx hb dX9_access_115 (by decide) ?_
        cases h
        exact r_iret hC hw dX9_access_119
  have h := i_no c64 h
  refine lv_tableOut (tgt := 145) hx hb dX9_access_31 (by have nc56 := lv_neT c56 (a := 2) rfl; have nc60 := lv_neT c60 (a := 3) rfl; have nc63 := lv_neT c63 (a := 4) rfl; have nc64 := lv_neT c64 (a := 5) rfl; omega) (by decide) ?_
  refine lv_iconst (v := 3) hx hb dX9_access_145 (by decide) ?_
  cases h
  exact r_iret hC hw dX9_access_146
set_option maxHeartbeats 4000000 in
set_option maxRecDepth 100000 in
theorem k_X9_access {l : Launch} {G : va_G} {cA : Nat → ClassId} {S : sh} {D : dt} {ad : Nat → Nat} (sz : Nat) {o0 a0 : Nat} {x1 : Int32} {x2 : Int32} {x3 : Int32} {x4 : Int32} {r : Int32} (hi0 : Is S ad o0 a0 8) (h : f_X9_access S D o0 x1 x2 x3 x4 = some r) : Co l yX9_access (Cond.code yX9_access cX9_access 9 (some .int) :: tb0) 0 0 [.ref a0, .int x1, .int x2, .int x3, .int x4] G cA S D ad sz (some (.int r)) True D := by
  refine Met.ofW (cc := cX9_access) (maxL := 9) (ret := (some .int)) (by decide) rfl ?_
  intro p e s m args below meth c s₁ B hml hv
  obtain ⟨rfl, hsz, hP, hK, hD0, hT, hX⟩ := hv
  subst hsz
  have hts := atoms_spec (ws := Cond.code yX9_access cX9_access 9 (some .int) :: tb0) B.pre
  have hC : Cx RX9 cX9_access 9 (some .int) p s m _ meth c := ⟨B.exec, B.bytes, hml, findClass_of_methodNamed B.named, fun w q => hts w (List.mem_cons_of_mem _ q), B.returns, B.notSynchronized⟩
  have hw := Wd.entry hP hK hD0 hT hX
  have hl := lv_entry ([.ref a0, .int x1, .int x2, .int x3, .int x4]) (n := 9) (Nat.le_of_ble_eq_true rfl)
  rw [lg_entry_eq]
  exact w_X9_access_0 hC ⟨Nat.le_refl _, Nat.le_refl _⟩ o0 a0 x1 x2 x3 x4 _ _ _ hi0 hw hl h
set_option maxHeartbeats 4000000 in
set_option maxRecDepth 100000 in
theorem w_X9_areKnown_32 {r : Int32} (hC : Cx RX9 cX9_areKnown 5 (some .boolean) p s m args meth c) (hR : 0 ≤ R.frames ∧ 0 ≤ R.locals) {k5 : Nat → Int32 → Int32 → Int32 → Int32 → Option Int32} (hk5 : ∀ (o0 a0 : Nat) (x1 : Int32) (x2 : Int32) (x3 : Int32) (x4 : Int32) (H : Heap) (locs : List Loc) (ls : Array Slot), Is S ad o0 a0 8 → Wd G cA S D ad A s H locs → lv_has ls 5 [(0, .ref a0), (1, .int x1), (2, .int x2), (3, .int x3), (4, .int x4)] → k5 o0 x1 x2 x3 x4 = some r → W p l e R s m args below meth c H locs 0 0 (MQ below (Qn (some (.int r)) True (wpost G cA S D ad A) A) args s 0 0 A) (F0 m 5 ls [])) : ∀ (o0 a0 : Nat) (x1 : Int32) (x2 : Int32) (x4 : Int32) (xs0 : Int32) (H : Heap) (locs : List Loc) (ls : Array Slot), Is S ad o0 a0 8 → Wd G cA S D ad A s H locs → lv_has ls 5 [(0, .ref a0), (1, .int x1), (2, .int x2), (4, .int x4)] → f_X9_areKnown_32 S D k5 o0 x1 x2 x4 xs0 = some r → W p l e R s m args below meth c H locs 0 0 (MQ below (Qn (some (.int r)) True (wpost G cA S D ad A) A) args s 0 0 A) (F0 m 32 ls [.int xs0]) := by
  obtain ⟨hx, hb, -⟩ := id hC
  intro o0 a0 x1 x2 x4 xs0 H locs ls hi0 hw hl h
  unfold f_X9_areKnown_32 at h
  refine lv_istore_n (lv' := [(3, .int xs0), (0, .ref a0), (1, .int x1), (2, .int x2), (4, .int x4)]) hx hb dX9_areKnown_32 rfl hl (by decide) rfl (fun ls hl => ?_)
  obtain ⟨y12, ey12⟩ : ∃ z : Int32, z = x4 + 1 := ⟨_, rfl⟩
  have h := nm_i h y12 ey12
  refine lv_iinc (v := y12) (lv' := [(4, .int y12), (3, .int xs0), (0, .ref a0), (1, .int x1), (2, .int x2)]) hx hb dX9_areKnown_33 hl (k := 4) rfl (by rw [ey12]; rfl) (by decide) rfl (fun ls hl => ?_)
  refine lv_goto (tgt := 5) hx hb dX9_areKnown_36 (by decide) ?_
  exact hk5 o0 a0 x1 x2 xs0 y12 _ _ _ hi0 hw (lv_sub hl [2, 3, 4, 1, 0] rfl) h
set_option maxHeartbeats 4000000 in
set_option maxRecDepth 100000 in
theorem w_X9_areKnown_31 {r : Int32} (hC : Cx RX9 cX9_areKnown 5 (some .boolean) p s m args meth c) (hR : 0 ≤ R.frames ∧ 0 ≤ R.locals) {k5 : Nat → Int32 → Int32 → Int32 → Int32 → Option Int32} (hk5 : ∀ (o0 a0 : Nat) (x1 : Int32) (x2 : Int32) (x3 : Int32) (x4 : Int32) (H : Heap) (locs : List Loc) (ls : Array Slot), Is S ad o0 a0 8 → Wd G cA S D ad A s H locs → lv_has ls 5 [(0, .ref a0), (1, .int x1), (2, .int x2), (3, .int x3), (4, .int x4)] → k5 o0 x1 x2 x3 x4 = some r → W p l e R s m args below meth c H locs 0 0 (MQ below (Qn (some (.int r)) True (wpost G cA S D ad A) A) args s 0 0 A) (F0 m 5 ls [])) : ∀ (o0 a0 : Nat) (x1 : Int32) (x2 : Int32) (x4 : Int32) (H : Heap) (locs : List Loc) (ls : Array Slot), Is S ad o0 a0 8 → Wd G cA S D ad A s H locs → lv_has ls 5 [(0, .ref a0), (1, .int x1), (2, .int x2), (4, .int x4)] → f_X9_areKnown_31 S D k5 o0 x1 x2 x4 = some r → W p l e R s m args below meth c H locs 0 0 (MQ below (Qn (some (.int r)) True (wpost G cA S D ad A) A) args s 0 0 A) (F0 m 31 ls []) := by
  obtain ⟨hx, hb, -⟩ := id hC
  intro o0 a0 x1 x2 x4 H locs ls hi0 hw hl h
  unfold f_X9_areKnown_31 at h
  refine lv_iconst (v := 0) hx hb dX9_areKnown_31 (by decide) ?_
  exact w_X9_areKnown_32 hC hR hk5 o0 a0 x1 x2 x4 (0 : Int32) _ _ _ hi0 hw (lv_sub hl [0, 1, 2, 3] rfl) h
set_option maxHeartbeats 4000000 in
set_option maxRecDepth 100000 in
theorem w_X9_areKnown_5 {r : Int32} (hC : Cx RX9 cX9_areKnown 5 (some .boolean) p s m args meth c) (hR : 0 ≤ R.frames ∧ 0 ≤ R.locals) : ∀ (n : Nat), ∀ (o0 a0 : Nat) (x1 : Int32) (x2 : Int32) (x3 : Int32) (x4 : Int32) (H : Heap) (locs : List Loc) (ls : Array Slot), Is S ad o0 a0 8 → Wd G cA S D ad A s H locs → lv_has ls 5 [(0, .ref a0), (1, .int x1), (2, .int x2), (3, .int x3), (4, .int x4)] → f_X9_areKnown_5 S D n o0 x1 x2 x3 x4 = some r → W p l e R s m args below meth c H locs 0 0 (MQ below (Qn (some (.int r)) True (wpost G cA S D ad A) A) args s 0 0 A) (F0 m 5 ls []) := by
  obtain ⟨hx, hb, -⟩ := id hC
  intro n
  induction n with
  | zero =>
    intro o0 a0 x1 x2 x3 x4 H locs ls hi0 hw hl h
    rw [f_X9_areKnown_5.eq_1] at h
    cases h
  | succ n ih =>
    intro o0 a0 x1 x2 x3 x4 H locs ls hi0 hw hl h
    rw [f_X9_areKnown_5.eq_2] at h
    refine lv_iload hx hb dX9_areKnown_5 (lv_at hl 4 rfl) ?_
    refine lv_iload_n hx hb dX9_areKnown_7 rfl (lv_at hl 1 rfl) ?_
    refine lv_iload_n hx hb dX9_areKnown_8 rfl (lv_at hl 2 rfl) ?_
    refine lv_iadd hx hb dX9_areKnown_9 ?_
    refine lv_icmp_ge (tgt := 39) hx hb dX9_areKnown_10 (by decide) (fun c13 => ?_) (fun c13 => ?_)
    · have h := i_yes c13 h
      refine lv_iload_n hx hb dX9_areKnown_39 rfl (lv_at hl 3 rfl) ?_
      obtain ⟨hz14, h⟩ := ck_i h
      cases h
      exact r_zret hC hw hz14 dX9_areKnown_40
    · have h := i_no c13 h
      refine lv_iload_n hx hb dX9_areKnown_13 rfl (lv_at hl 3 rfl) ?_
      refine lv_if_eq (tgt := 31) hx hb dX9_areKnown_14 (by decide) (fun c15 => ?_) (fun c15 => ?_)
      · have h := i_yes c15 h
        exact w_X9_areKnown_31 hC hR ih o0 a0 x1 x2 x4 _ _ _ hi0 hw (lv_sub hl [0, 1, 2, 4] rfl) h
      · have h := i_no c15 h
        refine lv_aload_n hx hb dX9_areKnown_17 rfl (lv_at hl 0 rfl) ?_
        obtain ⟨o16, ho19, h⟩ := rq_i h
        refine r_getR hC hw kc_8 hi0 45 rfl lk_1117 dX9_areKnown_18 rfl ho19 (fun a17 hi18 => ?_)
        refine lv_iload hx hb dX9_areKnown_21 (lv_at hl 4 rfl) ?_
        obtain ⟨hn20, h⟩ := ix_i h
        refine r_zald hC hw hi18 hn20 dX9_areKnown_23 ?_
        refine lv_if_eq (tgt := 31) hx hb dX9_areKnown_24 (by decide) (fun c21 => ?_) (fun c21 => ?_)
        · have h := i_yes c21 h
          exact w_X9_areKnown_31 hC hR ih o0 a0 x1 x2 x4 _ _ _ hi0 hw (lv_sub hl [0, 1, 2, 4] rfl) h
        · have h := i_no c21 h
          refine lv_iconst (v := 1) hx hb dX9_areKnown_27 (by decide) ?_
          refine lv_goto (tgt := 32) hx hb dX9_areKnown_28 (by decide) ?_
          exact w_X9_areKnown_32 hC hR ih o0 a0 x1 x2 x4 (1 : Int32) _ _ _ hi0 hw (lv_sub hl [0, 1, 2, 4] rfl) h
set_option maxHeartbeats 4000000 in
set_option maxRecDepth 100000 in
theorem w_X9_areKnown_0 {r : Int32} (hC : Cx RX9 cX9_areKnown 5 (some .boolean) p s m args meth c) (hR : 0 ≤ R.frames ∧ 0 ≤ R.locals) : ∀ (o0 a0 : Nat) (x1 : Int32) (x2 : Int32) (H : Heap) (locs : List Loc) (ls : Array Slot), Is S ad o0 a0 8 → Wd G cA S D ad A s H locs → lv_has ls 5 [(0, .ref a0), (1, .int x1), (2, .int x2)] → f_X9_areKnown S D o0 x1 x2 = some r → W p l e R s m args below meth c H locs 0 0 (MQ below (Qn (some (.int r)) True (wpost G cA S D ad A) A) args s 0 0 A) (F0 m 0 ls []) := by
  obtain ⟨hx, hb, -⟩ := id hC
  intro o0 a0 x1 x2 H locs ls hi0 hw hl h
  unfold f_X9_areKnown at h
  refine lv_iconst (v := 1) hx hb dX9_areKnown_0 (by decide) ?_
  refine lv_topi (fun y22 ey22 => ?_)
  have h := nm_i h y22 ey22
  refine lv_istore_n (lv' := [(3, .int y22), (0, .ref a0), (1, .int x1), (2, .int x2)]) hx hb dX9_areKnown_1 rfl hl (by decide) rfl (fun ls hl => ?_)
  refine lv_iload_n hx hb dX9_areKnown_2 rfl (lv_at hl 2 rfl) ?_
  refine lv_istore (lv' := [(4, .int x1), (3, .int y22), (0, .ref a0), (1, .int x1), (2, .int x2)]) hx hb dX9_areKnown_3 hl (by decide) rfl (fun ls hl => ?_)
  exact w_X9_areKnown_5 hC hR LF o0 a0 x1 x2 y22 x1 _ _ _ hi0 hw (lv_sub hl [2, 3, 4, 1, 0] rfl) h
set_option maxHeartbeats 4000000 in
set_option maxRecDepth 100000 in
theorem k_X9_areKnown {l : Launch} {G : va_G} {cA : Nat → ClassId} {S : sh} {D : dt} {ad : Nat → Nat} (sz : Nat) {o0 a0 : Nat} {x1 : Int32} {x2 : Int32} {r : Int32} (hi0 : Is S ad o0 a0 8) (h : f_X9_areKnown S D o0 x1 x2 = some r) : Co l yX9_areKnown (Cond.code yX9_areKnown cX9_areKnown 5 (some .boolean) :: tb0) 0 0 [.ref a0, .int x1, .int x2] G cA S D ad sz (some (.int r)) True D := by
  refine Met.ofW (cc := cX9_areKnown) (maxL := 5) (ret := (some .boolean)) (by decide) rfl ?_
  intro p e s m args below meth c s₁ B hml hv
  obtain ⟨rfl, hsz, hP, hK, hD0, hT, hX⟩ := hv
  subst hsz
  have hts := atoms_spec (ws := Cond.code yX9_areKnown cX9_areKnown 5 (some .boolean) :: tb0) B.pre
  have hC : Cx RX9 cX9_areKnown 5 (some .boolean) p s m _ meth c := ⟨B.exec, B.bytes, hml, findClass_of_methodNamed B.named, fun w q => hts w (List.mem_cons_of_mem _ q), B.returns, B.notSynchronized⟩
  have hw := Wd.entry hP hK hD0 hT hX
  have hl := lv_entry ([.ref a0, .int x1, .int x2]) (n := 5) (Nat.le_of_ble_eq_true rfl)
  rw [lg_entry_eq]
  exact w_X9_areKnown_0 hC ⟨Nat.le_refl _, Nat.le_refl _⟩ o0 a0 x1 x2 _ _ _ hi0 hw hl h
set_option maxHeartbeats 4000000 in
set_option maxRecDepth 100000 in
theorem w_X9_reads_47 {r : Int32} (hC : Cx RX9 cX9_reads 5 (some .int) p s m args meth c) (hR : 1 ≤ R.frames ∧ 28 ≤ R.locals) : ∀ (x3 : Int32) (xs0 : Int32) (H : Heap) (locs : List Loc) (ls : Array Slot), Wd G cA S D ad A s H locs → lv_has ls 5 [(3, .int x3)] → f_X9_reads_47 S D x3 xs0 = some r → W p l e R s m args below meth c H locs 0 0 (MQ below (Qn (some (.int r)) True (wpost G cA S D ad A) A) args s 0 0 A) (F0 m 47 ls [.int xs0]) := by
  obtain ⟨hx, hb, -⟩ := id hC
  intro x3 xs0 H locs ls  hw hl h
  unfold f_X9_reads_47 at h
  refine lv_istore (lv' := [(4, .int xs0), (3, .int x3)]) hx hb dX9_reads_47 hl (by decide) rfl (fun ls hl => ?_)
  refine lv_iload hx hb dX9_reads_49 (lv_at hl 0 rfl) ?_
  refine lv_if_eq (tgt := 58) hx hb dX9_reads_51 (by decide) (fun c19 => ?_) (fun c19 => ?_)
  · have h := i_yes c19 h
    refine lv_iload_n hx hb dX9_reads_58 rfl (lv_at hl 1 rfl) ?_
    cases h
    exact r_iret hC hw dX9_reads_59
  · have h := i_no c19 h
    refine lv_iconst (v := 4) hx hb dX9_reads_54 (by decide) ?_
    refine lv_goto (tgt := 59) hx hb dX9_reads_55 (by decide) ?_
    cases h
    exact r_iret hC hw dX9_reads_59
set_option maxHeartbeats 4000000 in
set_option maxRecDepth 100000 in
theorem w_X9_reads_46 {r : Int32} (hC : Cx RX9 cX9_reads 5 (some .int) p s m args meth c) (hR : 1 ≤ R.frames ∧ 28 ≤ R.locals) : ∀ (x3 : Int32) (H : Heap) (locs : List Loc) (ls : Array Slot), Wd G cA S D ad A s H locs → lv_has ls 5 [(3, .int x3)] → f_X9_reads_46 S D x3 = some r → W p l e R s m args below meth c H locs 0 0 (MQ below (Qn (some (.int r)) True (wpost G cA S D ad A) A) args s 0 0 A) (F0 m 46 ls []) := by
  obtain ⟨hx, hb, -⟩ := id hC
  intro x3 H locs ls  hw hl h
  unfold f_X9_reads_46 at h
  refine lv_iconst (v := 0) hx hb dX9_reads_46 (by decide) ?_
  exact w_X9_reads_47 hC hR x3 (0 : Int32) _ _ _ hw (lv_sub hl [0] rfl) h
set_option maxHeartbeats 4000000 in
set_option maxRecDepth 100000 in
theorem w_X9_reads_0 {r : Int32} (hC : Cx RX9 cX9_reads 5 (some .int) p s m args meth c) (hR : 1 ≤ R.frames ∧ 28 ≤ R.locals) : ∀ (o0 a0 : Nat) (x1 : Int32) (x2 : Int32) (H : Heap) (locs : List Loc) (ls : Array Slot), Is S ad o0 a0 8 → Wd G cA S D ad A s H locs → lv_has ls 5 [(0, .ref a0), (1, .int x1), (2, .int x2)] → f_X9_reads S D o0 x1 x2 = some r → W p l e R s m args below meth c H locs 0 0 (MQ below (Qn (some (.int r)) True (wpost G cA S D ad A) A) args s 0 0 A) (F0 m 0 ls []) := by
  obtain ⟨hx, hb, -⟩ := id hC
  intro o0 a0 x1 x2 H locs ls hi0 hw hl h
  unfold f_X9_reads at h
  refine lv_aload_n hx hb dX9_reads_0 rfl (lv_at hl 0 rfl) ?_
  refine lv_iload_n hx hb dX9_reads_1 rfl (lv_at hl 1 rfl) ?_
  refine lv_iconst (v := 0) hx hb dX9_reads_2 (by decide) ?_
  refine lv_iload_n hx hb dX9_reads_3 rfl (lv_at hl 2 rfl) ?_
  refine lv_iconst (v := 0) hx hb dX9_reads_4 (by decide) ?_
  obtain ⟨r21, hq20, h⟩ := pq_i h
  refine r_cV (st' := [.int r21]) [.int x1, .int (0 : Int32), .int x2, .int (0 : Int32)] [] hC hw kc_8 hi0 (k_X9_access _ hi0 hq20) mk_X9_access lk_1561 ⟨Nat.le_trans (by decide) hR.1, Nat.le_trans (by decide) hR.2⟩ ⟨Nat.zero_le _, Nat.zero_le _⟩ rfl hl.1 rfl rfl (Nat.le_of_ble_eq_true rfl) dX9_reads_5 (fun hP H locs hw => ?_)
  refine lv_istore_n (lv' := [(3, .int r21), (0, .ref a0), (1, .int x1), (2, .int x2)]) hx hb dX9_reads_8 rfl hl (by decide) rfl (fun ls hl => ?_)
  refine lv_iload_n hx hb dX9_reads_9 rfl (lv_at hl 0 rfl) ?_
  refine lv_if_ne (tgt := 46) hx hb dX9_reads_10 (by decide) (fun c22 => ?_) (fun c22 => ?_)
  · have h := i_no c22 h
    exact w_X9_reads_46 hC hR r21 _ _ _ hw (lv_sub hl [0] rfl) h
  · have h := i_yes c22 h
    refine lv_aload_n hx hb dX9_reads_13 rfl (lv_at hl 1 rfl) ?_
    obtain ⟨o23, ho26, h⟩ := rq_i h
    refine r_getR hC hw kc_8 hi0 40 rfl lk_1112 dX9_reads_14 rfl ho26 (fun a24 hi25 => ?_)
    refine lv_iload_n hx hb dX9_reads_17 rfl (lv_at hl 2 rfl) ?_
    obtain ⟨hn27, h⟩ := ix_i h
    refine r_iald hC hw hi25 hn27 dX9_reads_18 ?_
    refine lv_iconst (v := 3) hx hb dX9_reads_19 (by decide) ?_
    refine lv_icmp_ne (tgt := 46) hx hb dX9_reads_20 (by decide) (fun c28 => ?_) (fun c28 => ?_)
    · have h := i_no c28 h
      exact w_X9_reads_46 hC hR r21 _ _ _ hw (lv_sub hl [0] rfl) h
    · have h := i_yes c28 h
      refine lv_aload_n hx hb dX9_reads_23 rfl (lv_at hl 1 rfl) ?_
      refine lv_aload_n hx hb dX9_reads_24 rfl (lv_at hl 1 rfl) ?_
      obtain ⟨o29, ho32, h⟩ := rq_i h
      refine r_getR hC hw kc_8 hi0 41 rfl lk_1113 dX9_reads_25 rfl ho32 (fun a30 hi31 => ?_)
      refine lv_iload_n hx hb dX9_reads_28 rfl (lv_at hl 2 rfl) ?_
      obtain ⟨hn33, h⟩ := ix_i h
      refine r_lald hC hw hi31 hn33 dX9_reads_29 ?_
      refine lv_l2i (v := (gL D o29 x1.toNatClampNeg).toInt32) hx hb dX9_reads_30 rfl ?_
      refine lv_sipush (v := 512) hx hb dX9_reads_31 (by decide) ?_
      refine lv_iadd hx hb dX9_reads_34 ?_
      refine lv_iload_n hx hb dX9_reads_35 rfl (lv_at hl 3 rfl) ?_
      obtain ⟨r35, hq34, h⟩ := pq_i h
      refine r_cV (st' := [.int r35]) [.int (((gL D o29 x1.toNatClampNeg).toInt32) + (512 : Int32)), .int x2] [] hC hw kc_8 hi0 (k_X9_areKnown _ hi0 hq34) mk_X9_areKnown lk_1566 ⟨Nat.le_trans (by decide) hR.1, Nat.le_trans (by decide) hR.2⟩ ⟨Nat.zero_le _, Nat.zero_le _⟩ rfl hl.1 rfl rfl (Nat.le_of_ble_eq_true rfl) dX9_reads_36 (fun hP H locs hw => ?_)
      refine lv_if_ne (tgt := 46) hx hb dX9_reads_39 (by decide) (fun c36 => ?_) (fun c36 => ?_)
      · have h := i_no c36 h
        exact w_X9_reads_46 hC hR r21 _ _ _ hw (lv_sub hl [0] rfl) h
      · have h := i_yes c36 h
        refine lv_iconst (v := 1) hx hb dX9_reads_42 (by decide) ?_
        refine lv_goto (tgt := 47) hx hb dX9_reads_43 (by decide) ?_
        exact w_X9_reads_47 hC hR r21 (1 : Int32) _ _ _ hw (lv_sub hl [0] rfl) h
set_option maxHeartbeats 4000000 in
set_option maxRecDepth 100000 in
theorem k_X9_reads {l : Launch} {G : va_G} {cA : Nat → ClassId} {S : sh} {D : dt} {ad : Nat → Nat} (sz : Nat) {o0 a0 : Nat} {x1 : Int32} {x2 : Int32} {r : Int32} (hi0 : Is S ad o0 a0 8) (h : f_X9_reads S D o0 x1 x2 = some r) : Co l yX9_reads (Cond.code yX9_reads cX9_reads 5 (some .int) :: tb0) 1 28 [.ref a0, .int x1, .int x2] G cA S D ad sz (some (.int r)) True D := by
  refine Met.ofW (cc := cX9_reads) (maxL := 5) (ret := (some .int)) (by decide) rfl ?_
  intro p e s m args below meth c s₁ B hml hv
  obtain ⟨rfl, hsz, hP, hK, hD0, hT, hX⟩ := hv
  subst hsz
  have hts := atoms_spec (ws := Cond.code yX9_reads cX9_reads 5 (some .int) :: tb0) B.pre
  have hC : Cx RX9 cX9_reads 5 (some .int) p s m _ meth c := ⟨B.exec, B.bytes, hml, findClass_of_methodNamed B.named, fun w q => hts w (List.mem_cons_of_mem _ q), B.returns, B.notSynchronized⟩
  have hw := Wd.entry hP hK hD0 hT hX
  have hl := lv_entry ([.ref a0, .int x1, .int x2]) (n := 5) (Nat.le_of_ble_eq_true rfl)
  rw [lg_entry_eq]
  exact w_X9_reads_0 hC ⟨Nat.le_refl _, Nat.le_refl _⟩ o0 a0 x1 x2 _ _ _ hi0 hw hl h
set_option maxHeartbeats 4000000 in
set_option maxRecDepth 100000 in
theorem w_X9_lookCall_229 {r : Int32} {D' : dt} (hC : Cx RX9 cX9_lookCall 7 (some .int) p s m args meth c) (hR : 2 ≤ R.frames ∧ 52 ≤ R.locals) : ∀ (n : Nat), ∀ (o0 a0 : Nat) (x5 : Int32) (D : dt) (H : Heap) (locs : List Loc) (ls : Array Slot), Is S ad o0 a0 8 → Wd G cA S D ad A s H locs → lv_has ls 7 [(0, .ref a0), (5, .int x5)] → f_X9_lookCall_229 S n o0 x5 D = some (r, D') → W p l e R s m args below meth c H locs 0 0 (MQ below (Qn (some (.int r)) True (wpost G cA S D' ad A) A) args s 0 0 A) (F0 m 229 ls []) := by
  obtain ⟨hx, hb, -⟩ := id hC
  intro n
  induction n with
  | zero =>
    intro o0 a0 x5 D H locs ls hi0 hw hl h
    rw [f_X9_lookCall_229.eq_1] at h
    cases h
  | succ n ih =>
    intro o0 a0 x5 D H locs ls hi0 hw hl h
    rw [f_X9_lookCall_229.eq_2] at h
    refine lv_iload hx hb dX9_lookCall_229 (lv_at hl 1 rfl) ?_
    refine lv_bipush (v := 6) hx hb dX9_lookCall_231 (by decide) ?_
    refine lv_icmp_ge (tgt := 248) hx hb dX9_lookCall_233 (by decide) (fun c88 => ?_) (fun c88 => ?_)
    · have h := i_yes c88 h
      refine lv_iconst (v := 0) hx hb dX9_lookCall_248 (by decide) ?_
      cases h
      exact r_iret hC hw dX9_lookCall_249
    · have h := i_no c88 h
      refine lv_aload_n hx hb dX9_lookCall_236 rfl (lv_at hl 0 rfl) ?_
      refine lv_iload hx hb dX9_lookCall_237 (lv_at hl 1 rfl) ?_
      obtain ⟨_, D90, hq89, h⟩ := cq_i h
      refine r_cV (st' := []) [.int x5] [] hC hw kc_8 hi0 (k_X9_forget _ hi0 hq89) mk_X9_forget lk_1454 ⟨Nat.le_trans (by decide) hR.1, Nat.le_trans (by decide) hR.2⟩ ⟨Nat.zero_le _, Nat.zero_le _⟩ rfl hl.1 rfl rfl (Nat.le_of_ble_eq_true rfl) dX9_lookCall_239 (fun hP H locs hw => ?_)
      obtain ⟨y91, ey91⟩ : ∃ z : Int32, z = x5 + 1 := ⟨_, rfl⟩
      have h := nm_i h y91 ey91
      refine lv_iinc (v := y91) (lv' := [(5, .int y91), (0, .ref a0)]) hx hb dX9_lookCall_242 hl (k := 1) rfl (by rw [ey91]; rfl) (by decide) rfl (fun ls hl => ?_)
      refine lv_goto (tgt := 229) hx hb dX9_lookCall_245 (by decide) ?_
      exact ih o0 a0 y91 _ _ _ _ hi0 hw (lv_sub hl [1, 0] rfl) h
set_option maxHeartbeats 4000000 in
set_option maxRecDepth 100000 in
theorem w_X9_lookCall_226 {r : Int32} {D' : dt} (hC : Cx RX9 cX9_lookCall 7 (some .int) p s m args meth c) (hR : 2 ≤ R.frames ∧ 52 ≤ R.locals) : ∀ (o0 a0 : Nat) (D : dt) (H : Heap) (locs : List Loc) (ls : Array Slot), Is S ad o0 a0 8 → Wd G cA S D ad A s H locs → lv_has ls 7 [(0, .ref a0)] → f_X9_lookCall_226 S o0 D = some (r, D') → W p l e R s m args below meth c H locs 0 0 (MQ below (Qn (some (.int r)) True (wpost G cA S D' ad A) A) args s 0 0 A) (F0 m 226 ls []) := by
  obtain ⟨hx, hb, -⟩ := id hC
  intro o0 a0 D H locs ls hi0 hw hl h
  unfold f_X9_lookCall_226 at h
  refine lv_iconst (v := 1) hx hb dX9_lookCall_226 (by decide) ?_
  refine lv_topi (fun y92 ey92 => ?_)
  have h := nm_i h y92 ey92
  refine lv_istore (lv' := [(5, .int y92), (0, .ref a0)]) hx hb dX9_lookCall_227 hl (by decide) rfl (fun ls hl => ?_)
  exact w_X9_lookCall_229 hC hR LF o0 a0 y92 _ _ _ _ hi0 hw (lv_sub hl [1, 0] rfl) h
set_option maxHeartbeats 4000000 in
set_option maxRecDepth 100000 in
theorem w_X9_lookCall_181 {r : Int32} {D' : dt} (hC : Cx RX9 cX9_lookCall 7 (some .int) p s m args meth c) (hR : 2 ≤ R.frames ∧ 52 ≤ R.locals) : ∀ (o0 a0 : Nat) (x1 : Int32) (x2 : Int32) (x4 : Int32) (D : dt) (H : Heap) (locs : List Loc) (ls : Array Slot), Is S ad o0 a0 8 → Wd G cA S D ad A s H locs → lv_has ls 7 [(0, .ref a0), (1, .int x1), (2, .int x2), (4, .int x4)] → f_X9_lookCall_181 S o0 x1 x2 x4 D = some (r, D') → W p l e R s m args below meth c H locs 0 0 (MQ below (Qn (some (.int r)) True (wpost G cA S D' ad A) A) args s 0 0 A) (F0 m 181 ls []) := by
  obtain ⟨hx, hb, -⟩ := id hC
  intro o0 a0 x1 x2 x4 D H locs ls hi0 hw hl h
  unfold f_X9_lookCall_181 at h
  refine lv_iload_n hx hb dX9_lookCall_181 rfl (lv_at hl 2 rfl) ?_
  refine lv_iconst (v := 1) hx hb dX9_lookCall_182 (by decide) ?_
  refine lv_icmp_ne (tgt := 217) hx hb dX9_lookCall_183 (by decide) (fun c93 => ?_) (fun c93 => ?_)
  · have h := i_no c93 h
    refine lv_aload_n hx hb dX9_lookCall_217 rfl (lv_at hl 0 rfl) ?_
    refine lv_iconst (v := 0) hx hb dX9_lookCall_218 (by decide) ?_
    refine lv_lconst (v := 0) hx hb dX9_lookCall_219 (by decide) ?_
    refine lv_ldc2 (v := (-1)) hx hb hC.2.2.2.1 (hC.2.2.2.2.1 _ lk_1365) dX9_lookCall_220 ?_
    obtain ⟨_, D95, hq94, h⟩ := cq_i h
    refine r_cV (st' := []) [.int (0 : Int32), .long (0 : Int64), .long (-1 : Int64)] [] hC hw kc_8 hi0 (k_X9_number _ hi0 hq94) mk_X9_number lk_1496 ⟨Nat.le_trans (by decide) hR.1, Nat.le_trans (by decide) hR.2⟩ ⟨Nat.zero_le _, Nat.zero_le _⟩ rfl hl.1 rfl rfl (Nat.le_of_ble_eq_true rfl) dX9_lookCall_223 (fun hP H locs hw => ?_)
    exact w_X9_lookCall_226 hC hR o0 a0 _ _ _ _ hi0 hw (lv_sub hl [0] rfl) h
  · have h := i_yes c93 h
    refine lv_aload_n hx hb dX9_lookCall_186 rfl (lv_at hl 0 rfl) ?_
    refine lv_iconst (v := 0) hx hb dX9_lookCall_187 (by decide) ?_
    obtain ⟨_, D97, hq96, h⟩ := cq_i h
    refine r_cV (st' := []) [.int (0 : Int32)] [] hC hw kc_8 hi0 (k_X9_forget _ hi0 hq96) mk_X9_forget lk_1454 ⟨Nat.le_trans (by decide) hR.1, Nat.le_trans (by decide) hR.2⟩ ⟨Nat.zero_le _, Nat.zero_le _⟩ rfl hl.1 rfl rfl (Nat.le_of_ble_eq_true rfl) dX9_lookCall_188 (fun hP H locs hw => ?_)
    refine lv_aload_n hx hb dX9_lookCall_191 rfl (lv_at hl 0 rfl) ?_
    obtain ⟨o98, ho101, h⟩ := rq_i h
    refine r_getR hC hw kc_8 hi0 40 rfl lk_1112 dX9_lookCall_192 rfl ho101 (fun a99 hi100 => ?_)
    refine lv_iconst (v := 0) hx hb dX9_lookCall_195 (by decide) ?_
    refine lv_bipush (v := 6) hx hb dX9_lookCall_196 (by decide) ?_
    obtain ⟨hn102, h⟩ := ix_i h
    refine r_ias hC hw hi100 hn102 dX9_lookCall_198 (fun D103 eD103 H locs hw => ?_)
    have h := nm_i h D103 eD103
    refine lv_aload_n hx hb dX9_lookCall_199 rfl (lv_at hl 0 rfl) ?_
    obtain ⟨o104, ho107, h⟩ := rq_i h
    refine r_getR hC hw kc_8 hi0 43 rfl lk_1115 dX9_lookCall_200 rfl ho107 (fun a105 hi106 => ?_)
    refine lv_iconst (v := 0) hx hb dX9_lookCall_203 (by decide) ?_
    refine lv_iload hx hb dX9_lookCall_204 (lv_at hl 3 rfl) ?_
    obtain ⟨hn108, h⟩ := ix_i h
    refine r_ias hC hw hi106 hn108 dX9_lookCall_206 (fun D109 eD109 H locs hw => ?_)
    have h := nm_i h D109 eD109
    refine lv_aload_n hx hb dX9_lookCall_207 rfl (lv_at hl 0 rfl) ?_
    obtain ⟨o110, ho113, h⟩ := rq_i h
    refine r_getR hC hw kc_8 hi0 44 rfl lk_1116 dX9_lookCall_208 rfl ho113 (fun a111 hi112 => ?_)
    refine lv_iconst (v := 0) hx hb dX9_lookCall_211 (by decide) ?_
    refine lv_iload_n hx hb dX9_lookCall_212 rfl (lv_at hl 1 rfl) ?_
    obtain ⟨hn114, h⟩ := ix_i h
    refine r_ias hC hw hi112 hn114 dX9_lookCall_213 (fun D115 eD115 H locs hw => ?_)
    have h := nm_i h D115 eD115
    refine lv_goto (tgt := 226) hx hb dX9_lookCall_214 (by decide) ?_
    exact w_X9_lookCall_226 hC hR o0 a0 _ _ _ _ hi0 hw (lv_sub hl [0] rfl) h
set_option maxHeartbeats 4000000 in
set_option maxRecDepth 100000 in
theorem w_X9_lookCall_169 {r : Int32} {D' : dt} (hC : Cx RX9 cX9_lookCall 7 (some .int) p s m args meth c) (hR : 2 ≤ R.frames ∧ 52 ≤ R.locals) : ∀ (o0 a0 : Nat) (x1 : Int32) (x2 : Int32) (x4 : Int32) (x5 : Int32) (x6 : Int32) (D : dt) (H : Heap) (locs : List Loc) (ls : Array Slot), Is S ad o0 a0 8 → Wd G cA S D ad A s H locs → lv_has ls 7 [(0, .ref a0), (1, .int x1), (2, .int x2), (4, .int x4), (5, .int x5), (6, .int x6)] → f_X9_lookCall_169 S o0 x1 x2 x4 x5 x6 D = some (r, D') → W p l e R s m args below meth c H locs 0 0 (MQ below (Qn (some (.int r)) True (wpost G cA S D' ad A) A) args s 0 0 A) (F0 m 169 ls []) := by
  obtain ⟨hx, hb, -⟩ := id hC
  intro o0 a0 x1 x2 x4 x5 x6 D H locs ls hi0 hw hl h
  unfold f_X9_lookCall_169 at h
  refine lv_iload hx hb dX9_lookCall_169 (lv_at hl 4 rfl) ?_
  refine lv_if_gt (tgt := 179) hx hb dX9_lookCall_171 (by decide) (fun c116 => ?_) (fun c116 => ?_)
  · have h := i_yes c116 h
    refine lv_iconst (v := 4) hx hb dX9_lookCall_179 (by decide) ?_
    cases h
    exact r_iret hC hw dX9_lookCall_180
  · have h := i_no c116 h
    refine lv_iload hx hb dX9_lookCall_174 (lv_at hl 5 rfl) ?_
    refine lv_if_le (tgt := 181) hx hb dX9_lookCall_176 (by decide) (fun c117 => ?_) (fun c117 => ?_)
    · have h := i_yes c117 h
      exact w_X9_lookCall_181 hC hR o0 a0 x1 x2 x4 _ _ _ _ hi0 hw (lv_sub hl [0, 1, 2, 3] rfl) h
    · have h := i_no c117 h
      refine lv_iconst (v := 4) hx hb dX9_lookCall_179 (by decide) ?_
      cases h
      exact r_iret hC hw dX9_lookCall_180
set_option maxHeartbeats 4000000 in
set_option maxRecDepth 100000 in
theorem w_X9_lookCall_138 {r : Int32} {D' : dt} (hC : Cx RX9 cX9_lookCall 7 (some .int) p s m args meth c) (hR : 2 ≤ R.frames ∧ 52 ≤ R.locals) : ∀ (o0 a0 : Nat) (x1 : Int32) (x2 : Int32) (x4 : Int32) (x5 : Int32) (xs0 : Int32) (D : dt) (H : Heap) (locs : List Loc) (ls : Array Slot), Is S ad o0 a0 8 → Wd G cA S D ad A s H locs → lv_has ls 7 [(0, .ref a0), (1, .int x1), (2, .int x2), (4, .int x4), (5, .int x5)] → f_X9_lookCall_138 S o0 x1 x2 x4 x5 xs0 D = some (r, D') → W p l e R s m args below meth c H locs 0 0 (MQ below (Qn (some (.int r)) True (wpost G cA S D' ad A) A) args s 0 0 A) (F0 m 138 ls [.int xs0]) := by
  obtain ⟨hx, hb, -⟩ := id hC
  intro o0 a0 x1 x2 x4 x5 xs0 D H locs ls hi0 hw hl h
  unfold f_X9_lookCall_138 at h
  refine lv_istore (lv' := [(6, .int xs0), (0, .ref a0), (1, .int x1), (2, .int x2), (4, .int x4), (5, .int x5)]) hx hb dX9_lookCall_138 hl (by decide) rfl (fun ls hl => ?_)
  refine lv_iload hx hb dX9_lookCall_140 (lv_at hl 5 rfl) ?_
  refine lv_iconst (v := 3) hx hb dX9_lookCall_142 (by decide) ?_
  refine lv_icmp_eq (tgt := 167) hx hb dX9_lookCall_143 (by decide) (fun c118 => ?_) (fun c118 => ?_)
  · have h := i_yes c118 h
    refine lv_iconst (v := 3) hx hb dX9_lookCall_167 (by decide) ?_
    cases h
    exact r_iret hC hw dX9_lookCall_168
  · have h := i_no c118 h
    refine lv_iload hx hb dX9_lookCall_146 (lv_at hl 0 rfl) ?_
    refine lv_iconst (v := 3) hx hb dX9_lookCall_148 (by decide) ?_
    refine lv_icmp_eq (tgt := 167) hx hb dX9_lookCall_149 (by decide) (fun c119 => ?_) (fun c119 => ?_)
    · have h := i_yes c119 h
      refine lv_iconst (v := 3) hx hb dX9_lookCall_167 (by decide) ?_
      cases h
      exact r_iret hC hw dX9_lookCall_168
    · have h := i_no c119 h
      refine lv_iload_n hx hb dX9_lookCall_152 rfl (lv_at hl 3 rfl) ?_
      refine lv_iconst (v := 2) hx hb dX9_lookCall_153 (by decide) ?_
      refine lv_icmp_ne (tgt := 169) hx hb dX9_lookCall_154 (by decide) (fun c120 => ?_) (fun c120 => ?_)
      · have h := i_no c120 h
        exact w_X9_lookCall_169 hC hR o0 a0 x1 x2 x4 x5 xs0 _ _ _ _ hi0 hw (lv_sub hl [1, 2, 3, 4, 5, 0] rfl) h
      · have h := i_yes c120 h
        refine lv_aload_n hx hb dX9_lookCall_157 rfl (lv_at hl 1 rfl) ?_
        obtain ⟨o121, ho124, h⟩ := rq_i h
        refine r_getR hC hw kc_8 hi0 40 rfl lk_1112 dX9_lookCall_158 rfl ho124 (fun a122 hi123 => ?_)
        refine lv_iconst (v := 4) hx hb dX9_lookCall_161 (by decide) ?_
        obtain ⟨hn125, h⟩ := ix_i h
        refine r_iald hC hw hi123 hn125 dX9_lookCall_162 ?_
        refine lv_iconst (v := 1) hx hb dX9_lookCall_163 (by decide) ?_
        refine lv_icmp_eq (tgt := 169) hx hb dX9_lookCall_164 (by decide) (fun c126 => ?_) (fun c126 => ?_)
        · have h := i_yes c126 h
          exact w_X9_lookCall_169 hC hR o0 a0 x1 x2 x4 x5 xs0 _ _ _ _ hi0 hw (lv_sub hl [1, 2, 3, 4, 5, 0] rfl) h
        · have h := i_no c126 h
          refine lv_iconst (v := 3) hx hb dX9_lookCall_167 (by decide) ?_
          cases h
          exact r_iret hC hw dX9_lookCall_168
set_option maxHeartbeats 4000000 in
set_option maxRecDepth 100000 in
theorem w_X9_lookCall_98 {r : Int32} {D' : dt} (hC : Cx RX9 cX9_lookCall 7 (some .int) p s m args meth c) (hR : 2 ≤ R.frames ∧ 52 ≤ R.locals) : ∀ (o0 a0 : Nat) (x1 : Int32) (x2 : Int32) (x4 : Int32) (D : dt) (H : Heap) (locs : List Loc) (ls : Array Slot), Is S ad o0 a0 8 → Wd G cA S D ad A s H locs → lv_has ls 7 [(0, .ref a0), (1, .int x1), (2, .int x2), (4, .int x4)] → f_X9_lookCall_98 S o0 x1 x2 x4 D = some (r, D') → W p l e R s m args below meth c H locs 0 0 (MQ below (Qn (some (.int r)) True (wpost G cA S D' ad A) A) args s 0 0 A) (F0 m 98 ls []) := by
  obtain ⟨hx, hb, -⟩ := id hC
  intro o0 a0 x1 x2 x4 D H locs ls hi0 hw hl h
  unfold f_X9_lookCall_98 at h
  refine lv_iload_n hx hb dX9_lookCall_98 rfl (lv_at hl 2 rfl) ?_
  refine lv_iconst (v := 4) hx hb dX9_lookCall_99 (by decide) ?_
  refine lv_icmp_ge (tgt := 181) hx hb dX9_lookCall_100 (by decide) (fun c127 => ?_) (fun c127 => ?_)
  · have h := i_yes c127 h
    exact w_X9_lookCall_181 hC hR o0 a0 x1 x2 x4 _ _ _ _ hi0 hw (lv_sub hl [0, 1, 2, 3] rfl) h
  · have h := i_no c127 h
    refine lv_aload_n hx hb dX9_lookCall_103 rfl (lv_at hl 0 rfl) ?_
    refine lv_iconst (v := 2) hx hb dX9_lookCall_104 (by decide) ?_
    refine lv_aload_n hx hb dX9_lookCall_105 rfl (lv_at hl 0 rfl) ?_
    obtain ⟨o128, ho131, h⟩ := rq_i h
    refine r_getR hC hw kc_8 hi0 11 rfl lk_1083 dX9_lookCall_106 rfl ho131 (fun a129 hi130 => ?_)
    refine lv_iload hx hb dX9_lookCall_109 (lv_at hl 3 rfl) ?_
    obtain ⟨hn132, h⟩ := ix_i h
    refine r_iald hC hw hi130 hn132 dX9_lookCall_111 ?_
    obtain ⟨r134, hq133, h⟩ := pq_i h
    refine r_cV (st' := [.int r134]) [.int (2 : Int32), .int (gI D o128 x4.toNatClampNeg)] [] hC hw kc_8 hi0 (k_X9_reads _ hi0 hq133) mk_X9_reads lk_1557 ⟨Nat.le_trans (by decide) hR.1, Nat.le_trans (by decide) hR.2⟩ ⟨Nat.zero_le _, Nat.zero_le _⟩ rfl hl.1 rfl rfl (Nat.le_of_ble_eq_true rfl) dX9_lookCall_112 (fun hP H locs hw => ?_)
    refine lv_istore (lv' := [(5, .int r134), (0, .ref a0), (1, .int x1), (2, .int x2), (4, .int x4)]) hx hb dX9_lookCall_115 hl (by decide) rfl (fun ls hl => ?_)
    refine lv_iload_n hx hb dX9_lookCall_117 rfl (lv_at hl 3 rfl) ?_
    refine lv_iconst (v := 2) hx hb dX9_lookCall_118 (by decide) ?_
    refine lv_icmp_ne (tgt := 137) hx hb dX9_lookCall_119 (by decide) (fun c135 => ?_) (fun c135 => ?_)
    · have h := i_no c135 h
      refine lv_iconst (v := 0) hx hb dX9_lookCall_137 (by decide) ?_
      exact w_X9_lookCall_138 hC hR o0 a0 x1 x2 x4 r134 (0 : Int32) _ _ _ _ hi0 hw (lv_sub hl [1, 2, 3, 4, 0] rfl) h
    · have h := i_yes c135 h
      refine lv_aload_n hx hb dX9_lookCall_122 rfl (lv_at hl 1 rfl) ?_
      refine lv_iconst (v := 3) hx hb dX9_lookCall_123 (by decide) ?_
      refine lv_aload_n hx hb dX9_lookCall_124 rfl (lv_at hl 1 rfl) ?_
      obtain ⟨o136, ho139, h⟩ := rq_i h
      refine r_getR hC hw kc_8 hi0 12 rfl lk_1084 dX9_lookCall_125 rfl ho139 (fun a137 hi138 => ?_)
      refine lv_iload hx hb dX9_lookCall_128 (lv_at hl 4 rfl) ?_
      obtain ⟨hn140, h⟩ := ix_i h
      refine r_iald hC hw hi138 hn140 dX9_lookCall_130 ?_
      obtain ⟨r142, hq141, h⟩ := pq_i h
      refine r_cV (st' := [.int r142]) [.int (3 : Int32), .int (gI D o136 x4.toNatClampNeg)] [] hC hw kc_8 hi0 (k_X9_reads _ hi0 hq141) mk_X9_reads lk_1557 ⟨Nat.le_trans (by decide) hR.1, Nat.le_trans (by decide) hR.2⟩ ⟨Nat.zero_le _, Nat.zero_le _⟩ rfl hl.1 rfl rfl (Nat.le_of_ble_eq_true rfl) dX9_lookCall_131 (fun hP H locs hw => ?_)
      refine lv_goto (tgt := 138) hx hb dX9_lookCall_134 (by decide) ?_
      exact w_X9_lookCall_138 hC hR o0 a0 x1 x2 x4 r134 r142 _ _ _ _ hi0 hw (lv_sub hl [1, 2, 3, 4, 0] rfl) h
set_option maxHeartbeats 4000000 in
set_option maxRecDepth 100000 in
theorem w_X9_lookCall_81 {r : Int32} {D' : dt} (hC : Cx RX9 cX9_lookCall 7 (some .int) p s m args meth c) (hR : 2 ≤ R.frames ∧ 52 ≤ R.locals) : ∀ (o0 a0 : Nat) (x1 : Int32) (x2 : Int32) (x4 : Int32) (D : dt) (H : Heap) (locs : List Loc) (ls : Array Slot), Is S ad o0 a0 8 → Wd G cA S D ad A s H locs → lv_has ls 7 [(0, .ref a0), (1, .int x1), (2, .int x2), (4, .int x4)] → f_X9_lookCall_81 S o0 x1 x2 x4 D = some (r, D') → W p l e R s m args below meth c H locs 0 0 (MQ below (Qn (some (.int r)) True (wpost G cA S D' ad A) A) args s 0 0 A) (F0 m 81 ls []) := by
  obtain ⟨hx, hb, -⟩ := id hC
  intro o0 a0 x1 x2 x4 D H locs ls hi0 hw hl h
  unfold f_X9_lookCall_81 at h
  refine lv_iload_n hx hb dX9_lookCall_81 rfl (lv_at hl 2 rfl) ?_
  refine lv_iconst (v := 4) hx hb dX9_lookCall_82 (by decide) ?_
  refine lv_icmp_ge (tgt := 98) hx hb dX9_lookCall_83 (by decide) (fun c143 => ?_) (fun c143 => ?_)
  · have h := i_yes c143 h
    exact w_X9_lookCall_98 hC hR o0 a0 x1 x2 x4 _ _ _ _ hi0 hw (lv_sub hl [0, 1, 2, 3] rfl) h
  · have h := i_no c143 h
    refine lv_aload_n hx hb dX9_lookCall_86 rfl (lv_at hl 0 rfl) ?_
    obtain ⟨o144, ho147, h⟩ := rq_i h
    refine r_getR hC hw kc_8 hi0 40 rfl lk_1112 dX9_lookCall_87 rfl ho147 (fun a145 hi146 => ?_)
    refine lv_iconst (v := 1) hx hb dX9_lookCall_90 (by decide) ?_
    obtain ⟨hn148, h⟩ := ix_i h
    refine r_iald hC hw hi146 hn148 dX9_lookCall_91 ?_
    refine lv_iconst (v := 4) hx hb dX9_lookCall_92 (by decide) ?_
    refine lv_icmp_eq (tgt := 98) hx hb dX9_lookCall_93 (by decide) (fun c149 => ?_) (fun c149 => ?_)
    · have h := i_yes c149 h
      exact w_X9_lookCall_98 hC hR o0 a0 x1 x2 x4 _ _ _ _ hi0 hw (lv_sub hl [0, 1, 2, 3] rfl) h
    · have h := i_no c149 h
      refine lv_iconst (v := 3) hx hb dX9_lookCall_96 (by decide) ?_
      cases h
      exact r_iret hC hw dX9_lookCall_97
set_option maxHeartbeats 4000000 in
set_option maxRecDepth 100000 in
theorem w_X9_lookCall_33 {r : Int32} {D' : dt} (hC : Cx RX9 cX9_lookCall 7 (some .int) p s m args meth c) (hR : 2 ≤ R.frames ∧ 52 ≤ R.locals) : ∀ (n : Nat), ∀ (o0 a0 : Nat) (x1 : Int32) (x2 : Int32) (x3 : Int32) (x4 : Int32) (D : dt) (H : Heap) (locs : List Loc) (ls : Array Slot), Is S ad o0 a0 8 → Wd G cA S D ad A s H locs → lv_has ls 7 [(0, .ref a0), (1, .int x1), (2, .int x2), (3, .int x3), (4, .int x4)] → f_X9_lookCall_33 S n o0 x1 x2 x3 x4 D = some (r, D') → W p l e R s m args below meth c H locs 0 0 (MQ below (Qn (some (.int r)) True (wpost G cA S D' ad A) A) args s 0 0 A) (F0 m 33 ls []) := by
  obtain ⟨hx, hb, -⟩ := id hC
  intro n
  induction n with
  | zero =>
    intro o0 a0 x1 x2 x3 x4 D H locs ls hi0 hw hl h
    rw [f_X9_lookCall_33.eq_1] at h
    cases h
  | succ n ih =>
    intro o0 a0 x1 x2 x3 x4 D H locs ls hi0 hw hl h
    rw [f_X9_lookCall_33.eq_2] at h
    refine lv_iload hx hb dX9_lookCall_33 (lv_at hl 4 rfl) ?_
    refine lv_iload_n hx hb dX9_lookCall_35 rfl (lv_at hl 3 rfl) ?_
    refine lv_icmp_gt (tgt := 57) hx hb dX9_lookCall_36 (by decide) (fun c150 => ?_) (fun c150 => ?_)
    · have h := i_yes c150 h
      refine lv_aload_n hx hb dX9_lookCall_57 rfl (lv_at hl 0 rfl) ?_
      obtain ⟨o151, ho154, h⟩ := rq_i h
      refine r_getR hC hw kc_8 hi0 43 rfl lk_1115 dX9_lookCall_58 rfl ho154 (fun a152 hi153 => ?_)
      refine lv_iconst (v := 1) hx hb dX9_lookCall_61 (by decide) ?_
      obtain ⟨hn155, h⟩ := ix_i h
      refine r_iald hC hw hi153 hn155 dX9_lookCall_62 ?_
      refine lv_topi (fun y156 ey156 => ?_)
      have h := nm_i h y156 ey156
      refine lv_istore (lv' := [(4, .int y156), (0, .ref a0), (1, .int x1), (2, .int x2), (3, .int x3)]) hx hb dX9_lookCall_63 hl (by decide) rfl (fun ls hl => ?_)
      refine lv_iload_n hx hb dX9_lookCall_65 rfl (lv_at hl 3 rfl) ?_
      refine lv_bipush (v := 6) hx hb dX9_lookCall_66 (by decide) ?_
      refine lv_icmp_ne (tgt := 81) hx hb dX9_lookCall_68 (by decide) (fun c157 => ?_) (fun c157 => ?_)
      · have h := i_no c157 h
        exact w_X9_lookCall_81 hC hR o0 a0 x1 x2 y156 _ _ _ _ hi0 hw (lv_sub hl [1, 2, 3, 0] rfl) h
      · have h := i_yes c157 h
        refine lv_aload_n hx hb dX9_lookCall_71 rfl (lv_at hl 1 rfl) ?_
        obtain ⟨o158, ho161, h⟩ := rq_i h
        refine r_getR hC hw kc_8 hi0 40 rfl lk_1112 dX9_lookCall_72 rfl ho161 (fun a159 hi160 => ?_)
        refine lv_iconst (v := 1) hx hb dX9_lookCall_75 (by decide) ?_
        obtain ⟨hn162, h⟩ := ix_i h
        refine r_iald hC hw hi160 hn162 dX9_lookCall_76 ?_
        refine lv_iconst (v := 1) hx hb dX9_lookCall_77 (by decide) ?_
        refine lv_icmp_ne (tgt := 96) hx hb dX9_lookCall_78 (by decide) (fun c163 => ?_) (fun c163 => ?_)
        · have h := i_no c163 h
          refine lv_iconst (v := 3) hx hb dX9_lookCall_96 (by decide) ?_
          cases h
          exact r_iret hC hw dX9_lookCall_97
        · have h := i_yes c163 h
          exact w_X9_lookCall_81 hC hR o0 a0 x1 x2 y156 _ _ _ _ hi0 hw (lv_sub hl [1, 2, 3, 0] rfl) h
    · have h := i_no c150 h
      refine lv_aload_n hx hb dX9_lookCall_39 rfl (lv_at hl 0 rfl) ?_
      obtain ⟨o164, ho167, h⟩ := rq_i h
      refine r_getR hC hw kc_8 hi0 40 rfl lk_1112 dX9_lookCall_40 rfl ho167 (fun a165 hi166 => ?_)
      refine lv_iload hx hb dX9_lookCall_43 (lv_at hl 4 rfl) ?_
      obtain ⟨hn168, h⟩ := ix_i h
      refine r_iald hC hw hi166 hn168 dX9_lookCall_45 ?_
      refine lv_if_ne (tgt := 51) hx hb dX9_lookCall_46 (by decide) (fun c169 => ?_) (fun c169 => ?_)
      · have h := i_no c169 h
        obtain ⟨y170, ey170⟩ : ∃ z : Int32, z = x4 + 1 := ⟨_, rfl⟩
        have h := nm_i h y170 ey170
        refine lv_iinc (v := y170) (lv' := [(4, .int y170), (0, .ref a0), (1, .int x1), (2, .int x2), (3, .int x3)]) hx hb dX9_lookCall_51 hl (k := 4) rfl (by rw [ey170]; rfl) (by decide) rfl (fun ls hl => ?_)
        refine lv_goto (tgt := 33) hx hb dX9_lookCall_54 (by decide) ?_
        exact ih o0 a0 x1 x2 x3 y170 _ _ _ _ hi0 hw (lv_sub hl [1, 2, 3, 4, 0] rfl) h
      · have h := i_yes c169 h
        refine lv_iconst (v := 2) hx hb dX9_lookCall_49 (by decide) ?_
        cases h
        exact r_iret hC hw dX9_lookCall_50
set_option maxHeartbeats 4000000 in
set_option maxRecDepth 100000 in
theorem w_X9_lookCall_29 {r : Int32} {D' : dt} (hC : Cx RX9 cX9_lookCall 7 (some .int) p s m args meth c) (hR : 2 ≤ R.frames ∧ 52 ≤ R.locals) : ∀ (o0 a0 : Nat) (x1 : Int32) (x2 : Int32) (xs0 : Int32) (D : dt) (H : Heap) (locs : List Loc) (ls : Array Slot), Is S ad o0 a0 8 → Wd G cA S D ad A s H locs → lv_has ls 7 [(0, .ref a0), (1, .int x1), (2, .int x2)] → f_X9_lookCall_29 S o0 x1 x2 xs0 D = some (r, D') → W p l e R s m args below meth c H locs 0 0 (MQ below (Qn (some (.int r)) True (wpost G cA S D' ad A) A) args s 0 0 A) (F0 m 29 ls [.int xs0]) := by
  obtain ⟨hx, hb, -⟩ := id hC
  intro o0 a0 x1 x2 xs0 D H locs ls hi0 hw hl h
  unfold f_X9_lookCall_29 at h
  refine lv_istore_n (lv' := [(3, .int xs0), (0, .ref a0), (1, .int x1), (2, .int x2)]) hx hb dX9_lookCall_29 rfl hl (by decide) rfl (fun ls hl => ?_)
  refine lv_iconst (v := 1) hx hb dX9_lookCall_30 (by decide) ?_
  refine lv_topi (fun y171 ey171 => ?_)
  have h := nm_i h y171 ey171
  refine lv_istore (lv' := [(4, .int y171), (3, .int xs0), (0, .ref a0), (1, .int x1), (2, .int x2)]) hx hb dX9_lookCall_31 hl (by decide) rfl (fun ls hl => ?_)
  exact w_X9_lookCall_33 hC hR LF o0 a0 x1 x2 xs0 y171 _ _ _ _ hi0 hw (lv_sub hl [2, 3, 4, 1, 0] rfl) h
set_option maxHeartbeats 4000000 in
set_option maxRecDepth 100000 in
theorem w_X9_lookCall_0 {r : Int32} {D' : dt} (hC : Cx RX9 cX9_lookCall 7 (some .int) p s m args meth c) (hR : 2 ≤ R.frames ∧ 52 ≤ R.locals) : ∀ (o0 a0 : Nat) (x1 : Int32) (x2 : Int32) (D : dt) (H : Heap) (locs : List Loc) (ls : Array Slot), Is S ad o0 a0 8 → Wd G cA S D ad A s H locs → lv_has ls 7 [(0, .ref a0), (1, .int x1), (2, .int x2)] → f_X9_lookCall S o0 x1 x2 D = some (r, D') → W p l e R s m args below meth c H locs 0 0 (MQ below (Qn (some (.int r)) True (wpost G cA S D' ad A) A) args s 0 0 A) (F0 m 0 ls []) := by
  obtain ⟨hx, hb, -⟩ := id hC
  intro o0 a0 x1 x2 D H locs ls hi0 hw hl h
  unfold f_X9_lookCall at h
  refine lv_iload_n hx hb dX9_lookCall_0 rfl (lv_at hl 2 rfl) ?_
  refine lv_iconst (v := 2) hx hb dX9_lookCall_1 (by decide) ?_
  refine lv_icmp_ne (tgt := 9) hx hb dX9_lookCall_2 (by decide) (fun c172 => ?_) (fun c172 => ?_)
  · have h := i_no c172 h
    refine lv_iload_n hx hb dX9_lookCall_9 rfl (lv_at hl 2 rfl) ?_
    refine lv_iconst (v := 5) hx hb dX9_lookCall_10 (by decide) ?_
    refine lv_icmp_ne (tgt := 18) hx hb dX9_lookCall_11 (by decide) (fun c173 => ?_) (fun c173 => ?_)
    · have h := i_no c173 h
      refine lv_iload_n hx hb dX9_lookCall_18 rfl (lv_at hl 2 rfl) ?_
      refine lv_bipush (v := 6) hx hb dX9_lookCall_19 (by decide) ?_
      refine lv_icmp_ne (tgt := 28) hx hb dX9_lookCall_21 (by decide) (fun c174 => ?_) (fun c174 => ?_)
      · have h := i_no c174 h
        refine lv_iconst (v := 2) hx hb dX9_lookCall_28 (by decide) ?_
        exact w_X9_lookCall_29 hC hR o0 a0 x1 x2 (2 : Int32) _ _ _ _ hi0 hw (lv_sub hl [0, 1, 2] rfl) h
      · have h := i_yes c174 h
        refine lv_iconst (v := 1) hx hb dX9_lookCall_24 (by decide) ?_
        refine lv_goto (tgt := 29) hx hb dX9_lookCall_25 (by decide) ?_
        exact w_X9_lookCall_29 hC hR o0 a0 x1 x2 (1 : Int32) _ _ _ _ hi0 hw (lv_sub hl [0, 1, 2] rfl) h
    · have h := i_yes c173 h
      refine lv_iconst (v := 0) hx hb dX9_lookCall_14 (by decide) ?_
      refine lv_goto (tgt := 29) hx hb dX9_lookCall_15 (by decide) ?_
      exact w_X9_lookCall_29 hC hR o0 a0 x1 x2 (0 : Int32) _ _ _ _ hi0 hw (lv_sub hl [0, 1, 2] rfl) h
  · have h := i_yes c172 h
    refine lv_iconst (v := 4) hx hb dX9_lookCall_5 (by decide) ?_
    refine lv_goto (tgt := 29) hx hb dX9_lookCall_6 (by decide) ?_
    exact w_X9_lookCall_29 hC hR o0 a0 x1 x2 (4 : Int32) _ _ _ _ hi0 hw (lv_sub hl [0, 1, 2] rfl) h
set_option maxHeartbeats 4000000 in
set_option maxRecDepth 100000 in
theorem k_X9_lookCall {l : Launch} {G : va_G} {cA : Nat → ClassId} {S : sh} {D D' : dt} {ad : Nat → Nat} (sz : Nat) {o0 a0 : Nat} {x1 : Int32} {x2 : Int32} {r : Int32} (hi0 : Is S ad o0 a0 8) (h : f_X9_lookCall S o0 x1 x2 D = some (r, D')) : Co l yX9_lookCall (Cond.code yX9_lookCall cX9_lookCall 7 (some .int) :: tb0) 2 52 [.ref a0, .int x1, .int x2] G cA S D ad sz (some (.int r)) True D' := by
  refine Met.ofW (cc := cX9_lookCall) (maxL := 7) (ret := (some .int)) (by decide) rfl ?_
  intro p e s m args below meth c s₁ B hml hv
  obtain ⟨rfl, hsz, hP, hK, hD0, hT, hX⟩ := hv
  subst hsz
  have hts := atoms_spec (ws := Cond.code yX9_lookCall cX9_lookCall 7 (some .int) :: tb0) B.pre
  have hC : Cx RX9 cX9_lookCall 7 (some .int) p s m _ meth c := ⟨B.exec, B.bytes, hml, findClass_of_methodNamed B.named, fun w q => hts w (List.mem_cons_of_mem _ q), B.returns, B.notSynchronized⟩
  have hw := Wd.entry hP hK hD0 hT hX
  have hl := lv_entry ([.ref a0, .int x1, .int x2]) (n := 7) (Nat.le_of_ble_eq_true rfl)
  rw [lg_entry_eq]
  exact w_X9_lookCall_0 hC ⟨Nat.le_refl _, Nat.le_refl _⟩ o0 a0 x1 x2 D _ _ _ hi0 hw hl h
set_option maxHeartbeats 4000000 in
set_option maxRecDepth 100000 in
theorem w_X9_mostOf_0 {r : Int64} (hC : Cx RX9 cX9_mostOf 1 (some .long) p s m args meth c) (hR : 0 ≤ R.frames ∧ 0 ≤ R.locals) : ∀ (x0 : Int32) (H : Heap) (locs : List Loc) (ls : Array Slot), Wd G cA S D ad A s H locs → lv_has ls 1 [(0, .int x0)] → f_X9_mostOf x0 = some r → W p l e R s m args below meth c H locs 0 0 (MQ below (Qn (some (.long r)) True (wpost G cA S D ad A) A) args s 0 0 A) (F0 m 0 ls []) := by
  obtain ⟨hx, hb, -⟩ := id hC
  intro x0 H locs ls hw hl h
  unfold f_X9_mostOf at h
  refine lv_iload_n hx hb dX9_mostOf_0 rfl (lv_at hl 0 rfl) ?_
  refine lv_bipush (v := 8) hx hb dX9_mostOf_1 (by decide) ?_
  refine lv_icmp_ne (tgt := 12) hx hb dX9_mostOf_3 (by decide) (fun c2 => ?_) (fun c2 => ?_)
  · have h := i_no c2 h
    refine lv_lconst (v := 1) hx hb dX9_mostOf_12 (by decide) ?_
    refine lv_bipush (v := 8) hx hb dX9_mostOf_13 (by decide) ?_
    refine lv_iload_n hx hb dX9_mostOf_15 rfl (lv_at hl 0 rfl) ?_
    refine lv_imul hx hb dX9_mostOf_16 ?_
    refine lv_lshl (v := j_lshl (1 : Int64) ((8 : Int32) * x0)) hx hb dX9_mostOf_17 rfl ?_
    refine lv_lconst (v := 1) hx hb dX9_mostOf_18 (by decide) ?_
    refine lv_lsub hx hb dX9_mostOf_19 ?_
    cases h
    exact r_lret hC hw dX9_mostOf_20
  · have h := i_yes c2 h
    refine lv_ldc2 (v := (-1)) hx hb hC.2.2.2.1 (hC.2.2.2.2.1 _ lk_1365) dX9_mostOf_6 ?_
    refine lv_goto (tgt := 20) hx hb dX9_mostOf_9 (by decide) ?_
    cases h
    exact r_lret hC hw dX9_mostOf_20
set_option maxHeartbeats 4000000 in
set_option maxRecDepth 100000 in
theorem k_X9_mostOf {l : Launch} {G : va_G} {cA : Nat → ClassId} {S : sh} {D : dt} {ad : Nat → Nat} (sz : Nat) {x0 : Int32} {r : Int64}  (h : f_X9_mostOf x0 = some r) : Co l yX9_mostOf (Cond.code yX9_mostOf cX9_mostOf 1 (some .long) :: tb0) 0 0 [.int x0] G cA S D ad sz (some (.long r)) True D := by
  refine Met.ofW (cc := cX9_mostOf) (maxL := 1) (ret := (some .long)) (by decide) rfl ?_
  intro p e s m args below meth c s₁ B hml hv
  obtain ⟨rfl, hsz, hP, hK, hD0, hT, hX⟩ := hv
  subst hsz
  have hts := atoms_spec (ws := Cond.code yX9_mostOf cX9_mostOf 1 (some .long) :: tb0) B.pre
  have hC : Cx RX9 cX9_mostOf 1 (some .long) p s m _ meth c := ⟨B.exec, B.bytes, hml, findClass_of_methodNamed B.named, fun w q => hts w (List.mem_cons_of_mem _ q), B.returns, B.notSynchronized⟩
  have hw := Wd.entry hP hK hD0 hT hX
  have hl := lv_entry ([.int x0]) (n := 1) (Nat.le_of_ble_eq_true rfl)
  rw [lg_entry_eq]
  exact w_X9_mostOf_0 hC ⟨Nat.le_refl _, Nat.le_refl _⟩ x0 _ _ _ hw hl h
set_option maxHeartbeats 4000000 in
set_option maxRecDepth 100000 in
theorem w_X9_lookLoad_164 {r : Int32} {D' : dt} (hC : Cx RX9 cX9_lookLoad 8 (some .int) p s m args meth c) (hR : 1 ≤ R.frames ∧ 28 ≤ R.locals) : ∀ (os0 as0 : Nat) (xs1 : Int32) (xs2 : Int64) (xs3 : Int64) (D : dt) (H : Heap) (locs : List Loc) (ls : Array Slot), Is S ad os0 as0 8 → Wd G cA S D ad A s H locs → lv_has ls 8 [] → f_X9_lookLoad_164 S os0 xs1 xs2 xs3 D = some (r, D') → W p l e R s m args below meth c H locs 0 0 (MQ below (Qn (some (.int r)) True (wpost G cA S D' ad A) A) args s 0 0 A) (F0 m 164 ls [.long xs3, .long xs2, .int xs1, .ref as0]) := by
  obtain ⟨hx, hb, -⟩ := id hC
  intro os0 as0 xs1 xs2 xs3 D H locs ls his0 hw hl h
  unfold f_X9_lookLoad_164 at h
  obtain ⟨_, D70, hq69, h⟩ := cq_i h
  refine r_cV (st' := []) [.int xs1, .long xs2, .long xs3] [] hC hw kc_8 his0 (k_X9_number _ his0 hq69) mk_X9_number lk_1496 ⟨Nat.le_trans (by decide) hR.1, Nat.le_trans (by decide) hR.2⟩ ⟨Nat.zero_le _, Nat.zero_le _⟩ rfl hl.1 rfl rfl (Nat.le_of_ble_eq_true rfl) dX9_lookLoad_164 (fun hP H locs hw => ?_)
  refine lv_iconst (v := 0) hx hb dX9_lookLoad_167 (by decide) ?_
  cases h
  exact r_iret hC hw dX9_lookLoad_168
set_option maxHeartbeats 4000000 in
set_option maxRecDepth 100000 in
theorem w_X9_lookLoad_141 {r : Int32} {D' : dt} (hC : Cx RX9 cX9_lookLoad 8 (some .int) p s m args meth c) (hR : 1 ≤ R.frames ∧ 28 ≤ R.locals) : ∀ (o0 a0 : Nat) (x1 : Int32) (x2 : Int32) (x4 : Int32) (D : dt) (H : Heap) (locs : List Loc) (ls : Array Slot), Is S ad o0 a0 8 → Wd G cA S D ad A s H locs → lv_has ls 8 [(0, .ref a0), (1, .int x1), (2, .int x2), (4, .int x4)] → f_X9_lookLoad_141 S o0 x1 x2 x4 D = some (r, D') → W p l e R s m args below meth c H locs 0 0 (MQ below (Qn (some (.int r)) True (wpost G cA S D' ad A) A) args s 0 0 A) (F0 m 141 ls []) := by
  obtain ⟨hx, hb, -⟩ := id hC
  intro o0 a0 x1 x2 x4 D H locs ls hi0 hw hl h
  unfold f_X9_lookLoad_141 at h
  refine lv_aload_n hx hb dX9_lookLoad_141 rfl (lv_at hl 0 rfl) ?_
  refine lv_aload_n hx hb dX9_lookLoad_142 rfl (lv_at hl 0 rfl) ?_
  obtain ⟨o71, ho74, h⟩ := rq_i h
  refine r_getR hC hw kc_8 hi0 2 rfl lk_1074 dX9_lookLoad_143 rfl ho74 (fun a72 hi73 => ?_)
  refine lv_iload_n hx hb dX9_lookLoad_146 rfl (lv_at hl 1 rfl) ?_
  obtain ⟨hn75, h⟩ := ix_i h
  refine r_iald hC hw hi73 hn75 dX9_lookLoad_147 ?_
  refine lv_lconst (v := 0) hx hb dX9_lookLoad_148 (by decide) ?_
  refine lv_iload_n hx hb dX9_lookLoad_149 rfl (lv_at hl 2 rfl) ?_
  refine lv_if_eq (tgt := 159) hx hb dX9_lookLoad_150 (by decide) (fun c76 => ?_) (fun c76 => ?_)
  · have h := i_yes c76 h
    refine lv_iload hx hb dX9_lookLoad_159 (lv_at hl 3 rfl) ?_
    obtain ⟨r78, hq77, h⟩ := pq_i h
    refine r_cS (st' := [.long r78, .long (0 : Int64), .int (gI D o71 x1.toNatClampNeg), .ref a0]) [.int x4] [.long (0 : Int64), .int (gI D o71 x1.toNatClampNeg), .ref a0] hC hw (k_X9_mostOf _ hq77) mk_X9_mostOf lk_1574 ⟨Nat.le_trans (by decide) hR.1, Nat.le_trans (by decide) hR.2⟩ ⟨Nat.zero_le _, Nat.zero_le _⟩ rfl hl.1 rfl rfl (Nat.le_of_ble_eq_true rfl) dX9_lookLoad_161 (fun hP H locs hw => ?_)
    exact w_X9_lookLoad_164 hC hR o0 a0 (gI D o71 x1.toNatClampNeg) (0 : Int64) r78 _ _ _ _ hi0 hw (lv_sub hl [] rfl) h
  · have h := i_no c76 h
    refine lv_ldc2 (v := (-1)) hx hb hC.2.2.2.1 (hC.2.2.2.2.1 _ lk_1365) dX9_lookLoad_153 ?_
    refine lv_goto (tgt := 164) hx hb dX9_lookLoad_156 (by decide) ?_
    exact w_X9_lookLoad_164 hC hR o0 a0 (gI D o71 x1.toNatClampNeg) (0 : Int64) (-1 : Int64) _ _ _ _ hi0 hw (lv_sub hl [] rfl) h
set_option maxHeartbeats 4000000 in
set_option maxRecDepth 100000 in
theorem w_X9_lookLoad_128 {r : Int32} {D' : dt} (hC : Cx RX9 cX9_lookLoad 8 (some .int) p s m args meth c) (hR : 1 ≤ R.frames ∧ 28 ≤ R.locals) : ∀ (o0 a0 : Nat) (x1 : Int32) (x2 : Int32) (x4 : Int32) (x6 : Int32) (D : dt) (H : Heap) (locs : List Loc) (ls : Array Slot), Is S ad o0 a0 8 → Wd G cA S D ad A s H locs → lv_has ls 8 [(0, .ref a0), (1, .int x1), (2, .int x2), (4, .int x4), (6, .int x6)] → f_X9_lookLoad_128 S o0 x1 x2 x4 x6 D = some (r, D') → W p l e R s m args below meth c H locs 0 0 (MQ below (Qn (some (.int r)) True (wpost G cA S D' ad A) A) args s 0 0 A) (F0 m 128 ls []) := by
  obtain ⟨hx, hb, -⟩ := id hC
  intro o0 a0 x1 x2 x4 x6 D H locs ls hi0 hw hl h
  unfold f_X9_lookLoad_128 at h
  refine lv_aload_n hx hb dX9_lookLoad_128 rfl (lv_at hl 0 rfl) ?_
  refine lv_iload hx hb dX9_lookLoad_129 (lv_at hl 4 rfl) ?_
  refine lv_iload hx hb dX9_lookLoad_131 (lv_at hl 3 rfl) ?_
  obtain ⟨r80, hq79, h⟩ := pq_i h
  refine r_cV (st' := [.int r80]) [.int x6, .int x4] [] hC hw kc_8 hi0 (k_X9_areKnown _ hi0 hq79) mk_X9_areKnown lk_1566 ⟨Nat.le_trans (by decide) hR.1, Nat.le_trans (by decide) hR.2⟩ ⟨Nat.zero_le _, Nat.zero_le _⟩ rfl hl.1 rfl rfl (Nat.le_of_ble_eq_true rfl) dX9_lookLoad_133 (fun hP H locs hw => ?_)
  refine lv_if_ne (tgt := 141) hx hb dX9_lookLoad_136 (by decide) (fun c81 => ?_) (fun c81 => ?_)
  · have h := i_no c81 h
    exact w_X9_lookLoad_141 hC hR o0 a0 x1 x2 x4 _ _ _ _ hi0 hw (lv_sub hl [0, 1, 2, 3] rfl) h
  · have h := i_yes c81 h
    refine lv_iconst (v := 4) hx hb dX9_lookLoad_139 (by decide) ?_
    cases h
    exact r_iret hC hw dX9_lookLoad_140
set_option maxHeartbeats 4000000 in
set_option maxRecDepth 100000 in
theorem w_X9_lookLoad_0 {r : Int32} {D' : dt} (hC : Cx RX9 cX9_lookLoad 8 (some .int) p s m args meth c) (hR : 1 ≤ R.frames ∧ 28 ≤ R.locals) : ∀ (o0 a0 : Nat) (x1 : Int32) (x2 : Int32) (D : dt) (H : Heap) (locs : List Loc) (ls : Array Slot), Is S ad o0 a0 8 → Wd G cA S D ad A s H locs → lv_has ls 8 [(0, .ref a0), (1, .int x1), (2, .int x2)] → f_X9_lookLoad S o0 x1 x2 D = some (r, D') → W p l e R s m args below meth c H locs 0 0 (MQ below (Qn (some (.int r)) True (wpost G cA S D' ad A) A) args s 0 0 A) (F0 m 0 ls []) := by
  obtain ⟨hx, hb, -⟩ := id hC
  intro o0 a0 x1 x2 D H locs ls hi0 hw hl h
  unfold f_X9_lookLoad at h
  refine lv_aload_n hx hb dX9_lookLoad_0 rfl (lv_at hl 0 rfl) ?_
  obtain ⟨o82, ho85, h⟩ := rq_i h
  refine r_getR hC hw kc_8 hi0 3 rfl lk_1075 dX9_lookLoad_1 rfl ho85 (fun a83 hi84 => ?_)
  refine lv_iload_n hx hb dX9_lookLoad_4 rfl (lv_at hl 1 rfl) ?_
  obtain ⟨hn86, h⟩ := ix_i h
  refine r_iald hC hw hi84 hn86 dX9_lookLoad_5 ?_
  refine lv_topi (fun y87 ey87 => ?_)
  have h := nm_i h y87 ey87
  refine lv_istore_n (lv' := [(3, .int y87), (0, .ref a0), (1, .int x1), (2, .int x2)]) hx hb dX9_lookLoad_6 rfl hl (by decide) rfl (fun ls hl => ?_)
  refine lv_aload_n hx hb dX9_lookLoad_7 rfl (lv_at hl 1 rfl) ?_
  refine lv_iload_n hx hb dX9_lookLoad_8 rfl (lv_at hl 2 rfl) ?_
  obtain ⟨r89, hq88, h⟩ := pq_i h
  refine r_cV (st' := [.int r89]) [.int x1] [] hC hw kc_8 hi0 (k_X9_widthOf _ hi0 hq88) mk_X9_widthOf lk_1308 ⟨Nat.le_trans (by decide) hR.1, Nat.le_trans (by decide) hR.2⟩ ⟨Nat.zero_le _, Nat.zero_le _⟩ rfl hl.1 rfl rfl (Nat.le_of_ble_eq_true rfl) dX9_lookLoad_9 (fun hP H locs hw => ?_)
  refine lv_istore (lv' := [(4, .int r89), (3, .int y87), (0, .ref a0), (1, .int x1), (2, .int x2)]) hx hb dX9_lookLoad_12 hl (by decide) rfl (fun ls hl => ?_)
  refine lv_aload_n hx hb dX9_lookLoad_14 rfl (lv_at hl 2 rfl) ?_
  obtain ⟨o90, ho93, h⟩ := rq_i h
  refine r_getR hC hw kc_8 hi0 40 rfl lk_1112 dX9_lookLoad_15 rfl ho93 (fun a91 hi92 => ?_)
  refine lv_iload_n hx hb dX9_lookLoad_18 rfl (lv_at hl 1 rfl) ?_
  obtain ⟨hn94, h⟩ := ix_i h
  refine r_iald hC hw hi92 hn94 dX9_lookLoad_19 ?_
  refine lv_if_ne (tgt := 25) hx hb dX9_lookLoad_20 (by decide) (fun c95 => ?_) (fun c95 => ?_)
  · have h := i_no c95 h
    refine lv_aload_n hx hb dX9_lookLoad_25 rfl (lv_at hl 2 rfl) ?_
    refine lv_iload_n hx hb dX9_lookLoad_26 rfl (lv_at hl 1 rfl) ?_
    refine lv_aload_n hx hb dX9_lookLoad_27 rfl (lv_at hl 2 rfl) ?_
    obtain ⟨o96, ho99, h⟩ := rq_i h
    refine r_getR hC hw kc_8 hi0 4 rfl lk_1076 dX9_lookLoad_28 rfl ho99 (fun a97 hi98 => ?_)
    refine lv_iload_n hx hb dX9_lookLoad_31 rfl (lv_at hl 3 rfl) ?_
    obtain ⟨hn100, h⟩ := ix_i h
    refine r_iald hC hw hi98 hn100 dX9_lookLoad_32 ?_
    refine lv_iload hx hb dX9_lookLoad_33 (lv_at hl 0 rfl) ?_
    refine lv_iconst (v := 0) hx hb dX9_lookLoad_35 (by decide) ?_
    obtain ⟨r102, hq101, h⟩ := pq_i h
    refine r_cV (st' := [.int r102]) [.int y87, .int (gI D o96 x1.toNatClampNeg), .int r89, .int (0 : Int32)] [] hC hw kc_8 hi0 (k_X9_access _ hi0 hq101) mk_X9_access lk_1561 ⟨Nat.le_trans (by decide) hR.1, Nat.le_trans (by decide) hR.2⟩ ⟨Nat.zero_le _, Nat.zero_le _⟩ rfl hl.1 rfl rfl (Nat.le_of_ble_eq_true rfl) dX9_lookLoad_36 (fun hP H locs hw => ?_)
    refine lv_istore (lv' := [(5, .int r102), (4, .int r89), (3, .int y87), (0, .ref a0), (1, .int x1), (2, .int x2)]) hx hb dX9_lookLoad_39 hl (by decide) rfl (fun ls hl => ?_)
    refine lv_iload hx hb dX9_lookLoad_41 (lv_at hl 0 rfl) ?_
    refine lv_if_le (tgt := 49) hx hb dX9_lookLoad_43 (by decide) (fun c103 => ?_) (fun c103 => ?_)
    · have h := i_yes c103 h
      refine lv_aload_n hx hb dX9_lookLoad_49 rfl (lv_at hl 3 rfl) ?_
      obtain ⟨o104, ho107, h⟩ := rq_i h
      refine r_getR hC hw kc_8 hi0 40 rfl lk_1112 dX9_lookLoad_50 rfl ho107 (fun a105 hi106 => ?_)
      refine lv_iload_n hx hb dX9_lookLoad_53 rfl (lv_at hl 2 rfl) ?_
      obtain ⟨hn108, h⟩ := ix_i h
      refine r_iald hC hw hi106 hn108 dX9_lookLoad_54 ?_
      refine lv_iconst (v := 3) hx hb dX9_lookLoad_55 (by decide) ?_
      refine lv_icmp_ne (tgt := 141) hx hb dX9_lookLoad_56 (by decide) (fun c109 => ?_) (fun c109 => ?_)
      · have h := i_no c109 h
        exact w_X9_lookLoad_141 hC hR o0 a0 x1 x2 r89 _ _ _ _ hi0 hw (lv_sub hl [3, 4, 5, 1] rfl) h
      · have h := i_yes c109 h
        refine lv_aload_n hx hb dX9_lookLoad_59 rfl (lv_at hl 3 rfl) ?_
        obtain ⟨o110, ho113, h⟩ := rq_i h
        refine r_getR hC hw kc_8 hi0 41 rfl lk_1113 dX9_lookLoad_60 rfl ho113 (fun a111 hi112 => ?_)
        refine lv_iload_n hx hb dX9_lookLoad_63 rfl (lv_at hl 2 rfl) ?_
        obtain ⟨hn114, h⟩ := ix_i h
        refine r_lald hC hw hi112 hn114 dX9_lookLoad_64 ?_
        refine lv_l2i (v := (gL D o110 y87.toNatClampNeg).toInt32) hx hb dX9_lookLoad_65 rfl ?_
        refine lv_aload_n hx hb dX9_lookLoad_66 rfl (lv_at hl 3 rfl) ?_
        obtain ⟨o115, ho118, h⟩ := rq_i h
        refine r_getR hC hw kc_8 hi0 4 rfl lk_1076 dX9_lookLoad_67 rfl ho118 (fun a116 hi117 => ?_)
        refine lv_iload_n hx hb dX9_lookLoad_70 rfl (lv_at hl 4 rfl) ?_
        obtain ⟨hn119, h⟩ := ix_i h
        refine r_iald hC hw hi117 hn119 dX9_lookLoad_71 ?_
        refine lv_iadd hx hb dX9_lookLoad_72 ?_
        refine lv_sipush (v := 512) hx hb dX9_lookLoad_73 (by decide) ?_
        refine lv_iadd hx hb dX9_lookLoad_76 ?_
        refine lv_topi (fun y120 ey120 => ?_)
        have h := nm_i h y120 ey120
        refine lv_istore (lv' := [(6, .int y120), (5, .int r102), (4, .int r89), (3, .int y87), (0, .ref a0), (1, .int x1), (2, .int x2)]) hx hb dX9_lookLoad_77 hl (by decide) rfl (fun ls hl => ?_)
        refine lv_bipush (v := 11) hx hb dX9_lookLoad_79 (by decide) ?_
        refine lv_iload hx hb dX9_lookLoad_81 (lv_at hl 0 rfl) ?_
        refine lv_bipush (v := 8) hx hb dX9_lookLoad_83 (by decide) ?_
        refine lv_idiv hx hb dX9_lookLoad_85 (by decide) ?_
        refine lv_iadd hx hb dX9_lookLoad_86 ?_
        refine lv_topi (fun y121 ey121 => ?_)
        have h := nm_i h y121 ey121
        refine lv_istore (lv' := [(7, .int y121), (6, .int y120), (5, .int r102), (4, .int r89), (3, .int y87), (0, .ref a0), (1, .int x1), (2, .int x2)]) hx hb dX9_lookLoad_87 hl (by decide) rfl (fun ls hl => ?_)
        refine lv_iload hx hb dX9_lookLoad_89 (lv_at hl 3 rfl) ?_
        refine lv_bipush (v := 8) hx hb dX9_lookLoad_91 (by decide) ?_
        refine lv_icmp_ne (tgt := 128) hx hb dX9_lookLoad_93 (by decide) (fun c122 => ?_) (fun c122 => ?_)
        · have h := i_no c122 h
          exact w_X9_lookLoad_128 hC hR o0 a0 x1 x2 r89 y120 _ _ _ _ hi0 hw (lv_sub hl [5, 6, 7, 3, 1] rfl) h
        · have h := i_yes c122 h
          refine lv_iload hx hb dX9_lookLoad_96 (lv_at hl 1 rfl) ?_
          refine lv_bipush (v := 8) hx hb dX9_lookLoad_98 (by decide) ?_
          refine lv_irem hx hb dX9_lookLoad_100 (by decide) ?_
          refine lv_if_ne (tgt := 128) hx hb dX9_lookLoad_101 (by decide) (fun c123 => ?_) (fun c123 => ?_)
          · have h := i_no c123 h
            exact w_X9_lookLoad_128 hC hR o0 a0 x1 x2 r89 y120 _ _ _ _ hi0 hw (lv_sub hl [5, 6, 7, 3, 1] rfl) h
          · have h := i_yes c123 h
            refine lv_aload_n hx hb dX9_lookLoad_104 rfl (lv_at hl 5 rfl) ?_
            obtain ⟨o124, ho127, h⟩ := rq_i h
            refine r_getR hC hw kc_8 hi0 40 rfl lk_1112 dX9_lookLoad_105 rfl ho127 (fun a125 hi126 => ?_)
            refine lv_iload hx hb dX9_lookLoad_108 (lv_at hl 0 rfl) ?_
            obtain ⟨hn128, h⟩ := ix_i h
            refine r_iald hC hw hi126 hn128 dX9_lookLoad_110 ?_
            refine lv_if_eq (tgt := 128) hx hb dX9_lookLoad_111 (by decide) (fun c129 => ?_) (fun c129 => ?_)
            · have h := i_yes c129 h
              exact w_X9_lookLoad_128 hC hR o0 a0 x1 x2 r89 y120 _ _ _ _ hi0 hw (lv_sub hl [5, 6, 7, 3, 1] rfl) h
            · have h := i_no c129 h
              refine lv_aload_n hx hb dX9_lookLoad_114 rfl (lv_at hl 5 rfl) ?_
              refine lv_iload hx hb dX9_lookLoad_115 (lv_at hl 0 rfl) ?_
              refine lv_aload_n hx hb dX9_lookLoad_117 rfl (lv_at hl 5 rfl) ?_
              obtain ⟨o130, ho133, h⟩ := rq_i h
              refine r_getR hC hw kc_8 hi0 2 rfl lk_1074 dX9_lookLoad_118 rfl ho133 (fun a131 hi132 => ?_)
              refine lv_iload_n hx hb dX9_lookLoad_121 rfl (lv_at hl 6 rfl) ?_
              obtain ⟨hn134, h⟩ := ix_i h
              refine r_iald hC hw hi132 hn134 dX9_lookLoad_122 ?_
              obtain ⟨_, D136, hq135, h⟩ := cq_i h
              refine r_cV (st' := []) [.int y121, .int (gI D o130 x1.toNatClampNeg)] [] hC hw kc_8 hi0 (k_X9_same _ hi0 hq135) mk_X9_same lk_1488 ⟨Nat.le_trans (by decide) hR.1, Nat.le_trans (by decide) hR.2⟩ ⟨Nat.zero_le _, Nat.zero_le _⟩ rfl hl.1 rfl rfl (Nat.le_of_ble_eq_true rfl) dX9_lookLoad_123 (fun hP H locs hw => ?_)
              refine lv_iconst (v := 0) hx hb dX9_lookLoad_126 (by decide) ?_
              cases h
              exact r_iret hC hw dX9_lookLoad_127
    · have h := i_no c103 h
      refine lv_iload hx hb dX9_lookLoad_46 (lv_at hl 0 rfl) ?_
      cases h
      exact r_iret hC hw dX9_lookLoad_48
  · have h := i_yes c95 h
    refine lv_iconst (v := 2) hx hb dX9_lookLoad_23 (by decide) ?_
    cases h
    exact r_iret hC hw dX9_lookLoad_24
set_option maxHeartbeats 4000000 in
set_option maxRecDepth 100000 in
theorem k_X9_lookLoad {l : Launch} {G : va_G} {cA : Nat → ClassId} {S : sh} {D D' : dt} {ad : Nat → Nat} (sz : Nat) {o0 a0 : Nat} {x1 : Int32} {x2 : Int32} {r : Int32} (hi0 : Is S ad o0 a0 8) (h : f_X9_lookLoad S o0 x1 x2 D = some (r, D')) : Co l yX9_lookLoad (Cond.code yX9_lookLoad cX9_lookLoad 8 (some .int) :: tb0) 1 28 [.ref a0, .int x1, .int x2] G cA S D ad sz (some (.int r)) True D' := by
  refine Met.ofW (cc := cX9_lookLoad) (maxL := 8) (ret := (some .int)) (by decide) rfl ?_
  intro p e s m args below meth c s₁ B hml hv
  obtain ⟨rfl, hsz, hP, hK, hD0, hT, hX⟩ := hv
  subst hsz
  have hts := atoms_spec (ws := Cond.code yX9_lookLoad cX9_lookLoad 8 (some .int) :: tb0) B.pre
  have hC : Cx RX9 cX9_lookLoad 8 (some .int) p s m _ meth c := ⟨B.exec, B.bytes, hml, findClass_of_methodNamed B.named, fun w q => hts w (List.mem_cons_of_mem _ q), B.returns, B.notSynchronized⟩
  have hw := Wd.entry hP hK hD0 hT hX
  have hl := lv_entry ([.ref a0, .int x1, .int x2]) (n := 8) (Nat.le_of_ble_eq_true rfl)
  rw [lg_entry_eq]
  exact w_X9_lookLoad_0 hC ⟨Nat.le_refl _, Nat.le_refl _⟩ o0 a0 x1 x2 D _ _ _ hi0 hw hl h
set_option maxHeartbeats 4000000 in
set_option maxRecDepth 100000 in
theorem w_X9_put__2 {r : Unit} {D' : dt} (hC : Cx RX9 cX9_put_ 4 none p s m args meth c) (hR : 1 ≤ R.frames ∧ 21 ≤ R.locals) : ∀ (n : Nat), ∀ (o0 a0 : Nat) (x1 : Int32) (x2 : Int32) (x3 : Int32) (D : dt) (H : Heap) (locs : List Loc) (ls : Array Slot), Is S ad o0 a0 8 → Wd G cA S D ad A s H locs → lv_has ls 4 [(0, .ref a0), (1, .int x1), (2, .int x2), (3, .int x3)] → f_X9_put__2 S n o0 x1 x2 x3 D = some (r, D') → W p l e R s m args below meth c H locs 0 0 (MQ below (Qn none True (wpost G cA S D' ad A) A) args s 0 0 A) (F0 m 2 ls []) := by
  obtain ⟨hx, hb, -⟩ := id hC
  intro n
  induction n with
  | zero =>
    intro o0 a0 x1 x2 x3 D H locs ls hi0 hw hl h
    rw [f_X9_put__2.eq_1] at h
    cases h
  | succ n ih =>
    intro o0 a0 x1 x2 x3 D H locs ls hi0 hw hl h
    rw [f_X9_put__2.eq_2] at h
    refine lv_iload_n hx hb dX9_put__2 rfl (lv_at hl 3 rfl) ?_
    refine lv_iload_n hx hb dX9_put__3 rfl (lv_at hl 1 rfl) ?_
    refine lv_iload_n hx hb dX9_put__4 rfl (lv_at hl 2 rfl) ?_
    refine lv_iadd hx hb dX9_put__5 ?_
    refine lv_icmp_ge (tgt := 33) hx hb dX9_put__6 (by decide) (fun c11 => ?_) (fun c11 => ?_)
    · have h := i_yes c11 h
      cases h
      exact r_vret hC hw dX9_put__33
    · have h := i_no c11 h
      refine lv_aload_n hx hb dX9_put__9 rfl (lv_at hl 0 rfl) ?_
      refine lv_bipush (v := 11) hx hb dX9_put__10 (by decide) ?_
      refine lv_iload_n hx hb dX9_put__12 rfl (lv_at hl 3 rfl) ?_
      refine lv_bipush (v := 8) hx hb dX9_put__13 (by decide) ?_
      refine lv_idiv hx hb dX9_put__15 (by decide) ?_
      refine lv_iadd hx hb dX9_put__16 ?_
      obtain ⟨_, D13, hq12, h⟩ := cq_i h
      refine r_cV (st' := []) [.int ((11 : Int32) + (x3 / (8 : Int32)))] [] hC hw kc_8 hi0 (k_X9_forget _ hi0 hq12) mk_X9_forget lk_1454 ⟨Nat.le_trans (by decide) hR.1, Nat.le_trans (by decide) hR.2⟩ ⟨Nat.zero_le _, Nat.zero_le _⟩ rfl hl.1 rfl rfl (Nat.le_of_ble_eq_true rfl) dX9_put__17 (fun hP H locs hw => ?_)
      refine lv_aload_n hx hb dX9_put__20 rfl (lv_at hl 0 rfl) ?_
      obtain ⟨o14, ho17, h⟩ := rq_i h
      refine r_getR hC hw kc_8 hi0 45 rfl lk_1117 dX9_put__21 rfl ho17 (fun a15 hi16 => ?_)
      refine lv_iload_n hx hb dX9_put__24 rfl (lv_at hl 3 rfl) ?_
      refine lv_iconst (v := 1) hx hb dX9_put__25 (by decide) ?_
      obtain ⟨hn18, h⟩ := ix_i h
      refine r_zas hC hw hi16 hn18 dX9_put__26 (fun D19 eD19 H locs hw => ?_)
      have h := nm_i h D19 eD19
      obtain ⟨y20, ey20⟩ : ∃ z : Int32, z = x3 + 1 := ⟨_, rfl⟩
      have h := nm_i h y20 ey20
      refine lv_iinc (v := y20) (lv' := [(3, .int y20), (0, .ref a0), (1, .int x1), (2, .int x2)]) hx hb dX9_put__27 hl (k := 3) rfl (by rw [ey20]; rfl) (by decide) rfl (fun ls hl => ?_)
      refine lv_goto (tgt := 2) hx hb dX9_put__30 (by decide) ?_
      exact ih o0 a0 x1 x2 y20 _ _ _ _ hi0 hw (lv_sub hl [1, 2, 3, 0] rfl) h
set_option maxHeartbeats 4000000 in
set_option maxRecDepth 100000 in
theorem w_X9_put__0 {r : Unit} {D' : dt} (hC : Cx RX9 cX9_put_ 4 none p s m args meth c) (hR : 1 ≤ R.frames ∧ 21 ≤ R.locals) : ∀ (o0 a0 : Nat) (x1 : Int32) (x2 : Int32) (D : dt) (H : Heap) (locs : List Loc) (ls : Array Slot), Is S ad o0 a0 8 → Wd G cA S D ad A s H locs → lv_has ls 4 [(0, .ref a0), (1, .int x1), (2, .int x2)] → f_X9_put_ S o0 x1 x2 D = some (r, D') → W p l e R s m args below meth c H locs 0 0 (MQ below (Qn none True (wpost G cA S D' ad A) A) args s 0 0 A) (F0 m 0 ls []) := by
  obtain ⟨hx, hb, -⟩ := id hC
  intro o0 a0 x1 x2 D H locs ls hi0 hw hl h
  unfold f_X9_put_ at h
  refine lv_iload_n hx hb dX9_put__0 rfl (lv_at hl 1 rfl) ?_
  refine lv_istore_n (lv' := [(3, .int x1), (0, .ref a0), (1, .int x1), (2, .int x2)]) hx hb dX9_put__1 rfl hl (by decide) rfl (fun ls hl => ?_)
  exact w_X9_put__2 hC hR LF o0 a0 x1 x2 x1 _ _ _ _ hi0 hw (lv_sub hl [1, 2, 3, 0] rfl) h
set_option maxHeartbeats 4000000 in
set_option maxRecDepth 100000 in
theorem k_X9_put_ {l : Launch} {G : va_G} {cA : Nat → ClassId} {S : sh} {D D' : dt} {ad : Nat → Nat} (sz : Nat) {o0 a0 : Nat} {x1 : Int32} {x2 : Int32} {r : Unit} (hi0 : Is S ad o0 a0 8) (h : f_X9_put_ S o0 x1 x2 D = some (r, D')) : Co l yX9_put_ (Cond.code yX9_put_ cX9_put_ 4 none :: tb0) 1 21 [.ref a0, .int x1, .int x2] G cA S D ad sz none True D' := by
  refine Met.ofW (cc := cX9_put_) (maxL := 4) (ret := none) (by decide) rfl ?_
  intro p e s m args below meth c s₁ B hml hv
  obtain ⟨rfl, hsz, hP, hK, hD0, hT, hX⟩ := hv
  subst hsz
  have hts := atoms_spec (ws := Cond.code yX9_put_ cX9_put_ 4 none :: tb0) B.pre
  have hC : Cx RX9 cX9_put_ 4 none p s m _ meth c := ⟨B.exec, B.bytes, hml, findClass_of_methodNamed B.named, fun w q => hts w (List.mem_cons_of_mem _ q), B.returns, B.notSynchronized⟩
  have hw := Wd.entry hP hK hD0 hT hX
  have hl := lv_entry ([.ref a0, .int x1, .int x2]) (n := 4) (Nat.le_of_ble_eq_true rfl)
  rw [lg_entry_eq]
  exact w_X9_put__0 hC ⟨Nat.le_refl _, Nat.le_refl _⟩ o0 a0 x1 x2 D _ _ _ hi0 hw hl h
end
