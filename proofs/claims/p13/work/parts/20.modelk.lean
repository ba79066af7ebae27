theorem dX9_isWay_0 : decode cX9_isWay 0 = .ok (.iload_n 1, 1) := by decide +kernel
theorem dX9_isWay_1 : decode cX9_isWay 1 = .ok (.aload_n 0, 1) := by decide +kernel
theorem dX9_isWay_2 : decode cX9_isWay 2 = .ok (.getfield 348, 3) := by decide +kernel
theorem dX9_isWay_5 : decode cX9_isWay 5 = .ok (.if_icmp .le 24, 3) := by decide +kernel
theorem dX9_isWay_8 : decode cX9_isWay 8 = .ok (.iload_n 1, 1) := by decide +kernel
theorem dX9_isWay_9 : decode cX9_isWay 9 = .ok (.aload_n 0, 1) := by decide +kernel
theorem dX9_isWay_10 : decode cX9_isWay 10 = .ok (.getfield 147, 3) := by decide +kernel
theorem dX9_isWay_13 : decode cX9_isWay 13 = .ok (.if_icmp .ge 16, 3) := by decide +kernel
theorem dX9_isWay_16 : decode cX9_isWay 16 = .ok (.aload_n 0, 1) := by decide +kernel
theorem dX9_isWay_17 : decode cX9_isWay 17 = .ok (.getfield 69, 3) := by decide +kernel
theorem dX9_isWay_20 : decode cX9_isWay 20 = .ok (.iload_n 1, 1) := by decide +kernel
theorem dX9_isWay_21 : decode cX9_isWay 21 = .ok (.baload, 1) := by decide +kernel
theorem dX9_isWay_22 : decode cX9_isWay 22 = .ok (.ifCond .ne 7, 3) := by decide +kernel
theorem dX9_isWay_25 : decode cX9_isWay 25 = .ok (.iconst 1, 1) := by decide +kernel
theorem dX9_isWay_26 : decode cX9_isWay 26 = .ok (.goto 4, 3) := by decide +kernel
theorem dX9_isWay_29 : decode cX9_isWay 29 = .ok (.iconst 0, 1) := by decide +kernel
theorem dX9_isWay_30 : decode cX9_isWay 30 = .ok (.ireturn, 1) := by decide +kernel
theorem dX9_takeSecond_0 : decode cX9_takeSecond 0 = .ok (.aload_n 0, 1) := by decide +kernel
theorem dX9_takeSecond_1 : decode cX9_takeSecond 1 = .ok (.getfield 7, 3) := by decide +kernel
theorem dX9_takeSecond_4 : decode cX9_takeSecond 4 = .ok (.iload_n 1, 1) := by decide +kernel
theorem dX9_takeSecond_5 : decode cX9_takeSecond 5 = .ok (.iaload, 1) := by decide +kernel
theorem dX9_takeSecond_6 : decode cX9_takeSecond 6 = .ok (.bipush 8, 2) := by decide +kernel
theorem dX9_takeSecond_8 : decode cX9_takeSecond 8 = .ok (.iand, 1) := by decide +kernel
theorem dX9_takeSecond_9 : decode cX9_takeSecond 9 = .ok (.ifCond .eq 47, 3) := by decide +kernel
theorem dX9_takeSecond_12 : decode cX9_takeSecond 12 = .ok (.aload_n 0, 1) := by decide +kernel
theorem dX9_takeSecond_13 : decode cX9_takeSecond 13 = .ok (.getfield 7, 3) := by decide +kernel
theorem dX9_takeSecond_16 : decode cX9_takeSecond 16 = .ok (.iload_n 1, 1) := by decide +kernel
theorem dX9_takeSecond_17 : decode cX9_takeSecond 17 = .ok (.iaload, 1) := by decide +kernel
theorem dX9_takeSecond_18 : decode cX9_takeSecond 18 = .ok (.bipush 7, 2) := by decide +kernel
theorem dX9_takeSecond_20 : decode cX9_takeSecond 20 = .ok (.iand, 1) := by decide +kernel
theorem dX9_takeSecond_21 : decode cX9_takeSecond 21 = .ok (.iconst 5, 1) := by decide +kernel
theorem dX9_takeSecond_22 : decode cX9_takeSecond 22 = .ok (.if_icmp .eq 30, 3) := by decide +kernel
theorem dX9_takeSecond_25 : decode cX9_takeSecond 25 = .ok (.aload_n 0, 1) := by decide +kernel
theorem dX9_takeSecond_26 : decode cX9_takeSecond 26 = .ok (.getfield 7, 3) := by decide +kernel
theorem dX9_takeSecond_29 : decode cX9_takeSecond 29 = .ok (.iload_n 1, 1) := by decide +kernel
theorem dX9_takeSecond_30 : decode cX9_takeSecond 30 = .ok (.iaload, 1) := by decide +kernel
theorem dX9_takeSecond_31 : decode cX9_takeSecond 31 = .ok (.bipush 7, 2) := by decide +kernel
theorem dX9_takeSecond_33 : decode cX9_takeSecond 33 = .ok (.iand, 1) := by decide +kernel
theorem dX9_takeSecond_34 : decode cX9_takeSecond 34 = .ok (.bipush 6, 2) := by decide +kernel
theorem dX9_takeSecond_36 : decode cX9_takeSecond 36 = .ok (.if_icmp .eq 16, 3) := by decide +kernel
theorem dX9_takeSecond_39 : decode cX9_takeSecond 39 = .ok (.aload_n 0, 1) := by decide +kernel
theorem dX9_takeSecond_40 : decode cX9_takeSecond 40 = .ok (.getfield 7, 3) := by decide +kernel
theorem dX9_takeSecond_43 : decode cX9_takeSecond 43 = .ok (.iload_n 1, 1) := by decide +kernel
theorem dX9_takeSecond_44 : decode cX9_takeSecond 44 = .ok (.iaload, 1) := by decide +kernel
theorem dX9_takeSecond_45 : decode cX9_takeSecond 45 = .ok (.iconst 4, 1) := by decide +kernel
theorem dX9_takeSecond_46 : decode cX9_takeSecond 46 = .ok (.ishr, 1) := by decide +kernel
theorem dX9_takeSecond_47 : decode cX9_takeSecond 47 = .ok (.bipush 13, 2) := by decide +kernel
theorem dX9_takeSecond_49 : decode cX9_takeSecond 49 = .ok (.if_icmp .eq 7, 3) := by decide +kernel
theorem dX9_takeSecond_52 : decode cX9_takeSecond 52 = .ok (.iconst 1, 1) := by decide +kernel
theorem dX9_takeSecond_53 : decode cX9_takeSecond 53 = .ok (.goto 4, 3) := by decide +kernel
theorem dX9_takeSecond_56 : decode cX9_takeSecond 56 = .ok (.iconst 0, 1) := by decide +kernel
theorem dX9_takeSecond_57 : decode cX9_takeSecond 57 = .ok (.istore_n 2, 1) := by decide +kernel
theorem dX9_takeSecond_58 : decode cX9_takeSecond 58 = .ok (.aload_n 0, 1) := by decide +kernel
theorem dX9_takeSecond_59 : decode cX9_takeSecond 59 = .ok (.iload_n 2, 1) := by decide +kernel
theorem dX9_takeSecond_60 : decode cX9_takeSecond 60 = .ok (.ifCond .eq 17, 3) := by decide +kernel
theorem dX9_takeSecond_63 : decode cX9_takeSecond 63 = .ok (.aload_n 0, 1) := by decide +kernel
theorem dX9_takeSecond_64 : decode cX9_takeSecond 64 = .ok (.getfield 106, 3) := by decide +kernel
theorem dX9_takeSecond_67 : decode cX9_takeSecond 67 = .ok (.aload_n 0, 1) := by decide +kernel
theorem dX9_takeSecond_68 : decode cX9_takeSecond 68 = .ok (.getfield 16, 3) := by decide +kernel
theorem dX9_takeSecond_71 : decode cX9_takeSecond 71 = .ok (.iload_n 1, 1) := by decide +kernel
theorem dX9_takeSecond_72 : decode cX9_takeSecond 72 = .ok (.iaload, 1) := by decide +kernel
theorem dX9_takeSecond_73 : decode cX9_takeSecond 73 = .ok (.iaload, 1) := by decide +kernel
theorem dX9_takeSecond_74 : decode cX9_takeSecond 74 = .ok (.goto 4, 3) := by decide +kernel
theorem dX9_takeSecond_77 : decode cX9_takeSecond 77 = .ok (.iconst 1, 1) := by decide +kernel
theorem dX9_takeSecond_78 : decode cX9_takeSecond 78 = .ok (.putfield 397, 3) := by decide +kernel
theorem dX9_takeSecond_81 : decode cX9_takeSecond 81 = .ok (.aload_n 0, 1) := by decide +kernel
theorem dX9_takeSecond_82 : decode cX9_takeSecond 82 = .ok (.iload_n 2, 1) := by decide +kernel
theorem dX9_takeSecond_83 : decode cX9_takeSecond 83 = .ok (.ifCond .eq 17, 3) := by decide +kernel
theorem dX9_takeSecond_86 : decode cX9_takeSecond 86 = .ok (.aload_n 0, 1) := by decide +kernel
theorem dX9_takeSecond_87 : decode cX9_takeSecond 87 = .ok (.getfield 109, 3) := by decide +kernel
theorem dX9_takeSecond_90 : decode cX9_takeSecond 90 = .ok (.aload_n 0, 1) := by decide +kernel
theorem dX9_takeSecond_91 : decode cX9_takeSecond 91 = .ok (.getfield 16, 3) := by decide +kernel
theorem dX9_takeSecond_94 : decode cX9_takeSecond 94 = .ok (.iload_n 1, 1) := by decide +kernel
theorem dX9_takeSecond_95 : decode cX9_takeSecond 95 = .ok (.iaload, 1) := by decide +kernel
theorem dX9_takeSecond_96 : decode cX9_takeSecond 96 = .ok (.laload, 1) := by decide +kernel
theorem dX9_takeSecond_97 : decode cX9_takeSecond 97 = .ok (.goto 10, 3) := by decide +kernel
theorem dX9_takeSecond_100 : decode cX9_takeSecond 100 = .ok (.aload_n 0, 1) := by decide +kernel
theorem dX9_takeSecond_101 : decode cX9_takeSecond 101 = .ok (.getfield 22, 3) := by decide +kernel
theorem dX9_takeSecond_104 : decode cX9_takeSecond 104 = .ok (.iload_n 1, 1) := by decide +kernel
theorem dX9_takeSecond_105 : decode cX9_takeSecond 105 = .ok (.iaload, 1) := by decide +kernel
theorem dX9_takeSecond_106 : decode cX9_takeSecond 106 = .ok (.i2l, 1) := by decide +kernel
theorem dX9_takeSecond_107 : decode cX9_takeSecond 107 = .ok (.putfield 400, 3) := by decide +kernel
theorem dX9_takeSecond_110 : decode cX9_takeSecond 110 = .ok (.aload_n 0, 1) := by decide +kernel
theorem dX9_takeSecond_111 : decode cX9_takeSecond 111 = .ok (.iload_n 2, 1) := by decide +kernel
theorem dX9_takeSecond_112 : decode cX9_takeSecond 112 = .ok (.ifCond .eq 17, 3) := by decide +kernel
theorem dX9_takeSecond_115 : decode cX9_takeSecond 115 = .ok (.aload_n 0, 1) := by decide +kernel
theorem dX9_takeSecond_116 : decode cX9_takeSecond 116 = .ok (.getfield 112, 3) := by decide +kernel
theorem dX9_takeSecond_119 : decode cX9_takeSecond 119 = .ok (.aload_n 0, 1) := by decide +kernel
theorem dX9_takeSecond_120 : decode cX9_takeSecond 120 = .ok (.getfield 16, 3) := by decide +kernel
theorem dX9_takeSecond_123 : decode cX9_takeSecond 123 = .ok (.iload_n 1, 1) := by decide +kernel
theorem dX9_takeSecond_124 : decode cX9_takeSecond 124 = .ok (.iaload, 1) := by decide +kernel
theorem dX9_takeSecond_125 : decode cX9_takeSecond 125 = .ok (.laload, 1) := by decide +kernel
theorem dX9_takeSecond_126 : decode cX9_takeSecond 126 = .ok (.goto 10, 3) := by decide +kernel
theorem dX9_takeSecond_129 : decode cX9_takeSecond 129 = .ok (.aload_n 0, 1) := by decide +kernel
theorem dX9_takeSecond_130 : decode cX9_takeSecond 130 = .ok (.getfield 22, 3) := by decide +kernel
theorem dX9_takeSecond_133 : decode cX9_takeSecond 133 = .ok (.iload_n 1, 1) := by decide +kernel
theorem dX9_takeSecond_134 : decode cX9_takeSecond 134 = .ok (.iaload, 1) := by decide +kernel
theorem dX9_takeSecond_135 : decode cX9_takeSecond 135 = .ok (.i2l, 1) := by decide +kernel
theorem dX9_takeSecond_136 : decode cX9_takeSecond 136 = .ok (.putfield 403, 3) := by decide +kernel
theorem dX9_takeSecond_139 : decode cX9_takeSecond 139 = .ok (.return_, 1) := by decide +kernel
theorem dX9_mask_0 : decode cX9_mask 0 = .ok (.lconst 0, 1) := by decide +kernel
theorem dX9_mask_1 : decode cX9_mask 1 = .ok (.lstore_n 2, 1) := by decide +kernel
theorem dX9_mask_2 : decode cX9_mask 2 = .ok (.lload_n 2, 1) := by decide +kernel
theorem dX9_mask_3 : decode cX9_mask 3 = .ok (.lload_n 0, 1) := by decide +kernel
theorem dX9_mask_4 : decode cX9_mask 4 = .ok (.invokestatic 175, 3) := by decide +kernel
theorem dX9_mask_7 : decode cX9_mask 7 = .ok (.ifCond .eq 12, 3) := by decide +kernel
theorem dX9_mask_10 : decode cX9_mask 10 = .ok (.lload_n 2, 1) := by decide +kernel
theorem dX9_mask_11 : decode cX9_mask 11 = .ok (.iconst 1, 1) := by decide +kernel
theorem dX9_mask_12 : decode cX9_mask 12 = .ok (.lshl, 1) := by decide +kernel
theorem dX9_mask_13 : decode cX9_mask 13 = .ok (.lconst 1, 1) := by decide +kernel
theorem dX9_mask_14 : decode cX9_mask 14 = .ok (.lor, 1) := by decide +kernel
theorem dX9_mask_15 : decode cX9_mask 15 = .ok (.lstore_n 2, 1) := by decide +kernel
theorem dX9_mask_16 : decode cX9_mask 16 = .ok (.goto (-14), 3) := by decide +kernel
theorem dX9_mask_19 : decode cX9_mask 19 = .ok (.lload_n 2, 1) := by decide +kernel
theorem dX9_mask_20 : decode cX9_mask 20 = .ok (.lreturn, 1) := by decide +kernel
theorem dX9_reckonMoved_0 : decode cX9_reckonMoved 0 = .ok (.aload_n 0, 1) := by decide +kernel
theorem dX9_reckonMoved_1 : decode cX9_reckonMoved 1 = .ok (.getfield 13, 3) := by decide +kernel
theorem dX9_reckonMoved_4 : decode cX9_reckonMoved 4 = .ok (.iload_n 1, 1) := by decide +kernel
theorem dX9_reckonMoved_5 : decode cX9_reckonMoved 5 = .ok (.iaload, 1) := by decide +kernel
theorem dX9_reckonMoved_6 : decode cX9_reckonMoved 6 = .ok (.istore 13, 2) := by decide +kernel
theorem dX9_reckonMoved_8 : decode cX9_reckonMoved 8 = .ok (.lload 8, 2) := by decide +kernel
theorem dX9_reckonMoved_10 : decode cX9_reckonMoved 10 = .ok (.lload 10, 2) := by decide +kernel
theorem dX9_reckonMoved_12 : decode cX9_reckonMoved 12 = .ok (.lcmp, 1) := by decide +kernel
theorem dX9_reckonMoved_13 : decode cX9_reckonMoved 13 = .ok (.ifCond .ne 7, 3) := by decide +kernel
theorem dX9_reckonMoved_16 : decode cX9_reckonMoved 16 = .ok (.iconst 1, 1) := by decide +kernel
theorem dX9_reckonMoved_17 : decode cX9_reckonMoved 17 = .ok (.goto 4, 3) := by decide +kernel
theorem dX9_reckonMoved_20 : decode cX9_reckonMoved 20 = .ok (.iconst 0, 1) := by decide +kernel
theorem dX9_reckonMoved_21 : decode cX9_reckonMoved 21 = .ok (.istore 14, 2) := by decide +kernel
theorem dX9_reckonMoved_23 : decode cX9_reckonMoved 23 = .ok (.iload_n 2, 1) := by decide +kernel
theorem dX9_reckonMoved_24 : decode cX9_reckonMoved 24 = .ok (.bipush 7, 2) := by decide +kernel
theorem dX9_reckonMoved_26 : decode cX9_reckonMoved 26 = .ok (.if_icmp .eq 32, 3) := by decide +kernel
theorem dX9_reckonMoved_29 : decode cX9_reckonMoved 29 = .ok (.iload_n 2, 1) := by decide +kernel
theorem dX9_reckonMoved_30 : decode cX9_reckonMoved 30 = .ok (.bipush 12, 2) := by decide +kernel
theorem dX9_reckonMoved_32 : decode cX9_reckonMoved 32 = .ok (.if_icmp .ne 30, 3) := by decide +kernel
theorem dX9_reckonMoved_35 : decode cX9_reckonMoved 35 = .ok (.iload_n 3, 1) := by decide +kernel
theorem dX9_reckonMoved_36 : decode cX9_reckonMoved 36 = .ok (.ifCond .eq 13, 3) := by decide +kernel
theorem dX9_reckonMoved_39 : decode cX9_reckonMoved 39 = .ok (.lload 6, 2) := by decide +kernel
theorem dX9_reckonMoved_41 : decode cX9_reckonMoved 41 = .ok (.lconst 0, 1) := by decide +kernel
theorem dX9_reckonMoved_42 : decode cX9_reckonMoved 42 = .ok (.lcmp, 1) := by decide +kernel
theorem dX9_reckonMoved_43 : decode cX9_reckonMoved 43 = .ok (.ifCond .lt 19, 3) := by decide +kernel
theorem dX9_reckonMoved_46 : decode cX9_reckonMoved 46 = .ok (.goto 12, 3) := by decide +kernel
theorem dX9_reckonMoved_49 : decode cX9_reckonMoved 49 = .ok (.lload 6, 2) := by decide +kernel
theorem dX9_reckonMoved_51 : decode cX9_reckonMoved 51 = .ok (.ldc2_w 440, 3) := by decide +kernel
theorem dX9_reckonMoved_54 : decode cX9_reckonMoved 54 = .ok (.lcmp, 1) := by decide +kernel
theorem dX9_reckonMoved_55 : decode cX9_reckonMoved 55 = .ok (.ifCond .ge 7, 3) := by decide +kernel
theorem dX9_reckonMoved_58 : decode cX9_reckonMoved 58 = .ok (.iconst 1, 1) := by decide +kernel
theorem dX9_reckonMoved_59 : decode cX9_reckonMoved 59 = .ok (.goto 4, 3) := by decide +kernel
theorem dX9_reckonMoved_62 : decode cX9_reckonMoved 62 = .ok (.iconst 0, 1) := by decide +kernel
theorem dX9_reckonMoved_63 : decode cX9_reckonMoved 63 = .ok (.istore 15, 2) := by decide +kernel
theorem dX9_reckonMoved_65 : decode cX9_reckonMoved 65 = .ok (.iload_n 2, 1) := by decide +kernel
theorem dX9_reckonMoved_66 : decode cX9_reckonMoved 66 = .ok (.bipush 6, 2) := by decide +kernel
theorem dX9_reckonMoved_68 : decode cX9_reckonMoved 68 = .ok (.if_icmp .ne 57, 3) := by decide +kernel
theorem dX9_reckonMoved_71 : decode cX9_reckonMoved 71 = .ok (.lload 6, 2) := by decide +kernel
theorem dX9_reckonMoved_73 : decode cX9_reckonMoved 73 = .ok (.iload 12, 2) := by decide +kernel
theorem dX9_reckonMoved_75 : decode cX9_reckonMoved 75 = .ok (.lshl, 1) := by decide +kernel
theorem dX9_reckonMoved_76 : decode cX9_reckonMoved 76 = .ok (.lstore 16, 2) := by decide +kernel
theorem dX9_reckonMoved_78 : decode cX9_reckonMoved 78 = .ok (.iload 14, 2) := by decide +kernel
theorem dX9_reckonMoved_80 : decode cX9_reckonMoved 80 = .ok (.ifCond .eq 42, 3) := by decide +kernel
theorem dX9_reckonMoved_83 : decode cX9_reckonMoved 83 = .ok (.lload 16, 2) := by decide +kernel
theorem dX9_reckonMoved_85 : decode cX9_reckonMoved 85 = .ok (.iload 12, 2) := by decide +kernel
theorem dX9_reckonMoved_87 : decode cX9_reckonMoved 87 = .ok (.lushr, 1) := by decide +kernel
theorem dX9_reckonMoved_88 : decode cX9_reckonMoved 88 = .ok (.lload 6, 2) := by decide +kernel
theorem dX9_reckonMoved_90 : decode cX9_reckonMoved 90 = .ok (.lcmp, 1) := by decide +kernel
theorem dX9_reckonMoved_91 : decode cX9_reckonMoved 91 = .ok (.ifCond .ne 31, 3) := by decide +kernel
theorem dX9_reckonMoved_94 : decode cX9_reckonMoved 94 = .ok (.iload_n 3, 1) := by decide +kernel
theorem dX9_reckonMoved_95 : decode cX9_reckonMoved 95 = .ok (.ifCond .ne 14, 3) := by decide +kernel
theorem dX9_reckonMoved_98 : decode cX9_reckonMoved 98 = .ok (.ldc2_w 192, 3) := by decide +kernel
theorem dX9_reckonMoved_101 : decode cX9_reckonMoved 101 = .ok (.lload 16, 2) := by decide +kernel
theorem dX9_reckonMoved_103 : decode cX9_reckonMoved 103 = .ok (.invokestatic 175, 3) := by decide +kernel
theorem dX9_reckonMoved_106 : decode cX9_reckonMoved 106 = .ok (.ifCond .ne 16, 3) := by decide +kernel
theorem dX9_reckonMoved_109 : decode cX9_reckonMoved 109 = .ok (.aload_n 0, 1) := by decide +kernel
theorem dX9_reckonMoved_110 : decode cX9_reckonMoved 110 = .ok (.iload 13, 2) := by decide +kernel
theorem dX9_reckonMoved_112 : decode cX9_reckonMoved 112 = .ok (.lload 4, 2) := by decide +kernel
theorem dX9_reckonMoved_114 : decode cX9_reckonMoved 114 = .ok (.iload 12, 2) := by decide +kernel
theorem dX9_reckonMoved_116 : decode cX9_reckonMoved 116 = .ok (.lshl, 1) := by decide +kernel
theorem dX9_reckonMoved_117 : decode cX9_reckonMoved 117 = .ok (.lload 16, 2) := by decide +kernel
theorem dX9_reckonMoved_119 : decode cX9_reckonMoved 119 = .ok (.invokevirtual 393, 3) := by decide +kernel
theorem dX9_reckonMoved_122 : decode cX9_reckonMoved 122 = .ok (.goto 132, 3) := by decide +kernel
theorem dX9_reckonMoved_125 : decode cX9_reckonMoved 125 = .ok (.iload 15, 2) := by decide +kernel
theorem dX9_reckonMoved_127 : decode cX9_reckonMoved 127 = .ok (.ifCond .eq 41, 3) := by decide +kernel
theorem dX9_reckonMoved_130 : decode cX9_reckonMoved 130 = .ok (.aload_n 0, 1) := by decide +kernel
theorem dX9_reckonMoved_131 : decode cX9_reckonMoved 131 = .ok (.iload 13, 2) := by decide +kernel
theorem dX9_reckonMoved_133 : decode cX9_reckonMoved 133 = .ok (.iload 14, 2) := by decide +kernel
theorem dX9_reckonMoved_135 : decode cX9_reckonMoved 135 = .ok (.ifCond .eq 11, 3) := by decide +kernel
theorem dX9_reckonMoved_138 : decode cX9_reckonMoved 138 = .ok (.lload 4, 2) := by decide +kernel
theorem dX9_reckonMoved_140 : decode cX9_reckonMoved 140 = .ok (.iload 12, 2) := by decide +kernel
theorem dX9_reckonMoved_142 : decode cX9_reckonMoved 142 = .ok (.lushr, 1) := by decide +kernel
theorem dX9_reckonMoved_143 : decode cX9_reckonMoved 143 = .ok (.goto 4, 3) := by decide +kernel
theorem dX9_reckonMoved_146 : decode cX9_reckonMoved 146 = .ok (.lconst 0, 1) := by decide +kernel
theorem dX9_reckonMoved_147 : decode cX9_reckonMoved 147 = .ok (.iload 14, 2) := by decide +kernel
theorem dX9_reckonMoved_149 : decode cX9_reckonMoved 149 = .ok (.ifCond .eq 11, 3) := by decide +kernel
theorem dX9_reckonMoved_152 : decode cX9_reckonMoved 152 = .ok (.lload 6, 2) := by decide +kernel
theorem dX9_reckonMoved_154 : decode cX9_reckonMoved 154 = .ok (.iload 12, 2) := by decide +kernel
theorem dX9_reckonMoved_156 : decode cX9_reckonMoved 156 = .ok (.lushr, 1) := by decide +kernel
theorem dX9_reckonMoved_157 : decode cX9_reckonMoved 157 = .ok (.goto 5, 3) := by decide +kernel
theorem dX9_reckonMoved_160 : decode cX9_reckonMoved 160 = .ok (.lload 6, 2) := by decide +kernel
theorem dX9_reckonMoved_162 : decode cX9_reckonMoved 162 = .ok (.invokevirtual 393, 3) := by decide +kernel
theorem dX9_reckonMoved_165 : decode cX9_reckonMoved 165 = .ok (.goto 89, 3) := by decide +kernel
theorem dX9_reckonMoved_168 : decode cX9_reckonMoved 168 = .ok (.iload_n 2, 1) := by decide +kernel
theorem dX9_reckonMoved_169 : decode cX9_reckonMoved 169 = .ok (.bipush 13, 2) := by decide +kernel
theorem dX9_reckonMoved_171 : decode cX9_reckonMoved 171 = .ok (.if_icmp .ne 40, 3) := by decide +kernel
theorem dX9_reckonMoved_174 : decode cX9_reckonMoved 174 = .ok (.aload_n 0, 1) := by decide +kernel
theorem dX9_reckonMoved_175 : decode cX9_reckonMoved 175 = .ok (.iload 13, 2) := by decide +kernel
theorem dX9_reckonMoved_177 : decode cX9_reckonMoved 177 = .ok (.lconst 0, 1) := by decide +kernel
theorem dX9_reckonMoved_178 : decode cX9_reckonMoved 178 = .ok (.aload_n 0, 1) := by decide +kernel
theorem dX9_reckonMoved_179 : decode cX9_reckonMoved 179 = .ok (.getfield 22, 3) := by decide +kernel
theorem dX9_reckonMoved_182 : decode cX9_reckonMoved 182 = .ok (.iload_n 1, 1) := by decide +kernel
theorem dX9_reckonMoved_183 : decode cX9_reckonMoved 183 = .ok (.iaload, 1) := by decide +kernel
theorem dX9_reckonMoved_184 : decode cX9_reckonMoved 184 = .ok (.bipush 64, 2) := by decide +kernel
theorem dX9_reckonMoved_186 : decode cX9_reckonMoved 186 = .ok (.if_icmp .ne 9, 3) := by decide +kernel
theorem dX9_reckonMoved_189 : decode cX9_reckonMoved 189 = .ok (.ldc2_w 187, 3) := by decide +kernel
theorem dX9_reckonMoved_192 : decode cX9_reckonMoved 192 = .ok (.goto 13, 3) := by decide +kernel
theorem dX9_reckonMoved_195 : decode cX9_reckonMoved 195 = .ok (.lconst 1, 1) := by decide +kernel
theorem dX9_reckonMoved_196 : decode cX9_reckonMoved 196 = .ok (.aload_n 0, 1) := by decide +kernel
theorem dX9_reckonMoved_197 : decode cX9_reckonMoved 197 = .ok (.getfield 22, 3) := by decide +kernel
theorem dX9_reckonMoved_200 : decode cX9_reckonMoved 200 = .ok (.iload_n 1, 1) := by decide +kernel
theorem dX9_reckonMoved_201 : decode cX9_reckonMoved 201 = .ok (.iaload, 1) := by decide +kernel
theorem dX9_reckonMoved_202 : decode cX9_reckonMoved 202 = .ok (.lshl, 1) := by decide +kernel
theorem dX9_reckonMoved_203 : decode cX9_reckonMoved 203 = .ok (.lconst 1, 1) := by decide +kernel
theorem dX9_reckonMoved_204 : decode cX9_reckonMoved 204 = .ok (.lsub, 1) := by decide +kernel
theorem dX9_reckonMoved_205 : decode cX9_reckonMoved 205 = .ok (.invokevirtual 393, 3) := by decide +kernel
theorem dX9_reckonMoved_208 : decode cX9_reckonMoved 208 = .ok (.goto 46, 3) := by decide +kernel
theorem dX9_reckonMoved_211 : decode cX9_reckonMoved 211 = .ok (.iload_n 2, 1) := by decide +kernel
theorem dX9_reckonMoved_212 : decode cX9_reckonMoved 212 = .ok (.bipush 11, 2) := by decide +kernel
theorem dX9_reckonMoved_214 : decode cX9_reckonMoved 214 = .ok (.if_icmp .ne 40, 3) := by decide +kernel
theorem dX9_reckonMoved_217 : decode cX9_reckonMoved 217 = .ok (.aload_n 0, 1) := by decide +kernel
theorem dX9_reckonMoved_218 : decode cX9_reckonMoved 218 = .ok (.getfield 19, 3) := by decide +kernel
theorem dX9_reckonMoved_221 : decode cX9_reckonMoved 221 = .ok (.iload_n 1, 1) := by decide +kernel
theorem dX9_reckonMoved_222 : decode cX9_reckonMoved 222 = .ok (.iaload, 1) := by decide +kernel
theorem dX9_reckonMoved_223 : decode cX9_reckonMoved 223 = .ok (.ifCond .eq 21, 3) := by decide +kernel
theorem dX9_reckonMoved_226 : decode cX9_reckonMoved 226 = .ok (.lload 10, 2) := by decide +kernel
theorem dX9_reckonMoved_228 : decode cX9_reckonMoved 228 = .ok (.lconst 1, 1) := by decide +kernel
theorem dX9_reckonMoved_229 : decode cX9_reckonMoved 229 = .ok (.aload_n 0, 1) := by decide +kernel
theorem dX9_reckonMoved_230 : decode cX9_reckonMoved 230 = .ok (.getfield 19, 3) := by decide +kernel
theorem dX9_reckonMoved_233 : decode cX9_reckonMoved 233 = .ok (.iload_n 1, 1) := by decide +kernel
theorem dX9_reckonMoved_234 : decode cX9_reckonMoved 234 = .ok (.iaload, 1) := by decide +kernel
theorem dX9_reckonMoved_235 : decode cX9_reckonMoved 235 = .ok (.iconst 1, 1) := by decide +kernel
theorem dX9_reckonMoved_236 : decode cX9_reckonMoved 236 = .ok (.isub, 1) := by decide +kernel
theorem dX9_reckonMoved_237 : decode cX9_reckonMoved 237 = .ok (.lshl, 1) := by decide +kernel
theorem dX9_reckonMoved_238 : decode cX9_reckonMoved 238 = .ok (.invokestatic 175, 3) := by decide +kernel
theorem dX9_reckonMoved_241 : decode cX9_reckonMoved 241 = .ok (.ifCond .eq 13, 3) := by decide +kernel
theorem dX9_reckonMoved_244 : decode cX9_reckonMoved 244 = .ok (.aload_n 0, 1) := by decide +kernel
theorem dX9_reckonMoved_245 : decode cX9_reckonMoved 245 = .ok (.iload 13, 2) := by decide +kernel
theorem dX9_reckonMoved_247 : decode cX9_reckonMoved 247 = .ok (.lload 8, 2) := by decide +kernel
theorem dX9_reckonMoved_249 : decode cX9_reckonMoved 249 = .ok (.lload 10, 2) := by decide +kernel
theorem dX9_reckonMoved_251 : decode cX9_reckonMoved 251 = .ok (.invokevirtual 393, 3) := by decide +kernel
theorem dX9_reckonMoved_254 : decode cX9_reckonMoved 254 = .ok (.return_, 1) := by decide +kernel
-- JudgedCodeModel.isWay
def f_X9_isWay (S : sh) (D : dt) (o0 : Nat) (x1 : Int32) : Option Int32 := if x1 ≤ (gI D o0 46) then (some (0 : Int32)) else (if (gI D o0 0) ≤ x1 then (some (0 : Int32)) else (rq (gR D o0 28) fun o11 => ix x1 (sA S o11) <| if (gI D o11 x1.toNatClampNeg) = 0 then (some (1 : Int32)) else (some (0 : Int32))))
-- JudgedCodeModel.takeSecond
def f_X9_takeSecond_136 (S : sh) (os0 : Nat) (xs1 : Int64) (D : dt) : Option (Unit × dt) := nm (pL D os0 52 xs1) fun D71 => some ((), D71)
def f_X9_takeSecond_107 (S : sh) (o0 : Nat) (x1 : Int32) (x2 : Int32) (os0 : Nat) (xs1 : Int64) (D : dt) : Option (Unit × dt) := nm (pL D os0 51 xs1) fun D72 => if x2 = 0 then (rq (gR D72 o0 5) fun o74 => ix x1 (sA S o74) <| f_X9_takeSecond_136 S o0 ((gI D72 o74 x1.toNatClampNeg).toInt64) D72) else (rq (gR D72 o0 42) fun o79 => rq (gR D72 o0 3) fun o83 => ix x1 (sA S o83) <| ix (gI D72 o83 x1.toNatClampNeg) (sA S o79) <| f_X9_takeSecond_136 S o0 (gL D72 o79 (gI D72 o83 x1.toNatClampNeg).toNatClampNeg) D72)
def f_X9_takeSecond_78 (S : sh) (o0 : Nat) (x1 : Int32) (x2 : Int32) (os0 : Nat) (xs1 : Int32) (D : dt) : Option (Unit × dt) := nm (pI D os0 50 xs1) fun D89 => if x2 = 0 then (rq (gR D89 o0 5) fun o91 => ix x1 (sA S o91) <| f_X9_takeSecond_107 S o0 x1 x2 o0 ((gI D89 o91 x1.toNatClampNeg).toInt64) D89) else (rq (gR D89 o0 41) fun o96 => rq (gR D89 o0 3) fun o100 => ix x1 (sA S o100) <| ix (gI D89 o100 x1.toNatClampNeg) (sA S o96) <| f_X9_takeSecond_107 S o0 x1 x2 o0 (gL D89 o96 (gI D89 o100 x1.toNatClampNeg).toNatClampNeg) D89)
def f_X9_takeSecond_57 (S : sh) (o0 : Nat) (x1 : Int32) (xs0 : Int32) (D : dt) : Option (Unit × dt) := if xs0 = 0 then (f_X9_takeSecond_78 S o0 x1 xs0 o0 (1 : Int32) D) else (rq (gR D o0 40) fun o107 => rq (gR D o0 3) fun o111 => ix x1 (sA S o111) <| ix (gI D o111 x1.toNatClampNeg) (sA S o107) <| f_X9_takeSecond_78 S o0 x1 xs0 o0 (gI D o107 (gI D o111 x1.toNatClampNeg).toNatClampNeg) D)
def f_X9_takeSecond_56 (S : sh) (o0 : Nat) (x1 : Int32) (D : dt) : Option (Unit × dt) := f_X9_takeSecond_57 S o0 x1 (0 : Int32) D
def f_X9_takeSecond_52 (S : sh) (o0 : Nat) (x1 : Int32) (D : dt) : Option (Unit × dt) := f_X9_takeSecond_57 S o0 x1 (1 : Int32) D
def f_X9_takeSecond (S : sh) (o0 : Nat) (x1 : Int32) (D : dt) : Option (Unit × dt) := rq (gR D o0 1) fun o117 => ix x1 (sA S o117) <| if ((gI D o117 x1.toNatClampNeg) &&& (8 : Int32)) = 0 then (f_X9_takeSecond_56 S o0 x1 D) else (rq (gR D o0 1) fun o123 => ix x1 (sA S o123) <| if ((gI D o123 x1.toNatClampNeg) &&& (7 : Int32)) = (5 : Int32) then (f_X9_takeSecond_52 S o0 x1 D) else (rq (gR D o0 1) fun o129 => ix x1 (sA S o129) <| if ((gI D o129 x1.toNatClampNeg) &&& (7 : Int32)) = (6 : Int32) then (f_X9_takeSecond_52 S o0 x1 D) else (rq (gR D o0 1) fun o135 => ix x1 (sA S o135) <| if ((gI D o135 x1.toNatClampNeg) >>> ((4 : Int32) &&& 31)) = (13 : Int32) then (f_X9_takeSecond_56 S o0 x1 D) else (f_X9_takeSecond_52 S o0 x1 D))))
-- JudgedCodeModel.mask
def f_X9_mask_2 : Nat → Int64 → Int64 → Option Int64
  | 0, _, _ => none
  | n + 1, x0, x2 => pq (f_X9_isBelow x2 x0) fun r7 => if r7 = 0 then (some x2) else (nm ((j_lshl x2 (1 : Int32)) ||| (1 : Int64)) fun y9 => f_X9_mask_2 n x0 y9)
def f_X9_mask (x0 : Int64) : Option Int64 := nm ((0 : Int64)) fun y10 => f_X9_mask_2 LF x0 y10
-- JudgedCodeModel.reckonMoved
def f_X9_reckonMoved_122 (S : sh) (D : dt) : Option (Unit × dt) := some ((), D)
def f_X9_reckonMoved_109 (S : sh) (o0 : Nat) (x4 : Int64) (x12 : Int32) (x13 : Int32) (x16 : Int64) (D : dt) : Option (Unit × dt) := cq (f_X9_number S o0 x13 (j_lshl x4 x12) x16 D) fun _ D60 => f_X9_reckonMoved_122 S D60
def f_X9_reckonMoved_205 (S : sh) (os0 : Nat) (xs1 : Int32) (xs2 : Int64) (xs3 : Int64) (D : dt) : Option (Unit × dt) := cq (f_X9_number S os0 xs1 xs2 xs3 D) fun _ D62 => some ((), D62)
def f_X9_reckonMoved_162 (S : sh) (os0 : Nat) (xs1 : Int32) (xs2 : Int64) (xs3 : Int64) (D : dt) : Option (Unit × dt) := cq (f_X9_number S os0 xs1 xs2 xs3 D) fun _ D64 => some ((), D64)
def f_X9_reckonMoved_147 (S : sh) (x6 : Int64) (x12 : Int32) (x14 : Int32) (os0 : Nat) (xs1 : Int32) (xs2 : Int64) (D : dt) : Option (Unit × dt) := if x14 = 0 then (f_X9_reckonMoved_162 S os0 xs1 xs2 x6 D) else (f_X9_reckonMoved_162 S os0 xs1 xs2 (j_lushr x6 x12) D)
def f_X9_reckonMoved_244 (S : sh) (o0 : Nat) (x8 : Int64) (x10 : Int64) (x13 : Int32) (D : dt) : Option (Unit × dt) := cq (f_X9_number S o0 x13 x8 x10 D) fun _ D67 => some ((), D67)
def f_X9_reckonMoved_63 (S : sh) (o0 : Nat) (x1 : Int32) (x2 : Int32) (x3 : Int32) (x4 : Int64) (x6 : Int64) (x8 : Int64) (x10 : Int64) (x12 : Int32) (x13 : Int32) (x14 : Int32) (xs0 : Int32) (D : dt) : Option (Unit × dt) := if x2 = (6 : Int32) then (nm (j_lshl x6 x12) fun y98 => if x14 = 0 then (f_X9_reckonMoved_122 S D) else (if (lg_cmp (j_lushr y98 x12) x6) = 0 then (if x3 = 0 then (pq (f_X9_isBelow (4294967295 : Int64) y98) fun r103 => if r103 = 0 then (f_X9_reckonMoved_109 S o0 x4 x12 x13 y98 D) else (f_X9_reckonMoved_122 S D)) else (f_X9_reckonMoved_109 S o0 x4 x12 x13 y98 D)) else (f_X9_reckonMoved_122 S D))) else (if xs0 = 0 then (if x2 = (13 : Int32) then (rq (gR D o0 5) fun o86 => ix x1 (sA S o86) <| if (gI D o86 x1.toNatClampNeg) = (64 : Int32) then (f_X9_reckonMoved_205 S o0 x13 (0 : Int64) (-1 : Int64) D) else (rq (gR D o0 5) fun o92 => ix x1 (sA S o92) <| f_X9_reckonMoved_205 S o0 x13 (0 : Int64) ((j_lshl (1 : Int64) (gI D o92 x1.toNatClampNeg)) - (1 : Int64)) D)) else (if x2 = (11 : Int32) then (rq (gR D o0 4) fun o72 => ix x1 (sA S o72) <| if (gI D o72 x1.toNatClampNeg) = 0 then (f_X9_reckonMoved_244 S o0 x8 x10 x13 D) else (rq (gR D o0 4) fun o78 => ix x1 (sA S o78) <| pq (f_X9_isBelow x10 (j_lshl (1 : Int64) ((gI D o78 x1.toNatClampNeg) - (1 : Int32)))) fun r84 => if r84 = 0 then (some ((), D)) else (f_X9_reckonMoved_244 S o0 x8 x10 x13 D))) else (some ((), D)))) else (if x14 = 0 then (f_X9_reckonMoved_147 S x6 x12 x14 o0 x13 (0 : Int64) D) else (f_X9_reckonMoved_147 S x6 x12 x14 o0 x13 (j_lushr x4 x12) D)))
def f_X9_reckonMoved_58 (S : sh) (o0 : Nat) (x1 : Int32) (x2 : Int32) (x3 : Int32) (x4 : Int64) (x6 : Int64) (x8 : Int64) (x10 : Int64) (x12 : Int32) (x13 : Int32) (x14 : Int32) (D : dt) : Option (Unit × dt) := f_X9_reckonMoved_63 S o0 x1 x2 x3 x4 x6 x8 x10 x12 x13 x14 (1 : Int32) D
def f_X9_reckonMoved_62 (S : sh) (o0 : Nat) (x1 : Int32) (x2 : Int32) (x3 : Int32) (x4 : Int64) (x6 : Int64) (x8 : Int64) (x10 : Int64) (x12 : Int32) (x13 : Int32) (x14 : Int32) (D : dt) : Option (Unit × dt) := f_X9_reckonMoved_63 S o0 x1 x2 x3 x4 x6 x8 x10 x12 x13 x14 (0 : Int32) D
def f_X9_reckonMoved_21 (S : sh) (o0 : Nat) (x1 : Int32) (x2 : Int32) (x3 : Int32) (x4 : Int64) (x6 : Int64) (x8 : Int64) (x10 : Int64) (x12 : Int32) (x13 : Int32) (xs0 : Int32) (D : dt) : Option (Unit × dt) := if x2 = (7 : Int32) then (f_X9_reckonMoved_58 S o0 x1 x2 x3 x4 x6 x8 x10 x12 x13 xs0 D) else (if x2 = (12 : Int32) then (if x3 = 0 then (if 0 ≤ (lg_cmp x6 (2147483648 : Int64)) then (f_X9_reckonMoved_62 S o0 x1 x2 x3 x4 x6 x8 x10 x12 x13 xs0 D) else (f_X9_reckonMoved_58 S o0 x1 x2 x3 x4 x6 x8 x10 x12 x13 xs0 D)) else (if (lg_cmp x6 (0 : Int64)) < 0 then (f_X9_reckonMoved_62 S o0 x1 x2 x3 x4 x6 x8 x10 x12 x13 xs0 D) else (f_X9_reckonMoved_58 S o0 x1 x2 x3 x4 x6 x8 x10 x12 x13 xs0 D))) else (f_X9_reckonMoved_62 S o0 x1 x2 x3 x4 x6 x8 x10 x12 x13 xs0 D))
def f_X9_reckonMoved (S : sh) (o0 : Nat) (x1 : Int32) (x2 : Int32) (x3 : Int32) (x4 : Int64) (x6 : Int64) (x8 : Int64) (x10 : Int64) (x12 : Int32) (D : dt) : Option (Unit × dt) := rq (gR D o0 2) fun o110 => ix x1 (sA S o110) <| nm (gI D o110 x1.toNatClampNeg) fun y115 => if (lg_cmp x8 x10) = 0 then (f_X9_reckonMoved_21 S o0 x1 x2 x3 x4 x6 x8 x10 x12 y115 (1 : Int32) D) else (f_X9_reckonMoved_21 S o0 x1 x2 x3 x4 x6 x8 x10 x12 y115 (0 : Int32) D)
theorem mk_X9_isWay : MkV yX9_isWay RX9 cX9_isWay 2 (some .boolean) 1 := ⟨⟨lk_1525, lk_98, lk_121, (tb_in (i := 1526) (by decide +kernel) (by decide +kernel))⟩, by decide +kernel⟩
theorem mk_X9_takeSecond : MkV yX9_takeSecond RX9 cX9_takeSecond 3 none 1 := ⟨⟨lk_1486, lk_91, lk_121, (tb_in (i := 1487) (by decide +kernel) (by decide +kernel))⟩, by decide +kernel⟩
theorem mk_X9_mask : MkS yX9_mask cX9_mask 4 (some .long) 1 := ⟨⟨lk_1501, lk_121, (tb_in (i := 1502) (by decide +kernel) (by decide +kernel))⟩, by decide +kernel⟩
theorem mk_X9_reckonMoved : MkV yX9_reckonMoved RX9 cX9_reckonMoved 18 none 8 := ⟨⟨lk_1505, lk_95, lk_121, (tb_in (i := 1506) (by decide +kernel) (by decide +kernel))⟩, by decide +kernel⟩
section
variable {p : Program} {l : Launch} {e : Env} {R : Room} {s : State} {m : MethodId} {args : Array Value} {below : List Frame} {meth : Method} {c : Code} {H : Heap} {locs : List Loc} {G : va_G} {cA : Nat → ClassId} {S : sh} {D : dt} {ad : Nat → Nat} {A : Nat → Prop}
set_option maxHeartbeats 4000000 in
set_option maxRecDepth 100000 in
theorem w_X9_isWay_0 {r : Int32} (hC : Cx RX9 cX9_isWay 2 (some .boolean) p s m args meth c) (hR : 0 ≤ R.frames ∧ 0 ≤ R.locals) : ∀ (o0 a0 : Nat) (x1 : Int32) (H : Heap) (locs : List Loc) (ls : Array Slot), Is S ad o0 a0 8 → Wd G cA S D ad A s H locs → lv_has ls 2 [(0, .ref a0), (1, .int x1)] → f_X9_isWay S D o0 x1 = some r → W p l e R s m args below meth c H locs 0 0 (MQ below (Qn (some (.int r)) True (wpost G cA S D ad A) A) args s 0 0 A) (F0 m 0 ls []) := by
  obtain ⟨hx, hb, -⟩ := id hC
  intro o0 a0 x1 H locs ls hi0 hw hl h
  unfold f_X9_isWay at h
  refine lv_iload_n hx hb dX9_isWay_0 rfl (lv_at hl 1 rfl) ?_
  refine lv_aload_n hx hb dX9_isWay_1 rfl (lv_at hl 0 rfl) ?_
  refine r_gI hC hw kc_8 hi0 46 rfl lk_1118 dX9_isWay_2 ?_
  refine lv_icmp_le (tgt := 29) hx hb dX9_isWay_5 (by decide) (fun c9 => ?_) (fun c9 => ?_)
  · have h := i_yes c9 h
    refine lv_iconst (v := 0) hx hb dX9_isWay_29 (by decide) ?_
    cases h
    exact r_zret hC hw (Or.inl rfl) dX9_isWay_30
  · have h := i_no c9 h
    refine lv_iload_n hx hb dX9_isWay_8 rfl (lv_at hl 1 rfl) ?_
    refine lv_aload_n hx hb dX9_isWay_9 rfl (lv_at hl 0 rfl) ?_
    refine r_gI hC hw kc_8 hi0 0 rfl lk_1072 dX9_isWay_10 ?_
    refine lv_icmp_ge (tgt := 29) hx hb dX9_isWay_13 (by decide) (fun c10 => ?_) (fun c10 => ?_)
    · have h := i_yes c10 h
      refine lv_iconst (v := 0) hx hb dX9_isWay_29 (by decide) ?_
      cases h
      exact r_zret hC hw (Or.inl rfl) dX9_isWay_30
    · have h := i_no c10 h
      refine lv_aload_n hx hb dX9_isWay_16 rfl (lv_at hl 0 rfl) ?_
      obtain ⟨o11, ho14, h⟩ := rq_i h
      refine r_getR hC hw kc_8 hi0 28 rfl lk_1100 dX9_isWay_17 rfl ho14 (fun a12 hi13 => ?_)
      refine lv_iload_n hx hb dX9_isWay_20 rfl (lv_at hl 1 rfl) ?_
      obtain ⟨hn15, h⟩ := ix_i h
      refine r_zald hC hw hi13 hn15 dX9_isWay_21 ?_
      refine lv_if_ne (tgt := 29) hx hb dX9_isWay_22 (by decide) (fun c16 => ?_) (fun c16 => ?_)
      · have h := i_no c16 h
        refine lv_iconst (v := 0) hx hb dX9_isWay_29 (by decide) ?_
        cases h
        exact r_zret hC hw (Or.inl rfl) dX9_isWay_30
      · have h := i_yes c16 h
        refine lv_iconst (v := 1) hx hb dX9_isWay_25 (by decide) ?_
        refine lv_goto (tgt := 30) hx hb dX9_isWay_26 (by decide) ?_
        cases h
        exact r_zret hC hw (Or.inr rfl) dX9_isWay_30
set_option maxHeartbeats 4000000 in
set_option maxRecDepth 100000 in
theorem k_X9_isWay {l : Launch} {G : va_G} {cA : Nat → ClassId} {S : sh} {D : dt} {ad : Nat → Nat} (sz : Nat) {o0 a0 : Nat} {x1 : Int32} {r : Int32} (hi0 : Is S ad o0 a0 8) (h : f_X9_isWay S D o0 x1 = some r) : Co l yX9_isWay (Cond.code yX9_isWay cX9_isWay 2 (some .boolean) :: tb0) 0 0 [.ref a0, .int x1] G cA S D ad sz (some (.int r)) True D := by
  refine Met.ofW (cc := cX9_isWay) (maxL := 2) (ret := (some .boolean)) (by decide) rfl ?_
  intro p e s m args below meth c s₁ B hml hv
  obtain ⟨rfl, hsz, hP, hK, hD0, hT, hX⟩ := hv
  subst hsz
  have hts := atoms_spec (ws := Cond.code yX9_isWay cX9_isWay 2 (some .boolean) :: tb0) B.pre
  have hC : Cx RX9 cX9_isWay 2 (some .boolean) p s m _ meth c := ⟨B.exec, B.bytes, hml, findClass_of_methodNamed B.named, fun w q => hts w (List.mem_cons_of_mem _ q), B.returns, B.notSynchronized⟩
  have hw := Wd.entry hP hK hD0 hT hX
  have hl := lv_entry ([.ref a0, .int x1]) (n := 2) (Nat.le_of_ble_eq_true rfl)
  rw [lg_entry_eq]
  exact w_X9_isWay_0 hC ⟨Nat.le_refl _, Nat.le_refl _⟩ o0 a0 x1 _ _ _ hi0 hw hl h
set_option maxHeartbeats 4000000 in
set_option maxRecDepth 100000 in
theorem w_X9_takeSecond_136 {r : Unit} {D' : dt} (hC : Cx RX9 cX9_takeSecond 3 none p s m args meth c) (hR : 0 ≤ R.frames ∧ 0 ≤ R.locals) : ∀ (os0 as0 : Nat) (xs1 : Int64) (D : dt) (H : Heap) (locs : List Loc) (ls : Array Slot), Is S ad os0 as0 8 → Wd G cA S D ad A s H locs → lv_has ls 3 [] → f_X9_takeSecond_136 S os0 xs1 D = some (r, D') → W p l e R s m args below meth c H locs 0 0 (MQ below (Qn none True (wpost G cA S D' ad A) A) args s 0 0 A) (F0 m 136 ls [.long xs1, .ref as0]) := by
  obtain ⟨hx, hb, -⟩ := id hC
  intro os0 as0 xs1 D H locs ls his0 hw hl h
  unfold f_X9_takeSecond_136 at h
  refine r_pL hC hw kc_8 his0 52 rfl lk_1124 rfl rfl rfl dX9_takeSecond_136 (fun D71 eD71 H locs hw => ?_)
  have h := nm_i h D71 eD71
  cases h
  exact r_vret hC hw dX9_takeSecond_139
set_option maxHeartbeats 4000000 in
set_option maxRecDepth 100000 in
theorem w_X9_takeSecond_107 {r : Unit} {D' : dt} (hC : Cx RX9 cX9_takeSecond 3 none p s m args meth c) (hR : 0 ≤ R.frames ∧ 0 ≤ R.locals) : ∀ (o0 a0 : Nat) (x1 : Int32) (x2 : Int32) (os0 as0 : Nat) (xs1 : Int64) (D : dt) (H : Heap) (locs : List Loc) (ls : Array Slot), Is S ad o0 a0 8 → Is S ad os0 as0 8 → Wd G cA S D ad A s H locs → lv_has ls 3 [(0, .ref a0), (1, .int x1), (2, .int x2)] → f_X9_takeSecond_107 S o0 x1 x2 os0 xs1 D = some (r, D') → W p l e R s m args below meth c H locs 0 0 (MQ below (Qn none True (wpost G cA S D' ad A) A) args s 0 0 A) (F0 m 107 ls [.long xs1, .ref as0]) := by
  obtain ⟨hx, hb, -⟩ := id hC
  intro o0 a0 x1 x2 os0 as0 xs1 D H locs ls hi0 his0 hw hl h
  unfold f_X9_takeSecond_107 at h
  refine r_pL hC hw kc_8 his0 51 rfl lk_1123 rfl rfl rfl dX9_takeSecond_107 (fun D72 eD72 H locs hw => ?_)
  have h := nm_i h D72 eD72
  refine lv_aload_n hx hb dX9_takeSecond_110 rfl (lv_at hl 0 rfl) ?_
  refine lv_iload_n hx hb dX9_takeSecond_111 rfl (lv_at hl 2 rfl) ?_
  refine lv_if_eq (tgt := 129) hx hb dX9_takeSecond_112 (by decide) (fun c73 => ?_) (fun c73 => ?_)
  · have h := i_yes c73 h
    refine lv_aload_n hx hb dX9_takeSecond_129 rfl (lv_at hl 0 rfl) ?_
    obtain ⟨o74, ho77, h⟩ := rq_i h
    refine r_getR hC hw kc_8 hi0 5 rfl lk_1077 dX9_takeSecond_130 rfl ho77 (fun a75 hi76 => ?_)
    refine lv_iload_n hx hb dX9_takeSecond_133 rfl (lv_at hl 1 rfl) ?_
    obtain ⟨hn78, h⟩ := ix_i h
    refine r_iald hC hw hi76 hn78 dX9_takeSecond_134 ?_
    refine lv_i2l (v := (gI D72 o74 x1.toNatClampNeg).toInt64) hx hb dX9_takeSecond_135 rfl ?_
    exact w_X9_takeSecond_136 hC hR o0 a0 ((gI D72 o74 x1.toNatClampNeg).toInt64) _ _ _ _ hi0 hw (lv_sub hl [] rfl) h
  · have h := i_no c73 h
    refine lv_aload_n hx hb dX9_takeSecond_115 rfl (lv_at hl 0 rfl) ?_
    obtain ⟨o79, ho82, h⟩ := rq_i h
    refine r_getR hC hw kc_8 hi0 42 rfl lk_1114 dX9_takeSecond_116 rfl ho82 (fun a80 hi81 => ?_)
    refine lv_aload_n hx hb dX9_takeSecond_119 rfl (lv_at hl 0 rfl) ?_
    obtain ⟨o83, ho86, h⟩ := rq_i h
    refine r_getR hC hw kc_8 hi0 3 rfl lk_1075 dX9_takeSecond_120 rfl ho86 (fun a84 hi85 => ?_)
    refine lv_iload_n hx hb dX9_takeSecond_123 rfl (lv_at hl 1 rfl) ?_
    obtain ⟨hn87, h⟩ := ix_i h
    refine r_iald hC hw hi85 hn87 dX9_takeSecond_124 ?_
    obtain ⟨hn88, h⟩ := ix_i h
    refine r_lald hC hw hi81 hn88 dX9_takeSecond_125 ?_
    refine lv_goto (tgt := 136) hx hb dX9_takeSecond_126 (by decide) ?_
    exact w_X9_takeSecond_136 hC hR o0 a0 (gL D72 o79 (gI D72 o83 x1.toNatClampNeg).toNatClampNeg) _ _ _ _ hi0 hw (lv_sub hl [] rfl) h
set_option maxHeartbeats 4000000 in
set_option maxRecDepth 100000 in
theorem w_X9_takeSecond_78 {r : Unit} {D' : dt} (hC : Cx RX9 cX9_takeSecond 3 none p s m args meth c) (hR : 0 ≤ R.frames ∧ 0 ≤ R.locals) : ∀ (o0 a0 : Nat) (x1 : Int32) (x2 : Int32) (os0 as0 : Nat) (xs1 : Int32) (D : dt) (H : Heap) (locs : List Loc) (ls : Array Slot), Is S ad o0 a0 8 → Is S ad os0 as0 8 → Wd G cA S D ad A s H locs → lv_has ls 3 [(0, .ref a0), (1, .int x1), (2, .int x2)] → f_X9_takeSecond_78 S o0 x1 x2 os0 xs1 D = some (r, D') → W p l e R s m args below meth c H locs 0 0 (MQ below (Qn none True (wpost G cA S D' ad A) A) args s 0 0 A) (F0 m 78 ls [.int xs1, .ref as0]) := by
  obtain ⟨hx, hb, -⟩ := id hC
  intro o0 a0 x1 x2 os0 as0 xs1 D H locs ls hi0 his0 hw hl h
  unfold f_X9_takeSecond_78 at h
  refine r_pI hC hw kc_8 his0 50 rfl lk_1122 rfl rfl rfl dX9_takeSecond_78 (fun D89 eD89 H locs hw => ?_)
  have h := nm_i h D89 eD89
  refine lv_aload_n hx hb dX9_takeSecond_81 rfl (lv_at hl 0 rfl) ?_
  refine lv_iload_n hx hb dX9_takeSecond_82 rfl (lv_at hl 2 rfl) ?_
  refine lv_if_eq (tgt := 100) hx hb dX9_takeSecond_83 (by decide) (fun c90 => ?_) (fun c90 => ?_)
  · have h := i_yes c90 h
    refine lv_aload_n hx hb dX9_takeSecond_100 rfl (lv_at hl 0 rfl) ?_
    obtain ⟨o91, ho94, h⟩ := rq_i h
    refine r_getR hC hw kc_8 hi0 5 rfl lk_1077 dX9_takeSecond_101 rfl ho94 (fun a92 hi93 => ?_)
    refine lv_iload_n hx hb dX9_takeSecond_104 rfl (lv_at hl 1 rfl) ?_
    obtain ⟨hn95, h⟩ := ix_i h
    refine r_iald hC hw hi93 hn95 dX9_takeSecond_105 ?_
    refine lv_i2l (v := (gI D89 o91 x1.toNatClampNeg).toInt64) hx hb dX9_takeSecond_106 rfl ?_
    exact w_X9_takeSecond_107 hC hR o0 a0 x1 x2 o0 a0 ((gI D89 o91 x1.toNatClampNeg).toInt64) _ _ _ _ hi0 hi0 hw (lv_sub hl [0, 1, 2] rfl) h
  · have h := i_no c90 h
    refine lv_aload_n hx hb dX9_takeSecond_86 rfl (lv_at hl 0 rfl) ?_
    obtain ⟨o96, ho99, h⟩ := rq_i h
    refine r_getR hC hw kc_8 hi0 41 rfl lk_1113 dX9_takeSecond_87 rfl ho99 (fun a97 hi98 => ?_)
    refine lv_aload_n hx hb dX9_takeSecond_90 rfl (lv_at hl 0 rfl) ?_
    obtain ⟨o100, ho103, h⟩ := rq_i h
    refine r_getR hC hw kc_8 hi0 3 rfl lk_1075 dX9_takeSecond_91 rfl ho103 (fun a101 hi102 => ?_)
    refine lv_iload_n hx hb dX9_takeSecond_94 rfl (lv_at hl 1 rfl) ?_
    obtain ⟨hn104, h⟩ := ix_i h
    refine r_iald hC hw hi102 hn104 dX9_takeSecond_95 ?_
    obtain ⟨hn105, h⟩ := ix_i h
    refine r_lald hC hw hi98 hn105 dX9_takeSecond_96 ?_
    refine lv_goto (tgt := 107) hx hb dX9_takeSecond_97 (by decide) ?_
    exact w_X9_takeSecond_107 hC hR o0 a0 x1 x2 o0 a0 (gL D89 o96 (gI D89 o100 x1.toNatClampNeg).toNatClampNeg) _ _ _ _ hi0 hi0 hw (lv_sub hl [0, 1, 2] rfl) h
set_option maxHeartbeats 4000000 in
set_option maxRecDepth 100000 in
theorem w_X9_takeSecond_57 {r : Unit} {D' : dt} (hC : Cx RX9 cX9_takeSecond 3 none p s m args meth c) (hR : 0 ≤ R.frames ∧ 0 ≤ R.locals) : ∀ (o0 a0 : Nat) (x1 : Int32) (xs0 : Int32) (D : dt) (H : Heap) (locs : List Loc) (ls : Array Slot), Is S ad o0 a0 8 → Wd G cA S D ad A s H locs → lv_has ls 3 [(0, .ref a0), (1, .int x1)] → f_X9_takeSecond_57 S o0 x1 xs0 D = some (r, D') → W p l e R s m args below meth c H locs 0 0 (MQ below (Qn none True (wpost G cA S D' ad A) A) args s 0 0 A) (F0 m 57 ls [.int xs0]) := by
  obtain ⟨hx, hb, -⟩ := id hC
  intro o0 a0 x1 xs0 D H locs ls hi0 hw hl h
  unfold f_X9_takeSecond_57 at h
  refine lv_istore_n (lv' := [(2, .int xs0), (0, .ref a0), (1, .int x1)]) hx hb dX9_takeSecond_57 rfl hl (by decide) rfl (fun ls hl => ?_)
  refine lv_aload_n hx hb dX9_takeSecond_58 rfl (lv_at hl 1 rfl) ?_
  refine lv_iload_n hx hb dX9_takeSecond_59 rfl (lv_at hl 0 rfl) ?_
  refine lv_if_eq (tgt := 77) hx hb dX9_takeSecond_60 (by decide) (fun c106 => ?_) (fun c106 => ?_)
  · have h := i_yes c106 h
    refine lv_iconst (v := 1) hx hb dX9_takeSecond_77 (by decide) ?_
    exact w_X9_takeSecond_78 hC hR o0 a0 x1 xs0 o0 a0 (1 : Int32) _ _ _ _ hi0 hi0 hw (lv_sub hl [1, 2, 0] rfl) h
  · have h := i_no c106 h
    refine lv_aload_n hx hb dX9_takeSecond_63 rfl (lv_at hl 1 rfl) ?_
    obtain ⟨o107, ho110, h⟩ := rq_i h
    refine r_getR hC hw kc_8 hi0 40 rfl lk_1112 dX9_takeSecond_64 rfl ho110 (fun a108 hi109 => ?_)
    refine lv_aload_n hx hb dX9_takeSecond_67 rfl (lv_at hl 1 rfl) ?_
    obtain ⟨o111, ho114, h⟩ := rq_i h
    refine r_getR hC hw kc_8 hi0 3 rfl lk_1075 dX9_takeSecond_68 rfl ho114 (fun a112 hi113 => ?_)
    refine lv_iload_n hx hb dX9_takeSecond_71 rfl (lv_at hl 2 rfl) ?_
    obtain ⟨hn115, h⟩ := ix_i h
    refine r_iald hC hw hi113 hn115 dX9_takeSecond_72 ?_
    obtain ⟨hn116, h⟩ := ix_i h
    refine r_iald hC hw hi109 hn116 dX9_takeSecond_73 ?_
    refine lv_goto (tgt := 78) hx hb dX9_takeSecond_74 (by decide) ?_
    exact w_X9_takeSecond_78 hC hR o0 a0 x1 xs0 o0 a0 (gI D o107 (gI D o111 x1.toNatClampNeg).toNatClampNeg) _ _ _ _ hi0 hi0 hw (lv_sub hl [1, 2, 0] rfl) h
set_option maxHeartbeats 4000000 in
set_option maxRecDepth 100000 in
theorem w_X9_takeSecond_56 {r : Unit} {D' : dt} (hC : Cx RX9 cX9_takeSecond 3 none p s m args meth c) (hR : 0 ≤ R.frames ∧ 0 ≤ R.locals) : ∀ (o0 a0 : Nat) (x1 : Int32) (D : dt) (H : Heap) (locs : List Loc) (ls : Array Slot), Is S ad o0 a0 8 → Wd G cA S D ad A s H locs → lv_has ls 3 [(0, .ref a0), (1, .int x1)] → f_X9_takeSecond_56 S o0 x1 D = some (r, D') → W p l e R s m args below meth c H locs 0 0 (MQ below (Qn none True (wpost G cA S D' ad A) A) args s 0 0 A) (F0 m 56 ls []) := by
  obtain ⟨hx, hb, -⟩ := id hC
  intro o0 a0 x1 D H locs ls hi0 hw hl h
  unfold f_X9_takeSecond_56 at h
  refine lv_iconst (v := 0) hx hb dX9_takeSecond_56 (by decide) ?_
  exact w_X9_takeSecond_57 hC hR o0 a0 x1 (0 : Int32) _ _ _ _ hi0 hw (lv_sub hl [0, 1] rfl) h
set_option maxHeartbeats 4000000 in
set_option maxRecDepth 100000 in
theorem w_X9_takeSecond_52 {r : Unit} {D' : dt} (hC : Cx RX9 cX9_takeSecond 3 none p s m args meth c) (hR : 0 ≤ R.frames ∧ 0 ≤ R.locals) : ∀ (o0 a0 : Nat) (x1 : Int32) (D : dt) (H : Heap) (locs : List Loc) (ls : Array Slot), Is S ad o0 a0 8 → Wd G cA S D ad A s H locs → lv_has ls 3 [(0, .ref a0), (1, .int x1)] → f_X9_takeSecond_52 S o0 x1 D = some (r, D') → W p l e R s m args below meth c H locs 0 0 (MQ below (Qn none True (wpost G cA S D' ad A) A) args s 0 0 A) (F0 m 52 ls []) := by
  obtain ⟨hx, hb, -⟩ := id hC
  intro o0 a0 x1 D H locs ls hi0 hw hl h
  unfold f_X9_takeSecond_52 at h
  refine lv_iconst (v := 1) hx hb dX9_takeSecond_52 (by decide) ?_
  refine lv_goto (tgt := 57) hx hb dX9_takeSecond_53 (by decide) ?_
  exact w_X9_takeSecond_57 hC hR o0 a0 x1 (1 : Int32) _ _ _ _ hi0 hw (lv_sub hl [0, 1] rfl) h
set_option maxHeartbeats 4000000 in
set_option maxRecDepth 100000 in
theorem w_X9_takeSecond_0 {r : Unit} {D' : dt} (hC : Cx RX9 cX9_takeSecond 3 none p s m args meth c) (hR : 0 ≤ R.frames ∧ 0 ≤ R.locals) : ∀ (o0 a0 : Nat) (x1 : Int32) (D : dt) (H : Heap) (locs : List Loc) (ls : Array Slot), Is S ad o0 a0 8 → Wd G cA S D ad A s H locs → lv_has ls 3 [(0, .ref a0), (1, .int x1)] → f_X9_takeSecond S o0 x1 D = some (r, D') → W p l e R s m args below meth c H locs 0 0 (MQ below (Qn none True (wpost G cA S D' ad A) A) args s 0 0 A) (F0 m 0 ls []) := by
  obtain ⟨hx, hb, -⟩ := id hC
  intro o0 a0 x1 D H locs ls hi0 hw hl h
  unfold f_X9_takeSecond at h
  refine lv_aload_n hx hb dX9_takeSecond_0 rfl (lv_at hl 0 rfl) ?_
  obtain ⟨o117, ho120, h⟩ := rq_i h
  refine r_getR hC hw kc_8 hi0 1 rfl lk_1073 dX9_takeSecond_1 rfl ho120 (fun a118 hi119 => ?_)
  refine lv_iload_n hx hb dX9_takeSecond_4 rfl (lv_at hl 1 rfl) ?_
  obtain ⟨hn121, h⟩ := ix_i h
  refine r_iald hC hw hi119 hn121 dX9_takeSecond_5 ?_
  refine lv_bipush (v := 8) hx hb dX9_takeSecond_6 (by decide) ?_
  refine lv_iand hx hb dX9_takeSecond_8 ?_
  refine lv_if_eq (tgt := 56) hx hb dX9_takeSecond_9 (by decide) (fun c122 => ?_) (fun c122 => ?_)
  · have h := i_yes c122 h
    exact w_X9_takeSecond_56 hC hR o0 a0 x1 _ _ _ _ hi0 hw (lv_sub hl [0, 1] rfl) h
  · have h := i_no c122 h
    refine lv_aload_n hx hb dX9_takeSecond_12 rfl (lv_at hl 0 rfl) ?_
    obtain ⟨o123, ho126, h⟩ := rq_i h
    refine r_getR hC hw kc_8 hi0 1 rfl lk_1073 dX9_takeSecond_13 rfl ho126 (fun a124 hi125 => ?_)
    refine lv_iload_n hx hb dX9_takeSecond_16 rfl (lv_at hl 1 rfl) ?_
    obtain ⟨hn127, h⟩ := ix_i h
    refine r_iald hC hw hi125 hn127 dX9_takeSecond_17 ?_
    refine lv_bipush (v := 7) hx hb dX9_takeSecond_18 (by decide) ?_
    refine lv_iand hx hb dX9_takeSecond_20 ?_
    refine lv_iconst (v := 5) hx hb dX9_takeSecond_21 (by decide) ?_
    refine lv_icmp_eq (tgt := 52) hx hb dX9_takeSecond_22 (by decide) (fun c128 => ?_) (fun c128 => ?_)
    · have h := i_yes c128 h
      exact w_X9_takeSecond_52 hC hR o0 a0 x1 _ _ _ _ hi0 hw (lv_sub hl [0, 1] rfl) h
    · have h := i_no c128 h
      refine lv_aload_n hx hb dX9_takeSecond_25 rfl (lv_at hl 0 rfl) ?_
      obtain ⟨o129, ho132, h⟩ := rq_i h
      refine r_getR hC hw kc_8 hi0 1 rfl lk_1073 dX9_takeSecond_26 rfl ho132 (fun a130 hi131 => ?_)
      refine lv_iload_n hx hb dX9_takeSecond_29 rfl (lv_at hl 1 rfl) ?_
      obtain ⟨hn133, h⟩ := ix_i h
      refine r_iald hC hw hi131 hn133 dX9_takeSecond_30 ?_
      refine lv_bipush (v := 7) hx hb dX9_takeSecond_31 (by decide) ?_
      refine lv_iand hx hb dX9_takeSecond_33 ?_
      refine lv_bipush (v := 6) hx hb dX9_takeSecond_34 (by decide) ?_
      refine lv_icmp_eq (tgt := 52) hx hb dX9_takeSecond_36 (by decide) (fun c134 => ?_) (fun c134 => ?_)
      · have h := i_yes c134 h
        exact w_X9_takeSecond_52 hC hR o0 a0 x1 _ _ _ _ hi0 hw (lv_sub hl [0, 1] rfl) h
      · have h := i_no c134 h
        refine lv_aload_n hx hb dX9_takeSecond_39 rfl (lv_at hl 0 rfl) ?_
        obtain ⟨o135, ho138, h⟩ := rq_i h
        refine r_getR hC hw kc_8 hi0 1 rfl lk_1073 dX9_takeSecond_40 rfl ho138 (fun a136 hi137 => ?_)
        refine lv_iload_n hx hb dX9_takeSecond_43 rfl (lv_at hl 1 rfl) ?_
        obtain ⟨hn139, h⟩ := ix_i h
        refine r_iald hC hw hi137 hn139 dX9_takeSecond_44 ?_
        refine lv_iconst (v := 4) hx hb dX9_takeSecond_45 (by decide) ?_
        refine lv_ishr hx hb dX9_takeSecond_46 ?_
        refine lv_bipush (v := 13) hx hb dX9_takeSecond_47 (by decide) ?_
        refine lv_icmp_eq (tgt := 56) hx hb dX9_takeSecond_49 (by decide) (fun c140 => ?_) (fun c140 => ?_)
        · have h := i_yes c140 h
          exact w_X9_takeSecond_56 hC hR o0 a0 x1 _ _ _ _ hi0 hw (lv_sub hl [0, 1] rfl) h
        · have h := i_no c140 h
          exact w_X9_takeSecond_52 hC hR o0 a0 x1 _ _ _ _ hi0 hw (lv_sub hl [0, 1] rfl) h
set_option maxHeartbeats 4000000 in
set_option maxRecDepth 100000 in
theorem k_X9_takeSecond {l : Launch} {G : va_G} {cA : Nat → ClassId} {S : sh} {D D' : dt} {ad : Nat → Nat} (sz : Nat) {o0 a0 : Nat} {x1 : Int32} {r : Unit} (hi0 : Is S ad o0 a0 8) (h : f_X9_takeSecond S o0 x1 D = some (r, D')) : Co l yX9_takeSecond (Cond.code yX9_takeSecond cX9_takeSecond 3 none :: tb0) 0 0 [.ref a0, .int x1] G cA S D ad sz none True D' := by
  refine Met.ofW (cc := cX9_takeSecond) (maxL := 3) (ret := none) (by decide) rfl ?_
  intro p e s m args below meth c s₁ B hml hv
  obtain ⟨rfl, hsz, hP, hK, hD0, hT, hX⟩ := hv
  subst hsz
  have hts := atoms_spec (ws := Cond.code yX9_takeSecond cX9_takeSecond 3 none :: tb0) B.pre
  have hC : Cx RX9 cX9_takeSecond 3 none p s m _ meth c := ⟨B.exec, B.bytes, hml, findClass_of_methodNamed B.named, fun w q => hts w (List.mem_cons_of_mem _ q), B.returns, B.notSynchronized⟩
  have hw := Wd.entry hP hK hD0 hT hX
  have hl := lv_entry ([.ref a0, .int x1]) (n := 3) (Nat.le_of_ble_eq_true rfl)
  rw [lg_entry_eq]
  exact w_X9_takeSecond_0 hC ⟨Nat.le_refl _, Nat.le_refl _⟩ o0 a0 x1 D _ _ _ hi0 hw hl h
set_option maxHeartbeats 4000000 in
set_option maxRecDepth 100000 in
theorem w_X9_mask_2 {r : Int64} (hC : Cx RX9 cX9_mask 4 (some .long) p s m args meth c) (hR : 1 ≤ R.frames ∧ 23 ≤ R.locals) : ∀ (n : Nat), ∀ (x0 : Int64) (x2 : Int64) (H : Heap) (locs : List Loc) (ls : Array Slot), Wd G cA S D ad A s H locs → lv_has ls 4 [(0, .long x0), (2, .long x2)] → f_X9_mask_2 n x0 x2 = some r → W p l e R s m args below meth c H locs 0 0 (MQ below (Qn (some (.long r)) True (wpost G cA S D ad A) A) args s 0 0 A) (F0 m 2 ls []) := by
  obtain ⟨hx, hb, -⟩ := id hC
  intro n
  induction n with
  | zero =>
    intro x0 x2 H locs ls hw hl h
    rw [f_X9_mask_2.eq_1] at h
    cases h
  | succ n ih =>
    intro x0 x2 H locs ls hw hl h
    rw [f_X9_mask_2.eq_2] at h
    refine lv_lload_n hx hb dX9_mask_2 rfl (lv_at hl 1 rfl) ?_
    refine lv_lload_n hx hb dX9_mask_3 rfl (lv_at hl 0 rfl) ?_
    obtain ⟨r7, hq6, h⟩ := pq_i h
    refine r_cS (st' := [.int r7]) [.long x2, .long x0] [] hC hw (k_X9_isBelow _ hq6) mk_X9_isBelow lk_1358 ⟨Nat.le_trans (by decide) hR.1, Nat.le_trans (by decide) hR.2⟩ ⟨Nat.zero_le _, Nat.zero_le _⟩ rfl hl.1 rfl rfl (Nat.le_of_ble_eq_true rfl) dX9_mask_4 (fun hP H locs hw => ?_)
    refine lv_if_eq (tgt := 19) hx hb dX9_mask_7 (by decide) (fun c8 => ?_) (fun c8 => ?_)
    · have h := i_yes c8 h
      refine lv_lload_n hx hb dX9_mask_19 rfl (lv_at hl 1 rfl) ?_
      cases h
      exact r_lret hC hw dX9_mask_20
    · have h := i_no c8 h
      refine lv_lload_n hx hb dX9_mask_10 rfl (lv_at hl 1 rfl) ?_
      refine lv_iconst (v := 1) hx hb dX9_mask_11 (by decide) ?_
      refine lv_lshl (v := j_lshl x2 (1 : Int32)) hx hb dX9_mask_12 rfl ?_
      refine lv_lconst (v := 1) hx hb dX9_mask_13 (by decide) ?_
      refine lv_lor hx hb dX9_mask_14 ?_
      refine lv_topl (fun y9 ey9 => ?_)
      have h := nm_i h y9 ey9
      refine lv_lstore_n (lv' := [(2, .long y9), (0, .long x0)]) hx hb dX9_mask_15 rfl hl (by decide) rfl (fun ls hl => ?_)
      refine lv_goto (tgt := 2) hx hb dX9_mask_16 (by decide) ?_
      exact ih x0 y9 _ _ _ hw (lv_sub hl [1, 0] rfl) h
set_option maxHeartbeats 4000000 in
set_option maxRecDepth 100000 in
theorem w_X9_mask_0 {r : Int64} (hC : Cx RX9 cX9_mask 4 (some .long) p s m args meth c) (hR : 1 ≤ R.frames ∧ 23 ≤ R.locals) : ∀ (x0 : Int64) (H : Heap) (locs : List Loc) (ls : Array Slot), Wd G cA S D ad A s H locs → lv_has ls 4 [(0, .long x0)] → f_X9_mask x0 = some r → W p l e R s m args below meth c H locs 0 0 (MQ below (Qn (some (.long r)) True (wpost G cA S D ad A) A) args s 0 0 A) (F0 m 0 ls []) := by
  obtain ⟨hx, hb, -⟩ := id hC
  intro x0 H locs ls hw hl h
  unfold f_X9_mask at h
  refine lv_lconst (v := 0) hx hb dX9_mask_0 (by decide) ?_
  refine lv_topl (fun y10 ey10 => ?_)
  have h := nm_i h y10 ey10
  refine lv_lstore_n (lv' := [(2, .long y10), (0, .long x0)]) hx hb dX9_mask_1 rfl hl (by decide) rfl (fun ls hl => ?_)
  exact w_X9_mask_2 hC hR LF x0 y10 _ _ _ hw (lv_sub hl [1, 0] rfl) h
set_option maxHeartbeats 4000000 in
set_option maxRecDepth 100000 in
theorem k_X9_mask {l : Launch} {G : va_G} {cA : Nat → ClassId} {S : sh} {D : dt} {ad : Nat → Nat} (sz : Nat) {x0 : Int64} {r : Int64}  (h : f_X9_mask x0 = some r) : Co l yX9_mask (Cond.code yX9_mask cX9_mask 4 (some .long) :: tb0) 1 23 [.long x0] G cA S D ad sz (some (.long r)) True D := by
  refine Met.ofW (cc := cX9_mask) (maxL := 4) (ret := (some .long)) (by decide) rfl ?_
  intro p e s m args below meth c s₁ B hml hv
  obtain ⟨rfl, hsz, hP, hK, hD0, hT, hX⟩ := hv
  subst hsz
  have hts := atoms_spec (ws := Cond.code yX9_mask cX9_mask 4 (some .long) :: tb0) B.pre
  have hC : Cx RX9 cX9_mask 4 (some .long) p s m _ meth c := ⟨B.exec, B.bytes, hml, findClass_of_methodNamed B.named, fun w q => hts w (List.mem_cons_of_mem _ q), B.returns, B.notSynchronized⟩
  have hw := Wd.entry hP hK hD0 hT hX
  have hl := lv_entry ([.long x0]) (n := 4) (Nat.le_of_ble_eq_true rfl)
  rw [lg_entry_eq]
  exact w_X9_mask_0 hC ⟨Nat.le_refl _, Nat.le_refl _⟩ x0 _ _ _ hw hl h
set_option maxHeartbeats 4000000 in
set_option maxRecDepth 100000 in
theorem w_X9_reckonMoved_122 {r : Unit} {D' : dt} (hC : Cx RX9 cX9_reckonMoved 18 none p s m args meth c) (hR : 1 ≤ R.frames ∧ 25 ≤ R.locals) : ∀  (D : dt) (H : Heap) (locs : List Loc) (ls : Array Slot), Wd G cA S D ad A s H locs → lv_has ls 18 [] → f_X9_reckonMoved_122 S D = some (r, D') → W p l e R s m args below meth c H locs 0 0 (MQ below (Qn none True (wpost G cA S D' ad A) A) args s 0 0 A) (F0 m 122 ls []) := by
  obtain ⟨hx, hb, -⟩ := id hC
  intro D H locs ls  hw hl h
  unfold f_X9_reckonMoved_122 at h
  refine lv_goto (tgt := 254) hx hb dX9_reckonMoved_122 (by decide) ?_
  cases h
  exact r_vret hC hw dX9_reckonMoved_254
set_option maxHeartbeats 4000000 in
set_option maxRecDepth 100000 in
theorem w_X9_reckonMoved_109 {r : Unit} {D' : dt} (hC : Cx RX9 cX9_reckonMoved 18 none p s m args meth c) (hR : 1 ≤ R.frames ∧ 25 ≤ R.locals) : ∀ (o0 a0 : Nat) (x4 : Int64) (x12 : Int32) (x13 : Int32) (x16 : Int64) (D : dt) (H : Heap) (locs : List Loc) (ls : Array Slot), Is S ad o0 a0 8 → Wd G cA S D ad A s H locs → lv_has ls 18 [(0, .ref a0), (4, .long x4), (12, .int x12), (13, .int x13), (16, .long x16)] → f_X9_reckonMoved_109 S o0 x4 x12 x13 x16 D = some (r, D') → W p l e R s m args below meth c H locs 0 0 (MQ below (Qn none True (wpost G cA S D' ad A) A) args s 0 0 A) (F0 m 109 ls []) := by
  obtain ⟨hx, hb, -⟩ := id hC
  intro o0 a0 x4 x12 x13 x16 D H locs ls hi0 hw hl h
  unfold f_X9_reckonMoved_109 at h
  refine lv_aload_n hx hb dX9_reckonMoved_109 rfl (lv_at hl 0 rfl) ?_
  refine lv_iload hx hb dX9_reckonMoved_110 (lv_at hl 3 rfl) ?_
  refine lv_lload hx hb dX9_reckonMoved_112 (lv_at hl 1 rfl) ?_
  refine lv_iload hx hb dX9_reckonMoved_114 (lv_at hl 2 rfl) ?_
  refine lv_lshl (v := j_lshl x4 x12) hx hb dX9_reckonMoved_116 rfl ?_
  refine lv_lload hx hb dX9_reckonMoved_117 (lv_at hl 4 rfl) ?_
  obtain ⟨_, D60, hq59, h⟩ := cq_i h
  refine r_cV (st' := []) [.int x13, .long (j_lshl x4 x12), .long x16] [] hC hw kc_8 hi0 (k_X9_number _ hi0 hq59) mk_X9_number lk_1496 ⟨Nat.le_trans (by decide) hR.1, Nat.le_trans (by decide) hR.2⟩ ⟨Nat.zero_le _, Nat.zero_le _⟩ rfl hl.1 rfl rfl (Nat.le_of_ble_eq_true rfl) dX9_reckonMoved_119 (fun hP H locs hw => ?_)
  exact w_X9_reckonMoved_122 hC hR _ _ _ _ hw (lv_sub hl [] rfl) h
set_option maxHeartbeats 4000000 in
set_option maxRecDepth 100000 in
theorem w_X9_reckonMoved_205 {r : Unit} {D' : dt} (hC : Cx RX9 cX9_reckonMoved 18 none p s m args meth c) (hR : 1 ≤ R.frames ∧ 25 ≤ R.locals) : ∀ (os0 as0 : Nat) (xs1 : Int32) (xs2 : Int64) (xs3 : Int64) (D : dt) (H : Heap) (locs : List Loc) (ls : Array Slot), Is S ad os0 as0 8 → Wd G cA S D ad A s H locs → lv_has ls 18 [] → f_X9_reckonMoved_205 S os0 xs1 xs2 xs3 D = some (r, D') → W p l e R s m args below meth c H locs 0 0 (MQ below (Qn none True (wpost G cA S D' ad A) A) args s 0 0 A) (F0 m 205 ls [.long xs3, .long xs2, .int xs1, .ref as0]) := by
  obtain ⟨hx, hb, -⟩ := id hC
  intro os0 as0 xs1 xs2 xs3 D H locs ls his0 hw hl h
  unfold f_X9_reckonMoved_205 at h
  obtain ⟨_, D62, hq61, h⟩ := cq_i h
  refine r_cV (st' := []) [.int xs1, .long xs2, .long xs3] [] hC hw kc_8 his0 (k_X9_number _ his0 hq61) mk_X9_number lk_1496 ⟨Nat.le_trans (by decide) hR.1, Nat.le_trans (by decide) hR.2⟩ ⟨Nat.zero_le _, Nat.zero_le _⟩ rfl hl.1 rfl rfl (Nat.le_of_ble_eq_true rfl) dX9_reckonMoved_205 (fun hP H locs hw => ?_)
  refine lv_goto (tgt := 254) hx hb dX9_reckonMoved_208 (by decide) ?_
  cases h
  exact r_vret hC hw dX9_reckonMoved_254
set_option maxHeartbeats 4000000 in
set_option maxRecDepth 100000 in
theorem w_X9_reckonMoved_162 {r : Unit} {D' : dt} (hC : Cx RX9 cX9_reckonMoved 18 none p s m args meth c) (hR : 1 ≤ R.frames ∧ 25 ≤ R.locals) : ∀ (os0 as0 : Nat) (xs1 : Int32) (xs2 : Int64) (xs3 : Int64) (D : dt) (H : Heap) (locs : List Loc) (ls : Array Slot), Is S ad os0 as0 8 → Wd G cA S D ad A s H locs → lv_has ls 18 [] → f_X9_reckonMoved_162 S os0 xs1 xs2 xs3 D = some (r, D') → W p l e R s m args below meth c H locs 0 0 (MQ below (Qn none True (wpost G cA S D' ad A) A) args s 0 0 A) (F0 m 162 ls [.long xs3, .long xs2, .int xs1, .ref as0]) := by
  obtain ⟨hx, hb, -⟩ := id hC
  intro os0 as0 xs1 xs2 xs3 D H locs ls his0 hw hl h
  unfold f_X9_reckonMoved_162 at h
  obtain ⟨_, D64, hq63, h⟩ := cq_i h
  refine r_cV (st' := []) [.int xs1, .long xs2, .long xs3] [] hC hw kc_8 his0 (k_X9_number _ his0 hq63) mk_X9_number lk_1496 ⟨Nat.le_trans (by decide) hR.1, Nat.le_trans (by decide) hR.2⟩ ⟨Nat.zero_le _, Nat.zero_le _⟩ rfl hl.1 rfl rfl (Nat.le_of_ble_eq_true rfl) dX9_reckonMoved_162 (fun hP H locs hw => ?_)
  refine lv_goto (tgt := 254) hx hb dX9_reckonMoved_165 (by decide) ?_
  cases h
  exact r_vret hC hw dX9_reckonMoved_254
set_option maxHeartbeats 4000000 in
set_option maxRecDepth 100000 in
theorem w_X9_reckonMoved_147 {r : Unit} {D' : dt} (hC : Cx RX9 cX9_reckonMoved 18 none p s m args meth c) (hR : 1 ≤ R.frames ∧ 25 ≤ R.locals) : ∀ (x6 : Int64) (x12 : Int32) (x14 : Int32) (os0 as0 : Nat) (xs1 : Int32) (xs2 : Int64) (D : dt) (H : Heap) (locs : List Loc) (ls : Array Slot), Is S ad os0 as0 8 → Wd G cA S D ad A s H locs → lv_has ls 18 [(6, .long x6), (12, .int x12), (14, .int x14)] → f_X9_reckonMoved_147 S x6 x12 x14 os0 xs1 xs2 D = some (r, D') → W p l e R s m args below meth c H locs 0 0 (MQ below (Qn none True (wpost G cA S D' ad A) A) args s 0 0 A) (F0 m 147 ls [.long xs2, .int xs1, .ref as0]) := by
  obtain ⟨hx, hb, -⟩ := id hC
  intro x6 x12 x14 os0 as0 xs1 xs2 D H locs ls his0 hw hl h
  unfold f_X9_reckonMoved_147 at h
  refine lv_iload hx hb dX9_reckonMoved_147 (lv_at hl 2 rfl) ?_
  refine lv_if_eq (tgt := 160) hx hb dX9_reckonMoved_149 (by decide) (fun c65 => ?_) (fun c65 => ?_)
  · have h := i_yes c65 h
    refine lv_lload hx hb dX9_reckonMoved_160 (lv_at hl 0 rfl) ?_
    exact w_X9_reckonMoved_162 hC hR os0 as0 xs1 xs2 x6 _ _ _ _ his0 hw (lv_sub hl [] rfl) h
  · have h := i_no c65 h
    refine lv_lload hx hb dX9_reckonMoved_152 (lv_at hl 0 rfl) ?_
    refine lv_iload hx hb dX9_reckonMoved_154 (lv_at hl 1 rfl) ?_
    refine lv_lushr (v := j_lushr x6 x12) hx hb dX9_reckonMoved_156 rfl ?_
    refine lv_goto (tgt := 162) hx hb dX9_reckonMoved_157 (by decide) ?_
    exact w_X9_reckonMoved_162 hC hR os0 as0 xs1 xs2 (j_lushr x6 x12) _ _ _ _ his0 hw (lv_sub hl [] rfl) h
set_option maxHeartbeats 4000000 in
set_option maxRecDepth 100000 in
theorem w_X9_reckonMoved_244 {r : Unit} {D' : dt} (hC : Cx RX9 cX9_reckonMoved 18 none p s m args meth c) (hR : 1 ≤ R.frames ∧ 25 ≤ R.locals) : ∀ (o0 a0 : Nat) (x8 : Int64) (x10 : Int64) (x13 : Int32) (D : dt) (H : Heap) (locs : List Loc) (ls : Array Slot), Is S ad o0 a0 8 → Wd G cA S D ad A s H locs → lv_has ls 18 [(0, .ref a0), (8, .long x8), (10, .long x10), (13, .int x13)] → f_X9_reckonMoved_244 S o0 x8 x10 x13 D = some (r, D') → W p l e R s m args below meth c H locs 0 0 (MQ below (Qn none True (wpost G cA S D' ad A) A) args s 0 0 A) (F0 m 244 ls []) := by
  obtain ⟨hx, hb, -⟩ := id hC
  intro o0 a0 x8 x10 x13 D H locs ls hi0 hw hl h
  unfold f_X9_reckonMoved_244 at h
  refine lv_aload_n hx hb dX9_reckonMoved_244 rfl (lv_at hl 0 rfl) ?_
  refine lv_iload hx hb dX9_reckonMoved_245 (lv_at hl 3 rfl) ?_
  refine lv_lload hx hb dX9_reckonMoved_247 (lv_at hl 1 rfl) ?_
  refine lv_lload hx hb dX9_reckonMoved_249 (lv_at hl 2 rfl) ?_
  obtain ⟨_, D67, hq66, h⟩ := cq_i h
  refine r_cV (st' := []) [.int x13, .long x8, .long x10] [] hC hw kc_8 hi0 (k_X9_number _ hi0 hq66) mk_X9_number lk_1496 ⟨Nat.le_trans (by decide) hR.1, Nat.le_trans (by decide) hR.2⟩ ⟨Nat.zero_le _, Nat.zero_le _⟩ rfl hl.1 rfl rfl (Nat.le_of_ble_eq_true rfl) dX9_reckonMoved_251 (fun hP H locs hw => ?_)
  cases h
  exact r_vret hC hw dX9_reckonMoved_254
set_option maxHeartbeats 4000000 in
set_option maxRecDepth 100000 in
theorem w_X9_reckonMoved_63 {r : Unit} {D' : dt} (hC : Cx RX9 cX9_reckonMoved 18 none p s m args meth c) (hR : 1 ≤ R.frames ∧ 25 ≤ R.locals) : ∀ (o0 a0 : Nat) (x1 : Int32) (x2 : Int32) (x3 : Int32) (x4 : Int64) (x6 : Int64) (x8 : Int64) (x10 : Int64) (x12 : Int32) (x13 : Int32) (x14 : Int32) (xs0 : Int32) (D : dt) (H : Heap) (locs : List Loc) (ls : Array Slot), Is S ad o0 a0 8 → Wd G cA S D ad A s H locs → lv_has ls 18 [(0, .ref a0), (1, .int x1), (2, .int x2), (3, .int x3), (4, .long x4), (6, .long x6), (8, .long x8), (10, .long x10), (12, .int x12), (13, .int x13), (14, .int x14)] → f_X9_reckonMoved_63 S o0 x1 x2 x3 x4 x6 x8 x10 x12 x13 x14 xs0 D = some (r, D') → W p l e R s m args below meth c H locs 0 0 (MQ below (Qn none True (wpost G cA S D' ad A) A) args s 0 0 A) (F0 m 63 ls [.int xs0]) := by
  obtain ⟨hx, hb, -⟩ := id hC
  intro o0 a0 x1 x2 x3 x4 x6 x8 x10 x12 x13 x14 xs0 D H locs ls hi0 hw hl h
  unfold f_X9_reckonMoved_63 at h
  refine lv_istore (lv' := [(15, .int xs0), (0, .ref a0), (1, .int x1), (2, .int x2), (3, .int x3), (4, .long x4), (6, .long x6), (8, .long x8), (10, .long x10), (12, .int x12), (13, .int x13), (14, .int x14)]) hx hb dX9_reckonMoved_63 hl (by decide) rfl (fun ls hl => ?_)
  refine lv_iload_n hx hb dX9_reckonMoved_65 rfl (lv_at hl 3 rfl) ?_
  refine lv_bipush (v := 6) hx hb dX9_reckonMoved_66 (by decide) ?_
  refine lv_icmp_ne (tgt := 125) hx hb dX9_reckonMoved_68 (by decide) (fun c68 => ?_) (fun c68 => ?_)
  · have h := i_no c68 h
    refine lv_iload hx hb dX9_reckonMoved_125 (lv_at hl 0 rfl) ?_
    refine lv_if_eq (tgt := 168) hx hb dX9_reckonMoved_127 (by decide) (fun c69 => ?_) (fun c69 => ?_)
    · have h := i_yes c69 h
      refine lv_iload_n hx hb dX9_reckonMoved_168 rfl (lv_at hl 3 rfl) ?_
      refine lv_bipush (v := 13) hx hb dX9_reckonMoved_169 (by decide) ?_
      refine lv_icmp_ne (tgt := 211) hx hb dX9_reckonMoved_171 (by decide) (fun c70 => ?_) (fun c70 => ?_)
      · have h := i_no c70 h
        refine lv_iload_n hx hb dX9_reckonMoved_211 rfl (lv_at hl 3 rfl) ?_
        refine lv_bipush (v := 11) hx hb dX9_reckonMoved_212 (by decide) ?_
        refine lv_icmp_ne (tgt := 254) hx hb dX9_reckonMoved_214 (by decide) (fun c71 => ?_) (fun c71 => ?_)
        · have h := i_no c71 h
          cases h
          exact r_vret hC hw dX9_reckonMoved_254
        · have h := i_yes c71 h
          refine lv_aload_n hx hb dX9_reckonMoved_217 rfl (lv_at hl 1 rfl) ?_
          obtain ⟨o72, ho75, h⟩ := rq_i h
          refine r_getR hC hw kc_8 hi0 4 rfl lk_1076 dX9_reckonMoved_218 rfl ho75 (fun a73 hi74 => ?_)
          refine lv_iload_n hx hb dX9_reckonMoved_221 rfl (lv_at hl 2 rfl) ?_
          obtain ⟨hn76, h⟩ := ix_i h
          refine r_iald hC hw hi74 hn76 dX9_reckonMoved_222 ?_
          refine lv_if_eq (tgt := 244) hx hb dX9_reckonMoved_223 (by decide) (fun c77 => ?_) (fun c77 => ?_)
          · have h := i_yes c77 h
            exact w_X9_reckonMoved_244 hC hR o0 a0 x8 x10 x13 _ _ _ _ hi0 hw (lv_sub hl [1, 7, 8, 10] rfl) h
          · have h := i_no c77 h
            refine lv_lload hx hb dX9_reckonMoved_226 (lv_at hl 8 rfl) ?_
            refine lv_lconst (v := 1) hx hb dX9_reckonMoved_228 (by decide) ?_
            refine lv_aload_n hx hb dX9_reckonMoved_229 rfl (lv_at hl 1 rfl) ?_
            obtain ⟨o78, ho81, h⟩ := rq_i h
            refine r_getR hC hw kc_8 hi0 4 rfl lk_1076 dX9_reckonMoved_230 rfl ho81 (fun a79 hi80 => ?_)
            refine lv_iload_n hx hb dX9_reckonMoved_233 rfl (lv_at hl 2 rfl) ?_
            obtain ⟨hn82, h⟩ := ix_i h
            refine r_iald hC hw hi80 hn82 dX9_reckonMoved_234 ?_
            refine lv_iconst (v := 1) hx hb dX9_reckonMoved_235 (by decide) ?_
            refine lv_isub hx hb dX9_reckonMoved_236 ?_
            refine lv_lshl (v := j_lshl (1 : Int64) ((gI D o78 x1.toNatClampNeg) - (1 : Int32))) hx hb dX9_reckonMoved_237 rfl ?_
            obtain ⟨r84, hq83, h⟩ := pq_i h
            refine r_cS (st' := [.int r84]) [.long x10, .long (j_lshl (1 : Int64) ((gI D o78 x1.toNatClampNeg) - (1 : Int32)))] [] hC hw (k_X9_isBelow _ hq83) mk_X9_isBelow lk_1358 ⟨Nat.le_trans (by decide) hR.1, Nat.le_trans (by decide) hR.2⟩ ⟨Nat.zero_le _, Nat.zero_le _⟩ rfl hl.1 rfl rfl (Nat.le_of_ble_eq_true rfl) dX9_reckonMoved_238 (fun hP H locs hw => ?_)
            refine lv_if_eq (tgt := 254) hx hb dX9_reckonMoved_241 (by decide) (fun c85 => ?_) (fun c85 => ?_)
            · have h := i_yes c85 h
              cases h
              exact r_vret hC hw dX9_reckonMoved_254
            · have h := i_no c85 h
              exact w_X9_reckonMoved_244 hC hR o0 a0 x8 x10 x13 _ _ _ _ hi0 hw (lv_sub hl [1, 7, 8, 10] rfl) h
      · have h := i_yes c70 h
        refine lv_aload_n hx hb dX9_reckonMoved_174 rfl (lv_at hl 1 rfl) ?_
        refine lv_iload hx hb dX9_reckonMoved_175 (lv_at hl 10 rfl) ?_
        refine lv_lconst (v := 0) hx hb dX9_reckonMoved_177 (by decide) ?_
        refine lv_aload_n hx hb dX9_reckonMoved_178 rfl (lv_at hl 1 rfl) ?_
        obtain ⟨o86, ho89, h⟩ := rq_i h
        refine r_getR hC hw kc_8 hi0 5 rfl lk_1077 dX9_reckonMoved_179 rfl ho89 (fun a87 hi88 => ?_)
        refine lv_iload_n hx hb dX9_reckonMoved_182 rfl (lv_at hl 2 rfl) ?_
        obtain ⟨hn90, h⟩ := ix_i h
        refine r_iald hC hw hi88 hn90 dX9_reckonMoved_183 ?_
        refine lv_bipush (v := 64) hx hb dX9_reckonMoved_184 (by decide) ?_
        refine lv_icmp_ne (tgt := 195) hx hb dX9_reckonMoved_186 (by decide) (fun c91 => ?_) (fun c91 => ?_)
        · have h := i_no c91 h
          refine lv_lconst (v := 1) hx hb dX9_reckonMoved_195 (by decide) ?_
          refine lv_aload_n hx hb dX9_reckonMoved_196 rfl (lv_at hl 1 rfl) ?_
          obtain ⟨o92, ho95, h⟩ := rq_i h
          refine r_getR hC hw kc_8 hi0 5 rfl lk_1077 dX9_reckonMoved_197 rfl ho95 (fun a93 hi94 => ?_)
          refine lv_iload_n hx hb dX9_reckonMoved_200 rfl (lv_at hl 2 rfl) ?_
          obtain ⟨hn96, h⟩ := ix_i h
          refine r_iald hC hw hi94 hn96 dX9_reckonMoved_201 ?_
          refine lv_lshl (v := j_lshl (1 : Int64) (gI D o92 x1.toNatClampNeg)) hx hb dX9_reckonMoved_202 rfl ?_
          refine lv_lconst (v := 1) hx hb dX9_reckonMoved_203 (by decide) ?_
          refine lv_lsub hx hb dX9_reckonMoved_204 ?_
          exact w_X9_reckonMoved_205 hC hR o0 a0 x13 (0 : Int64) ((j_lshl (1 : Int64) (gI D o92 x1.toNatClampNeg)) - (1 : Int64)) _ _ _ _ hi0 hw (lv_sub hl [] rfl) h
        · have h := i_yes c91 h
          refine lv_ldc2 (v := (-1)) hx hb hC.2.2.2.1 (hC.2.2.2.2.1 _ lk_1365) dX9_reckonMoved_189 ?_
          refine lv_goto (tgt := 205) hx hb dX9_reckonMoved_192 (by decide) ?_
          exact w_X9_reckonMoved_205 hC hR o0 a0 x13 (0 : Int64) (-1 : Int64) _ _ _ _ hi0 hw (lv_sub hl [] rfl) h
    · have h := i_no c69 h
      refine lv_aload_n hx hb dX9_reckonMoved_130 rfl (lv_at hl 1 rfl) ?_
      refine lv_iload hx hb dX9_reckonMoved_131 (lv_at hl 10 rfl) ?_
      refine lv_iload hx hb dX9_reckonMoved_133 (lv_at hl 11 rfl) ?_
      refine lv_if_eq (tgt := 146) hx hb dX9_reckonMoved_135 (by decide) (fun c97 => ?_) (fun c97 => ?_)
      · have h := i_yes c97 h
        refine lv_lconst (v := 0) hx hb dX9_reckonMoved_146 (by decide) ?_
        exact w_X9_reckonMoved_147 hC hR x6 x12 x14 o0 a0 x13 (0 : Int64) _ _ _ _ hi0 hw (lv_sub hl [6, 9, 11] rfl) h
      · have h := i_no c97 h
        refine lv_lload hx hb dX9_reckonMoved_138 (lv_at hl 5 rfl) ?_
        refine lv_iload hx hb dX9_reckonMoved_140 (lv_at hl 9 rfl) ?_
        refine lv_lushr (v := j_lushr x4 x12) hx hb dX9_reckonMoved_142 rfl ?_
        refine lv_goto (tgt := 147) hx hb dX9_reckonMoved_143 (by decide) ?_
        exact w_X9_reckonMoved_147 hC hR x6 x12 x14 o0 a0 x13 (j_lushr x4 x12) _ _ _ _ hi0 hw (lv_sub hl [6, 9, 11] rfl) h
  · have h := i_yes c68 h
    refine lv_lload hx hb dX9_reckonMoved_71 (lv_at hl 6 rfl) ?_
    refine lv_iload hx hb dX9_reckonMoved_73 (lv_at hl 9 rfl) ?_
    refine lv_lshl (v := j_lshl x6 x12) hx hb dX9_reckonMoved_75 rfl ?_
    refine lv_topl (fun y98 ey98 => ?_)
    have h := nm_i h y98 ey98
    refine lv_lstore (lv' := [(16, .long y98), (15, .int xs0), (0, .ref a0), (1, .int x1), (2, .int x2), (3, .int x3), (4, .long x4), (6, .long x6), (8, .long x8), (10, .long x10), (12, .int x12), (13, .int x13), (14, .int x14)]) hx hb dX9_reckonMoved_76 hl (by decide) rfl (fun ls hl => ?_)
    refine lv_iload hx hb dX9_reckonMoved_78 (lv_at hl 12 rfl) ?_
    refine lv_if_eq (tgt := 122) hx hb dX9_reckonMoved_80 (by decide) (fun c99 => ?_) (fun c99 => ?_)
    · have h := i_yes c99 h
      exact w_X9_reckonMoved_122 hC hR _ _ _ _ hw (lv_sub hl [] rfl) h
    · have h := i_no c99 h
      refine lv_lload hx hb dX9_reckonMoved_83 (lv_at hl 0 rfl) ?_
      refine lv_iload hx hb dX9_reckonMoved_85 (lv_at hl 10 rfl) ?_
      refine lv_lushr (v := j_lushr y98 x12) hx hb dX9_reckonMoved_87 rfl ?_
      refine lv_lload hx hb dX9_reckonMoved_88 (lv_at hl 7 rfl) ?_
      refine W.lcmp hx hb dX9_reckonMoved_90 ?_
      refine lv_if_ne (tgt := 122) hx hb dX9_reckonMoved_91 (by decide) (fun c100 => ?_) (fun c100 => ?_)
      · have h := i_no c100 h
        exact w_X9_reckonMoved_122 hC hR _ _ _ _ hw (lv_sub hl [] rfl) h
      · have h := i_yes c100 h
        refine lv_iload_n hx hb dX9_reckonMoved_94 rfl (lv_at hl 5 rfl) ?_
        refine lv_if_ne (tgt := 109) hx hb dX9_reckonMoved_95 (by decide) (fun c101 => ?_) (fun c101 => ?_)
        · have h := i_no c101 h
          exact w_X9_reckonMoved_109 hC hR o0 a0 x4 x12 x13 y98 _ _ _ _ hi0 hw (lv_sub hl [2, 6, 10, 11, 0] rfl) h
        · have h := i_yes c101 h
          refine lv_ldc2 (v := 4294967295) hx hb hC.2.2.2.1 (hC.2.2.2.2.1 _ lk_1347) dX9_reckonMoved_98 ?_
          refine lv_lload hx hb dX9_reckonMoved_101 (lv_at hl 0 rfl) ?_
          obtain ⟨r103, hq102, h⟩ := pq_i h
          refine r_cS (st' := [.int r103]) [.long (4294967295 : Int64), .long y98] [] hC hw (k_X9_isBelow _ hq102) mk_X9_isBelow lk_1358 ⟨Nat.le_trans (by decide) hR.1, Nat.le_trans (by decide) hR.2⟩ ⟨Nat.zero_le _, Nat.zero_le _⟩ rfl hl.1 rfl rfl (Nat.le_of_ble_eq_true rfl) dX9_reckonMoved_103 (fun hP H locs hw => ?_)
          refine lv_if_ne (tgt := 122) hx hb dX9_reckonMoved_106 (by decide) (fun c104 => ?_) (fun c104 => ?_)
          · have h := i_no c104 h
            exact w_X9_reckonMoved_122 hC hR _ _ _ _ hw (lv_sub hl [] rfl) h
          · have h := i_yes c104 h
            exact w_X9_reckonMoved_109 hC hR o0 a0 x4 x12 x13 y98 _ _ _ _ hi0 hw (lv_sub hl [2, 6, 10, 11, 0] rfl) h
set_option maxHeartbeats 4000000 in
set_option maxRecDepth 100000 in
theorem w_X9_reckonMoved_58 {r : Unit} {D' : dt} (hC : Cx RX9 cX9_reckonMoved 18 none p s m args meth c) (hR : 1 ≤ R.frames ∧ 25 ≤ R.locals) : ∀ (o0 a0 : Nat) (x1 : Int32) (x2 : Int32) (x3 : Int32) (x4 : Int64) (x6 : Int64) (x8 : Int64) (x10 : Int64) (x12 : Int32) (x13 : Int32) (x14 : Int32) (D : dt) (H : Heap) (locs : List Loc) (ls : Array Slot), Is S ad o0 a0 8 → Wd G cA S D ad A s H locs → lv_has ls 18 [(0, .ref a0), (1, .int x1), (2, .int x2), (3, .int x3), (4, .long x4), (6, .long x6), (8, .long x8), (10, .long x10), (12, .int x12), (13, .int x13), (14, .int x14)] → f_X9_reckonMoved_58 S o0 x1 x2 x3 x4 x6 x8 x10 x12 x13 x14 D = some (r, D') → W p l e R s m args below meth c H locs 0 0 (MQ below (Qn none True (wpost G cA S D' ad A) A) args s 0 0 A) (F0 m 58 ls []) := by
  obtain ⟨hx, hb, -⟩ := id hC
  intro o0 a0 x1 x2 x3 x4 x6 x8 x10 x12 x13 x14 D H locs ls hi0 hw hl h
  unfold f_X9_reckonMoved_58 at h
  refine lv_iconst (v := 1) hx hb dX9_reckonMoved_58 (by decide) ?_
  refine lv_goto (tgt := 63) hx hb dX9_reckonMoved_59 (by decide) ?_
  exact w_X9_reckonMoved_63 hC hR o0 a0 x1 x2 x3 x4 x6 x8 x10 x12 x13 x14 (1 : Int32) _ _ _ _ hi0 hw (lv_sub hl [0, 1, 2, 3, 4, 5, 6, 7, 8, 9, 10] rfl) h
set_option maxHeartbeats 4000000 in
set_option maxRecDepth 100000 in
theorem w_X9_reckonMoved_62 {r : Unit} {D' : dt} (hC : Cx RX9 cX9_reckonMoved 18 none p s m args meth c) (hR : 1 ≤ R.frames ∧ 25 ≤ R.locals) : ∀ (o0 a0 : Nat) (x1 : Int32) (x2 : Int32) (x3 : Int32) (x4 : Int64) (x6 : Int64) (x8 : Int64) (x10 : Int64) (x12 : Int32) (x13 : Int32) (x14 : Int32) (D : dt) (H : Heap) (locs : List Loc) (ls : Array Slot), Is S ad o0 a0 8 → Wd G cA S D ad A s H locs → lv_has ls 18 [(0, .ref a0), (1, .int x1), (2, .int x2), (3, .int x3), (4, .long x4), (6, .long x6), (8, .long x8), (10, .long x10), (12, .int x12), (13, .int x13), (14, .int x14)] → f_X9_reckonMoved_62 S o0 x1 x2 x3 x4 x6 x8 x10 x12 x13 x14 D = some (r, D') → W p l e R s m args below meth c H locs 0 0 (MQ below (Qn none True (wpost G cA S D' ad A) A) args s 0 0 A) (F0 m 62 ls []) := by
  obtain ⟨hx, hb, -⟩ := id hC
  intro o0 a0 x1 x2 x3 x4 x6 x8 x10 x12 x13 x14 D H locs ls hi0 hw hl h
  unfold f_X9_reckonMoved_62 at h
  refine lv_iconst (v := 0) hx hb dX9_reckonMoved_62 (by decide) ?_
  exact w_X9_reckonMoved_63 hC hR o0 a0 x1 x2 x3 x4 x6 x8 x10 x12 x13 x14 (0 : Int32) _ _ _ _ hi0 hw (lv_sub hl [0, 1, 2, 3, 4, 5, 6, 7, 8, 9, 10] rfl) h
set_option maxHeartbeats 4000000 in
set_option maxRecDepth 100000 in
theorem w_X9_reckonMoved_21 {r : Unit} {D' : dt} (hC : Cx RX9 cX9_reckonMoved 18 none p s m args meth c) (hR : 1 ≤ R.frames ∧ 25 ≤ R.locals) : ∀ (o0 a0 : Nat) (x1 : Int32) (x2 : Int32) (x3 : Int32) (x4 : Int64) (x6 : Int64) (x8 : Int64) (x10 : Int64) (x12 : Int32) (x13 : Int32) (xs0 : Int32) (D : dt) (H : Heap) (locs : List Loc) (ls : Array Slot), Is S ad o0 a0 8 → Wd G cA S D ad A s H locs → lv_has ls 18 [(0, .ref a0), (1, .int x1), (2, .int x2), (3, .int x3), (4, .long x4), (6, .long x6), (8, .long x8), (10, .long x10), (12, .int x12), (13, .int x13)] → f_X9_reckonMoved_21 S o0 x1 x2 x3 x4 x6 x8 x10 x12 x13 xs0 D = some (r, D') → W p l e R s m args below meth c H locs 0 0 (MQ below (Qn none True (wpost G cA S D' ad A) A) args s 0 0 A) (F0 m 21 ls [.int xs0]) := by
  obtain ⟨hx, hb, -⟩ := id hC
  intro o0 a0 x1 x2 x3 x4 x6 x8 x10 x12 x13 xs0 D H locs ls hi0 hw hl h
  unfold f_X9_reckonMoved_21 at h
  refine lv_istore (lv' := [(14, .int xs0), (0, .ref a0), (1, .int x1), (2, .int x2), (3, .int x3), (4, .long x4), (6, .long x6), (8, .long x8), (10, .long x10), (12, .int x12), (13, .int x13)]) hx hb dX9_reckonMoved_21 hl (by decide) rfl (fun ls hl => ?_)
  refine lv_iload_n hx hb dX9_reckonMoved_23 rfl (lv_at hl 3 rfl) ?_
  refine lv_bipush (v := 7) hx hb dX9_reckonMoved_24 (by decide) ?_
  refine lv_icmp_eq (tgt := 58) hx hb dX9_reckonMoved_26 (by decide) (fun c105 => ?_) (fun c105 => ?_)
  · have h := i_yes c105 h
    exact w_X9_reckonMoved_58 hC hR o0 a0 x1 x2 x3 x4 x6 x8 x10 x12 x13 xs0 _ _ _ _ hi0 hw (lv_sub hl [1, 2, 3, 4, 5, 6, 7, 8, 9, 10, 0] rfl) h
  · have h := i_no c105 h
    refine lv_iload_n hx hb dX9_reckonMoved_29 rfl (lv_at hl 3 rfl) ?_
    refine lv_bipush (v := 12) hx hb dX9_reckonMoved_30 (by decide) ?_
    refine lv_icmp_ne (tgt := 62) hx hb dX9_reckonMoved_32 (by decide) (fun c106 => ?_) (fun c106 => ?_)
    · have h := i_no c106 h
      exact w_X9_reckonMoved_62 hC hR o0 a0 x1 x2 x3 x4 x6 x8 x10 x12 x13 xs0 _ _ _ _ hi0 hw (lv_sub hl [1, 2, 3, 4, 5, 6, 7, 8, 9, 10, 0] rfl) h
    · have h := i_yes c106 h
      refine lv_iload_n hx hb dX9_reckonMoved_35 rfl (lv_at hl 4 rfl) ?_
      refine lv_if_eq (tgt := 49) hx hb dX9_reckonMoved_36 (by decide) (fun c107 => ?_) (fun c107 => ?_)
      · have h := i_yes c107 h
        refine lv_lload hx hb dX9_reckonMoved_49 (lv_at hl 6 rfl) ?_
        refine lv_ldc2 (v := 2147483648) hx hb hC.2.2.2.1 (hC.2.2.2.2.1 _ lk_1507) dX9_reckonMoved_51 ?_
        refine W.lcmp hx hb dX9_reckonMoved_54 ?_
        refine lv_if_ge (tgt := 62) hx hb dX9_reckonMoved_55 (by decide) (fun c108 => ?_) (fun c108 => ?_)
        · have h := i_yes c108 h
          exact w_X9_reckonMoved_62 hC hR o0 a0 x1 x2 x3 x4 x6 x8 x10 x12 x13 xs0 _ _ _ _ hi0 hw (lv_sub hl [1, 2, 3, 4, 5, 6, 7, 8, 9, 10, 0] rfl) h
        · have h := i_no c108 h
          exact w_X9_reckonMoved_58 hC hR o0 a0 x1 x2 x3 x4 x6 x8 x10 x12 x13 xs0 _ _ _ _ hi0 hw (lv_sub hl [1, 2, 3, 4, 5, 6, 7, 8, 9, 10, 0] rfl) h
      · have h := i_no c107 h
        refine lv_lload hx hb dX9_reckonMoved_39 (lv_at hl 6 rfl) ?_
        refine lv_lconst (v := 0) hx hb dX9_reckonMoved_41 (by decide) ?_
        refine W.lcmp hx hb dX9_reckonMoved_42 ?_
        refine lv_if_lt (tgt := 62) hx hb dX9_reckonMoved_43 (by decide) (fun c109 => ?_) (fun c109 => ?_)
        · have h := i_yes c109 h
          exact w_X9_reckonMoved_62 hC hR o0 a0 x1 x2 x3 x4 x6 x8 x10 x12 x13 xs0 _ _ _ _ hi0 hw (lv_sub hl [1, 2, 3, 4, 5, 6, 7, 8, 9, 10, 0] rfl) h
        · have h := i_no c109 h
          refine lv_goto (tgt := 58) hx hb dX9_reckonMoved_46 (by decide) ?_
          exact w_X9_reckonMoved_58 hC hR o0 a0 x1 x2 x3 x4 x6 x8 x10 x12 x13 xs0 _ _ _ _ hi0 hw (lv_sub hl [1, 2, 3, 4, 5, 6, 7, 8, 9, 10, 0] rfl) h
set_option maxHeartbeats 4000000 in
set_option maxRecDepth 100000 in
theorem w_X9_reckonMoved_0 {r : Unit} {D' : dt} (hC : Cx RX9 cX9_reckonMoved 18 none p s m args meth c) (hR : 1 ≤ R.frames ∧ 25 ≤ R.locals) : ∀ (o0 a0 : Nat) (x1 : Int32) (x2 : Int32) (x3 : Int32) (x4 : Int64) (x6 : Int64) (x8 : Int64) (x10 : Int64) (x12 : Int32) (D : dt) (H : Heap) (locs : List Loc) (ls : Array Slot), Is S ad o0 a0 8 → Wd G cA S D ad A s H locs → lv_has ls 18 [(0, .ref a0), (1, .int x1), (2, .int x2), (3, .int x3), (4, .long x4), (6, .long x6), (8, .long x8), (10, .long x10), (12, .int x12)] → f_X9_reckonMoved S o0 x1 x2 x3 x4 x6 x8 x10 x12 D = some (r, D') → W p l e R s m args below meth c H locs 0 0 (MQ below (Qn none True (wpost G cA S D' ad A) A) args s 0 0 A) (F0 m 0 ls []) := by
  obtain ⟨hx, hb, -⟩ := id hC
  intro o0 a0 x1 x2 x3 x4 x6 x8 x10 x12 D H locs ls hi0 hw hl h
  unfold f_X9_reckonMoved at h
  refine lv_aload_n hx hb dX9_reckonMoved_0 rfl (lv_at hl 0 rfl) ?_
  obtain ⟨o110, ho113, h⟩ := rq_i h
  refine r_getR hC hw kc_8 hi0 2 rfl lk_1074 dX9_reckonMoved_1 rfl ho113 (fun a111 hi112 => ?_)
  refine lv_iload_n hx hb dX9_reckonMoved_4 rfl (lv_at hl 1 rfl) ?_
  obtain ⟨hn114, h⟩ := ix_i h
  refine r_iald hC hw hi112 hn114 dX9_reckonMoved_5 ?_
  refine lv_topi (fun y115 ey115 => ?_)
  have h := nm_i h y115 ey115
  refine lv_istore (lv' := [(13, .int y115), (0, .ref a0), (1, .int x1), (2, .int x2), (3, .int x3), (4, .long x4), (6, .long x6), (8, .long x8), (10, .long x10), (12, .int x12)]) hx hb dX9_reckonMoved_6 hl (by decide) rfl (fun ls hl => ?_)
  refine lv_lload hx hb dX9_reckonMoved_8 (lv_at hl 7 rfl) ?_
  refine lv_lload hx hb dX9_reckonMoved_10 (lv_at hl 8 rfl) ?_
  refine W.lcmp hx hb dX9_reckonMoved_12 ?_
  refine lv_if_ne (tgt := 20) hx hb dX9_reckonMoved_13 (by decide) (fun c116 => ?_) (fun c116 => ?_)
  · have h := i_no c116 h
    refine lv_iconst (v := 0) hx hb dX9_reckonMoved_20 (by decide) ?_
    exact w_X9_reckonMoved_21 hC hR o0 a0 x1 x2 x3 x4 x6 x8 x10 x12 y115 (0 : Int32) _ _ _ _ hi0 hw (lv_sub hl [1, 2, 3, 4, 5, 6, 7, 8, 9, 0] rfl) h
  · have h := i_yes c116 h
    refine lv_iconst (v := 1) hx hb dX9_reckonMoved_16 (by decide) ?_
    refine lv_goto (tgt := 21) hx hb dX9_reckonMoved_17 (by decide) ?_
    exact w_X9_reckonMoved_21 hC hR o0 a0 x1 x2 x3 x4 x6 x8 x10 x12 y115 (1 : Int32) _ _ _ _ hi0 hw (lv_sub hl [1, 2, 3, 4, 5, 6, 7, 8, 9, 0] rfl) h
set_option maxHeartbeats 4000000 in
set_option maxRecDepth 100000 in
theorem k_X9_reckonMoved {l : Launch} {G : va_G} {cA : Nat → ClassId} {S : sh} {D D' : dt} {ad : Nat → Nat} (sz : Nat) {o0 a0 : Nat} {x1 : Int32} {x2 : Int32} {x3 : Int32} {x4 : Int64} {x6 : Int64} {x8 : Int64} {x10 : Int64} {x12 : Int32} {r : Unit} (hi0 : Is S ad o0 a0 8) (h : f_X9_reckonMoved S o0 x1 x2 x3 x4 x6 x8 x10 x12 D = some (r, D')) : Co l yX9_reckonMoved (Cond.code yX9_reckonMoved cX9_reckonMoved 18 none :: tb0) 1 25 [.ref a0, .int x1, .int x2, .int x3, .long x4, .long x6, .long x8, .long x10, .int x12] G cA S D ad sz none True D' := by
  refine Met.ofW (cc := cX9_reckonMoved) (maxL := 18) (ret := none) (by decide) rfl ?_
  intro p e s m args below meth c s₁ B hml hv
  obtain ⟨rfl, hsz, hP, hK, hD0, hT, hX⟩ := hv
  subst hsz
  have hts := atoms_spec (ws := Cond.code yX9_reckonMoved cX9_reckonMoved 18 none :: tb0) B.pre
  have hC : Cx RX9 cX9_reckonMoved 18 none p s m _ meth c := ⟨B.exec, B.bytes, hml, findClass_of_methodNamed B.named, fun w q => hts w (List.mem_cons_of_mem _ q), B.returns, B.notSynchronized⟩
  have hw := Wd.entry hP hK hD0 hT hX
  have hl := lv_entry ([.ref a0, .int x1, .int x2, .int x3, .long x4, .long x6, .long x8, .long x10, .int x12]) (n := 18) (Nat.le_of_ble_eq_true rfl)
  rw [lg_entry_eq]
  exact w_X9_reckonMoved_0 hC ⟨Nat.le_refl _, Nat.le_refl _⟩ o0 a0 x1 x2 x3 x4 x6 x8 x10 x12 D _ _ _ hi0 hw hl h
end
