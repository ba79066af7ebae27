theorem dX9_isThere_0 : decode cX9_isThere 0 = .ok (.lload_n 1, 1) := by decide +kernel
theorem dX9_isThere_1 : decode cX9_isThere 1 = .ok (.ldc2_w 207, 3) := by decide +kernel
theorem dX9_isThere_4 : decode cX9_isThere 4 = .ok (.ldc2_w 207, 3) := by decide +kernel
theorem dX9_isThere_7 : decode cX9_isThere 7 = .ok (.aload_n 0, 1) := by decide +kernel
theorem dX9_isThere_8 : decode cX9_isThere 8 = .ok (.getfield 209, 3) := by decide +kernel
theorem dX9_isThere_11 : decode cX9_isThere 11 = .ok (.i2l, 1) := by decide +kernel
theorem dX9_isThere_12 : decode cX9_isThere 12 = .ok (.ladd, 1) := by decide +kernel
theorem dX9_isThere_13 : decode cX9_isThere 13 = .ok (.lconst 1, 1) := by decide +kernel
theorem dX9_isThere_14 : decode cX9_isThere 14 = .ok (.lsub, 1) := by decide +kernel
theorem dX9_isThere_15 : decode cX9_isThere 15 = .ok (.invokestatic 132, 3) := by decide +kernel
theorem dX9_isThere_18 : decode cX9_isThere 18 = .ok (.ifCond .eq 31, 3) := by decide +kernel
theorem dX9_isThere_21 : decode cX9_isThere 21 = .ok (.iload 4, 2) := by decide +kernel
theorem dX9_isThere_23 : decode cX9_isThere 23 = .ok (.ifCond .ne 24, 3) := by decide +kernel
theorem dX9_isThere_26 : decode cX9_isThere 26 = .ok (.lload_n 1, 1) := by decide +kernel
theorem dX9_isThere_27 : decode cX9_isThere 27 = .ok (.iload_n 3, 1) := by decide +kernel
theorem dX9_isThere_28 : decode cX9_isThere 28 = .ok (.i2l, 1) := by decide +kernel
theorem dX9_isThere_29 : decode cX9_isThere 29 = .ok (.ladd, 1) := by decide +kernel
theorem dX9_isThere_30 : decode cX9_isThere 30 = .ok (.ldc2_w 207, 3) := by decide +kernel
theorem dX9_isThere_33 : decode cX9_isThere 33 = .ok (.aload_n 0, 1) := by decide +kernel
theorem dX9_isThere_34 : decode cX9_isThere 34 = .ok (.getfield 209, 3) := by decide +kernel
theorem dX9_isThere_37 : decode cX9_isThere 37 = .ok (.i2l, 1) := by decide +kernel
theorem dX9_isThere_38 : decode cX9_isThere 38 = .ok (.ladd, 1) := by decide +kernel
theorem dX9_isThere_39 : decode cX9_isThere 39 = .ok (.lcmp, 1) := by decide +kernel
theorem dX9_isThere_40 : decode cX9_isThere 40 = .ok (.ifCond .gt 7, 3) := by decide +kernel
theorem dX9_isThere_43 : decode cX9_isThere 43 = .ok (.iconst 1, 1) := by decide +kernel
theorem dX9_isThere_44 : decode cX9_isThere 44 = .ok (.goto 4, 3) := by decide +kernel
theorem dX9_isThere_47 : decode cX9_isThere 47 = .ok (.iconst 0, 1) := by decide +kernel
theorem dX9_isThere_48 : decode cX9_isThere 48 = .ok (.ireturn, 1) := by decide +kernel
theorem dX9_isThere_49 : decode cX9_isThere 49 = .ok (.lload_n 1, 1) := by decide +kernel
theorem dX9_isThere_50 : decode cX9_isThere 50 = .ok (.ldc2_w 212, 3) := by decide +kernel
theorem dX9_isThere_53 : decode cX9_isThere 53 = .ok (.ldc2_w 214, 3) := by decide +kernel
theorem dX9_isThere_56 : decode cX9_isThere 56 = .ok (.invokestatic 132, 3) := by decide +kernel
theorem dX9_isThere_59 : decode cX9_isThere 59 = .ok (.ifCond .eq 20, 3) := by decide +kernel
theorem dX9_isThere_62 : decode cX9_isThere 62 = .ok (.lload_n 1, 1) := by decide +kernel
theorem dX9_isThere_63 : decode cX9_isThere 63 = .ok (.iload_n 3, 1) := by decide +kernel
theorem dX9_isThere_64 : decode cX9_isThere 64 = .ok (.i2l, 1) := by decide +kernel
theorem dX9_isThere_65 : decode cX9_isThere 65 = .ok (.ladd, 1) := by decide +kernel
theorem dX9_isThere_66 : decode cX9_isThere 66 = .ok (.ldc2_w 216, 3) := by decide +kernel
theorem dX9_isThere_69 : decode cX9_isThere 69 = .ok (.lcmp, 1) := by decide +kernel
theorem dX9_isThere_70 : decode cX9_isThere 70 = .ok (.ifCond .gt 7, 3) := by decide +kernel
theorem dX9_isThere_73 : decode cX9_isThere 73 = .ok (.iconst 1, 1) := by decide +kernel
theorem dX9_isThere_74 : decode cX9_isThere 74 = .ok (.goto 4, 3) := by decide +kernel
theorem dX9_isThere_77 : decode cX9_isThere 77 = .ok (.iconst 0, 1) := by decide +kernel
theorem dX9_isThere_78 : decode cX9_isThere 78 = .ok (.ireturn, 1) := by decide +kernel
theorem dX9_isThere_79 : decode cX9_isThere 79 = .ok (.aload_n 0, 1) := by decide +kernel
theorem dX9_isThere_80 : decode cX9_isThere 80 = .ok (.lload_n 1, 1) := by decide +kernel
theorem dX9_isThere_81 : decode cX9_isThere 81 = .ok (.invokevirtual 218, 3) := by decide +kernel
theorem dX9_isThere_84 : decode cX9_isThere 84 = .ok (.istore 5, 2) := by decide +kernel
theorem dX9_isThere_86 : decode cX9_isThere 86 = .ok (.iload 5, 2) := by decide +kernel
theorem dX9_isThere_88 : decode cX9_isThere 88 = .ok (.ifCond .ge 5, 3) := by decide +kernel
theorem dX9_isThere_91 : decode cX9_isThere 91 = .ok (.iconst 0, 1) := by decide +kernel
theorem dX9_isThere_92 : decode cX9_isThere 92 = .ok (.ireturn, 1) := by decide +kernel
theorem dX9_isThere_93 : decode cX9_isThere 93 = .ok (.lload_n 1, 1) := by decide +kernel
theorem dX9_isThere_94 : decode cX9_isThere 94 = .ok (.bipush 12, 2) := by decide +kernel
theorem dX9_isThere_96 : decode cX9_isThere 96 = .ok (.lshr, 1) := by decide +kernel
theorem dX9_isThere_97 : decode cX9_isThere 97 = .ok (.ldc2_w 222, 3) := by decide +kernel
theorem dX9_isThere_100 : decode cX9_isThere 100 = .ok (.land, 1) := by decide +kernel
theorem dX9_isThere_101 : decode cX9_isThere 101 = .ok (.lstore 6, 2) := by decide +kernel
theorem dX9_isThere_103 : decode cX9_isThere 103 = .ok (.lload 6, 2) := by decide +kernel
theorem dX9_isThere_105 : decode cX9_isThere 105 = .ok (.aload_n 0, 1) := by decide +kernel
theorem dX9_isThere_106 : decode cX9_isThere 106 = .ok (.getfield 40, 3) := by decide +kernel
theorem dX9_isThere_109 : decode cX9_isThere 109 = .ok (.iload 5, 2) := by decide +kernel
theorem dX9_isThere_111 : decode cX9_isThere 111 = .ok (.iaload, 1) := by decide +kernel
theorem dX9_isThere_112 : decode cX9_isThere 112 = .ok (.i2l, 1) := by decide +kernel
theorem dX9_isThere_113 : decode cX9_isThere 113 = .ok (.lcmp, 1) := by decide +kernel
theorem dX9_isThere_114 : decode cX9_isThere 114 = .ok (.ifCond .ge 27, 3) := by decide +kernel
theorem dX9_isThere_117 : decode cX9_isThere 117 = .ok (.lload_n 1, 1) := by decide +kernel
theorem dX9_isThere_118 : decode cX9_isThere 118 = .ok (.ldc2_w 222, 3) := by decide +kernel
theorem dX9_isThere_121 : decode cX9_isThere 121 = .ok (.land, 1) := by decide +kernel
theorem dX9_isThere_122 : decode cX9_isThere 122 = .ok (.iload_n 3, 1) := by decide +kernel
theorem dX9_isThere_123 : decode cX9_isThere 123 = .ok (.i2l, 1) := by decide +kernel
theorem dX9_isThere_124 : decode cX9_isThere 124 = .ok (.ladd, 1) := by decide +kernel
theorem dX9_isThere_125 : decode cX9_isThere 125 = .ok (.aload_n 0, 1) := by decide +kernel
theorem dX9_isThere_126 : decode cX9_isThere 126 = .ok (.getfield 37, 3) := by decide +kernel
theorem dX9_isThere_129 : decode cX9_isThere 129 = .ok (.iload 5, 2) := by decide +kernel
theorem dX9_isThere_131 : decode cX9_isThere 131 = .ok (.iaload, 1) := by decide +kernel
theorem dX9_isThere_132 : decode cX9_isThere 132 = .ok (.i2l, 1) := by decide +kernel
theorem dX9_isThere_133 : decode cX9_isThere 133 = .ok (.lcmp, 1) := by decide +kernel
theorem dX9_isThere_134 : decode cX9_isThere 134 = .ok (.ifCond .gt 7, 3) := by decide +kernel
theorem dX9_isThere_137 : decode cX9_isThere 137 = .ok (.iconst 1, 1) := by decide +kernel
theorem dX9_isThere_138 : decode cX9_isThere 138 = .ok (.goto 4, 3) := by decide +kernel
theorem dX9_isThere_141 : decode cX9_isThere 141 = .ok (.iconst 0, 1) := by decide +kernel
theorem dX9_isThere_142 : decode cX9_isThere 142 = .ok (.ireturn, 1) := by decide +kernel
theorem dX9_placeOf_0 : decode cX9_placeOf 0 = .ok (.aload_n 0, 1) := by decide +kernel
theorem dX9_placeOf_1 : decode cX9_placeOf 1 = .ok (.lload_n 1, 1) := by decide +kernel
theorem dX9_placeOf_2 : decode cX9_placeOf 2 = .ok (.invokevirtual 218, 3) := by decide +kernel
theorem dX9_placeOf_5 : decode cX9_placeOf 5 = .ok (.istore_n 3, 1) := by decide +kernel
theorem dX9_placeOf_6 : decode cX9_placeOf 6 = .ok (.bipush 32, 2) := by decide +kernel
theorem dX9_placeOf_8 : decode cX9_placeOf 8 = .ok (.bipush 32, 2) := by decide +kernel
theorem dX9_placeOf_10 : decode cX9_placeOf 10 = .ok (.iload_n 3, 1) := by decide +kernel
theorem dX9_placeOf_11 : decode cX9_placeOf 11 = .ok (.imul, 1) := by decide +kernel
theorem dX9_placeOf_12 : decode cX9_placeOf 12 = .ok (.lload_n 1, 1) := by decide +kernel
theorem dX9_placeOf_13 : decode cX9_placeOf 13 = .ok (.bipush 12, 2) := by decide +kernel
theorem dX9_placeOf_15 : decode cX9_placeOf 15 = .ok (.lshr, 1) := by decide +kernel
theorem dX9_placeOf_16 : decode cX9_placeOf 16 = .ok (.ldc2_w 222, 3) := by decide +kernel
theorem dX9_placeOf_19 : decode cX9_placeOf 19 = .ok (.land, 1) := by decide +kernel
theorem dX9_placeOf_20 : decode cX9_placeOf 20 = .ok (.l2i, 1) := by decide +kernel
theorem dX9_placeOf_21 : decode cX9_placeOf 21 = .ok (.iadd, 1) := by decide +kernel
theorem dX9_placeOf_22 : decode cX9_placeOf 22 = .ok (.imul, 1) := by decide +kernel
theorem dX9_placeOf_23 : decode cX9_placeOf 23 = .ok (.lload_n 1, 1) := by decide +kernel
theorem dX9_placeOf_24 : decode cX9_placeOf 24 = .ok (.ldc2_w 222, 3) := by decide +kernel
theorem dX9_placeOf_27 : decode cX9_placeOf 27 = .ok (.land, 1) := by decide +kernel
theorem dX9_placeOf_28 : decode cX9_placeOf 28 = .ok (.l2i, 1) := by decide +kernel
theorem dX9_placeOf_29 : decode cX9_placeOf 29 = .ok (.iadd, 1) := by decide +kernel
theorem dX9_placeOf_30 : decode cX9_placeOf 30 = .ok (.ireturn, 1) := by decide +kernel
theorem dX9_octetAt_0 : decode cX9_octetAt 0 = .ok (.lload_n 1, 1) := by decide +kernel
theorem dX9_octetAt_1 : decode cX9_octetAt 1 = .ok (.ldc2_w 212, 3) := by decide +kernel
theorem dX9_octetAt_4 : decode cX9_octetAt 4 = .ok (.lcmp, 1) := by decide +kernel
theorem dX9_octetAt_5 : decode cX9_octetAt 5 = .ok (.ifCond .ge 15, 3) := by decide +kernel
theorem dX9_octetAt_8 : decode cX9_octetAt 8 = .ok (.aload_n 0, 1) := by decide +kernel
theorem dX9_octetAt_9 : decode cX9_octetAt 9 = .ok (.getfield 25, 3) := by decide +kernel
theorem dX9_octetAt_12 : decode cX9_octetAt 12 = .ok (.lload_n 1, 1) := by decide +kernel
theorem dX9_octetAt_13 : decode cX9_octetAt 13 = .ok (.ldc2_w 207, 3) := by decide +kernel
theorem dX9_octetAt_16 : decode cX9_octetAt 16 = .ok (.lsub, 1) := by decide +kernel
theorem dX9_octetAt_17 : decode cX9_octetAt 17 = .ok (.l2i, 1) := by decide +kernel
theorem dX9_octetAt_18 : decode cX9_octetAt 18 = .ok (.iaload, 1) := by decide +kernel
theorem dX9_octetAt_19 : decode cX9_octetAt 19 = .ok (.ireturn, 1) := by decide +kernel
theorem dX9_octetAt_20 : decode cX9_octetAt 20 = .ok (.lload_n 1, 1) := by decide +kernel
theorem dX9_octetAt_21 : decode cX9_octetAt 21 = .ok (.ldc2_w 216, 3) := by decide +kernel
theorem dX9_octetAt_24 : decode cX9_octetAt 24 = .ok (.lcmp, 1) := by decide +kernel
theorem dX9_octetAt_25 : decode cX9_octetAt 25 = .ok (.ifCond .ge 21, 3) := by decide +kernel
theorem dX9_octetAt_28 : decode cX9_octetAt 28 = .ok (.aload_n 0, 1) := by decide +kernel
theorem dX9_octetAt_29 : decode cX9_octetAt 29 = .ok (.getfield 28, 3) := by decide +kernel
theorem dX9_octetAt_32 : decode cX9_octetAt 32 = .ok (.lload_n 1, 1) := by decide +kernel
theorem dX9_octetAt_33 : decode cX9_octetAt 33 = .ok (.ldc2_w 216, 3) := by decide +kernel
theorem dX9_octetAt_36 : decode cX9_octetAt 36 = .ok (.lsub, 1) := by decide +kernel
theorem dX9_octetAt_37 : decode cX9_octetAt 37 = .ok (.l2i, 1) := by decide +kernel
theorem dX9_octetAt_38 : decode cX9_octetAt 38 = .ok (.sipush 512, 3) := by decide +kernel
theorem dX9_octetAt_41 : decode cX9_octetAt 41 = .ok (.iadd, 1) := by decide +kernel
theorem dX9_octetAt_42 : decode cX9_octetAt 42 = .ok (.iaload, 1) := by decide +kernel
theorem dX9_octetAt_43 : decode cX9_octetAt 43 = .ok (.goto 13, 3) := by decide +kernel
theorem dX9_octetAt_46 : decode cX9_octetAt 46 = .ok (.aload_n 0, 1) := by decide +kernel
theorem dX9_octetAt_47 : decode cX9_octetAt 47 = .ok (.getfield 43, 3) := by decide +kernel
theorem dX9_octetAt_50 : decode cX9_octetAt 50 = .ok (.aload_n 0, 1) := by decide +kernel
theorem dX9_octetAt_51 : decode cX9_octetAt 51 = .ok (.lload_n 1, 1) := by decide +kernel
theorem dX9_octetAt_52 : decode cX9_octetAt 52 = .ok (.invokevirtual 224, 3) := by decide +kernel
theorem dX9_octetAt_55 : decode cX9_octetAt 55 = .ok (.iaload, 1) := by decide +kernel
theorem dX9_octetAt_56 : decode cX9_octetAt 56 = .ok (.ireturn, 1) := by decide +kernel
theorem dX9_setOctet_0 : decode cX9_setOctet 0 = .ok (.lload_n 1, 1) := by decide +kernel
theorem dX9_setOctet_1 : decode cX9_setOctet 1 = .ok (.ldc2_w 216, 3) := by decide +kernel
theorem dX9_setOctet_4 : decode cX9_setOctet 4 = .ok (.lcmp, 1) := by decide +kernel
theorem dX9_setOctet_5 : decode cX9_setOctet 5 = .ok (.ifCond .ge 22, 3) := by decide +kernel
theorem dX9_setOctet_8 : decode cX9_setOctet 8 = .ok (.aload_n 0, 1) := by decide +kernel
theorem dX9_setOctet_9 : decode cX9_setOctet 9 = .ok (.getfield 28, 3) := by decide +kernel
theorem dX9_setOctet_12 : decode cX9_setOctet 12 = .ok (.lload_n 1, 1) := by decide +kernel
theorem dX9_setOctet_13 : decode cX9_setOctet 13 = .ok (.ldc2_w 216, 3) := by decide +kernel
theorem dX9_setOctet_16 : decode cX9_setOctet 16 = .ok (.lsub, 1) := by decide +kernel
theorem dX9_setOctet_17 : decode cX9_setOctet 17 = .ok (.l2i, 1) := by decide +kernel
theorem dX9_setOctet_18 : decode cX9_setOctet 18 = .ok (.sipush 512, 3) := by decide +kernel
theorem dX9_setOctet_21 : decode cX9_setOctet 21 = .ok (.iadd, 1) := by decide +kernel
theorem dX9_setOctet_22 : decode cX9_setOctet 22 = .ok (.iload_n 3, 1) := by decide +kernel
theorem dX9_setOctet_23 : decode cX9_setOctet 23 = .ok (.iastore, 1) := by decide +kernel
theorem dX9_setOctet_24 : decode cX9_setOctet 24 = .ok (.goto 14, 3) := by decide +kernel
theorem dX9_setOctet_27 : decode cX9_setOctet 27 = .ok (.aload_n 0, 1) := by decide +kernel
theorem dX9_setOctet_28 : decode cX9_setOctet 28 = .ok (.getfield 43, 3) := by decide +kernel
theorem dX9_setOctet_31 : decode cX9_setOctet 31 = .ok (.aload_n 0, 1) := by decide +kernel
theorem dX9_setOctet_32 : decode cX9_setOctet 32 = .ok (.lload_n 1, 1) := by decide +kernel
theorem dX9_setOctet_33 : decode cX9_setOctet 33 = .ok (.invokevirtual 224, 3) := by decide +kernel
theorem dX9_setOctet_36 : decode cX9_setOctet 36 = .ok (.iload_n 3, 1) := by decide +kernel
theorem dX9_setOctet_37 : decode cX9_setOctet 37 = .ok (.iastore, 1) := by decide +kernel
theorem dX9_setOctet_38 : decode cX9_setOctet 38 = .ok (.return_, 1) := by decide +kernel
theorem dX9_numberAt_0 : decode cX9_numberAt 0 = .ok (.lconst 0, 1) := by decide +kernel
theorem dX9_numberAt_1 : decode cX9_numberAt 1 = .ok (.lstore 4, 2) := by decide +kernel
theorem dX9_numberAt_3 : decode cX9_numberAt 3 = .ok (.iload_n 3, 1) := by decide +kernel
theorem dX9_numberAt_4 : decode cX9_numberAt 4 = .ok (.iconst 1, 1) := by decide +kernel
theorem dX9_numberAt_5 : decode cX9_numberAt 5 = .ok (.isub, 1) := by decide +kernel
theorem dX9_numberAt_6 : decode cX9_numberAt 6 = .ok (.istore 6, 2) := by decide +kernel
theorem dX9_numberAt_8 : decode cX9_numberAt 8 = .ok (.iload 6, 2) := by decide +kernel
theorem dX9_numberAt_10 : decode cX9_numberAt 10 = .ok (.ifCond .lt 27, 3) := by decide +kernel
theorem dX9_numberAt_13 : decode cX9_numberAt 13 = .ok (.lload 4, 2) := by decide +kernel
theorem dX9_numberAt_15 : decode cX9_numberAt 15 = .ok (.bipush 8, 2) := by decide +kernel
theorem dX9_numberAt_17 : decode cX9_numberAt 17 = .ok (.lshl, 1) := by decide +kernel
theorem dX9_numberAt_18 : decode cX9_numberAt 18 = .ok (.aload_n 0, 1) := by decide +kernel
theorem dX9_numberAt_19 : decode cX9_numberAt 19 = .ok (.lload_n 1, 1) := by decide +kernel
theorem dX9_numberAt_20 : decode cX9_numberAt 20 = .ok (.iload 6, 2) := by decide +kernel
theorem dX9_numberAt_22 : decode cX9_numberAt 22 = .ok (.i2l, 1) := by decide +kernel
theorem dX9_numberAt_23 : decode cX9_numberAt 23 = .ok (.ladd, 1) := by decide +kernel
theorem dX9_numberAt_24 : decode cX9_numberAt 24 = .ok (.invokevirtual 227, 3) := by decide +kernel
theorem dX9_numberAt_27 : decode cX9_numberAt 27 = .ok (.i2l, 1) := by decide +kernel
theorem dX9_numberAt_28 : decode cX9_numberAt 28 = .ok (.lor, 1) := by decide +kernel
theorem dX9_numberAt_29 : decode cX9_numberAt 29 = .ok (.lstore 4, 2) := by decide +kernel
theorem dX9_numberAt_31 : decode cX9_numberAt 31 = .ok (.iinc 6 (-1), 3) := by decide +kernel
theorem dX9_numberAt_34 : decode cX9_numberAt 34 = .ok (.goto (-26), 3) := by decide +kernel
theorem dX9_numberAt_37 : decode cX9_numberAt 37 = .ok (.lload 4, 2) := by decide +kernel
theorem dX9_numberAt_39 : decode cX9_numberAt 39 = .ok (.lreturn, 1) := by decide +kernel
theorem dX9_setNumber_0 : decode cX9_setNumber 0 = .ok (.iconst 0, 1) := by decide +kernel
theorem dX9_setNumber_1 : decode cX9_setNumber 1 = .ok (.istore 6, 2) := by decide +kernel
theorem dX9_setNumber_3 : decode cX9_setNumber 3 = .ok (.iload 6, 2) := by decide +kernel
theorem dX9_setNumber_5 : decode cX9_setNumber 5 = .ok (.iload_n 3, 1) := by decide +kernel
theorem dX9_setNumber_6 : decode cX9_setNumber 6 = .ok (.if_icmp .ge 31, 3) := by decide +kernel
theorem dX9_setNumber_9 : decode cX9_setNumber 9 = .ok (.aload_n 0, 1) := by decide +kernel
theorem dX9_setNumber_10 : decode cX9_setNumber 10 = .ok (.lload_n 1, 1) := by decide +kernel
theorem dX9_setNumber_11 : decode cX9_setNumber 11 = .ok (.iload 6, 2) := by decide +kernel
theorem dX9_setNumber_13 : decode cX9_setNumber 13 = .ok (.i2l, 1) := by decide +kernel
theorem dX9_setNumber_14 : decode cX9_setNumber 14 = .ok (.ladd, 1) := by decide +kernel
theorem dX9_setNumber_15 : decode cX9_setNumber 15 = .ok (.lload 4, 2) := by decide +kernel
theorem dX9_setNumber_17 : decode cX9_setNumber 17 = .ok (.bipush 8, 2) := by decide +kernel
theorem dX9_setNumber_19 : decode cX9_setNumber 19 = .ok (.iload 6, 2) := by decide +kernel
theorem dX9_setNumber_21 : decode cX9_setNumber 21 = .ok (.imul, 1) := by decide +kernel
theorem dX9_setNumber_22 : decode cX9_setNumber 22 = .ok (.lshr, 1) := by decide +kernel
theorem dX9_setNumber_23 : decode cX9_setNumber 23 = .ok (.ldc2_w 130, 3) := by decide +kernel
theorem dX9_setNumber_26 : decode cX9_setNumber 26 = .ok (.land, 1) := by decide +kernel
theorem dX9_setNumber_27 : decode cX9_setNumber 27 = .ok (.l2i, 1) := by decide +kernel
theorem dX9_setNumber_28 : decode cX9_setNumber 28 = .ok (.invokevirtual 230, 3) := by decide +kernel
theorem dX9_setNumber_31 : decode cX9_setNumber 31 = .ok (.iinc 6 1, 3) := by decide +kernel
theorem dX9_setNumber_34 : decode cX9_setNumber 34 = .ok (.goto (-31), 3) := by decide +kernel
theorem dX9_setNumber_37 : decode cX9_setNumber 37 = .ok (.return_, 1) := by decide +kernel
theorem dX9_octet_0 : decode cX9_octet 0 = .ok (.aload_n 0, 1) := by decide +kernel
theorem dX9_octet_1 : decode cX9_octet 1 = .ok (.lload_n 1, 1) := by decide +kernel
theorem dX9_octet_2 : decode cX9_octet 2 = .ok (.iconst 1, 1) := by decide +kernel
theorem dX9_octet_3 : decode cX9_octet 3 = .ok (.iconst 0, 1) := by decide +kernel
theorem dX9_octet_4 : decode cX9_octet 4 = .ok (.invokevirtual 234, 3) := by decide +kernel
theorem dX9_octet_7 : decode cX9_octet 7 = .ok (.ifCond .eq 11, 3) := by decide +kernel
theorem dX9_octet_10 : decode cX9_octet 10 = .ok (.aload_n 0, 1) := by decide +kernel
theorem dX9_octet_11 : decode cX9_octet 11 = .ok (.lload_n 1, 1) := by decide +kernel
theorem dX9_octet_12 : decode cX9_octet 12 = .ok (.invokevirtual 227, 3) := by decide +kernel
theorem dX9_octet_15 : decode cX9_octet 15 = .ok (.goto 4, 3) := by decide +kernel
theorem dX9_octet_18 : decode cX9_octet 18 = .ok (.iconst (-1), 1) := by decide +kernel
theorem dX9_octet_19 : decode cX9_octet 19 = .ok (.ireturn, 1) := by decide +kernel
theorem dX9_table_0 : decode cX9_table 0 = .ok (.iload_n 1, 1) := by decide +kernel
theorem dX9_table_1 : decode cX9_table 1 = .ok (.i2l, 1) := by decide +kernel
theorem dX9_table_2 : decode cX9_table 2 = .ok (.lconst 0, 1) := by decide +kernel
theorem dX9_table_3 : decode cX9_table 3 = .ok (.lconst 1, 1) := by decide +kernel
theorem dX9_table_4 : decode cX9_table 4 = .ok (.invokestatic 132, 3) := by decide +kernel
theorem dX9_table_7 : decode cX9_table 7 = .ok (.ifCond .eq 52, 3) := by decide +kernel
theorem dX9_table_10 : decode cX9_table 10 = .ok (.iload_n 1, 1) := by decide +kernel
theorem dX9_table_11 : decode cX9_table 11 = .ok (.ifCond .ne 11, 3) := by decide +kernel
theorem dX9_table_14 : decode cX9_table 14 = .ok (.iload_n 2, 1) := by decide +kernel
theorem dX9_table_15 : decode cX9_table 15 = .ok (.iconst 4, 1) := by decide +kernel
theorem dX9_table_16 : decode cX9_table 16 = .ok (.if_icmp .eq 18, 3) := by decide +kernel
theorem dX9_table_19 : decode cX9_table 19 = .ok (.goto 40, 3) := by decide +kernel
theorem dX9_table_22 : decode cX9_table 22 = .ok (.iload_n 2, 1) := by decide +kernel
theorem dX9_table_23 : decode cX9_table 23 = .ok (.i2l, 1) := by decide +kernel
theorem dX9_table_24 : decode cX9_table 24 = .ok (.lconst 1, 1) := by decide +kernel
theorem dX9_table_25 : decode cX9_table 25 = .ok (.ldc2_w 238, 3) := by decide +kernel
theorem dX9_table_28 : decode cX9_table 28 = .ok (.invokestatic 132, 3) := by decide +kernel
theorem dX9_table_31 : decode cX9_table 31 = .ok (.ifCond .eq 28, 3) := by decide +kernel
theorem dX9_table_34 : decode cX9_table 34 = .ok (.iload_n 3, 1) := by decide +kernel
theorem dX9_table_35 : decode cX9_table 35 = .ok (.i2l, 1) := by decide +kernel
theorem dX9_table_36 : decode cX9_table 36 = .ok (.lconst 1, 1) := by decide +kernel
theorem dX9_table_37 : decode cX9_table 37 = .ok (.ldc2_w 240, 3) := by decide +kernel
theorem dX9_table_40 : decode cX9_table 40 = .ok (.invokestatic 132, 3) := by decide +kernel
theorem dX9_table_43 : decode cX9_table 43 = .ok (.ifCond .eq 16, 3) := by decide +kernel
theorem dX9_table_46 : decode cX9_table 46 = .ok (.iload 4, 2) := by decide +kernel
theorem dX9_table_48 : decode cX9_table 48 = .ok (.i2l, 1) := by decide +kernel
theorem dX9_table_49 : decode cX9_table 49 = .ok (.lconst 1, 1) := by decide +kernel
theorem dX9_table_50 : decode cX9_table 50 = .ok (.ldc2_w 240, 3) := by decide +kernel
theorem dX9_table_53 : decode cX9_table 53 = .ok (.invokestatic 132, 3) := by decide +kernel
theorem dX9_table_56 : decode cX9_table 56 = .ok (.ifCond .ne 6, 3) := by decide +kernel
theorem dX9_table_59 : decode cX9_table 59 = .ok (.bipush (-2), 2) := by decide +kernel
theorem dX9_table_61 : decode cX9_table 61 = .ok (.ireturn, 1) := by decide +kernel
theorem dX9_table_62 : decode cX9_table 62 = .ok (.aload_n 0, 1) := by decide +kernel
theorem dX9_table_63 : decode cX9_table 63 = .ok (.getfield 204, 3) := by decide +kernel
theorem dX9_table_66 : decode cX9_table 66 = .ok (.iconst 4, 1) := by decide +kernel
theorem dX9_table_67 : decode cX9_table 67 = .ok (.if_icmp .ne 6, 3) := by decide +kernel
theorem dX9_table_70 : decode cX9_table 70 = .ok (.bipush (-4), 2) := by decide +kernel
theorem dX9_table_72 : decode cX9_table 72 = .ok (.ireturn, 1) := by decide +kernel
theorem dX9_table_73 : decode cX9_table 73 = .ok (.aload_n 0, 1) := by decide +kernel
theorem dX9_table_74 : decode cX9_table 74 = .ok (.getfield 31, 3) := by decide +kernel
theorem dX9_table_77 : decode cX9_table 77 = .ok (.aload_n 0, 1) := by decide +kernel
theorem dX9_table_78 : decode cX9_table 78 = .ok (.getfield 204, 3) := by decide +kernel
theorem dX9_table_81 : decode cX9_table 81 = .ok (.iload_n 1, 1) := by decide +kernel
theorem dX9_table_82 : decode cX9_table 82 = .ok (.iastore, 1) := by decide +kernel
theorem dX9_table_83 : decode cX9_table 83 = .ok (.aload_n 0, 1) := by decide +kernel
theorem dX9_table_84 : decode cX9_table 84 = .ok (.getfield 34, 3) := by decide +kernel
theorem dX9_table_87 : decode cX9_table 87 = .ok (.aload_n 0, 1) := by decide +kernel
theorem dX9_table_88 : decode cX9_table 88 = .ok (.getfield 204, 3) := by decide +kernel
theorem dX9_table_91 : decode cX9_table 91 = .ok (.iload_n 2, 1) := by decide +kernel
theorem dX9_table_92 : decode cX9_table 92 = .ok (.iastore, 1) := by decide +kernel
theorem dX9_table_93 : decode cX9_table 93 = .ok (.aload_n 0, 1) := by decide +kernel
theorem dX9_table_94 : decode cX9_table 94 = .ok (.getfield 37, 3) := by decide +kernel
theorem dX9_table_97 : decode cX9_table 97 = .ok (.aload_n 0, 1) := by decide +kernel
theorem dX9_table_98 : decode cX9_table 98 = .ok (.getfield 204, 3) := by decide +kernel
theorem dX9_table_101 : decode cX9_table 101 = .ok (.iload_n 3, 1) := by decide +kernel
theorem dX9_table_102 : decode cX9_table 102 = .ok (.iastore, 1) := by decide +kernel
theorem dX9_table_103 : decode cX9_table 103 = .ok (.aload_n 0, 1) := by decide +kernel
theorem dX9_table_104 : decode cX9_table 104 = .ok (.getfield 40, 3) := by decide +kernel
theorem dX9_table_107 : decode cX9_table 107 = .ok (.aload_n 0, 1) := by decide +kernel
theorem dX9_table_108 : decode cX9_table 108 = .ok (.getfield 204, 3) := by decide +kernel
theorem dX9_table_111 : decode cX9_table 111 = .ok (.iload 4, 2) := by decide +kernel
theorem dX9_table_113 : decode cX9_table 113 = .ok (.iastore, 1) := by decide +kernel
theorem dX9_table_114 : decode cX9_table 114 = .ok (.aload_n 0, 1) := by decide +kernel
theorem dX9_table_115 : decode cX9_table 115 = .ok (.dup, 1) := by decide +kernel
theorem dX9_table_116 : decode cX9_table 116 = .ok (.getfield 204, 3) := by decide +kernel
theorem dX9_table_119 : decode cX9_table 119 = .ok (.iconst 1, 1) := by decide +kernel
theorem dX9_table_120 : decode cX9_table 120 = .ok (.iadd, 1) := by decide +kernel
theorem dX9_table_121 : decode cX9_table 121 = .ok (.putfield 204, 3) := by decide +kernel
theorem dX9_table_124 : decode cX9_table 124 = .ok (.aload_n 0, 1) := by decide +kernel
theorem dX9_table_125 : decode cX9_table 125 = .ok (.getfield 204, 3) := by decide +kernel
theorem dX9_table_128 : decode cX9_table 128 = .ok (.iconst 1, 1) := by decide +kernel
theorem dX9_table_129 : decode cX9_table 129 = .ok (.isub, 1) := by decide +kernel
theorem dX9_table_130 : decode cX9_table 130 = .ok (.ireturn, 1) := by decide +kernel
theorem dX9_find_0 : decode cX9_find 0 = .ok (.aload_n 0, 1) := by decide +kernel
theorem dX9_find_1 : decode cX9_find 1 = .ok (.getfield 31, 3) := by decide +kernel
theorem dX9_find_4 : decode cX9_find 4 = .ok (.iload_n 1, 1) := by decide +kernel
theorem dX9_find_5 : decode cX9_find 5 = .ok (.iaload, 1) := by decide +kernel
theorem dX9_find_6 : decode cX9_find 6 = .ok (.ifCond .ne 52, 3) := by decide +kernel
theorem dX9_find_9 : decode cX9_find 9 = .ok (.lconst 0, 1) := by decide +kernel
theorem dX9_find_10 : decode cX9_find 10 = .ok (.lstore_n 2, 1) := by decide +kernel
theorem dX9_find_11 : decode cX9_find 11 = .ok (.iconst 3, 1) := by decide +kernel
theorem dX9_find_12 : decode cX9_find 12 = .ok (.istore 4, 2) := by decide +kernel
theorem dX9_find_14 : decode cX9_find 14 = .ok (.iload 4, 2) := by decide +kernel
theorem dX9_find_16 : decode cX9_find 16 = .ok (.ifCond .lt 23, 3) := by decide +kernel
theorem dX9_find_19 : decode cX9_find 19 = .ok (.lload_n 2, 1) := by decide +kernel
theorem dX9_find_20 : decode cX9_find 20 = .ok (.bipush 8, 2) := by decide +kernel
theorem dX9_find_22 : decode cX9_find 22 = .ok (.lshl, 1) := by decide +kernel
theorem dX9_find_23 : decode cX9_find 23 = .ok (.aload_n 0, 1) := by decide +kernel
theorem dX9_find_24 : decode cX9_find 24 = .ok (.getfield 63, 3) := by decide +kernel
theorem dX9_find_27 : decode cX9_find 27 = .ok (.iload 4, 2) := by decide +kernel
theorem dX9_find_29 : decode cX9_find 29 = .ok (.iaload, 1) := by decide +kernel
theorem dX9_find_30 : decode cX9_find 30 = .ok (.i2l, 1) := by decide +kernel
theorem dX9_find_31 : decode cX9_find 31 = .ok (.lor, 1) := by decide +kernel
theorem dX9_find_32 : decode cX9_find 32 = .ok (.lstore_n 2, 1) := by decide +kernel
theorem dX9_find_33 : decode cX9_find 33 = .ok (.iinc 4 (-1), 3) := by decide +kernel
theorem dX9_find_36 : decode cX9_find 36 = .ok (.goto (-22), 3) := by decide +kernel
theorem dX9_find_39 : decode cX9_find 39 = .ok (.lload_n 2, 1) := by decide +kernel
theorem dX9_find_40 : decode cX9_find 40 = .ok (.aload_n 0, 1) := by decide +kernel
theorem dX9_find_41 : decode cX9_find 41 = .ok (.getfield 40, 3) := by decide +kernel
theorem dX9_find_44 : decode cX9_find 44 = .ok (.iload_n 1, 1) := by decide +kernel
theorem dX9_find_45 : decode cX9_find 45 = .ok (.iaload, 1) := by decide +kernel
theorem dX9_find_46 : decode cX9_find 46 = .ok (.i2l, 1) := by decide +kernel
theorem dX9_find_47 : decode cX9_find 47 = .ok (.lcmp, 1) := by decide +kernel
theorem dX9_find_48 : decode cX9_find 48 = .ok (.ifCond .ge 8, 3) := by decide +kernel
theorem dX9_find_51 : decode cX9_find 51 = .ok (.lload_n 2, 1) := by decide +kernel
theorem dX9_find_52 : decode cX9_find 52 = .ok (.l2i, 1) := by decide +kernel
theorem dX9_find_53 : decode cX9_find 53 = .ok (.goto 4, 3) := by decide +kernel
theorem dX9_find_56 : decode cX9_find 56 = .ok (.iconst (-1), 1) := by decide +kernel
theorem dX9_find_57 : decode cX9_find 57 = .ok (.ireturn, 1) := by decide +kernel
theorem dX9_find_58 : decode cX9_find 58 = .ok (.iconst 0, 1) := by decide +kernel
theorem dX9_find_59 : decode cX9_find 59 = .ok (.istore_n 2, 1) := by decide +kernel
theorem dX9_find_60 : decode cX9_find 60 = .ok (.iload_n 2, 1) := by decide +kernel
theorem dX9_find_61 : decode cX9_find 61 = .ok (.aload_n 0, 1) := by decide +kernel
theorem dX9_find_62 : decode cX9_find 62 = .ok (.getfield 40, 3) := by decide +kernel
theorem dX9_find_65 : decode cX9_find 65 = .ok (.iload_n 1, 1) := by decide +kernel
theorem dX9_find_66 : decode cX9_find 66 = .ok (.iaload, 1) := by decide +kernel
theorem dX9_find_67 : decode cX9_find 67 = .ok (.if_icmp .ge 85, 3) := by decide +kernel
theorem dX9_find_70 : decode cX9_find 70 = .ok (.bipush 32, 2) := by decide +kernel
theorem dX9_find_72 : decode cX9_find 72 = .ok (.iload_n 1, 1) := by decide +kernel
theorem dX9_find_73 : decode cX9_find 73 = .ok (.imul, 1) := by decide +kernel
theorem dX9_find_74 : decode cX9_find 74 = .ok (.iload_n 2, 1) := by decide +kernel
theorem dX9_find_75 : decode cX9_find 75 = .ok (.iadd, 1) := by decide +kernel
theorem dX9_find_76 : decode cX9_find 76 = .ok (.istore_n 3, 1) := by decide +kernel
theorem dX9_find_77 : decode cX9_find 77 = .ok (.aload_n 0, 1) := by decide +kernel
theorem dX9_find_78 : decode cX9_find 78 = .ok (.getfield 46, 3) := by decide +kernel
theorem dX9_find_81 : decode cX9_find 81 = .ok (.iload_n 3, 1) := by decide +kernel
theorem dX9_find_82 : decode cX9_find 82 = .ok (.baload, 1) := by decide +kernel
theorem dX9_find_83 : decode cX9_find 83 = .ok (.istore 4, 2) := by decide +kernel
theorem dX9_find_85 : decode cX9_find 85 = .ok (.iconst 0, 1) := by decide +kernel
theorem dX9_find_86 : decode cX9_find 86 = .ok (.istore 5, 2) := by decide +kernel
theorem dX9_find_88 : decode cX9_find 88 = .ok (.iload 5, 2) := by decide +kernel
theorem dX9_find_90 : decode cX9_find 90 = .ok (.aload_n 0, 1) := by decide +kernel
theorem dX9_find_91 : decode cX9_find 91 = .ok (.getfield 34, 3) := by decide +kernel
theorem dX9_find_94 : decode cX9_find 94 = .ok (.iload_n 1, 1) := by decide +kernel
theorem dX9_find_95 : decode cX9_find 95 = .ok (.iaload, 1) := by decide +kernel
theorem dX9_find_96 : decode cX9_find 96 = .ok (.if_icmp .ge 43, 3) := by decide +kernel
theorem dX9_find_99 : decode cX9_find 99 = .ok (.iload 4, 2) := by decide +kernel
theorem dX9_find_101 : decode cX9_find 101 = .ok (.ifCond .eq 38, 3) := by decide +kernel
theorem dX9_find_104 : decode cX9_find 104 = .ok (.aload_n 0, 1) := by decide +kernel
theorem dX9_find_105 : decode cX9_find 105 = .ok (.getfield 50, 3) := by decide +kernel
theorem dX9_find_108 : decode cX9_find 108 = .ok (.bipush 8, 2) := by decide +kernel
theorem dX9_find_110 : decode cX9_find 110 = .ok (.iload_n 3, 1) := by decide +kernel
theorem dX9_find_111 : decode cX9_find 111 = .ok (.imul, 1) := by decide +kernel
theorem dX9_find_112 : decode cX9_find 112 = .ok (.iload 5, 2) := by decide +kernel
theorem dX9_find_114 : decode cX9_find 114 = .ok (.iadd, 1) := by decide +kernel
theorem dX9_find_115 : decode cX9_find 115 = .ok (.iaload, 1) := by decide +kernel
theorem dX9_find_116 : decode cX9_find 116 = .ok (.aload_n 0, 1) := by decide +kernel
theorem dX9_find_117 : decode cX9_find 117 = .ok (.getfield 63, 3) := by decide +kernel
theorem dX9_find_120 : decode cX9_find 120 = .ok (.iload 5, 2) := by decide +kernel
theorem dX9_find_122 : decode cX9_find 122 = .ok (.iaload, 1) := by decide +kernel
theorem dX9_find_123 : decode cX9_find 123 = .ok (.if_icmp .ne 7, 3) := by decide +kernel
theorem dX9_find_126 : decode cX9_find 126 = .ok (.iconst 1, 1) := by decide +kernel
theorem dX9_find_127 : decode cX9_find 127 = .ok (.goto 4, 3) := by decide +kernel
theorem dX9_find_130 : decode cX9_find 130 = .ok (.iconst 0, 1) := by decide +kernel
theorem dX9_find_131 : decode cX9_find 131 = .ok (.istore 4, 2) := by decide +kernel
theorem dX9_find_133 : decode cX9_find 133 = .ok (.iinc 5 1, 3) := by decide +kernel
theorem dX9_find_136 : decode cX9_find 136 = .ok (.goto (-48), 3) := by decide +kernel
theorem dX9_find_139 : decode cX9_find 139 = .ok (.iload 4, 2) := by decide +kernel
theorem dX9_find_141 : decode cX9_find 141 = .ok (.ifCond .eq 5, 3) := by decide +kernel
theorem dX9_find_144 : decode cX9_find 144 = .ok (.iload_n 2, 1) := by decide +kernel
theorem dX9_find_145 : decode cX9_find 145 = .ok (.ireturn, 1) := by decide +kernel
theorem dX9_find_146 : decode cX9_find 146 = .ok (.iinc 2 1, 3) := by decide +kernel
theorem dX9_find_149 : decode cX9_find 149 = .ok (.goto (-89), 3) := by decide +kernel
theorem dX9_find_152 : decode cX9_find 152 = .ok (.iconst (-1), 1) := by decide +kernel
theorem dX9_find_153 : decode cX9_find 153 = .ok (.ireturn, 1) := by decide +kernel
theorem dX9_keys_0 : decode cX9_keys 0 = .ok (.iload_n 1, 1) := by decide +kernel
theorem dX9_keys_1 : decode cX9_keys 1 = .ok (.i2l, 1) := by decide +kernel
theorem dX9_keys_2 : decode cX9_keys 2 = .ok (.lconst 0, 1) := by decide +kernel
theorem dX9_keys_3 : decode cX9_keys 3 = .ok (.aload_n 0, 1) := by decide +kernel
theorem dX9_keys_4 : decode cX9_keys 4 = .ok (.getfield 204, 3) := by decide +kernel
theorem dX9_keys_7 : decode cX9_keys 7 = .ok (.iconst 1, 1) := by decide +kernel
theorem dX9_keys_8 : decode cX9_keys 8 = .ok (.isub, 1) := by decide +kernel
theorem dX9_keys_9 : decode cX9_keys 9 = .ok (.i2l, 1) := by decide +kernel
theorem dX9_keys_10 : decode cX9_keys 10 = .ok (.invokestatic 132, 3) := by decide +kernel
theorem dX9_keys_13 : decode cX9_keys 13 = .ok (.ifCond .ne 5, 3) := by decide +kernel
theorem dX9_keys_16 : decode cX9_keys 16 = .ok (.iconst (-1), 1) := by decide +kernel
theorem dX9_keys_17 : decode cX9_keys 17 = .ok (.ireturn, 1) := by decide +kernel
theorem dX9_keys_18 : decode cX9_keys 18 = .ok (.iconst 0, 1) := by decide +kernel
theorem dX9_keys_19 : decode cX9_keys 19 = .ok (.istore_n 2, 1) := by decide +kernel
theorem dX9_keys_20 : decode cX9_keys 20 = .ok (.iconst 0, 1) := by decide +kernel
theorem dX9_keys_21 : decode cX9_keys 21 = .ok (.istore_n 3, 1) := by decide +kernel
theorem dX9_keys_22 : decode cX9_keys 22 = .ok (.iload_n 3, 1) := by decide +kernel
theorem dX9_keys_23 : decode cX9_keys 23 = .ok (.aload_n 0, 1) := by decide +kernel
theorem dX9_keys_24 : decode cX9_keys 24 = .ok (.getfield 40, 3) := by decide +kernel
theorem dX9_keys_27 : decode cX9_keys 27 = .ok (.iload_n 1, 1) := by decide +kernel
theorem dX9_keys_28 : decode cX9_keys 28 = .ok (.iaload, 1) := by decide +kernel
theorem dX9_keys_29 : decode cX9_keys 29 = .ok (.if_icmp .ge 40, 3) := by decide +kernel
theorem dX9_keys_32 : decode cX9_keys 32 = .ok (.aload_n 0, 1) := by decide +kernel
theorem dX9_keys_33 : decode cX9_keys 33 = .ok (.getfield 31, 3) := by decide +kernel
theorem dX9_keys_36 : decode cX9_keys 36 = .ok (.iload_n 1, 1) := by decide +kernel
theorem dX9_keys_37 : decode cX9_keys 37 = .ok (.iaload, 1) := by decide +kernel
theorem dX9_keys_38 : decode cX9_keys 38 = .ok (.ifCond .eq 17, 3) := by decide +kernel
theorem dX9_keys_41 : decode cX9_keys 41 = .ok (.aload_n 0, 1) := by decide +kernel
theorem dX9_keys_42 : decode cX9_keys 42 = .ok (.getfield 46, 3) := by decide +kernel
theorem dX9_keys_45 : decode cX9_keys 45 = .ok (.bipush 32, 2) := by decide +kernel
theorem dX9_keys_47 : decode cX9_keys 47 = .ok (.iload_n 1, 1) := by decide +kernel
theorem dX9_keys_48 : decode cX9_keys 48 = .ok (.imul, 1) := by decide +kernel
theorem dX9_keys_49 : decode cX9_keys 49 = .ok (.iload_n 3, 1) := by decide +kernel
theorem dX9_keys_50 : decode cX9_keys 50 = .ok (.iadd, 1) := by decide +kernel
theorem dX9_keys_51 : decode cX9_keys 51 = .ok (.baload, 1) := by decide +kernel
theorem dX9_keys_52 : decode cX9_keys 52 = .ok (.ifCond .eq 9, 3) := by decide +kernel
theorem dX9_keys_55 : decode cX9_keys 55 = .ok (.iload_n 2, 1) := by decide +kernel
theorem dX9_keys_56 : decode cX9_keys 56 = .ok (.iconst 1, 1) := by decide +kernel
theorem dX9_keys_57 : decode cX9_keys 57 = .ok (.iadd, 1) := by decide +kernel
theorem dX9_keys_58 : decode cX9_keys 58 = .ok (.goto 4, 3) := by decide +kernel
theorem dX9_keys_61 : decode cX9_keys 61 = .ok (.iload_n 2, 1) := by decide +kernel
theorem dX9_keys_62 : decode cX9_keys 62 = .ok (.istore_n 2, 1) := by decide +kernel
theorem dX9_keys_63 : decode cX9_keys 63 = .ok (.iinc 3 1, 3) := by decide +kernel
theorem dX9_keys_66 : decode cX9_keys 66 = .ok (.goto (-44), 3) := by decide +kernel
theorem dX9_keys_69 : decode cX9_keys 69 = .ok (.iload_n 2, 1) := by decide +kernel
theorem dX9_keys_70 : decode cX9_keys 70 = .ok (.ireturn, 1) := by decide +kernel
-- JudgedCodeModel.isThere
def f_X9_isThere (S : sh) (D : dt) (o0 : Nat) (x1 : Int64) (x3 : Int32) (x4 : Int32) : Option Int32 := pq (f_X9_in x1 (4294967296 : Int64) (((4294967296 : Int64) + ((gI D o0 7).toInt64)) - (1 : Int64))) fun r27 => if r27 = 0 then (pq (f_X9_in x1 (8589934080 : Int64) (8589934591 : Int64)) fun r30 => if r30 = 0 then (pq (f_X9_tableOf S D o0 x1) fun r33 => if 0 ≤ r33 then (nm ((j_lshr x1 (12 : Int32)) &&& (4095 : Int64)) fun y35 => rq (gR D o0 13) fun o36 => ix r33 (sA S o36) <| if 0 ≤ (lg_cmp y35 ((gI D o36 r33.toNatClampNeg).toInt64)) then (some (0 : Int32)) else (rq (gR D o0 12) fun o42 => ix r33 (sA S o42) <| if 0 < (lg_cmp ((x1 &&& (4095 : Int64)) + x3.toInt64) ((gI D o42 r33.toNatClampNeg).toInt64)) then (some (0 : Int32)) else (some (1 : Int32)))) else (some (0 : Int32))) else (if 0 < (lg_cmp (x1 + x3.toInt64) (8589934592 : Int64)) then (some (0 : Int32)) else (some (1 : Int32)))) else (if x4 = 0 then (if 0 < (lg_cmp (x1 + x3.toInt64) ((4294967296 : Int64) + ((gI D o0 7).toInt64))) then (some (0 : Int32)) else (some (1 : Int32))) else (some (0 : Int32)))
-- JudgedCodeModel.placeOf
def f_X9_placeOf (S : sh) (D : dt) (o0 : Nat) (x1 : Int64) : Option Int32 := pq (f_X9_tableOf S D o0 x1) fun r4 => some (((32 : Int32) * (((32 : Int32) * r4) + (((j_lshr x1 (12 : Int32)) &&& (4095 : Int64)).toInt32))) + ((x1 &&& (4095 : Int64)).toInt32))
-- JudgedCodeModel.octetAt
def f_X9_octetAt (S : sh) (D : dt) (o0 : Nat) (x1 : Int64) : Option Int32 := if 0 ≤ (lg_cmp x1 (8589934080 : Int64)) then (if 0 ≤ (lg_cmp x1 (8589934592 : Int64)) then (rq (gR D o0 14) fun o22 => pq (f_X9_placeOf S D o0 x1) fun r27 => ix r27 (sA S o22) <| some (gI D o22 r27.toNatClampNeg)) else (rq (gR D o0 8) fun o29 => ix (((x1 - (8589934592 : Int64)).toInt32) + (512 : Int32)) (sA S o29) <| some (gI D o29 (((x1 - (8589934592 : Int64)).toInt32) + (512 : Int32)).toNatClampNeg))) else (rq (gR D o0 6) fun o34 => ix ((x1 - (4294967296 : Int64)).toInt32) (sA S o34) <| some (gI D o34 ((x1 - (4294967296 : Int64)).toInt32).toNatClampNeg))
-- JudgedCodeModel.setOctet
def f_X9_setOctet (S : sh) (o0 : Nat) (x1 : Int64) (x3 : Int32) (D : dt) : Option (Unit × dt) := if 0 ≤ (lg_cmp x1 (8589934592 : Int64)) then (rq (gR D o0 14) fun o17 => pq (f_X9_placeOf S D o0 x1) fun r22 => ix r22 (sA S o17) <| nm (pI D o17 r22.toNatClampNeg x3) fun D24 => some ((), D24)) else (rq (gR D o0 8) fun o25 => ix (((x1 - (8589934592 : Int64)).toInt32) + (512 : Int32)) (sA S o25) <| nm (pI D o25 (((x1 - (8589934592 : Int64)).toInt32) + (512 : Int32)).toNatClampNeg x3) fun D30 => some ((), D30))
-- JudgedCodeModel.numberAt
def f_X9_numberAt_8 (S : sh) (D : dt) : Nat → Nat → Int64 → Int64 → Int32 → Option Int64
  | 0, _, _, _, _ => none
  | n + 1, o0, x1, x4, x6 => if x6 < 0 then (some x4) else (pq (f_X9_octetAt S D o0 (x1 + x6.toInt64)) fun r10 => nm ((j_lshl x4 (8 : Int32)) ||| r10.toInt64) fun y11 => nm (x6 + (-1)) fun y12 => f_X9_numberAt_8 S D n o0 x1 y11 y12)
def f_X9_numberAt (S : sh) (D : dt) (o0 : Nat) (x1 : Int64) (x3 : Int32) : Option Int64 := nm ((0 : Int64)) fun y13 => nm (x3 - (1 : Int32)) fun y14 => f_X9_numberAt_8 S D LF o0 x1 y13 y14
-- JudgedCodeModel.setNumber
def f_X9_setNumber_3 (S : sh) : Nat → Nat → Int64 → Int32 → Int64 → Int32 → dt → Option (Unit × dt)
  | 0, _, _, _, _, _, _ => none
  | n + 1, o0, x1, x3, x4, x6, D => if x3 ≤ x6 then (some ((), D)) else (cq (f_X9_setOctet S o0 (x1 + x6.toInt64) (((j_lshr x4 ((8 : Int32) * x6)) &&& (255 : Int64)).toInt32) D) fun _ D8 => nm (x6 + 1) fun y9 => f_X9_setNumber_3 S n o0 x1 x3 x4 y9 D8)
def f_X9_setNumber (S : sh) (o0 : Nat) (x1 : Int64) (x3 : Int32) (x4 : Int64) (D : dt) : Option (Unit × dt) := nm ((0 : Int32)) fun y10 => f_X9_setNumber_3 S LF o0 x1 x3 x4 y10 D
-- JudgedCodeModel.octet
def f_X9_octet (S : sh) (D : dt) (o0 : Nat) (x1 : Int64) : Option Int32 := pq (f_X9_isThere S D o0 x1 (1 : Int32) (0 : Int32)) fun r7 => if r7 = 0 then (some (-1 : Int32)) else (pq (f_X9_octetAt S D o0 x1) fun r10 => some r10)
-- JudgedCodeModel.table
def f_X9_table_34 (S : sh) (o0 : Nat) (x1 : Int32) (x2 : Int32) (x3 : Int32) (x4 : Int32) (D : dt) : Option (Int32 × dt) := pq (f_X9_in x3.toInt64 (1 : Int64) (32 : Int64)) fun r42 => if r42 = 0 then (some ((-2 : Int32), D)) else (pq (f_X9_in x4.toInt64 (1 : Int64) (32 : Int64)) fun r45 => if r45 = 0 then (some ((-2 : Int32), D)) else (if (gI D o0 9) = (4 : Int32) then (some ((-4 : Int32), D)) else (rq (gR D o0 10) fun o48 => ix (gI D o0 9) (sA S o48) <| nm (pI D o48 (gI D o0 9).toNatClampNeg x1) fun D53 => rq (gR D53 o0 11) fun o54 => ix (gI D53 o0 9) (sA S o54) <| nm (pI D53 o54 (gI D53 o0 9).toNatClampNeg x2) fun D59 => rq (gR D59 o0 12) fun o60 => ix (gI D59 o0 9) (sA S o60) <| nm (pI D59 o60 (gI D59 o0 9).toNatClampNeg x3) fun D65 => rq (gR D65 o0 13) fun o66 => ix (gI D65 o0 9) (sA S o66) <| nm (pI D65 o66 (gI D65 o0 9).toNatClampNeg x4) fun D71 => nm (pI D71 o0 9 ((gI D71 o0 9) + (1 : Int32))) fun D72 => some (((gI D72 o0 9) - (1 : Int32)), D72))))
def f_X9_table (S : sh) (o0 : Nat) (x1 : Int32) (x2 : Int32) (x3 : Int32) (x4 : Int32) (D : dt) : Option (Int32 × dt) := pq (f_X9_in x1.toInt64 (0 : Int64) (1 : Int64)) fun r74 => if r74 = 0 then (some ((-2 : Int32), D)) else (if x1 = 0 then (if x2 = (4 : Int32) then (f_X9_table_34 S o0 x1 x2 x3 x4 D) else (some ((-2 : Int32), D))) else (pq (f_X9_in x2.toInt64 (1 : Int64) (8 : Int64)) fun r78 => if r78 = 0 then (some ((-2 : Int32), D)) else (f_X9_table_34 S o0 x1 x2 x3 x4 D)))
-- JudgedCodeModel.find
def f_X9_find_139 (S : sh) (D : dt) (k60 : Nat → Int32 → Int32 → Option Int32) (o0 : Nat) (x1 : Int32) (x2 : Int32) (x4 : Int32) : Option Int32 := if x4 = 0 then (nm (x2 + 1) fun y60 => k60 o0 x1 y60) else (some x2)
def f_X9_find_131 (S : sh) (D : dt) (k60 : Nat → Int32 → Int32 → Option Int32) (k88 : Nat → Int32 → Int32 → Int32 → Int32 → Int32 → Option Int32) (o0 : Nat) (x1 : Int32) (x2 : Int32) (x3 : Int32) (x5 : Int32) (xs0 : Int32) : Option Int32 := nm (x5 + 1) fun y61 => k88 o0 x1 x2 x3 xs0 y61
def f_X9_find_88 (S : sh) (D : dt) (k60 : Nat → Int32 → Int32 → Option Int32) : Nat → Nat → Int32 → Int32 → Int32 → Int32 → Int32 → Option Int32
  | 0, _, _, _, _, _, _ => none
  | n + 1, o0, x1, x2, x3, x4, x5 => rq (gR D o0 11) fun o62 => ix x1 (sA S o62) <| if (gI D o62 x1.toNatClampNeg) ≤ x5 then (f_X9_find_139 S D k60 o0 x1 x2 x4) else (if x4 = 0 then (f_X9_find_139 S D k60 o0 x1 x2 x4) else (rq (gR D o0 16) fun o69 => ix (((8 : Int32) * x3) + x5) (sA S o69) <| rq (gR D o0 25) fun o74 => ix x5 (sA S o74) <| if (gI D o69 (((8 : Int32) * x3) + x5).toNatClampNeg) = (gI D o74 x5.toNatClampNeg) then (f_X9_find_131 S D k60 (f_X9_find_88 S D k60 n) o0 x1 x2 x3 x5 (1 : Int32)) else (f_X9_find_131 S D k60 (f_X9_find_88 S D k60 n) o0 x1 x2 x3 x5 (0 : Int32))))
def f_X9_find_60 (S : sh) (D : dt) : Nat → Nat → Int32 → Int32 → Option Int32
  | 0, _, _, _ => none
  | n + 1, o0, x1, x2 => rq (gR D o0 13) fun o80 => ix x1 (sA S o80) <| if (gI D o80 x1.toNatClampNeg) ≤ x2 then (some (-1 : Int32)) else (nm (((32 : Int32) * x1) + x2) fun y86 => rq (gR D o0 15) fun o87 => ix y86 (sA S o87) <| nm (gI D o87 y86.toNatClampNeg) fun y92 => nm ((0 : Int32)) fun y93 => f_X9_find_88 S D (f_X9_find_60 S D n) LF o0 x1 x2 y86 y92 y93)
def f_X9_find_14 (S : sh) (D : dt) : Nat → Nat → Int32 → Int64 → Int32 → Option Int32
  | 0, _, _, _, _ => none
  | n + 1, o0, x1, x2, x4 => if x4 < 0 then (rq (gR D o0 13) fun o95 => ix x1 (sA S o95) <| if 0 ≤ (lg_cmp x2 ((gI D o95 x1.toNatClampNeg).toInt64)) then (some (-1 : Int32)) else (some x2.toInt32)) else (rq (gR D o0 25) fun o101 => ix x4 (sA S o101) <| nm ((j_lshl x2 (8 : Int32)) ||| ((gI D o101 x4.toNatClampNeg).toInt64)) fun y106 => nm (x4 + (-1)) fun y107 => f_X9_find_14 S D n o0 x1 y106 y107)
def f_X9_find (S : sh) (D : dt) (o0 : Nat) (x1 : Int32) : Option Int32 := rq (gR D o0 10) fun o108 => ix x1 (sA S o108) <| if (gI D o108 x1.toNatClampNeg) = 0 then (nm ((0 : Int64)) fun y115 => nm ((3 : Int32)) fun y116 => f_X9_find_14 S D LF o0 x1 y115 y116) else (nm ((0 : Int32)) fun y114 => f_X9_find_60 S D LF o0 x1 y114)
-- JudgedCodeModel.keys
def f_X9_keys_62 (S : sh) (D : dt) (k22 : Nat → Int32 → Int32 → Int32 → Option Int32) (o0 : Nat) (x1 : Int32) (x3 : Int32) (xs0 : Int32) : Option Int32 := nm (x3 + 1) fun y25 => k22 o0 x1 xs0 y25
def f_X9_keys_55 (S : sh) (D : dt) (k22 : Nat → Int32 → Int32 → Int32 → Option Int32) (o0 : Nat) (x1 : Int32) (x2 : Int32) (x3 : Int32) : Option Int32 := f_X9_keys_62 S D k22 o0 x1 x3 (x2 + (1 : Int32))
def f_X9_keys_22 (S : sh) (D : dt) : Nat → Nat → Int32 → Int32 → Int32 → Option Int32
  | 0, _, _, _, _ => none
  | n + 1, o0, x1, x2, x3 => rq (gR D o0 13) fun o26 => ix x1 (sA S o26) <| if (gI D o26 x1.toNatClampNeg) ≤ x3 then (some x2) else (rq (gR D o0 10) fun o32 => ix x1 (sA S o32) <| if (gI D o32 x1.toNatClampNeg) = 0 then (f_X9_keys_55 S D (f_X9_keys_22 S D n) o0 x1 x2 x3) else (rq (gR D o0 15) fun o38 => ix (((32 : Int32) * x1) + x3) (sA S o38) <| if (gI D o38 (((32 : Int32) * x1) + x3).toNatClampNeg) = 0 then (f_X9_keys_62 S D (f_X9_keys_22 S D n) o0 x1 x3 x2) else (f_X9_keys_55 S D (f_X9_keys_22 S D n) o0 x1 x2 x3)))
def f_X9_keys (S : sh) (D : dt) (o0 : Nat) (x1 : Int32) : Option Int32 := pq (f_X9_in x1.toInt64 (0 : Int64) (((gI D o0 9) - (1 : Int32)).toInt64)) fun r45 => if r45 = 0 then (some (-1 : Int32)) else (nm ((0 : Int32)) fun y47 => nm ((0 : Int32)) fun y48 => f_X9_keys_22 S D LF o0 x1 y47 y48)
theorem mk_X9_isThere : MkV yX9_isThere RX9 cX9_isThere 8 (some .boolean) 3 := ⟨⟨lk_1266, lk_59, lk_121, (tb_in (i := 1267) (by decide +kernel) (by decide +kernel))⟩, by decide +kernel⟩
theorem mk_X9_placeOf : MkV yX9_placeOf RX9 cX9_placeOf 4 (some .int) 1 := ⟨⟨lk_1284, lk_62, lk_121, (tb_in (i := 1285) (by decide +kernel) (by decide +kernel))⟩, by decide +kernel⟩
theorem mk_X9_octetAt : MkV yX9_octetAt RX9 cX9_octetAt 3 (some .int) 1 := ⟨⟨lk_1280, lk_61, lk_121, (tb_in (i := 1281) (by decide +kernel) (by decide +kernel))⟩, by decide +kernel⟩
theorem mk_X9_setOctet : MkV yX9_setOctet RX9 cX9_setOctet 4 none 2 := ⟨⟨lk_1402, lk_81, lk_121, (tb_in (i := 1403) (by decide +kernel) (by decide +kernel))⟩, by decide +kernel⟩
theorem mk_X9_numberAt : MkV yX9_numberAt RX9 cX9_numberAt 7 (some .long) 2 := ⟨⟨lk_1390, lk_78, lk_121, (tb_in (i := 1391) (by decide +kernel) (by decide +kernel))⟩, by decide +kernel⟩
theorem mk_X9_setNumber : MkV yX9_setNumber RX9 cX9_setNumber 7 none 3 := ⟨⟨lk_1398, lk_80, lk_121, (tb_in (i := 1399) (by decide +kernel) (by decide +kernel))⟩, by decide +kernel⟩
theorem mk_X9_octet : MkV yX9_octet RX9 cX9_octet 3 (some .int) 1 := ⟨⟨lk_1261, lk_1262, lk_121, (tb_in (i := 1263) (by decide +kernel) (by decide +kernel))⟩, by decide +kernel⟩
theorem mk_X9_table : MkV yX9_table RX9 cX9_table 5 (some .int) 4 := ⟨⟨lk_1287, lk_1288, lk_121, (tb_in (i := 1289) (by decide +kernel) (by decide +kernel))⟩, by decide +kernel⟩
theorem mk_X9_find : MkV yX9_find RX9 cX9_find 6 (some .int) 1 := ⟨⟨lk_1377, lk_75, lk_121, (tb_in (i := 1378) (by decide +kernel) (by decide +kernel))⟩, by decide +kernel⟩
theorem mk_X9_keys : MkV yX9_keys RX9 cX9_keys 4 (some .int) 1 := ⟨⟨lk_1293, lk_1294, lk_121, (tb_in (i := 1295) (by decide +kernel) (by decide +kernel))⟩, by decide +kernel⟩
section
variable {p : Program} {l : Launch} {e : Env} {R : Room} {s : State} {m : MethodId} {args : Array Value} {below : List Frame} {meth : Method} {c : Code} {H : Heap} {locs : List Loc} {G : va_G} {cA : Nat → ClassId} {S : sh} {D : dt} {ad : Nat → Nat} {A : Nat → Prop}
set_option maxHeartbeats 4000000 in
set_option maxRecDepth 100000 in
theorem w_X9_isThere_0 {r : Int32} (hC : Cx RX9 cX9_isThere 8 (some .boolean) p s m args meth c) (hR : 1 ≤ R.frames ∧ 25 ≤ R.locals) : ∀ (o0 a0 : Nat) (x1 : Int64) (x3 : Int32) (x4 : Int32) (H : Heap) (locs : List Loc) (ls : Array Slot), Is S ad o0 a0 8 → Wd G cA S D ad A s H locs → lv_has ls 8 [(0, .ref a0), (1, .long x1), (3, .int x3), (4, .int x4)] → f_X9_isThere S D o0 x1 x3 x4 = some r → W p l e R s m args below meth c H locs 0 0 (MQ below (Qn (some (.int r)) True (wpost G cA S D ad A) A) args s 0 0 A) (F0 m 0 ls []) := by
  obtain ⟨hx, hb, -⟩ := id hC
  intro o0 a0 x1 x3 x4 H locs ls hi0 hw hl h
  unfold f_X9_isThere at h
  refine lv_lload_n hx hb dX9_isThere_0 rfl (lv_at hl 1 rfl) ?_
  refine lv_ldc2 (v := 4294967296) hx hb hC.2.2.2.1 (hC.2.2.2.2.1 _ lk_1268) dX9_isThere_1 ?_
  refine lv_ldc2 (v := 4294967296) hx hb hC.2.2.2.1 (hC.2.2.2.2.1 _ lk_1268) dX9_isThere_4 ?_
  refine lv_aload_n hx hb dX9_isThere_7 rfl (lv_at hl 0 rfl) ?_
  refine r_gI hC hw kc_8 hi0 7 rfl lk_1079 dX9_isThere_8 ?_
  refine lv_i2l (v := (gI D o0 7).toInt64) hx hb dX9_isThere_11 rfl ?_
  refine lv_ladd hx hb dX9_isThere_12 ?_
  refine lv_lconst (v := 1) hx hb dX9_isThere_13 (by decide) ?_
  refine lv_lsub hx hb dX9_isThere_14 ?_
  obtain ⟨r27, hq26, h⟩ := pq_i h
  refine r_cS (st' := [.int r27]) [.long x1, .long (4294967296 : Int64), .long (((4294967296 : Int64) + ((gI D o0 7).toInt64)) - (1 : Int64))] [] hC hw (k_X9_in _ hq26) mk_X9_in lk_1243 ⟨Nat.le_trans (by decide) hR.1, Nat.le_trans (by decide) hR.2⟩ ⟨Nat.zero_le _, Nat.zero_le _⟩ rfl hl.1 rfl rfl (Nat.le_of_ble_eq_true rfl) dX9_isThere_15 (fun hP H locs hw => ?_)
  refine lv_if_eq (tgt := 49) hx hb dX9_isThere_18 (by decide) (fun c28 => ?_) (fun c28 => ?_)
  · have h := i_yes c28 h
    refine lv_lload_n hx hb dX9_isThere_49 rfl (lv_at hl 1 rfl) ?_
    refine lv_ldc2 (v := 8589934080) hx hb hC.2.2.2.1 (hC.2.2.2.2.1 _ lk_1269) dX9_isThere_50 ?_
    refine lv_ldc2 (v := 8589934591) hx hb hC.2.2.2.1 (hC.2.2.2.2.1 _ lk_1270) dX9_isThere_53 ?_
    obtain ⟨r30, hq29, h⟩ := pq_i h
    refine r_cS (st' := [.int r30]) [.long x1, .long (8589934080 : Int64), .long (8589934591 : Int64)] [] hC hw (k_X9_in _ hq29) mk_X9_in lk_1243 ⟨Nat.le_trans (by decide) hR.1, Nat.le_trans (by decide) hR.2⟩ ⟨Nat.zero_le _, Nat.zero_le _⟩ rfl hl.1 rfl rfl (Nat.le_of_ble_eq_true rfl) dX9_isThere_56 (fun hP H locs hw => ?_)
    refine lv_if_eq (tgt := 79) hx hb dX9_isThere_59 (by decide) (fun c31 => ?_) (fun c31 => ?_)
    · have h := i_yes c31 h
      refine lv_aload_n hx hb dX9_isThere_79 rfl (lv_at hl 0 rfl) ?_
      refine lv_lload_n hx hb dX9_isThere_80 rfl (lv_at hl 1 rfl) ?_
      obtain ⟨r33, hq32, h⟩ := pq_i h
      refine r_cV (st' := [.int r33]) [.long x1] [] hC hw kc_8 hi0 (k_X9_tableOf _ hi0 hq32) mk_X9_tableOf lk_1272 ⟨Nat.le_trans (by decide) hR.1, Nat.le_trans (by decide) hR.2⟩ ⟨Nat.zero_le _, Nat.zero_le _⟩ rfl hl.1 rfl rfl (Nat.le_of_ble_eq_true rfl) dX9_isThere_81 (fun hP H locs hw => ?_)
      refine lv_istore (lv' := [(5, .int r33), (0, .ref a0), (1, .long x1), (3, .int x3), (4, .int x4)]) hx hb dX9_isThere_84 hl (by decide) rfl (fun ls hl => ?_)
      refine lv_iload hx hb dX9_isThere_86 (lv_at hl 0 rfl) ?_
      refine lv_if_ge (tgt := 93) hx hb dX9_isThere_88 (by decide) (fun c34 => ?_) (fun c34 => ?_)
      · have h := i_yes c34 h
        refine lv_lload_n hx hb dX9_isThere_93 rfl (lv_at hl 2 rfl) ?_
        refine lv_bipush (v := 12) hx hb dX9_isThere_94 (by decide) ?_
        refine lv_lshr (v := j_lshr x1 (12 : Int32)) hx hb dX9_isThere_96 rfl ?_
        refine lv_ldc2 (v := 4095) hx hb hC.2.2.2.1 (hC.2.2.2.2.1 _ lk_1277) dX9_isThere_97 ?_
        refine lv_land hx hb dX9_isThere_100 ?_
        refine lv_topl (fun y35 ey35 => ?_)
        have h := nm_i h y35 ey35
        refine lv_lstore (lv' := [(6, .long y35), (5, .int r33), (0, .ref a0), (1, .long x1), (3, .int x3), (4, .int x4)]) hx hb dX9_isThere_101 hl (by decide) rfl (fun ls hl => ?_)
        refine lv_lload hx hb dX9_isThere_103 (lv_at hl 0 rfl) ?_
        refine lv_aload_n hx hb dX9_isThere_105 rfl (lv_at hl 2 rfl) ?_
        obtain ⟨o36, ho39, h⟩ := rq_i h
        refine r_getR hC hw kc_8 hi0 13 rfl lk_1085 dX9_isThere_106 rfl ho39 (fun a37 hi38 => ?_)
        refine lv_iload hx hb dX9_isThere_109 (lv_at hl 1 rfl) ?_
        obtain ⟨hn40, h⟩ := ix_i h
        refine r_iald hC hw hi38 hn40 dX9_isThere_111 ?_
        refine lv_i2l (v := (gI D o36 r33.toNatClampNeg).toInt64) hx hb dX9_isThere_112 rfl ?_
        refine W.lcmp hx hb dX9_isThere_113 ?_
        refine lv_if_ge (tgt := 141) hx hb dX9_isThere_114 (by decide) (fun c41 => ?_) (fun c41 => ?_)
        · have h := i_yes c41 h
          refine lv_iconst (v := 0) hx hb dX9_isThere_141 (by decide) ?_
          cases h
          exact r_zret hC hw (Or.inl rfl) dX9_isThere_142
        · have h := i_no c41 h
          refine lv_lload_n hx hb dX9_isThere_117 rfl (lv_at hl 3 rfl) ?_
          refine lv_ldc2 (v := 4095) hx hb hC.2.2.2.1 (hC.2.2.2.2.1 _ lk_1277) dX9_isThere_118 ?_
          refine lv_land hx hb dX9_isThere_121 ?_
          refine lv_iload_n hx hb dX9_isThere_122 rfl (lv_at hl 4 rfl) ?_
          refine lv_i2l (v := x3.toInt64) hx hb dX9_isThere_123 rfl ?_
          refine lv_ladd hx hb dX9_isThere_124 ?_
          refine lv_aload_n hx hb dX9_isThere_125 rfl (lv_at hl 2 rfl) ?_
          obtain ⟨o42, ho45, h⟩ := rq_i h
          refine r_getR hC hw kc_8 hi0 12 rfl lk_1084 dX9_isThere_126 rfl ho45 (fun a43 hi44 => ?_)
          refine lv_iload hx hb dX9_isThere_129 (lv_at hl 1 rfl) ?_
          obtain ⟨hn46, h⟩ := ix_i h
          refine r_iald hC hw hi44 hn46 dX9_isThere_131 ?_
          refine lv_i2l (v := (gI D o42 r33.toNatClampNeg).toInt64) hx hb dX9_isThere_132 rfl ?_
          refine W.lcmp hx hb dX9_isThere_133 ?_
          refine lv_if_gt (tgt := 141) hx hb dX9_isThere_134 (by decide) (fun c47 => ?_) (fun c47 => ?_)
          · have h := i_yes c47 h
            refine lv_iconst (v := 0) hx hb dX9_isThere_141 (by decide) ?_
            cases h
            exact r_zret hC hw (Or.inl rfl) dX9_isThere_142
          · have h := i_no c47 h
            refine lv_iconst (v := 1) hx hb dX9_isThere_137 (by decide) ?_
            refine lv_goto (tgt := 142) hx hb dX9_isThere_138 (by decide) ?_
            cases h
            exact r_zret hC hw (Or.inr rfl) dX9_isThere_142
      · have h := i_no c34 h
        refine lv_iconst (v := 0) hx hb dX9_isThere_91 (by decide) ?_
        cases h
        exact r_zret hC hw (Or.inl rfl) dX9_isThere_92
    · have h := i_no c31 h
      refine lv_lload_n hx hb dX9_isThere_62 rfl (lv_at hl 1 rfl) ?_
      refine lv_iload_n hx hb dX9_isThere_63 rfl (lv_at hl 2 rfl) ?_
      refine lv_i2l (v := x3.toInt64) hx hb dX9_isThere_64 rfl ?_
      refine lv_ladd hx hb dX9_isThere_65 ?_
      refine lv_ldc2 (v := 8589934592) hx hb hC.2.2.2.1 (hC.2.2.2.2.1 _ lk_1271) dX9_isThere_66 ?_
      refine W.lcmp hx hb dX9_isThere_69 ?_
      refine lv_if_gt (tgt := 77) hx hb dX9_isThere_70 (by decide) (fun c48 => ?_) (fun c48 => ?_)
      · have h := i_yes c48 h
        refine lv_iconst (v := 0) hx hb dX9_isThere_77 (by decide) ?_
        cases h
        exact r_zret hC hw (Or.inl rfl) dX9_isThere_78
      · have h := i_no c48 h
        refine lv_iconst (v := 1) hx hb dX9_isThere_73 (by decide) ?_
        refine lv_goto (tgt := 78) hx hb dX9_isThere_74 (by decide) ?_
        cases h
        exact r_zret hC hw (Or.inr rfl) dX9_isThere_78
  · have h := i_no c28 h
    refine lv_iload hx hb dX9_isThere_21 (lv_at hl 3 rfl) ?_
    refine lv_if_ne (tgt := 47) hx hb dX9_isThere_23 (by decide) (fun c49 => ?_) (fun c49 => ?_)
    · have h := i_no c49 h
      refine lv_iconst (v := 0) hx hb dX9_isThere_47 (by decide) ?_
      cases h
      exact r_zret hC hw (Or.inl rfl) dX9_isThere_48
    · have h := i_yes c49 h
      refine lv_lload_n hx hb dX9_isThere_26 rfl (lv_at hl 1 rfl) ?_
      refine lv_iload_n hx hb dX9_isThere_27 rfl (lv_at hl 2 rfl) ?_
      refine lv_i2l (v := x3.toInt64) hx hb dX9_isThere_28 rfl ?_
      refine lv_ladd hx hb dX9_isThere_29 ?_
      refine lv_ldc2 (v := 4294967296) hx hb hC.2.2.2.1 (hC.2.2.2.2.1 _ lk_1268) dX9_isThere_30 ?_
      refine lv_aload_n hx hb dX9_isThere_33 rfl (lv_at hl 0 rfl) ?_
      refine r_gI hC hw kc_8 hi0 7 rfl lk_1079 dX9_isThere_34 ?_
      refine lv_i2l (v := (gI D o0 7).toInt64) hx hb dX9_isThere_37 rfl ?_
      refine lv_ladd hx hb dX9_isThere_38 ?_
      refine W.lcmp hx hb dX9_isThere_39 ?_
      refine lv_if_gt (tgt := 47) hx hb dX9_isThere_40 (by decide) (fun c50 => ?_) (fun c50 => ?_)
      · have h := i_yes c50 h
        refine lv_iconst (v := 0) hx hb dX9_isThere_47 (by decide) ?_
        cases h
        exact r_zret hC hw (Or.inl rfl) dX9_isThere_48
      · have h := i_no c50 h
        refine lv_iconst (v := 1) hx hb dX9_isThere_43 (by decide) ?_
        refine lv_goto (tgt := 48) hx hb dX9_isThere_44 (by decide) ?_
        cases h
        exact r_zret hC hw (Or.inr rfl) dX9_isThere_48
set_option maxHeartbeats 4000000 in
set_option maxRecDepth 100000 in
theorem k_X9_isThere {l : Launch} {G : va_G} {cA : Nat → ClassId} {S : sh} {D : dt} {ad : Nat → Nat} (sz : Nat) {o0 a0 : Nat} {x1 : Int64} {x3 : Int32} {x4 : Int32} {r : Int32} (hi0 : Is S ad o0 a0 8) (h : f_X9_isThere S D o0 x1 x3 x4 = some r) : Co l yX9_isThere (Cond.code yX9_isThere cX9_isThere 8 (some .boolean) :: tb0) 1 25 [.ref a0, .long x1, .int x3, .int x4] G cA S D ad sz (some (.int r)) True D := by
  refine Met.ofW (cc := cX9_isThere) (maxL := 8) (ret := (some .boolean)) (by decide) rfl ?_
  intro p e s m args below meth c s₁ B hml hv
  obtain ⟨rfl, hsz, hP, hK, hD0, hT, hX⟩ := hv
  subst hsz
  have hts := atoms_spec (ws := Cond.code yX9_isThere cX9_isThere 8 (some .boolean) :: tb0) B.pre
  have hC : Cx RX9 cX9_isThere 8 (some .boolean) p s m _ meth c := ⟨B.exec, B.bytes, hml, findClass_of_methodNamed B.named, fun w q => hts w (List.mem_cons_of_mem _ q), B.returns, B.notSynchronized⟩
  have hw := Wd.entry hP hK hD0 hT hX
  have hl := lv_entry ([.ref a0, .long x1, .int x3, .int x4]) (n := 8) (Nat.le_of_ble_eq_true rfl)
  rw [lg_entry_eq]
  exact w_X9_isThere_0 hC ⟨Nat.le_refl _, Nat.le_refl _⟩ o0 a0 x1 x3 x4 _ _ _ hi0 hw hl h
set_option maxHeartbeats 4000000 in
set_option maxRecDepth 100000 in
theorem w_X9_placeOf_0 {r : Int32} (hC : Cx RX9 cX9_placeOf 4 (some .int) p s m args meth c) (hR : 1 ≤ R.frames ∧ 24 ≤ R.locals) : ∀ (o0 a0 : Nat) (x1 : Int64) (H : Heap) (locs : List Loc) (ls : Array Slot), Is S ad o0 a0 8 → Wd G cA S D ad A s H locs → lv_has ls 4 [(0, .ref a0), (1, .long x1)] → f_X9_placeOf S D o0 x1 = some r → W p l e R s m args below meth c H locs 0 0 (MQ below (Qn (some (.int r)) True (wpost G cA S D ad A) A) args s 0 0 A) (F0 m 0 ls []) := by
  obtain ⟨hx, hb, -⟩ := id hC
  intro o0 a0 x1 H locs ls hi0 hw hl h
  unfold f_X9_placeOf at h
  refine lv_aload_n hx hb dX9_placeOf_0 rfl (lv_at hl 0 rfl) ?_
  refine lv_lload_n hx hb dX9_placeOf_1 rfl (lv_at hl 1 rfl) ?_
  obtain ⟨r4, hq3, h⟩ := pq_i h
  refine r_cV (st' := [.int r4]) [.long x1] [] hC hw kc_8 hi0 (k_X9_tableOf _ hi0 hq3) mk_X9_tableOf lk_1272 ⟨Nat.le_trans (by decide) hR.1, Nat.le_trans (by decide) hR.2⟩ ⟨Nat.zero_le _, Nat.zero_le _⟩ rfl hl.1 rfl rfl (Nat.le_of_ble_eq_true rfl) dX9_placeOf_2 (fun hP H locs hw => ?_)
  refine lv_istore_n (lv' := [(3, .int r4), (0, .ref a0), (1, .long x1)]) hx hb dX9_placeOf_5 rfl hl (by decide) rfl (fun ls hl => ?_)
  refine lv_bipush (v := 32) hx hb dX9_placeOf_6 (by decide) ?_
  refine lv_bipush (v := 32) hx hb dX9_placeOf_8 (by decide) ?_
  refine lv_iload_n hx hb dX9_placeOf_10 rfl (lv_at hl 0 rfl) ?_
  refine lv_imul hx hb dX9_placeOf_11 ?_
  refine lv_lload_n hx hb dX9_placeOf_12 rfl (lv_at hl 2 rfl) ?_
  refine lv_bipush (v := 12) hx hb dX9_placeOf_13 (by decide) ?_
  refine lv_lshr (v := j_lshr x1 (12 : Int32)) hx hb dX9_placeOf_15 rfl ?_
  refine lv_ldc2 (v := 4095) hx hb hC.2.2.2.1 (hC.2.2.2.2.1 _ lk_1277) dX9_placeOf_16 ?_
  refine lv_land hx hb dX9_placeOf_19 ?_
  refine lv_l2i (v := ((j_lshr x1 (12 : Int32)) &&& (4095 : Int64)).toInt32) hx hb dX9_placeOf_20 rfl ?_
  refine lv_iadd hx hb dX9_placeOf_21 ?_
  refine lv_imul hx hb dX9_placeOf_22 ?_
  refine lv_lload_n hx hb dX9_placeOf_23 rfl (lv_at hl 2 rfl) ?_
  refine lv_ldc2 (v := 4095) hx hb hC.2.2.2.1 (hC.2.2.2.2.1 _ lk_1277) dX9_placeOf_24 ?_
  refine lv_land hx hb dX9_placeOf_27 ?_
  refine lv_l2i (v := (x1 &&& (4095 : Int64)).toInt32) hx hb dX9_placeOf_28 rfl ?_
  refine lv_iadd hx hb dX9_placeOf_29 ?_
  cases h
  exact r_iret hC hw dX9_placeOf_30
set_option maxHeartbeats 4000000 in
set_option maxRecDepth 100000 in
theorem k_X9_placeOf {l : Launch} {G : va_G} {cA : Nat → ClassId} {S : sh} {D : dt} {ad : Nat → Nat} (sz : Nat) {o0 a0 : Nat} {x1 : Int64} {r : Int32} (hi0 : Is S ad o0 a0 8) (h : f_X9_placeOf S D o0 x1 = some r) : Co l yX9_placeOf (Cond.code yX9_placeOf cX9_placeOf 4 (some .int) :: tb0) 1 24 [.ref a0, .long x1] G cA S D ad sz (some (.int r)) True D := by
  refine Met.ofW (cc := cX9_placeOf) (maxL := 4) (ret := (some .int)) (by decide) rfl ?_
  intro p e s m args below meth c s₁ B hml hv
  obtain ⟨rfl, hsz, hP, hK, hD0, hT, hX⟩ := hv
  subst hsz
  have hts := atoms_spec (ws := Cond.code yX9_placeOf cX9_placeOf 4 (some .int) :: tb0) B.pre
  have hC : Cx RX9 cX9_placeOf 4 (some .int) p s m _ meth c := ⟨B.exec, B.bytes, hml, findClass_of_methodNamed B.named, fun w q => hts w (List.mem_cons_of_mem _ q), B.returns, B.notSynchronized⟩
  have hw := Wd.entry hP hK hD0 hT hX
  have hl := lv_entry ([.ref a0, .long x1]) (n := 4) (Nat.le_of_ble_eq_true rfl)
  rw [lg_entry_eq]
  exact w_X9_placeOf_0 hC ⟨Nat.le_refl _, Nat.le_refl _⟩ o0 a0 x1 _ _ _ hi0 hw hl h
set_option maxHeartbeats 4000000 in
set_option maxRecDepth 100000 in
theorem w_X9_octetAt_0 {r : Int32} (hC : Cx RX9 cX9_octetAt 3 (some .int) p s m args meth c) (hR : 2 ≤ R.frames ∧ 47 ≤ R.locals) : ∀ (o0 a0 : Nat) (x1 : Int64) (H : Heap) (locs : List Loc) (ls : Array Slot), Is S ad o0 a0 8 → Wd G cA S D ad A s H locs → lv_has ls 3 [(0, .ref a0), (1, .long x1)] → f_X9_octetAt S D o0 x1 = some r → W p l e R s m args below meth c H locs 0 0 (MQ below (Qn (some (.int r)) True (wpost G cA S D ad A) A) args s 0 0 A) (F0 m 0 ls []) := by
  obtain ⟨hx, hb, -⟩ := id hC
  intro o0 a0 x1 H locs ls hi0 hw hl h
  unfold f_X9_octetAt at h
  refine lv_lload_n hx hb dX9_octetAt_0 rfl (lv_at hl 1 rfl) ?_
  refine lv_ldc2 (v := 8589934080) hx hb hC.2.2.2.1 (hC.2.2.2.2.1 _ lk_1269) dX9_octetAt_1 ?_
  refine W.lcmp hx hb dX9_octetAt_4 ?_
  refine lv_if_ge (tgt := 20) hx hb dX9_octetAt_5 (by decide) (fun c20 => ?_) (fun c20 => ?_)
  · have h := i_yes c20 h
    refine lv_lload_n hx hb dX9_octetAt_20 rfl (lv_at hl 1 rfl) ?_
    refine lv_ldc2 (v := 8589934592) hx hb hC.2.2.2.1 (hC.2.2.2.2.1 _ lk_1271) dX9_octetAt_21 ?_
    refine W.lcmp hx hb dX9_octetAt_24 ?_
    refine lv_if_ge (tgt := 46) hx hb dX9_octetAt_25 (by decide) (fun c21 => ?_) (fun c21 => ?_)
    · have h := i_yes c21 h
      refine lv_aload_n hx hb dX9_octetAt_46 rfl (lv_at hl 0 rfl) ?_
      obtain ⟨o22, ho25, h⟩ := rq_i h
      refine r_getR hC hw kc_8 hi0 14 rfl lk_1086 dX9_octetAt_47 rfl ho25 (fun a23 hi24 => ?_)
      refine lv_aload_n hx hb dX9_octetAt_50 rfl (lv_at hl 0 rfl) ?_
      refine lv_lload_n hx hb dX9_octetAt_51 rfl (lv_at hl 1 rfl) ?_
      obtain ⟨r27, hq26, h⟩ := pq_i h
      refine r_cV (st' := [.int r27, .ref a23]) [.long x1] [.ref a23] hC hw kc_8 hi0 (k_X9_placeOf _ hi0 hq26) mk_X9_placeOf lk_1282 ⟨Nat.le_trans (by decide) hR.1, Nat.le_trans (by decide) hR.2⟩ ⟨Nat.zero_le _, Nat.zero_le _⟩ rfl hl.1 rfl rfl (Nat.le_of_ble_eq_true rfl) dX9_octetAt_52 (fun hP H locs hw => ?_)
      obtain ⟨hn28, h⟩ := ix_i h
      refine r_iald hC hw hi24 hn28 dX9_octetAt_55 ?_
      cases h
      exact r_iret hC hw dX9_octetAt_56
    · have h := i_no c21 h
      refine lv_aload_n hx hb dX9_octetAt_28 rfl (lv_at hl 0 rfl) ?_
      obtain ⟨o29, ho32, h⟩ := rq_i h
      refine r_getR hC hw kc_8 hi0 8 rfl lk_1080 dX9_octetAt_29 rfl ho32 (fun a30 hi31 => ?_)
      refine lv_lload_n hx hb dX9_octetAt_32 rfl (lv_at hl 1 rfl) ?_
      refine lv_ldc2 (v := 8589934592) hx hb hC.2.2.2.1 (hC.2.2.2.2.1 _ lk_1271) dX9_octetAt_33 ?_
      refine lv_lsub hx hb dX9_octetAt_36 ?_
      refine lv_l2i (v := (x1 - (8589934592 : Int64)).toInt32) hx hb dX9_octetAt_37 rfl ?_
      refine lv_sipush (v := 512) hx hb dX9_octetAt_38 (by decide) ?_
      refine lv_iadd hx hb dX9_octetAt_41 ?_
      obtain ⟨hn33, h⟩ := ix_i h
      refine r_iald hC hw hi31 hn33 dX9_octetAt_42 ?_
      refine lv_goto (tgt := 56) hx hb dX9_octetAt_43 (by decide) ?_
      cases h
      exact r_iret hC hw dX9_octetAt_56
  · have h := i_no c20 h
    refine lv_aload_n hx hb dX9_octetAt_8 rfl (lv_at hl 0 rfl) ?_
    obtain ⟨o34, ho37, h⟩ := rq_i h
    refine r_getR hC hw kc_8 hi0 6 rfl lk_1078 dX9_octetAt_9 rfl ho37 (fun a35 hi36 => ?_)
    refine lv_lload_n hx hb dX9_octetAt_12 rfl (lv_at hl 1 rfl) ?_
    refine lv_ldc2 (v := 4294967296) hx hb hC.2.2.2.1 (hC.2.2.2.2.1 _ lk_1268) dX9_octetAt_13 ?_
    refine lv_lsub hx hb dX9_octetAt_16 ?_
    refine lv_l2i (v := (x1 - (4294967296 : Int64)).toInt32) hx hb dX9_octetAt_17 rfl ?_
    obtain ⟨hn38, h⟩ := ix_i h
    refine r_iald hC hw hi36 hn38 dX9_octetAt_18 ?_
    cases h
    exact r_iret hC hw dX9_octetAt_19
set_option maxHeartbeats 4000000 in
set_option maxRecDepth 100000 in
theorem k_X9_octetAt {l : Launch} {G : va_G} {cA : Nat → ClassId} {S : sh} {D : dt} {ad : Nat → Nat} (sz : Nat) {o0 a0 : Nat} {x1 : Int64} {r : Int32} (hi0 : Is S ad o0 a0 8) (h : f_X9_octetAt S D o0 x1 = some r) : Co l yX9_octetAt (Cond.code yX9_octetAt cX9_octetAt 3 (some .int) :: tb0) 2 47 [.ref a0, .long x1] G cA S D ad sz (some (.int r)) True D := by
  refine Met.ofW (cc := cX9_octetAt) (maxL := 3) (ret := (some .int)) (by decide) rfl ?_
  intro p e s m args below meth c s₁ B hml hv
  obtain ⟨rfl, hsz, hP, hK, hD0, hT, hX⟩ := hv
  subst hsz
  have hts := atoms_spec (ws := Cond.code yX9_octetAt cX9_octetAt 3 (some .int) :: tb0) B.pre
  have hC : Cx RX9 cX9_octetAt 3 (some .int) p s m _ meth c := ⟨B.exec, B.bytes, hml, findClass_of_methodNamed B.named, fun w q => hts w (List.mem_cons_of_mem _ q), B.returns, B.notSynchronized⟩
  have hw := Wd.entry hP hK hD0 hT hX
  have hl := lv_entry ([.ref a0, .long x1]) (n := 3) (Nat.le_of_ble_eq_true rfl)
  rw [lg_entry_eq]
  exact w_X9_octetAt_0 hC ⟨Nat.le_refl _, Nat.le_refl _⟩ o0 a0 x1 _ _ _ hi0 hw hl h
set_option maxHeartbeats 4000000 in
set_option maxRecDepth 100000 in
theorem w_X9_setOctet_0 {r : Unit} {D' : dt} (hC : Cx RX9 cX9_setOctet 4 none p s m args meth c) (hR : 2 ≤ R.frames ∧ 47 ≤ R.locals) : ∀ (o0 a0 : Nat) (x1 : Int64) (x3 : Int32) (D : dt) (H : Heap) (locs : List Loc) (ls : Array Slot), Is S ad o0 a0 8 → Wd G cA S D ad A s H locs → lv_has ls 4 [(0, .ref a0), (1, .long x1), (3, .int x3)] → f_X9_setOctet S o0 x1 x3 D = some (r, D') → W p l e R s m args below meth c H locs 0 0 (MQ below (Qn none True (wpost G cA S D' ad A) A) args s 0 0 A) (F0 m 0 ls []) := by
  obtain ⟨hx, hb, -⟩ := id hC
  intro o0 a0 x1 x3 D H locs ls hi0 hw hl h
  unfold f_X9_setOctet at h
  refine lv_lload_n hx hb dX9_setOctet_0 rfl (lv_at hl 1 rfl) ?_
  refine lv_ldc2 (v := 8589934592) hx hb hC.2.2.2.1 (hC.2.2.2.2.1 _ lk_1271) dX9_setOctet_1 ?_
  refine W.lcmp hx hb dX9_setOctet_4 ?_
  refine lv_if_ge (tgt := 27) hx hb dX9_setOctet_5 (by decide) (fun c16 => ?_) (fun c16 => ?_)
  · have h := i_yes c16 h
    refine lv_aload_n hx hb dX9_setOctet_27 rfl (lv_at hl 0 rfl) ?_
    obtain ⟨o17, ho20, h⟩ := rq_i h
    refine r_getR hC hw kc_8 hi0 14 rfl lk_1086 dX9_setOctet_28 rfl ho20 (fun a18 hi19 => ?_)
    refine lv_aload_n hx hb dX9_setOctet_31 rfl (lv_at hl 0 rfl) ?_
    refine lv_lload_n hx hb dX9_setOctet_32 rfl (lv_at hl 1 rfl) ?_
    obtain ⟨r22, hq21, h⟩ := pq_i h
    refine r_cV (st' := [.int r22, .ref a18]) [.long x1] [.ref a18] hC hw kc_8 hi0 (k_X9_placeOf _ hi0 hq21) mk_X9_placeOf lk_1282 ⟨Nat.le_trans (by decide) hR.1, Nat.le_trans (by decide) hR.2⟩ ⟨Nat.zero_le _, Nat.zero_le _⟩ rfl hl.1 rfl rfl (Nat.le_of_ble_eq_true rfl) dX9_setOctet_33 (fun hP H locs hw => ?_)
    refine lv_iload_n hx hb dX9_setOctet_36 rfl (lv_at hl 2 rfl) ?_
    obtain ⟨hn23, h⟩ := ix_i h
    refine r_ias hC hw hi19 hn23 dX9_setOctet_37 (fun D24 eD24 H locs hw => ?_)
    have h := nm_i h D24 eD24
    cases h
    exact r_vret hC hw dX9_setOctet_38
  · have h := i_no c16 h
    refine lv_aload_n hx hb dX9_setOctet_8 rfl (lv_at hl 0 rfl) ?_
    obtain ⟨o25, ho28, h⟩ := rq_i h
    refine r_getR hC hw kc_8 hi0 8 rfl lk_1080 dX9_setOctet_9 rfl ho28 (fun a26 hi27 => ?_)
    refine lv_lload_n hx hb dX9_setOctet_12 rfl (lv_at hl 1 rfl) ?_
    refine lv_ldc2 (v := 8589934592) hx hb hC.2.2.2.1 (hC.2.2.2.2.1 _ lk_1271) dX9_setOctet_13 ?_
    refine lv_lsub hx hb dX9_setOctet_16 ?_
    refine lv_l2i (v := (x1 - (8589934592 : Int64)).toInt32) hx hb dX9_setOctet_17 rfl ?_
    refine lv_sipush (v := 512) hx hb dX9_setOctet_18 (by decide) ?_
    refine lv_iadd hx hb dX9_setOctet_21 ?_
    refine lv_iload_n hx hb dX9_setOctet_22 rfl (lv_at hl 2 rfl) ?_
    obtain ⟨hn29, h⟩ := ix_i h
    refine r_ias hC hw hi27 hn29 dX9_setOctet_23 (fun D30 eD30 H locs hw => ?_)
    have h := nm_i h D30 eD30
    refine lv_goto (tgt := 38) hx hb dX9_setOctet_24 (by decide) ?_
    cases h
    exact r_vret hC hw dX9_setOctet_38
set_option maxHeartbeats 4000000 in
set_option maxRecDepth 100000 in
theorem k_X9_setOctet {l : Launch} {G : va_G} {cA : Nat → ClassId} {S : sh} {D D' : dt} {ad : Nat → Nat} (sz : Nat) {o0 a0 : Nat} {x1 : Int64} {x3 : Int32} {r : Unit} (hi0 : Is S ad o0 a0 8) (h : f_X9_setOctet S o0 x1 x3 D = some (r, D')) : Co l yX9_setOctet (Cond.code yX9_setOctet cX9_setOctet 4 none :: tb0) 2 47 [.ref a0, .long x1, .int x3] G cA S D ad sz none True D' := by
  refine Met.ofW (cc := cX9_setOctet) (maxL := 4) (ret := none) (by decide) rfl ?_
  intro p e s m args below meth c s₁ B hml hv
  obtain ⟨rfl, hsz, hP, hK, hD0, hT, hX⟩ := hv
  subst hsz
  have hts := atoms_spec (ws := Cond.code yX9_setOctet cX9_setOctet 4 none :: tb0) B.pre
  have hC : Cx RX9 cX9_setOctet 4 none p s m _ meth c := ⟨B.exec, B.bytes, hml, findClass_of_methodNamed B.named, fun w q => hts w (List.mem_cons_of_mem _ q), B.returns, B.notSynchronized⟩
  have hw := Wd.entry hP hK hD0 hT hX
  have hl := lv_entry ([.ref a0, .long x1, .int x3]) (n := 4) (Nat.le_of_ble_eq_true rfl)
  rw [lg_entry_eq]
  exact w_X9_setOctet_0 hC ⟨Nat.le_refl _, Nat.le_refl _⟩ o0 a0 x1 x3 D _ _ _ hi0 hw hl h
set_option maxHeartbeats 4000000 in
set_option maxRecDepth 100000 in
theorem w_X9_numberAt_8 {r : Int64} (hC : Cx RX9 cX9_numberAt 7 (some .long) p s m args meth c) (hR : 3 ≤ R.frames ∧ 69 ≤ R.locals) : ∀ (n : Nat), ∀ (o0 a0 : Nat) (x1 : Int64) (x4 : Int64) (x6 : Int32) (H : Heap) (locs : List Loc) (ls : Array Slot), Is S ad o0 a0 8 → Wd G cA S D ad A s H locs → lv_has ls 7 [(0, .ref a0), (1, .long x1), (4, .long x4), (6, .int x6)] → f_X9_numberAt_8 S D n o0 x1 x4 x6 = some r → W p l e R s m args below meth c H locs 0 0 (MQ below (Qn (some (.long r)) True (wpost G cA S D ad A) A) args s 0 0 A) (F0 m 8 ls []) := by
  obtain ⟨hx, hb, -⟩ := id hC
  intro n
  induction n with
  | zero =>
    intro o0 a0 x1 x4 x6 H locs ls hi0 hw hl h
    rw [f_X9_numberAt_8.eq_1] at h
    cases h
  | succ n ih =>
    intro o0 a0 x1 x4 x6 H locs ls hi0 hw hl h
    rw [f_X9_numberAt_8.eq_2] at h
    refine lv_iload hx hb dX9_numberAt_8 (lv_at hl 3 rfl) ?_
    refine lv_if_lt (tgt := 37) hx hb dX9_numberAt_10 (by decide) (fun c8 => ?_) (fun c8 => ?_)
    · have h := i_yes c8 h
      refine lv_lload hx hb dX9_numberAt_37 (lv_at hl 2 rfl) ?_
      cases h
      exact r_lret hC hw dX9_numberAt_39
    · have h := i_no c8 h
      refine lv_lload hx hb dX9_numberAt_13 (lv_at hl 2 rfl) ?_
      refine lv_bipush (v := 8) hx hb dX9_numberAt_15 (by decide) ?_
      refine lv_lshl (v := j_lshl x4 (8 : Int32)) hx hb dX9_numberAt_17 rfl ?_
      refine lv_aload_n hx hb dX9_numberAt_18 rfl (lv_at hl 0 rfl) ?_
      refine lv_lload_n hx hb dX9_numberAt_19 rfl (lv_at hl 1 rfl) ?_
      refine lv_iload hx hb dX9_numberAt_20 (lv_at hl 3 rfl) ?_
      refine lv_i2l (v := x6.toInt64) hx hb dX9_numberAt_22 rfl ?_
      refine lv_ladd hx hb dX9_numberAt_23 ?_
      obtain ⟨r10, hq9, h⟩ := pq_i h
      refine r_cV (st' := [.int r10, .long (j_lshl x4 (8 : Int32))]) [.long (x1 + x6.toInt64)] [.long (j_lshl x4 (8 : Int32))] hC hw kc_8 hi0 (k_X9_octetAt _ hi0 hq9) mk_X9_octetAt lk_1278 ⟨Nat.le_trans (by decide) hR.1, Nat.le_trans (by decide) hR.2⟩ ⟨Nat.zero_le _, Nat.zero_le _⟩ rfl hl.1 rfl rfl (Nat.le_of_ble_eq_true rfl) dX9_numberAt_24 (fun hP H locs hw => ?_)
      refine lv_i2l (v := r10.toInt64) hx hb dX9_numberAt_27 rfl ?_
      refine lv_lor hx hb dX9_numberAt_28 ?_
      refine lv_topl (fun y11 ey11 => ?_)
      have h := nm_i h y11 ey11
      refine lv_lstore (lv' := [(4, .long y11), (0, .ref a0), (1, .long x1), (6, .int x6)]) hx hb dX9_numberAt_29 hl (by decide) rfl (fun ls hl => ?_)
      obtain ⟨y12, ey12⟩ : ∃ z : Int32, z = x6 + (-1) := ⟨_, rfl⟩
      have h := nm_i h y12 ey12
      refine lv_iinc (v := y12) (lv' := [(6, .int y12), (4, .long y11), (0, .ref a0), (1, .long x1)]) hx hb dX9_numberAt_31 hl (k := 3) rfl (by rw [ey12]; rfl) (by decide) rfl (fun ls hl => ?_)
      refine lv_goto (tgt := 8) hx hb dX9_numberAt_34 (by decide) ?_
      exact ih o0 a0 x1 y11 y12 _ _ _ hi0 hw (lv_sub hl [2, 3, 1, 0] rfl) h
set_option maxHeartbeats 4000000 in
set_option maxRecDepth 100000 in
theorem w_X9_numberAt_0 {r : Int64} (hC : Cx RX9 cX9_numberAt 7 (some .long) p s m args meth c) (hR : 3 ≤ R.frames ∧ 69 ≤ R.locals) : ∀ (o0 a0 : Nat) (x1 : Int64) (x3 : Int32) (H : Heap) (locs : List Loc) (ls : Array Slot), Is S ad o0 a0 8 → Wd G cA S D ad A s H locs → lv_has ls 7 [(0, .ref a0), (1, .long x1), (3, .int x3)] → f_X9_numberAt S D o0 x1 x3 = some r → W p l e R s m args below meth c H locs 0 0 (MQ below (Qn (some (.long r)) True (wpost G cA S D ad A) A) args s 0 0 A) (F0 m 0 ls []) := by
  obtain ⟨hx, hb, -⟩ := id hC
  intro o0 a0 x1 x3 H locs ls hi0 hw hl h
  unfold f_X9_numberAt at h
  refine lv_lconst (v := 0) hx hb dX9_numberAt_0 (by decide) ?_
  refine lv_topl (fun y13 ey13 => ?_)
  have h := nm_i h y13 ey13
  refine lv_lstore (lv' := [(4, .long y13), (0, .ref a0), (1, .long x1), (3, .int x3)]) hx hb dX9_numberAt_1 hl (by decide) rfl (fun ls hl => ?_)
  refine lv_iload_n hx hb dX9_numberAt_3 rfl (lv_at hl 3 rfl) ?_
  refine lv_iconst (v := 1) hx hb dX9_numberAt_4 (by decide) ?_
  refine lv_isub hx hb dX9_numberAt_5 ?_
  refine lv_topi (fun y14 ey14 => ?_)
  have h := nm_i h y14 ey14
  refine lv_istore (lv' := [(6, .int y14), (4, .long y13), (0, .ref a0), (1, .long x1), (3, .int x3)]) hx hb dX9_numberAt_6 hl (by decide) rfl (fun ls hl => ?_)
  exact w_X9_numberAt_8 hC hR LF o0 a0 x1 y13 y14 _ _ _ hi0 hw (lv_sub hl [2, 3, 1, 0] rfl) h
set_option maxHeartbeats 4000000 in
set_option maxRecDepth 100000 in
theorem k_X9_numberAt {l : Launch} {G : va_G} {cA : Nat → ClassId} {S : sh} {D : dt} {ad : Nat → Nat} (sz : Nat) {o0 a0 : Nat} {x1 : Int64} {x3 : Int32} {r : Int64} (hi0 : Is S ad o0 a0 8) (h : f_X9_numberAt S D o0 x1 x3 = some r) : Co l yX9_numberAt (Cond.code yX9_numberAt cX9_numberAt 7 (some .long) :: tb0) 3 69 [.ref a0, .long x1, .int x3] G cA S D ad sz (some (.long r)) True D := by
  refine Met.ofW (cc := cX9_numberAt) (maxL := 7) (ret := (some .long)) (by decide) rfl ?_
  intro p e s m args below meth c s₁ B hml hv
  obtain ⟨rfl, hsz, hP, hK, hD0, hT, hX⟩ := hv
  subst hsz
  have hts := atoms_spec (ws := Cond.code yX9_numberAt cX9_numberAt 7 (some .long) :: tb0) B.pre
  have hC : Cx RX9 cX9_numberAt 7 (some .long) p s m _ meth c := ⟨B.exec, B.bytes, hml, findClass_of_methodNamed B.named, fun w q => hts w (List.mem_cons_of_mem _ q), B.returns, B.notSynchronized⟩
  have hw := Wd.entry hP hK hD0 hT hX
  have hl := lv_entry ([.ref a0, .long x1, .int x3]) (n := 7) (Nat.le_of_ble_eq_true rfl)
  rw [lg_entry_eq]
  exact w_X9_numberAt_0 hC ⟨Nat.le_refl _, Nat.le_refl _⟩ o0 a0 x1 x3 _ _ _ hi0 hw hl h
set_option maxHeartbeats 4000000 in
set_option maxRecDepth 100000 in
theorem w_X9_setNumber_3 {r : Unit} {D' : dt} (hC : Cx RX9 cX9_setNumber 7 none p s m args meth c) (hR : 3 ≤ R.frames ∧ 70 ≤ R.locals) : ∀ (n : Nat), ∀ (o0 a0 : Nat) (x1 : Int64) (x3 : Int32) (x4 : Int64) (x6 : Int32) (D : dt) (H : Heap) (locs : List Loc) (ls : Array Slot), Is S ad o0 a0 8 → Wd G cA S D ad A s H locs → lv_has ls 7 [(0, .ref a0), (1, .long x1), (3, .int x3), (4, .long x4), (6, .int x6)] → f_X9_setNumber_3 S n o0 x1 x3 x4 x6 D = some (r, D') → W p l e R s m args below meth c H locs 0 0 (MQ below (Qn none True (wpost G cA S D' ad A) A) args s 0 0 A) (F0 m 3 ls []) := by
  obtain ⟨hx, hb, -⟩ := id hC
  intro n
  induction n with
  | zero =>
    intro o0 a0 x1 x3 x4 x6 D H locs ls hi0 hw hl h
    rw [f_X9_setNumber_3.eq_1] at h
    cases h
  | succ n ih =>
    intro o0 a0 x1 x3 x4 x6 D H locs ls hi0 hw hl h
    rw [f_X9_setNumber_3.eq_2] at h
    refine lv_iload hx hb dX9_setNumber_3 (lv_at hl 4 rfl) ?_
    refine lv_iload_n hx hb dX9_setNumber_5 rfl (lv_at hl 2 rfl) ?_
    refine lv_icmp_ge (tgt := 37) hx hb dX9_setNumber_6 (by decide) (fun c6 => ?_) (fun c6 => ?_)
    · have h := i_yes c6 h
      cases h
      exact r_vret hC hw dX9_setNumber_37
    · have h := i_no c6 h
      refine lv_aload_n hx hb dX9_setNumber_9 rfl (lv_at hl 0 rfl) ?_
      refine lv_lload_n hx hb dX9_setNumber_10 rfl (lv_at hl 1 rfl) ?_
      refine lv_iload hx hb dX9_setNumber_11 (lv_at hl 4 rfl) ?_
      refine lv_i2l (v := x6.toInt64) hx hb dX9_setNumber_13 rfl ?_
      refine lv_ladd hx hb dX9_setNumber_14 ?_
      refine lv_lload hx hb dX9_setNumber_15 (lv_at hl 3 rfl) ?_
      refine lv_bipush (v := 8) hx hb dX9_setNumber_17 (by decide) ?_
      refine lv_iload hx hb dX9_setNumber_19 (lv_at hl 4 rfl) ?_
      refine lv_imul hx hb dX9_setNumber_21 ?_
      refine lv_lshr (v := j_lshr x4 ((8 : Int32) * x6)) hx hb dX9_setNumber_22 rfl ?_
      refine lv_ldc2 (v := 255) hx hb hC.2.2.2.1 (hC.2.2.2.2.1 _ lk_1242) dX9_setNumber_23 ?_
      refine lv_land hx hb dX9_setNumber_26 ?_
      refine lv_l2i (v := ((j_lshr x4 ((8 : Int32) * x6)) &&& (255 : Int64)).toInt32) hx hb dX9_setNumber_27 rfl ?_
      obtain ⟨_, D8, hq7, h⟩ := cq_i h
      refine r_cV (st' := []) [.long (x1 + x6.toInt64), .int (((j_lshr x4 ((8 : Int32) * x6)) &&& (255 : Int64)).toInt32)] [] hC hw kc_8 hi0 (k_X9_setOctet _ hi0 hq7) mk_X9_setOctet lk_1400 ⟨Nat.le_trans (by decide) hR.1, Nat.le_trans (by decide) hR.2⟩ ⟨Nat.zero_le _, Nat.zero_le _⟩ rfl hl.1 rfl rfl (Nat.le_of_ble_eq_true rfl) dX9_setNumber_28 (fun hP H locs hw => ?_)
      obtain ⟨y9, ey9⟩ : ∃ z : Int32, z = x6 + 1 := ⟨_, rfl⟩
      have h := nm_i h y9 ey9
      refine lv_iinc (v := y9) (lv' := [(6, .int y9), (0, .ref a0), (1, .long x1), (3, .int x3), (4, .long x4)]) hx hb dX9_setNumber_31 hl (k := 4) rfl (by rw [ey9]; rfl) (by decide) rfl (fun ls hl => ?_)
      refine lv_goto (tgt := 3) hx hb dX9_setNumber_34 (by decide) ?_
      exact ih o0 a0 x1 x3 x4 y9 _ _ _ _ hi0 hw (lv_sub hl [1, 2, 3, 4, 0] rfl) h
set_option maxHeartbeats 4000000 in
set_option maxRecDepth 100000 in
theorem w_X9_setNumber_0 {r : Unit} {D' : dt} (hC : Cx RX9 cX9_setNumber 7 none p s m args meth c) (hR : 3 ≤ R.frames ∧ 70 ≤ R.locals) : ∀ (o0 a0 : Nat) (x1 : Int64) (x3 : Int32) (x4 : Int64) (D : dt) (H : Heap) (locs : List Loc) (ls : Array Slot), Is S ad o0 a0 8 → Wd G cA S D ad A s H locs → lv_has ls 7 [(0, .ref a0), (1, .long x1), (3, .int x3), (4, .long x4)] → f_X9_setNumber S o0 x1 x3 x4 D = some (r, D') → W p l e R s m args below meth c H locs 0 0 (MQ below (Qn none True (wpost G cA S D' ad A) A) args s 0 0 A) (F0 m 0 ls []) := by
  obtain ⟨hx, hb, -⟩ := id hC
  intro o0 a0 x1 x3 x4 D H locs ls hi0 hw hl h
  unfold f_X9_setNumber at h
  refine lv_iconst (v := 0) hx hb dX9_setNumber_0 (by decide) ?_
  refine lv_topi (fun y10 ey10 => ?_)
  have h := nm_i h y10 ey10
  refine lv_istore (lv' := [(6, .int y10), (0, .ref a0), (1, .long x1), (3, .int x3), (4, .long x4)]) hx hb dX9_setNumber_1 hl (by decide) rfl (fun ls hl => ?_)
  exact w_X9_setNumber_3 hC hR LF o0 a0 x1 x3 x4 y10 _ _ _ _ hi0 hw (lv_sub hl [1, 2, 3, 4, 0] rfl) h
set_option maxHeartbeats 4000000 in
set_option maxRecDepth 100000 in
theorem k_X9_setNumber {l : Launch} {G : va_G} {cA : Nat → ClassId} {S : sh} {D D' : dt} {ad : Nat → Nat} (sz : Nat) {o0 a0 : Nat} {x1 : Int64} {x3 : Int32} {x4 : Int64} {r : Unit} (hi0 : Is S ad o0 a0 8) (h : f_X9_setNumber S o0 x1 x3 x4 D = some (r, D')) : Co l yX9_setNumber (Cond.code yX9_setNumber cX9_setNumber 7 none :: tb0) 3 70 [.ref a0, .long x1, .int x3, .long x4] G cA S D ad sz none True D' := by
  refine Met.ofW (cc := cX9_setNumber) (maxL := 7) (ret := none) (by decide) rfl ?_
  intro p e s m args below meth c s₁ B hml hv
  obtain ⟨rfl, hsz, hP, hK, hD0, hT, hX⟩ := hv
  subst hsz
  have hts := atoms_spec (ws := Cond.code yX9_setNumber cX9_setNumber 7 none :: tb0) B.pre
  have hC : Cx RX9 cX9_setNumber 7 none p s m _ meth c := ⟨B.exec, B.bytes, hml, findClass_of_methodNamed B.named, fun w q => hts w (List.mem_cons_of_mem _ q), B.returns, B.notSynchronized⟩
  have hw := Wd.entry hP hK hD0 hT hX
  have hl := lv_entry ([.ref a0, .long x1, .int x3, .long x4]) (n := 7) (Nat.le_of_ble_eq_true rfl)
  rw [lg_entry_eq]
  exact w_X9_setNumber_0 hC ⟨Nat.le_refl _, Nat.le_refl _⟩ o0 a0 x1 x3 x4 D _ _ _ hi0 hw hl h
set_option maxHeartbeats 4000000 in
set_option maxRecDepth 100000 in
theorem w_X9_octet_0 {r : Int32} (hC : Cx RX9 cX9_octet 3 (some .int) p s m args meth c) (hR : 3 ≤ R.frames ∧ 69 ≤ R.locals) : ∀ (o0 a0 : Nat) (x1 : Int64) (H : Heap) (locs : List Loc) (ls : Array Slot), Is S ad o0 a0 8 → Wd G cA S D ad A s H locs → lv_has ls 3 [(0, .ref a0), (1, .long x1)] → f_X9_octet S D o0 x1 = some r → W p l e R s m args below meth c H locs 0 0 (MQ below (Qn (some (.int r)) True (wpost G cA S D ad A) A) args s 0 0 A) (F0 m 0 ls []) := by
  obtain ⟨hx, hb, -⟩ := id hC
  intro o0 a0 x1 H locs ls hi0 hw hl h
  unfold f_X9_octet at h
  refine lv_aload_n hx hb dX9_octet_0 rfl (lv_at hl 0 rfl) ?_
  refine lv_lload_n hx hb dX9_octet_1 rfl (lv_at hl 1 rfl) ?_
  refine lv_iconst (v := 1) hx hb dX9_octet_2 (by decide) ?_
  refine lv_iconst (v := 0) hx hb dX9_octet_3 (by decide) ?_
  obtain ⟨r7, hq6, h⟩ := pq_i h
  refine r_cV (st' := [.int r7]) [.long x1, .int (1 : Int32), .int (0 : Int32)] [] hC hw kc_8 hi0 (k_X9_isThere _ hi0 hq6) mk_X9_isThere lk_1264 ⟨Nat.le_trans (by decide) hR.1, Nat.le_trans (by decide) hR.2⟩ ⟨Nat.zero_le _, Nat.zero_le _⟩ rfl hl.1 rfl rfl (Nat.le_of_ble_eq_true rfl) dX9_octet_4 (fun hP H locs hw => ?_)
  refine lv_if_eq (tgt := 18) hx hb dX9_octet_7 (by decide) (fun c8 => ?_) (fun c8 => ?_)
  · have h := i_yes c8 h
    refine lv_iconst (v := (-1)) hx hb dX9_octet_18 (by decide) ?_
    cases h
    exact r_iret hC hw dX9_octet_19
  · have h := i_no c8 h
    refine lv_aload_n hx hb dX9_octet_10 rfl (lv_at hl 0 rfl) ?_
    refine lv_lload_n hx hb dX9_octet_11 rfl (lv_at hl 1 rfl) ?_
    obtain ⟨r10, hq9, h⟩ := pq_i h
    refine r_cV (st' := [.int r10]) [.long x1] [] hC hw kc_8 hi0 (k_X9_octetAt _ hi0 hq9) mk_X9_octetAt lk_1278 ⟨Nat.le_trans (by decide) hR.1, Nat.le_trans (by decide) hR.2⟩ ⟨Nat.zero_le _, Nat.zero_le _⟩ rfl hl.1 rfl rfl (Nat.le_of_ble_eq_true rfl) dX9_octet_12 (fun hP H locs hw => ?_)
    refine lv_goto (tgt := 19) hx hb dX9_octet_15 (by decide) ?_
    cases h
    exact r_iret hC hw dX9_octet_19
set_option maxHeartbeats 4000000 in
set_option maxRecDepth 100000 in
theorem k_X9_octet {l : Launch} {G : va_G} {cA : Nat → ClassId} {S : sh} {D : dt} {ad : Nat → Nat} (sz : Nat) {o0 a0 : Nat} {x1 : Int64} {r : Int32} (hi0 : Is S ad o0 a0 8) (h : f_X9_octet S D o0 x1 = some r) : Co l yX9_octet (Cond.code yX9_octet cX9_octet 3 (some .int) :: tb0) 3 69 [.ref a0, .long x1] G cA S D ad sz (some (.int r)) True D := by
  refine Met.ofW (cc := cX9_octet) (maxL := 3) (ret := (some .int)) (by decide) rfl ?_
  intro p e s m args below meth c s₁ B hml hv
  obtain ⟨rfl, hsz, hP, hK, hD0, hT, hX⟩ := hv
  subst hsz
  have hts := atoms_spec (ws := Cond.code yX9_octet cX9_octet 3 (some .int) :: tb0) B.pre
  have hC : Cx RX9 cX9_octet 3 (some .int) p s m _ meth c := ⟨B.exec, B.bytes, hml, findClass_of_methodNamed B.named, fun w q => hts w (List.mem_cons_of_mem _ q), B.returns, B.notSynchronized⟩
  have hw := Wd.entry hP hK hD0 hT hX
  have hl := lv_entry ([.ref a0, .long x1]) (n := 3) (Nat.le_of_ble_eq_true rfl)
  rw [lg_entry_eq]
  exact w_X9_octet_0 hC ⟨Nat.le_refl _, Nat.le_refl _⟩ o0 a0 x1 _ _ _ hi0 hw hl h
set_option maxHeartbeats 4000000 in
set_option maxRecDepth 100000 in
theorem w_X9_table_34 {r : Int32} {D' : dt} (hC : Cx RX9 cX9_table 5 (some .int) p s m args meth c) (hR : 1 ≤ R.frames ∧ 25 ≤ R.locals) : ∀ (o0 a0 : Nat) (x1 : Int32) (x2 : Int32) (x3 : Int32) (x4 : Int32) (D : dt) (H : Heap) (locs : List Loc) (ls : Array Slot), Is S ad o0 a0 8 → Wd G cA S D ad A s H locs → lv_has ls 5 [(0, .ref a0), (1, .int x1), (2, .int x2), (3, .int x3), (4, .int x4)] → f_X9_table_34 S o0 x1 x2 x3 x4 D = some (r, D') → W p l e R s m args below meth c H locs 0 0 (MQ below (Qn (some (.int r)) True (wpost G cA S D' ad A) A) args s 0 0 A) (F0 m 34 ls []) := by
  obtain ⟨hx, hb, -⟩ := id hC
  intro o0 a0 x1 x2 x3 x4 D H locs ls hi0 hw hl h
  unfold f_X9_table_34 at h
  refine lv_iload_n hx hb dX9_table_34 rfl (lv_at hl 3 rfl) ?_
  refine lv_i2l (v := x3.toInt64) hx hb dX9_table_35 rfl ?_
  refine lv_lconst (v := 1) hx hb dX9_table_36 (by decide) ?_
  refine lv_ldc2 (v := 32) hx hb hC.2.2.2.1 (hC.2.2.2.2.1 _ lk_1291) dX9_table_37 ?_
  obtain ⟨r42, hq41, h⟩ := pq_i h
  refine r_cS (st' := [.int r42]) [.long x3.toInt64, .long (1 : Int64), .long (32 : Int64)] [] hC hw (k_X9_in _ hq41) mk_X9_in lk_1243 ⟨Nat.le_trans (by decide) hR.1, Nat.le_trans (by decide) hR.2⟩ ⟨Nat.zero_le _, Nat.zero_le _⟩ rfl hl.1 rfl rfl (Nat.le_of_ble_eq_true rfl) dX9_table_40 (fun hP H locs hw => ?_)
  refine lv_if_eq (tgt := 59) hx hb dX9_table_43 (by decide) (fun c43 => ?_) (fun c43 => ?_)
  · have h := i_yes c43 h
    refine lv_bipush (v := (-2)) hx hb dX9_table_59 (by decide) ?_
    cases h
    exact r_iret hC hw dX9_table_61
  · have h := i_no c43 h
    refine lv_iload hx hb dX9_table_46 (lv_at hl 4 rfl) ?_
    refine lv_i2l (v := x4.toInt64) hx hb dX9_table_48 rfl ?_
    refine lv_lconst (v := 1) hx hb dX9_table_49 (by decide) ?_
    refine lv_ldc2 (v := 32) hx hb hC.2.2.2.1 (hC.2.2.2.2.1 _ lk_1291) dX9_table_50 ?_
    obtain ⟨r45, hq44, h⟩ := pq_i h
    refine r_cS (st' := [.int r45]) [.long x4.toInt64, .long (1 : Int64), .long (32 : Int64)] [] hC hw (k_X9_in _ hq44) mk_X9_in lk_1243 ⟨Nat.le_trans (by decide) hR.1, Nat.le_trans (by decide) hR.2⟩ ⟨Nat.zero_le _, Nat.zero_le _⟩ rfl hl.1 rfl rfl (Nat.le_of_ble_eq_true rfl) dX9_table_53 (fun hP H locs hw => ?_)
    refine lv_if_ne (tgt := 62) hx hb dX9_table_56 (by decide) (fun c46 => ?_) (fun c46 => ?_)
    · have h := i_no c46 h
      refine lv_aload_n hx hb dX9_table_62 rfl (lv_at hl 0 rfl) ?_
      refine r_gI hC hw kc_8 hi0 9 rfl lk_1081 dX9_table_63 ?_
      refine lv_iconst (v := 4) hx hb dX9_table_66 (by decide) ?_
      refine lv_icmp_ne (tgt := 73) hx hb dX9_table_67 (by decide) (fun c47 => ?_) (fun c47 => ?_)
      · have h := i_no c47 h
        refine lv_aload_n hx hb dX9_table_73 rfl (lv_at hl 0 rfl) ?_
        obtain ⟨o48, ho51, h⟩ := rq_i h
        refine r_getR hC hw kc_8 hi0 10 rfl lk_1082 dX9_table_74 rfl ho51 (fun a49 hi50 => ?_)
        refine lv_aload_n hx hb dX9_table_77 rfl (lv_at hl 0 rfl) ?_
        refine r_gI hC hw kc_8 hi0 9 rfl lk_1081 dX9_table_78 ?_
        refine lv_iload_n hx hb dX9_table_81 rfl (lv_at hl 1 rfl) ?_
        obtain ⟨hn52, h⟩ := ix_i h
        refine r_ias hC hw hi50 hn52 dX9_table_82 (fun D53 eD53 H locs hw => ?_)
        have h := nm_i h D53 eD53
        refine lv_aload_n hx hb dX9_table_83 rfl (lv_at hl 0 rfl) ?_
        obtain ⟨o54, ho57, h⟩ := rq_i h
        refine r_getR hC hw kc_8 hi0 11 rfl lk_1083 dX9_table_84 rfl ho57 (fun a55 hi56 => ?_)
        refine lv_aload_n hx hb dX9_table_87 rfl (lv_at hl 0 rfl) ?_
        refine r_gI hC hw kc_8 hi0 9 rfl lk_1081 dX9_table_88 ?_
        refine lv_iload_n hx hb dX9_table_91 rfl (lv_at hl 2 rfl) ?_
        obtain ⟨hn58, h⟩ := ix_i h
        refine r_ias hC hw hi56 hn58 dX9_table_92 (fun D59 eD59 H locs hw => ?_)
        have h := nm_i h D59 eD59
        refine lv_aload_n hx hb dX9_table_93 rfl (lv_at hl 0 rfl) ?_
        obtain ⟨o60, ho63, h⟩ := rq_i h
        refine r_getR hC hw kc_8 hi0 12 rfl lk_1084 dX9_table_94 rfl ho63 (fun a61 hi62 => ?_)
        refine lv_aload_n hx hb dX9_table_97 rfl (lv_at hl 0 rfl) ?_
        refine r_gI hC hw kc_8 hi0 9 rfl lk_1081 dX9_table_98 ?_
        refine lv_iload_n hx hb dX9_table_101 rfl (lv_at hl 3 rfl) ?_
        obtain ⟨hn64, h⟩ := ix_i h
        refine r_ias hC hw hi62 hn64 dX9_table_102 (fun D65 eD65 H locs hw => ?_)
        have h := nm_i h D65 eD65
        refine lv_aload_n hx hb dX9_table_103 rfl (lv_at hl 0 rfl) ?_
        obtain ⟨o66, ho69, h⟩ := rq_i h
        refine r_getR hC hw kc_8 hi0 13 rfl lk_1085 dX9_table_104 rfl ho69 (fun a67 hi68 => ?_)
        refine lv_aload_n hx hb dX9_table_107 rfl (lv_at hl 0 rfl) ?_
        refine r_gI hC hw kc_8 hi0 9 rfl lk_1081 dX9_table_108 ?_
        refine lv_iload hx hb dX9_table_111 (lv_at hl 4 rfl) ?_
        obtain ⟨hn70, h⟩ := ix_i h
        refine r_ias hC hw hi68 hn70 dX9_table_113 (fun D71 eD71 H locs hw => ?_)
        have h := nm_i h D71 eD71
        refine lv_aload_n hx hb dX9_table_114 rfl (lv_at hl 0 rfl) ?_
        refine lv_dup hx hb dX9_table_115 rfl ?_
        refine r_gI hC hw kc_8 hi0 9 rfl lk_1081 dX9_table_116 ?_
        refine lv_iconst (v := 1) hx hb dX9_table_119 (by decide) ?_
        refine lv_iadd hx hb dX9_table_120 ?_
        refine r_pI hC hw kc_8 hi0 9 rfl lk_1081 rfl rfl rfl dX9_table_121 (fun D72 eD72 H locs hw => ?_)
        have h := nm_i h D72 eD72
        refine lv_aload_n hx hb dX9_table_124 rfl (lv_at hl 0 rfl) ?_
        refine r_gI hC hw kc_8 hi0 9 rfl lk_1081 dX9_table_125 ?_
        refine lv_iconst (v := 1) hx hb dX9_table_128 (by decide) ?_
        refine lv_isub hx hb dX9_table_129 ?_
        cases h
        exact r_iret hC hw dX9_table_130
      · have h := i_yes c47 h
        refine lv_bipush (v := (-4)) hx hb dX9_table_70 (by decide) ?_
        cases h
        exact r_iret hC hw dX9_table_72
    · have h := i_yes c46 h
      refine lv_bipush (v := (-2)) hx hb dX9_table_59 (by decide) ?_
      cases h
      exact r_iret hC hw dX9_table_61
set_option maxHeartbeats 4000000 in
set_option maxRecDepth 100000 in
theorem w_X9_table_0 {r : Int32} {D' : dt} (hC : Cx RX9 cX9_table 5 (some .int) p s m args meth c) (hR : 1 ≤ R.frames ∧ 25 ≤ R.locals) : ∀ (o0 a0 : Nat) (x1 : Int32) (x2 : Int32) (x3 : Int32) (x4 : Int32) (D : dt) (H : Heap) (locs : List Loc) (ls : Array Slot), Is S ad o0 a0 8 → Wd G cA S D ad A s H locs → lv_has ls 5 [(0, .ref a0), (1, .int x1), (2, .int x2), (3, .int x3), (4, .int x4)] → f_X9_table S o0 x1 x2 x3 x4 D = some (r, D') → W p l e R s m args below meth c H locs 0 0 (MQ below (Qn (some (.int r)) True (wpost G cA S D' ad A) A) args s 0 0 A) (F0 m 0 ls []) := by
  obtain ⟨hx, hb, -⟩ := id hC
  intro o0 a0 x1 x2 x3 x4 D H locs ls hi0 hw hl h
  unfold f_X9_table at h
  refine lv_iload_n hx hb dX9_table_0 rfl (lv_at hl 1 rfl) ?_
  refine lv_i2l (v := x1.toInt64) hx hb dX9_table_1 rfl ?_
  refine lv_lconst (v := 0) hx hb dX9_table_2 (by decide) ?_
  refine lv_lconst (v := 1) hx hb dX9_table_3 (by decide) ?_
  obtain ⟨r74, hq73, h⟩ := pq_i h
  refine r_cS (st' := [.int r74]) [.long x1.toInt64, .long (0 : Int64), .long (1 : Int64)] [] hC hw (k_X9_in _ hq73) mk_X9_in lk_1243 ⟨Nat.le_trans (by decide) hR.1, Nat.le_trans (by decide) hR.2⟩ ⟨Nat.zero_le _, Nat.zero_le _⟩ rfl hl.1 rfl rfl (Nat.le_of_ble_eq_true rfl) dX9_table_4 (fun hP H locs hw => ?_)
  refine lv_if_eq (tgt := 59) hx hb dX9_table_7 (by decide) (fun c75 => ?_) (fun c75 => ?_)
  · have h := i_yes c75 h
    refine lv_bipush (v := (-2)) hx hb dX9_table_59 (by decide) ?_
    cases h
    exact r_iret hC hw dX9_table_61
  · have h := i_no c75 h
    refine lv_iload_n hx hb dX9_table_10 rfl (lv_at hl 1 rfl) ?_
    refine lv_if_ne (tgt := 22) hx hb dX9_table_11 (by decide) (fun c76 => ?_) (fun c76 => ?_)
    · have h := i_no c76 h
      refine lv_iload_n hx hb dX9_table_22 rfl (lv_at hl 2 rfl) ?_
      refine lv_i2l (v := x2.toInt64) hx hb dX9_table_23 rfl ?_
      refine lv_lconst (v := 1) hx hb dX9_table_24 (by decide) ?_
      refine lv_ldc2 (v := 8) hx hb hC.2.2.2.1 (hC.2.2.2.2.1 _ lk_1290) dX9_table_25 ?_
      obtain ⟨r78, hq77, h⟩ := pq_i h
      refine r_cS (st' := [.int r78]) [.long x2.toInt64, .long (1 : Int64), .long (8 : Int64)] [] hC hw (k_X9_in _ hq77) mk_X9_in lk_1243 ⟨Nat.le_trans (by decide) hR.1, Nat.le_trans (by decide) hR.2⟩ ⟨Nat.zero_le _, Nat.zero_le _⟩ rfl hl.1 rfl rfl (Nat.le_of_ble_eq_true rfl) dX9_table_28 (fun hP H locs hw => ?_)
      refine lv_if_eq (tgt := 59) hx hb dX9_table_31 (by decide) (fun c79 => ?_) (fun c79 => ?_)
      · have h := i_yes c79 h
        refine lv_bipush (v := (-2)) hx hb dX9_table_59 (by decide) ?_
        cases h
        exact r_iret hC hw dX9_table_61
      · have h := i_no c79 h
        exact w_X9_table_34 hC hR o0 a0 x1 x2 x3 x4 _ _ _ _ hi0 hw (lv_sub hl [0, 1, 2, 3, 4] rfl) h
    · have h := i_yes c76 h
      refine lv_iload_n hx hb dX9_table_14 rfl (lv_at hl 2 rfl) ?_
      refine lv_iconst (v := 4) hx hb dX9_table_15 (by decide) ?_
      refine lv_icmp_eq (tgt := 34) hx hb dX9_table_16 (by decide) (fun c80 => ?_) (fun c80 => ?_)
      · have h := i_yes c80 h
        exact w_X9_table_34 hC hR o0 a0 x1 x2 x3 x4 _ _ _ _ hi0 hw (lv_sub hl [0, 1, 2, 3, 4] rfl) h
      · have h := i_no c80 h
        refine lv_goto (tgt := 59) hx hb dX9_table_19 (by decide) ?_
        refine lv_bipush (v := (-2)) hx hb dX9_table_59 (by decide) ?_
        cases h
        exact r_iret hC hw dX9_table_61
set_option maxHeartbeats 4000000 in
set_option maxRecDepth 100000 in
theorem k_X9_table {l : Launch} {G : va_G} {cA : Nat → ClassId} {S : sh} {D D' : dt} {ad : Nat → Nat} (sz : Nat) {o0 a0 : Nat} {x1 : Int32} {x2 : Int32} {x3 : Int32} {x4 : Int32} {r : Int32} (hi0 : Is S ad o0 a0 8) (h : f_X9_table S o0 x1 x2 x3 x4 D = some (r, D')) : Co l yX9_table (Cond.code yX9_table cX9_table 5 (some .int) :: tb0) 1 25 [.ref a0, .int x1, .int x2, .int x3, .int x4] G cA S D ad sz (some (.int r)) True D' := by
  refine Met.ofW (cc := cX9_table) (maxL := 5) (ret := (some .int)) (by decide) rfl ?_
  intro p e s m args below meth c s₁ B hml hv
  obtain ⟨rfl, hsz, hP, hK, hD0, hT, hX⟩ := hv
  subst hsz
  have hts := atoms_spec (ws := Cond.code yX9_table cX9_table 5 (some .int) :: tb0) B.pre
  have hC : Cx RX9 cX9_table 5 (some .int) p s m _ meth c := ⟨B.exec, B.bytes, hml, findClass_of_methodNamed B.named, fun w q => hts w (List.mem_cons_of_mem _ q), B.returns, B.notSynchronized⟩
  have hw := Wd.entry hP hK hD0 hT hX
  have hl := lv_entry ([.ref a0, .int x1, .int x2, .int x3, .int x4]) (n := 5) (Nat.le_of_ble_eq_true rfl)
  rw [lg_entry_eq]
  exact w_X9_table_0 hC ⟨Nat.le_refl _, Nat.le_refl _⟩ o0 a0 x1 x2 x3 x4 D _ _ _ hi0 hw hl h
set_option maxHeartbeats 4000000 in
set_option maxRecDepth 100000 in
theorem w_X9_find_139 {r : Int32} (hC : Cx RX9 cX9_find 6 (some .int) p s m args meth c) (hR : 0 ≤ R.frames ∧ 0 ≤ R.locals) {k60 : Nat → Int32 → Int32 → Option Int32} (hk60 : ∀ (o0 a0 : Nat) (x1 : Int32) (x2 : Int32) (H : Heap) (locs : List Loc) (ls : Array Slot), Is S ad o0 a0 8 → Wd G cA S D ad A s H locs → lv_has ls 6 [(0, .ref a0), (1, .int x1), (2, .int x2)] → k60 o0 x1 x2 = some r → W p l e R s m args below meth c H locs 0 0 (MQ below (Qn (some (.int r)) True (wpost G cA S D ad A) A) args s 0 0 A) (F0 m 60 ls [])) : ∀ (o0 a0 : Nat) (x1 : Int32) (x2 : Int32) (x4 : Int32) (H : Heap) (locs : List Loc) (ls : Array Slot), Is S ad o0 a0 8 → Wd G cA S D ad A s H locs → lv_has ls 6 [(0, .ref a0), (1, .int x1), (2, .int x2), (4, .int x4)] → f_X9_find_139 S D k60 o0 x1 x2 x4 = some r → W p l e R s m args below meth c H locs 0 0 (MQ below (Qn (some (.int r)) True (wpost G cA S D ad A) A) args s 0 0 A) (F0 m 139 ls []) := by
  obtain ⟨hx, hb, -⟩ := id hC
  intro o0 a0 x1 x2 x4 H locs ls hi0 hw hl h
  unfold f_X9_find_139 at h
  refine lv_iload hx hb dX9_find_139 (lv_at hl 3 rfl) ?_
  refine lv_if_eq (tgt := 146) hx hb dX9_find_141 (by decide) (fun c59 => ?_) (fun c59 => ?_)
  · have h := i_yes c59 h
    obtain ⟨y60, ey60⟩ : ∃ z : Int32, z = x2 + 1 := ⟨_, rfl⟩
    have h := nm_i h y60 ey60
    refine lv_iinc (v := y60) (lv' := [(2, .int y60), (0, .ref a0), (1, .int x1), (4, .int x4)]) hx hb dX9_find_146 hl (k := 2) rfl (by rw [ey60]; rfl) (by decide) rfl (fun ls hl => ?_)
    refine lv_goto (tgt := 60) hx hb dX9_find_149 (by decide) ?_
    exact hk60 o0 a0 x1 y60 _ _ _ hi0 hw (lv_sub hl [1, 2, 0] rfl) h
  · have h := i_no c59 h
    refine lv_iload_n hx hb dX9_find_144 rfl (lv_at hl 2 rfl) ?_
    cases h
    exact r_iret hC hw dX9_find_145
set_option maxHeartbeats 4000000 in
set_option maxRecDepth 100000 in
theorem w_X9_find_131 {r : Int32} (hC : Cx RX9 cX9_find 6 (some .int) p s m args meth c) (hR : 0 ≤ R.frames ∧ 0 ≤ R.locals) {k60 : Nat → Int32 → Int32 → Option Int32} (hk60 : ∀ (o0 a0 : Nat) (x1 : Int32) (x2 : Int32) (H : Heap) (locs : List Loc) (ls : Array Slot), Is S ad o0 a0 8 → Wd G cA S D ad A s H locs → lv_has ls 6 [(0, .ref a0), (1, .int x1), (2, .int x2)] → k60 o0 x1 x2 = some r → W p l e R s m args below meth c H locs 0 0 (MQ below (Qn (some (.int r)) True (wpost G cA S D ad A) A) args s 0 0 A) (F0 m 60 ls [])) {k88 : Nat → Int32 → Int32 → Int32 → Int32 → Int32 → Option Int32} (hk88 : ∀ (o0 a0 : Nat) (x1 : Int32) (x2 : Int32) (x3 : Int32) (x4 : Int32) (x5 : Int32) (H : Heap) (locs : List Loc) (ls : Array Slot), Is S ad o0 a0 8 → Wd G cA S D ad A s H locs → lv_has ls 6 [(0, .ref a0), (1, .int x1), (2, .int x2), (3, .int x3), (4, .int x4), (5, .int x5)] → k88 o0 x1 x2 x3 x4 x5 = some r → W p l e R s m args below meth c H locs 0 0 (MQ below (Qn (some (.int r)) True (wpost G cA S D ad A) A) args s 0 0 A) (F0 m 88 ls [])) : ∀ (o0 a0 : Nat) (x1 : Int32) (x2 : Int32) (x3 : Int32) (x5 : Int32) (xs0 : Int32) (H : Heap) (locs : List Loc) (ls : Array Slot), Is S ad o0 a0 8 → Wd G cA S D ad A s H locs → lv_has ls 6 [(0, .ref a0), (1, .int x1), (2, .int x2), (3, .int x3), (5, .int x5)] → f_X9_find_131 S D k60 k88 o0 x1 x2 x3 x5 xs0 = some r → W p l e R s m args below meth c H locs 0 0 (MQ below (Qn (some (.int r)) True (wpost G cA S D ad A) A) args s 0 0 A) (F0 m 131 ls [.int xs0]) := by
  obtain ⟨hx, hb, -⟩ := id hC
  intro o0 a0 x1 x2 x3 x5 xs0 H locs ls hi0 hw hl h
  unfold f_X9_find_131 at h
  refine lv_istore (lv' := [(4, .int xs0), (0, .ref a0), (1, .int x1), (2, .int x2), (3, .int x3), (5, .int x5)]) hx hb dX9_find_131 hl (by decide) rfl (fun ls hl => ?_)
  obtain ⟨y61, ey61⟩ : ∃ z : Int32, z = x5 + 1 := ⟨_, rfl⟩
  have h := nm_i h y61 ey61
  refine lv_iinc (v := y61) (lv' := [(5, .int y61), (4, .int xs0), (0, .ref a0), (1, .int x1), (2, .int x2), (3, .int x3)]) hx hb dX9_find_133 hl (k := 5) rfl (by rw [ey61]; rfl) (by decide) rfl (fun ls hl => ?_)
  refine lv_goto (tgt := 88) hx hb dX9_find_136 (by decide) ?_
  exact hk88 o0 a0 x1 x2 x3 xs0 y61 _ _ _ hi0 hw (lv_sub hl [2, 3, 4, 5, 1, 0] rfl) h
set_option maxHeartbeats 4000000 in
set_option maxRecDepth 100000 in
theorem w_X9_find_88 {r : Int32} (hC : Cx RX9 cX9_find 6 (some .int) p s m args meth c) (hR : 0 ≤ R.frames ∧ 0 ≤ R.locals) {k60 : Nat → Int32 → Int32 → Option Int32} (hk60 : ∀ (o0 a0 : Nat) (x1 : Int32) (x2 : Int32) (H : Heap) (locs : List Loc) (ls : Array Slot), Is S ad o0 a0 8 → Wd G cA S D ad A s H locs → lv_has ls 6 [(0, .ref a0), (1, .int x1), (2, .int x2)] → k60 o0 x1 x2 = some r → W p l e R s m args below meth c H locs 0 0 (MQ below (Qn (some (.int r)) True (wpost G cA S D ad A) A) args s 0 0 A) (F0 m 60 ls [])) : ∀ (n : Nat), ∀ (o0 a0 : Nat) (x1 : Int32) (x2 : Int32) (x3 : Int32) (x4 : Int32) (x5 : Int32) (H : Heap) (locs : List Loc) (ls : Array Slot), Is S ad o0 a0 8 → Wd G cA S D ad A s H locs → lv_has ls 6 [(0, .ref a0), (1, .int x1), (2, .int x2), (3, .int x3), (4, .int x4), (5, .int x5)] → f_X9_find_88 S D k60 n o0 x1 x2 x3 x4 x5 = some r → W p l e R s m args below meth c H locs 0 0 (MQ below (Qn (some (.int r)) True (wpost G cA S D ad A) A) args s 0 0 A) (F0 m 88 ls []) := by
  obtain ⟨hx, hb, -⟩ := id hC
  intro n
  induction n with
  | zero =>
    intro o0 a0 x1 x2 x3 x4 x5 H locs ls hi0 hw hl h
    rw [f_X9_find_88.eq_1] at h
    cases h
  | succ n ih =>
    intro o0 a0 x1 x2 x3 x4 x5 H locs ls hi0 hw hl h
    rw [f_X9_find_88.eq_2] at h
    refine lv_iload hx hb dX9_find_88 (lv_at hl 5 rfl) ?_
    refine lv_aload_n hx hb dX9_find_90 rfl (lv_at hl 0 rfl) ?_
    obtain ⟨o62, ho65, h⟩ := rq_i h
    refine r_getR hC hw kc_8 hi0 11 rfl lk_1083 dX9_find_91 rfl ho65 (fun a63 hi64 => ?_)
    refine lv_iload_n hx hb dX9_find_94 rfl (lv_at hl 1 rfl) ?_
    obtain ⟨hn66, h⟩ := ix_i h
    refine r_iald hC hw hi64 hn66 dX9_find_95 ?_
    refine lv_icmp_ge (tgt := 139) hx hb dX9_find_96 (by decide) (fun c67 => ?_) (fun c67 => ?_)
    · have h := i_yes c67 h
      exact w_X9_find_139 hC hR hk60 o0 a0 x1 x2 x4 _ _ _ hi0 hw (lv_sub hl [0, 1, 2, 4] rfl) h
    · have h := i_no c67 h
      refine lv_iload hx hb dX9_find_99 (lv_at hl 4 rfl) ?_
      refine lv_if_eq (tgt := 139) hx hb dX9_find_101 (by decide) (fun c68 => ?_) (fun c68 => ?_)
      · have h := i_yes c68 h
        exact w_X9_find_139 hC hR hk60 o0 a0 x1 x2 x4 _ _ _ hi0 hw (lv_sub hl [0, 1, 2, 4] rfl) h
      · have h := i_no c68 h
        refine lv_aload_n hx hb dX9_find_104 rfl (lv_at hl 0 rfl) ?_
        obtain ⟨o69, ho72, h⟩ := rq_i h
        refine r_getR hC hw kc_8 hi0 16 rfl lk_1088 dX9_find_105 rfl ho72 (fun a70 hi71 => ?_)
        refine lv_bipush (v := 8) hx hb dX9_find_108 (by decide) ?_
        refine lv_iload_n hx hb dX9_find_110 rfl (lv_at hl 3 rfl) ?_
        refine lv_imul hx hb dX9_find_111 ?_
        refine lv_iload hx hb dX9_find_112 (lv_at hl 5 rfl) ?_
        refine lv_iadd hx hb dX9_find_114 ?_
        obtain ⟨hn73, h⟩ := ix_i h
        refine r_iald hC hw hi71 hn73 dX9_find_115 ?_
        refine lv_aload_n hx hb dX9_find_116 rfl (lv_at hl 0 rfl) ?_
        obtain ⟨o74, ho77, h⟩ := rq_i h
        refine r_getR hC hw kc_8 hi0 25 rfl lk_1097 dX9_find_117 rfl ho77 (fun a75 hi76 => ?_)
        refine lv_iload hx hb dX9_find_120 (lv_at hl 5 rfl) ?_
        obtain ⟨hn78, h⟩ := ix_i h
        refine r_iald hC hw hi76 hn78 dX9_find_122 ?_
        refine lv_icmp_ne (tgt := 130) hx hb dX9_find_123 (by decide) (fun c79 => ?_) (fun c79 => ?_)
        · have h := i_no c79 h
          refine lv_iconst (v := 0) hx hb dX9_find_130 (by decide) ?_
          exact w_X9_find_131 hC hR hk60 ih o0 a0 x1 x2 x3 x5 (0 : Int32) _ _ _ hi0 hw (lv_sub hl [0, 1, 2, 3, 5] rfl) h
        · have h := i_yes c79 h
          refine lv_iconst (v := 1) hx hb dX9_find_126 (by decide) ?_
          refine lv_goto (tgt := 131) hx hb dX9_find_127 (by decide) ?_
          exact w_X9_find_131 hC hR hk60 ih o0 a0 x1 x2 x3 x5 (1 : Int32) _ _ _ hi0 hw (lv_sub hl [0, 1, 2, 3, 5] rfl) h
set_option maxHeartbeats 4000000 in
set_option maxRecDepth 100000 in
theorem w_X9_find_60 {r : Int32} (hC : Cx RX9 cX9_find 6 (some .int) p s m args meth c) (hR : 0 ≤ R.frames ∧ 0 ≤ R.locals) : ∀ (n : Nat), ∀ (o0 a0 : Nat) (x1 : Int32) (x2 : Int32) (H : Heap) (locs : List Loc) (ls : Array Slot), Is S ad o0 a0 8 → Wd G cA S D ad A s H locs → lv_has ls 6 [(0, .ref a0), (1, .int x1), (2, .int x2)] → f_X9_find_60 S D n o0 x1 x2 = some r → W p l e R s m args below meth c H locs 0 0 (MQ below (Qn (some (.int r)) True (wpost G cA S D ad A) A) args s 0 0 A) (F0 m 60 ls []) := by
  obtain ⟨hx, hb, -⟩ := id hC
  intro n
  induction n with
  | zero =>
    intro o0 a0 x1 x2 H locs ls hi0 hw hl h
    rw [f_X9_find_60.eq_1] at h
    cases h
  | succ n ih =>
    intro o0 a0 x1 x2 H locs ls hi0 hw hl h
    rw [f_X9_find_60.eq_2] at h
    refine lv_iload_n hx hb dX9_find_60 rfl (lv_at hl 2 rfl) ?_
    refine lv_aload_n hx hb dX9_find_61 rfl (lv_at hl 0 rfl) ?_
    obtain ⟨o80, ho83, h⟩ := rq_i h
    refine r_getR hC hw kc_8 hi0 13 rfl lk_1085 dX9_find_62 rfl ho83 (fun a81 hi82 => ?_)
    refine lv_iload_n hx hb dX9_find_65 rfl (lv_at hl 1 rfl) ?_
    obtain ⟨hn84, h⟩ := ix_i h
    refine r_iald hC hw hi82 hn84 dX9_find_66 ?_
    refine lv_icmp_ge (tgt := 152) hx hb dX9_find_67 (by decide) (fun c85 => ?_) (fun c85 => ?_)
    · have h := i_yes c85 h
      refine lv_iconst (v := (-1)) hx hb dX9_find_152 (by decide) ?_
      cases h
      exact r_iret hC hw dX9_find_153
    · have h := i_no c85 h
      refine lv_bipush (v := 32) hx hb dX9_find_70 (by decide) ?_
      refine lv_iload_n hx hb dX9_find_72 rfl (lv_at hl 1 rfl) ?_
      refine lv_imul hx hb dX9_find_73 ?_
      refine lv_iload_n hx hb dX9_find_74 rfl (lv_at hl 2 rfl) ?_
      refine lv_iadd hx hb dX9_find_75 ?_
      refine lv_topi (fun y86 ey86 => ?_)
      have h := nm_i h y86 ey86
      refine lv_istore_n (lv' := [(3, .int y86), (0, .ref a0), (1, .int x1), (2, .int x2)]) hx hb dX9_find_76 rfl hl (by decide) rfl (fun ls hl => ?_)
      refine lv_aload_n hx hb dX9_find_77 rfl (lv_at hl 1 rfl) ?_
      obtain ⟨o87, ho90, h⟩ := rq_i h
      refine r_getR hC hw kc_8 hi0 15 rfl lk_1087 dX9_find_78 rfl ho90 (fun a88 hi89 => ?_)
      refine lv_iload_n hx hb dX9_find_81 rfl (lv_at hl 0 rfl) ?_
      obtain ⟨hn91, h⟩ := ix_i h
      refine r_zald hC hw hi89 hn91 dX9_find_82 ?_
      refine lv_topi (fun y92 ey92 => ?_)
      have h := nm_i h y92 ey92
      refine lv_istore (lv' := [(4, .int y92), (3, .int y86), (0, .ref a0), (1, .int x1), (2, .int x2)]) hx hb dX9_find_83 hl (by decide) rfl (fun ls hl => ?_)
      refine lv_iconst (v := 0) hx hb dX9_find_85 (by decide) ?_
      refine lv_topi (fun y93 ey93 => ?_)
      have h := nm_i h y93 ey93
      refine lv_istore (lv' := [(5, .int y93), (4, .int y92), (3, .int y86), (0, .ref a0), (1, .int x1), (2, .int x2)]) hx hb dX9_find_86 hl (by decide) rfl (fun ls hl => ?_)
      exact w_X9_find_88 hC hR ih LF o0 a0 x1 x2 y86 y92 y93 _ _ _ hi0 hw (lv_sub hl [3, 4, 5, 2, 1, 0] rfl) h
set_option maxHeartbeats 4000000 in
set_option maxRecDepth 100000 in
theorem w_X9_find_14 {r : Int32} (hC : Cx RX9 cX9_find 6 (some .int) p s m args meth c) (hR : 0 ≤ R.frames ∧ 0 ≤ R.locals) : ∀ (n : Nat), ∀ (o0 a0 : Nat) (x1 : Int32) (x2 : Int64) (x4 : Int32) (H : Heap) (locs : List Loc) (ls : Array Slot), Is S ad o0 a0 8 → Wd G cA S D ad A s H locs → lv_has ls 6 [(0, .ref a0), (1, .int x1), (2, .long x2), (4, .int x4)] → f_X9_find_14 S D n o0 x1 x2 x4 = some r → W p l e R s m args below meth c H locs 0 0 (MQ below (Qn (some (.int r)) True (wpost G cA S D ad A) A) args s 0 0 A) (F0 m 14 ls []) := by
  obtain ⟨hx, hb, -⟩ := id hC
  intro n
  induction n with
  | zero =>
    intro o0 a0 x1 x2 x4 H locs ls hi0 hw hl h
    rw [f_X9_find_14.eq_1] at h
    cases h
  | succ n ih =>
    intro o0 a0 x1 x2 x4 H locs ls hi0 hw hl h
    rw [f_X9_find_14.eq_2] at h
    refine lv_iload hx hb dX9_find_14 (lv_at hl 3 rfl) ?_
    refine lv_if_lt (tgt := 39) hx hb dX9_find_16 (by decide) (fun c94 => ?_) (fun c94 => ?_)
    · have h := i_yes c94 h
      refine lv_lload_n hx hb dX9_find_39 rfl (lv_at hl 2 rfl) ?_
      refine lv_aload_n hx hb dX9_find_40 rfl (lv_at hl 0 rfl) ?_
      obtain ⟨o95, ho98, h⟩ := rq_i h
      refine r_getR hC hw kc_8 hi0 13 rfl lk_1085 dX9_find_41 rfl ho98 (fun a96 hi97 => ?_)
      refine lv_iload_n hx hb dX9_find_44 rfl (lv_at hl 1 rfl) ?_
      obtain ⟨hn99, h⟩ := ix_i h
      refine r_iald hC hw hi97 hn99 dX9_find_45 ?_
      refine lv_i2l (v := (gI D o95 x1.toNatClampNeg).toInt64) hx hb dX9_find_46 rfl ?_
      refine W.lcmp hx hb dX9_find_47 ?_
      refine lv_if_ge (tgt := 56) hx hb dX9_find_48 (by decide) (fun c100 => ?_) (fun c100 => ?_)
      · have h := i_yes c100 h
        refine lv_iconst (v := (-1)) hx hb dX9_find_56 (by decide) ?_
        cases h
        exact r_iret hC hw dX9_find_57
      · have h := i_no c100 h
        refine lv_lload_n hx hb dX9_find_51 rfl (lv_at hl 2 rfl) ?_
        refine lv_l2i (v := x2.toInt32) hx hb dX9_find_52 rfl ?_
        refine lv_goto (tgt := 57) hx hb dX9_find_53 (by decide) ?_
        cases h
        exact r_iret hC hw dX9_find_57
    · have h := i_no c94 h
      refine lv_lload_n hx hb dX9_find_19 rfl (lv_at hl 2 rfl) ?_
      refine lv_bipush (v := 8) hx hb dX9_find_20 (by decide) ?_
      refine lv_lshl (v := j_lshl x2 (8 : Int32)) hx hb dX9_find_22 rfl ?_
      refine lv_aload_n hx hb dX9_find_23 rfl (lv_at hl 0 rfl) ?_
      obtain ⟨o101, ho104, h⟩ := rq_i h
      refine r_getR hC hw kc_8 hi0 25 rfl lk_1097 dX9_find_24 rfl ho104 (fun a102 hi103 => ?_)
      refine lv_iload hx hb dX9_find_27 (lv_at hl 3 rfl) ?_
      obtain ⟨hn105, h⟩ := ix_i h
      refine r_iald hC hw hi103 hn105 dX9_find_29 ?_
      refine lv_i2l (v := (gI D o101 x4.toNatClampNeg).toInt64) hx hb dX9_find_30 rfl ?_
      refine lv_lor hx hb dX9_find_31 ?_
      refine lv_topl (fun y106 ey106 => ?_)
      have h := nm_i h y106 ey106
      refine lv_lstore_n (lv' := [(2, .long y106), (0, .ref a0), (1, .int x1), (4, .int x4)]) hx hb dX9_find_32 rfl hl (by decide) rfl (fun ls hl => ?_)
      obtain ⟨y107, ey107⟩ : ∃ z : Int32, z = x4 + (-1) := ⟨_, rfl⟩
      have h := nm_i h y107 ey107
      refine lv_iinc (v := y107) (lv' := [(4, .int y107), (2, .long y106), (0, .ref a0), (1, .int x1)]) hx hb dX9_find_33 hl (k := 3) rfl (by rw [ey107]; rfl) (by decide) rfl (fun ls hl => ?_)
      refine lv_goto (tgt := 14) hx hb dX9_find_36 (by decide) ?_
      exact ih o0 a0 x1 y106 y107 _ _ _ hi0 hw (lv_sub hl [2, 3, 1, 0] rfl) h
set_option maxHeartbeats 4000000 in
set_option maxRecDepth 100000 in
theorem w_X9_find_0 {r : Int32} (hC : Cx RX9 cX9_find 6 (some .int) p s m args meth c) (hR : 0 ≤ R.frames ∧ 0 ≤ R.locals) : ∀ (o0 a0 : Nat) (x1 : Int32) (H : Heap) (locs : List Loc) (ls : Array Slot), Is S ad o0 a0 8 → Wd G cA S D ad A s H locs → lv_has ls 6 [(0, .ref a0), (1, .int x1)] → f_X9_find S D o0 x1 = some r → W p l e R s m args below meth c H locs 0 0 (MQ below (Qn (some (.int r)) True (wpost G cA S D ad A) A) args s 0 0 A) (F0 m 0 ls []) := by
  obtain ⟨hx, hb, -⟩ := id hC
  intro o0 a0 x1 H locs ls hi0 hw hl h
  unfold f_X9_find at h
  refine lv_aload_n hx hb dX9_find_0 rfl (lv_at hl 0 rfl) ?_
  obtain ⟨o108, ho111, h⟩ := rq_i h
  refine r_getR hC hw kc_8 hi0 10 rfl lk_1082 dX9_find_1 rfl ho111 (fun a109 hi110 => ?_)
  refine lv_iload_n hx hb dX9_find_4 rfl (lv_at hl 1 rfl) ?_
  obtain ⟨hn112, h⟩ := ix_i h
  refine r_iald hC hw hi110 hn112 dX9_find_5 ?_
  refine lv_if_ne (tgt := 58) hx hb dX9_find_6 (by decide) (fun c113 => ?_) (fun c113 => ?_)
  · have h := i_no c113 h
    refine lv_iconst (v := 0) hx hb dX9_find_58 (by decide) ?_
    refine lv_topi (fun y114 ey114 => ?_)
    have h := nm_i h y114 ey114
    refine lv_istore_n (lv' := [(2, .int y114), (0, .ref a0), (1, .int x1)]) hx hb dX9_find_59 rfl hl (by decide) rfl (fun ls hl => ?_)
    exact w_X9_find_60 hC hR LF o0 a0 x1 y114 _ _ _ hi0 hw (lv_sub hl [1, 2, 0] rfl) h
  · have h := i_yes c113 h
    refine lv_lconst (v := 0) hx hb dX9_find_9 (by decide) ?_
    refine lv_topl (fun y115 ey115 => ?_)
    have h := nm_i h y115 ey115
    refine lv_lstore_n (lv' := [(2, .long y115), (0, .ref a0), (1, .int x1)]) hx hb dX9_find_10 rfl hl (by decide) rfl (fun ls hl => ?_)
    refine lv_iconst (v := 3) hx hb dX9_find_11 (by decide) ?_
    refine lv_topi (fun y116 ey116 => ?_)
    have h := nm_i h y116 ey116
    refine lv_istore (lv' := [(4, .int y116), (2, .long y115), (0, .ref a0), (1, .int x1)]) hx hb dX9_find_12 hl (by decide) rfl (fun ls hl => ?_)
    exact w_X9_find_14 hC hR LF o0 a0 x1 y115 y116 _ _ _ hi0 hw (lv_sub hl [2, 3, 1, 0] rfl) h
set_option maxHeartbeats 4000000 in
set_option maxRecDepth 100000 in
theorem k_X9_find {l : Launch} {G : va_G} {cA : Nat → ClassId} {S : sh} {D : dt} {ad : Nat → Nat} (sz : Nat) {o0 a0 : Nat} {x1 : Int32} {r : Int32} (hi0 : Is S ad o0 a0 8) (h : f_X9_find S D o0 x1 = some r) : Co l yX9_find (Cond.code yX9_find cX9_find 6 (some .int) :: tb0) 0 0 [.ref a0, .int x1] G cA S D ad sz (some (.int r)) True D := by
  refine Met.ofW (cc := cX9_find) (maxL := 6) (ret := (some .int)) (by decide) rfl ?_
  intro p e s m args below meth c s₁ B hml hv
  obtain ⟨rfl, hsz, hP, hK, hD0, hT, hX⟩ := hv
  subst hsz
  have hts := atoms_spec (ws := Cond.code yX9_find cX9_find 6 (some .int) :: tb0) B.pre
  have hC : Cx RX9 cX9_find 6 (some .int) p s m _ meth c := ⟨B.exec, B.bytes, hml, findClass_of_methodNamed B.named, fun w q => hts w (List.mem_cons_of_mem _ q), B.returns, B.notSynchronized⟩
  have hw := Wd.entry hP hK hD0 hT hX
  have hl := lv_entry ([.ref a0, .int x1]) (n := 6) (Nat.le_of_ble_eq_true rfl)
  rw [lg_entry_eq]
  exact w_X9_find_0 hC ⟨Nat.le_refl _, Nat.le_refl _⟩ o0 a0 x1 _ _ _ hi0 hw hl h
set_option maxHeartbeats 4000000 in
set_option maxRecDepth 100000 in
theorem w_X9_keys_62 {r : Int32} (hC : Cx RX9 cX9_keys 4 (some .int) p s m args meth c) (hR : 1 ≤ R.frames ∧ 25 ≤ R.locals) {k22 : Nat → Int32 → Int32 → Int32 → Option Int32} (hk22 : ∀ (o0 a0 : Nat) (x1 : Int32) (x2 : Int32) (x3 : Int32) (H : Heap) (locs : List Loc) (ls : Array Slot), Is S ad o0 a0 8 → Wd G cA S D ad A s H locs → lv_has ls 4 [(0, .ref a0), (1, .int x1), (2, .int x2), (3, .int x3)] → k22 o0 x1 x2 x3 = some r → W p l e R s m args below meth c H locs 0 0 (MQ below (Qn (some (.int r)) True (wpost G cA S D ad A) A) args s 0 0 A) (F0 m 22 ls [])) : ∀ (o0 a0 : Nat) (x1 : Int32) (x3 : Int32) (xs0 : Int32) (H : Heap) (locs : List Loc) (ls : Array Slot), Is S ad o0 a0 8 → Wd G cA S D ad A s H locs → lv_has ls 4 [(0, .ref a0), (1, .int x1), (3, .int x3)] → f_X9_keys_62 S D k22 o0 x1 x3 xs0 = some r → W p l e R s m args below meth c H locs 0 0 (MQ below (Qn (some (.int r)) True (wpost G cA S D ad A) A) args s 0 0 A) (F0 m 62 ls [.int xs0]) := by
  obtain ⟨hx, hb, -⟩ := id hC
  intro o0 a0 x1 x3 xs0 H locs ls hi0 hw hl h
  unfold f_X9_keys_62 at h
  refine lv_istore_n (lv' := [(2, .int xs0), (0, .ref a0), (1, .int x1), (3, .int x3)]) hx hb dX9_keys_62 rfl hl (by decide) rfl (fun ls hl => ?_)
  obtain ⟨y25, ey25⟩ : ∃ z : Int32, z = x3 + 1 := ⟨_, rfl⟩
  have h := nm_i h y25 ey25
  refine lv_iinc (v := y25) (lv' := [(3, .int y25), (2, .int xs0), (0, .ref a0), (1, .int x1)]) hx hb dX9_keys_63 hl (k := 3) rfl (by rw [ey25]; rfl) (by decide) rfl (fun ls hl => ?_)
  refine lv_goto (tgt := 22) hx hb dX9_keys_66 (by decide) ?_
  exact hk22 o0 a0 x1 xs0 y25 _ _ _ hi0 hw (lv_sub hl [2, 3, 1, 0] rfl) h
set_option maxHeartbeats 4000000 in
set_option maxRecDepth 100000 in
theorem w_X9_keys_55 {r : Int32} (hC : Cx RX9 cX9_keys 4 (some .int) p s m args meth c) (hR : 1 ≤ R.frames ∧ 25 ≤ R.locals) {k22 : Nat → Int32 → Int32 → Int32 → Option Int32} (hk22 : ∀ (o0 a0 : Nat) (x1 : Int32) (x2 : Int32) (x3 : Int32) (H : Heap) (locs : List Loc) (ls : Array Slot), Is S ad o0 a0 8 → Wd G cA S D ad A s H locs → lv_has ls 4 [(0, .ref a0), (1, .int x1), (2, .int x2), (3, .int x3)] → k22 o0 x1 x2 x3 = some r → W p l e R s m args below meth c H locs 0 0 (MQ below (Qn (some (.int r)) True (wpost G cA S D ad A) A) args s 0 0 A) (F0 m 22 ls [])) : ∀ (o0 a0 : Nat) (x1 : Int32) (x2 : Int32) (x3 : Int32) (H : Heap) (locs : List Loc) (ls : Array Slot), Is S ad o0 a0 8 → Wd G cA S D ad A s H locs → lv_has ls 4 [(0, .ref a0), (1, .int x1), (2, .int x2), (3, .int x3)] → f_X9_keys_55 S D k22 o0 x1 x2 x3 = some r → W p l e R s m args below meth c H locs 0 0 (MQ below (Qn (some (.int r)) True (wpost G cA S D ad A) A) args s 0 0 A) (F0 m 55 ls []) := by
  obtain ⟨hx, hb, -⟩ := id hC
  intro o0 a0 x1 x2 x3 H locs ls hi0 hw hl h
  unfold f_X9_keys_55 at h
  refine lv_iload_n hx hb dX9_keys_55 rfl (lv_at hl 2 rfl) ?_
  refine lv_iconst (v := 1) hx hb dX9_keys_56 (by decide) ?_
  refine lv_iadd hx hb dX9_keys_57 ?_
  refine lv_goto (tgt := 62) hx hb dX9_keys_58 (by decide) ?_
  exact w_X9_keys_62 hC hR hk22 o0 a0 x1 x3 (x2 + (1 : Int32)) _ _ _ hi0 hw (lv_sub hl [0, 1, 3] rfl) h
set_option maxHeartbeats 4000000 in
set_option maxRecDepth 100000 in
theorem w_X9_keys_22 {r : Int32} (hC : Cx RX9 cX9_keys 4 (some .int) p s m args meth c) (hR : 1 ≤ R.frames ∧ 25 ≤ R.locals) : ∀ (n : Nat), ∀ (o0 a0 : Nat) (x1 : Int32) (x2 : Int32) (x3 : Int32) (H : Heap) (locs : List Loc) (ls : Array Slot), Is S ad o0 a0 8 → Wd G cA S D ad A s H locs → lv_has ls 4 [(0, .ref a0), (1, .int x1), (2, .int x2), (3, .int x3)] → f_X9_keys_22 S D n o0 x1 x2 x3 = some r → W p l e R s m args below meth c H locs 0 0 (MQ below (Qn (some (.int r)) True (wpost G cA S D ad A) A) args s 0 0 A) (F0 m 22 ls []) := by
  obtain ⟨hx, hb, -⟩ := id hC
  intro n
  induction n with
  | zero =>
    intro o0 a0 x1 x2 x3 H locs ls hi0 hw hl h
    rw [f_X9_keys_22.eq_1] at h
    cases h
  | succ n ih =>
    intro o0 a0 x1 x2 x3 H locs ls hi0 hw hl h
    rw [f_X9_keys_22.eq_2] at h
    refine lv_iload_n hx hb dX9_keys_22 rfl (lv_at hl 3 rfl) ?_
    refine lv_aload_n hx hb dX9_keys_23 rfl (lv_at hl 0 rfl) ?_
    obtain ⟨o26, ho29, h⟩ := rq_i h
    refine r_getR hC hw kc_8 hi0 13 rfl lk_1085 dX9_keys_24 rfl ho29 (fun a27 hi28 => ?_)
    refine lv_iload_n hx hb dX9_keys_27 rfl (lv_at hl 1 rfl) ?_
    obtain ⟨hn30, h⟩ := ix_i h
    refine r_iald hC hw hi28 hn30 dX9_keys_28 ?_
    refine lv_icmp_ge (tgt := 69) hx hb dX9_keys_29 (by decide) (fun c31 => ?_) (fun c31 => ?_)
    · have h := i_yes c31 h
      refine lv_iload_n hx hb dX9_keys_69 rfl (lv_at hl 2 rfl) ?_
      cases h
      exact r_iret hC hw dX9_keys_70
    · have h := i_no c31 h
      refine lv_aload_n hx hb dX9_keys_32 rfl (lv_at hl 0 rfl) ?_
      obtain ⟨o32, ho35, h⟩ := rq_i h
      refine r_getR hC hw kc_8 hi0 10 rfl lk_1082 dX9_keys_33 rfl ho35 (fun a33 hi34 => ?_)
      refine lv_iload_n hx hb dX9_keys_36 rfl (lv_at hl 1 rfl) ?_
      obtain ⟨hn36, h⟩ := ix_i h
      refine r_iald hC hw hi34 hn36 dX9_keys_37 ?_
      refine lv_if_eq (tgt := 55) hx hb dX9_keys_38 (by decide) (fun c37 => ?_) (fun c37 => ?_)
      · have h := i_yes c37 h
        exact w_X9_keys_55 hC hR ih o0 a0 x1 x2 x3 _ _ _ hi0 hw (lv_sub hl [0, 1, 2, 3] rfl) h
      · have h := i_no c37 h
        refine lv_aload_n hx hb dX9_keys_41 rfl (lv_at hl 0 rfl) ?_
        obtain ⟨o38, ho41, h⟩ := rq_i h
        refine r_getR hC hw kc_8 hi0 15 rfl lk_1087 dX9_keys_42 rfl ho41 (fun a39 hi40 => ?_)
        refine lv_bipush (v := 32) hx hb dX9_keys_45 (by decide) ?_
        refine lv_iload_n hx hb dX9_keys_47 rfl (lv_at hl 1 rfl) ?_
        refine lv_imul hx hb dX9_keys_48 ?_
        refine lv_iload_n hx hb dX9_keys_49 rfl (lv_at hl 3 rfl) ?_
        refine lv_iadd hx hb dX9_keys_50 ?_
        obtain ⟨hn42, h⟩ := ix_i h
        refine r_zald hC hw hi40 hn42 dX9_keys_51 ?_
        refine lv_if_eq (tgt := 61) hx hb dX9_keys_52 (by decide) (fun c43 => ?_) (fun c43 => ?_)
        · have h := i_yes c43 h
          refine lv_iload_n hx hb dX9_keys_61 rfl (lv_at hl 2 rfl) ?_
          exact w_X9_keys_62 hC hR ih o0 a0 x1 x3 x2 _ _ _ hi0 hw (lv_sub hl [0, 1, 3] rfl) h
        · have h := i_no c43 h
          exact w_X9_keys_55 hC hR ih o0 a0 x1 x2 x3 _ _ _ hi0 hw (lv_sub hl [0, 1, 2, 3] rfl) h
set_option maxHeartbeats 4000000 in
set_option maxRecDepth 100000 in
theorem w_X9_keys_0 {r : Int32} (hC : Cx RX9 cX9_keys 4 (some .int) p s m args meth c) (hR : 1 ≤ R.frames ∧ 25 ≤ R.locals) : ∀ (o0 a0 : Nat) (x1 : Int32) (H : Heap) (locs : List Loc) (ls : Array Slot), Is S ad o0 a0 8 → Wd G cA S D ad A s H locs → lv_has ls 4 [(0, .ref a0), (1, .int x1)] → f_X9_keys S D o0 x1 = some r → W p l e R s m args below meth c H locs 0 0 (MQ below (Qn (some (.int r)) True (wpost G cA S D ad A) A) args s 0 0 A) (F0 m 0 ls []) := by
  obtain ⟨hx, hb, -⟩ := id hC
  intro o0 a0 x1 H locs ls hi0 hw hl h
  unfold f_X9_keys at h
  refine lv_iload_n hx hb dX9_keys_0 rfl (lv_at hl 1 rfl) ?_
  refine lv_i2l (v := x1.toInt64) hx hb dX9_keys_1 rfl ?_
  refine lv_lconst (v := 0) hx hb dX9_keys_2 (by decide) ?_
  refine lv_aload_n hx hb dX9_keys_3 rfl (lv_at hl 0 rfl) ?_
  refine r_gI hC hw kc_8 hi0 9 rfl lk_1081 dX9_keys_4 ?_
  refine lv_iconst (v := 1) hx hb dX9_keys_7 (by decide) ?_
  refine lv_isub hx hb dX9_keys_8 ?_
  refine lv_i2l (v := ((gI D o0 9) - (1 : Int32)).toInt64) hx hb dX9_keys_9 rfl ?_
  obtain ⟨r45, hq44, h⟩ := pq_i h
  refine r_cS (st' := [.int r45]) [.long x1.toInt64, .long (0 : Int64), .long (((gI D o0 9) - (1 : Int32)).toInt64)] [] hC hw (k_X9_in _ hq44) mk_X9_in lk_1243 ⟨Nat.le_trans (by decide) hR.1, Nat.le_trans (by decide) hR.2⟩ ⟨Nat.zero_le _, Nat.zero_le _⟩ rfl hl.1 rfl rfl (Nat.le_of_ble_eq_true rfl) dX9_keys_10 (fun hP H locs hw => ?_)
  refine lv_if_ne (tgt := 18) hx hb dX9_keys_13 (by decide) (fun c46 => ?_) (fun c46 => ?_)
  · have h := i_no c46 h
    refine lv_iconst (v := 0) hx hb dX9_keys_18 (by decide) ?_
    refine lv_topi (fun y47 ey47 => ?_)
    have h := nm_i h y47 ey47
    refine lv_istore_n (lv' := [(2, .int y47), (0, .ref a0), (1, .int x1)]) hx hb dX9_keys_19 rfl hl (by decide) rfl (fun ls hl => ?_)
    refine lv_iconst (v := 0) hx hb dX9_keys_20 (by decide) ?_
    refine lv_topi (fun y48 ey48 => ?_)
    have h := nm_i h y48 ey48
    refine lv_istore_n (lv' := [(3, .int y48), (2, .int y47), (0, .ref a0), (1, .int x1)]) hx hb dX9_keys_21 rfl hl (by decide) rfl (fun ls hl => ?_)
    exact w_X9_keys_22 hC hR LF o0 a0 x1 y47 y48 _ _ _ hi0 hw (lv_sub hl [2, 3, 1, 0] rfl) h
  · have h := i_yes c46 h
    refine lv_iconst (v := (-1)) hx hb dX9_keys_16 (by decide) ?_
    cases h
    exact r_iret hC hw dX9_keys_17
set_option maxHeartbeats 4000000 in
set_option maxRecDepth 100000 in
theorem k_X9_keys {l : Launch} {G : va_G} {cA : Nat → ClassId} {S : sh} {D : dt} {ad : Nat → Nat} (sz : Nat) {o0 a0 : Nat} {x1 : Int32} {r : Int32} (hi0 : Is S ad o0 a0 8) (h : f_X9_keys S D o0 x1 = some r) : Co l yX9_keys (Cond.code yX9_keys cX9_keys 4 (some .int) :: tb0) 1 25 [.ref a0, .int x1] G cA S D ad sz (some (.int r)) True D := by
  refine Met.ofW (cc := cX9_keys) (maxL := 4) (ret := (some .int)) (by decide) rfl ?_
  intro p e s m args below meth c s₁ B hml hv
  obtain ⟨rfl, hsz, hP, hK, hD0, hT, hX⟩ := hv
  subst hsz
  have hts := atoms_spec (ws := Cond.code yX9_keys cX9_keys 4 (some .int) :: tb0) B.pre
  have hC : Cx RX9 cX9_keys 4 (some .int) p s m _ meth c := ⟨B.exec, B.bytes, hml, findClass_of_methodNamed B.named, fun w q => hts w (List.mem_cons_of_mem _ q), B.returns, B.notSynchronized⟩
  have hw := Wd.entry hP hK hD0 hT hX
  have hl := lv_entry ([.ref a0, .int x1]) (n := 4) (Nat.le_of_ble_eq_true rfl)
  rw [lg_entry_eq]
  exact w_X9_keys_0 hC ⟨Nat.le_refl _, Nat.le_refl _⟩ o0 a0 x1 _ _ _ hi0 hw hl h
end
