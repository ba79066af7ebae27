theorem dX0_init_0 : decode cX0_init 0 = .ok (.aload_n 0, 1) := by decide +kernel
theorem dX0_init_1 : decode cX0_init 1 = .ok (.invokespecial 3, 3) := by decide +kernel
theorem dX0_init_4 : decode cX0_init 4 = .ok (.aload_n 0, 1) := by decide +kernel
theorem dX0_init_5 : decode cX0_init 5 = .ok (.sipush 200, 3) := by decide +kernel
theorem dX0_init_8 : decode cX0_init 8 = .ok (.anewarray 9, 3) := by decide +kernel
theorem dX0_init_11 : decode cX0_init 11 = .ok (.putfield 11, 3) := by decide +kernel
theorem dX0_init_14 : decode cX0_init 14 = .ok (.aload_n 0, 1) := by decide +kernel
theorem dX0_init_15 : decode cX0_init 15 = .ok (.sipush 200, 3) := by decide +kernel
theorem dX0_init_18 : decode cX0_init 18 = .ok (.newarray .boolean, 2) := by decide +kernel
theorem dX0_init_20 : decode cX0_init 20 = .ok (.putfield 17, 3) := by decide +kernel
theorem dX0_init_23 : decode cX0_init 23 = .ok (.aload_n 0, 1) := by decide +kernel
theorem dX0_init_24 : decode cX0_init 24 = .ok (.new 9, 3) := by decide +kernel
theorem dX0_init_27 : decode cX0_init 27 = .ok (.dup, 1) := by decide +kernel
theorem dX0_init_28 : decode cX0_init 28 = .ok (.invokespecial 21, 3) := by decide +kernel
theorem dX0_init_31 : decode cX0_init 31 = .ok (.putfield 22, 3) := by decide +kernel
theorem dX0_init_34 : decode cX0_init 34 = .ok (.aload_n 0, 1) := by decide +kernel
theorem dX0_init_35 : decode cX0_init 35 = .ok (.new 9, 3) := by decide +kernel
theorem dX0_init_38 : decode cX0_init 38 = .ok (.dup, 1) := by decide +kernel
theorem dX0_init_39 : decode cX0_init 39 = .ok (.invokespecial 21, 3) := by decide +kernel
theorem dX0_init_42 : decode cX0_init 42 = .ok (.putfield 26, 3) := by decide +kernel
theorem dX0_init_45 : decode cX0_init 45 = .ok (.aload_n 0, 1) := by decide +kernel
theorem dX0_init_46 : decode cX0_init 46 = .ok (.new 29, 3) := by decide +kernel
theorem dX0_init_49 : decode cX0_init 49 = .ok (.dup, 1) := by decide +kernel
theorem dX0_init_50 : decode cX0_init 50 = .ok (.invokespecial 31, 3) := by decide +kernel
theorem dX0_init_53 : decode cX0_init 53 = .ok (.putfield 32, 3) := by decide +kernel
theorem dX0_init_56 : decode cX0_init 56 = .ok (.aload_n 0, 1) := by decide +kernel
theorem dX0_init_57 : decode cX0_init 57 = .ok (.iconst (-1), 1) := by decide +kernel
theorem dX0_init_58 : decode cX0_init 58 = .ok (.putfield 36, 3) := by decide +kernel
theorem dX0_init_61 : decode cX0_init 61 = .ok (.aload_n 0, 1) := by decide +kernel
theorem dX0_init_62 : decode cX0_init 62 = .ok (.aload_n 1, 1) := by decide +kernel
theorem dX0_init_63 : decode cX0_init 63 = .ok (.putfield 40, 3) := by decide +kernel
theorem dX0_init_66 : decode cX0_init 66 = .ok (.aload_n 0, 1) := by decide +kernel
theorem dX0_init_67 : decode cX0_init 67 = .ok (.aload_n 2, 1) := by decide +kernel
theorem dX0_init_68 : decode cX0_init 68 = .ok (.putfield 44, 3) := by decide +kernel
theorem dX0_init_71 : decode cX0_init 71 = .ok (.return_, 1) := by decide +kernel
theorem dX0_forgetScenes_0 : decode cX0_forgetScenes 0 = .ok (.aload_n 0, 1) := by decide +kernel
theorem dX0_forgetScenes_1 : decode cX0_forgetScenes 1 = .ok (.iconst (-1), 1) := by decide +kernel
theorem dX0_forgetScenes_2 : decode cX0_forgetScenes 2 = .ok (.putfield 36, 3) := by decide +kernel
theorem dX0_forgetScenes_5 : decode cX0_forgetScenes 5 = .ok (.iconst 0, 1) := by decide +kernel
theorem dX0_forgetScenes_6 : decode cX0_forgetScenes 6 = .ok (.istore_n 1, 1) := by decide +kernel
theorem dX0_forgetScenes_7 : decode cX0_forgetScenes 7 = .ok (.iload_n 1, 1) := by decide +kernel
theorem dX0_forgetScenes_8 : decode cX0_forgetScenes 8 = .ok (.sipush 200, 3) := by decide +kernel
theorem dX0_forgetScenes_11 : decode cX0_forgetScenes 11 = .ok (.if_icmp .ge 28, 3) := by decide +kernel
theorem dX0_forgetScenes_14 : decode cX0_forgetScenes 14 = .ok (.aload_n 0, 1) := by decide +kernel
theorem dX0_forgetScenes_15 : decode cX0_forgetScenes 15 = .ok (.getfield 11, 3) := by decide +kernel
theorem dX0_forgetScenes_18 : decode cX0_forgetScenes 18 = .ok (.iload_n 1, 1) := by decide +kernel
theorem dX0_forgetScenes_19 : decode cX0_forgetScenes 19 = .ok (.aaload, 1) := by decide +kernel
theorem dX0_forgetScenes_20 : decode cX0_forgetScenes 20 = .ok (.ifnull 13, 3) := by decide +kernel
theorem dX0_forgetScenes_23 : decode cX0_forgetScenes 23 = .ok (.aload_n 0, 1) := by decide +kernel
theorem dX0_forgetScenes_24 : decode cX0_forgetScenes 24 = .ok (.getfield 11, 3) := by decide +kernel
theorem dX0_forgetScenes_27 : decode cX0_forgetScenes 27 = .ok (.iload_n 1, 1) := by decide +kernel
theorem dX0_forgetScenes_28 : decode cX0_forgetScenes 28 = .ok (.aaload, 1) := by decide +kernel
theorem dX0_forgetScenes_29 : decode cX0_forgetScenes 29 = .ok (.iconst 0, 1) := by decide +kernel
theorem dX0_forgetScenes_30 : decode cX0_forgetScenes 30 = .ok (.putfield 48, 3) := by decide +kernel
theorem dX0_forgetScenes_33 : decode cX0_forgetScenes 33 = .ok (.iinc 1 1, 3) := by decide +kernel
theorem dX0_forgetScenes_36 : decode cX0_forgetScenes 36 = .ok (.goto (-29), 3) := by decide +kernel
theorem dX0_forgetScenes_39 : decode cX0_forgetScenes 39 = .ok (.return_, 1) := by decide +kernel
theorem dX0_markSeconds_0 : decode cX0_markSeconds 0 = .ok (.iconst 0, 1) := by decide +kernel
theorem dX0_markSeconds_1 : decode cX0_markSeconds 1 = .ok (.istore_n 1, 1) := by decide +kernel
theorem dX0_markSeconds_2 : decode cX0_markSeconds 2 = .ok (.iconst 0, 1) := by decide +kernel
theorem dX0_markSeconds_3 : decode cX0_markSeconds 3 = .ok (.istore_n 2, 1) := by decide +kernel
theorem dX0_markSeconds_4 : decode cX0_markSeconds 4 = .ok (.iload_n 2, 1) := by decide +kernel
theorem dX0_markSeconds_5 : decode cX0_markSeconds 5 = .ok (.aload_n 0, 1) := by decide +kernel
theorem dX0_markSeconds_6 : decode cX0_markSeconds 6 = .ok (.getfield 40, 3) := by decide +kernel
theorem dX0_markSeconds_9 : decode cX0_markSeconds 9 = .ok (.getfield 55, 3) := by decide +kernel
theorem dX0_markSeconds_12 : decode cX0_markSeconds 12 = .ok (.if_icmp .ge 40, 3) := by decide +kernel
theorem dX0_markSeconds_15 : decode cX0_markSeconds 15 = .ok (.aload_n 0, 1) := by decide +kernel
theorem dX0_markSeconds_16 : decode cX0_markSeconds 16 = .ok (.getfield 17, 3) := by decide +kernel
theorem dX0_markSeconds_19 : decode cX0_markSeconds 19 = .ok (.iload_n 2, 1) := by decide +kernel
theorem dX0_markSeconds_20 : decode cX0_markSeconds 20 = .ok (.iload_n 1, 1) := by decide +kernel
theorem dX0_markSeconds_21 : decode cX0_markSeconds 21 = .ok (.bastore, 1) := by decide +kernel
theorem dX0_markSeconds_22 : decode cX0_markSeconds 22 = .ok (.iload_n 1, 1) := by decide +kernel
theorem dX0_markSeconds_23 : decode cX0_markSeconds 23 = .ok (.ifCond .ne 21, 3) := by decide +kernel
theorem dX0_markSeconds_26 : decode cX0_markSeconds 26 = .ok (.aload_n 0, 1) := by decide +kernel
theorem dX0_markSeconds_27 : decode cX0_markSeconds 27 = .ok (.getfield 40, 3) := by decide +kernel
theorem dX0_markSeconds_30 : decode cX0_markSeconds 30 = .ok (.getfield 82, 3) := by decide +kernel
theorem dX0_markSeconds_33 : decode cX0_markSeconds 33 = .ok (.iload_n 2, 1) := by decide +kernel
theorem dX0_markSeconds_34 : decode cX0_markSeconds 34 = .ok (.iaload, 1) := by decide +kernel
theorem dX0_markSeconds_35 : decode cX0_markSeconds 35 = .ok (.bipush 24, 2) := by decide +kernel
theorem dX0_markSeconds_37 : decode cX0_markSeconds 37 = .ok (.if_icmp .ne 7, 3) := by decide +kernel
theorem dX0_markSeconds_40 : decode cX0_markSeconds 40 = .ok (.iconst 1, 1) := by decide +kernel
theorem dX0_markSeconds_41 : decode cX0_markSeconds 41 = .ok (.goto 4, 3) := by decide +kernel
theorem dX0_markSeconds_44 : decode cX0_markSeconds 44 = .ok (.iconst 0, 1) := by decide +kernel
theorem dX0_markSeconds_45 : decode cX0_markSeconds 45 = .ok (.istore_n 1, 1) := by decide +kernel
theorem dX0_markSeconds_46 : decode cX0_markSeconds 46 = .ok (.iinc 2 1, 3) := by decide +kernel
theorem dX0_markSeconds_49 : decode cX0_markSeconds 49 = .ok (.goto (-45), 3) := by decide +kernel
theorem dX0_markSeconds_52 : decode cX0_markSeconds 52 = .ok (.return_, 1) := by decide +kernel
theorem dX0_sceneAt_0 : decode cX0_sceneAt 0 = .ok (.iload_n 1, 1) := by decide +kernel
theorem dX0_sceneAt_1 : decode cX0_sceneAt 1 = .ok (.ifCond .lt 10, 3) := by decide +kernel
theorem dX0_sceneAt_4 : decode cX0_sceneAt 4 = .ok (.iload_n 1, 1) := by decide +kernel
theorem dX0_sceneAt_5 : decode cX0_sceneAt 5 = .ok (.sipush 200, 3) := by decide +kernel
theorem dX0_sceneAt_8 : decode cX0_sceneAt 8 = .ok (.if_icmp .lt 5, 3) := by decide +kernel
theorem dX0_sceneAt_11 : decode cX0_sceneAt 11 = .ok (.aconst_null, 1) := by decide +kernel
theorem dX0_sceneAt_12 : decode cX0_sceneAt 12 = .ok (.areturn, 1) := by decide +kernel
theorem dX0_sceneAt_13 : decode cX0_sceneAt 13 = .ok (.aload_n 0, 1) := by decide +kernel
theorem dX0_sceneAt_14 : decode cX0_sceneAt 14 = .ok (.getfield 11, 3) := by decide +kernel
theorem dX0_sceneAt_17 : decode cX0_sceneAt 17 = .ok (.iload_n 1, 1) := by decide +kernel
theorem dX0_sceneAt_18 : decode cX0_sceneAt 18 = .ok (.aaload, 1) := by decide +kernel
theorem dX0_sceneAt_19 : decode cX0_sceneAt 19 = .ok (.astore_n 2, 1) := by decide +kernel
theorem dX0_sceneAt_20 : decode cX0_sceneAt 20 = .ok (.aload_n 2, 1) := by decide +kernel
theorem dX0_sceneAt_21 : decode cX0_sceneAt 21 = .ok (.ifnull 10, 3) := by decide +kernel
theorem dX0_sceneAt_24 : decode cX0_sceneAt 24 = .ok (.aload_n 2, 1) := by decide +kernel
theorem dX0_sceneAt_25 : decode cX0_sceneAt 25 = .ok (.getfield 48, 3) := by decide +kernel
theorem dX0_sceneAt_28 : decode cX0_sceneAt 28 = .ok (.ifCond .ne 7, 3) := by decide +kernel
theorem dX0_sceneAt_31 : decode cX0_sceneAt 31 = .ok (.aconst_null, 1) := by decide +kernel
theorem dX0_sceneAt_32 : decode cX0_sceneAt 32 = .ok (.goto 4, 3) := by decide +kernel
theorem dX0_sceneAt_35 : decode cX0_sceneAt 35 = .ok (.aload_n 2, 1) := by decide +kernel
theorem dX0_sceneAt_36 : decode cX0_sceneAt 36 = .ok (.areturn, 1) := by decide +kernel
theorem dX0_judgePair_0 : decode cX0_judgePair 0 = .ok (.aload_n 0, 1) := by decide +kernel
theorem dX0_judgePair_1 : decode cX0_judgePair 1 = .ok (.getfield 40, 3) := by decide +kernel
theorem dX0_judgePair_4 : decode cX0_judgePair 4 = .ok (.getfield 122, 3) := by decide +kernel
theorem dX0_judgePair_7 : decode cX0_judgePair 7 = .ok (.iload_n 1, 1) := by decide +kernel
theorem dX0_judgePair_8 : decode cX0_judgePair 8 = .ok (.iaload, 1) := by decide +kernel
theorem dX0_judgePair_9 : decode cX0_judgePair 9 = .ok (.istore_n 2, 1) := by decide +kernel
theorem dX0_judgePair_10 : decode cX0_judgePair 10 = .ok (.aload_n 0, 1) := by decide +kernel
theorem dX0_judgePair_11 : decode cX0_judgePair 11 = .ok (.getfield 40, 3) := by decide +kernel
theorem dX0_judgePair_14 : decode cX0_judgePair 14 = .ok (.getfield 146, 3) := by decide +kernel
theorem dX0_judgePair_17 : decode cX0_judgePair 17 = .ok (.iload_n 1, 1) := by decide +kernel
theorem dX0_judgePair_18 : decode cX0_judgePair 18 = .ok (.iaload, 1) := by decide +kernel
theorem dX0_judgePair_19 : decode cX0_judgePair 19 = .ok (.iconst 1, 1) := by decide +kernel
theorem dX0_judgePair_20 : decode cX0_judgePair 20 = .ok (.if_icmp .ne 7, 3) := by decide +kernel
theorem dX0_judgePair_23 : decode cX0_judgePair 23 = .ok (.iconst 1, 1) := by decide +kernel
theorem dX0_judgePair_24 : decode cX0_judgePair 24 = .ok (.goto 4, 3) := by decide +kernel
theorem dX0_judgePair_27 : decode cX0_judgePair 27 = .ok (.iconst 0, 1) := by decide +kernel
theorem dX0_judgePair_28 : decode cX0_judgePair 28 = .ok (.istore_n 3, 1) := by decide +kernel
theorem dX0_judgePair_29 : decode cX0_judgePair 29 = .ok (.iload_n 3, 1) := by decide +kernel
theorem dX0_judgePair_30 : decode cX0_judgePair 30 = .ok (.ifCond .eq 16, 3) := by decide +kernel
theorem dX0_judgePair_33 : decode cX0_judgePair 33 = .ok (.aload_n 0, 1) := by decide +kernel
theorem dX0_judgePair_34 : decode cX0_judgePair 34 = .ok (.getfield 44, 3) := by decide +kernel
theorem dX0_judgePair_37 : decode cX0_judgePair 37 = .ok (.iload_n 2, 1) := by decide +kernel
theorem dX0_judgePair_38 : decode cX0_judgePair 38 = .ok (.invokevirtual 149, 3) := by decide +kernel
theorem dX0_judgePair_41 : decode cX0_judgePair 41 = .ok (.ifnonnull 5, 3) := by decide +kernel
theorem dX0_judgePair_44 : decode cX0_judgePair 44 = .ok (.iconst 4, 1) := by decide +kernel
theorem dX0_judgePair_45 : decode cX0_judgePair 45 = .ok (.ireturn, 1) := by decide +kernel
theorem dX0_judgePair_46 : decode cX0_judgePair 46 = .ok (.aload_n 0, 1) := by decide +kernel
theorem dX0_judgePair_47 : decode cX0_judgePair 47 = .ok (.getfield 40, 3) := by decide +kernel
theorem dX0_judgePair_50 : decode cX0_judgePair 50 = .ok (.iload_n 1, 1) := by decide +kernel
theorem dX0_judgePair_51 : decode cX0_judgePair 51 = .ok (.iconst 1, 1) := by decide +kernel
theorem dX0_judgePair_52 : decode cX0_judgePair 52 = .ok (.iadd, 1) := by decide +kernel
theorem dX0_judgePair_53 : decode cX0_judgePair 53 = .ok (.invokevirtual 155, 3) := by decide +kernel
theorem dX0_judgePair_56 : decode cX0_judgePair 56 = .ok (.ifCond .ne 6, 3) := by decide +kernel
theorem dX0_judgePair_59 : decode cX0_judgePair 59 = .ok (.bipush 6, 2) := by decide +kernel
theorem dX0_judgePair_61 : decode cX0_judgePair 61 = .ok (.ireturn, 1) := by decide +kernel
theorem dX0_judgePair_62 : decode cX0_judgePair 62 = .ok (.iload_n 3, 1) := by decide +kernel
theorem dX0_judgePair_63 : decode cX0_judgePair 63 = .ok (.ifCond .eq 30, 3) := by decide +kernel
theorem dX0_judgePair_66 : decode cX0_judgePair 66 = .ok (.aload_n 0, 1) := by decide +kernel
theorem dX0_judgePair_67 : decode cX0_judgePair 67 = .ok (.getfield 22, 3) := by decide +kernel
theorem dX0_judgePair_70 : decode cX0_judgePair 70 = .ok (.aload_n 0, 1) := by decide +kernel
theorem dX0_judgePair_71 : decode cX0_judgePair 71 = .ok (.getfield 40, 3) := by decide +kernel
theorem dX0_judgePair_74 : decode cX0_judgePair 74 = .ok (.getfield 158, 3) := by decide +kernel
theorem dX0_judgePair_77 : decode cX0_judgePair 77 = .ok (.iload_n 1, 1) := by decide +kernel
theorem dX0_judgePair_78 : decode cX0_judgePair 78 = .ok (.iaload, 1) := by decide +kernel
theorem dX0_judgePair_79 : decode cX0_judgePair 79 = .ok (.iconst 4, 1) := by decide +kernel
theorem dX0_judgePair_80 : decode cX0_judgePair 80 = .ok (.iload_n 2, 1) := by decide +kernel
theorem dX0_judgePair_81 : decode cX0_judgePair 81 = .ok (.iconst 0, 1) := by decide +kernel
theorem dX0_judgePair_82 : decode cX0_judgePair 82 = .ok (.invokestatic 161, 3) := by decide +kernel
theorem dX0_judgePair_85 : decode cX0_judgePair 85 = .ok (.lconst 0, 1) := by decide +kernel
theorem dX0_judgePair_86 : decode cX0_judgePair 86 = .ok (.lconst 0, 1) := by decide +kernel
theorem dX0_judgePair_87 : decode cX0_judgePair 87 = .ok (.invokevirtual 165, 3) := by decide +kernel
theorem dX0_judgePair_90 : decode cX0_judgePair 90 = .ok (.goto 48, 3) := by decide +kernel
theorem dX0_judgePair_93 : decode cX0_judgePair 93 = .ok (.aload_n 0, 1) := by decide +kernel
theorem dX0_judgePair_94 : decode cX0_judgePair 94 = .ok (.getfield 40, 3) := by decide +kernel
theorem dX0_judgePair_97 : decode cX0_judgePair 97 = .ok (.getfield 122, 3) := by decide +kernel
theorem dX0_judgePair_100 : decode cX0_judgePair 100 = .ok (.iload_n 1, 1) := by decide +kernel
theorem dX0_judgePair_101 : decode cX0_judgePair 101 = .ok (.iconst 1, 1) := by decide +kernel
theorem dX0_judgePair_102 : decode cX0_judgePair 102 = .ok (.iadd, 1) := by decide +kernel
theorem dX0_judgePair_103 : decode cX0_judgePair 103 = .ok (.iaload, 1) := by decide +kernel
theorem dX0_judgePair_104 : decode cX0_judgePair 104 = .ok (.i2l, 1) := by decide +kernel
theorem dX0_judgePair_105 : decode cX0_judgePair 105 = .ok (.bipush 32, 2) := by decide +kernel
theorem dX0_judgePair_107 : decode cX0_judgePair 107 = .ok (.lshl, 1) := by decide +kernel
theorem dX0_judgePair_108 : decode cX0_judgePair 108 = .ok (.iload_n 2, 1) := by decide +kernel
theorem dX0_judgePair_109 : decode cX0_judgePair 109 = .ok (.i2l, 1) := by decide +kernel
theorem dX0_judgePair_110 : decode cX0_judgePair 110 = .ok (.ldc2_w 169, 3) := by decide +kernel
theorem dX0_judgePair_113 : decode cX0_judgePair 113 = .ok (.land, 1) := by decide +kernel
theorem dX0_judgePair_114 : decode cX0_judgePair 114 = .ok (.lor, 1) := by decide +kernel
theorem dX0_judgePair_115 : decode cX0_judgePair 115 = .ok (.lstore 4, 2) := by decide +kernel
theorem dX0_judgePair_117 : decode cX0_judgePair 117 = .ok (.aload_n 0, 1) := by decide +kernel
theorem dX0_judgePair_118 : decode cX0_judgePair 118 = .ok (.getfield 22, 3) := by decide +kernel
theorem dX0_judgePair_121 : decode cX0_judgePair 121 = .ok (.aload_n 0, 1) := by decide +kernel
theorem dX0_judgePair_122 : decode cX0_judgePair 122 = .ok (.getfield 40, 3) := by decide +kernel
theorem dX0_judgePair_125 : decode cX0_judgePair 125 = .ok (.getfield 158, 3) := by decide +kernel
theorem dX0_judgePair_128 : decode cX0_judgePair 128 = .ok (.iload_n 1, 1) := by decide +kernel
theorem dX0_judgePair_129 : decode cX0_judgePair 129 = .ok (.iaload, 1) := by decide +kernel
theorem dX0_judgePair_130 : decode cX0_judgePair 130 = .ok (.iconst 1, 1) := by decide +kernel
theorem dX0_judgePair_131 : decode cX0_judgePair 131 = .ok (.lload 4, 2) := by decide +kernel
theorem dX0_judgePair_133 : decode cX0_judgePair 133 = .ok (.lload 4, 2) := by decide +kernel
theorem dX0_judgePair_135 : decode cX0_judgePair 135 = .ok (.invokevirtual 165, 3) := by decide +kernel
theorem dX0_judgePair_138 : decode cX0_judgePair 138 = .ok (.aload_n 0, 1) := by decide +kernel
theorem dX0_judgePair_139 : decode cX0_judgePair 139 = .ok (.iload_n 1, 1) := by decide +kernel
theorem dX0_judgePair_140 : decode cX0_judgePair 140 = .ok (.iconst 2, 1) := by decide +kernel
theorem dX0_judgePair_141 : decode cX0_judgePair 141 = .ok (.iadd, 1) := by decide +kernel
theorem dX0_judgePair_142 : decode cX0_judgePair 142 = .ok (.i2l, 1) := by decide +kernel
theorem dX0_judgePair_143 : decode cX0_judgePair 143 = .ok (.putfield 93, 3) := by decide +kernel
theorem dX0_judgePair_146 : decode cX0_judgePair 146 = .ok (.iconst 0, 1) := by decide +kernel
theorem dX0_judgePair_147 : decode cX0_judgePair 147 = .ok (.ireturn, 1) := by decide +kernel
theorem dX0_canBeReached_0 : decode cX0_canBeReached 0 = .ok (.aload_n 0, 1) := by decide +kernel
theorem dX0_canBeReached_1 : decode cX0_canBeReached 1 = .ok (.getfield 22, 3) := by decide +kernel
theorem dX0_canBeReached_4 : decode cX0_canBeReached 4 = .ok (.iload_n 1, 1) := by decide +kernel
theorem dX0_canBeReached_5 : decode cX0_canBeReached 5 = .ok (.invokevirtual 171, 3) := by decide +kernel
theorem dX0_canBeReached_8 : decode cX0_canBeReached 8 = .ok (.istore_n 2, 1) := by decide +kernel
theorem dX0_canBeReached_9 : decode cX0_canBeReached 9 = .ok (.iload_n 2, 1) := by decide +kernel
theorem dX0_canBeReached_10 : decode cX0_canBeReached 10 = .ok (.iconst 2, 1) := by decide +kernel
theorem dX0_canBeReached_11 : decode cX0_canBeReached 11 = .ok (.if_icmp .eq 13, 3) := by decide +kernel
theorem dX0_canBeReached_14 : decode cX0_canBeReached 14 = .ok (.iload_n 2, 1) := by decide +kernel
theorem dX0_canBeReached_15 : decode cX0_canBeReached 15 = .ok (.iconst 3, 1) := by decide +kernel
theorem dX0_canBeReached_16 : decode cX0_canBeReached 16 = .ok (.if_icmp .eq 8, 3) := by decide +kernel
theorem dX0_canBeReached_19 : decode cX0_canBeReached 19 = .ok (.iload_n 2, 1) := by decide +kernel
theorem dX0_canBeReached_20 : decode cX0_canBeReached 20 = .ok (.iconst 5, 1) := by decide +kernel
theorem dX0_canBeReached_21 : decode cX0_canBeReached 21 = .ok (.if_icmp .ne 7, 3) := by decide +kernel
theorem dX0_canBeReached_24 : decode cX0_canBeReached 24 = .ok (.iconst 1, 1) := by decide +kernel
theorem dX0_canBeReached_25 : decode cX0_canBeReached 25 = .ok (.goto 4, 3) := by decide +kernel
theorem dX0_canBeReached_28 : decode cX0_canBeReached 28 = .ok (.iconst 0, 1) := by decide +kernel
theorem dX0_canBeReached_29 : decode cX0_canBeReached 29 = .ok (.ireturn, 1) := by decide +kernel
theorem dX0_isThere_0 : decode cX0_isThere 0 = .ok (.aload_n 0, 1) := by decide +kernel
theorem dX0_isThere_1 : decode cX0_isThere 1 = .ok (.getfield 22, 3) := by decide +kernel
theorem dX0_isThere_4 : decode cX0_isThere 4 = .ok (.getfield 174, 3) := by decide +kernel
theorem dX0_isThere_7 : decode cX0_isThere 7 = .ok (.iload_n 1, 1) := by decide +kernel
theorem dX0_isThere_8 : decode cX0_isThere 8 = .ok (.laload, 1) := by decide +kernel
theorem dX0_isThere_9 : decode cX0_isThere 9 = .ok (.iload_n 2, 1) := by decide +kernel
theorem dX0_isThere_10 : decode cX0_isThere 10 = .ok (.i2l, 1) := by decide +kernel
theorem dX0_isThere_11 : decode cX0_isThere 11 = .ok (.ladd, 1) := by decide +kernel
theorem dX0_isThere_12 : decode cX0_isThere 12 = .ok (.lstore 5, 2) := by decide +kernel
theorem dX0_isThere_14 : decode cX0_isThere 14 = .ok (.aload_n 0, 1) := by decide +kernel
theorem dX0_isThere_15 : decode cX0_isThere 15 = .ok (.getfield 22, 3) := by decide +kernel
theorem dX0_isThere_18 : decode cX0_isThere 18 = .ok (.getfield 178, 3) := by decide +kernel
theorem dX0_isThere_21 : decode cX0_isThere 21 = .ok (.iload_n 1, 1) := by decide +kernel
theorem dX0_isThere_22 : decode cX0_isThere 22 = .ok (.laload, 1) := by decide +kernel
theorem dX0_isThere_23 : decode cX0_isThere 23 = .ok (.iload_n 2, 1) := by decide +kernel
theorem dX0_isThere_24 : decode cX0_isThere 24 = .ok (.i2l, 1) := by decide +kernel
theorem dX0_isThere_25 : decode cX0_isThere 25 = .ok (.ladd, 1) := by decide +kernel
theorem dX0_isThere_26 : decode cX0_isThere 26 = .ok (.iload_n 3, 1) := by decide +kernel
theorem dX0_isThere_27 : decode cX0_isThere 27 = .ok (.i2l, 1) := by decide +kernel
theorem dX0_isThere_28 : decode cX0_isThere 28 = .ok (.ladd, 1) := by decide +kernel
theorem dX0_isThere_29 : decode cX0_isThere 29 = .ok (.lstore 7, 2) := by decide +kernel
theorem dX0_isThere_31 : decode cX0_isThere 31 = .ok (.aload_n 0, 1) := by decide +kernel
theorem dX0_isThere_32 : decode cX0_isThere 32 = .ok (.getfield 22, 3) := by decide +kernel
theorem dX0_isThere_35 : decode cX0_isThere 35 = .ok (.iload_n 1, 1) := by decide +kernel
theorem dX0_isThere_36 : decode cX0_isThere 36 = .ok (.invokevirtual 171, 3) := by decide +kernel
theorem dX0_isThere_39 : decode cX0_isThere 39 = .ok (.lookupswitch 79 #[(2, 25), (3, 57)], 25) := by decide +kernel
theorem dX0_isThere_64 : decode cX0_isThere 64 = .ok (.iload 4, 2) := by decide +kernel
theorem dX0_isThere_66 : decode cX0_isThere 66 = .ok (.ifCond .ne 28, 3) := by decide +kernel
theorem dX0_isThere_69 : decode cX0_isThere 69 = .ok (.lload 5, 2) := by decide +kernel
theorem dX0_isThere_71 : decode cX0_isThere 71 = .ok (.lconst 0, 1) := by decide +kernel
theorem dX0_isThere_72 : decode cX0_isThere 72 = .ok (.lcmp, 1) := by decide +kernel
theorem dX0_isThere_73 : decode cX0_isThere 73 = .ok (.ifCond .lt 21, 3) := by decide +kernel
theorem dX0_isThere_76 : decode cX0_isThere 76 = .ok (.lload 7, 2) := by decide +kernel
theorem dX0_isThere_78 : decode cX0_isThere 78 = .ok (.aload_n 0, 1) := by decide +kernel
theorem dX0_isThere_79 : decode cX0_isThere 79 = .ok (.getfield 44, 3) := by decide +kernel
theorem dX0_isThere_82 : decode cX0_isThere 82 = .ok (.getfield 181, 3) := by decide +kernel
theorem dX0_isThere_85 : decode cX0_isThere 85 = .ok (.i2l, 1) := by decide +kernel
theorem dX0_isThere_86 : decode cX0_isThere 86 = .ok (.lcmp, 1) := by decide +kernel
theorem dX0_isThere_87 : decode cX0_isThere 87 = .ok (.ifCond .gt 7, 3) := by decide +kernel
theorem dX0_isThere_90 : decode cX0_isThere 90 = .ok (.iconst 1, 1) := by decide +kernel
theorem dX0_isThere_91 : decode cX0_isThere 91 = .ok (.goto 4, 3) := by decide +kernel
theorem dX0_isThere_94 : decode cX0_isThere 94 = .ok (.iconst 0, 1) := by decide +kernel
theorem dX0_isThere_95 : decode cX0_isThere 95 = .ok (.ireturn, 1) := by decide +kernel
theorem dX0_isThere_96 : decode cX0_isThere 96 = .ok (.lload 5, 2) := by decide +kernel
theorem dX0_isThere_98 : decode cX0_isThere 98 = .ok (.ldc2_w 184, 3) := by decide +kernel
theorem dX0_isThere_101 : decode cX0_isThere 101 = .ok (.lcmp, 1) := by decide +kernel
theorem dX0_isThere_102 : decode cX0_isThere 102 = .ok (.ifCond .lt 14, 3) := by decide +kernel
theorem dX0_isThere_105 : decode cX0_isThere 105 = .ok (.lload 7, 2) := by decide +kernel
theorem dX0_isThere_107 : decode cX0_isThere 107 = .ok (.lconst 0, 1) := by decide +kernel
theorem dX0_isThere_108 : decode cX0_isThere 108 = .ok (.lcmp, 1) := by decide +kernel
theorem dX0_isThere_109 : decode cX0_isThere 109 = .ok (.ifCond .gt 7, 3) := by decide +kernel
theorem dX0_isThere_112 : decode cX0_isThere 112 = .ok (.iconst 1, 1) := by decide +kernel
theorem dX0_isThere_113 : decode cX0_isThere 113 = .ok (.goto 4, 3) := by decide +kernel
theorem dX0_isThere_116 : decode cX0_isThere 116 = .ok (.iconst 0, 1) := by decide +kernel
theorem dX0_isThere_117 : decode cX0_isThere 117 = .ok (.ireturn, 1) := by decide +kernel
theorem dX0_isThere_118 : decode cX0_isThere 118 = .ok (.aload_n 0, 1) := by decide +kernel
theorem dX0_isThere_119 : decode cX0_isThere 119 = .ok (.getfield 44, 3) := by decide +kernel
theorem dX0_isThere_122 : decode cX0_isThere 122 = .ok (.aload_n 0, 1) := by decide +kernel
theorem dX0_isThere_123 : decode cX0_isThere 123 = .ok (.getfield 22, 3) := by decide +kernel
theorem dX0_isThere_126 : decode cX0_isThere 126 = .ok (.iload_n 1, 1) := by decide +kernel
theorem dX0_isThere_127 : decode cX0_isThere 127 = .ok (.invokevirtual 186, 3) := by decide +kernel
theorem dX0_isThere_130 : decode cX0_isThere 130 = .ok (.invokevirtual 149, 3) := by decide +kernel
theorem dX0_isThere_133 : decode cX0_isThere 133 = .ok (.astore 9, 2) := by decide +kernel
theorem dX0_isThere_135 : decode cX0_isThere 135 = .ok (.aload 9, 2) := by decide +kernel
theorem dX0_isThere_137 : decode cX0_isThere 137 = .ok (.ifnull 26, 3) := by decide +kernel
theorem dX0_isThere_140 : decode cX0_isThere 140 = .ok (.lload 5, 2) := by decide +kernel
theorem dX0_isThere_142 : decode cX0_isThere 142 = .ok (.lconst 0, 1) := by decide +kernel
theorem dX0_isThere_143 : decode cX0_isThere 143 = .ok (.lcmp, 1) := by decide +kernel
theorem dX0_isThere_144 : decode cX0_isThere 144 = .ok (.ifCond .lt 19, 3) := by decide +kernel
theorem dX0_isThere_147 : decode cX0_isThere 147 = .ok (.lload 7, 2) := by decide +kernel
theorem dX0_isThere_149 : decode cX0_isThere 149 = .ok (.aload 9, 2) := by decide +kernel
theorem dX0_isThere_151 : decode cX0_isThere 151 = .ok (.getfield 189, 3) := by decide +kernel
theorem dX0_isThere_154 : decode cX0_isThere 154 = .ok (.i2l, 1) := by decide +kernel
theorem dX0_isThere_155 : decode cX0_isThere 155 = .ok (.lcmp, 1) := by decide +kernel
theorem dX0_isThere_156 : decode cX0_isThere 156 = .ok (.ifCond .gt 7, 3) := by decide +kernel
theorem dX0_isThere_159 : decode cX0_isThere 159 = .ok (.iconst 1, 1) := by decide +kernel
theorem dX0_isThere_160 : decode cX0_isThere 160 = .ok (.goto 4, 3) := by decide +kernel
theorem dX0_isThere_163 : decode cX0_isThere 163 = .ok (.iconst 0, 1) := by decide +kernel
theorem dX0_isThere_164 : decode cX0_isThere 164 = .ok (.ireturn, 1) := by decide +kernel
theorem dX0_inStack_0 : decode cX0_inStack 0 = .ok (.aload_n 0, 1) := by decide +kernel
theorem dX0_inStack_1 : decode cX0_inStack 1 = .ok (.getfield 22, 3) := by decide +kernel
theorem dX0_inStack_4 : decode cX0_inStack 4 = .ok (.getfield 174, 3) := by decide +kernel
theorem dX0_inStack_7 : decode cX0_inStack 7 = .ok (.iload_n 1, 1) := by decide +kernel
theorem dX0_inStack_8 : decode cX0_inStack 8 = .ok (.laload, 1) := by decide +kernel
theorem dX0_inStack_9 : decode cX0_inStack 9 = .ok (.l2i, 1) := by decide +kernel
theorem dX0_inStack_10 : decode cX0_inStack 10 = .ok (.iload_n 2, 1) := by decide +kernel
theorem dX0_inStack_11 : decode cX0_inStack 11 = .ok (.iadd, 1) := by decide +kernel
theorem dX0_inStack_12 : decode cX0_inStack 12 = .ok (.sipush 512, 3) := by decide +kernel
theorem dX0_inStack_15 : decode cX0_inStack 15 = .ok (.iadd, 1) := by decide +kernel
theorem dX0_inStack_16 : decode cX0_inStack 16 = .ok (.ireturn, 1) := by decide +kernel
theorem dX0_isHeldWhole_0 : decode cX0_isHeldWhole 0 = .ok (.iload_n 2, 1) := by decide +kernel
theorem dX0_isHeldWhole_1 : decode cX0_isHeldWhole 1 = .ok (.bipush 8, 2) := by decide +kernel
theorem dX0_isHeldWhole_3 : decode cX0_isHeldWhole 3 = .ok (.if_icmp .ne 27, 3) := by decide +kernel
theorem dX0_isHeldWhole_6 : decode cX0_isHeldWhole 6 = .ok (.iload_n 1, 1) := by decide +kernel
theorem dX0_isHeldWhole_7 : decode cX0_isHeldWhole 7 = .ok (.bipush 7, 2) := by decide +kernel
theorem dX0_isHeldWhole_9 : decode cX0_isHeldWhole 9 = .ok (.iand, 1) := by decide +kernel
theorem dX0_isHeldWhole_10 : decode cX0_isHeldWhole 10 = .ok (.ifCond .ne 20, 3) := by decide +kernel
theorem dX0_isHeldWhole_13 : decode cX0_isHeldWhole 13 = .ok (.aload_n 0, 1) := by decide +kernel
theorem dX0_isHeldWhole_14 : decode cX0_isHeldWhole 14 = .ok (.getfield 22, 3) := by decide +kernel
theorem dX0_isHeldWhole_17 : decode cX0_isHeldWhole 17 = .ok (.iload_n 1, 1) := by decide +kernel
theorem dX0_isHeldWhole_18 : decode cX0_isHeldWhole 18 = .ok (.iconst 3, 1) := by decide +kernel
theorem dX0_isHeldWhole_19 : decode cX0_isHeldWhole 19 = .ok (.ishr, 1) := by decide +kernel
theorem dX0_isHeldWhole_20 : decode cX0_isHeldWhole 20 = .ok (.invokevirtual 194, 3) := by decide +kernel
theorem dX0_isHeldWhole_23 : decode cX0_isHeldWhole 23 = .ok (.ifCond .eq 7, 3) := by decide +kernel
theorem dX0_isHeldWhole_26 : decode cX0_isHeldWhole 26 = .ok (.iconst 1, 1) := by decide +kernel
theorem dX0_isHeldWhole_27 : decode cX0_isHeldWhole 27 = .ok (.goto 4, 3) := by decide +kernel
theorem dX0_isHeldWhole_30 : decode cX0_isHeldWhole 30 = .ok (.iconst 0, 1) := by decide +kernel
theorem dX0_isHeldWhole_31 : decode cX0_isHeldWhole 31 = .ok (.ireturn, 1) := by decide +kernel
theorem dX0_canBeRead_0 : decode cX0_canBeRead 0 = .ok (.aload_n 0, 1) := by decide +kernel
theorem dX0_canBeRead_1 : decode cX0_canBeRead 1 = .ok (.iload_n 1, 1) := by decide +kernel
theorem dX0_canBeRead_2 : decode cX0_canBeRead 2 = .ok (.iload_n 2, 1) := by decide +kernel
theorem dX0_canBeRead_3 : decode cX0_canBeRead 3 = .ok (.iload_n 3, 1) := by decide +kernel
theorem dX0_canBeRead_4 : decode cX0_canBeRead 4 = .ok (.iconst 0, 1) := by decide +kernel
theorem dX0_canBeRead_5 : decode cX0_canBeRead 5 = .ok (.invokevirtual 197, 3) := by decide +kernel
theorem dX0_canBeRead_8 : decode cX0_canBeRead 8 = .ok (.ifCond .ne 5, 3) := by decide +kernel
theorem dX0_canBeRead_11 : decode cX0_canBeRead 11 = .ok (.iconst 0, 1) := by decide +kernel
theorem dX0_canBeRead_12 : decode cX0_canBeRead 12 = .ok (.ireturn, 1) := by decide +kernel
theorem dX0_canBeRead_13 : decode cX0_canBeRead 13 = .ok (.aload_n 0, 1) := by decide +kernel
theorem dX0_canBeRead_14 : decode cX0_canBeRead 14 = .ok (.getfield 22, 3) := by decide +kernel
theorem dX0_canBeRead_17 : decode cX0_canBeRead 17 = .ok (.iload_n 1, 1) := by decide +kernel
theorem dX0_canBeRead_18 : decode cX0_canBeRead 18 = .ok (.invokevirtual 171, 3) := by decide +kernel
theorem dX0_canBeRead_21 : decode cX0_canBeRead 21 = .ok (.iconst 3, 1) := by decide +kernel
theorem dX0_canBeRead_22 : decode cX0_canBeRead 22 = .ok (.if_icmp .eq 5, 3) := by decide +kernel
theorem dX0_canBeRead_25 : decode cX0_canBeRead 25 = .ok (.iconst 1, 1) := by decide +kernel
theorem dX0_canBeRead_26 : decode cX0_canBeRead 26 = .ok (.ireturn, 1) := by decide +kernel
theorem dX0_canBeRead_27 : decode cX0_canBeRead 27 = .ok (.aload_n 0, 1) := by decide +kernel
theorem dX0_canBeRead_28 : decode cX0_canBeRead 28 = .ok (.iload_n 1, 1) := by decide +kernel
theorem dX0_canBeRead_29 : decode cX0_canBeRead 29 = .ok (.iload_n 2, 1) := by decide +kernel
theorem dX0_canBeRead_30 : decode cX0_canBeRead 30 = .ok (.invokevirtual 201, 3) := by decide +kernel
theorem dX0_canBeRead_33 : decode cX0_canBeRead 33 = .ok (.istore 4, 2) := by decide +kernel
theorem dX0_canBeRead_35 : decode cX0_canBeRead 35 = .ok (.aload_n 0, 1) := by decide +kernel
theorem dX0_canBeRead_36 : decode cX0_canBeRead 36 = .ok (.iload 4, 2) := by decide +kernel
theorem dX0_canBeRead_38 : decode cX0_canBeRead 38 = .ok (.iload_n 3, 1) := by decide +kernel
theorem dX0_canBeRead_39 : decode cX0_canBeRead 39 = .ok (.invokevirtual 204, 3) := by decide +kernel
theorem dX0_canBeRead_42 : decode cX0_canBeRead 42 = .ok (.ifCond .ne 16, 3) := by decide +kernel
theorem dX0_canBeRead_45 : decode cX0_canBeRead 45 = .ok (.aload_n 0, 1) := by decide +kernel
theorem dX0_canBeRead_46 : decode cX0_canBeRead 46 = .ok (.getfield 22, 3) := by decide +kernel
theorem dX0_canBeRead_49 : decode cX0_canBeRead 49 = .ok (.iload 4, 2) := by decide +kernel
theorem dX0_canBeRead_51 : decode cX0_canBeRead 51 = .ok (.iload_n 3, 1) := by decide +kernel
theorem dX0_canBeRead_52 : decode cX0_canBeRead 52 = .ok (.invokevirtual 208, 3) := by decide +kernel
theorem dX0_canBeRead_55 : decode cX0_canBeRead 55 = .ok (.ifCond .eq 7, 3) := by decide +kernel
theorem dX0_canBeRead_58 : decode cX0_canBeRead 58 = .ok (.iconst 1, 1) := by decide +kernel
theorem dX0_canBeRead_59 : decode cX0_canBeRead 59 = .ok (.goto 4, 3) := by decide +kernel
theorem dX0_canBeRead_62 : decode cX0_canBeRead 62 = .ok (.iconst 0, 1) := by decide +kernel
theorem dX0_canBeRead_63 : decode cX0_canBeRead 63 = .ok (.ireturn, 1) := by decide +kernel
theorem dX0_judgeLoad_0 : decode cX0_judgeLoad 0 = .ok (.aload_n 0, 1) := by decide +kernel
theorem dX0_judgeLoad_1 : decode cX0_judgeLoad 1 = .ok (.getfield 40, 3) := by decide +kernel
theorem dX0_judgeLoad_4 : decode cX0_judgeLoad 4 = .ok (.getfield 158, 3) := by decide +kernel
theorem dX0_judgeLoad_7 : decode cX0_judgeLoad 7 = .ok (.iload_n 1, 1) := by decide +kernel
theorem dX0_judgeLoad_8 : decode cX0_judgeLoad 8 = .ok (.iaload, 1) := by decide +kernel
theorem dX0_judgeLoad_9 : decode cX0_judgeLoad 9 = .ok (.istore_n 2, 1) := by decide +kernel
theorem dX0_judgeLoad_10 : decode cX0_judgeLoad 10 = .ok (.aload_n 0, 1) := by decide +kernel
theorem dX0_judgeLoad_11 : decode cX0_judgeLoad 11 = .ok (.getfield 40, 3) := by decide +kernel
theorem dX0_judgeLoad_14 : decode cX0_judgeLoad 14 = .ok (.getfield 146, 3) := by decide +kernel
theorem dX0_judgeLoad_17 : decode cX0_judgeLoad 17 = .ok (.iload_n 1, 1) := by decide +kernel
theorem dX0_judgeLoad_18 : decode cX0_judgeLoad 18 = .ok (.iaload, 1) := by decide +kernel
theorem dX0_judgeLoad_19 : decode cX0_judgeLoad 19 = .ok (.istore_n 3, 1) := by decide +kernel
theorem dX0_judgeLoad_20 : decode cX0_judgeLoad 20 = .ok (.aload_n 0, 1) := by decide +kernel
theorem dX0_judgeLoad_21 : decode cX0_judgeLoad 21 = .ok (.getfield 40, 3) := by decide +kernel
theorem dX0_judgeLoad_24 : decode cX0_judgeLoad 24 = .ok (.iload_n 1, 1) := by decide +kernel
theorem dX0_judgeLoad_25 : decode cX0_judgeLoad 25 = .ok (.invokevirtual 211, 3) := by decide +kernel
theorem dX0_judgeLoad_28 : decode cX0_judgeLoad 28 = .ok (.istore 4, 2) := by decide +kernel
theorem dX0_judgeLoad_30 : decode cX0_judgeLoad 30 = .ok (.aload_n 0, 1) := by decide +kernel
theorem dX0_judgeLoad_31 : decode cX0_judgeLoad 31 = .ok (.getfield 40, 3) := by decide +kernel
theorem dX0_judgeLoad_34 : decode cX0_judgeLoad 34 = .ok (.getfield 214, 3) := by decide +kernel
theorem dX0_judgeLoad_37 : decode cX0_judgeLoad 37 = .ok (.iload_n 1, 1) := by decide +kernel
theorem dX0_judgeLoad_38 : decode cX0_judgeLoad 38 = .ok (.iaload, 1) := by decide +kernel
theorem dX0_judgeLoad_39 : decode cX0_judgeLoad 39 = .ok (.istore 5, 2) := by decide +kernel
theorem dX0_judgeLoad_41 : decode cX0_judgeLoad 41 = .ok (.aload_n 0, 1) := by decide +kernel
theorem dX0_judgeLoad_42 : decode cX0_judgeLoad 42 = .ok (.getfield 22, 3) := by decide +kernel
theorem dX0_judgeLoad_45 : decode cX0_judgeLoad 45 = .ok (.iload_n 3, 1) := by decide +kernel
theorem dX0_judgeLoad_46 : decode cX0_judgeLoad 46 = .ok (.invokevirtual 217, 3) := by decide +kernel
theorem dX0_judgeLoad_49 : decode cX0_judgeLoad 49 = .ok (.ifCond .eq 5, 3) := by decide +kernel
theorem dX0_judgeLoad_52 : decode cX0_judgeLoad 52 = .ok (.iconst 2, 1) := by decide +kernel
theorem dX0_judgeLoad_53 : decode cX0_judgeLoad 53 = .ok (.ireturn, 1) := by decide +kernel
theorem dX0_judgeLoad_54 : decode cX0_judgeLoad 54 = .ok (.aload_n 0, 1) := by decide +kernel
theorem dX0_judgeLoad_55 : decode cX0_judgeLoad 55 = .ok (.iload_n 3, 1) := by decide +kernel
theorem dX0_judgeLoad_56 : decode cX0_judgeLoad 56 = .ok (.invokevirtual 220, 3) := by decide +kernel
theorem dX0_judgeLoad_59 : decode cX0_judgeLoad 59 = .ok (.ifCond .ne 5, 3) := by decide +kernel
theorem dX0_judgeLoad_62 : decode cX0_judgeLoad 62 = .ok (.iconst 3, 1) := by decide +kernel
theorem dX0_judgeLoad_63 : decode cX0_judgeLoad 63 = .ok (.ireturn, 1) := by decide +kernel
theorem dX0_judgeLoad_64 : decode cX0_judgeLoad 64 = .ok (.aload_n 0, 1) := by decide +kernel
theorem dX0_judgeLoad_65 : decode cX0_judgeLoad 65 = .ok (.iload_n 3, 1) := by decide +kernel
theorem dX0_judgeLoad_66 : decode cX0_judgeLoad 66 = .ok (.iload 5, 2) := by decide +kernel
theorem dX0_judgeLoad_68 : decode cX0_judgeLoad 68 = .ok (.iload 4, 2) := by decide +kernel
theorem dX0_judgeLoad_70 : decode cX0_judgeLoad 70 = .ok (.invokevirtual 223, 3) := by decide +kernel
theorem dX0_judgeLoad_73 : decode cX0_judgeLoad 73 = .ok (.ifCond .ne 5, 3) := by decide +kernel
theorem dX0_judgeLoad_76 : decode cX0_judgeLoad 76 = .ok (.iconst 4, 1) := by decide +kernel
theorem dX0_judgeLoad_77 : decode cX0_judgeLoad 77 = .ok (.ireturn, 1) := by decide +kernel
theorem dX0_judgeLoad_78 : decode cX0_judgeLoad 78 = .ok (.aload_n 0, 1) := by decide +kernel
theorem dX0_judgeLoad_79 : decode cX0_judgeLoad 79 = .ok (.getfield 22, 3) := by decide +kernel
theorem dX0_judgeLoad_82 : decode cX0_judgeLoad 82 = .ok (.iload_n 3, 1) := by decide +kernel
theorem dX0_judgeLoad_83 : decode cX0_judgeLoad 83 = .ok (.invokevirtual 171, 3) := by decide +kernel
theorem dX0_judgeLoad_86 : decode cX0_judgeLoad 86 = .ok (.iconst 3, 1) := by decide +kernel
theorem dX0_judgeLoad_87 : decode cX0_judgeLoad 87 = .ok (.if_icmp .ne 13, 3) := by decide +kernel
theorem dX0_judgeLoad_90 : decode cX0_judgeLoad 90 = .ok (.aload_n 0, 1) := by decide +kernel
theorem dX0_judgeLoad_91 : decode cX0_judgeLoad 91 = .ok (.iload_n 3, 1) := by decide +kernel
theorem dX0_judgeLoad_92 : decode cX0_judgeLoad 92 = .ok (.iload 5, 2) := by decide +kernel
theorem dX0_judgeLoad_94 : decode cX0_judgeLoad 94 = .ok (.invokevirtual 201, 3) := by decide +kernel
theorem dX0_judgeLoad_97 : decode cX0_judgeLoad 97 = .ok (.goto 4, 3) := by decide +kernel
theorem dX0_judgeLoad_100 : decode cX0_judgeLoad 100 = .ok (.iconst (-1), 1) := by decide +kernel
theorem dX0_judgeLoad_101 : decode cX0_judgeLoad 101 = .ok (.istore 6, 2) := by decide +kernel
theorem dX0_judgeLoad_103 : decode cX0_judgeLoad 103 = .ok (.iload 6, 2) := by decide +kernel
theorem dX0_judgeLoad_105 : decode cX0_judgeLoad 105 = .ok (.ifCond .lt 32, 3) := by decide +kernel
theorem dX0_judgeLoad_108 : decode cX0_judgeLoad 108 = .ok (.aload_n 0, 1) := by decide +kernel
theorem dX0_judgeLoad_109 : decode cX0_judgeLoad 109 = .ok (.iload 6, 2) := by decide +kernel
theorem dX0_judgeLoad_111 : decode cX0_judgeLoad 111 = .ok (.iload 4, 2) := by decide +kernel
theorem dX0_judgeLoad_113 : decode cX0_judgeLoad 113 = .ok (.invokevirtual 204, 3) := by decide +kernel
theorem dX0_judgeLoad_116 : decode cX0_judgeLoad 116 = .ok (.ifCond .eq 21, 3) := by decide +kernel
theorem dX0_judgeLoad_119 : decode cX0_judgeLoad 119 = .ok (.aload_n 0, 1) := by decide +kernel
theorem dX0_judgeLoad_120 : decode cX0_judgeLoad 120 = .ok (.getfield 22, 3) := by decide +kernel
theorem dX0_judgeLoad_123 : decode cX0_judgeLoad 123 = .ok (.iload_n 2, 1) := by decide +kernel
theorem dX0_judgeLoad_124 : decode cX0_judgeLoad 124 = .ok (.bipush 11, 2) := by decide +kernel
theorem dX0_judgeLoad_126 : decode cX0_judgeLoad 126 = .ok (.iload 6, 2) := by decide +kernel
theorem dX0_judgeLoad_128 : decode cX0_judgeLoad 128 = .ok (.iconst 3, 1) := by decide +kernel
theorem dX0_judgeLoad_129 : decode cX0_judgeLoad 129 = .ok (.ishr, 1) := by decide +kernel
theorem dX0_judgeLoad_130 : decode cX0_judgeLoad 130 = .ok (.iadd, 1) := by decide +kernel
theorem dX0_judgeLoad_131 : decode cX0_judgeLoad 131 = .ok (.invokevirtual 227, 3) := by decide +kernel
theorem dX0_judgeLoad_134 : decode cX0_judgeLoad 134 = .ok (.goto 29, 3) := by decide +kernel
theorem dX0_judgeLoad_137 : decode cX0_judgeLoad 137 = .ok (.aload_n 0, 1) := by decide +kernel
theorem dX0_judgeLoad_138 : decode cX0_judgeLoad 138 = .ok (.getfield 22, 3) := by decide +kernel
theorem dX0_judgeLoad_141 : decode cX0_judgeLoad 141 = .ok (.iload_n 2, 1) := by decide +kernel
theorem dX0_judgeLoad_142 : decode cX0_judgeLoad 142 = .ok (.aload_n 0, 1) := by decide +kernel
theorem dX0_judgeLoad_143 : decode cX0_judgeLoad 143 = .ok (.getfield 40, 3) := by decide +kernel
theorem dX0_judgeLoad_146 : decode cX0_judgeLoad 146 = .ok (.iload_n 1, 1) := by decide +kernel
theorem dX0_judgeLoad_147 : decode cX0_judgeLoad 147 = .ok (.invokevirtual 231, 3) := by decide +kernel
theorem dX0_judgeLoad_150 : decode cX0_judgeLoad 150 = .ok (.ifCond .eq 8, 3) := by decide +kernel
theorem dX0_judgeLoad_153 : decode cX0_judgeLoad 153 = .ok (.bipush 8, 2) := by decide +kernel
theorem dX0_judgeLoad_155 : decode cX0_judgeLoad 155 = .ok (.goto 5, 3) := by decide +kernel
theorem dX0_judgeLoad_158 : decode cX0_judgeLoad 158 = .ok (.iload 4, 2) := by decide +kernel
theorem dX0_judgeLoad_160 : decode cX0_judgeLoad 160 = .ok (.invokevirtual 234, 3) := by decide +kernel
theorem dX0_judgeLoad_163 : decode cX0_judgeLoad 163 = .ok (.iconst 0, 1) := by decide +kernel
theorem dX0_judgeLoad_164 : decode cX0_judgeLoad 164 = .ok (.ireturn, 1) := by decide +kernel
theorem dX0_judgePut_0 : decode cX0_judgePut 0 = .ok (.aload_n 0, 1) := by decide +kernel
theorem dX0_judgePut_1 : decode cX0_judgePut 1 = .ok (.getfield 40, 3) := by decide +kernel
theorem dX0_judgePut_4 : decode cX0_judgePut 4 = .ok (.getfield 158, 3) := by decide +kernel
theorem dX0_judgePut_7 : decode cX0_judgePut 7 = .ok (.iload_n 1, 1) := by decide +kernel
theorem dX0_judgePut_8 : decode cX0_judgePut 8 = .ok (.iaload, 1) := by decide +kernel
theorem dX0_judgePut_9 : decode cX0_judgePut 9 = .ok (.istore_n 3, 1) := by decide +kernel
theorem dX0_judgePut_10 : decode cX0_judgePut 10 = .ok (.aload_n 0, 1) := by decide +kernel
theorem dX0_judgePut_11 : decode cX0_judgePut 11 = .ok (.getfield 40, 3) := by decide +kernel
theorem dX0_judgePut_14 : decode cX0_judgePut 14 = .ok (.getfield 146, 3) := by decide +kernel
theorem dX0_judgePut_17 : decode cX0_judgePut 17 = .ok (.iload_n 1, 1) := by decide +kernel
theorem dX0_judgePut_18 : decode cX0_judgePut 18 = .ok (.iaload, 1) := by decide +kernel
theorem dX0_judgePut_19 : decode cX0_judgePut 19 = .ok (.istore 4, 2) := by decide +kernel
theorem dX0_judgePut_21 : decode cX0_judgePut 21 = .ok (.aload_n 0, 1) := by decide +kernel
theorem dX0_judgePut_22 : decode cX0_judgePut 22 = .ok (.getfield 40, 3) := by decide +kernel
theorem dX0_judgePut_25 : decode cX0_judgePut 25 = .ok (.iload_n 1, 1) := by decide +kernel
theorem dX0_judgePut_26 : decode cX0_judgePut 26 = .ok (.invokevirtual 211, 3) := by decide +kernel
theorem dX0_judgePut_29 : decode cX0_judgePut 29 = .ok (.istore 5, 2) := by decide +kernel
theorem dX0_judgePut_31 : decode cX0_judgePut 31 = .ok (.aload_n 0, 1) := by decide +kernel
theorem dX0_judgePut_32 : decode cX0_judgePut 32 = .ok (.getfield 40, 3) := by decide +kernel
theorem dX0_judgePut_35 : decode cX0_judgePut 35 = .ok (.getfield 214, 3) := by decide +kernel
theorem dX0_judgePut_38 : decode cX0_judgePut 38 = .ok (.iload_n 1, 1) := by decide +kernel
theorem dX0_judgePut_39 : decode cX0_judgePut 39 = .ok (.iaload, 1) := by decide +kernel
theorem dX0_judgePut_40 : decode cX0_judgePut 40 = .ok (.istore 6, 2) := by decide +kernel
theorem dX0_judgePut_42 : decode cX0_judgePut 42 = .ok (.aload_n 0, 1) := by decide +kernel
theorem dX0_judgePut_43 : decode cX0_judgePut 43 = .ok (.getfield 22, 3) := by decide +kernel
theorem dX0_judgePut_46 : decode cX0_judgePut 46 = .ok (.iload_n 3, 1) := by decide +kernel
theorem dX0_judgePut_47 : decode cX0_judgePut 47 = .ok (.invokevirtual 217, 3) := by decide +kernel
theorem dX0_judgePut_50 : decode cX0_judgePut 50 = .ok (.ifCond .ne 19, 3) := by decide +kernel
theorem dX0_judgePut_53 : decode cX0_judgePut 53 = .ok (.iload_n 2, 1) := by decide +kernel
theorem dX0_judgePut_54 : decode cX0_judgePut 54 = .ok (.ifCond .eq 17, 3) := by decide +kernel
theorem dX0_judgePut_57 : decode cX0_judgePut 57 = .ok (.aload_n 0, 1) := by decide +kernel
theorem dX0_judgePut_58 : decode cX0_judgePut 58 = .ok (.getfield 22, 3) := by decide +kernel
theorem dX0_judgePut_61 : decode cX0_judgePut 61 = .ok (.iload 4, 2) := by decide +kernel
theorem dX0_judgePut_63 : decode cX0_judgePut 63 = .ok (.invokevirtual 217, 3) := by decide +kernel
theorem dX0_judgePut_66 : decode cX0_judgePut 66 = .ok (.ifCond .eq 5, 3) := by decide +kernel
theorem dX0_judgePut_69 : decode cX0_judgePut 69 = .ok (.iconst 2, 1) := by decide +kernel
theorem dX0_judgePut_70 : decode cX0_judgePut 70 = .ok (.ireturn, 1) := by decide +kernel
theorem dX0_judgePut_71 : decode cX0_judgePut 71 = .ok (.aload_n 0, 1) := by decide +kernel
theorem dX0_judgePut_72 : decode cX0_judgePut 72 = .ok (.getfield 22, 3) := by decide +kernel
theorem dX0_judgePut_75 : decode cX0_judgePut 75 = .ok (.iload_n 3, 1) := by decide +kernel
theorem dX0_judgePut_76 : decode cX0_judgePut 76 = .ok (.invokevirtual 171, 3) := by decide +kernel
theorem dX0_judgePut_79 : decode cX0_judgePut 79 = .ok (.iconst 3, 1) := by decide +kernel
theorem dX0_judgePut_80 : decode cX0_judgePut 80 = .ok (.if_icmp .ne 7, 3) := by decide +kernel
theorem dX0_judgePut_83 : decode cX0_judgePut 83 = .ok (.iconst 1, 1) := by decide +kernel
theorem dX0_judgePut_84 : decode cX0_judgePut 84 = .ok (.goto 4, 3) := by decide +kernel
theorem dX0_judgePut_87 : decode cX0_judgePut 87 = .ok (.iconst 0, 1) := by decide +kernel
theorem dX0_judgePut_88 : decode cX0_judgePut 88 = .ok (.istore 7, 2) := by decide +kernel
theorem dX0_judgePut_90 : decode cX0_judgePut 90 = .ok (.aload_n 0, 1) := by decide +kernel
theorem dX0_judgePut_91 : decode cX0_judgePut 91 = .ok (.getfield 40, 3) := by decide +kernel
theorem dX0_judgePut_94 : decode cX0_judgePut 94 = .ok (.getfield 82, 3) := by decide +kernel
theorem dX0_judgePut_97 : decode cX0_judgePut 97 = .ok (.iload_n 1, 1) := by decide +kernel
theorem dX0_judgePut_98 : decode cX0_judgePut 98 = .ok (.iaload, 1) := by decide +kernel
theorem dX0_judgePut_99 : decode cX0_judgePut 99 = .ok (.bipush 123, 2) := by decide +kernel
theorem dX0_judgePut_101 : decode cX0_judgePut 101 = .ok (.if_icmp .ne 34, 3) := by decide +kernel
theorem dX0_judgePut_104 : decode cX0_judgePut 104 = .ok (.iload 7, 2) := by decide +kernel
theorem dX0_judgePut_106 : decode cX0_judgePut 106 = .ok (.ifCond .eq 29, 3) := by decide +kernel
theorem dX0_judgePut_109 : decode cX0_judgePut 109 = .ok (.aload_n 0, 1) := by decide +kernel
theorem dX0_judgePut_110 : decode cX0_judgePut 110 = .ok (.getfield 22, 3) := by decide +kernel
theorem dX0_judgePut_113 : decode cX0_judgePut 113 = .ok (.getfield 174, 3) := by decide +kernel
theorem dX0_judgePut_116 : decode cX0_judgePut 116 = .ok (.iload_n 3, 1) := by decide +kernel
theorem dX0_judgePut_117 : decode cX0_judgePut 117 = .ok (.laload, 1) := by decide +kernel
theorem dX0_judgePut_118 : decode cX0_judgePut 118 = .ok (.iload 6, 2) := by decide +kernel
theorem dX0_judgePut_120 : decode cX0_judgePut 120 = .ok (.i2l, 1) := by decide +kernel
theorem dX0_judgePut_121 : decode cX0_judgePut 121 = .ok (.ladd, 1) := by decide +kernel
theorem dX0_judgePut_122 : decode cX0_judgePut 122 = .ok (.ldc2_w 237, 3) := by decide +kernel
theorem dX0_judgePut_125 : decode cX0_judgePut 125 = .ok (.land, 1) := by decide +kernel
theorem dX0_judgePut_126 : decode cX0_judgePut 126 = .ok (.lconst 0, 1) := by decide +kernel
theorem dX0_judgePut_127 : decode cX0_judgePut 127 = .ok (.lcmp, 1) := by decide +kernel
theorem dX0_judgePut_128 : decode cX0_judgePut 128 = .ok (.ifCond .ne 7, 3) := by decide +kernel
theorem dX0_judgePut_131 : decode cX0_judgePut 131 = .ok (.iconst 1, 1) := by decide +kernel
theorem dX0_judgePut_132 : decode cX0_judgePut 132 = .ok (.goto 4, 3) := by decide +kernel
theorem dX0_judgePut_135 : decode cX0_judgePut 135 = .ok (.iconst 0, 1) := by decide +kernel
theorem dX0_judgePut_136 : decode cX0_judgePut 136 = .ok (.istore 8, 2) := by decide +kernel
theorem dX0_judgePut_138 : decode cX0_judgePut 138 = .ok (.aload_n 0, 1) := by decide +kernel
theorem dX0_judgePut_139 : decode cX0_judgePut 139 = .ok (.iload_n 3, 1) := by decide +kernel
theorem dX0_judgePut_140 : decode cX0_judgePut 140 = .ok (.invokevirtual 220, 3) := by decide +kernel
theorem dX0_judgePut_143 : decode cX0_judgePut 143 = .ok (.ifCond .eq 24, 3) := by decide +kernel
theorem dX0_judgePut_146 : decode cX0_judgePut 146 = .ok (.iload_n 2, 1) := by decide +kernel
theorem dX0_judgePut_147 : decode cX0_judgePut 147 = .ok (.ifCond .eq 22, 3) := by decide +kernel
theorem dX0_judgePut_150 : decode cX0_judgePut 150 = .ok (.aload_n 0, 1) := by decide +kernel
theorem dX0_judgePut_151 : decode cX0_judgePut 151 = .ok (.getfield 22, 3) := by decide +kernel
theorem dX0_judgePut_154 : decode cX0_judgePut 154 = .ok (.iload 4, 2) := by decide +kernel
theorem dX0_judgePut_156 : decode cX0_judgePut 156 = .ok (.invokevirtual 239, 3) := by decide +kernel
theorem dX0_judgePut_159 : decode cX0_judgePut 159 = .ok (.ifCond .ne 10, 3) := by decide +kernel
theorem dX0_judgePut_162 : decode cX0_judgePut 162 = .ok (.iload 8, 2) := by decide +kernel
theorem dX0_judgePut_164 : decode cX0_judgePut 164 = .ok (.ifCond .ne 5, 3) := by decide +kernel
theorem dX0_judgePut_167 : decode cX0_judgePut 167 = .ok (.iconst 3, 1) := by decide +kernel
theorem dX0_judgePut_168 : decode cX0_judgePut 168 = .ok (.ireturn, 1) := by decide +kernel
theorem dX0_judgePut_169 : decode cX0_judgePut 169 = .ok (.aload_n 0, 1) := by decide +kernel
theorem dX0_judgePut_170 : decode cX0_judgePut 170 = .ok (.iload_n 3, 1) := by decide +kernel
theorem dX0_judgePut_171 : decode cX0_judgePut 171 = .ok (.iload 6, 2) := by decide +kernel
theorem dX0_judgePut_173 : decode cX0_judgePut 173 = .ok (.iload 5, 2) := by decide +kernel
theorem dX0_judgePut_175 : decode cX0_judgePut 175 = .ok (.iconst 1, 1) := by decide +kernel
theorem dX0_judgePut_176 : decode cX0_judgePut 176 = .ok (.invokevirtual 197, 3) := by decide +kernel
theorem dX0_judgePut_179 : decode cX0_judgePut 179 = .ok (.ifCond .ne 5, 3) := by decide +kernel
theorem dX0_judgePut_182 : decode cX0_judgePut 182 = .ok (.iconst 4, 1) := by decide +kernel
theorem dX0_judgePut_183 : decode cX0_judgePut 183 = .ok (.ireturn, 1) := by decide +kernel
theorem dX0_judgePut_184 : decode cX0_judgePut 184 = .ok (.iload 8, 2) := by decide +kernel
theorem dX0_judgePut_186 : decode cX0_judgePut 186 = .ok (.ifCond .eq 24, 3) := by decide +kernel
theorem dX0_judgePut_189 : decode cX0_judgePut 189 = .ok (.aload_n 0, 1) := by decide +kernel
theorem dX0_judgePut_190 : decode cX0_judgePut 190 = .ok (.getfield 22, 3) := by decide +kernel
theorem dX0_judgePut_193 : decode cX0_judgePut 193 = .ok (.aload_n 0, 1) := by decide +kernel
theorem dX0_judgePut_194 : decode cX0_judgePut 194 = .ok (.iload_n 3, 1) := by decide +kernel
theorem dX0_judgePut_195 : decode cX0_judgePut 195 = .ok (.iload 6, 2) := by decide +kernel
theorem dX0_judgePut_197 : decode cX0_judgePut 197 = .ok (.invokevirtual 201, 3) := by decide +kernel
theorem dX0_judgePut_200 : decode cX0_judgePut 200 = .ok (.iconst 3, 1) := by decide +kernel
theorem dX0_judgePut_201 : decode cX0_judgePut 201 = .ok (.ishr, 1) := by decide +kernel
theorem dX0_judgePut_202 : decode cX0_judgePut 202 = .ok (.iload 4, 2) := by decide +kernel
theorem dX0_judgePut_204 : decode cX0_judgePut 204 = .ok (.invokevirtual 242, 3) := by decide +kernel
theorem dX0_judgePut_207 : decode cX0_judgePut 207 = .ok (.goto 24, 3) := by decide +kernel
theorem dX0_judgePut_210 : decode cX0_judgePut 210 = .ok (.iload 7, 2) := by decide +kernel
theorem dX0_judgePut_212 : decode cX0_judgePut 212 = .ok (.ifCond .eq 19, 3) := by decide +kernel
theorem dX0_judgePut_215 : decode cX0_judgePut 215 = .ok (.aload_n 0, 1) := by decide +kernel
theorem dX0_judgePut_216 : decode cX0_judgePut 216 = .ok (.getfield 22, 3) := by decide +kernel
theorem dX0_judgePut_219 : decode cX0_judgePut 219 = .ok (.aload_n 0, 1) := by decide +kernel
theorem dX0_judgePut_220 : decode cX0_judgePut 220 = .ok (.iload_n 3, 1) := by decide +kernel
theorem dX0_judgePut_221 : decode cX0_judgePut 221 = .ok (.iload 6, 2) := by decide +kernel
theorem dX0_judgePut_223 : decode cX0_judgePut 223 = .ok (.invokevirtual 201, 3) := by decide +kernel
theorem dX0_judgePut_226 : decode cX0_judgePut 226 = .ok (.iload 5, 2) := by decide +kernel
theorem dX0_judgePut_228 : decode cX0_judgePut 228 = .ok (.invokevirtual 245, 3) := by decide +kernel
theorem dX0_judgePut_231 : decode cX0_judgePut 231 = .ok (.iconst 0, 1) := by decide +kernel
theorem dX0_judgePut_232 : decode cX0_judgePut 232 = .ok (.ireturn, 1) := by decide +kernel
theorem dX0_judgeChange_0 : decode cX0_judgeChange 0 = .ok (.aload_n 0, 1) := by decide +kernel
theorem dX0_judgeChange_1 : decode cX0_judgeChange 1 = .ok (.getfield 40, 3) := by decide +kernel
theorem dX0_judgeChange_4 : decode cX0_judgeChange 4 = .ok (.getfield 158, 3) := by decide +kernel
theorem dX0_judgeChange_7 : decode cX0_judgeChange 7 = .ok (.iload_n 1, 1) := by decide +kernel
theorem dX0_judgeChange_8 : decode cX0_judgeChange 8 = .ok (.iaload, 1) := by decide +kernel
theorem dX0_judgeChange_9 : decode cX0_judgeChange 9 = .ok (.istore_n 2, 1) := by decide +kernel
theorem dX0_judgeChange_10 : decode cX0_judgeChange 10 = .ok (.aload_n 0, 1) := by decide +kernel
theorem dX0_judgeChange_11 : decode cX0_judgeChange 11 = .ok (.getfield 40, 3) := by decide +kernel
theorem dX0_judgeChange_14 : decode cX0_judgeChange 14 = .ok (.getfield 146, 3) := by decide +kernel
theorem dX0_judgeChange_17 : decode cX0_judgeChange 17 = .ok (.iload_n 1, 1) := by decide +kernel
theorem dX0_judgeChange_18 : decode cX0_judgeChange 18 = .ok (.iaload, 1) := by decide +kernel
theorem dX0_judgeChange_19 : decode cX0_judgeChange 19 = .ok (.istore_n 3, 1) := by decide +kernel
theorem dX0_judgeChange_20 : decode cX0_judgeChange 20 = .ok (.aload_n 0, 1) := by decide +kernel
theorem dX0_judgeChange_21 : decode cX0_judgeChange 21 = .ok (.getfield 40, 3) := by decide +kernel
theorem dX0_judgeChange_24 : decode cX0_judgeChange 24 = .ok (.iload_n 1, 1) := by decide +kernel
theorem dX0_judgeChange_25 : decode cX0_judgeChange 25 = .ok (.invokevirtual 211, 3) := by decide +kernel
theorem dX0_judgeChange_28 : decode cX0_judgeChange 28 = .ok (.istore 4, 2) := by decide +kernel
theorem dX0_judgeChange_30 : decode cX0_judgeChange 30 = .ok (.aload_n 0, 1) := by decide +kernel
theorem dX0_judgeChange_31 : decode cX0_judgeChange 31 = .ok (.getfield 40, 3) := by decide +kernel
theorem dX0_judgeChange_34 : decode cX0_judgeChange 34 = .ok (.getfield 214, 3) := by decide +kernel
theorem dX0_judgeChange_37 : decode cX0_judgeChange 37 = .ok (.iload_n 1, 1) := by decide +kernel
theorem dX0_judgeChange_38 : decode cX0_judgeChange 38 = .ok (.iaload, 1) := by decide +kernel
theorem dX0_judgeChange_39 : decode cX0_judgeChange 39 = .ok (.istore 5, 2) := by decide +kernel
theorem dX0_judgeChange_41 : decode cX0_judgeChange 41 = .ok (.aload_n 0, 1) := by decide +kernel
theorem dX0_judgeChange_42 : decode cX0_judgeChange 42 = .ok (.getfield 40, 3) := by decide +kernel
theorem dX0_judgeChange_45 : decode cX0_judgeChange 45 = .ok (.getfield 122, 3) := by decide +kernel
theorem dX0_judgeChange_48 : decode cX0_judgeChange 48 = .ok (.iload_n 1, 1) := by decide +kernel
theorem dX0_judgeChange_49 : decode cX0_judgeChange 49 = .ok (.iaload, 1) := by decide +kernel
theorem dX0_judgeChange_50 : decode cX0_judgeChange 50 = .ok (.istore 6, 2) := by decide +kernel
theorem dX0_judgeChange_52 : decode cX0_judgeChange 52 = .ok (.iload 6, 2) := by decide +kernel
theorem dX0_judgeChange_54 : decode cX0_judgeChange 54 = .ok (.sipush 241, 3) := by decide +kernel
theorem dX0_judgeChange_57 : decode cX0_judgeChange 57 = .ok (.if_icmp .ne 7, 3) := by decide +kernel
theorem dX0_judgeChange_60 : decode cX0_judgeChange 60 = .ok (.iconst 1, 1) := by decide +kernel
theorem dX0_judgeChange_61 : decode cX0_judgeChange 61 = .ok (.goto 4, 3) := by decide +kernel
theorem dX0_judgeChange_64 : decode cX0_judgeChange 64 = .ok (.iconst 0, 1) := by decide +kernel
theorem dX0_judgeChange_65 : decode cX0_judgeChange 65 = .ok (.istore 7, 2) := by decide +kernel
theorem dX0_judgeChange_67 : decode cX0_judgeChange 67 = .ok (.aload_n 0, 1) := by decide +kernel
theorem dX0_judgeChange_68 : decode cX0_judgeChange 68 = .ok (.getfield 22, 3) := by decide +kernel
theorem dX0_judgeChange_71 : decode cX0_judgeChange 71 = .ok (.iload_n 2, 1) := by decide +kernel
theorem dX0_judgeChange_72 : decode cX0_judgeChange 72 = .ok (.invokevirtual 217, 3) := by decide +kernel
theorem dX0_judgeChange_75 : decode cX0_judgeChange 75 = .ok (.ifCond .ne 30, 3) := by decide +kernel
theorem dX0_judgeChange_78 : decode cX0_judgeChange 78 = .ok (.aload_n 0, 1) := by decide +kernel
theorem dX0_judgeChange_79 : decode cX0_judgeChange 79 = .ok (.getfield 22, 3) := by decide +kernel
theorem dX0_judgeChange_82 : decode cX0_judgeChange 82 = .ok (.iload_n 3, 1) := by decide +kernel
theorem dX0_judgeChange_83 : decode cX0_judgeChange 83 = .ok (.invokevirtual 217, 3) := by decide +kernel
theorem dX0_judgeChange_86 : decode cX0_judgeChange 86 = .ok (.ifCond .ne 19, 3) := by decide +kernel
theorem dX0_judgeChange_89 : decode cX0_judgeChange 89 = .ok (.iload 7, 2) := by decide +kernel
theorem dX0_judgeChange_91 : decode cX0_judgeChange 91 = .ok (.ifCond .eq 16, 3) := by decide +kernel
theorem dX0_judgeChange_94 : decode cX0_judgeChange 94 = .ok (.aload_n 0, 1) := by decide +kernel
theorem dX0_judgeChange_95 : decode cX0_judgeChange 95 = .ok (.getfield 22, 3) := by decide +kernel
theorem dX0_judgeChange_98 : decode cX0_judgeChange 98 = .ok (.iconst 0, 1) := by decide +kernel
theorem dX0_judgeChange_99 : decode cX0_judgeChange 99 = .ok (.invokevirtual 217, 3) := by decide +kernel
theorem dX0_judgeChange_102 : decode cX0_judgeChange 102 = .ok (.ifCond .eq 5, 3) := by decide +kernel
theorem dX0_judgeChange_105 : decode cX0_judgeChange 105 = .ok (.iconst 2, 1) := by decide +kernel
theorem dX0_judgeChange_106 : decode cX0_judgeChange 106 = .ok (.ireturn, 1) := by decide +kernel
theorem dX0_judgeChange_107 : decode cX0_judgeChange 107 = .ok (.aload_n 0, 1) := by decide +kernel
theorem dX0_judgeChange_108 : decode cX0_judgeChange 108 = .ok (.getfield 22, 3) := by decide +kernel
theorem dX0_judgeChange_111 : decode cX0_judgeChange 111 = .ok (.iload_n 2, 1) := by decide +kernel
theorem dX0_judgeChange_112 : decode cX0_judgeChange 112 = .ok (.invokevirtual 171, 3) := by decide +kernel
theorem dX0_judgeChange_115 : decode cX0_judgeChange 115 = .ok (.iconst 3, 1) := by decide +kernel
theorem dX0_judgeChange_116 : decode cX0_judgeChange 116 = .ok (.if_icmp .ne 7, 3) := by decide +kernel
theorem dX0_judgeChange_119 : decode cX0_judgeChange 119 = .ok (.iconst 1, 1) := by decide +kernel
theorem dX0_judgeChange_120 : decode cX0_judgeChange 120 = .ok (.goto 4, 3) := by decide +kernel
theorem dX0_judgeChange_123 : decode cX0_judgeChange 123 = .ok (.iconst 0, 1) := by decide +kernel
theorem dX0_judgeChange_124 : decode cX0_judgeChange 124 = .ok (.istore 8, 2) := by decide +kernel
theorem dX0_judgeChange_126 : decode cX0_judgeChange 126 = .ok (.iload 8, 2) := by decide +kernel
theorem dX0_judgeChange_128 : decode cX0_judgeChange 128 = .ok (.ifCond .ne 15, 3) := by decide +kernel
theorem dX0_judgeChange_131 : decode cX0_judgeChange 131 = .ok (.aload_n 0, 1) := by decide +kernel
theorem dX0_judgeChange_132 : decode cX0_judgeChange 132 = .ok (.getfield 22, 3) := by decide +kernel
theorem dX0_judgeChange_135 : decode cX0_judgeChange 135 = .ok (.iload_n 2, 1) := by decide +kernel
theorem dX0_judgeChange_136 : decode cX0_judgeChange 136 = .ok (.invokevirtual 171, 3) := by decide +kernel
theorem dX0_judgeChange_139 : decode cX0_judgeChange 139 = .ok (.iconst 5, 1) := by decide +kernel
theorem dX0_judgeChange_140 : decode cX0_judgeChange 140 = .ok (.if_icmp .ne 30, 3) := by decide +kernel
theorem dX0_judgeChange_143 : decode cX0_judgeChange 143 = .ok (.aload_n 0, 1) := by decide +kernel
theorem dX0_judgeChange_144 : decode cX0_judgeChange 144 = .ok (.getfield 22, 3) := by decide +kernel
theorem dX0_judgeChange_147 : decode cX0_judgeChange 147 = .ok (.iload_n 3, 1) := by decide +kernel
theorem dX0_judgeChange_148 : decode cX0_judgeChange 148 = .ok (.invokevirtual 239, 3) := by decide +kernel
theorem dX0_judgeChange_151 : decode cX0_judgeChange 151 = .ok (.ifCond .eq 19, 3) := by decide +kernel
theorem dX0_judgeChange_154 : decode cX0_judgeChange 154 = .ok (.iload 7, 2) := by decide +kernel
theorem dX0_judgeChange_156 : decode cX0_judgeChange 156 = .ok (.ifCond .eq 16, 3) := by decide +kernel
theorem dX0_judgeChange_159 : decode cX0_judgeChange 159 = .ok (.aload_n 0, 1) := by decide +kernel
theorem dX0_judgeChange_160 : decode cX0_judgeChange 160 = .ok (.getfield 22, 3) := by decide +kernel
theorem dX0_judgeChange_163 : decode cX0_judgeChange 163 = .ok (.iconst 0, 1) := by decide +kernel
theorem dX0_judgeChange_164 : decode cX0_judgeChange 164 = .ok (.invokevirtual 239, 3) := by decide +kernel
theorem dX0_judgeChange_167 : decode cX0_judgeChange 167 = .ok (.ifCond .ne 5, 3) := by decide +kernel
theorem dX0_judgeChange_170 : decode cX0_judgeChange 170 = .ok (.iconst 3, 1) := by decide +kernel
theorem dX0_judgeChange_171 : decode cX0_judgeChange 171 = .ok (.ireturn, 1) := by decide +kernel
theorem dX0_judgeChange_172 : decode cX0_judgeChange 172 = .ok (.aload_n 0, 1) := by decide +kernel
theorem dX0_judgeChange_173 : decode cX0_judgeChange 173 = .ok (.iload_n 2, 1) := by decide +kernel
theorem dX0_judgeChange_174 : decode cX0_judgeChange 174 = .ok (.iload 5, 2) := by decide +kernel
theorem dX0_judgeChange_176 : decode cX0_judgeChange 176 = .ok (.iload 4, 2) := by decide +kernel
theorem dX0_judgeChange_178 : decode cX0_judgeChange 178 = .ok (.iconst 1, 1) := by decide +kernel
theorem dX0_judgeChange_179 : decode cX0_judgeChange 179 = .ok (.invokevirtual 197, 3) := by decide +kernel
theorem dX0_judgeChange_182 : decode cX0_judgeChange 182 = .ok (.ifCond .eq 27, 3) := by decide +kernel
theorem dX0_judgeChange_185 : decode cX0_judgeChange 185 = .ok (.iload 8, 2) := by decide +kernel
theorem dX0_judgeChange_187 : decode cX0_judgeChange 187 = .ok (.ifCond .eq 24, 3) := by decide +kernel
theorem dX0_judgeChange_190 : decode cX0_judgeChange 190 = .ok (.aload_n 0, 1) := by decide +kernel
theorem dX0_judgeChange_191 : decode cX0_judgeChange 191 = .ok (.getfield 22, 3) := by decide +kernel
theorem dX0_judgeChange_194 : decode cX0_judgeChange 194 = .ok (.aload_n 0, 1) := by decide +kernel
theorem dX0_judgeChange_195 : decode cX0_judgeChange 195 = .ok (.iload_n 2, 1) := by decide +kernel
theorem dX0_judgeChange_196 : decode cX0_judgeChange 196 = .ok (.iload 5, 2) := by decide +kernel
theorem dX0_judgeChange_198 : decode cX0_judgeChange 198 = .ok (.invokevirtual 201, 3) := by decide +kernel
theorem dX0_judgeChange_201 : decode cX0_judgeChange 201 = .ok (.iload 4, 2) := by decide +kernel
theorem dX0_judgeChange_203 : decode cX0_judgeChange 203 = .ok (.invokevirtual 208, 3) := by decide +kernel
theorem dX0_judgeChange_206 : decode cX0_judgeChange 206 = .ok (.ifCond .ne 5, 3) := by decide +kernel
theorem dX0_judgeChange_209 : decode cX0_judgeChange 209 = .ok (.iconst 4, 1) := by decide +kernel
theorem dX0_judgeChange_210 : decode cX0_judgeChange 210 = .ok (.ireturn, 1) := by decide +kernel
theorem dX0_judgeChange_211 : decode cX0_judgeChange 211 = .ok (.iload 8, 2) := by decide +kernel
theorem dX0_judgeChange_213 : decode cX0_judgeChange 213 = .ok (.ifCond .eq 19, 3) := by decide +kernel
theorem dX0_judgeChange_216 : decode cX0_judgeChange 216 = .ok (.aload_n 0, 1) := by decide +kernel
theorem dX0_judgeChange_217 : decode cX0_judgeChange 217 = .ok (.getfield 22, 3) := by decide +kernel
theorem dX0_judgeChange_220 : decode cX0_judgeChange 220 = .ok (.aload_n 0, 1) := by decide +kernel
theorem dX0_judgeChange_221 : decode cX0_judgeChange 221 = .ok (.iload_n 2, 1) := by decide +kernel
theorem dX0_judgeChange_222 : decode cX0_judgeChange 222 = .ok (.iload 5, 2) := by decide +kernel
theorem dX0_judgeChange_224 : decode cX0_judgeChange 224 = .ok (.invokevirtual 201, 3) := by decide +kernel
theorem dX0_judgeChange_227 : decode cX0_judgeChange 227 = .ok (.iload 4, 2) := by decide +kernel
theorem dX0_judgeChange_229 : decode cX0_judgeChange 229 = .ok (.invokevirtual 245, 3) := by decide +kernel
theorem dX0_judgeChange_232 : decode cX0_judgeChange 232 = .ok (.iload 6, 2) := by decide +kernel
theorem dX0_judgeChange_234 : decode cX0_judgeChange 234 = .ok (.iconst 1, 1) := by decide +kernel
theorem dX0_judgeChange_235 : decode cX0_judgeChange 235 = .ok (.iand, 1) := by decide +kernel
theorem dX0_judgeChange_236 : decode cX0_judgeChange 236 = .ok (.ifCond .eq 22, 3) := by decide +kernel
theorem dX0_judgeChange_239 : decode cX0_judgeChange 239 = .ok (.aload_n 0, 1) := by decide +kernel
theorem dX0_judgeChange_240 : decode cX0_judgeChange 240 = .ok (.getfield 22, 3) := by decide +kernel
theorem dX0_judgeChange_243 : decode cX0_judgeChange 243 = .ok (.iload 7, 2) := by decide +kernel
theorem dX0_judgeChange_245 : decode cX0_judgeChange 245 = .ok (.ifCond .eq 7, 3) := by decide +kernel
theorem dX0_judgeChange_248 : decode cX0_judgeChange 248 = .ok (.iconst 0, 1) := by decide +kernel
theorem dX0_judgeChange_249 : decode cX0_judgeChange 249 = .ok (.goto 4, 3) := by decide +kernel
theorem dX0_judgeChange_252 : decode cX0_judgeChange 252 = .ok (.iload_n 3, 1) := by decide +kernel
theorem dX0_judgeChange_253 : decode cX0_judgeChange 253 = .ok (.iload 4, 2) := by decide +kernel
theorem dX0_judgeChange_255 : decode cX0_judgeChange 255 = .ok (.invokevirtual 234, 3) := by decide +kernel
theorem dX0_judgeChange_258 : decode cX0_judgeChange 258 = .ok (.iconst 0, 1) := by decide +kernel
theorem dX0_judgeChange_259 : decode cX0_judgeChange 259 = .ok (.ireturn, 1) := by decide +kernel
-- JudgedCode$Judge.<init>
def f_X0_init_49 (o0 : Nat) (o1 : Nat) (o2 : Nat) (os0 : Nat) (os1 : Nat) (S : sh) (D : dt) : Option (Unit × sh × dt) := cq (f_X6_init S os1 D) fun _ D71 => nm (pR D71 os0 6 (some os1)) fun D72 => nm (pI D72 o0 7 (-1 : Int32)) fun D73 => nm (pR D73 o0 0 (some o1)) fun D74 => nm (pR D74 o0 1 (some o2)) fun D75 => some ((), S, D75)
def f_X0_init_42 (o0 : Nat) (o1 : Nat) (o2 : Nat) (os0 : Nat) (os1 : Nat) (S : sh) (D : dt) : Option (Unit × sh × dt) := nm (pR D os0 5 (some os1)) fun D76 => f_X0_init_49 o0 o1 o2 o0 (sN S) (aS S 5 0 7) (aD S D76)
def f_X0_init_38 (o0 : Nat) (o1 : Nat) (o2 : Nat) (os0 : Nat) (os1 : Nat) (S : sh) (D : dt) : Option (Unit × sh × dt) := c3 (f_X5_init os1 S D) fun _ S86 D85 => f_X0_init_42 o0 o1 o2 os0 os1 S86 D85
def f_X0_init_31 (o0 : Nat) (o1 : Nat) (o2 : Nat) (os0 : Nat) (os1 : Nat) (S : sh) (D : dt) : Option (Unit × sh × dt) := nm (pR D os0 4 (some os1)) fun D96 => f_X0_init_38 o0 o1 o2 o0 (sN S) (aS S 4 0 6) (aD S D96)
def f_X0_init_27 (o0 : Nat) (o1 : Nat) (o2 : Nat) (os0 : Nat) (os1 : Nat) (S : sh) (D : dt) : Option (Unit × sh × dt) := c3 (f_X5_init os1 S D) fun _ S106 D105 => f_X0_init_31 o0 o1 o2 os0 os1 S106 D105
def f_X0_init_20 (o0 : Nat) (o1 : Nat) (o2 : Nat) (os0 : Nat) (os1 : Nat) (S : sh) (D : dt) : Option (Unit × sh × dt) := nm (pR D os0 3 (some os1)) fun D116 => f_X0_init_27 o0 o1 o2 o0 (sN S) (aS S 4 0 6) (aD S D116)
def f_X0_init_11 (o0 : Nat) (o1 : Nat) (o2 : Nat) (os0 : Nat) (os1 : Nat) (S : sh) (D : dt) : Option (Unit × sh × dt) := nm (pR D os0 2 (some os1)) fun D124 => f_X0_init_20 o0 o1 o2 o0 (sN S) (aS S 103 200 200) (aD S D124)
def f_X0_init (o0 : Nat) (o1 : Nat) (o2 : Nat) (S : sh) (D : dt) : Option (Unit × sh × dt) := f_X0_init_11 o0 o1 o2 o0 (sN S) (aS S 204 200 200) (aD S D)
-- JudgedCode$Judge.forgetScenes
def f_X0_forgetScenes_33 (S : sh) (k7 : Nat → Int32 → dt → Option (Unit × dt)) (o0 : Nat) (x1 : Int32) (D : dt) : Option (Unit × dt) := nm (x1 + 1) fun y24 => k7 o0 y24 D
def f_X0_forgetScenes_7 (S : sh) : Nat → Nat → Int32 → dt → Option (Unit × dt)
  | 0, _, _, _ => none
  | n + 1, o0, x1, D => if (200 : Int32) ≤ x1 then (some ((), D)) else (rq (gR D o0 2) fun o26 => ix x1 (sA S o26) <| oq (gR D o26 x1.toNatClampNeg) (f_X0_forgetScenes_33 S (f_X0_forgetScenes_7 S n) o0 x1 D) fun o31 => rq (gR D o0 2) fun o35 => ix x1 (sA S o35) <| oq (gR D o35 x1.toNatClampNeg) (none) fun o40 => nm (pI D o40 0 (0 : Int32)) fun D44 => f_X0_forgetScenes_33 S (f_X0_forgetScenes_7 S n) o0 x1 D44)
def f_X0_forgetScenes (S : sh) (o0 : Nat) (D : dt) : Option (Unit × dt) := nm (pI D o0 7 (-1 : Int32)) fun D45 => nm ((0 : Int32)) fun y46 => f_X0_forgetScenes_7 S LF o0 y46 D45
-- JudgedCode$Judge.markSeconds
def f_X0_markSeconds_45 (S : sh) (k4 : Nat → Int32 → Int32 → dt → Option (Unit × dt)) (o0 : Nat) (x2 : Int32) (xs0 : Int32) (D : dt) : Option (Unit × dt) := nm (x2 + 1) fun y26 => k4 o0 xs0 y26 D
def f_X0_markSeconds_44 (S : sh) (k4 : Nat → Int32 → Int32 → dt → Option (Unit × dt)) (o0 : Nat) (x2 : Int32) (D : dt) : Option (Unit × dt) := f_X0_markSeconds_45 S k4 o0 x2 (0 : Int32) D
def f_X0_markSeconds_4 (S : sh) : Nat → Nat → Int32 → Int32 → dt → Option (Unit × dt)
  | 0, _, _, _, _ => none
  | n + 1, o0, x1, x2, D => rq (gR D o0 0) fun o27 => if (gI D o27 5) ≤ x2 then (some ((), D)) else (rq (gR D o0 3) fun o32 => ix x2 (sA S o32) <| nm (pI D o32 x2.toNatClampNeg (vp_nar .boolean x1)) fun D37 => if x1 = 0 then (rq (gR D37 o0 0) fun o39 => rq (gR D37 o39 0) fun o43 => ix x2 (sA S o43) <| if (gI D37 o43 x2.toNatClampNeg) = (24 : Int32) then (f_X0_markSeconds_45 S (f_X0_markSeconds_4 S n) o0 x2 (1 : Int32) D37) else (f_X0_markSeconds_44 S (f_X0_markSeconds_4 S n) o0 x2 D37)) else (f_X0_markSeconds_44 S (f_X0_markSeconds_4 S n) o0 x2 D37))
def f_X0_markSeconds (S : sh) (o0 : Nat) (D : dt) : Option (Unit × dt) := nm ((0 : Int32)) fun y49 => nm ((0 : Int32)) fun y50 => f_X0_markSeconds_4 S LF o0 y49 y50 D
-- JudgedCode$Judge.sceneAt
def f_X0_sceneAt_31 (S : sh) (D : dt) : Option (Option Nat) := some none
def f_X0_sceneAt (S : sh) (D : dt) (o0 : Nat) (x1 : Int32) : Option (Option Nat) := if x1 < 0 then (some none) else (if x1 < (200 : Int32) then (rq (gR D o0 2) fun o15 => ix x1 (sA S o15) <| oq (gR D o15 x1.toNatClampNeg) (f_X0_sceneAt_31 S D) fun o20 => if (gI D o20 0) = 0 then (f_X0_sceneAt_31 S D) else (some (some o20))) else (some none))
-- JudgedCode$Judge.judgePair
def f_X0_judgePair_138 (S : sh) (o0 : Nat) (x1 : Int32) (D : dt) : Option (Int32 × dt) := nm (pL D o0 9 ((x1 + (2 : Int32)).toInt64)) fun D81 => some ((0 : Int32), D81)
def f_X0_judgePair_46 (S : sh) (o0 : Nat) (x1 : Int32) (x2 : Int32) (x3 : Int32) (D : dt) : Option (Int32 × dt) := rq (gR D o0 0) fun o82 => pq (f_X4_has S D o82 (x1 + (1 : Int32))) fun r87 => if r87 = 0 then (some ((6 : Int32), D)) else (if x3 = 0 then (rq (gR D o0 0) fun o90 => rq (gR D o90 4) fun o94 => ix (x1 + (1 : Int32)) (sA S o94) <| nm ((j_lshl ((gI D o94 (x1 + (1 : Int32)).toNatClampNeg).toInt64) (32 : Int32)) ||| (x2.toInt64 &&& (4294967295 : Int64))) fun y99 => rq (gR D o0 4) fun o100 => rq (gR D o0 0) fun o104 => rq (gR D o104 1) fun o108 => ix x1 (sA S o108) <| cq (f_X5_write S o100 (gI D o108 x1.toNatClampNeg) (1 : Int32) y99 y99 D) fun _ D114 => f_X0_judgePair_138 S o0 x1 D114) else (rq (gR D o0 4) fun o115 => rq (gR D o0 0) fun o119 => rq (gR D o119 1) fun o123 => ix x1 (sA S o123) <| pq (f_X5_tagOf (4 : Int32) x2 (0 : Int32)) fun r129 => cq (f_X5_write S o115 (gI D o123 x1.toNatClampNeg) r129 (0 : Int64) (0 : Int64) D) fun _ D131 => f_X0_judgePair_138 S o0 x1 D131))
def f_X0_judgePair_28 (S : sh) (o0 : Nat) (x1 : Int32) (x2 : Int32) (xs0 : Int32) (D : dt) : Option (Int32 × dt) := if xs0 = 0 then (f_X0_judgePair_46 S o0 x1 x2 xs0 D) else (rq (gR D o0 1) fun o133 => pq (f_X2_tableNumbered S D o133 x2) fun r138 => oq r138 (some ((4 : Int32), D)) fun o139 => f_X0_judgePair_46 S o0 x1 x2 xs0 D)
def f_X0_judgePair (S : sh) (o0 : Nat) (x1 : Int32) (D : dt) : Option (Int32 × dt) := rq (gR D o0 0) fun o141 => rq (gR D o141 4) fun o145 => ix x1 (sA S o145) <| nm (gI D o145 x1.toNatClampNeg) fun y150 => rq (gR D o0 0) fun o151 => rq (gR D o151 2) fun o155 => ix x1 (sA S o155) <| if (gI D o155 x1.toNatClampNeg) = (1 : Int32) then (f_X0_judgePair_28 S o0 x1 y150 (1 : Int32) D) else (f_X0_judgePair_28 S o0 x1 y150 (0 : Int32) D)
-- JudgedCode$Judge.canBeReached
def f_X0_canBeReached_24 (S : sh) (D : dt) : Option Int32 := some (1 : Int32)
def f_X0_canBeReached (S : sh) (D : dt) (o0 : Nat) (x1 : Int32) : Option Int32 := rq (gR D o0 4) fun o10 => pq (f_X5_kind S D o10 x1) fun r15 => if r15 = (2 : Int32) then (f_X0_canBeReached_24 S D) else (if r15 = (3 : Int32) then (f_X0_canBeReached_24 S D) else (if r15 = (5 : Int32) then (f_X0_canBeReached_24 S D) else (some (0 : Int32))))
-- JudgedCode$Judge.isThere
def f_X0_isThere (S : sh) (D : dt) (o0 : Nat) (x1 : Int32) (x2 : Int32) (x3 : Int32) (x4 : Int32) : Option Int32 := rq (gR D o0 4) fun o54 => rq (gR D o54 2) fun o58 => ix x1 (sA S o58) <| nm ((gL D o58 x1.toNatClampNeg) + x2.toInt64) fun y63 => rq (gR D o0 4) fun o64 => rq (gR D o64 3) fun o68 => ix x1 (sA S o68) <| nm (((gL D o68 x1.toNatClampNeg) + x2.toInt64) + x3.toInt64) fun y73 => rq (gR D o0 4) fun o74 => pq (f_X5_kind S D o74 x1) fun r79 => if r79 = 2 then (if x4 = 0 then (if (lg_cmp y63 (0 : Int64)) < 0 then (some (0 : Int32)) else (rq (gR D o0 1) fun o83 => if 0 < (lg_cmp y73 ((gI D o83 1).toInt64)) then (some (0 : Int32)) else (some (1 : Int32)))) else (some (0 : Int32))) else if r79 = 3 then (if (lg_cmp y63 (-512 : Int64)) < 0 then (some (0 : Int32)) else (if 0 < (lg_cmp y73 (0 : Int64)) then (some (0 : Int32)) else (some (1 : Int32)))) else (rq (gR D o0 1) fun o91 => rq (gR D o0 4) fun o95 => pq (f_X5_tableOf S D o95 x1) fun r100 => pq (f_X2_tableNumbered S D o91 r100) fun r102 => oq r102 (some (0 : Int32)) fun o103 => if (lg_cmp y63 (0 : Int64)) < 0 then (some (0 : Int32)) else (if 0 < (lg_cmp y73 ((gI D o103 2).toInt64)) then (some (0 : Int32)) else (some (1 : Int32))))
-- JudgedCode$Judge.inStack
def f_X0_inStack (S : sh) (D : dt) (o0 : Nat) (x1 : Int32) (x2 : Int32) : Option Int32 := rq (gR D o0 4) fun o10 => rq (gR D o10 2) fun o14 => ix x1 (sA S o14) <| some ((((gL D o14 x1.toNatClampNeg).toInt32) + x2) + (512 : Int32))
-- JudgedCode$Judge.isHeldWhole
def f_X0_isHeldWhole (S : sh) (D : dt) (o0 : Nat) (x1 : Int32) (x2 : Int32) : Option Int32 := if x2 = (8 : Int32) then (if (x1 &&& (7 : Int32)) = 0 then (rq (gR D o0 4) fun o12 => pq (f_X5_holds S D o12 (x1 >>> ((3 : Int32) &&& 31))) fun r17 => if r17 = 0 then (some (0 : Int32)) else (some (1 : Int32))) else (some (0 : Int32))) else (some (0 : Int32))
-- JudgedCode$Judge.canBeRead
def f_X0_canBeRead_58 (S : sh) (D : dt) : Option Int32 := some (1 : Int32)
def f_X0_canBeRead (S : sh) (D : dt) (o0 : Nat) (x1 : Int32) (x2 : Int32) (x3 : Int32) : Option Int32 := pq (f_X0_isThere S D o0 x1 x2 x3 (0 : Int32)) fun r24 => if r24 = 0 then (some (0 : Int32)) else (rq (gR D o0 4) fun o26 => pq (f_X5_kind S D o26 x1) fun r31 => if r31 = (3 : Int32) then (pq (f_X0_inStack S D o0 x1 x2) fun r34 => pq (f_X0_isHeldWhole S D o0 r34 x3) fun r36 => if r36 = 0 then (rq (gR D o0 4) fun o38 => pq (f_X5_areKnown S D o38 r34 x3) fun r43 => if r43 = 0 then (some (0 : Int32)) else (f_X0_canBeRead_58 S D)) else (f_X0_canBeRead_58 S D)) else (some (1 : Int32)))
-- JudgedCode$Judge.judgeLoad
def f_X0_judgeLoad_160 (S : sh) (os0 : Nat) (xs1 : Int32) (xs2 : Int32) (D : dt) : Option (Int32 × dt) := cq (f_X5_writeAny S os0 xs1 xs2 D) fun _ D83 => some ((0 : Int32), D83)
def f_X0_judgeLoad_137 (S : sh) (o0 : Nat) (x1 : Int32) (x2 : Int32) (x4 : Int32) (D : dt) : Option (Int32 × dt) := rq (gR D o0 4) fun o84 => rq (gR D o0 0) fun o88 => pq (f_X4_isSignedLoad S D o88 x1) fun r93 => if r93 = 0 then (f_X0_judgeLoad_160 S o84 x2 x4 D) else (f_X0_judgeLoad_160 S o84 x2 (8 : Int32) D)
def f_X0_judgeLoad_101 (S : sh) (o0 : Nat) (x1 : Int32) (x2 : Int32) (x4 : Int32) (xs0 : Int32) (D : dt) : Option (Int32 × dt) := if xs0 < 0 then (f_X0_judgeLoad_137 S o0 x1 x2 x4 D) else (pq (f_X0_isHeldWhole S D o0 xs0 x4) fun r97 => if r97 = 0 then (f_X0_judgeLoad_137 S o0 x1 x2 x4 D) else (rq (gR D o0 4) fun o99 => cq (f_X5_move S o99 x2 ((11 : Int32) + (xs0 >>> ((3 : Int32) &&& 31))) D) fun _ D104 => some ((0 : Int32), D104)))
def f_X0_judgeLoad (S : sh) (o0 : Nat) (x1 : Int32) (D : dt) : Option (Int32 × dt) := rq (gR D o0 0) fun o105 => rq (gR D o105 1) fun o109 => ix x1 (sA S o109) <| nm (gI D o109 x1.toNatClampNeg) fun y114 => rq (gR D o0 0) fun o115 => rq (gR D o115 2) fun o119 => ix x1 (sA S o119) <| nm (gI D o119 x1.toNatClampNeg) fun y124 => rq (gR D o0 0) fun o125 => pq (f_X4_width S D o125 x1) fun r130 => rq (gR D o0 0) fun o131 => rq (gR D o131 3) fun o135 => ix x1 (sA S o135) <| nm (gI D o135 x1.toNatClampNeg) fun y140 => rq (gR D o0 4) fun o141 => pq (f_X5_isNone S D o141 y124) fun r146 => if r146 = 0 then (pq (f_X0_canBeReached S D o0 y124) fun r149 => if r149 = 0 then (some ((3 : Int32), D)) else (pq (f_X0_canBeRead S D o0 y124 y140 r130) fun r152 => if r152 = 0 then (some ((4 : Int32), D)) else (rq (gR D o0 4) fun o154 => pq (f_X5_kind S D o154 y124) fun r159 => if r159 = (3 : Int32) then (pq (f_X0_inStack S D o0 y124 y140) fun r162 => f_X0_judgeLoad_101 S o0 x1 y114 r130 r162 D) else (f_X0_judgeLoad_101 S o0 x1 y114 r130 (-1 : Int32) D)))) else (some ((2 : Int32), D))
-- JudgedCode$Judge.judgePut
def f_X0_judgePut_169 (S : sh) (o0 : Nat) (x3 : Int32) (x4 : Int32) (x5 : Int32) (x6 : Int32) (x7 : Int32) (x8 : Int32) (D : dt) : Option (Int32 × dt) := pq (f_X0_isThere S D o0 x3 x6 x5 (1 : Int32)) fun r114 => if r114 = 0 then (some ((4 : Int32), D)) else (if x8 = 0 then (if x7 = 0 then (some ((0 : Int32), D)) else (rq (gR D o0 4) fun o118 => pq (f_X0_inStack S D o0 x3 x6) fun r123 => cq (f_X5_putOctets S o118 r123 x5 D) fun _ D125 => some ((0 : Int32), D125))) else (rq (gR D o0 4) fun o126 => pq (f_X0_inStack S D o0 x3 x6) fun r131 => cq (f_X5_hold S o126 (r131 >>> ((3 : Int32) &&& 31)) x4 D) fun _ D133 => some ((0 : Int32), D133)))
def f_X0_judgePut_136 (S : sh) (o0 : Nat) (x2 : Int32) (x3 : Int32) (x4 : Int32) (x5 : Int32) (x6 : Int32) (x7 : Int32) (xs0 : Int32) (D : dt) : Option (Int32 × dt) := pq (f_X0_canBeReached S D o0 x3) fun r135 => if r135 = 0 then (some ((3 : Int32), D)) else (if x2 = 0 then (f_X0_judgePut_169 S o0 x3 x4 x5 x6 x7 xs0 D) else (rq (gR D o0 4) fun o138 => pq (f_X5_isNumber S D o138 x4) fun r143 => if r143 = 0 then (if xs0 = 0 then (some ((3 : Int32), D)) else (f_X0_judgePut_169 S o0 x3 x4 x5 x6 x7 xs0 D)) else (f_X0_judgePut_169 S o0 x3 x4 x5 x6 x7 xs0 D)))
def f_X0_judgePut_135 (S : sh) (o0 : Nat) (x2 : Int32) (x3 : Int32) (x4 : Int32) (x5 : Int32) (x6 : Int32) (x7 : Int32) (D : dt) : Option (Int32 × dt) := f_X0_judgePut_136 S o0 x2 x3 x4 x5 x6 x7 (0 : Int32) D
def f_X0_judgePut_88 (S : sh) (o0 : Nat) (x1 : Int32) (x2 : Int32) (x3 : Int32) (x4 : Int32) (x5 : Int32) (x6 : Int32) (xs0 : Int32) (D : dt) : Option (Int32 × dt) := rq (gR D o0 0) fun o146 => rq (gR D o146 0) fun o150 => ix x1 (sA S o150) <| if (gI D o150 x1.toNatClampNeg) = (123 : Int32) then (if xs0 = 0 then (f_X0_judgePut_135 S o0 x2 x3 x4 x5 x6 xs0 D) else (rq (gR D o0 4) fun o157 => rq (gR D o157 2) fun o161 => ix x3 (sA S o161) <| if (lg_cmp (((gL D o161 x3.toNatClampNeg) + x6.toInt64) &&& (7 : Int64)) (0 : Int64)) = 0 then (f_X0_judgePut_136 S o0 x2 x3 x4 x5 x6 xs0 (1 : Int32) D) else (f_X0_judgePut_135 S o0 x2 x3 x4 x5 x6 xs0 D))) else (f_X0_judgePut_135 S o0 x2 x3 x4 x5 x6 xs0 D)
def f_X0_judgePut_71 (S : sh) (o0 : Nat) (x1 : Int32) (x2 : Int32) (x3 : Int32) (x4 : Int32) (x5 : Int32) (x6 : Int32) (D : dt) : Option (Int32 × dt) := rq (gR D o0 4) fun o167 => pq (f_X5_kind S D o167 x3) fun r172 => if r172 = (3 : Int32) then (f_X0_judgePut_88 S o0 x1 x2 x3 x4 x5 x6 (1 : Int32) D) else (f_X0_judgePut_88 S o0 x1 x2 x3 x4 x5 x6 (0 : Int32) D)
def f_X0_judgePut (S : sh) (o0 : Nat) (x1 : Int32) (x2 : Int32) (D : dt) : Option (Int32 × dt) := rq (gR D o0 0) fun o174 => rq (gR D o174 1) fun o178 => ix x1 (sA S o178) <| nm (gI D o178 x1.toNatClampNeg) fun y183 => rq (gR D o0 0) fun o184 => rq (gR D o184 2) fun o188 => ix x1 (sA S o188) <| nm (gI D o188 x1.toNatClampNeg) fun y193 => rq (gR D o0 0) fun o194 => pq (f_X4_width S D o194 x1) fun r199 => rq (gR D o0 0) fun o200 => rq (gR D o200 3) fun o204 => ix x1 (sA S o204) <| nm (gI D o204 x1.toNatClampNeg) fun y209 => rq (gR D o0 4) fun o210 => pq (f_X5_isNone S D o210 y183) fun r215 => if r215 = 0 then (if x2 = 0 then (f_X0_judgePut_71 S o0 x1 x2 y183 y193 r199 y209 D) else (rq (gR D o0 4) fun o218 => pq (f_X5_isNone S D o218 y193) fun r223 => if r223 = 0 then (f_X0_judgePut_71 S o0 x1 x2 y183 y193 r199 y209 D) else (some ((2 : Int32), D)))) else (some ((2 : Int32), D))
-- JudgedCode$Judge.judgeChange
def f_X0_judgeChange_253 (S : sh) (x4 : Int32) (os0 : Nat) (xs1 : Int32) (D : dt) : Option (Int32 × dt) := cq (f_X5_writeAny S os0 xs1 x4 D) fun _ D131 => some ((0 : Int32), D131)
def f_X0_judgeChange_232 (S : sh) (o0 : Nat) (x3 : Int32) (x4 : Int32) (x6 : Int32) (x7 : Int32) (D : dt) : Option (Int32 × dt) := if (x6 &&& (1 : Int32)) = 0 then (some ((0 : Int32), D)) else (rq (gR D o0 4) fun o133 => if x7 = 0 then (f_X0_judgeChange_253 S x4 o133 x3 D) else (f_X0_judgeChange_253 S x4 o133 (0 : Int32) D))
def f_X0_judgeChange_211 (S : sh) (o0 : Nat) (x2 : Int32) (x3 : Int32) (x4 : Int32) (x5 : Int32) (x6 : Int32) (x7 : Int32) (x8 : Int32) (D : dt) : Option (Int32 × dt) := if x8 = 0 then (f_X0_judgeChange_232 S o0 x3 x4 x6 x7 D) else (rq (gR D o0 4) fun o139 => pq (f_X0_inStack S D o0 x2 x5) fun r144 => cq (f_X5_putOctets S o139 r144 x4 D) fun _ D146 => f_X0_judgeChange_232 S o0 x3 x4 x6 x7 D146)
def f_X0_judgeChange_172 (S : sh) (o0 : Nat) (x2 : Int32) (x3 : Int32) (x4 : Int32) (x5 : Int32) (x6 : Int32) (x7 : Int32) (x8 : Int32) (D : dt) : Option (Int32 × dt) := pq (f_X0_isThere S D o0 x2 x5 x4 (1 : Int32)) fun r148 => if r148 = 0 then (some ((4 : Int32), D)) else (if x8 = 0 then (f_X0_judgeChange_211 S o0 x2 x3 x4 x5 x6 x7 x8 D) else (rq (gR D o0 4) fun o151 => pq (f_X0_inStack S D o0 x2 x5) fun r156 => pq (f_X5_areKnown S D o151 r156 x4) fun r158 => if r158 = 0 then (some ((4 : Int32), D)) else (f_X0_judgeChange_211 S o0 x2 x3 x4 x5 x6 x7 x8 D)))
def f_X0_judgeChange_143 (S : sh) (o0 : Nat) (x2 : Int32) (x3 : Int32) (x4 : Int32) (x5 : Int32) (x6 : Int32) (x7 : Int32) (x8 : Int32) (D : dt) : Option (Int32 × dt) := rq (gR D o0 4) fun o160 => pq (f_X5_isNumber S D o160 x3) fun r165 => if r165 = 0 then (some ((3 : Int32), D)) else (if x7 = 0 then (f_X0_judgeChange_172 S o0 x2 x3 x4 x5 x6 x7 x8 D) else (rq (gR D o0 4) fun o168 => pq (f_X5_isNumber S D o168 (0 : Int32)) fun r173 => if r173 = 0 then (some ((3 : Int32), D)) else (f_X0_judgeChange_172 S o0 x2 x3 x4 x5 x6 x7 x8 D)))
def f_X0_judgeChange_124 (S : sh) (o0 : Nat) (x2 : Int32) (x3 : Int32) (x4 : Int32) (x5 : Int32) (x6 : Int32) (x7 : Int32) (xs0 : Int32) (D : dt) : Option (Int32 × dt) := if xs0 = 0 then (rq (gR D o0 4) fun o176 => pq (f_X5_kind S D o176 x2) fun r181 => if r181 = (5 : Int32) then (f_X0_judgeChange_143 S o0 x2 x3 x4 x5 x6 x7 xs0 D) else (some ((3 : Int32), D))) else (f_X0_judgeChange_143 S o0 x2 x3 x4 x5 x6 x7 xs0 D)
def f_X0_judgeChange_107 (S : sh) (o0 : Nat) (x2 : Int32) (x3 : Int32) (x4 : Int32) (x5 : Int32) (x6 : Int32) (x7 : Int32) (D : dt) : Option (Int32 × dt) := rq (gR D o0 4) fun o183 => pq (f_X5_kind S D o183 x2) fun r188 => if r188 = (3 : Int32) then (f_X0_judgeChange_124 S o0 x2 x3 x4 x5 x6 x7 (1 : Int32) D) else (f_X0_judgeChange_124 S o0 x2 x3 x4 x5 x6 x7 (0 : Int32) D)
def f_X0_judgeChange_65 (S : sh) (o0 : Nat) (x2 : Int32) (x3 : Int32) (x4 : Int32) (x5 : Int32) (x6 : Int32) (xs0 : Int32) (D : dt) : Option (Int32 × dt) := rq (gR D o0 4) fun o190 => pq (f_X5_isNone S D o190 x2) fun r195 => if r195 = 0 then (rq (gR D o0 4) fun o197 => pq (f_X5_isNone S D o197 x3) fun r202 => if r202 = 0 then (if xs0 = 0 then (f_X0_judgeChange_107 S o0 x2 x3 x4 x5 x6 xs0 D) else (rq (gR D o0 4) fun o205 => pq (f_X5_isNone S D o205 (0 : Int32)) fun r210 => if r210 = 0 then (f_X0_judgeChange_107 S o0 x2 x3 x4 x5 x6 xs0 D) else (some ((2 : Int32), D)))) else (some ((2 : Int32), D))) else (some ((2 : Int32), D))
def f_X0_judgeChange (S : sh) (o0 : Nat) (x1 : Int32) (D : dt) : Option (Int32 × dt) := rq (gR D o0 0) fun o212 => rq (gR D o212 1) fun o216 => ix x1 (sA S o216) <| nm (gI D o216 x1.toNatClampNeg) fun y221 => rq (gR D o0 0) fun o222 => rq (gR D o222 2) fun o226 => ix x1 (sA S o226) <| nm (gI D o226 x1.toNatClampNeg) fun y231 => rq (gR D o0 0) fun o232 => pq (f_X4_width S D o232 x1) fun r237 => rq (gR D o0 0) fun o238 => rq (gR D o238 3) fun o242 => ix x1 (sA S o242) <| nm (gI D o242 x1.toNatClampNeg) fun y247 => rq (gR D o0 0) fun o248 => rq (gR D o248 4) fun o252 => ix x1 (sA S o252) <| nm (gI D o252 x1.toNatClampNeg) fun y257 => if y257 = (241 : Int32) then (f_X0_judgeChange_65 S o0 y221 y231 r237 y247 y257 (1 : Int32) D) else (f_X0_judgeChange_65 S o0 y221 y231 r237 y247 y257 (0 : Int32) D)
theorem mk_X0_init : MkI yX0_init cX0_init 3 2 := ⟨⟨lk_253, lk_118, (tb_in (i := 254) (by decide +kernel) (by decide +kernel))⟩, rfl, by decide +kernel⟩
theorem mk_X0_forgetScenes : MkV yX0_forgetScenes RX0 cX0_forgetScenes 2 none 0 := ⟨⟨lk_463, lk_0, lk_118, (tb_in (i := 464) (by decide +kernel) (by decide +kernel))⟩, by decide +kernel⟩
theorem mk_X0_markSeconds : MkV yX0_markSeconds RX0 cX0_markSeconds 3 none 0 := ⟨⟨lk_467, lk_1, lk_118, (tb_in (i := 468) (by decide +kernel) (by decide +kernel))⟩, by decide +kernel⟩
theorem mk_X0_sceneAt : MkV yX0_sceneAt RX0 cX0_sceneAt 3 (some (.object RX5)) 1 := ⟨⟨lk_491, lk_492, lk_118, (tb_in (i := 493) (by decide +kernel) (by decide +kernel))⟩, by decide +kernel⟩
theorem mk_X0_judgePair : MkV yX0_judgePair RX0 cX0_judgePair 6 (some .int) 1 := ⟨⟨lk_562, lk_10, lk_118, (tb_in (i := 563) (by decide +kernel) (by decide +kernel))⟩, by decide +kernel⟩
theorem mk_X0_canBeReached : MkV yX0_canBeReached RX0 cX0_canBeReached 3 (some .boolean) 1 := ⟨⟨lk_585, lk_12, lk_118, (tb_in (i := 586) (by decide +kernel) (by decide +kernel))⟩, by decide +kernel⟩
theorem mk_X0_isThere : MkV yX0_isThere RX0 cX0_isThere 10 (some .boolean) 4 := ⟨⟨lk_597, lk_14, lk_118, (tb_in (i := 598) (by decide +kernel) (by decide +kernel))⟩, by decide +kernel⟩
theorem mk_X0_inStack : MkV yX0_inStack RX0 cX0_inStack 3 (some .int) 2 := ⟨⟨lk_606, lk_15, lk_118, (tb_in (i := 607) (by decide +kernel) (by decide +kernel))⟩, by decide +kernel⟩
theorem mk_X0_isHeldWhole : MkV yX0_isHeldWhole RX0 cX0_isHeldWhole 3 (some .boolean) 2 := ⟨⟨lk_610, lk_16, lk_118, (tb_in (i := 611) (by decide +kernel) (by decide +kernel))⟩, by decide +kernel⟩
theorem mk_X0_canBeRead : MkV yX0_canBeRead RX0 cX0_canBeRead 5 (some .boolean) 3 := ⟨⟨lk_593, lk_13, lk_118, (tb_in (i := 594) (by decide +kernel) (by decide +kernel))⟩, by decide +kernel⟩
theorem mk_X0_judgeLoad : MkV yX0_judgeLoad RX0 cX0_judgeLoad 7 (some .int) 1 := ⟨⟨lk_576, lk_11, lk_118, (tb_in (i := 577) (by decide +kernel) (by decide +kernel))⟩, by decide +kernel⟩
theorem mk_X0_judgePut : MkV yX0_judgePut RX0 cX0_judgePut 9 (some .int) 2 := ⟨⟨lk_636, lk_18, lk_118, (tb_in (i := 637) (by decide +kernel) (by decide +kernel))⟩, by decide +kernel⟩
theorem mk_X0_judgeChange : MkV yX0_judgeChange RX0 cX0_judgeChange 9 (some .int) 1 := ⟨⟨lk_665, lk_21, lk_118, (tb_in (i := 666) (by decide +kernel) (by decide +kernel))⟩, by decide +kernel⟩
section
variable {p : Program} {l : Launch} {e : Env} {R : Room} {s : State} {m : MethodId} {args : Array Value} {below : List Frame} {meth : Method} {c : Code} {H : Heap} {locs : List Loc} {G : va_G} {cA : Nat → ClassId} {S : sh} {D : dt} {ad : Nat → Nat} {A : Nat → Prop}
theorem mn_X0_init_49 {r : Unit} {S' : sh} {D' : dt} {o0 : Nat} {o1 : Nat} {o2 : Nat} {os0 : Nat} {os1 : Nat} {S : sh} {D : dt} (h : f_X0_init_49 o0 o1 o2 os0 os1 S D = some (r, S', D')) : Ext S S' := by
  unfold f_X0_init_49 at h
  obtain ⟨_, D71, hq70, h⟩ := cq_i h
  have h := nm_i h _ rfl
  have h := nm_i h _ rfl
  have h := nm_i h _ rfl
  have h := nm_i h _ rfl
  cases h
  exact Ext.rf _
set_option maxHeartbeats 4000000 in
set_option maxRecDepth 100000 in
theorem w_X0_init_49 {r : Unit} {S' : sh} {D' : dt} {S0 : sh} {ad0 : Nat → Nat} (hC : Cx RX0 cX0_init 3 none p s m args meth c) (hin : meth.name = "<init>") (hR : 2 ≤ R.frames ∧ 40 ≤ R.locals) (ho : R.cells = sN S' - sN S0 ∧ R.slots = sZ S' - sZ S0) : ∀ (o0 a0 : Nat) (o1 a1 : Nat) (o2 a2 : Nat) (os0 as0 : Nat) (os1 as1 : Nat) (S : sh) (D : dt) (ad : Nat → Nat) (H : Heap) (locs : List Loc) (ls : Array Slot) (cells slots : Nat), Is S ad o0 a0 0 → Is S ad o1 a1 3 → Is S ad o2 a2 2 → Is S ad os0 as0 0 → Is S ad os1 as1 5 → Wd G cA S D ad A s H locs → Al S0 ad0 S ad cells slots → lv_has ls 3 [(0, .ref a0), (1, .ref a1), (2, .ref a2)] → f_X0_init_49 o0 o1 o2 os0 os1 S D = some (r, S', D') → W p l e R s m args below meth c H locs cells slots (MQ below (Qa (fun _ => none) (fun ad' => (∀ k, k < sN S0 → ad' k = ad0 k) ∧ True) (fun ad' => wpost G cA S' D' ad' A) A) args s (sN S' - sN S0) (sZ S' - sZ S0) A) (F0 m 49 ls [.ref as1, .ref as0]) := by
  obtain ⟨hx, hb, -⟩ := id hC
  intro o0 a0 o1 a1 o2 a2 os0 as0 os1 as1 S D ad H locs ls cells slots hi0 hi1 hi2 his0 his1 hw hc hl h
  have hE : Ext S S' := mn_X0_init_49  h
  unfold f_X0_init_49 at h
  refine lv_dup hx hb dX0_init_49 rfl ?_
  obtain ⟨_, D71, hq70, h⟩ := cq_i h
  refine r_cIN (st' := [.ref as1, .ref as0]) [] [.ref as1, .ref as0] hC hw (k_X6_init _ his1 hq70) mk_X6_init hw.2.2.2.2.2.2.n3 ⟨Nat.le_trans (by decide) hR.1, Nat.le_trans (by decide) hR.2⟩ (hc.le ho hE) rfl hl.1 rfl rfl (Nat.le_of_ble_eq_true rfl) dX0_init_50 (fun hP H locs hw => ?_)
  refine r_pRF hC hin hw kc_0 his0 6 rfl lk_323 rfl rfl rfl rfl rfl his1 dX0_init_53 (fun D72 eD72 H locs hw => ?_)
  have h := nm_i h D72 eD72
  refine lv_aload_n hx hb dX0_init_56 rfl (lv_at hl 0 rfl) ?_
  refine lv_iconst (v := (-1)) hx hb dX0_init_57 (by decide) ?_
  refine r_pI hC hw kc_0 hi0 7 rfl lk_324 rfl rfl rfl dX0_init_58 (fun D73 eD73 H locs hw => ?_)
  have h := nm_i h D73 eD73
  refine lv_aload_n hx hb dX0_init_61 rfl (lv_at hl 0 rfl) ?_
  refine lv_aload_n hx hb dX0_init_62 rfl (lv_at hl 1 rfl) ?_
  refine r_pRF hC hin hw kc_0 hi0 0 rfl lk_317 rfl rfl rfl rfl rfl hi1 dX0_init_63 (fun D74 eD74 H locs hw => ?_)
  have h := nm_i h D74 eD74
  refine lv_aload_n hx hb dX0_init_66 rfl (lv_at hl 0 rfl) ?_
  refine lv_aload_n hx hb dX0_init_67 rfl (lv_at hl 2 rfl) ?_
  refine r_pRF hC hin hw kc_0 hi0 1 rfl lk_318 rfl rfl rfl rfl rfl hi2 dX0_init_68 (fun D75 eD75 H locs hw => ?_)
  have h := nm_i h D75 eD75
  cases h
  exact r_vretA hC hw hc dX0_init_71
theorem mn_X0_init_42 {r : Unit} {S' : sh} {D' : dt} {o0 : Nat} {o1 : Nat} {o2 : Nat} {os0 : Nat} {os1 : Nat} {S : sh} {D : dt} (h : f_X0_init_42 o0 o1 o2 os0 os1 S D = some (r, S', D')) : Ext S S' := by
  unfold f_X0_init_42 at h
  have h := nm_i h _ rfl
  have hA := (Ext.aS S 5 0 7)
  exact hA.tr (mn_X0_init_49 h)
set_option maxHeartbeats 4000000 in
set_option maxRecDepth 100000 in
theorem w_X0_init_42 {r : Unit} {S' : sh} {D' : dt} {S0 : sh} {ad0 : Nat → Nat} (hC : Cx RX0 cX0_init 3 none p s m args meth c) (hin : meth.name = "<init>") (hR : 2 ≤ R.frames ∧ 40 ≤ R.locals) (ho : R.cells = sN S' - sN S0 ∧ R.slots = sZ S' - sZ S0) : ∀ (o0 a0 : Nat) (o1 a1 : Nat) (o2 a2 : Nat) (os0 as0 : Nat) (os1 as1 : Nat) (S : sh) (D : dt) (ad : Nat → Nat) (H : Heap) (locs : List Loc) (ls : Array Slot) (cells slots : Nat), Is S ad o0 a0 0 → Is S ad o1 a1 3 → Is S ad o2 a2 2 → Is S ad os0 as0 0 → Is S ad os1 as1 4 → Wd G cA S D ad A s H locs → Al S0 ad0 S ad cells slots → lv_has ls 3 [(0, .ref a0), (1, .ref a1), (2, .ref a2)] → f_X0_init_42 o0 o1 o2 os0 os1 S D = some (r, S', D') → W p l e R s m args below meth c H locs cells slots (MQ below (Qa (fun _ => none) (fun ad' => (∀ k, k < sN S0 → ad' k = ad0 k) ∧ True) (fun ad' => wpost G cA S' D' ad' A) A) args s (sN S' - sN S0) (sZ S' - sZ S0) A) (F0 m 42 ls [.ref as1, .ref as0]) := by
  obtain ⟨hx, hb, -⟩ := id hC
  intro o0 a0 o1 a1 o2 a2 os0 as0 os1 as1 S D ad H locs ls cells slots hi0 hi1 hi2 his0 his1 hw hc hl h
  have hE : Ext S S' := mn_X0_init_42  h
  unfold f_X0_init_42 at h
  refine r_pRF hC hin hw kc_0 his0 5 rfl lk_322 rfl rfl rfl rfl rfl his1 dX0_init_42 (fun D76 eD76 H locs hw => ?_)
  have h := nm_i h D76 eD76
  refine lv_aload_n hx hb dX0_init_45 rfl (lv_at hl 0 rfl) ?_
  have hE79 := mn_X0_init_49 h
  refine r_new hC hw kc_5 df_5 lk_287 lk_288 lk_120 (hc.room ho hE79).1 (hc.room ho hE79).2 dX0_init_46 (fun q77 H hw hi78 => ?_)
  have hi80 := Is.up hi0 (Ext.aS S 5 0 7) (up_lt (q := q77))
  have hi81 := Is.up hi1 (Ext.aS S 5 0 7) (up_lt (q := q77))
  have hi82 := Is.up hi2 (Ext.aS S 5 0 7) (up_lt (q := q77))
  have hc := hc.new 5 0 7 q77
  exact w_X0_init_49 hC hin hR ho o0 a0 o1 a1 o2 a2 o0 a0 (sN S) q77 _ _ _ _ _ _ _ _ hi80 hi81 hi82 hi80 hi78 hw hc (lv_sub hl [0, 1, 2] rfl) h --j83
theorem mn_X0_init_38 {r : Unit} {S' : sh} {D' : dt} {o0 : Nat} {o1 : Nat} {o2 : Nat} {os0 : Nat} {os1 : Nat} {S : sh} {D : dt} (h : f_X0_init_38 o0 o1 o2 os0 os1 S D = some (r, S', D')) : Ext S S' := by
  unfold f_X0_init_38 at h
  obtain ⟨_, S86, D85, hq84, h⟩ := c3_i h
  have hA := mn_X5_init_0 hq84
  exact hA.tr (mn_X0_init_42 h)
set_option maxHeartbeats 4000000 in
set_option maxRecDepth 100000 in
theorem w_X0_init_38 {r : Unit} {S' : sh} {D' : dt} {S0 : sh} {ad0 : Nat → Nat} (hC : Cx RX0 cX0_init 3 none p s m args meth c) (hin : meth.name = "<init>") (hR : 2 ≤ R.frames ∧ 40 ≤ R.locals) (ho : R.cells = sN S' - sN S0 ∧ R.slots = sZ S' - sZ S0) : ∀ (o0 a0 : Nat) (o1 a1 : Nat) (o2 a2 : Nat) (os0 as0 : Nat) (os1 as1 : Nat) (S : sh) (D : dt) (ad : Nat → Nat) (H : Heap) (locs : List Loc) (ls : Array Slot) (cells slots : Nat), Is S ad o0 a0 0 → Is S ad o1 a1 3 → Is S ad o2 a2 2 → Is S ad os0 as0 0 → Is S ad os1 as1 4 → Wd G cA S D ad A s H locs → Al S0 ad0 S ad cells slots → lv_has ls 3 [(0, .ref a0), (1, .ref a1), (2, .ref a2)] → f_X0_init_38 o0 o1 o2 os0 os1 S D = some (r, S', D') → W p l e R s m args below meth c H locs cells slots (MQ below (Qa (fun _ => none) (fun ad' => (∀ k, k < sN S0 → ad' k = ad0 k) ∧ True) (fun ad' => wpost G cA S' D' ad' A) A) args s (sN S' - sN S0) (sZ S' - sZ S0) A) (F0 m 38 ls [.ref as1, .ref as0]) := by
  obtain ⟨hx, hb, -⟩ := id hC
  intro o0 a0 o1 a1 o2 a2 os0 as0 os1 as1 S D ad H locs ls cells slots hi0 hi1 hi2 his0 his1 hw hc hl h
  have hE : Ext S S' := mn_X0_init_38  h
  unfold f_X0_init_38 at h
  refine lv_dup hx hb dX0_init_38 rfl ?_
  obtain ⟨_, S86, D85, hq84, h⟩ := c3_i h
  have hE87 := mn_X5_init_0 hq84
  have hE88 := mn_X0_init_42 h
  refine r_cINA [] [.ref as1, .ref as0] hC hw (k_X5_init _ his1 hq84) mk_X5_init hw.2.2.2.2.2.2.n2 ⟨Nat.le_trans (by decide) hR.1, Nat.le_trans (by decide) hR.2⟩ (hc.roomC ho hE87 hE88) rfl hl.1 rfl (Nat.le_of_ble_eq_true rfl) dX0_init_39 (fun ad89 hP H locs hw => ?_)
  refine W.eq (g2 := F0 m 42 ls [.ref as1, .ref as0]) rfl ?_
  have hi90 := Is.up his1 hE87 hP.1
  have hi91 := Is.up his0 hE87 hP.1
  have hi92 := Is.up hi0 hE87 hP.1
  have hi93 := Is.up hi1 hE87 hP.1
  have hi94 := Is.up hi2 hE87 hP.1
  have hc := hc.call hE87 hP.1
  exact w_X0_init_42 hC hin hR ho o0 a0 o1 a1 o2 a2 os0 as0 os1 as1 _ _ _ _ _ _ _ _ hi92 hi93 hi94 hi91 hi90 hw hc (lv_sub hl [0, 1, 2] rfl) h --j95
theorem mn_X0_init_31 {r : Unit} {S' : sh} {D' : dt} {o0 : Nat} {o1 : Nat} {o2 : Nat} {os0 : Nat} {os1 : Nat} {S : sh} {D : dt} (h : f_X0_init_31 o0 o1 o2 os0 os1 S D = some (r, S', D')) : Ext S S' := by
  unfold f_X0_init_31 at h
  have h := nm_i h _ rfl
  have hA := (Ext.aS S 4 0 6)
  exact hA.tr (mn_X0_init_38 h)
set_option maxHeartbeats 4000000 in
set_option maxRecDepth 100000 in
theorem w_X0_init_31 {r : Unit} {S' : sh} {D' : dt} {S0 : sh} {ad0 : Nat → Nat} (hC : Cx RX0 cX0_init 3 none p s m args meth c) (hin : meth.name = "<init>") (hR : 2 ≤ R.frames ∧ 40 ≤ R.locals) (ho : R.cells = sN S' - sN S0 ∧ R.slots = sZ S' - sZ S0) : ∀ (o0 a0 : Nat) (o1 a1 : Nat) (o2 a2 : Nat) (os0 as0 : Nat) (os1 as1 : Nat) (S : sh) (D : dt) (ad : Nat → Nat) (H : Heap) (locs : List Loc) (ls : Array Slot) (cells slots : Nat), Is S ad o0 a0 0 → Is S ad o1 a1 3 → Is S ad o2 a2 2 → Is S ad os0 as0 0 → Is S ad os1 as1 4 → Wd G cA S D ad A s H locs → Al S0 ad0 S ad cells slots → lv_has ls 3 [(0, .ref a0), (1, .ref a1), (2, .ref a2)] → f_X0_init_31 o0 o1 o2 os0 os1 S D = some (r, S', D') → W p l e R s m args below meth c H locs cells slots (MQ below (Qa (fun _ => none) (fun ad' => (∀ k, k < sN S0 → ad' k = ad0 k) ∧ True) (fun ad' => wpost G cA S' D' ad' A) A) args s (sN S' - sN S0) (sZ S' - sZ S0) A) (F0 m 31 ls [.ref as1, .ref as0]) := by
  obtain ⟨hx, hb, -⟩ := id hC
  intro o0 a0 o1 a1 o2 a2 os0 as0 os1 as1 S D ad H locs ls cells slots hi0 hi1 hi2 his0 his1 hw hc hl h
  have hE : Ext S S' := mn_X0_init_31  h
  unfold f_X0_init_31 at h
  refine r_pRF hC hin hw kc_0 his0 4 rfl lk_321 rfl rfl rfl rfl rfl his1 dX0_init_31 (fun D96 eD96 H locs hw => ?_)
  have h := nm_i h D96 eD96
  refine lv_aload_n hx hb dX0_init_34 rfl (lv_at hl 0 rfl) ?_
  have hE99 := mn_X0_init_38 h
  refine r_new hC hw kc_4 df_4 lk_256 lk_258 lk_119 (hc.room ho hE99).1 (hc.room ho hE99).2 dX0_init_35 (fun q97 H hw hi98 => ?_)
  have hi100 := Is.up hi0 (Ext.aS S 4 0 6) (up_lt (q := q97))
  have hi101 := Is.up hi1 (Ext.aS S 4 0 6) (up_lt (q := q97))
  have hi102 := Is.up hi2 (Ext.aS S 4 0 6) (up_lt (q := q97))
  have hc := hc.new 4 0 6 q97
  exact w_X0_init_38 hC hin hR ho o0 a0 o1 a1 o2 a2 o0 a0 (sN S) q97 _ _ _ _ _ _ _ _ hi100 hi101 hi102 hi100 hi98 hw hc (lv_sub hl [0, 1, 2] rfl) h --j103
theorem mn_X0_init_27 {r : Unit} {S' : sh} {D' : dt} {o0 : Nat} {o1 : Nat} {o2 : Nat} {os0 : Nat} {os1 : Nat} {S : sh} {D : dt} (h : f_X0_init_27 o0 o1 o2 os0 os1 S D = some (r, S', D')) : Ext S S' := by
  unfold f_X0_init_27 at h
  obtain ⟨_, S106, D105, hq104, h⟩ := c3_i h
  have hA := mn_X5_init_0 hq104
  exact hA.tr (mn_X0_init_31 h)
set_option maxHeartbeats 4000000 in
set_option maxRecDepth 100000 in
theorem w_X0_init_27 {r : Unit} {S' : sh} {D' : dt} {S0 : sh} {ad0 : Nat → Nat} (hC : Cx RX0 cX0_init 3 none p s m args meth c) (hin : meth.name = "<init>") (hR : 2 ≤ R.frames ∧ 40 ≤ R.locals) (ho : R.cells = sN S' - sN S0 ∧ R.slots = sZ S' - sZ S0) : ∀ (o0 a0 : Nat) (o1 a1 : Nat) (o2 a2 : Nat) (os0 as0 : Nat) (os1 as1 : Nat) (S : sh) (D : dt) (ad : Nat → Nat) (H : Heap) (locs : List Loc) (ls : Array Slot) (cells slots : Nat), Is S ad o0 a0 0 → Is S ad o1 a1 3 → Is S ad o2 a2 2 → Is S ad os0 as0 0 → Is S ad os1 as1 4 → Wd G cA S D ad A s H locs → Al S0 ad0 S ad cells slots → lv_has ls 3 [(0, .ref a0), (1, .ref a1), (2, .ref a2)] → f_X0_init_27 o0 o1 o2 os0 os1 S D = some (r, S', D') → W p l e R s m args below meth c H locs cells slots (MQ below (Qa (fun _ => none) (fun ad' => (∀ k, k < sN S0 → ad' k = ad0 k) ∧ True) (fun ad' => wpost G cA S' D' ad' A) A) args s (sN S' - sN S0) (sZ S' - sZ S0) A) (F0 m 27 ls [.ref as1, .ref as0]) := by
  obtain ⟨hx, hb, -⟩ := id hC
  intro o0 a0 o1 a1 o2 a2 os0 as0 os1 as1 S D ad H locs ls cells slots hi0 hi1 hi2 his0 his1 hw hc hl h
  have hE : Ext S S' := mn_X0_init_27  h
  unfold f_X0_init_27 at h
  refine lv_dup hx hb dX0_init_27 rfl ?_
  obtain ⟨_, S106, D105, hq104, h⟩ := c3_i h
  have hE107 := mn_X5_init_0 hq104
  have hE108 := mn_X0_init_31 h
  refine r_cINA [] [.ref as1, .ref as0] hC hw (k_X5_init _ his1 hq104) mk_X5_init hw.2.2.2.2.2.2.n2 ⟨Nat.le_trans (by decide) hR.1, Nat.le_trans (by decide) hR.2⟩ (hc.roomC ho hE107 hE108) rfl hl.1 rfl (Nat.le_of_ble_eq_true rfl) dX0_init_28 (fun ad109 hP H locs hw => ?_)
  refine W.eq (g2 := F0 m 31 ls [.ref as1, .ref as0]) rfl ?_
  have hi110 := Is.up his1 hE107 hP.1
  have hi111 := Is.up his0 hE107 hP.1
  have hi112 := Is.up hi0 hE107 hP.1
  have hi113 := Is.up hi1 hE107 hP.1
  have hi114 := Is.up hi2 hE107 hP.1
  have hc := hc.call hE107 hP.1
  exact w_X0_init_31 hC hin hR ho o0 a0 o1 a1 o2 a2 os0 as0 os1 as1 _ _ _ _ _ _ _ _ hi112 hi113 hi114 hi111 hi110 hw hc (lv_sub hl [0, 1, 2] rfl) h --j115
theorem mn_X0_init_20 {r : Unit} {S' : sh} {D' : dt} {o0 : Nat} {o1 : Nat} {o2 : Nat} {os0 : Nat} {os1 : Nat} {S : sh} {D : dt} (h : f_X0_init_20 o0 o1 o2 os0 os1 S D = some (r, S', D')) : Ext S S' := by
  unfold f_X0_init_20 at h
  have h := nm_i h _ rfl
  have hA := (Ext.aS S 4 0 6)
  exact hA.tr (mn_X0_init_27 h)
set_option maxHeartbeats 4000000 in
set_option maxRecDepth 100000 in
theorem w_X0_init_20 {r : Unit} {S' : sh} {D' : dt} {S0 : sh} {ad0 : Nat → Nat} (hC : Cx RX0 cX0_init 3 none p s m args meth c) (hin : meth.name = "<init>") (hR : 2 ≤ R.frames ∧ 40 ≤ R.locals) (ho : R.cells = sN S' - sN S0 ∧ R.slots = sZ S' - sZ S0) : ∀ (o0 a0 : Nat) (o1 a1 : Nat) (o2 a2 : Nat) (os0 as0 : Nat) (os1 as1 : Nat) (S : sh) (D : dt) (ad : Nat → Nat) (H : Heap) (locs : List Loc) (ls : Array Slot) (cells slots : Nat), Is S ad o0 a0 0 → Is S ad o1 a1 3 → Is S ad o2 a2 2 → Is S ad os0 as0 0 → Is S ad os1 as1 103 → Wd G cA S D ad A s H locs → Al S0 ad0 S ad cells slots → lv_has ls 3 [(0, .ref a0), (1, .ref a1), (2, .ref a2)] → f_X0_init_20 o0 o1 o2 os0 os1 S D = some (r, S', D') → W p l e R s m args below meth c H locs cells slots (MQ below (Qa (fun _ => none) (fun ad' => (∀ k, k < sN S0 → ad' k = ad0 k) ∧ True) (fun ad' => wpost G cA S' D' ad' A) A) args s (sN S' - sN S0) (sZ S' - sZ S0) A) (F0 m 20 ls [.ref as1, .ref as0]) := by
  obtain ⟨hx, hb, -⟩ := id hC
  intro o0 a0 o1 a1 o2 a2 os0 as0 os1 as1 S D ad H locs ls cells slots hi0 hi1 hi2 his0 his1 hw hc hl h
  have hE : Ext S S' := mn_X0_init_20  h
  unfold f_X0_init_20 at h
  refine r_pRF hC hin hw kc_0 his0 3 rfl lk_320 rfl rfl rfl rfl rfl his1 dX0_init_20 (fun D116 eD116 H locs hw => ?_)
  have h := nm_i h D116 eD116
  refine lv_aload_n hx hb dX0_init_23 rfl (lv_at hl 0 rfl) ?_
  have hE119 := mn_X0_init_27 h
  refine r_new hC hw kc_4 df_4 lk_256 lk_258 lk_119 (hc.room ho hE119).1 (hc.room ho hE119).2 dX0_init_24 (fun q117 H hw hi118 => ?_)
  have hi120 := Is.up hi0 (Ext.aS S 4 0 6) (up_lt (q := q117))
  have hi121 := Is.up hi1 (Ext.aS S 4 0 6) (up_lt (q := q117))
  have hi122 := Is.up hi2 (Ext.aS S 4 0 6) (up_lt (q := q117))
  have hc := hc.new 4 0 6 q117
  exact w_X0_init_27 hC hin hR ho o0 a0 o1 a1 o2 a2 o0 a0 (sN S) q117 _ _ _ _ _ _ _ _ hi120 hi121 hi122 hi120 hi118 hw hc (lv_sub hl [0, 1, 2] rfl) h --j123
theorem mn_X0_init_11 {r : Unit} {S' : sh} {D' : dt} {o0 : Nat} {o1 : Nat} {o2 : Nat} {os0 : Nat} {os1 : Nat} {S : sh} {D : dt} (h : f_X0_init_11 o0 o1 o2 os0 os1 S D = some (r, S', D')) : Ext S S' := by
  unfold f_X0_init_11 at h
  have h := nm_i h _ rfl
  have hA := (Ext.aS S 103 200 200)
  exact hA.tr (mn_X0_init_20 h)
set_option maxHeartbeats 4000000 in
set_option maxRecDepth 100000 in
theorem w_X0_init_11 {r : Unit} {S' : sh} {D' : dt} {S0 : sh} {ad0 : Nat → Nat} (hC : Cx RX0 cX0_init 3 none p s m args meth c) (hin : meth.name = "<init>") (hR : 2 ≤ R.frames ∧ 40 ≤ R.locals) (ho : R.cells = sN S' - sN S0 ∧ R.slots = sZ S' - sZ S0) : ∀ (o0 a0 : Nat) (o1 a1 : Nat) (o2 a2 : Nat) (os0 as0 : Nat) (os1 as1 : Nat) (S : sh) (D : dt) (ad : Nat → Nat) (H : Heap) (locs : List Loc) (ls : Array Slot) (cells slots : Nat), Is S ad o0 a0 0 → Is S ad o1 a1 3 → Is S ad o2 a2 2 → Is S ad os0 as0 0 → Is S ad os1 as1 204 → Wd G cA S D ad A s H locs → Al S0 ad0 S ad cells slots → lv_has ls 3 [(0, .ref a0), (1, .ref a1), (2, .ref a2)] → f_X0_init_11 o0 o1 o2 os0 os1 S D = some (r, S', D') → W p l e R s m args below meth c H locs cells slots (MQ below (Qa (fun _ => none) (fun ad' => (∀ k, k < sN S0 → ad' k = ad0 k) ∧ True) (fun ad' => wpost G cA S' D' ad' A) A) args s (sN S' - sN S0) (sZ S' - sZ S0) A) (F0 m 11 ls [.ref as1, .ref as0]) := by
  obtain ⟨hx, hb, -⟩ := id hC
  intro o0 a0 o1 a1 o2 a2 os0 as0 os1 as1 S D ad H locs ls cells slots hi0 hi1 hi2 his0 his1 hw hc hl h
  have hE : Ext S S' := mn_X0_init_11  h
  unfold f_X0_init_11 at h
  refine r_pRF hC hin hw kc_0 his0 2 rfl lk_319 rfl rfl rfl rfl rfl his1 dX0_init_11 (fun D124 eD124 H locs hw => ?_)
  have h := nm_i h D124 eD124
  refine lv_aload_n hx hb dX0_init_14 rfl (lv_at hl 0 rfl) ?_
  refine lv_sipush (v := 200) hx hb dX0_init_15 (by decide) ?_
  have hE127 := mn_X0_init_20 h
  refine r_newZ hC hw lk_286 (by decide) (by decide) (by decide) (hc.room ho hE127).1 (hc.room ho hE127).2 dX0_init_18 (fun q125 H hw hi126 => ?_)
  have hi128 := Is.up hi0 (Ext.aS S 103 200 200) (up_lt (q := q125))
  have hi129 := Is.up hi1 (Ext.aS S 103 200 200) (up_lt (q := q125))
  have hi130 := Is.up hi2 (Ext.aS S 103 200 200) (up_lt (q := q125))
  have hc := hc.new 103 200 200 q125
  exact w_X0_init_20 hC hin hR ho o0 a0 o1 a1 o2 a2 o0 a0 (sN S) q125 _ _ _ _ _ _ _ _ hi128 hi129 hi130 hi128 hi126 hw hc (lv_sub hl [0, 1, 2] rfl) h --j131
theorem mn_X0_init_0 {r : Unit} {S' : sh} {D' : dt} {o0 : Nat} {o1 : Nat} {o2 : Nat} {S : sh} {D : dt} (h : f_X0_init o0 o1 o2 S D = some (r, S', D')) : Ext S S' := by
  unfold f_X0_init at h
  have hA := (Ext.aS S 204 200 200)
  exact hA.tr (mn_X0_init_11 h)
set_option maxHeartbeats 4000000 in
set_option maxRecDepth 100000 in
theorem w_X0_init_0 {r : Unit} {S' : sh} {D' : dt} {S0 : sh} {ad0 : Nat → Nat} (hC : Cx RX0 cX0_init 3 none p s m args meth c) (hin : meth.name = "<init>") (hR : 2 ≤ R.frames ∧ 40 ≤ R.locals) (ho : R.cells = sN S' - sN S0 ∧ R.slots = sZ S' - sZ S0) : ∀ (o0 a0 : Nat) (o1 a1 : Nat) (o2 a2 : Nat) (S : sh) (D : dt) (ad : Nat → Nat) (H : Heap) (locs : List Loc) (ls : Array Slot) (cells slots : Nat), Is S ad o0 a0 0 → Is S ad o1 a1 3 → Is S ad o2 a2 2 → Wd G cA S D ad A s H locs → Al S0 ad0 S ad cells slots → lv_has ls 3 [(0, .ref a0), (1, .ref a1), (2, .ref a2)] → f_X0_init o0 o1 o2 S D = some (r, S', D') → W p l e R s m args below meth c H locs cells slots (MQ below (Qa (fun _ => none) (fun ad' => (∀ k, k < sN S0 → ad' k = ad0 k) ∧ True) (fun ad' => wpost G cA S' D' ad' A) A) args s (sN S' - sN S0) (sZ S' - sZ S0) A) (F0 m 0 ls []) := by
  obtain ⟨hx, hb, -⟩ := id hC
  intro o0 a0 o1 a1 o2 a2 S D ad H locs ls cells slots hi0 hi1 hi2 hw hc hl h
  have hE : Ext S S' := mn_X0_init_0  h
  unfold f_X0_init at h
  refine lv_aload_n hx hb dX0_init_0 rfl (lv_at hl 0 rfl) ?_
  refine W.objInit hx hb hC.2.2.2.1 (hC.2.2.2.2.1 _ lk_255) (hC.2.2.2.2.1 _ lk_133) (hC.2.2.2.2.1 _ cd_obj) rfl (by rw [hC.2.2.1]; exact hl.1) rfl dX0_init_1 (Nat.le_trans (by decide) hR.1) (Nat.le_trans (Nat.le_of_ble_eq_true rfl) hR.2) ?_
  refine W.eq (g2 := F0 m 4 ls []) rfl ?_
  refine lv_aload_n hx hb dX0_init_4 rfl (lv_at hl 0 rfl) ?_
  refine lv_sipush (v := 200) hx hb dX0_init_5 (by decide) ?_
  have hE134 := mn_X0_init_11 h
  refine r_newR hC hw lk_256 hw.2.2.2.2.2.2.o1 204 4 (by decide) rfl (by decide) (by decide) (by decide) (hc.room ho hE134).1 (hc.room ho hE134).2 dX0_init_8 (fun q132 H hw hi133 => ?_)
  have hi135 := Is.up hi0 (Ext.aS S 204 200 200) (up_lt (q := q132))
  have hi136 := Is.up hi1 (Ext.aS S 204 200 200) (up_lt (q := q132))
  have hi137 := Is.up hi2 (Ext.aS S 204 200 200) (up_lt (q := q132))
  have hc := hc.new 204 200 200 q132
  exact w_X0_init_11 hC hin hR ho o0 a0 o1 a1 o2 a2 o0 a0 (sN S) q132 _ _ _ _ _ _ _ _ hi135 hi136 hi137 hi135 hi133 hw hc (lv_sub hl [0, 1, 2] rfl) h --j138
set_option maxHeartbeats 4000000 in
set_option maxRecDepth 100000 in
theorem k_X0_init {l : Launch} {G : va_G} {cA : Nat → ClassId} {S S' : sh} {D D' : dt} {ad : Nat → Nat} (sz : Nat) {o0 a0 : Nat} {o1 a1 : Nat} {o2 a2 : Nat} {r : Unit} (hi0 : Is S ad o0 a0 0) (hi1 : Is S ad o1 a1 3) (hi2 : Is S ad o2 a2 2) (h : f_X0_init o0 o1 o2 S D = some (r, S', D')) : CoA l yX0_init (Cond.code yX0_init cX0_init 3 none :: tb0) 2 40 [.ref a0, .ref a1, .ref a2] G cA S D ad sz (fun _ => none) True S' D' := by
  refine Met.ofW (cc := cX0_init) (maxL := 3) (ret := none) (by decide) rfl ?_
  intro p e s m args below meth c s₁ B hml hv
  obtain ⟨rfl, hsz, hP, hK, hD0, hT, hX⟩ := hv
  subst hsz
  have hts := atoms_spec (ws := Cond.code yX0_init cX0_init 3 none :: tb0) B.pre
  have hC : Cx RX0 cX0_init 3 none p s m _ meth c := ⟨B.exec, B.bytes, hml, findClass_of_methodNamed B.named, fun w q => hts w (List.mem_cons_of_mem _ q), B.returns, B.notSynchronized⟩
  have hin : meth.name = "<init>" := (name_of_methodNamed B.named B.method).1
  have hw := Wd.entry hP hK hD0 hT hX
  have hl := lv_entry ([.ref a0, .ref a1, .ref a2]) (n := 3) (Nat.le_of_ble_eq_true rfl)
  rw [lg_entry_eq]
  exact w_X0_init_0 hC hin ⟨Nat.le_refl _, Nat.le_refl _⟩ ⟨rfl, rfl⟩ o0 a0 o1 a1 o2 a2 S D ad _ _ _ 0 0 hi0 hi1 hi2 hw (Al.rf S ad) hl h
set_option maxHeartbeats 4000000 in
set_option maxRecDepth 100000 in
theorem w_X0_forgetScenes_33 {r : Unit} {D' : dt} (hC : Cx RX0 cX0_forgetScenes 2 none p s m args meth c) (hR : 0 ≤ R.frames ∧ 0 ≤ R.locals) {k7 : Nat → Int32 → dt → Option (Unit × dt)} (hk7 : ∀ (o0 a0 : Nat) (x1 : Int32) (D : dt) (H : Heap) (locs : List Loc) (ls : Array Slot), Is S ad o0 a0 0 → Wd G cA S D ad A s H locs → lv_has ls 2 [(0, .ref a0), (1, .int x1)] → k7 o0 x1 D = some (r, D') → W p l e R s m args below meth c H locs 0 0 (MQ below (Qn none True (wpost G cA S D' ad A) A) args s 0 0 A) (F0 m 7 ls [])) : ∀ (o0 a0 : Nat) (x1 : Int32) (D : dt) (H : Heap) (locs : List Loc) (ls : Array Slot), Is S ad o0 a0 0 → Wd G cA S D ad A s H locs → lv_has ls 2 [(0, .ref a0), (1, .int x1)] → f_X0_forgetScenes_33 S k7 o0 x1 D = some (r, D') → W p l e R s m args below meth c H locs 0 0 (MQ below (Qn none True (wpost G cA S D' ad A) A) args s 0 0 A) (F0 m 33 ls []) := by
  obtain ⟨hx, hb, -⟩ := id hC
  intro o0 a0 x1 D H locs ls hi0 hw hl h
  unfold f_X0_forgetScenes_33 at h
  obtain ⟨y24, ey24⟩ : ∃ z : Int32, z = x1 + 1 := ⟨_, rfl⟩
  have h := nm_i h y24 ey24
  refine lv_iinc (v := y24) (lv' := [(1, .int y24), (0, .ref a0)]) hx hb dX0_forgetScenes_33 hl (k := 1) rfl (by rw [ey24]; rfl) (by decide) rfl (fun ls hl => ?_)
  refine lv_goto (tgt := 7) hx hb dX0_forgetScenes_36 (by decide) ?_
  exact hk7 o0 a0 y24 _ _ _ _ hi0 hw (lv_sub hl [1, 0] rfl) h
set_option maxHeartbeats 4000000 in
set_option maxRecDepth 100000 in
theorem w_X0_forgetScenes_7 {r : Unit} {D' : dt} (hC : Cx RX0 cX0_forgetScenes 2 none p s m args meth c) (hR : 0 ≤ R.frames ∧ 0 ≤ R.locals) : ∀ (n : Nat), ∀ (o0 a0 : Nat) (x1 : Int32) (D : dt) (H : Heap) (locs : List Loc) (ls : Array Slot), Is S ad o0 a0 0 → Wd G cA S D ad A s H locs → lv_has ls 2 [(0, .ref a0), (1, .int x1)] → f_X0_forgetScenes_7 S n o0 x1 D = some (r, D') → W p l e R s m args below meth c H locs 0 0 (MQ below (Qn none True (wpost G cA S D' ad A) A) args s 0 0 A) (F0 m 7 ls []) := by
  obtain ⟨hx, hb, -⟩ := id hC
  intro n
  induction n with
  | zero =>
    intro o0 a0 x1 D H locs ls hi0 hw hl h
    rw [f_X0_forgetScenes_7.eq_1] at h
    cases h
  | succ n ih =>
    intro o0 a0 x1 D H locs ls hi0 hw hl h
    rw [f_X0_forgetScenes_7.eq_2] at h
    refine lv_iload_n hx hb dX0_forgetScenes_7 rfl (lv_at hl 1 rfl) ?_
    refine lv_sipush (v := 200) hx hb dX0_forgetScenes_8 (by decide) ?_
    refine lv_icmp_ge (tgt := 39) hx hb dX0_forgetScenes_11 (by decide) (fun c25 => ?_) (fun c25 => ?_)
    · have h := i_yes c25 h
      cases h
      exact r_vret hC hw dX0_forgetScenes_39
    · have h := i_no c25 h
      refine lv_aload_n hx hb dX0_forgetScenes_14 rfl (lv_at hl 0 rfl) ?_
      obtain ⟨o26, ho29, h⟩ := rq_i h
      refine r_getR hC hw kc_0 hi0 2 rfl lk_319 dX0_forgetScenes_15 rfl ho29 (fun a27 hi28 => ?_)
      refine lv_iload_n hx hb dX0_forgetScenes_18 rfl (lv_at hl 1 rfl) ?_
      obtain ⟨hn30, h⟩ := ix_i h
      rcases oq_i h with ⟨ho34, h⟩ | ⟨o31, ho34, h⟩
      · refine r_aaldN hC hw hi28 (by decide) 4 rfl hn30 dX0_forgetScenes_19 ho34 ?_
        refine lv_ifnullN (tgt := 33) hx hb dX0_forgetScenes_20 (by decide) ?_
        exact w_X0_forgetScenes_33 hC hR ih o0 a0 x1 _ _ _ _ hi0 hw (lv_sub hl [0, 1] rfl) h
      · refine r_aald hC hw hi28 (by decide) 4 rfl hn30 dX0_forgetScenes_19 (fun _ => rfl) ho34 (fun a32 hi33 => ?_)
        refine lv_ifnull hx hb dX0_forgetScenes_20 ?_
        refine lv_aload_n hx hb dX0_forgetScenes_23 rfl (lv_at hl 0 rfl) ?_
        obtain ⟨o35, ho38, h⟩ := rq_i h
        refine r_getR hC hw kc_0 hi0 2 rfl lk_319 dX0_forgetScenes_24 rfl ho38 (fun a36 hi37 => ?_)
        refine lv_iload_n hx hb dX0_forgetScenes_27 rfl (lv_at hl 1 rfl) ?_
        obtain ⟨hn39, h⟩ := ix_i h
        rcases oq_i h with ⟨ho43, h⟩ | ⟨o40, ho43, h⟩
        · refine r_aaldN hC hw hi37 (by decide) 4 rfl hn39 dX0_forgetScenes_28 ho43 ?_
          refine lv_iconst (v := 0) hx hb dX0_forgetScenes_29 (by decide) ?_
          cases h
        · refine r_aald hC hw hi37 (by decide) 4 rfl hn39 dX0_forgetScenes_28 (fun _ => rfl) ho43 (fun a41 hi42 => ?_)
          refine lv_iconst (v := 0) hx hb dX0_forgetScenes_29 (by decide) ?_
          refine r_pI hC hw kc_4 hi42 0 rfl lk_263 rfl rfl rfl dX0_forgetScenes_30 (fun D44 eD44 H locs hw => ?_)
          have h := nm_i h D44 eD44
          exact w_X0_forgetScenes_33 hC hR ih o0 a0 x1 _ _ _ _ hi0 hw (lv_sub hl [0, 1] rfl) h
set_option maxHeartbeats 4000000 in
set_option maxRecDepth 100000 in
theorem w_X0_forgetScenes_0 {r : Unit} {D' : dt} (hC : Cx RX0 cX0_forgetScenes 2 none p s m args meth c) (hR : 0 ≤ R.frames ∧ 0 ≤ R.locals) : ∀ (o0 a0 : Nat) (D : dt) (H : Heap) (locs : List Loc) (ls : Array Slot), Is S ad o0 a0 0 → Wd G cA S D ad A s H locs → lv_has ls 2 [(0, .ref a0)] → f_X0_forgetScenes S o0 D = some (r, D') → W p l e R s m args below meth c H locs 0 0 (MQ below (Qn none True (wpost G cA S D' ad A) A) args s 0 0 A) (F0 m 0 ls []) := by
  obtain ⟨hx, hb, -⟩ := id hC
  intro o0 a0 D H locs ls hi0 hw hl h
  unfold f_X0_forgetScenes at h
  refine lv_aload_n hx hb dX0_forgetScenes_0 rfl (lv_at hl 0 rfl) ?_
  refine lv_iconst (v := (-1)) hx hb dX0_forgetScenes_1 (by decide) ?_
  refine r_pI hC hw kc_0 hi0 7 rfl lk_324 rfl rfl rfl dX0_forgetScenes_2 (fun D45 eD45 H locs hw => ?_)
  have h := nm_i h D45 eD45
  refine lv_iconst (v := 0) hx hb dX0_forgetScenes_5 (by decide) ?_
  refine lv_topi (fun y46 ey46 => ?_)
  have h := nm_i h y46 ey46
  refine lv_istore_n (lv' := [(1, .int y46), (0, .ref a0)]) hx hb dX0_forgetScenes_6 rfl hl (by decide) rfl (fun ls hl => ?_)
  exact w_X0_forgetScenes_7 hC hR LF o0 a0 y46 _ _ _ _ hi0 hw (lv_sub hl [1, 0] rfl) h
set_option maxHeartbeats 4000000 in
set_option maxRecDepth 100000 in
theorem k_X0_forgetScenes {l : Launch} {G : va_G} {cA : Nat → ClassId} {S : sh} {D D' : dt} {ad : Nat → Nat} (sz : Nat) {o0 a0 : Nat} {r : Unit} (hi0 : Is S ad o0 a0 0) (h : f_X0_forgetScenes S o0 D = some (r, D')) : Co l yX0_forgetScenes (Cond.code yX0_forgetScenes cX0_forgetScenes 2 none :: tb0) 0 0 [.ref a0] G cA S D ad sz none True D' := by
  refine Met.ofW (cc := cX0_forgetScenes) (maxL := 2) (ret := none) (by decide) rfl ?_
  intro p e s m args below meth c s₁ B hml hv
  obtain ⟨rfl, hsz, hP, hK, hD0, hT, hX⟩ := hv
  subst hsz
  have hts := atoms_spec (ws := Cond.code yX0_forgetScenes cX0_forgetScenes 2 none :: tb0) B.pre
  have hC : Cx RX0 cX0_forgetScenes 2 none p s m _ meth c := ⟨B.exec, B.bytes, hml, findClass_of_methodNamed B.named, fun w q => hts w (List.mem_cons_of_mem _ q), B.returns, B.notSynchronized⟩
  have hw := Wd.entry hP hK hD0 hT hX
  have hl := lv_entry ([.ref a0]) (n := 2) (Nat.le_of_ble_eq_true rfl)
  rw [lg_entry_eq]
  exact w_X0_forgetScenes_0 hC ⟨Nat.le_refl _, Nat.le_refl _⟩ o0 a0 D _ _ _ hi0 hw hl h
set_option maxHeartbeats 4000000 in
set_option maxRecDepth 100000 in
theorem w_X0_markSeconds_45 {r : Unit} {D' : dt} (hC : Cx RX0 cX0_markSeconds 3 none p s m args meth c) (hR : 0 ≤ R.frames ∧ 0 ≤ R.locals) {k4 : Nat → Int32 → Int32 → dt → Option (Unit × dt)} (hk4 : ∀ (o0 a0 : Nat) (x1 : Int32) (x2 : Int32) (D : dt) (H : Heap) (locs : List Loc) (ls : Array Slot), Is S ad o0 a0 0 → Wd G cA S D ad A s H locs → lv_has ls 3 [(0, .ref a0), (1, .int x1), (2, .int x2)] → k4 o0 x1 x2 D = some (r, D') → W p l e R s m args below meth c H locs 0 0 (MQ below (Qn none True (wpost G cA S D' ad A) A) args s 0 0 A) (F0 m 4 ls [])) : ∀ (o0 a0 : Nat) (x2 : Int32) (xs0 : Int32) (D : dt) (H : Heap) (locs : List Loc) (ls : Array Slot), Is S ad o0 a0 0 → Wd G cA S D ad A s H locs → lv_has ls 3 [(0, .ref a0), (2, .int x2)] → f_X0_markSeconds_45 S k4 o0 x2 xs0 D = some (r, D') → W p l e R s m args below meth c H locs 0 0 (MQ below (Qn none True (wpost G cA S D' ad A) A) args s 0 0 A) (F0 m 45 ls [.int xs0]) := by
  obtain ⟨hx, hb, -⟩ := id hC
  intro o0 a0 x2 xs0 D H locs ls hi0 hw hl h
  unfold f_X0_markSeconds_45 at h
  refine lv_istore_n (lv' := [(1, .int xs0), (0, .ref a0), (2, .int x2)]) hx hb dX0_markSeconds_45 rfl hl (by decide) rfl (fun ls hl => ?_)
  obtain ⟨y26, ey26⟩ : ∃ z : Int32, z = x2 + 1 := ⟨_, rfl⟩
  have h := nm_i h y26 ey26
  refine lv_iinc (v := y26) (lv' := [(2, .int y26), (1, .int xs0), (0, .ref a0)]) hx hb dX0_markSeconds_46 hl (k := 2) rfl (by rw [ey26]; rfl) (by decide) rfl (fun ls hl => ?_)
  refine lv_goto (tgt := 4) hx hb dX0_markSeconds_49 (by decide) ?_
  exact hk4 o0 a0 xs0 y26 _ _ _ _ hi0 hw (lv_sub hl [2, 1, 0] rfl) h
set_option maxHeartbeats 4000000 in
set_option maxRecDepth 100000 in
theorem w_X0_markSeconds_44 {r : Unit} {D' : dt} (hC : Cx RX0 cX0_markSeconds 3 none p s m args meth c) (hR : 0 ≤ R.frames ∧ 0 ≤ R.locals) {k4 : Nat → Int32 → Int32 → dt → Option (Unit × dt)} (hk4 : ∀ (o0 a0 : Nat) (x1 : Int32) (x2 : Int32) (D : dt) (H : Heap) (locs : List Loc) (ls : Array Slot), Is S ad o0 a0 0 → Wd G cA S D ad A s H locs → lv_has ls 3 [(0, .ref a0), (1, .int x1), (2, .int x2)] → k4 o0 x1 x2 D = some (r, D') → W p l e R s m args below meth c H locs 0 0 (MQ below (Qn none True (wpost G cA S D' ad A) A) args s 0 0 A) (F0 m 4 ls [])) : ∀ (o0 a0 : Nat) (x2 : Int32) (D : dt) (H : Heap) (locs : List Loc) (ls : Array Slot), Is S ad o0 a0 0 → Wd G cA S D ad A s H locs → lv_has ls 3 [(0, .ref a0), (2, .int x2)] → f_X0_markSeconds_44 S k4 o0 x2 D = some (r, D') → W p l e R s m args below meth c H locs 0 0 (MQ below (Qn none True (wpost G cA S D' ad A) A) args s 0 0 A) (F0 m 44 ls []) := by
  obtain ⟨hx, hb, -⟩ := id hC
  intro o0 a0 x2 D H locs ls hi0 hw hl h
  unfold f_X0_markSeconds_44 at h
  refine lv_iconst (v := 0) hx hb dX0_markSeconds_44 (by decide) ?_
  exact w_X0_markSeconds_45 hC hR hk4 o0 a0 x2 (0 : Int32) _ _ _ _ hi0 hw (lv_sub hl [0, 1] rfl) h
set_option maxHeartbeats 4000000 in
set_option maxRecDepth 100000 in
theorem w_X0_markSeconds_4 {r : Unit} {D' : dt} (hC : Cx RX0 cX0_markSeconds 3 none p s m args meth c) (hR : 0 ≤ R.frames ∧ 0 ≤ R.locals) : ∀ (n : Nat), ∀ (o0 a0 : Nat) (x1 : Int32) (x2 : Int32) (D : dt) (H : Heap) (locs : List Loc) (ls : Array Slot), Is S ad o0 a0 0 → Wd G cA S D ad A s H locs → lv_has ls 3 [(0, .ref a0), (1, .int x1), (2, .int x2)] → f_X0_markSeconds_4 S n o0 x1 x2 D = some (r, D') → W p l e R s m args below meth c H locs 0 0 (MQ below (Qn none True (wpost G cA S D' ad A) A) args s 0 0 A) (F0 m 4 ls []) := by
  obtain ⟨hx, hb, -⟩ := id hC
  intro n
  induction n with
  | zero =>
    intro o0 a0 x1 x2 D H locs ls hi0 hw hl h
    rw [f_X0_markSeconds_4.eq_1] at h
    cases h
  | succ n ih =>
    intro o0 a0 x1 x2 D H locs ls hi0 hw hl h
    rw [f_X0_markSeconds_4.eq_2] at h
    refine lv_iload_n hx hb dX0_markSeconds_4 rfl (lv_at hl 2 rfl) ?_
    refine lv_aload_n hx hb dX0_markSeconds_5 rfl (lv_at hl 0 rfl) ?_
    obtain ⟨o27, ho30, h⟩ := rq_i h
    refine r_getR hC hw kc_0 hi0 0 rfl lk_317 dX0_markSeconds_6 rfl ho30 (fun a28 hi29 => ?_)
    refine r_gI hC hw kc_3 hi29 5 rfl lk_158 dX0_markSeconds_9 ?_
    refine lv_icmp_ge (tgt := 52) hx hb dX0_markSeconds_12 (by decide) (fun c31 => ?_) (fun c31 => ?_)
    · have h := i_yes c31 h
      cases h
      exact r_vret hC hw dX0_markSeconds_52
    · have h := i_no c31 h
      refine lv_aload_n hx hb dX0_markSeconds_15 rfl (lv_at hl 0 rfl) ?_
      obtain ⟨o32, ho35, h⟩ := rq_i h
      refine r_getR hC hw kc_0 hi0 3 rfl lk_320 dX0_markSeconds_16 rfl ho35 (fun a33 hi34 => ?_)
      refine lv_iload_n hx hb dX0_markSeconds_19 rfl (lv_at hl 2 rfl) ?_
      refine lv_iload_n hx hb dX0_markSeconds_20 rfl (lv_at hl 1 rfl) ?_
      obtain ⟨hn36, h⟩ := ix_i h
      refine r_zas hC hw hi34 hn36 dX0_markSeconds_21 (fun D37 eD37 H locs hw => ?_)
      have h := nm_i h D37 eD37
      refine lv_iload_n hx hb dX0_markSeconds_22 rfl (lv_at hl 1 rfl) ?_
      refine lv_if_ne (tgt := 44) hx hb dX0_markSeconds_23 (by decide) (fun c38 => ?_) (fun c38 => ?_)
      · have h := i_no c38 h
        exact w_X0_markSeconds_44 hC hR ih o0 a0 x2 _ _ _ _ hi0 hw (lv_sub hl [0, 2] rfl) h
      · have h := i_yes c38 h
        refine lv_aload_n hx hb dX0_markSeconds_26 rfl (lv_at hl 0 rfl) ?_
        obtain ⟨o39, ho42, h⟩ := rq_i h
        refine r_getR hC hw kc_0 hi0 0 rfl lk_317 dX0_markSeconds_27 rfl ho42 (fun a40 hi41 => ?_)
        obtain ⟨o43, ho46, h⟩ := rq_i h
        refine r_getR hC hw kc_3 hi41 0 rfl lk_143 dX0_markSeconds_30 rfl ho46 (fun a44 hi45 => ?_)
        refine lv_iload_n hx hb dX0_markSeconds_33 rfl (lv_at hl 2 rfl) ?_
        obtain ⟨hn47, h⟩ := ix_i h
        refine r_iald hC hw hi45 hn47 dX0_markSeconds_34 ?_
        refine lv_bipush (v := 24) hx hb dX0_markSeconds_35 (by decide) ?_
        refine lv_icmp_ne (tgt := 44) hx hb dX0_markSeconds_37 (by decide) (fun c48 => ?_) (fun c48 => ?_)
        · have h := i_no c48 h
          exact w_X0_markSeconds_44 hC hR ih o0 a0 x2 _ _ _ _ hi0 hw (lv_sub hl [0, 2] rfl) h
        · have h := i_yes c48 h
          refine lv_iconst (v := 1) hx hb dX0_markSeconds_40 (by decide) ?_
          refine lv_goto (tgt := 45) hx hb dX0_markSeconds_41 (by decide) ?_
          exact w_X0_markSeconds_45 hC hR ih o0 a0 x2 (1 : Int32) _ _ _ _ hi0 hw (lv_sub hl [0, 2] rfl) h
set_option maxHeartbeats 4000000 in
set_option maxRecDepth 100000 in
theorem w_X0_markSeconds_0 {r : Unit} {D' : dt} (hC : Cx RX0 cX0_markSeconds 3 none p s m args meth c) (hR : 0 ≤ R.frames ∧ 0 ≤ R.locals) : ∀ (o0 a0 : Nat) (D : dt) (H : Heap) (locs : List Loc) (ls : Array Slot), Is S ad o0 a0 0 → Wd G cA S D ad A s H locs → lv_has ls 3 [(0, .ref a0)] → f_X0_markSeconds S o0 D = some (r, D') → W p l e R s m args below meth c H locs 0 0 (MQ below (Qn none True (wpost G cA S D' ad A) A) args s 0 0 A) (F0 m 0 ls []) := by
  obtain ⟨hx, hb, -⟩ := id hC
  intro o0 a0 D H locs ls hi0 hw hl h
  unfold f_X0_markSeconds at h
  refine lv_iconst (v := 0) hx hb dX0_markSeconds_0 (by decide) ?_
  refine lv_topi (fun y49 ey49 => ?_)
  have h := nm_i h y49 ey49
  refine lv_istore_n (lv' := [(1, .int y49), (0, .ref a0)]) hx hb dX0_markSeconds_1 rfl hl (by decide) rfl (fun ls hl => ?_)
  refine lv_iconst (v := 0) hx hb dX0_markSeconds_2 (by decide) ?_
  refine lv_topi (fun y50 ey50 => ?_)
  have h := nm_i h y50 ey50
  refine lv_istore_n (lv' := [(2, .int y50), (1, .int y49), (0, .ref a0)]) hx hb dX0_markSeconds_3 rfl hl (by decide) rfl (fun ls hl => ?_)
  exact w_X0_markSeconds_4 hC hR LF o0 a0 y49 y50 _ _ _ _ hi0 hw (lv_sub hl [2, 1, 0] rfl) h
set_option maxHeartbeats 4000000 in
set_option maxRecDepth 100000 in
theorem k_X0_markSeconds {l : Launch} {G : va_G} {cA : Nat → ClassId} {S : sh} {D D' : dt} {ad : Nat → Nat} (sz : Nat) {o0 a0 : Nat} {r : Unit} (hi0 : Is S ad o0 a0 0) (h : f_X0_markSeconds S o0 D = some (r, D')) : Co l yX0_markSeconds (Cond.code yX0_markSeconds cX0_markSeconds 3 none :: tb0) 0 0 [.ref a0] G cA S D ad sz none True D' := by
  refine Met.ofW (cc := cX0_markSeconds) (maxL := 3) (ret := none) (by decide) rfl ?_
  intro p e s m args below meth c s₁ B hml hv
  obtain ⟨rfl, hsz, hP, hK, hD0, hT, hX⟩ := hv
  subst hsz
  have hts := atoms_spec (ws := Cond.code yX0_markSeconds cX0_markSeconds 3 none :: tb0) B.pre
  have hC : Cx RX0 cX0_markSeconds 3 none p s m _ meth c := ⟨B.exec, B.bytes, hml, findClass_of_methodNamed B.named, fun w q => hts w (List.mem_cons_of_mem _ q), B.returns, B.notSynchronized⟩
  have hw := Wd.entry hP hK hD0 hT hX
  have hl := lv_entry ([.ref a0]) (n := 3) (Nat.le_of_ble_eq_true rfl)
  rw [lg_entry_eq]
  exact w_X0_markSeconds_0 hC ⟨Nat.le_refl _, Nat.le_refl _⟩ o0 a0 D _ _ _ hi0 hw hl h
set_option maxHeartbeats 4000000 in
set_option maxRecDepth 100000 in
theorem w_X0_sceneAt_31 {r : Option Nat} (hC : Cx RX0 cX0_sceneAt 3 (some (.object RX5)) p s m args meth c) (hR : 0 ≤ R.frames ∧ 0 ≤ R.locals) : ∀  (H : Heap) (locs : List Loc) (ls : Array Slot), Wd G cA S D ad A s H locs → lv_has ls 3 [] → f_X0_sceneAt_31 S D = some r → W p l e R s m args below meth c H locs 0 0 (MQ below (Qn (some (va_rf (r.map ad))) (∀ x, r = some x → x < sN S ∧ sK S x = 4) (wpost G cA S D ad A) A) args s 0 0 A) (F0 m 31 ls []) := by
  obtain ⟨hx, hb, -⟩ := id hC
  intro H locs ls  hw hl h
  unfold f_X0_sceneAt_31 at h
  refine lv_null hx hb dX0_sceneAt_31 ?_
  refine lv_goto (tgt := 36) hx hb dX0_sceneAt_32 (by decide) ?_
  cases h
  exact r_nret (Or.inl ⟨_, rfl⟩) hC hw dX0_sceneAt_36
set_option maxHeartbeats 4000000 in
set_option maxRecDepth 100000 in
theorem w_X0_sceneAt_0 {r : Option Nat} (hC : Cx RX0 cX0_sceneAt 3 (some (.object RX5)) p s m args meth c) (hR : 0 ≤ R.frames ∧ 0 ≤ R.locals) : ∀ (o0 a0 : Nat) (x1 : Int32) (H : Heap) (locs : List Loc) (ls : Array Slot), Is S ad o0 a0 0 → Wd G cA S D ad A s H locs → lv_has ls 3 [(0, .ref a0), (1, .int x1)] → f_X0_sceneAt S D o0 x1 = some r → W p l e R s m args below meth c H locs 0 0 (MQ below (Qn (some (va_rf (r.map ad))) (∀ x, r = some x → x < sN S ∧ sK S x = 4) (wpost G cA S D ad A) A) args s 0 0 A) (F0 m 0 ls []) := by
  obtain ⟨hx, hb, -⟩ := id hC
  intro o0 a0 x1 H locs ls hi0 hw hl h
  unfold f_X0_sceneAt at h
  refine lv_iload_n hx hb dX0_sceneAt_0 rfl (lv_at hl 1 rfl) ?_
  refine lv_if_lt (tgt := 11) hx hb dX0_sceneAt_1 (by decide) (fun c13 => ?_) (fun c13 => ?_)
  · have h := i_yes c13 h
    refine lv_null hx hb dX0_sceneAt_11 ?_
    cases h
    exact r_nret (Or.inl ⟨_, rfl⟩) hC hw dX0_sceneAt_12
  · have h := i_no c13 h
    refine lv_iload_n hx hb dX0_sceneAt_4 rfl (lv_at hl 1 rfl) ?_
    refine lv_sipush (v := 200) hx hb dX0_sceneAt_5 (by decide) ?_
    refine lv_icmp_lt (tgt := 13) hx hb dX0_sceneAt_8 (by decide) (fun c14 => ?_) (fun c14 => ?_)
    · have h := i_yes c14 h
      refine lv_aload_n hx hb dX0_sceneAt_13 rfl (lv_at hl 0 rfl) ?_
      obtain ⟨o15, ho18, h⟩ := rq_i h
      refine r_getR hC hw kc_0 hi0 2 rfl lk_319 dX0_sceneAt_14 rfl ho18 (fun a16 hi17 => ?_)
      refine lv_iload_n hx hb dX0_sceneAt_17 rfl (lv_at hl 1 rfl) ?_
      obtain ⟨hn19, h⟩ := ix_i h
      rcases oq_i h with ⟨ho23, h⟩ | ⟨o20, ho23, h⟩
      · refine r_aaldN hC hw hi17 (by decide) 4 rfl hn19 dX0_sceneAt_18 ho23 ?_
        refine lv_astore_nN (lv' := [(2, .null), (0, .ref a0), (1, .int x1)]) hx hb dX0_sceneAt_19 rfl hl (by decide) rfl (fun ls hl => ?_)
        refine lv_aload_nN hx hb dX0_sceneAt_20 rfl (lv_at hl 0 rfl) ?_
        refine lv_ifnullN (tgt := 31) hx hb dX0_sceneAt_21 (by decide) ?_
        exact w_X0_sceneAt_31 hC hR _ _ _ hw (lv_sub hl [] rfl) h
      · refine r_aald hC hw hi17 (by decide) 4 rfl hn19 dX0_sceneAt_18 (fun _ => rfl) ho23 (fun a21 hi22 => ?_)
        refine lv_astore_n (lv' := [(2, .ref a21), (0, .ref a0), (1, .int x1)]) hx hb dX0_sceneAt_19 rfl hl (by decide) rfl (fun ls hl => ?_)
        refine lv_aload_n hx hb dX0_sceneAt_20 rfl (lv_at hl 0 rfl) ?_
        refine lv_ifnull hx hb dX0_sceneAt_21 ?_
        refine lv_aload_n hx hb dX0_sceneAt_24 rfl (lv_at hl 0 rfl) ?_
        refine r_gI hC hw kc_4 hi22 0 rfl lk_263 dX0_sceneAt_25 ?_
        refine lv_if_ne (tgt := 35) hx hb dX0_sceneAt_28 (by decide) (fun c24 => ?_) (fun c24 => ?_)
        · have h := i_no c24 h
          refine lv_aload_n hx hb dX0_sceneAt_35 rfl (lv_at hl 0 rfl) ?_
          cases h
          exact r_aret (Or.inl ⟨_, rfl⟩) hC hw hi22 dX0_sceneAt_36
        · have h := i_yes c24 h
          exact w_X0_sceneAt_31 hC hR _ _ _ hw (lv_sub hl [] rfl) h
    · have h := i_no c14 h
      refine lv_null hx hb dX0_sceneAt_11 ?_
      cases h
      exact r_nret (Or.inl ⟨_, rfl⟩) hC hw dX0_sceneAt_12
set_option maxHeartbeats 4000000 in
set_option maxRecDepth 100000 in
theorem k_X0_sceneAt {l : Launch} {G : va_G} {cA : Nat → ClassId} {S : sh} {D : dt} {ad : Nat → Nat} (sz : Nat) {o0 a0 : Nat} {x1 : Int32} {r : Option Nat} (hi0 : Is S ad o0 a0 0) (h : f_X0_sceneAt S D o0 x1 = some r) : Co l yX0_sceneAt (Cond.code yX0_sceneAt cX0_sceneAt 3 (some (.object RX5)) :: tb0) 0 0 [.ref a0, .int x1] G cA S D ad sz (some (va_rf (r.map ad))) (∀ x, r = some x → x < sN S ∧ sK S x = 4) D := by
  refine Met.ofW (cc := cX0_sceneAt) (maxL := 3) (ret := (some (.object RX5))) (by decide) rfl ?_
  intro p e s m args below meth c s₁ B hml hv
  obtain ⟨rfl, hsz, hP, hK, hD0, hT, hX⟩ := hv
  subst hsz
  have hts := atoms_spec (ws := Cond.code yX0_sceneAt cX0_sceneAt 3 (some (.object RX5)) :: tb0) B.pre
  have hC : Cx RX0 cX0_sceneAt 3 (some (.object RX5)) p s m _ meth c := ⟨B.exec, B.bytes, hml, findClass_of_methodNamed B.named, fun w q => hts w (List.mem_cons_of_mem _ q), B.returns, B.notSynchronized⟩
  have hw := Wd.entry hP hK hD0 hT hX
  have hl := lv_entry ([.ref a0, .int x1]) (n := 3) (Nat.le_of_ble_eq_true rfl)
  rw [lg_entry_eq]
  exact w_X0_sceneAt_0 hC ⟨Nat.le_refl _, Nat.le_refl _⟩ o0 a0 x1 _ _ _ hi0 hw hl h
set_option maxHeartbeats 4000000 in
set_option maxRecDepth 100000 in
theorem w_X0_judgePair_138 {r : Int32} {D' : dt} (hC : Cx RX0 cX0_judgePair 6 (some .int) p s m args meth c) (hR : 1 ≤ R.frames ∧ 26 ≤ R.locals) : ∀ (o0 a0 : Nat) (x1 : Int32) (D : dt) (H : Heap) (locs : List Loc) (ls : Array Slot), Is S ad o0 a0 0 → Wd G cA S D ad A s H locs → lv_has ls 6 [(0, .ref a0), (1, .int x1)] → f_X0_judgePair_138 S o0 x1 D = some (r, D') → W p l e R s m args below meth c H locs 0 0 (MQ below (Qn (some (.int r)) True (wpost G cA S D' ad A) A) args s 0 0 A) (F0 m 138 ls []) := by
  obtain ⟨hx, hb, -⟩ := id hC
  intro o0 a0 x1 D H locs ls hi0 hw hl h
  unfold f_X0_judgePair_138 at h
  refine lv_aload_n hx hb dX0_judgePair_138 rfl (lv_at hl 0 rfl) ?_
  refine lv_iload_n hx hb dX0_judgePair_139 rfl (lv_at hl 1 rfl) ?_
  refine lv_iconst (v := 2) hx hb dX0_judgePair_140 (by decide) ?_
  refine lv_iadd hx hb dX0_judgePair_141 ?_
  refine lv_i2l (v := (x1 + (2 : Int32)).toInt64) hx hb dX0_judgePair_142 rfl ?_
  refine r_pL hC hw kc_0 hi0 9 rfl lk_327 rfl rfl rfl dX0_judgePair_143 (fun D81 eD81 H locs hw => ?_)
  have h := nm_i h D81 eD81
  refine lv_iconst (v := 0) hx hb dX0_judgePair_146 (by decide) ?_
  cases h
  exact r_iret hC hw dX0_judgePair_147
set_option maxHeartbeats 4000000 in
set_option maxRecDepth 100000 in
theorem w_X0_judgePair_46 {r : Int32} {D' : dt} (hC : Cx RX0 cX0_judgePair 6 (some .int) p s m args meth c) (hR : 1 ≤ R.frames ∧ 26 ≤ R.locals) : ∀ (o0 a0 : Nat) (x1 : Int32) (x2 : Int32) (x3 : Int32) (D : dt) (H : Heap) (locs : List Loc) (ls : Array Slot), Is S ad o0 a0 0 → Wd G cA S D ad A s H locs → lv_has ls 6 [(0, .ref a0), (1, .int x1), (2, .int x2), (3, .int x3)] → f_X0_judgePair_46 S o0 x1 x2 x3 D = some (r, D') → W p l e R s m args below meth c H locs 0 0 (MQ below (Qn (some (.int r)) True (wpost G cA S D' ad A) A) args s 0 0 A) (F0 m 46 ls []) := by
  obtain ⟨hx, hb, -⟩ := id hC
  intro o0 a0 x1 x2 x3 D H locs ls hi0 hw hl h
  unfold f_X0_judgePair_46 at h
  refine lv_aload_n hx hb dX0_judgePair_46 rfl (lv_at hl 0 rfl) ?_
  obtain ⟨o82, ho85, h⟩ := rq_i h
  refine r_getR hC hw kc_0 hi0 0 rfl lk_317 dX0_judgePair_47 rfl ho85 (fun a83 hi84 => ?_)
  refine lv_iload_n hx hb dX0_judgePair_50 rfl (lv_at hl 1 rfl) ?_
  refine lv_iconst (v := 1) hx hb dX0_judgePair_51 (by decide) ?_
  refine lv_iadd hx hb dX0_judgePair_52 ?_
  obtain ⟨r87, hq86, h⟩ := pq_i h
  refine r_cV (st' := [.int r87]) [.int (x1 + (1 : Int32))] [] hC hw kc_3 hi84 (k_X4_has _ hi84 hq86) mk_X4_has lk_568 ⟨Nat.le_trans (by decide) hR.1, Nat.le_trans (by decide) hR.2⟩ ⟨Nat.zero_le _, Nat.zero_le _⟩ rfl hl.1 rfl rfl (Nat.le_of_ble_eq_true rfl) dX0_judgePair_53 (fun hP H locs hw => ?_)
  refine lv_if_ne (tgt := 62) hx hb dX0_judgePair_56 (by decide) (fun c88 => ?_) (fun c88 => ?_)
  · have h := i_no c88 h
    refine lv_iload_n hx hb dX0_judgePair_62 rfl (lv_at hl 3 rfl) ?_
    refine lv_if_eq (tgt := 93) hx hb dX0_judgePair_63 (by decide) (fun c89 => ?_) (fun c89 => ?_)
    · have h := i_yes c89 h
      refine lv_aload_n hx hb dX0_judgePair_93 rfl (lv_at hl 0 rfl) ?_
      obtain ⟨o90, ho93, h⟩ := rq_i h
      refine r_getR hC hw kc_0 hi0 0 rfl lk_317 dX0_judgePair_94 rfl ho93 (fun a91 hi92 => ?_)
      obtain ⟨o94, ho97, h⟩ := rq_i h
      refine r_getR hC hw kc_3 hi92 4 rfl lk_155 dX0_judgePair_97 rfl ho97 (fun a95 hi96 => ?_)
      refine lv_iload_n hx hb dX0_judgePair_100 rfl (lv_at hl 1 rfl) ?_
      refine lv_iconst (v := 1) hx hb dX0_judgePair_101 (by decide) ?_
      refine lv_iadd hx hb dX0_judgePair_102 ?_
      obtain ⟨hn98, h⟩ := ix_i h
      refine r_iald hC hw hi96 hn98 dX0_judgePair_103 ?_
      refine lv_i2l (v := (gI D o94 (x1 + (1 : Int32)).toNatClampNeg).toInt64) hx hb dX0_judgePair_104 rfl ?_
      refine lv_bipush (v := 32) hx hb dX0_judgePair_105 (by decide) ?_
      refine lv_lshl (v := j_lshl ((gI D o94 (x1 + (1 : Int32)).toNatClampNeg).toInt64) (32 : Int32)) hx hb dX0_judgePair_107 rfl ?_
      refine lv_iload_n hx hb dX0_judgePair_108 rfl (lv_at hl 2 rfl) ?_
      refine lv_i2l (v := x2.toInt64) hx hb dX0_judgePair_109 rfl ?_
      refine lv_ldc2 (v := 4294967295) hx hb hC.2.2.2.1 (hC.2.2.2.2.1 _ lk_573) dX0_judgePair_110 ?_
      refine lv_land hx hb dX0_judgePair_113 ?_
      refine lv_lor hx hb dX0_judgePair_114 ?_
      refine lv_topl (fun y99 ey99 => ?_)
      have h := nm_i h y99 ey99
      refine lv_lstore (lv' := [(4, .long y99), (0, .ref a0), (1, .int x1), (2, .int x2), (3, .int x3)]) hx hb dX0_judgePair_115 hl (by decide) rfl (fun ls hl => ?_)
      refine lv_aload_n hx hb dX0_judgePair_117 rfl (lv_at hl 1 rfl) ?_
      obtain ⟨o100, ho103, h⟩ := rq_i h
      refine r_getR hC hw kc_0 hi0 4 rfl lk_321 dX0_judgePair_118 rfl ho103 (fun a101 hi102 => ?_)
      refine lv_aload_n hx hb dX0_judgePair_121 rfl (lv_at hl 1 rfl) ?_
      obtain ⟨o104, ho107, h⟩ := rq_i h
      refine r_getR hC hw kc_0 hi0 0 rfl lk_317 dX0_judgePair_122 rfl ho107 (fun a105 hi106 => ?_)
      obtain ⟨o108, ho111, h⟩ := rq_i h
      refine r_getR hC hw kc_3 hi106 1 rfl lk_146 dX0_judgePair_125 rfl ho111 (fun a109 hi110 => ?_)
      refine lv_iload_n hx hb dX0_judgePair_128 rfl (lv_at hl 2 rfl) ?_
      obtain ⟨hn112, h⟩ := ix_i h
      refine r_iald hC hw hi110 hn112 dX0_judgePair_129 ?_
      refine lv_iconst (v := 1) hx hb dX0_judgePair_130 (by decide) ?_
      refine lv_lload hx hb dX0_judgePair_131 (lv_at hl 0 rfl) ?_
      refine lv_lload hx hb dX0_judgePair_133 (lv_at hl 0 rfl) ?_
      obtain ⟨_, D114, hq113, h⟩ := cq_i h
      refine r_cV (st' := []) [.int (gI D o108 x1.toNatClampNeg), .int (1 : Int32), .long y99, .long y99] [] hC hw kc_4 hi102 (k_X5_write _ hi102 hq113) mk_X5_write lk_572 ⟨Nat.le_trans (by decide) hR.1, Nat.le_trans (by decide) hR.2⟩ ⟨Nat.zero_le _, Nat.zero_le _⟩ rfl hl.1 rfl rfl (Nat.le_of_ble_eq_true rfl) dX0_judgePair_135 (fun hP H locs hw => ?_)
      exact w_X0_judgePair_138 hC hR o0 a0 x1 _ _ _ _ hi0 hw (lv_sub hl [1, 2] rfl) h
    · have h := i_no c89 h
      refine lv_aload_n hx hb dX0_judgePair_66 rfl (lv_at hl 0 rfl) ?_
      obtain ⟨o115, ho118, h⟩ := rq_i h
      refine r_getR hC hw kc_0 hi0 4 rfl lk_321 dX0_judgePair_67 rfl ho118 (fun a116 hi117 => ?_)
      refine lv_aload_n hx hb dX0_judgePair_70 rfl (lv_at hl 0 rfl) ?_
      obtain ⟨o119, ho122, h⟩ := rq_i h
      refine r_getR hC hw kc_0 hi0 0 rfl lk_317 dX0_judgePair_71 rfl ho122 (fun a120 hi121 => ?_)
      obtain ⟨o123, ho126, h⟩ := rq_i h
      refine r_getR hC hw kc_3 hi121 1 rfl lk_146 dX0_judgePair_74 rfl ho126 (fun a124 hi125 => ?_)
      refine lv_iload_n hx hb dX0_judgePair_77 rfl (lv_at hl 1 rfl) ?_
      obtain ⟨hn127, h⟩ := ix_i h
      refine r_iald hC hw hi125 hn127 dX0_judgePair_78 ?_
      refine lv_iconst (v := 4) hx hb dX0_judgePair_79 (by decide) ?_
      refine lv_iload_n hx hb dX0_judgePair_80 rfl (lv_at hl 2 rfl) ?_
      refine lv_iconst (v := 0) hx hb dX0_judgePair_81 (by decide) ?_
      obtain ⟨r129, hq128, h⟩ := pq_i h
      refine r_cS (st' := [.int r129, .int (gI D o123 x1.toNatClampNeg), .ref a116]) [.int (4 : Int32), .int x2, .int (0 : Int32)] [.int (gI D o123 x1.toNatClampNeg), .ref a116] hC hw (k_X5_tagOf _ hq128) mk_X5_tagOf lk_569 ⟨Nat.le_trans (by decide) hR.1, Nat.le_trans (by decide) hR.2⟩ ⟨Nat.zero_le _, Nat.zero_le _⟩ rfl hl.1 rfl rfl (Nat.le_of_ble_eq_true rfl) dX0_judgePair_82 (fun hP H locs hw => ?_)
      refine lv_lconst (v := 0) hx hb dX0_judgePair_85 (by decide) ?_
      refine lv_lconst (v := 0) hx hb dX0_judgePair_86 (by decide) ?_
      obtain ⟨_, D131, hq130, h⟩ := cq_i h
      refine r_cV (st' := []) [.int (gI D o123 x1.toNatClampNeg), .int r129, .long (0 : Int64), .long (0 : Int64)] [] hC hw kc_4 hi117 (k_X5_write _ hi117 hq130) mk_X5_write lk_572 ⟨Nat.le_trans (by decide) hR.1, Nat.le_trans (by decide) hR.2⟩ ⟨Nat.zero_le _, Nat.zero_le _⟩ rfl hl.1 rfl rfl (Nat.le_of_ble_eq_true rfl) dX0_judgePair_87 (fun hP H locs hw => ?_)
      refine lv_goto (tgt := 138) hx hb dX0_judgePair_90 (by decide) ?_
      exact w_X0_judgePair_138 hC hR o0 a0 x1 _ _ _ _ hi0 hw (lv_sub hl [0, 1] rfl) h
  · have h := i_yes c88 h
    refine lv_bipush (v := 6) hx hb dX0_judgePair_59 (by decide) ?_
    cases h
    exact r_iret hC hw dX0_judgePair_61
set_option maxHeartbeats 4000000 in
set_option maxRecDepth 100000 in
theorem w_X0_judgePair_28 {r : Int32} {D' : dt} (hC : Cx RX0 cX0_judgePair 6 (some .int) p s m args meth c) (hR : 1 ≤ R.frames ∧ 26 ≤ R.locals) : ∀ (o0 a0 : Nat) (x1 : Int32) (x2 : Int32) (xs0 : Int32) (D : dt) (H : Heap) (locs : List Loc) (ls : Array Slot), Is S ad o0 a0 0 → Wd G cA S D ad A s H locs → lv_has ls 6 [(0, .ref a0), (1, .int x1), (2, .int x2)] → f_X0_judgePair_28 S o0 x1 x2 xs0 D = some (r, D') → W p l e R s m args below meth c H locs 0 0 (MQ below (Qn (some (.int r)) True (wpost G cA S D' ad A) A) args s 0 0 A) (F0 m 28 ls [.int xs0]) := by
  obtain ⟨hx, hb, -⟩ := id hC
  intro o0 a0 x1 x2 xs0 D H locs ls hi0 hw hl h
  unfold f_X0_judgePair_28 at h
  refine lv_istore_n (lv' := [(3, .int xs0), (0, .ref a0), (1, .int x1), (2, .int x2)]) hx hb dX0_judgePair_28 rfl hl (by decide) rfl (fun ls hl => ?_)
  refine lv_iload_n hx hb dX0_judgePair_29 rfl (lv_at hl 0 rfl) ?_
  refine lv_if_eq (tgt := 46) hx hb dX0_judgePair_30 (by decide) (fun c132 => ?_) (fun c132 => ?_)
  · have h := i_yes c132 h
    exact w_X0_judgePair_46 hC hR o0 a0 x1 x2 xs0 _ _ _ _ hi0 hw (lv_sub hl [1, 2, 3, 0] rfl) h
  · have h := i_no c132 h
    refine lv_aload_n hx hb dX0_judgePair_33 rfl (lv_at hl 1 rfl) ?_
    obtain ⟨o133, ho136, h⟩ := rq_i h
    refine r_getR hC hw kc_0 hi0 1 rfl lk_318 dX0_judgePair_34 rfl ho136 (fun a134 hi135 => ?_)
    refine lv_iload_n hx hb dX0_judgePair_37 rfl (lv_at hl 3 rfl) ?_
    obtain ⟨r138, hq137, h⟩ := pq_i h
    refine r_cV (st' := [va_rf (r138.map ad)]) [.int x2] [] hC hw kc_2 hi135 (k_X2_tableNumbered _ hi135 hq137) mk_X2_tableNumbered lk_564 ⟨Nat.le_trans (by decide) hR.1, Nat.le_trans (by decide) hR.2⟩ ⟨Nat.zero_le _, Nat.zero_le _⟩ rfl hl.1 rfl rfl (Nat.le_of_ble_eq_true rfl) dX0_judgePair_38 (fun hP H locs hw => ?_)
    cases r138 with
    | none =>
      have h := oqN h
      refine W.eq (g2 := F0 m 41 ls [.null]) rfl ?_
      refine lv_ifnonnullN hx hb dX0_judgePair_41 ?_
      refine lv_iconst (v := 4) hx hb dX0_judgePair_44 (by decide) ?_
      cases h
      exact r_iret hC hw dX0_judgePair_45
    | some o139 =>
      have h := oqS h
      have hi140 : Is S ad o139 (ad o139) 6 := ⟨(hP o139 rfl).1, (hP o139 rfl).2, rfl⟩
      refine W.eq (g2 := F0 m 41 ls [.ref (ad o139)]) rfl ?_
      refine lv_ifnonnull (tgt := 46) hx hb dX0_judgePair_41 (by decide) ?_
      exact w_X0_judgePair_46 hC hR o0 a0 x1 x2 xs0 _ _ _ _ hi0 hw (lv_sub hl [1, 2, 3, 0] rfl) h
set_option maxHeartbeats 4000000 in
set_option maxRecDepth 100000 in
theorem w_X0_judgePair_0 {r : Int32} {D' : dt} (hC : Cx RX0 cX0_judgePair 6 (some .int) p s m args meth c) (hR : 1 ≤ R.frames ∧ 26 ≤ R.locals) : ∀ (o0 a0 : Nat) (x1 : Int32) (D : dt) (H : Heap) (locs : List Loc) (ls : Array Slot), Is S ad o0 a0 0 → Wd G cA S D ad A s H locs → lv_has ls 6 [(0, .ref a0), (1, .int x1)] → f_X0_judgePair S o0 x1 D = some (r, D') → W p l e R s m args below meth c H locs 0 0 (MQ below (Qn (some (.int r)) True (wpost G cA S D' ad A) A) args s 0 0 A) (F0 m 0 ls []) := by
  obtain ⟨hx, hb, -⟩ := id hC
  intro o0 a0 x1 D H locs ls hi0 hw hl h
  unfold f_X0_judgePair at h
  refine lv_aload_n hx hb dX0_judgePair_0 rfl (lv_at hl 0 rfl) ?_
  obtain ⟨o141, ho144, h⟩ := rq_i h
  refine r_getR hC hw kc_0 hi0 0 rfl lk_317 dX0_judgePair_1 rfl ho144 (fun a142 hi143 => ?_)
  obtain ⟨o145, ho148, h⟩ := rq_i h
  refine r_getR hC hw kc_3 hi143 4 rfl lk_155 dX0_judgePair_4 rfl ho148 (fun a146 hi147 => ?_)
  refine lv_iload_n hx hb dX0_judgePair_7 rfl (lv_at hl 1 rfl) ?_
  obtain ⟨hn149, h⟩ := ix_i h
  refine r_iald hC hw hi147 hn149 dX0_judgePair_8 ?_
  refine lv_topi (fun y150 ey150 => ?_)
  have h := nm_i h y150 ey150
  refine lv_istore_n (lv' := [(2, .int y150), (0, .ref a0), (1, .int x1)]) hx hb dX0_judgePair_9 rfl hl (by decide) rfl (fun ls hl => ?_)
  refine lv_aload_n hx hb dX0_judgePair_10 rfl (lv_at hl 1 rfl) ?_
  obtain ⟨o151, ho154, h⟩ := rq_i h
  refine r_getR hC hw kc_0 hi0 0 rfl lk_317 dX0_judgePair_11 rfl ho154 (fun a152 hi153 => ?_)
  obtain ⟨o155, ho158, h⟩ := rq_i h
  refine r_getR hC hw kc_3 hi153 2 rfl lk_149 dX0_judgePair_14 rfl ho158 (fun a156 hi157 => ?_)
  refine lv_iload_n hx hb dX0_judgePair_17 rfl (lv_at hl 2 rfl) ?_
  obtain ⟨hn159, h⟩ := ix_i h
  refine r_iald hC hw hi157 hn159 dX0_judgePair_18 ?_
  refine lv_iconst (v := 1) hx hb dX0_judgePair_19 (by decide) ?_
  refine lv_icmp_ne (tgt := 27) hx hb dX0_judgePair_20 (by decide) (fun c160 => ?_) (fun c160 => ?_)
  · have h := i_no c160 h
    refine lv_iconst (v := 0) hx hb dX0_judgePair_27 (by decide) ?_
    exact w_X0_judgePair_28 hC hR o0 a0 x1 y150 (0 : Int32) _ _ _ _ hi0 hw (lv_sub hl [1, 2, 0] rfl) h
  · have h := i_yes c160 h
    refine lv_iconst (v := 1) hx hb dX0_judgePair_23 (by decide) ?_
    refine lv_goto (tgt := 28) hx hb dX0_judgePair_24 (by decide) ?_
    exact w_X0_judgePair_28 hC hR o0 a0 x1 y150 (1 : Int32) _ _ _ _ hi0 hw (lv_sub hl [1, 2, 0] rfl) h
set_option maxHeartbeats 4000000 in
set_option maxRecDepth 100000 in
theorem k_X0_judgePair {l : Launch} {G : va_G} {cA : Nat → ClassId} {S : sh} {D D' : dt} {ad : Nat → Nat} (sz : Nat) {o0 a0 : Nat} {x1 : Int32} {r : Int32} (hi0 : Is S ad o0 a0 0) (h : f_X0_judgePair S o0 x1 D = some (r, D')) : Co l yX0_judgePair (Cond.code yX0_judgePair cX0_judgePair 6 (some .int) :: tb0) 1 26 [.ref a0, .int x1] G cA S D ad sz (some (.int r)) True D' := by
  refine Met.ofW (cc := cX0_judgePair) (maxL := 6) (ret := (some .int)) (by decide) rfl ?_
  intro p e s m args below meth c s₁ B hml hv
  obtain ⟨rfl, hsz, hP, hK, hD0, hT, hX⟩ := hv
  subst hsz
  have hts := atoms_spec (ws := Cond.code yX0_judgePair cX0_judgePair 6 (some .int) :: tb0) B.pre
  have hC : Cx RX0 cX0_judgePair 6 (some .int) p s m _ meth c := ⟨B.exec, B.bytes, hml, findClass_of_methodNamed B.named, fun w q => hts w (List.mem_cons_of_mem _ q), B.returns, B.notSynchronized⟩
  have hw := Wd.entry hP hK hD0 hT hX
  have hl := lv_entry ([.ref a0, .int x1]) (n := 6) (Nat.le_of_ble_eq_true rfl)
  rw [lg_entry_eq]
  exact w_X0_judgePair_0 hC ⟨Nat.le_refl _, Nat.le_refl _⟩ o0 a0 x1 D _ _ _ hi0 hw hl h
set_option maxHeartbeats 4000000 in
set_option maxRecDepth 100000 in
theorem w_X0_canBeReached_24 {r : Int32} (hC : Cx RX0 cX0_canBeReached 3 (some .boolean) p s m args meth c) (hR : 1 ≤ R.frames ∧ 21 ≤ R.locals) : ∀  (H : Heap) (locs : List Loc) (ls : Array Slot), Wd G cA S D ad A s H locs → lv_has ls 3 [] → f_X0_canBeReached_24 S D = some r → W p l e R s m args below meth c H locs 0 0 (MQ below (Qn (some (.int r)) True (wpost G cA S D ad A) A) args s 0 0 A) (F0 m 24 ls []) := by
  obtain ⟨hx, hb, -⟩ := id hC
  intro H locs ls  hw hl h
  unfold f_X0_canBeReached_24 at h
  refine lv_iconst (v := 1) hx hb dX0_canBeReached_24 (by decide) ?_
  refine lv_goto (tgt := 29) hx hb dX0_canBeReached_25 (by decide) ?_
  cases h
  exact r_zret hC hw (Or.inr rfl) dX0_canBeReached_29
set_option maxHeartbeats 4000000 in
set_option maxRecDepth 100000 in
theorem w_X0_canBeReached_0 {r : Int32} (hC : Cx RX0 cX0_canBeReached 3 (some .boolean) p s m args meth c) (hR : 1 ≤ R.frames ∧ 21 ≤ R.locals) : ∀ (o0 a0 : Nat) (x1 : Int32) (H : Heap) (locs : List Loc) (ls : Array Slot), Is S ad o0 a0 0 → Wd G cA S D ad A s H locs → lv_has ls 3 [(0, .ref a0), (1, .int x1)] → f_X0_canBeReached S D o0 x1 = some r → W p l e R s m args below meth c H locs 0 0 (MQ below (Qn (some (.int r)) True (wpost G cA S D ad A) A) args s 0 0 A) (F0 m 0 ls []) := by
  obtain ⟨hx, hb, -⟩ := id hC
  intro o0 a0 x1 H locs ls hi0 hw hl h
  unfold f_X0_canBeReached at h
  refine lv_aload_n hx hb dX0_canBeReached_0 rfl (lv_at hl 0 rfl) ?_
  obtain ⟨o10, ho13, h⟩ := rq_i h
  refine r_getR hC hw kc_0 hi0 4 rfl lk_321 dX0_canBeReached_1 rfl ho13 (fun a11 hi12 => ?_)
  refine lv_iload_n hx hb dX0_canBeReached_4 rfl (lv_at hl 1 rfl) ?_
  obtain ⟨r15, hq14, h⟩ := pq_i h
  refine r_cV (st' := [.int r15]) [.int x1] [] hC hw kc_4 hi12 (k_X5_kind _ hi12 hq14) mk_X5_kind lk_587 ⟨Nat.le_trans (by decide) hR.1, Nat.le_trans (by decide) hR.2⟩ ⟨Nat.zero_le _, Nat.zero_le _⟩ rfl hl.1 rfl rfl (Nat.le_of_ble_eq_true rfl) dX0_canBeReached_5 (fun hP H locs hw => ?_)
  refine lv_istore_n (lv' := [(2, .int r15), (0, .ref a0), (1, .int x1)]) hx hb dX0_canBeReached_8 rfl hl (by decide) rfl (fun ls hl => ?_)
  refine lv_iload_n hx hb dX0_canBeReached_9 rfl (lv_at hl 0 rfl) ?_
  refine lv_iconst (v := 2) hx hb dX0_canBeReached_10 (by decide) ?_
  refine lv_icmp_eq (tgt := 24) hx hb dX0_canBeReached_11 (by decide) (fun c16 => ?_) (fun c16 => ?_)
  · have h := i_yes c16 h
    exact w_X0_canBeReached_24 hC hR _ _ _ hw (lv_sub hl [] rfl) h
  · have h := i_no c16 h
    refine lv_iload_n hx hb dX0_canBeReached_14 rfl (lv_at hl 0 rfl) ?_
    refine lv_iconst (v := 3) hx hb dX0_canBeReached_15 (by decide) ?_
    refine lv_icmp_eq (tgt := 24) hx hb dX0_canBeReached_16 (by decide) (fun c17 => ?_) (fun c17 => ?_)
    · have h := i_yes c17 h
      exact w_X0_canBeReached_24 hC hR _ _ _ hw (lv_sub hl [] rfl) h
    · have h := i_no c17 h
      refine lv_iload_n hx hb dX0_canBeReached_19 rfl (lv_at hl 0 rfl) ?_
      refine lv_iconst (v := 5) hx hb dX0_canBeReached_20 (by decide) ?_
      refine lv_icmp_ne (tgt := 28) hx hb dX0_canBeReached_21 (by decide) (fun c18 => ?_) (fun c18 => ?_)
      · have h := i_no c18 h
        refine lv_iconst (v := 0) hx hb dX0_canBeReached_28 (by decide) ?_
        cases h
        exact r_zret hC hw (Or.inl rfl) dX0_canBeReached_29
      · have h := i_yes c18 h
        exact w_X0_canBeReached_24 hC hR _ _ _ hw (lv_sub hl [] rfl) h
set_option maxHeartbeats 4000000 in
set_option maxRecDepth 100000 in
theorem k_X0_canBeReached {l : Launch} {G : va_G} {cA : Nat → ClassId} {S : sh} {D : dt} {ad : Nat → Nat} (sz : Nat) {o0 a0 : Nat} {x1 : Int32} {r : Int32} (hi0 : Is S ad o0 a0 0) (h : f_X0_canBeReached S D o0 x1 = some r) : Co l yX0_canBeReached (Cond.code yX0_canBeReached cX0_canBeReached 3 (some .boolean) :: tb0) 1 21 [.ref a0, .int x1] G cA S D ad sz (some (.int r)) True D := by
  refine Met.ofW (cc := cX0_canBeReached) (maxL := 3) (ret := (some .boolean)) (by decide) rfl ?_
  intro p e s m args below meth c s₁ B hml hv
  obtain ⟨rfl, hsz, hP, hK, hD0, hT, hX⟩ := hv
  subst hsz
  have hts := atoms_spec (ws := Cond.code yX0_canBeReached cX0_canBeReached 3 (some .boolean) :: tb0) B.pre
  have hC : Cx RX0 cX0_canBeReached 3 (some .boolean) p s m _ meth c := ⟨B.exec, B.bytes, hml, findClass_of_methodNamed B.named, fun w q => hts w (List.mem_cons_of_mem _ q), B.returns, B.notSynchronized⟩
  have hw := Wd.entry hP hK hD0 hT hX
  have hl := lv_entry ([.ref a0, .int x1]) (n := 3) (Nat.le_of_ble_eq_true rfl)
  rw [lg_entry_eq]
  exact w_X0_canBeReached_0 hC ⟨Nat.le_refl _, Nat.le_refl _⟩ o0 a0 x1 _ _ _ hi0 hw hl h
set_option maxHeartbeats 4000000 in
set_option maxRecDepth 100000 in
theorem w_X0_isThere_0 {r : Int32} (hC : Cx RX0 cX0_isThere 10 (some .boolean) p s m args meth c) (hR : 1 ≤ R.frames ∧ 21 ≤ R.locals) : ∀ (o0 a0 : Nat) (x1 : Int32) (x2 : Int32) (x3 : Int32) (x4 : Int32) (H : Heap) (locs : List Loc) (ls : Array Slot), Is S ad o0 a0 0 → Wd G cA S D ad A s H locs → lv_has ls 10 [(0, .ref a0), (1, .int x1), (2, .int x2), (3, .int x3), (4, .int x4)] → f_X0_isThere S D o0 x1 x2 x3 x4 = some r → W p l e R s m args below meth c H locs 0 0 (MQ below (Qn (some (.int r)) True (wpost G cA S D ad A) A) args s 0 0 A) (F0 m 0 ls []) := by
  obtain ⟨hx, hb, -⟩ := id hC
  intro o0 a0 x1 x2 x3 x4 H locs ls hi0 hw hl h
  unfold f_X0_isThere at h
  refine lv_aload_n hx hb dX0_isThere_0 rfl (lv_at hl 0 rfl) ?_
  obtain ⟨o54, ho57, h⟩ := rq_i h
  refine r_getR hC hw kc_0 hi0 4 rfl lk_321 dX0_isThere_1 rfl ho57 (fun a55 hi56 => ?_)
  obtain ⟨o58, ho61, h⟩ := rq_i h
  refine r_getR hC hw kc_4 hi56 2 rfl lk_268 dX0_isThere_4 rfl ho61 (fun a59 hi60 => ?_)
  refine lv_iload_n hx hb dX0_isThere_7 rfl (lv_at hl 1 rfl) ?_
  obtain ⟨hn62, h⟩ := ix_i h
  refine r_lald hC hw hi60 hn62 dX0_isThere_8 ?_
  refine lv_iload_n hx hb dX0_isThere_9 rfl (lv_at hl 2 rfl) ?_
  refine lv_i2l (v := x2.toInt64) hx hb dX0_isThere_10 rfl ?_
  refine lv_ladd hx hb dX0_isThere_11 ?_
  refine lv_topl (fun y63 ey63 => ?_)
  have h := nm_i h y63 ey63
  refine lv_lstore (lv' := [(5, .long y63), (0, .ref a0), (1, .int x1), (2, .int x2), (3, .int x3), (4, .int x4)]) hx hb dX0_isThere_12 hl (by decide) rfl (fun ls hl => ?_)
  refine lv_aload_n hx hb dX0_isThere_14 rfl (lv_at hl 1 rfl) ?_
  obtain ⟨o64, ho67, h⟩ := rq_i h
  refine r_getR hC hw kc_0 hi0 4 rfl lk_321 dX0_isThere_15 rfl ho67 (fun a65 hi66 => ?_)
  obtain ⟨o68, ho71, h⟩ := rq_i h
  refine r_getR hC hw kc_4 hi66 3 rfl lk_270 dX0_isThere_18 rfl ho71 (fun a69 hi70 => ?_)
  refine lv_iload_n hx hb dX0_isThere_21 rfl (lv_at hl 2 rfl) ?_
  obtain ⟨hn72, h⟩ := ix_i h
  refine r_lald hC hw hi70 hn72 dX0_isThere_22 ?_
  refine lv_iload_n hx hb dX0_isThere_23 rfl (lv_at hl 3 rfl) ?_
  refine lv_i2l (v := x2.toInt64) hx hb dX0_isThere_24 rfl ?_
  refine lv_ladd hx hb dX0_isThere_25 ?_
  refine lv_iload_n hx hb dX0_isThere_26 rfl (lv_at hl 4 rfl) ?_
  refine lv_i2l (v := x3.toInt64) hx hb dX0_isThere_27 rfl ?_
  refine lv_ladd hx hb dX0_isThere_28 ?_
  refine lv_topl (fun y73 ey73 => ?_)
  have h := nm_i h y73 ey73
  refine lv_lstore (lv' := [(7, .long y73), (5, .long y63), (0, .ref a0), (1, .int x1), (2, .int x2), (3, .int x3), (4, .int x4)]) hx hb dX0_isThere_29 hl (by decide) rfl (fun ls hl => ?_)
  refine lv_aload_n hx hb dX0_isThere_31 rfl (lv_at hl 2 rfl) ?_
  obtain ⟨o74, ho77, h⟩ := rq_i h
  refine r_getR hC hw kc_0 hi0 4 rfl lk_321 dX0_isThere_32 rfl ho77 (fun a75 hi76 => ?_)
  refine lv_iload_n hx hb dX0_isThere_35 rfl (lv_at hl 3 rfl) ?_
  obtain ⟨r79, hq78, h⟩ := pq_i h
  refine r_cV (st' := [.int r79]) [.int x1] [] hC hw kc_4 hi76 (k_X5_kind _ hi76 hq78) mk_X5_kind lk_587 ⟨Nat.le_trans (by decide) hR.1, Nat.le_trans (by decide) hR.2⟩ ⟨Nat.zero_le _, Nat.zero_le _⟩ rfl hl.1 rfl rfl (Nat.le_of_ble_eq_true rfl) dX0_isThere_36 (fun hP H locs hw => ?_)
  by_cases c80 : r79 = 2
  · have h := i_yes c80 h
    refine lv_lookup (off := 25) (tgt := 64) hx hb dX0_isThere_39 (by decide) (by rw [c80] <;> rfl) (by decide) ?_
    refine lv_iload hx hb dX0_isThere_64 (lv_at hl 6 rfl) ?_
    refine lv_if_ne (tgt := 94) hx hb dX0_isThere_66 (by decide) (fun c81 => ?_) (fun c81 => ?_)
    · have h := i_no c81 h
      refine lv_iconst (v := 0) hx hb dX0_isThere_94 (by decide) ?_
      cases h
      exact r_zret hC hw (Or.inl rfl) dX0_isThere_95
    · have h := i_yes c81 h
      refine lv_lload hx hb dX0_isThere_69 (lv_at hl 1 rfl) ?_
      refine lv_lconst (v := 0) hx hb dX0_isThere_71 (by decide) ?_
      refine W.lcmp hx hb dX0_isThere_72 ?_
      refine lv_if_lt (tgt := 94) hx hb dX0_isThere_73 (by decide) (fun c82 => ?_) (fun c82 => ?_)
      · have h := i_yes c82 h
        refine lv_iconst (v := 0) hx hb dX0_isThere_94 (by decide) ?_
        cases h
        exact r_zret hC hw (Or.inl rfl) dX0_isThere_95
      · have h := i_no c82 h
        refine lv_lload hx hb dX0_isThere_76 (lv_at hl 0 rfl) ?_
        refine lv_aload_n hx hb dX0_isThere_78 rfl (lv_at hl 2 rfl) ?_
        obtain ⟨o83, ho86, h⟩ := rq_i h
        refine r_getR hC hw kc_0 hi0 1 rfl lk_318 dX0_isThere_79 rfl ho86 (fun a84 hi85 => ?_)
        refine r_gI hC hw kc_2 hi85 1 rfl lk_185 dX0_isThere_82 ?_
        refine lv_i2l (v := (gI D o83 1).toInt64) hx hb dX0_isThere_85 rfl ?_
        refine W.lcmp hx hb dX0_isThere_86 ?_
        refine lv_if_gt (tgt := 94) hx hb dX0_isThere_87 (by decide) (fun c87 => ?_) (fun c87 => ?_)
        · have h := i_yes c87 h
          refine lv_iconst (v := 0) hx hb dX0_isThere_94 (by decide) ?_
          cases h
          exact r_zret hC hw (Or.inl rfl) dX0_isThere_95
        · have h := i_no c87 h
          refine lv_iconst (v := 1) hx hb dX0_isThere_90 (by decide) ?_
          refine lv_goto (tgt := 95) hx hb dX0_isThere_91 (by decide) ?_
          cases h
          exact r_zret hC hw (Or.inr rfl) dX0_isThere_95
  have h := i_no c80 h
  by_cases c88 : r79 = 3
  · have h := i_yes c88 h
    refine lv_lookup (off := 57) (tgt := 96) hx hb dX0_isThere_39 (by decide) (by rw [c88] <;> rfl) (by decide) ?_
    refine lv_lload hx hb dX0_isThere_96 (lv_at hl 1 rfl) ?_
    refine lv_ldc2 (v := (-512)) hx hb hC.2.2.2.1 (hC.2.2.2.2.1 _ lk_599) dX0_isThere_98 ?_
    refine W.lcmp hx hb dX0_isThere_101 ?_
    refine lv_if_lt (tgt := 116) hx hb dX0_isThere_102 (by decide) (fun c89 => ?_) (fun c89 => ?_)
    · have h := i_yes c89 h
      refine lv_iconst (v := 0) hx hb dX0_isThere_116 (by decide) ?_
      cases h
      exact r_zret hC hw (Or.inl rfl) dX0_isThere_117
    · have h := i_no c89 h
      refine lv_lload hx hb dX0_isThere_105 (lv_at hl 0 rfl) ?_
      refine lv_lconst (v := 0) hx hb dX0_isThere_107 (by decide) ?_
      refine W.lcmp hx hb dX0_isThere_108 ?_
      refine lv_if_gt (tgt := 116) hx hb dX0_isThere_109 (by decide) (fun c90 => ?_) (fun c90 => ?_)
      · have h := i_yes c90 h
        refine lv_iconst (v := 0) hx hb dX0_isThere_116 (by decide) ?_
        cases h
        exact r_zret hC hw (Or.inl rfl) dX0_isThere_117
      · have h := i_no c90 h
        refine lv_iconst (v := 1) hx hb dX0_isThere_112 (by decide) ?_
        refine lv_goto (tgt := 117) hx hb dX0_isThere_113 (by decide) ?_
        cases h
        exact r_zret hC hw (Or.inr rfl) dX0_isThere_117
  have h := i_no c88 h
  refine lv_lookup (off := 79) (tgt := 118) hx hb dX0_isThere_39 (by decide) ((lv_osw c80 rfl).trans ((lv_osw c88 rfl).trans (rfl))) (by decide) ?_
  refine lv_aload_n hx hb dX0_isThere_118 rfl (lv_at hl 2 rfl) ?_
  obtain ⟨o91, ho94, h⟩ := rq_i h
  refine r_getR hC hw kc_0 hi0 1 rfl lk_318 dX0_isThere_119 rfl ho94 (fun a92 hi93 => ?_)
  refine lv_aload_n hx hb dX0_isThere_122 rfl (lv_at hl 2 rfl) ?_
  obtain ⟨o95, ho98, h⟩ := rq_i h
  refine r_getR hC hw kc_0 hi0 4 rfl lk_321 dX0_isThere_123 rfl ho98 (fun a96 hi97 => ?_)
  refine lv_iload_n hx hb dX0_isThere_126 rfl (lv_at hl 3 rfl) ?_
  obtain ⟨r100, hq99, h⟩ := pq_i h
  refine r_cV (st' := [.int r100, .ref a92]) [.int x1] [.ref a92] hC hw kc_4 hi97 (k_X5_tableOf _ hi97 hq99) mk_X5_tableOf lk_600 ⟨Nat.le_trans (by decide) hR.1, Nat.le_trans (by decide) hR.2⟩ ⟨Nat.zero_le _, Nat.zero_le _⟩ rfl hl.1 rfl rfl (Nat.le_of_ble_eq_true rfl) dX0_isThere_127 (fun hP H locs hw => ?_)
  obtain ⟨r102, hq101, h⟩ := pq_i h
  refine r_cV (st' := [va_rf (r102.map ad)]) [.int r100] [] hC hw kc_2 hi93 (k_X2_tableNumbered _ hi93 hq101) mk_X2_tableNumbered lk_564 ⟨Nat.le_trans (by decide) hR.1, Nat.le_trans (by decide) hR.2⟩ ⟨Nat.zero_le _, Nat.zero_le _⟩ rfl hl.1 rfl rfl (Nat.le_of_ble_eq_true rfl) dX0_isThere_130 (fun hP H locs hw => ?_)
  cases r102 with
  | none =>
    have h := oqN h
    refine W.eq (g2 := F0 m 133 ls [.null]) rfl ?_
    refine lv_astoreN (lv' := [(9, .null), (7, .long y73), (5, .long y63), (0, .ref a0), (1, .int x1), (2, .int x2), (3, .int x3), (4, .int x4)]) hx hb dX0_isThere_133 hl (by decide) rfl (fun ls hl => ?_)
    refine lv_aloadN hx hb dX0_isThere_135 (lv_at hl 0 rfl) ?_
    refine lv_ifnullN (tgt := 163) hx hb dX0_isThere_137 (by decide) ?_
    refine lv_iconst (v := 0) hx hb dX0_isThere_163 (by decide) ?_
    cases h
    exact r_zret hC hw (Or.inl rfl) dX0_isThere_164
  | some o103 =>
    have h := oqS h
    have hi104 : Is S ad o103 (ad o103) 6 := ⟨(hP o103 rfl).1, (hP o103 rfl).2, rfl⟩
    refine W.eq (g2 := F0 m 133 ls [.ref (ad o103)]) rfl ?_
    refine lv_astore (lv' := [(9, .ref (ad o103)), (7, .long y73), (5, .long y63), (0, .ref a0), (1, .int x1), (2, .int x2), (3, .int x3), (4, .int x4)]) hx hb dX0_isThere_133 hl (by decide) rfl (fun ls hl => ?_)
    refine lv_aload hx hb dX0_isThere_135 (lv_at hl 0 rfl) ?_
    refine lv_ifnull hx hb dX0_isThere_137 ?_
    refine lv_lload hx hb dX0_isThere_140 (lv_at hl 2 rfl) ?_
    refine lv_lconst (v := 0) hx hb dX0_isThere_142 (by decide) ?_
    refine W.lcmp hx hb dX0_isThere_143 ?_
    refine lv_if_lt (tgt := 163) hx hb dX0_isThere_144 (by decide) (fun c105 => ?_) (fun c105 => ?_)
    · have h := i_yes c105 h
      refine lv_iconst (v := 0) hx hb dX0_isThere_163 (by decide) ?_
      cases h
      exact r_zret hC hw (Or.inl rfl) dX0_isThere_164
    · have h := i_no c105 h
      refine lv_lload hx hb dX0_isThere_147 (lv_at hl 1 rfl) ?_
      refine lv_aload hx hb dX0_isThere_149 (lv_at hl 0 rfl) ?_
      refine r_gI hC hw kc_6 hi104 2 rfl lk_408 dX0_isThere_151 ?_
      refine lv_i2l (v := (gI D o103 2).toInt64) hx hb dX0_isThere_154 rfl ?_
      refine W.lcmp hx hb dX0_isThere_155 ?_
      refine lv_if_gt (tgt := 163) hx hb dX0_isThere_156 (by decide) (fun c106 => ?_) (fun c106 => ?_)
      · have h := i_yes c106 h
        refine lv_iconst (v := 0) hx hb dX0_isThere_163 (by decide) ?_
        cases h
        exact r_zret hC hw (Or.inl rfl) dX0_isThere_164
      · have h := i_no c106 h
        refine lv_iconst (v := 1) hx hb dX0_isThere_159 (by decide) ?_
        refine lv_goto (tgt := 164) hx hb dX0_isThere_160 (by decide) ?_
        cases h
        exact r_zret hC hw (Or.inr rfl) dX0_isThere_164
set_option maxHeartbeats 4000000 in
set_option maxRecDepth 100000 in
theorem k_X0_isThere {l : Launch} {G : va_G} {cA : Nat → ClassId} {S : sh} {D : dt} {ad : Nat → Nat} (sz : Nat) {o0 a0 : Nat} {x1 : Int32} {x2 : Int32} {x3 : Int32} {x4 : Int32} {r : Int32} (hi0 : Is S ad o0 a0 0) (h : f_X0_isThere S D o0 x1 x2 x3 x4 = some r) : Co l yX0_isThere (Cond.code yX0_isThere cX0_isThere 10 (some .boolean) :: tb0) 1 21 [.ref a0, .int x1, .int x2, .int x3, .int x4] G cA S D ad sz (some (.int r)) True D := by
  refine Met.ofW (cc := cX0_isThere) (maxL := 10) (ret := (some .boolean)) (by decide) rfl ?_
  intro p e s m args below meth c s₁ B hml hv
  obtain ⟨rfl, hsz, hP, hK, hD0, hT, hX⟩ := hv
  subst hsz
  have hts := atoms_spec (ws := Cond.code yX0_isThere cX0_isThere 10 (some .boolean) :: tb0) B.pre
  have hC : Cx RX0 cX0_isThere 10 (some .boolean) p s m _ meth c := ⟨B.exec, B.bytes, hml, findClass_of_methodNamed B.named, fun w q => hts w (List.mem_cons_of_mem _ q), B.returns, B.notSynchronized⟩
  have hw := Wd.entry hP hK hD0 hT hX
  have hl := lv_entry ([.ref a0, .int x1, .int x2, .int x3, .int x4]) (n := 10) (Nat.le_of_ble_eq_true rfl)
  rw [lg_entry_eq]
  exact w_X0_isThere_0 hC ⟨Nat.le_refl _, Nat.le_refl _⟩ o0 a0 x1 x2 x3 x4 _ _ _ hi0 hw hl h
set_option maxHeartbeats 4000000 in
set_option maxRecDepth 100000 in
theorem w_X0_inStack_0 {r : Int32} (hC : Cx RX0 cX0_inStack 3 (some .int) p s m args meth c) (hR : 0 ≤ R.frames ∧ 0 ≤ R.locals) : ∀ (o0 a0 : Nat) (x1 : Int32) (x2 : Int32) (H : Heap) (locs : List Loc) (ls : Array Slot), Is S ad o0 a0 0 → Wd G cA S D ad A s H locs → lv_has ls 3 [(0, .ref a0), (1, .int x1), (2, .int x2)] → f_X0_inStack S D o0 x1 x2 = some r → W p l e R s m args below meth c H locs 0 0 (MQ below (Qn (some (.int r)) True (wpost G cA S D ad A) A) args s 0 0 A) (F0 m 0 ls []) := by
  obtain ⟨hx, hb, -⟩ := id hC
  intro o0 a0 x1 x2 H locs ls hi0 hw hl h
  unfold f_X0_inStack at h
  refine lv_aload_n hx hb dX0_inStack_0 rfl (lv_at hl 0 rfl) ?_
  obtain ⟨o10, ho13, h⟩ := rq_i h
  refine r_getR hC hw kc_0 hi0 4 rfl lk_321 dX0_inStack_1 rfl ho13 (fun a11 hi12 => ?_)
  obtain ⟨o14, ho17, h⟩ := rq_i h
  refine r_getR hC hw kc_4 hi12 2 rfl lk_268 dX0_inStack_4 rfl ho17 (fun a15 hi16 => ?_)
  refine lv_iload_n hx hb dX0_inStack_7 rfl (lv_at hl 1 rfl) ?_
  obtain ⟨hn18, h⟩ := ix_i h
  refine r_lald hC hw hi16 hn18 dX0_inStack_8 ?_
  refine lv_l2i (v := (gL D o14 x1.toNatClampNeg).toInt32) hx hb dX0_inStack_9 rfl ?_
  refine lv_iload_n hx hb dX0_inStack_10 rfl (lv_at hl 2 rfl) ?_
  refine lv_iadd hx hb dX0_inStack_11 ?_
  refine lv_sipush (v := 512) hx hb dX0_inStack_12 (by decide) ?_
  refine lv_iadd hx hb dX0_inStack_15 ?_
  cases h
  exact r_iret hC hw dX0_inStack_16
set_option maxHeartbeats 4000000 in
set_option maxRecDepth 100000 in
theorem k_X0_inStack {l : Launch} {G : va_G} {cA : Nat → ClassId} {S : sh} {D : dt} {ad : Nat → Nat} (sz : Nat) {o0 a0 : Nat} {x1 : Int32} {x2 : Int32} {r : Int32} (hi0 : Is S ad o0 a0 0) (h : f_X0_inStack S D o0 x1 x2 = some r) : Co l yX0_inStack (Cond.code yX0_inStack cX0_inStack 3 (some .int) :: tb0) 0 0 [.ref a0, .int x1, .int x2] G cA S D ad sz (some (.int r)) True D := by
  refine Met.ofW (cc := cX0_inStack) (maxL := 3) (ret := (some .int)) (by decide) rfl ?_
  intro p e s m args below meth c s₁ B hml hv
  obtain ⟨rfl, hsz, hP, hK, hD0, hT, hX⟩ := hv
  subst hsz
  have hts := atoms_spec (ws := Cond.code yX0_inStack cX0_inStack 3 (some .int) :: tb0) B.pre
  have hC : Cx RX0 cX0_inStack 3 (some .int) p s m _ meth c := ⟨B.exec, B.bytes, hml, findClass_of_methodNamed B.named, fun w q => hts w (List.mem_cons_of_mem _ q), B.returns, B.notSynchronized⟩
  have hw := Wd.entry hP hK hD0 hT hX
  have hl := lv_entry ([.ref a0, .int x1, .int x2]) (n := 3) (Nat.le_of_ble_eq_true rfl)
  rw [lg_entry_eq]
  exact w_X0_inStack_0 hC ⟨Nat.le_refl _, Nat.le_refl _⟩ o0 a0 x1 x2 _ _ _ hi0 hw hl h
set_option maxHeartbeats 4000000 in
set_option maxRecDepth 100000 in
theorem w_X0_isHeldWhole_0 {r : Int32} (hC : Cx RX0 cX0_isHeldWhole 3 (some .boolean) p s m args meth c) (hR : 1 ≤ R.frames ∧ 21 ≤ R.locals) : ∀ (o0 a0 : Nat) (x1 : Int32) (x2 : Int32) (H : Heap) (locs : List Loc) (ls : Array Slot), Is S ad o0 a0 0 → Wd G cA S D ad A s H locs → lv_has ls 3 [(0, .ref a0), (1, .int x1), (2, .int x2)] → f_X0_isHeldWhole S D o0 x1 x2 = some r → W p l e R s m args below meth c H locs 0 0 (MQ below (Qn (some (.int r)) True (wpost G cA S D ad A) A) args s 0 0 A) (F0 m 0 ls []) := by
  obtain ⟨hx, hb, -⟩ := id hC
  intro o0 a0 x1 x2 H locs ls hi0 hw hl h
  unfold f_X0_isHeldWhole at h
  refine lv_iload_n hx hb dX0_isHeldWhole_0 rfl (lv_at hl 2 rfl) ?_
  refine lv_bipush (v := 8) hx hb dX0_isHeldWhole_1 (by decide) ?_
  refine lv_icmp_ne (tgt := 30) hx hb dX0_isHeldWhole_3 (by decide) (fun c10 => ?_) (fun c10 => ?_)
  · have h := i_no c10 h
    refine lv_iconst (v := 0) hx hb dX0_isHeldWhole_30 (by decide) ?_
    cases h
    exact r_zret hC hw (Or.inl rfl) dX0_isHeldWhole_31
  · have h := i_yes c10 h
    refine lv_iload_n hx hb dX0_isHeldWhole_6 rfl (lv_at hl 1 rfl) ?_
    refine lv_bipush (v := 7) hx hb dX0_isHeldWhole_7 (by decide) ?_
    refine lv_iand hx hb dX0_isHeldWhole_9 ?_
    refine lv_if_ne (tgt := 30) hx hb dX0_isHeldWhole_10 (by decide) (fun c11 => ?_) (fun c11 => ?_)
    · have h := i_no c11 h
      refine lv_iconst (v := 0) hx hb dX0_isHeldWhole_30 (by decide) ?_
      cases h
      exact r_zret hC hw (Or.inl rfl) dX0_isHeldWhole_31
    · have h := i_yes c11 h
      refine lv_aload_n hx hb dX0_isHeldWhole_13 rfl (lv_at hl 0 rfl) ?_
      obtain ⟨o12, ho15, h⟩ := rq_i h
      refine r_getR hC hw kc_0 hi0 4 rfl lk_321 dX0_isHeldWhole_14 rfl ho15 (fun a13 hi14 => ?_)
      refine lv_iload_n hx hb dX0_isHeldWhole_17 rfl (lv_at hl 1 rfl) ?_
      refine lv_iconst (v := 3) hx hb dX0_isHeldWhole_18 (by decide) ?_
      refine lv_ishr hx hb dX0_isHeldWhole_19 ?_
      obtain ⟨r17, hq16, h⟩ := pq_i h
      refine r_cV (st' := [.int r17]) [.int (x1 >>> ((3 : Int32) &&& 31))] [] hC hw kc_4 hi14 (k_X5_holds _ hi14 hq16) mk_X5_holds lk_612 ⟨Nat.le_trans (by decide) hR.1, Nat.le_trans (by decide) hR.2⟩ ⟨Nat.zero_le _, Nat.zero_le _⟩ rfl hl.1 rfl rfl (Nat.le_of_ble_eq_true rfl) dX0_isHeldWhole_20 (fun hP H locs hw => ?_)
      refine lv_if_eq (tgt := 30) hx hb dX0_isHeldWhole_23 (by decide) (fun c18 => ?_) (fun c18 => ?_)
      · have h := i_yes c18 h
        refine lv_iconst (v := 0) hx hb dX0_isHeldWhole_30 (by decide) ?_
        cases h
        exact r_zret hC hw (Or.inl rfl) dX0_isHeldWhole_31
      · have h := i_no c18 h
        refine lv_iconst (v := 1) hx hb dX0_isHeldWhole_26 (by decide) ?_
        refine lv_goto (tgt := 31) hx hb dX0_isHeldWhole_27 (by decide) ?_
        cases h
        exact r_zret hC hw (Or.inr rfl) dX0_isHeldWhole_31
set_option maxHeartbeats 4000000 in
set_option maxRecDepth 100000 in
theorem k_X0_isHeldWhole {l : Launch} {G : va_G} {cA : Nat → ClassId} {S : sh} {D : dt} {ad : Nat → Nat} (sz : Nat) {o0 a0 : Nat} {x1 : Int32} {x2 : Int32} {r : Int32} (hi0 : Is S ad o0 a0 0) (h : f_X0_isHeldWhole S D o0 x1 x2 = some r) : Co l yX0_isHeldWhole (Cond.code yX0_isHeldWhole cX0_isHeldWhole 3 (some .boolean) :: tb0) 1 21 [.ref a0, .int x1, .int x2] G cA S D ad sz (some (.int r)) True D := by
  refine Met.ofW (cc := cX0_isHeldWhole) (maxL := 3) (ret := (some .boolean)) (by decide) rfl ?_
  intro p e s m args below meth c s₁ B hml hv
  obtain ⟨rfl, hsz, hP, hK, hD0, hT, hX⟩ := hv
  subst hsz
  have hts := atoms_spec (ws := Cond.code yX0_isHeldWhole cX0_isHeldWhole 3 (some .boolean) :: tb0) B.pre
  have hC : Cx RX0 cX0_isHeldWhole 3 (some .boolean) p s m _ meth c := ⟨B.exec, B.bytes, hml, findClass_of_methodNamed B.named, fun w q => hts w (List.mem_cons_of_mem _ q), B.returns, B.notSynchronized⟩
  have hw := Wd.entry hP hK hD0 hT hX
  have hl := lv_entry ([.ref a0, .int x1, .int x2]) (n := 3) (Nat.le_of_ble_eq_true rfl)
  rw [lg_entry_eq]
  exact w_X0_isHeldWhole_0 hC ⟨Nat.le_refl _, Nat.le_refl _⟩ o0 a0 x1 x2 _ _ _ hi0 hw hl h
set_option maxHeartbeats 4000000 in
set_option maxRecDepth 100000 in
theorem w_X0_canBeRead_58 {r : Int32} (hC : Cx RX0 cX0_canBeRead 5 (some .boolean) p s m args meth c) (hR : 2 ≤ R.frames ∧ 50 ≤ R.locals) : ∀  (H : Heap) (locs : List Loc) (ls : Array Slot), Wd G cA S D ad A s H locs → lv_has ls 5 [] → f_X0_canBeRead_58 S D = some r → W p l e R s m args below meth c H locs 0 0 (MQ below (Qn (some (.int r)) True (wpost G cA S D ad A) A) args s 0 0 A) (F0 m 58 ls []) := by
  obtain ⟨hx, hb, -⟩ := id hC
  intro H locs ls  hw hl h
  unfold f_X0_canBeRead_58 at h
  refine lv_iconst (v := 1) hx hb dX0_canBeRead_58 (by decide) ?_
  refine lv_goto (tgt := 63) hx hb dX0_canBeRead_59 (by decide) ?_
  cases h
  exact r_zret hC hw (Or.inr rfl) dX0_canBeRead_63
set_option maxHeartbeats 4000000 in
set_option maxRecDepth 100000 in
theorem w_X0_canBeRead_0 {r : Int32} (hC : Cx RX0 cX0_canBeRead 5 (some .boolean) p s m args meth c) (hR : 2 ≤ R.frames ∧ 50 ≤ R.locals) : ∀ (o0 a0 : Nat) (x1 : Int32) (x2 : Int32) (x3 : Int32) (H : Heap) (locs : List Loc) (ls : Array Slot), Is S ad o0 a0 0 → Wd G cA S D ad A s H locs → lv_has ls 5 [(0, .ref a0), (1, .int x1), (2, .int x2), (3, .int x3)] → f_X0_canBeRead S D o0 x1 x2 x3 = some r → W p l e R s m args below meth c H locs 0 0 (MQ below (Qn (some (.int r)) True (wpost G cA S D ad A) A) args s 0 0 A) (F0 m 0 ls []) := by
  obtain ⟨hx, hb, -⟩ := id hC
  intro o0 a0 x1 x2 x3 H locs ls hi0 hw hl h
  unfold f_X0_canBeRead at h
  refine lv_aload_n hx hb dX0_canBeRead_0 rfl (lv_at hl 0 rfl) ?_
  refine lv_iload_n hx hb dX0_canBeRead_1 rfl (lv_at hl 1 rfl) ?_
  refine lv_iload_n hx hb dX0_canBeRead_2 rfl (lv_at hl 2 rfl) ?_
  refine lv_iload_n hx hb dX0_canBeRead_3 rfl (lv_at hl 3 rfl) ?_
  refine lv_iconst (v := 0) hx hb dX0_canBeRead_4 (by decide) ?_
  obtain ⟨r24, hq23, h⟩ := pq_i h
  refine r_cV (st' := [.int r24]) [.int x1, .int x2, .int x3, .int (0 : Int32)] [] hC hw kc_0 hi0 (k_X0_isThere _ hi0 hq23) mk_X0_isThere lk_595 ⟨Nat.le_trans (by decide) hR.1, Nat.le_trans (by decide) hR.2⟩ ⟨Nat.zero_le _, Nat.zero_le _⟩ rfl hl.1 rfl rfl (Nat.le_of_ble_eq_true rfl) dX0_canBeRead_5 (fun hP H locs hw => ?_)
  refine lv_if_ne (tgt := 13) hx hb dX0_canBeRead_8 (by decide) (fun c25 => ?_) (fun c25 => ?_)
  · have h := i_no c25 h
    refine lv_aload_n hx hb dX0_canBeRead_13 rfl (lv_at hl 0 rfl) ?_
    obtain ⟨o26, ho29, h⟩ := rq_i h
    refine r_getR hC hw kc_0 hi0 4 rfl lk_321 dX0_canBeRead_14 rfl ho29 (fun a27 hi28 => ?_)
    refine lv_iload_n hx hb dX0_canBeRead_17 rfl (lv_at hl 1 rfl) ?_
    obtain ⟨r31, hq30, h⟩ := pq_i h
    refine r_cV (st' := [.int r31]) [.int x1] [] hC hw kc_4 hi28 (k_X5_kind _ hi28 hq30) mk_X5_kind lk_587 ⟨Nat.le_trans (by decide) hR.1, Nat.le_trans (by decide) hR.2⟩ ⟨Nat.zero_le _, Nat.zero_le _⟩ rfl hl.1 rfl rfl (Nat.le_of_ble_eq_true rfl) dX0_canBeRead_18 (fun hP H locs hw => ?_)
    refine lv_iconst (v := 3) hx hb dX0_canBeRead_21 (by decide) ?_
    refine lv_icmp_eq (tgt := 27) hx hb dX0_canBeRead_22 (by decide) (fun c32 => ?_) (fun c32 => ?_)
    · have h := i_yes c32 h
      refine lv_aload_n hx hb dX0_canBeRead_27 rfl (lv_at hl 0 rfl) ?_
      refine lv_iload_n hx hb dX0_canBeRead_28 rfl (lv_at hl 1 rfl) ?_
      refine lv_iload_n hx hb dX0_canBeRead_29 rfl (lv_at hl 2 rfl) ?_
      obtain ⟨r34, hq33, h⟩ := pq_i h
      refine r_cV (st' := [.int r34]) [.int x1, .int x2] [] hC hw kc_0 hi0 (k_X0_inStack _ hi0 hq33) mk_X0_inStack lk_604 ⟨Nat.le_trans (by decide) hR.1, Nat.le_trans (by decide) hR.2⟩ ⟨Nat.zero_le _, Nat.zero_le _⟩ rfl hl.1 rfl rfl (Nat.le_of_ble_eq_true rfl) dX0_canBeRead_30 (fun hP H locs hw => ?_)
      refine lv_istore (lv' := [(4, .int r34), (0, .ref a0), (1, .int x1), (2, .int x2), (3, .int x3)]) hx hb dX0_canBeRead_33 hl (by decide) rfl (fun ls hl => ?_)
      refine lv_aload_n hx hb dX0_canBeRead_35 rfl (lv_at hl 1 rfl) ?_
      refine lv_iload hx hb dX0_canBeRead_36 (lv_at hl 0 rfl) ?_
      refine lv_iload_n hx hb dX0_canBeRead_38 rfl (lv_at hl 4 rfl) ?_
      obtain ⟨r36, hq35, h⟩ := pq_i h
      refine r_cV (st' := [.int r36]) [.int r34, .int x3] [] hC hw kc_0 hi0 (k_X0_isHeldWhole _ hi0 hq35) mk_X0_isHeldWhole lk_608 ⟨Nat.le_trans (by decide) hR.1, Nat.le_trans (by decide) hR.2⟩ ⟨Nat.zero_le _, Nat.zero_le _⟩ rfl hl.1 rfl rfl (Nat.le_of_ble_eq_true rfl) dX0_canBeRead_39 (fun hP H locs hw => ?_)
      refine lv_if_ne (tgt := 58) hx hb dX0_canBeRead_42 (by decide) (fun c37 => ?_) (fun c37 => ?_)
      · have h := i_no c37 h
        exact w_X0_canBeRead_58 hC hR _ _ _ hw (lv_sub hl [] rfl) h
      · have h := i_yes c37 h
        refine lv_aload_n hx hb dX0_canBeRead_45 rfl (lv_at hl 1 rfl) ?_
        obtain ⟨o38, ho41, h⟩ := rq_i h
        refine r_getR hC hw kc_0 hi0 4 rfl lk_321 dX0_canBeRead_46 rfl ho41 (fun a39 hi40 => ?_)
        refine lv_iload hx hb dX0_canBeRead_49 (lv_at hl 0 rfl) ?_
        refine lv_iload_n hx hb dX0_canBeRead_51 rfl (lv_at hl 4 rfl) ?_
        obtain ⟨r43, hq42, h⟩ := pq_i h
        refine r_cV (st' := [.int r43]) [.int r34, .int x3] [] hC hw kc_4 hi40 (k_X5_areKnown _ hi40 hq42) mk_X5_areKnown lk_616 ⟨Nat.le_trans (by decide) hR.1, Nat.le_trans (by decide) hR.2⟩ ⟨Nat.zero_le _, Nat.zero_le _⟩ rfl hl.1 rfl rfl (Nat.le_of_ble_eq_true rfl) dX0_canBeRead_52 (fun hP H locs hw => ?_)
        refine lv_if_eq (tgt := 62) hx hb dX0_canBeRead_55 (by decide) (fun c44 => ?_) (fun c44 => ?_)
        · have h := i_yes c44 h
          refine lv_iconst (v := 0) hx hb dX0_canBeRead_62 (by decide) ?_
          cases h
          exact r_zret hC hw (Or.inl rfl) dX0_canBeRead_63
        · have h := i_no c44 h
          exact w_X0_canBeRead_58 hC hR _ _ _ hw (lv_sub hl [] rfl) h
    · have h := i_no c32 h
      refine lv_iconst (v := 1) hx hb dX0_canBeRead_25 (by decide) ?_
      cases h
      exact r_zret hC hw (Or.inr rfl) dX0_canBeRead_26
  · have h := i_yes c25 h
    refine lv_iconst (v := 0) hx hb dX0_canBeRead_11 (by decide) ?_
    cases h
    exact r_zret hC hw (Or.inl rfl) dX0_canBeRead_12
set_option maxHeartbeats 4000000 in
set_option maxRecDepth 100000 in
theorem k_X0_canBeRead {l : Launch} {G : va_G} {cA : Nat → ClassId} {S : sh} {D : dt} {ad : Nat → Nat} (sz : Nat) {o0 a0 : Nat} {x1 : Int32} {x2 : Int32} {x3 : Int32} {r : Int32} (hi0 : Is S ad o0 a0 0) (h : f_X0_canBeRead S D o0 x1 x2 x3 = some r) : Co l yX0_canBeRead (Cond.code yX0_canBeRead cX0_canBeRead 5 (some .boolean) :: tb0) 2 50 [.ref a0, .int x1, .int x2, .int x3] G cA S D ad sz (some (.int r)) True D := by
  refine Met.ofW (cc := cX0_canBeRead) (maxL := 5) (ret := (some .boolean)) (by decide) rfl ?_
  intro p e s m args below meth c s₁ B hml hv
  obtain ⟨rfl, hsz, hP, hK, hD0, hT, hX⟩ := hv
  subst hsz
  have hts := atoms_spec (ws := Cond.code yX0_canBeRead cX0_canBeRead 5 (some .boolean) :: tb0) B.pre
  have hC : Cx RX0 cX0_canBeRead 5 (some .boolean) p s m _ meth c := ⟨B.exec, B.bytes, hml, findClass_of_methodNamed B.named, fun w q => hts w (List.mem_cons_of_mem _ q), B.returns, B.notSynchronized⟩
  have hw := Wd.entry hP hK hD0 hT hX
  have hl := lv_entry ([.ref a0, .int x1, .int x2, .int x3]) (n := 5) (Nat.le_of_ble_eq_true rfl)
  rw [lg_entry_eq]
  exact w_X0_canBeRead_0 hC ⟨Nat.le_refl _, Nat.le_refl _⟩ o0 a0 x1 x2 x3 _ _ _ hi0 hw hl h
set_option maxHeartbeats 4000000 in
set_option maxRecDepth 100000 in
theorem w_X0_judgeLoad_160 {r : Int32} {D' : dt} (hC : Cx RX0 cX0_judgeLoad 7 (some .int) p s m args meth c) (hR : 3 ≤ R.frames ∧ 74 ≤ R.locals) : ∀ (os0 as0 : Nat) (xs1 : Int32) (xs2 : Int32) (D : dt) (H : Heap) (locs : List Loc) (ls : Array Slot), Is S ad os0 as0 4 → Wd G cA S D ad A s H locs → lv_has ls 7 [] → f_X0_judgeLoad_160 S os0 xs1 xs2 D = some (r, D') → W p l e R s m args below meth c H locs 0 0 (MQ below (Qn (some (.int r)) True (wpost G cA S D' ad A) A) args s 0 0 A) (F0 m 160 ls [.int xs2, .int xs1, .ref as0]) := by
  obtain ⟨hx, hb, -⟩ := id hC
  intro os0 as0 xs1 xs2 D H locs ls his0 hw hl h
  unfold f_X0_judgeLoad_160 at h
  obtain ⟨_, D83, hq82, h⟩ := cq_i h
  refine r_cV (st' := []) [.int xs1, .int xs2] [] hC hw kc_4 his0 (k_X5_writeAny _ his0 hq82) mk_X5_writeAny lk_629 ⟨Nat.le_trans (by decide) hR.1, Nat.le_trans (by decide) hR.2⟩ ⟨Nat.zero_le _, Nat.zero_le _⟩ rfl hl.1 rfl rfl (Nat.le_of_ble_eq_true rfl) dX0_judgeLoad_160 (fun hP H locs hw => ?_)
  refine lv_iconst (v := 0) hx hb dX0_judgeLoad_163 (by decide) ?_
  cases h
  exact r_iret hC hw dX0_judgeLoad_164
set_option maxHeartbeats 4000000 in
set_option maxRecDepth 100000 in
theorem w_X0_judgeLoad_137 {r : Int32} {D' : dt} (hC : Cx RX0 cX0_judgeLoad 7 (some .int) p s m args meth c) (hR : 3 ≤ R.frames ∧ 74 ≤ R.locals) : ∀ (o0 a0 : Nat) (x1 : Int32) (x2 : Int32) (x4 : Int32) (D : dt) (H : Heap) (locs : List Loc) (ls : Array Slot), Is S ad o0 a0 0 → Wd G cA S D ad A s H locs → lv_has ls 7 [(0, .ref a0), (1, .int x1), (2, .int x2), (4, .int x4)] → f_X0_judgeLoad_137 S o0 x1 x2 x4 D = some (r, D') → W p l e R s m args below meth c H locs 0 0 (MQ below (Qn (some (.int r)) True (wpost G cA S D' ad A) A) args s 0 0 A) (F0 m 137 ls []) := by
  obtain ⟨hx, hb, -⟩ := id hC
  intro o0 a0 x1 x2 x4 D H locs ls hi0 hw hl h
  unfold f_X0_judgeLoad_137 at h
  refine lv_aload_n hx hb dX0_judgeLoad_137 rfl (lv_at hl 0 rfl) ?_
  obtain ⟨o84, ho87, h⟩ := rq_i h
  refine r_getR hC hw kc_0 hi0 4 rfl lk_321 dX0_judgeLoad_138 rfl ho87 (fun a85 hi86 => ?_)
  refine lv_iload_n hx hb dX0_judgeLoad_141 rfl (lv_at hl 2 rfl) ?_
  refine lv_aload_n hx hb dX0_judgeLoad_142 rfl (lv_at hl 0 rfl) ?_
  obtain ⟨o88, ho91, h⟩ := rq_i h
  refine r_getR hC hw kc_0 hi0 0 rfl lk_317 dX0_judgeLoad_143 rfl ho91 (fun a89 hi90 => ?_)
  refine lv_iload_n hx hb dX0_judgeLoad_146 rfl (lv_at hl 1 rfl) ?_
  obtain ⟨r93, hq92, h⟩ := pq_i h
  refine r_cV (st' := [.int r93, .int x2, .ref a85]) [.int x1] [.int x2, .ref a85] hC hw kc_3 hi90 (k_X4_isSignedLoad _ hi90 hq92) mk_X4_isSignedLoad lk_628 ⟨Nat.le_trans (by decide) hR.1, Nat.le_trans (by decide) hR.2⟩ ⟨Nat.zero_le _, Nat.zero_le _⟩ rfl hl.1 rfl rfl (Nat.le_of_ble_eq_true rfl) dX0_judgeLoad_147 (fun hP H locs hw => ?_)
  refine lv_if_eq (tgt := 158) hx hb dX0_judgeLoad_150 (by decide) (fun c94 => ?_) (fun c94 => ?_)
  · have h := i_yes c94 h
    refine lv_iload hx hb dX0_judgeLoad_158 (lv_at hl 3 rfl) ?_
    exact w_X0_judgeLoad_160 hC hR o84 a85 x2 x4 _ _ _ _ hi86 hw (lv_sub hl [] rfl) h
  · have h := i_no c94 h
    refine lv_bipush (v := 8) hx hb dX0_judgeLoad_153 (by decide) ?_
    refine lv_goto (tgt := 160) hx hb dX0_judgeLoad_155 (by decide) ?_
    exact w_X0_judgeLoad_160 hC hR o84 a85 x2 (8 : Int32) _ _ _ _ hi86 hw (lv_sub hl [] rfl) h
set_option maxHeartbeats 4000000 in
set_option maxRecDepth 100000 in
theorem w_X0_judgeLoad_101 {r : Int32} {D' : dt} (hC : Cx RX0 cX0_judgeLoad 7 (some .int) p s m args meth c) (hR : 3 ≤ R.frames ∧ 74 ≤ R.locals) : ∀ (o0 a0 : Nat) (x1 : Int32) (x2 : Int32) (x4 : Int32) (xs0 : Int32) (D : dt) (H : Heap) (locs : List Loc) (ls : Array Slot), Is S ad o0 a0 0 → Wd G cA S D ad A s H locs → lv_has ls 7 [(0, .ref a0), (1, .int x1), (2, .int x2), (4, .int x4)] → f_X0_judgeLoad_101 S o0 x1 x2 x4 xs0 D = some (r, D') → W p l e R s m args below meth c H locs 0 0 (MQ below (Qn (some (.int r)) True (wpost G cA S D' ad A) A) args s 0 0 A) (F0 m 101 ls [.int xs0]) := by
  obtain ⟨hx, hb, -⟩ := id hC
  intro o0 a0 x1 x2 x4 xs0 D H locs ls hi0 hw hl h
  unfold f_X0_judgeLoad_101 at h
  refine lv_istore (lv' := [(6, .int xs0), (0, .ref a0), (1, .int x1), (2, .int x2), (4, .int x4)]) hx hb dX0_judgeLoad_101 hl (by decide) rfl (fun ls hl => ?_)
  refine lv_iload hx hb dX0_judgeLoad_103 (lv_at hl 0 rfl) ?_
  refine lv_if_lt (tgt := 137) hx hb dX0_judgeLoad_105 (by decide) (fun c95 => ?_) (fun c95 => ?_)
  · have h := i_yes c95 h
    exact w_X0_judgeLoad_137 hC hR o0 a0 x1 x2 x4 _ _ _ _ hi0 hw (lv_sub hl [1, 2, 3, 4] rfl) h
  · have h := i_no c95 h
    refine lv_aload_n hx hb dX0_judgeLoad_108 rfl (lv_at hl 1 rfl) ?_
    refine lv_iload hx hb dX0_judgeLoad_109 (lv_at hl 0 rfl) ?_
    refine lv_iload hx hb dX0_judgeLoad_111 (lv_at hl 4 rfl) ?_
    obtain ⟨r97, hq96, h⟩ := pq_i h
    refine r_cV (st' := [.int r97]) [.int xs0, .int x4] [] hC hw kc_0 hi0 (k_X0_isHeldWhole _ hi0 hq96) mk_X0_isHeldWhole lk_608 ⟨Nat.le_trans (by decide) hR.1, Nat.le_trans (by decide) hR.2⟩ ⟨Nat.zero_le _, Nat.zero_le _⟩ rfl hl.1 rfl rfl (Nat.le_of_ble_eq_true rfl) dX0_judgeLoad_113 (fun hP H locs hw => ?_)
    refine lv_if_eq (tgt := 137) hx hb dX0_judgeLoad_116 (by decide) (fun c98 => ?_) (fun c98 => ?_)
    · have h := i_yes c98 h
      exact w_X0_judgeLoad_137 hC hR o0 a0 x1 x2 x4 _ _ _ _ hi0 hw (lv_sub hl [1, 2, 3, 4] rfl) h
    · have h := i_no c98 h
      refine lv_aload_n hx hb dX0_judgeLoad_119 rfl (lv_at hl 1 rfl) ?_
      obtain ⟨o99, ho102, h⟩ := rq_i h
      refine r_getR hC hw kc_0 hi0 4 rfl lk_321 dX0_judgeLoad_120 rfl ho102 (fun a100 hi101 => ?_)
      refine lv_iload_n hx hb dX0_judgeLoad_123 rfl (lv_at hl 3 rfl) ?_
      refine lv_bipush (v := 11) hx hb dX0_judgeLoad_124 (by decide) ?_
      refine lv_iload hx hb dX0_judgeLoad_126 (lv_at hl 0 rfl) ?_
      refine lv_iconst (v := 3) hx hb dX0_judgeLoad_128 (by decide) ?_
      refine lv_ishr hx hb dX0_judgeLoad_129 ?_
      refine lv_iadd hx hb dX0_judgeLoad_130 ?_
      obtain ⟨_, D104, hq103, h⟩ := cq_i h
      refine r_cV (st' := []) [.int x2, .int ((11 : Int32) + (xs0 >>> ((3 : Int32) &&& 31)))] [] hC hw kc_4 hi101 (k_X5_move _ hi101 hq103) mk_X5_move lk_624 ⟨Nat.le_trans (by decide) hR.1, Nat.le_trans (by decide) hR.2⟩ ⟨Nat.zero_le _, Nat.zero_le _⟩ rfl hl.1 rfl rfl (Nat.le_of_ble_eq_true rfl) dX0_judgeLoad_131 (fun hP H locs hw => ?_)
      refine lv_goto (tgt := 163) hx hb dX0_judgeLoad_134 (by decide) ?_
      refine lv_iconst (v := 0) hx hb dX0_judgeLoad_163 (by decide) ?_
      cases h
      exact r_iret hC hw dX0_judgeLoad_164
set_option maxHeartbeats 4000000 in
set_option maxRecDepth 100000 in
theorem w_X0_judgeLoad_0 {r : Int32} {D' : dt} (hC : Cx RX0 cX0_judgeLoad 7 (some .int) p s m args meth c) (hR : 3 ≤ R.frames ∧ 74 ≤ R.locals) : ∀ (o0 a0 : Nat) (x1 : Int32) (D : dt) (H : Heap) (locs : List Loc) (ls : Array Slot), Is S ad o0 a0 0 → Wd G cA S D ad A s H locs → lv_has ls 7 [(0, .ref a0), (1, .int x1)] → f_X0_judgeLoad S o0 x1 D = some (r, D') → W p l e R s m args below meth c H locs 0 0 (MQ below (Qn (some (.int r)) True (wpost G cA S D' ad A) A) args s 0 0 A) (F0 m 0 ls []) := by
  obtain ⟨hx, hb, -⟩ := id hC
  intro o0 a0 x1 D H locs ls hi0 hw hl h
  unfold f_X0_judgeLoad at h
  refine lv_aload_n hx hb dX0_judgeLoad_0 rfl (lv_at hl 0 rfl) ?_
  obtain ⟨o105, ho108, h⟩ := rq_i h
  refine r_getR hC hw kc_0 hi0 0 rfl lk_317 dX0_judgeLoad_1 rfl ho108 (fun a106 hi107 => ?_)
  obtain ⟨o109, ho112, h⟩ := rq_i h
  refine r_getR hC hw kc_3 hi107 1 rfl lk_146 dX0_judgeLoad_4 rfl ho112 (fun a110 hi111 => ?_)
  refine lv_iload_n hx hb dX0_judgeLoad_7 rfl (lv_at hl 1 rfl) ?_
  obtain ⟨hn113, h⟩ := ix_i h
  refine r_iald hC hw hi111 hn113 dX0_judgeLoad_8 ?_
  refine lv_topi (fun y114 ey114 => ?_)
  have h := nm_i h y114 ey114
  refine lv_istore_n (lv' := [(2, .int y114), (0, .ref a0), (1, .int x1)]) hx hb dX0_judgeLoad_9 rfl hl (by decide) rfl (fun ls hl => ?_)
  refine lv_aload_n hx hb dX0_judgeLoad_10 rfl (lv_at hl 1 rfl) ?_
  obtain ⟨o115, ho118, h⟩ := rq_i h
  refine r_getR hC hw kc_0 hi0 0 rfl lk_317 dX0_judgeLoad_11 rfl ho118 (fun a116 hi117 => ?_)
  obtain ⟨o119, ho122, h⟩ := rq_i h
  refine r_getR hC hw kc_3 hi117 2 rfl lk_149 dX0_judgeLoad_14 rfl ho122 (fun a120 hi121 => ?_)
  refine lv_iload_n hx hb dX0_judgeLoad_17 rfl (lv_at hl 2 rfl) ?_
  obtain ⟨hn123, h⟩ := ix_i h
  refine r_iald hC hw hi121 hn123 dX0_judgeLoad_18 ?_
  refine lv_topi (fun y124 ey124 => ?_)
  have h := nm_i h y124 ey124
  refine lv_istore_n (lv' := [(3, .int y124), (2, .int y114), (0, .ref a0), (1, .int x1)]) hx hb dX0_judgeLoad_19 rfl hl (by decide) rfl (fun ls hl => ?_)
  refine lv_aload_n hx hb dX0_judgeLoad_20 rfl (lv_at hl 2 rfl) ?_
  obtain ⟨o125, ho128, h⟩ := rq_i h
  refine r_getR hC hw kc_0 hi0 0 rfl lk_317 dX0_judgeLoad_21 rfl ho128 (fun a126 hi127 => ?_)
  refine lv_iload_n hx hb dX0_judgeLoad_24 rfl (lv_at hl 3 rfl) ?_
  obtain ⟨r130, hq129, h⟩ := pq_i h
  refine r_cV (st' := [.int r130]) [.int x1] [] hC hw kc_3 hi127 (k_X4_width _ hi127 hq129) mk_X4_width lk_578 ⟨Nat.le_trans (by decide) hR.1, Nat.le_trans (by decide) hR.2⟩ ⟨Nat.zero_le _, Nat.zero_le _⟩ rfl hl.1 rfl rfl (Nat.le_of_ble_eq_true rfl) dX0_judgeLoad_25 (fun hP H locs hw => ?_)
  refine lv_istore (lv' := [(4, .int r130), (3, .int y124), (2, .int y114), (0, .ref a0), (1, .int x1)]) hx hb dX0_judgeLoad_28 hl (by decide) rfl (fun ls hl => ?_)
  refine lv_aload_n hx hb dX0_judgeLoad_30 rfl (lv_at hl 3 rfl) ?_
  obtain ⟨o131, ho134, h⟩ := rq_i h
  refine r_getR hC hw kc_0 hi0 0 rfl lk_317 dX0_judgeLoad_31 rfl ho134 (fun a132 hi133 => ?_)
  obtain ⟨o135, ho138, h⟩ := rq_i h
  refine r_getR hC hw kc_3 hi133 3 rfl lk_152 dX0_judgeLoad_34 rfl ho138 (fun a136 hi137 => ?_)
  refine lv_iload_n hx hb dX0_judgeLoad_37 rfl (lv_at hl 4 rfl) ?_
  obtain ⟨hn139, h⟩ := ix_i h
  refine r_iald hC hw hi137 hn139 dX0_judgeLoad_38 ?_
  refine lv_topi (fun y140 ey140 => ?_)
  have h := nm_i h y140 ey140
  refine lv_istore (lv' := [(5, .int y140), (4, .int r130), (3, .int y124), (2, .int y114), (0, .ref a0), (1, .int x1)]) hx hb dX0_judgeLoad_39 hl (by decide) rfl (fun ls hl => ?_)
  refine lv_aload_n hx hb dX0_judgeLoad_41 rfl (lv_at hl 4 rfl) ?_
  obtain ⟨o141, ho144, h⟩ := rq_i h
  refine r_getR hC hw kc_0 hi0 4 rfl lk_321 dX0_judgeLoad_42 rfl ho144 (fun a142 hi143 => ?_)
  refine lv_iload_n hx hb dX0_judgeLoad_45 rfl (lv_at hl 2 rfl) ?_
  obtain ⟨r146, hq145, h⟩ := pq_i h
  refine r_cV (st' := [.int r146]) [.int y124] [] hC hw kc_4 hi143 (k_X5_isNone _ hi143 hq145) mk_X5_isNone lk_579 ⟨Nat.le_trans (by decide) hR.1, Nat.le_trans (by decide) hR.2⟩ ⟨Nat.zero_le _, Nat.zero_le _⟩ rfl hl.1 rfl rfl (Nat.le_of_ble_eq_true rfl) dX0_judgeLoad_46 (fun hP H locs hw => ?_)
  refine lv_if_eq (tgt := 54) hx hb dX0_judgeLoad_49 (by decide) (fun c147 => ?_) (fun c147 => ?_)
  · have h := i_yes c147 h
    refine lv_aload_n hx hb dX0_judgeLoad_54 rfl (lv_at hl 4 rfl) ?_
    refine lv_iload_n hx hb dX0_judgeLoad_55 rfl (lv_at hl 2 rfl) ?_
    obtain ⟨r149, hq148, h⟩ := pq_i h
    refine r_cV (st' := [.int r149]) [.int y124] [] hC hw kc_0 hi0 (k_X0_canBeReached _ hi0 hq148) mk_X0_canBeReached lk_583 ⟨Nat.le_trans (by decide) hR.1, Nat.le_trans (by decide) hR.2⟩ ⟨Nat.zero_le _, Nat.zero_le _⟩ rfl hl.1 rfl rfl (Nat.le_of_ble_eq_true rfl) dX0_judgeLoad_56 (fun hP H locs hw => ?_)
    refine lv_if_ne (tgt := 64) hx hb dX0_judgeLoad_59 (by decide) (fun c150 => ?_) (fun c150 => ?_)
    · have h := i_no c150 h
      refine lv_aload_n hx hb dX0_judgeLoad_64 rfl (lv_at hl 4 rfl) ?_
      refine lv_iload_n hx hb dX0_judgeLoad_65 rfl (lv_at hl 2 rfl) ?_
      refine lv_iload hx hb dX0_judgeLoad_66 (lv_at hl 0 rfl) ?_
      refine lv_iload hx hb dX0_judgeLoad_68 (lv_at hl 1 rfl) ?_
      obtain ⟨r152, hq151, h⟩ := pq_i h
      refine r_cV (st' := [.int r152]) [.int y124, .int y140, .int r130] [] hC hw kc_0 hi0 (k_X0_canBeRead _ hi0 hq151) mk_X0_canBeRead lk_591 ⟨Nat.le_trans (by decide) hR.1, Nat.le_trans (by decide) hR.2⟩ ⟨Nat.zero_le _, Nat.zero_le _⟩ rfl hl.1 rfl rfl (Nat.le_of_ble_eq_true rfl) dX0_judgeLoad_70 (fun hP H locs hw => ?_)
      refine lv_if_ne (tgt := 78) hx hb dX0_judgeLoad_73 (by decide) (fun c153 => ?_) (fun c153 => ?_)
      · have h := i_no c153 h
        refine lv_aload_n hx hb dX0_judgeLoad_78 rfl (lv_at hl 4 rfl) ?_
        obtain ⟨o154, ho157, h⟩ := rq_i h
        refine r_getR hC hw kc_0 hi0 4 rfl lk_321 dX0_judgeLoad_79 rfl ho157 (fun a155 hi156 => ?_)
        refine lv_iload_n hx hb dX0_judgeLoad_82 rfl (lv_at hl 2 rfl) ?_
        obtain ⟨r159, hq158, h⟩ := pq_i h
        refine r_cV (st' := [.int r159]) [.int y124] [] hC hw kc_4 hi156 (k_X5_kind _ hi156 hq158) mk_X5_kind lk_587 ⟨Nat.le_trans (by decide) hR.1, Nat.le_trans (by decide) hR.2⟩ ⟨Nat.zero_le _, Nat.zero_le _⟩ rfl hl.1 rfl rfl (Nat.le_of_ble_eq_true rfl) dX0_judgeLoad_83 (fun hP H locs hw => ?_)
        refine lv_iconst (v := 3) hx hb dX0_judgeLoad_86 (by decide) ?_
        refine lv_icmp_ne (tgt := 100) hx hb dX0_judgeLoad_87 (by decide) (fun c160 => ?_) (fun c160 => ?_)
        · have h := i_no c160 h
          refine lv_iconst (v := (-1)) hx hb dX0_judgeLoad_100 (by decide) ?_
          exact w_X0_judgeLoad_101 hC hR o0 a0 x1 y114 r130 (-1 : Int32) _ _ _ _ hi0 hw (lv_sub hl [4, 5, 3, 1] rfl) h
        · have h := i_yes c160 h
          refine lv_aload_n hx hb dX0_judgeLoad_90 rfl (lv_at hl 4 rfl) ?_
          refine lv_iload_n hx hb dX0_judgeLoad_91 rfl (lv_at hl 2 rfl) ?_
          refine lv_iload hx hb dX0_judgeLoad_92 (lv_at hl 0 rfl) ?_
          obtain ⟨r162, hq161, h⟩ := pq_i h
          refine r_cV (st' := [.int r162]) [.int y124, .int y140] [] hC hw kc_0 hi0 (k_X0_inStack _ hi0 hq161) mk_X0_inStack lk_604 ⟨Nat.le_trans (by decide) hR.1, Nat.le_trans (by decide) hR.2⟩ ⟨Nat.zero_le _, Nat.zero_le _⟩ rfl hl.1 rfl rfl (Nat.le_of_ble_eq_true rfl) dX0_judgeLoad_94 (fun hP H locs hw => ?_)
          refine lv_goto (tgt := 101) hx hb dX0_judgeLoad_97 (by decide) ?_
          exact w_X0_judgeLoad_101 hC hR o0 a0 x1 y114 r130 r162 _ _ _ _ hi0 hw (lv_sub hl [4, 5, 3, 1] rfl) h
      · have h := i_yes c153 h
        refine lv_iconst (v := 4) hx hb dX0_judgeLoad_76 (by decide) ?_
        cases h
        exact r_iret hC hw dX0_judgeLoad_77
    · have h := i_yes c150 h
      refine lv_iconst (v := 3) hx hb dX0_judgeLoad_62 (by decide) ?_
      cases h
      exact r_iret hC hw dX0_judgeLoad_63
  · have h := i_no c147 h
    refine lv_iconst (v := 2) hx hb dX0_judgeLoad_52 (by decide) ?_
    cases h
    exact r_iret hC hw dX0_judgeLoad_53
set_option maxHeartbeats 4000000 in
set_option maxRecDepth 100000 in
theorem k_X0_judgeLoad {l : Launch} {G : va_G} {cA : Nat → ClassId} {S : sh} {D D' : dt} {ad : Nat → Nat} (sz : Nat) {o0 a0 : Nat} {x1 : Int32} {r : Int32} (hi0 : Is S ad o0 a0 0) (h : f_X0_judgeLoad S o0 x1 D = some (r, D')) : Co l yX0_judgeLoad (Cond.code yX0_judgeLoad cX0_judgeLoad 7 (some .int) :: tb0) 3 74 [.ref a0, .int x1] G cA S D ad sz (some (.int r)) True D' := by
  refine Met.ofW (cc := cX0_judgeLoad) (maxL := 7) (ret := (some .int)) (by decide) rfl ?_
  intro p e s m args below meth c s₁ B hml hv
  obtain ⟨rfl, hsz, hP, hK, hD0, hT, hX⟩ := hv
  subst hsz
  have hts := atoms_spec (ws := Cond.code yX0_judgeLoad cX0_judgeLoad 7 (some .int) :: tb0) B.pre
  have hC : Cx RX0 cX0_judgeLoad 7 (some .int) p s m _ meth c := ⟨B.exec, B.bytes, hml, findClass_of_methodNamed B.named, fun w q => hts w (List.mem_cons_of_mem _ q), B.returns, B.notSynchronized⟩
  have hw := Wd.entry hP hK hD0 hT hX
  have hl := lv_entry ([.ref a0, .int x1]) (n := 7) (Nat.le_of_ble_eq_true rfl)
  rw [lg_entry_eq]
  exact w_X0_judgeLoad_0 hC ⟨Nat.le_refl _, Nat.le_refl _⟩ o0 a0 x1 D _ _ _ hi0 hw hl h
set_option maxHeartbeats 4000000 in
set_option maxRecDepth 100000 in
theorem w_X0_judgePut_169 {r : Int32} {D' : dt} (hC : Cx RX0 cX0_judgePut 9 (some .int) p s m args meth c) (hR : 3 ≤ R.frames ∧ 70 ≤ R.locals) : ∀ (o0 a0 : Nat) (x3 : Int32) (x4 : Int32) (x5 : Int32) (x6 : Int32) (x7 : Int32) (x8 : Int32) (D : dt) (H : Heap) (locs : List Loc) (ls : Array Slot), Is S ad o0 a0 0 → Wd G cA S D ad A s H locs → lv_has ls 9 [(0, .ref a0), (3, .int x3), (4, .int x4), (5, .int x5), (6, .int x6), (7, .int x7), (8, .int x8)] → f_X0_judgePut_169 S o0 x3 x4 x5 x6 x7 x8 D = some (r, D') → W p l e R s m args below meth c H locs 0 0 (MQ below (Qn (some (.int r)) True (wpost G cA S D' ad A) A) args s 0 0 A) (F0 m 169 ls []) := by
  obtain ⟨hx, hb, -⟩ := id hC
  intro o0 a0 x3 x4 x5 x6 x7 x8 D H locs ls hi0 hw hl h
  unfold f_X0_judgePut_169 at h
  refine lv_aload_n hx hb dX0_judgePut_169 rfl (lv_at hl 0 rfl) ?_
  refine lv_iload_n hx hb dX0_judgePut_170 rfl (lv_at hl 1 rfl) ?_
  refine lv_iload hx hb dX0_judgePut_171 (lv_at hl 4 rfl) ?_
  refine lv_iload hx hb dX0_judgePut_173 (lv_at hl 3 rfl) ?_
  refine lv_iconst (v := 1) hx hb dX0_judgePut_175 (by decide) ?_
  obtain ⟨r114, hq113, h⟩ := pq_i h
  refine r_cV (st' := [.int r114]) [.int x3, .int x6, .int x5, .int (1 : Int32)] [] hC hw kc_0 hi0 (k_X0_isThere _ hi0 hq113) mk_X0_isThere lk_595 ⟨Nat.le_trans (by decide) hR.1, Nat.le_trans (by decide) hR.2⟩ ⟨Nat.zero_le _, Nat.zero_le _⟩ rfl hl.1 rfl rfl (Nat.le_of_ble_eq_true rfl) dX0_judgePut_176 (fun hP H locs hw => ?_)
  refine lv_if_ne (tgt := 184) hx hb dX0_judgePut_179 (by decide) (fun c115 => ?_) (fun c115 => ?_)
  · have h := i_no c115 h
    refine lv_iload hx hb dX0_judgePut_184 (lv_at hl 6 rfl) ?_
    refine lv_if_eq (tgt := 210) hx hb dX0_judgePut_186 (by decide) (fun c116 => ?_) (fun c116 => ?_)
    · have h := i_yes c116 h
      refine lv_iload hx hb dX0_judgePut_210 (lv_at hl 5 rfl) ?_
      refine lv_if_eq (tgt := 231) hx hb dX0_judgePut_212 (by decide) (fun c117 => ?_) (fun c117 => ?_)
      · have h := i_yes c117 h
        refine lv_iconst (v := 0) hx hb dX0_judgePut_231 (by decide) ?_
        cases h
        exact r_iret hC hw dX0_judgePut_232
      · have h := i_no c117 h
        refine lv_aload_n hx hb dX0_judgePut_215 rfl (lv_at hl 0 rfl) ?_
        obtain ⟨o118, ho121, h⟩ := rq_i h
        refine r_getR hC hw kc_0 hi0 4 rfl lk_321 dX0_judgePut_216 rfl ho121 (fun a119 hi120 => ?_)
        refine lv_aload_n hx hb dX0_judgePut_219 rfl (lv_at hl 0 rfl) ?_
        refine lv_iload_n hx hb dX0_judgePut_220 rfl (lv_at hl 1 rfl) ?_
        refine lv_iload hx hb dX0_judgePut_221 (lv_at hl 4 rfl) ?_
        obtain ⟨r123, hq122, h⟩ := pq_i h
        refine r_cV (st' := [.int r123, .ref a119]) [.int x3, .int x6] [.ref a119] hC hw kc_0 hi0 (k_X0_inStack _ hi0 hq122) mk_X0_inStack lk_604 ⟨Nat.le_trans (by decide) hR.1, Nat.le_trans (by decide) hR.2⟩ ⟨Nat.zero_le _, Nat.zero_le _⟩ rfl hl.1 rfl rfl (Nat.le_of_ble_eq_true rfl) dX0_judgePut_223 (fun hP H locs hw => ?_)
        refine lv_iload hx hb dX0_judgePut_226 (lv_at hl 3 rfl) ?_
        obtain ⟨_, D125, hq124, h⟩ := cq_i h
        refine r_cV (st' := []) [.int r123, .int x5] [] hC hw kc_4 hi120 (k_X5_putOctets _ hi120 hq124) mk_X5_putOctets lk_654 ⟨Nat.le_trans (by decide) hR.1, Nat.le_trans (by decide) hR.2⟩ ⟨Nat.zero_le _, Nat.zero_le _⟩ rfl hl.1 rfl rfl (Nat.le_of_ble_eq_true rfl) dX0_judgePut_228 (fun hP H locs hw => ?_)
        refine lv_iconst (v := 0) hx hb dX0_judgePut_231 (by decide) ?_
        cases h
        exact r_iret hC hw dX0_judgePut_232
    · have h := i_no c116 h
      refine lv_aload_n hx hb dX0_judgePut_189 rfl (lv_at hl 0 rfl) ?_
      obtain ⟨o126, ho129, h⟩ := rq_i h
      refine r_getR hC hw kc_0 hi0 4 rfl lk_321 dX0_judgePut_190 rfl ho129 (fun a127 hi128 => ?_)
      refine lv_aload_n hx hb dX0_judgePut_193 rfl (lv_at hl 0 rfl) ?_
      refine lv_iload_n hx hb dX0_judgePut_194 rfl (lv_at hl 1 rfl) ?_
      refine lv_iload hx hb dX0_judgePut_195 (lv_at hl 4 rfl) ?_
      obtain ⟨r131, hq130, h⟩ := pq_i h
      refine r_cV (st' := [.int r131, .ref a127]) [.int x3, .int x6] [.ref a127] hC hw kc_0 hi0 (k_X0_inStack _ hi0 hq130) mk_X0_inStack lk_604 ⟨Nat.le_trans (by decide) hR.1, Nat.le_trans (by decide) hR.2⟩ ⟨Nat.zero_le _, Nat.zero_le _⟩ rfl hl.1 rfl rfl (Nat.le_of_ble_eq_true rfl) dX0_judgePut_197 (fun hP H locs hw => ?_)
      refine lv_iconst (v := 3) hx hb dX0_judgePut_200 (by decide) ?_
      refine lv_ishr hx hb dX0_judgePut_201 ?_
      refine lv_iload hx hb dX0_judgePut_202 (lv_at hl 2 rfl) ?_
      obtain ⟨_, D133, hq132, h⟩ := cq_i h
      refine r_cV (st' := []) [.int (r131 >>> ((3 : Int32) &&& 31)), .int x4] [] hC hw kc_4 hi128 (k_X5_hold _ hi128 hq132) mk_X5_hold lk_643 ⟨Nat.le_trans (by decide) hR.1, Nat.le_trans (by decide) hR.2⟩ ⟨Nat.zero_le _, Nat.zero_le _⟩ rfl hl.1 rfl rfl (Nat.le_of_ble_eq_true rfl) dX0_judgePut_204 (fun hP H locs hw => ?_)
      refine lv_goto (tgt := 231) hx hb dX0_judgePut_207 (by decide) ?_
      refine lv_iconst (v := 0) hx hb dX0_judgePut_231 (by decide) ?_
      cases h
      exact r_iret hC hw dX0_judgePut_232
  · have h := i_yes c115 h
    refine lv_iconst (v := 4) hx hb dX0_judgePut_182 (by decide) ?_
    cases h
    exact r_iret hC hw dX0_judgePut_183
set_option maxHeartbeats 4000000 in
set_option maxRecDepth 100000 in
theorem w_X0_judgePut_136 {r : Int32} {D' : dt} (hC : Cx RX0 cX0_judgePut 9 (some .int) p s m args meth c) (hR : 3 ≤ R.frames ∧ 70 ≤ R.locals) : ∀ (o0 a0 : Nat) (x2 : Int32) (x3 : Int32) (x4 : Int32) (x5 : Int32) (x6 : Int32) (x7 : Int32) (xs0 : Int32) (D : dt) (H : Heap) (locs : List Loc) (ls : Array Slot), Is S ad o0 a0 0 → Wd G cA S D ad A s H locs → lv_has ls 9 [(0, .ref a0), (2, .int x2), (3, .int x3), (4, .int x4), (5, .int x5), (6, .int x6), (7, .int x7)] → f_X0_judgePut_136 S o0 x2 x3 x4 x5 x6 x7 xs0 D = some (r, D') → W p l e R s m args below meth c H locs 0 0 (MQ below (Qn (some (.int r)) True (wpost G cA S D' ad A) A) args s 0 0 A) (F0 m 136 ls [.int xs0]) := by
  obtain ⟨hx, hb, -⟩ := id hC
  intro o0 a0 x2 x3 x4 x5 x6 x7 xs0 D H locs ls hi0 hw hl h
  unfold f_X0_judgePut_136 at h
  refine lv_istore (lv' := [(8, .int xs0), (0, .ref a0), (2, .int x2), (3, .int x3), (4, .int x4), (5, .int x5), (6, .int x6), (7, .int x7)]) hx hb dX0_judgePut_136 hl (by decide) rfl (fun ls hl => ?_)
  refine lv_aload_n hx hb dX0_judgePut_138 rfl (lv_at hl 1 rfl) ?_
  refine lv_iload_n hx hb dX0_judgePut_139 rfl (lv_at hl 3 rfl) ?_
  obtain ⟨r135, hq134, h⟩ := pq_i h
  refine r_cV (st' := [.int r135]) [.int x3] [] hC hw kc_0 hi0 (k_X0_canBeReached _ hi0 hq134) mk_X0_canBeReached lk_583 ⟨Nat.le_trans (by decide) hR.1, Nat.le_trans (by decide) hR.2⟩ ⟨Nat.zero_le _, Nat.zero_le _⟩ rfl hl.1 rfl rfl (Nat.le_of_ble_eq_true rfl) dX0_judgePut_140 (fun hP H locs hw => ?_)
  refine lv_if_eq (tgt := 167) hx hb dX0_judgePut_143 (by decide) (fun c136 => ?_) (fun c136 => ?_)
  · have h := i_yes c136 h
    refine lv_iconst (v := 3) hx hb dX0_judgePut_167 (by decide) ?_
    cases h
    exact r_iret hC hw dX0_judgePut_168
  · have h := i_no c136 h
    refine lv_iload_n hx hb dX0_judgePut_146 rfl (lv_at hl 2 rfl) ?_
    refine lv_if_eq (tgt := 169) hx hb dX0_judgePut_147 (by decide) (fun c137 => ?_) (fun c137 => ?_)
    · have h := i_yes c137 h
      exact w_X0_judgePut_169 hC hR o0 a0 x3 x4 x5 x6 x7 xs0 _ _ _ _ hi0 hw (lv_sub hl [1, 3, 4, 5, 6, 7, 0] rfl) h
    · have h := i_no c137 h
      refine lv_aload_n hx hb dX0_judgePut_150 rfl (lv_at hl 1 rfl) ?_
      obtain ⟨o138, ho141, h⟩ := rq_i h
      refine r_getR hC hw kc_0 hi0 4 rfl lk_321 dX0_judgePut_151 rfl ho141 (fun a139 hi140 => ?_)
      refine lv_iload hx hb dX0_judgePut_154 (lv_at hl 4 rfl) ?_
      obtain ⟨r143, hq142, h⟩ := pq_i h
      refine r_cV (st' := [.int r143]) [.int x4] [] hC hw kc_4 hi140 (k_X5_isNumber _ hi140 hq142) mk_X5_isNumber lk_639 ⟨Nat.le_trans (by decide) hR.1, Nat.le_trans (by decide) hR.2⟩ ⟨Nat.zero_le _, Nat.zero_le _⟩ rfl hl.1 rfl rfl (Nat.le_of_ble_eq_true rfl) dX0_judgePut_156 (fun hP H locs hw => ?_)
      refine lv_if_ne (tgt := 169) hx hb dX0_judgePut_159 (by decide) (fun c144 => ?_) (fun c144 => ?_)
      · have h := i_no c144 h
        exact w_X0_judgePut_169 hC hR o0 a0 x3 x4 x5 x6 x7 xs0 _ _ _ _ hi0 hw (lv_sub hl [1, 3, 4, 5, 6, 7, 0] rfl) h
      · have h := i_yes c144 h
        refine lv_iload hx hb dX0_judgePut_162 (lv_at hl 0 rfl) ?_
        refine lv_if_ne (tgt := 169) hx hb dX0_judgePut_164 (by decide) (fun c145 => ?_) (fun c145 => ?_)
        · have h := i_no c145 h
          exact w_X0_judgePut_169 hC hR o0 a0 x3 x4 x5 x6 x7 xs0 _ _ _ _ hi0 hw (lv_sub hl [1, 3, 4, 5, 6, 7, 0] rfl) h
        · have h := i_yes c145 h
          refine lv_iconst (v := 3) hx hb dX0_judgePut_167 (by decide) ?_
          cases h
          exact r_iret hC hw dX0_judgePut_168
set_option maxHeartbeats 4000000 in
set_option maxRecDepth 100000 in
theorem w_X0_judgePut_135 {r : Int32} {D' : dt} (hC : Cx RX0 cX0_judgePut 9 (some .int) p s m args meth c) (hR : 3 ≤ R.frames ∧ 70 ≤ R.locals) : ∀ (o0 a0 : Nat) (x2 : Int32) (x3 : Int32) (x4 : Int32) (x5 : Int32) (x6 : Int32) (x7 : Int32) (D : dt) (H : Heap) (locs : List Loc) (ls : Array Slot), Is S ad o0 a0 0 → Wd G cA S D ad A s H locs → lv_has ls 9 [(0, .ref a0), (2, .int x2), (3, .int x3), (4, .int x4), (5, .int x5), (6, .int x6), (7, .int x7)] → f_X0_judgePut_135 S o0 x2 x3 x4 x5 x6 x7 D = some (r, D') → W p l e R s m args below meth c H locs 0 0 (MQ below (Qn (some (.int r)) True (wpost G cA S D' ad A) A) args s 0 0 A) (F0 m 135 ls []) := by
  obtain ⟨hx, hb, -⟩ := id hC
  intro o0 a0 x2 x3 x4 x5 x6 x7 D H locs ls hi0 hw hl h
  unfold f_X0_judgePut_135 at h
  refine lv_iconst (v := 0) hx hb dX0_judgePut_135 (by decide) ?_
  exact w_X0_judgePut_136 hC hR o0 a0 x2 x3 x4 x5 x6 x7 (0 : Int32) _ _ _ _ hi0 hw (lv_sub hl [0, 1, 2, 3, 4, 5, 6] rfl) h
set_option maxHeartbeats 4000000 in
set_option maxRecDepth 100000 in
theorem w_X0_judgePut_88 {r : Int32} {D' : dt} (hC : Cx RX0 cX0_judgePut 9 (some .int) p s m args meth c) (hR : 3 ≤ R.frames ∧ 70 ≤ R.locals) : ∀ (o0 a0 : Nat) (x1 : Int32) (x2 : Int32) (x3 : Int32) (x4 : Int32) (x5 : Int32) (x6 : Int32) (xs0 : Int32) (D : dt) (H : Heap) (locs : List Loc) (ls : Array Slot), Is S ad o0 a0 0 → Wd G cA S D ad A s H locs → lv_has ls 9 [(0, .ref a0), (1, .int x1), (2, .int x2), (3, .int x3), (4, .int x4), (5, .int x5), (6, .int x6)] → f_X0_judgePut_88 S o0 x1 x2 x3 x4 x5 x6 xs0 D = some (r, D') → W p l e R s m args below meth c H locs 0 0 (MQ below (Qn (some (.int r)) True (wpost G cA S D' ad A) A) args s 0 0 A) (F0 m 88 ls [.int xs0]) := by
  obtain ⟨hx, hb, -⟩ := id hC
  intro o0 a0 x1 x2 x3 x4 x5 x6 xs0 D H locs ls hi0 hw hl h
  unfold f_X0_judgePut_88 at h
  refine lv_istore (lv' := [(7, .int xs0), (0, .ref a0), (1, .int x1), (2, .int x2), (3, .int x3), (4, .int x4), (5, .int x5), (6, .int x6)]) hx hb dX0_judgePut_88 hl (by decide) rfl (fun ls hl => ?_)
  refine lv_aload_n hx hb dX0_judgePut_90 rfl (lv_at hl 1 rfl) ?_
  obtain ⟨o146, ho149, h⟩ := rq_i h
  refine r_getR hC hw kc_0 hi0 0 rfl lk_317 dX0_judgePut_91 rfl ho149 (fun a147 hi148 => ?_)
  obtain ⟨o150, ho153, h⟩ := rq_i h
  refine r_getR hC hw kc_3 hi148 0 rfl lk_143 dX0_judgePut_94 rfl ho153 (fun a151 hi152 => ?_)
  refine lv_iload_n hx hb dX0_judgePut_97 rfl (lv_at hl 2 rfl) ?_
  obtain ⟨hn154, h⟩ := ix_i h
  refine r_iald hC hw hi152 hn154 dX0_judgePut_98 ?_
  refine lv_bipush (v := 123) hx hb dX0_judgePut_99 (by decide) ?_
  refine lv_icmp_ne (tgt := 135) hx hb dX0_judgePut_101 (by decide) (fun c155 => ?_) (fun c155 => ?_)
  · have h := i_no c155 h
    exact w_X0_judgePut_135 hC hR o0 a0 x2 x3 x4 x5 x6 xs0 _ _ _ _ hi0 hw (lv_sub hl [1, 3, 4, 5, 6, 7, 0] rfl) h
  · have h := i_yes c155 h
    refine lv_iload hx hb dX0_judgePut_104 (lv_at hl 0 rfl) ?_
    refine lv_if_eq (tgt := 135) hx hb dX0_judgePut_106 (by decide) (fun c156 => ?_) (fun c156 => ?_)
    · have h := i_yes c156 h
      exact w_X0_judgePut_135 hC hR o0 a0 x2 x3 x4 x5 x6 xs0 _ _ _ _ hi0 hw (lv_sub hl [1, 3, 4, 5, 6, 7, 0] rfl) h
    · have h := i_no c156 h
      refine lv_aload_n hx hb dX0_judgePut_109 rfl (lv_at hl 1 rfl) ?_
      obtain ⟨o157, ho160, h⟩ := rq_i h
      refine r_getR hC hw kc_0 hi0 4 rfl lk_321 dX0_judgePut_110 rfl ho160 (fun a158 hi159 => ?_)
      obtain ⟨o161, ho164, h⟩ := rq_i h
      refine r_getR hC hw kc_4 hi159 2 rfl lk_268 dX0_judgePut_113 rfl ho164 (fun a162 hi163 => ?_)
      refine lv_iload_n hx hb dX0_judgePut_116 rfl (lv_at hl 4 rfl) ?_
      obtain ⟨hn165, h⟩ := ix_i h
      refine r_lald hC hw hi163 hn165 dX0_judgePut_117 ?_
      refine lv_iload hx hb dX0_judgePut_118 (lv_at hl 7 rfl) ?_
      refine lv_i2l (v := x6.toInt64) hx hb dX0_judgePut_120 rfl ?_
      refine lv_ladd hx hb dX0_judgePut_121 ?_
      refine lv_ldc2 (v := 7) hx hb hC.2.2.2.1 (hC.2.2.2.2.1 _ lk_638) dX0_judgePut_122 ?_
      refine lv_land hx hb dX0_judgePut_125 ?_
      refine lv_lconst (v := 0) hx hb dX0_judgePut_126 (by decide) ?_
      refine W.lcmp hx hb dX0_judgePut_127 ?_
      refine lv_if_ne (tgt := 135) hx hb dX0_judgePut_128 (by decide) (fun c166 => ?_) (fun c166 => ?_)
      · have h := i_no c166 h
        exact w_X0_judgePut_135 hC hR o0 a0 x2 x3 x4 x5 x6 xs0 _ _ _ _ hi0 hw (lv_sub hl [1, 3, 4, 5, 6, 7, 0] rfl) h
      · have h := i_yes c166 h
        refine lv_iconst (v := 1) hx hb dX0_judgePut_131 (by decide) ?_
        refine lv_goto (tgt := 136) hx hb dX0_judgePut_132 (by decide) ?_
        exact w_X0_judgePut_136 hC hR o0 a0 x2 x3 x4 x5 x6 xs0 (1 : Int32) _ _ _ _ hi0 hw (lv_sub hl [1, 3, 4, 5, 6, 7, 0] rfl) h
set_option maxHeartbeats 4000000 in
set_option maxRecDepth 100000 in
theorem w_X0_judgePut_71 {r : Int32} {D' : dt} (hC : Cx RX0 cX0_judgePut 9 (some .int) p s m args meth c) (hR : 3 ≤ R.frames ∧ 70 ≤ R.locals) : ∀ (o0 a0 : Nat) (x1 : Int32) (x2 : Int32) (x3 : Int32) (x4 : Int32) (x5 : Int32) (x6 : Int32) (D : dt) (H : Heap) (locs : List Loc) (ls : Array Slot), Is S ad o0 a0 0 → Wd G cA S D ad A s H locs → lv_has ls 9 [(0, .ref a0), (1, .int x1), (2, .int x2), (3, .int x3), (4, .int x4), (5, .int x5), (6, .int x6)] → f_X0_judgePut_71 S o0 x1 x2 x3 x4 x5 x6 D = some (r, D') → W p l e R s m args below meth c H locs 0 0 (MQ below (Qn (some (.int r)) True (wpost G cA S D' ad A) A) args s 0 0 A) (F0 m 71 ls []) := by
  obtain ⟨hx, hb, -⟩ := id hC
  intro o0 a0 x1 x2 x3 x4 x5 x6 D H locs ls hi0 hw hl h
  unfold f_X0_judgePut_71 at h
  refine lv_aload_n hx hb dX0_judgePut_71 rfl (lv_at hl 0 rfl) ?_
  obtain ⟨o167, ho170, h⟩ := rq_i h
  refine r_getR hC hw kc_0 hi0 4 rfl lk_321 dX0_judgePut_72 rfl ho170 (fun a168 hi169 => ?_)
  refine lv_iload_n hx hb dX0_judgePut_75 rfl (lv_at hl 3 rfl) ?_
  obtain ⟨r172, hq171, h⟩ := pq_i h
  refine r_cV (st' := [.int r172]) [.int x3] [] hC hw kc_4 hi169 (k_X5_kind _ hi169 hq171) mk_X5_kind lk_587 ⟨Nat.le_trans (by decide) hR.1, Nat.le_trans (by decide) hR.2⟩ ⟨Nat.zero_le _, Nat.zero_le _⟩ rfl hl.1 rfl rfl (Nat.le_of_ble_eq_true rfl) dX0_judgePut_76 (fun hP H locs hw => ?_)
  refine lv_iconst (v := 3) hx hb dX0_judgePut_79 (by decide) ?_
  refine lv_icmp_ne (tgt := 87) hx hb dX0_judgePut_80 (by decide) (fun c173 => ?_) (fun c173 => ?_)
  · have h := i_no c173 h
    refine lv_iconst (v := 0) hx hb dX0_judgePut_87 (by decide) ?_
    exact w_X0_judgePut_88 hC hR o0 a0 x1 x2 x3 x4 x5 x6 (0 : Int32) _ _ _ _ hi0 hw (lv_sub hl [0, 1, 2, 3, 4, 5, 6] rfl) h
  · have h := i_yes c173 h
    refine lv_iconst (v := 1) hx hb dX0_judgePut_83 (by decide) ?_
    refine lv_goto (tgt := 88) hx hb dX0_judgePut_84 (by decide) ?_
    exact w_X0_judgePut_88 hC hR o0 a0 x1 x2 x3 x4 x5 x6 (1 : Int32) _ _ _ _ hi0 hw (lv_sub hl [0, 1, 2, 3, 4, 5, 6] rfl) h
set_option maxHeartbeats 4000000 in
set_option maxRecDepth 100000 in
theorem w_X0_judgePut_0 {r : Int32} {D' : dt} (hC : Cx RX0 cX0_judgePut 9 (some .int) p s m args meth c) (hR : 3 ≤ R.frames ∧ 70 ≤ R.locals) : ∀ (o0 a0 : Nat) (x1 : Int32) (x2 : Int32) (D : dt) (H : Heap) (locs : List Loc) (ls : Array Slot), Is S ad o0 a0 0 → Wd G cA S D ad A s H locs → lv_has ls 9 [(0, .ref a0), (1, .int x1), (2, .int x2)] → f_X0_judgePut S o0 x1 x2 D = some (r, D') → W p l e R s m args below meth c H locs 0 0 (MQ below (Qn (some (.int r)) True (wpost G cA S D' ad A) A) args s 0 0 A) (F0 m 0 ls []) := by
  obtain ⟨hx, hb, -⟩ := id hC
  intro o0 a0 x1 x2 D H locs ls hi0 hw hl h
  unfold f_X0_judgePut at h
  refine lv_aload_n hx hb dX0_judgePut_0 rfl (lv_at hl 0 rfl) ?_
  obtain ⟨o174, ho177, h⟩ := rq_i h
  refine r_getR hC hw kc_0 hi0 0 rfl lk_317 dX0_judgePut_1 rfl ho177 (fun a175 hi176 => ?_)
  obtain ⟨o178, ho181, h⟩ := rq_i h
  refine r_getR hC hw kc_3 hi176 1 rfl lk_146 dX0_judgePut_4 rfl ho181 (fun a179 hi180 => ?_)
  refine lv_iload_n hx hb dX0_judgePut_7 rfl (lv_at hl 1 rfl) ?_
  obtain ⟨hn182, h⟩ := ix_i h
  refine r_iald hC hw hi180 hn182 dX0_judgePut_8 ?_
  refine lv_topi (fun y183 ey183 => ?_)
  have h := nm_i h y183 ey183
  refine lv_istore_n (lv' := [(3, .int y183), (0, .ref a0), (1, .int x1), (2, .int x2)]) hx hb dX0_judgePut_9 rfl hl (by decide) rfl (fun ls hl => ?_)
  refine lv_aload_n hx hb dX0_judgePut_10 rfl (lv_at hl 1 rfl) ?_
  obtain ⟨o184, ho187, h⟩ := rq_i h
  refine r_getR hC hw kc_0 hi0 0 rfl lk_317 dX0_judgePut_11 rfl ho187 (fun a185 hi186 => ?_)
  obtain ⟨o188, ho191, h⟩ := rq_i h
  refine r_getR hC hw kc_3 hi186 2 rfl lk_149 dX0_judgePut_14 rfl ho191 (fun a189 hi190 => ?_)
  refine lv_iload_n hx hb dX0_judgePut_17 rfl (lv_at hl 2 rfl) ?_
  obtain ⟨hn192, h⟩ := ix_i h
  refine r_iald hC hw hi190 hn192 dX0_judgePut_18 ?_
  refine lv_topi (fun y193 ey193 => ?_)
  have h := nm_i h y193 ey193
  refine lv_istore (lv' := [(4, .int y193), (3, .int y183), (0, .ref a0), (1, .int x1), (2, .int x2)]) hx hb dX0_judgePut_19 hl (by decide) rfl (fun ls hl => ?_)
  refine lv_aload_n hx hb dX0_judgePut_21 rfl (lv_at hl 2 rfl) ?_
  obtain ⟨o194, ho197, h⟩ := rq_i h
  refine r_getR hC hw kc_0 hi0 0 rfl lk_317 dX0_judgePut_22 rfl ho197 (fun a195 hi196 => ?_)
  refine lv_iload_n hx hb dX0_judgePut_25 rfl (lv_at hl 3 rfl) ?_
  obtain ⟨r199, hq198, h⟩ := pq_i h
  refine r_cV (st' := [.int r199]) [.int x1] [] hC hw kc_3 hi196 (k_X4_width _ hi196 hq198) mk_X4_width lk_578 ⟨Nat.le_trans (by decide) hR.1, Nat.le_trans (by decide) hR.2⟩ ⟨Nat.zero_le _, Nat.zero_le _⟩ rfl hl.1 rfl rfl (Nat.le_of_ble_eq_true rfl) dX0_judgePut_26 (fun hP H locs hw => ?_)
  refine lv_istore (lv' := [(5, .int r199), (4, .int y193), (3, .int y183), (0, .ref a0), (1, .int x1), (2, .int x2)]) hx hb dX0_judgePut_29 hl (by decide) rfl (fun ls hl => ?_)
  refine lv_aload_n hx hb dX0_judgePut_31 rfl (lv_at hl 3 rfl) ?_
  obtain ⟨o200, ho203, h⟩ := rq_i h
  refine r_getR hC hw kc_0 hi0 0 rfl lk_317 dX0_judgePut_32 rfl ho203 (fun a201 hi202 => ?_)
  obtain ⟨o204, ho207, h⟩ := rq_i h
  refine r_getR hC hw kc_3 hi202 3 rfl lk_152 dX0_judgePut_35 rfl ho207 (fun a205 hi206 => ?_)
  refine lv_iload_n hx hb dX0_judgePut_38 rfl (lv_at hl 4 rfl) ?_
  obtain ⟨hn208, h⟩ := ix_i h
  refine r_iald hC hw hi206 hn208 dX0_judgePut_39 ?_
  refine lv_topi (fun y209 ey209 => ?_)
  have h := nm_i h y209 ey209
  refine lv_istore (lv' := [(6, .int y209), (5, .int r199), (4, .int y193), (3, .int y183), (0, .ref a0), (1, .int x1), (2, .int x2)]) hx hb dX0_judgePut_40 hl (by decide) rfl (fun ls hl => ?_)
  refine lv_aload_n hx hb dX0_judgePut_42 rfl (lv_at hl 4 rfl) ?_
  obtain ⟨o210, ho213, h⟩ := rq_i h
  refine r_getR hC hw kc_0 hi0 4 rfl lk_321 dX0_judgePut_43 rfl ho213 (fun a211 hi212 => ?_)
  refine lv_iload_n hx hb dX0_judgePut_46 rfl (lv_at hl 3 rfl) ?_
  obtain ⟨r215, hq214, h⟩ := pq_i h
  refine r_cV (st' := [.int r215]) [.int y183] [] hC hw kc_4 hi212 (k_X5_isNone _ hi212 hq214) mk_X5_isNone lk_579 ⟨Nat.le_trans (by decide) hR.1, Nat.le_trans (by decide) hR.2⟩ ⟨Nat.zero_le _, Nat.zero_le _⟩ rfl hl.1 rfl rfl (Nat.le_of_ble_eq_true rfl) dX0_judgePut_47 (fun hP H locs hw => ?_)
  refine lv_if_ne (tgt := 69) hx hb dX0_judgePut_50 (by decide) (fun c216 => ?_) (fun c216 => ?_)
  · have h := i_no c216 h
    refine lv_iconst (v := 2) hx hb dX0_judgePut_69 (by decide) ?_
    cases h
    exact r_iret hC hw dX0_judgePut_70
  · have h := i_yes c216 h
    refine lv_iload_n hx hb dX0_judgePut_53 rfl (lv_at hl 6 rfl) ?_
    refine lv_if_eq (tgt := 71) hx hb dX0_judgePut_54 (by decide) (fun c217 => ?_) (fun c217 => ?_)
    · have h := i_yes c217 h
      exact w_X0_judgePut_71 hC hR o0 a0 x1 x2 y183 y193 r199 y209 _ _ _ _ hi0 hw (lv_sub hl [4, 5, 6, 3, 2, 1, 0] rfl) h
    · have h := i_no c217 h
      refine lv_aload_n hx hb dX0_judgePut_57 rfl (lv_at hl 4 rfl) ?_
      obtain ⟨o218, ho221, h⟩ := rq_i h
      refine r_getR hC hw kc_0 hi0 4 rfl lk_321 dX0_judgePut_58 rfl ho221 (fun a219 hi220 => ?_)
      refine lv_iload hx hb dX0_judgePut_61 (lv_at hl 2 rfl) ?_
      obtain ⟨r223, hq222, h⟩ := pq_i h
      refine r_cV (st' := [.int r223]) [.int y193] [] hC hw kc_4 hi220 (k_X5_isNone _ hi220 hq222) mk_X5_isNone lk_579 ⟨Nat.le_trans (by decide) hR.1, Nat.le_trans (by decide) hR.2⟩ ⟨Nat.zero_le _, Nat.zero_le _⟩ rfl hl.1 rfl rfl (Nat.le_of_ble_eq_true rfl) dX0_judgePut_63 (fun hP H locs hw => ?_)
      refine lv_if_eq (tgt := 71) hx hb dX0_judgePut_66 (by decide) (fun c224 => ?_) (fun c224 => ?_)
      · have h := i_yes c224 h
        exact w_X0_judgePut_71 hC hR o0 a0 x1 x2 y183 y193 r199 y209 _ _ _ _ hi0 hw (lv_sub hl [4, 5, 6, 3, 2, 1, 0] rfl) h
      · have h := i_no c224 h
        refine lv_iconst (v := 2) hx hb dX0_judgePut_69 (by decide) ?_
        cases h
        exact r_iret hC hw dX0_judgePut_70
set_option maxHeartbeats 4000000 in
set_option maxRecDepth 100000 in
theorem k_X0_judgePut {l : Launch} {G : va_G} {cA : Nat → ClassId} {S : sh} {D D' : dt} {ad : Nat → Nat} (sz : Nat) {o0 a0 : Nat} {x1 : Int32} {x2 : Int32} {r : Int32} (hi0 : Is S ad o0 a0 0) (h : f_X0_judgePut S o0 x1 x2 D = some (r, D')) : Co l yX0_judgePut (Cond.code yX0_judgePut cX0_judgePut 9 (some .int) :: tb0) 3 70 [.ref a0, .int x1, .int x2] G cA S D ad sz (some (.int r)) True D' := by
  refine Met.ofW (cc := cX0_judgePut) (maxL := 9) (ret := (some .int)) (by decide) rfl ?_
  intro p e s m args below meth c s₁ B hml hv
  obtain ⟨rfl, hsz, hP, hK, hD0, hT, hX⟩ := hv
  subst hsz
  have hts := atoms_spec (ws := Cond.code yX0_judgePut cX0_judgePut 9 (some .int) :: tb0) B.pre
  have hC : Cx RX0 cX0_judgePut 9 (some .int) p s m _ meth c := ⟨B.exec, B.bytes, hml, findClass_of_methodNamed B.named, fun w q => hts w (List.mem_cons_of_mem _ q), B.returns, B.notSynchronized⟩
  have hw := Wd.entry hP hK hD0 hT hX
  have hl := lv_entry ([.ref a0, .int x1, .int x2]) (n := 9) (Nat.le_of_ble_eq_true rfl)
  rw [lg_entry_eq]
  exact w_X0_judgePut_0 hC ⟨Nat.le_refl _, Nat.le_refl _⟩ o0 a0 x1 x2 D _ _ _ hi0 hw hl h
set_option maxHeartbeats 4000000 in
set_option maxRecDepth 100000 in
theorem w_X0_judgeChange_253 {r : Int32} {D' : dt} (hC : Cx RX0 cX0_judgeChange 9 (some .int) p s m args meth c) (hR : 2 ≤ R.frames ∧ 50 ≤ R.locals) : ∀ (x4 : Int32) (os0 as0 : Nat) (xs1 : Int32) (D : dt) (H : Heap) (locs : List Loc) (ls : Array Slot), Is S ad os0 as0 4 → Wd G cA S D ad A s H locs → lv_has ls 9 [(4, .int x4)] → f_X0_judgeChange_253 S x4 os0 xs1 D = some (r, D') → W p l e R s m args below meth c H locs 0 0 (MQ below (Qn (some (.int r)) True (wpost G cA S D' ad A) A) args s 0 0 A) (F0 m 253 ls [.int xs1, .ref as0]) := by
  obtain ⟨hx, hb, -⟩ := id hC
  intro x4 os0 as0 xs1 D H locs ls his0 hw hl h
  unfold f_X0_judgeChange_253 at h
  refine lv_iload hx hb dX0_judgeChange_253 (lv_at hl 0 rfl) ?_
  obtain ⟨_, D131, hq130, h⟩ := cq_i h
  refine r_cV (st' := []) [.int xs1, .int x4] [] hC hw kc_4 his0 (k_X5_writeAny _ his0 hq130) mk_X5_writeAny lk_629 ⟨Nat.le_trans (by decide) hR.1, Nat.le_trans (by decide) hR.2⟩ ⟨Nat.zero_le _, Nat.zero_le _⟩ rfl hl.1 rfl rfl (Nat.le_of_ble_eq_true rfl) dX0_judgeChange_255 (fun hP H locs hw => ?_)
  refine lv_iconst (v := 0) hx hb dX0_judgeChange_258 (by decide) ?_
  cases h
  exact r_iret hC hw dX0_judgeChange_259
set_option maxHeartbeats 4000000 in
set_option maxRecDepth 100000 in
theorem w_X0_judgeChange_232 {r : Int32} {D' : dt} (hC : Cx RX0 cX0_judgeChange 9 (some .int) p s m args meth c) (hR : 2 ≤ R.frames ∧ 50 ≤ R.locals) : ∀ (o0 a0 : Nat) (x3 : Int32) (x4 : Int32) (x6 : Int32) (x7 : Int32) (D : dt) (H : Heap) (locs : List Loc) (ls : Array Slot), Is S ad o0 a0 0 → Wd G cA S D ad A s H locs → lv_has ls 9 [(0, .ref a0), (3, .int x3), (4, .int x4), (6, .int x6), (7, .int x7)] → f_X0_judgeChange_232 S o0 x3 x4 x6 x7 D = some (r, D') → W p l e R s m args below meth c H locs 0 0 (MQ below (Qn (some (.int r)) True (wpost G cA S D' ad A) A) args s 0 0 A) (F0 m 232 ls []) := by
  obtain ⟨hx, hb, -⟩ := id hC
  intro o0 a0 x3 x4 x6 x7 D H locs ls hi0 hw hl h
  unfold f_X0_judgeChange_232 at h
  refine lv_iload hx hb dX0_judgeChange_232 (lv_at hl 3 rfl) ?_
  refine lv_iconst (v := 1) hx hb dX0_judgeChange_234 (by decide) ?_
  refine lv_iand hx hb dX0_judgeChange_235 ?_
  refine lv_if_eq (tgt := 258) hx hb dX0_judgeChange_236 (by decide) (fun c132 => ?_) (fun c132 => ?_)
  · have h := i_yes c132 h
    refine lv_iconst (v := 0) hx hb dX0_judgeChange_258 (by decide) ?_
    cases h
    exact r_iret hC hw dX0_judgeChange_259
  · have h := i_no c132 h
    refine lv_aload_n hx hb dX0_judgeChange_239 rfl (lv_at hl 0 rfl) ?_
    obtain ⟨o133, ho136, h⟩ := rq_i h
    refine r_getR hC hw kc_0 hi0 4 rfl lk_321 dX0_judgeChange_240 rfl ho136 (fun a134 hi135 => ?_)
    refine lv_iload hx hb dX0_judgeChange_243 (lv_at hl 4 rfl) ?_
    refine lv_if_eq (tgt := 252) hx hb dX0_judgeChange_245 (by decide) (fun c137 => ?_) (fun c137 => ?_)
    · have h := i_yes c137 h
      refine lv_iload_n hx hb dX0_judgeChange_252 rfl (lv_at hl 1 rfl) ?_
      exact w_X0_judgeChange_253 hC hR x4 o133 a134 x3 _ _ _ _ hi135 hw (lv_sub hl [2] rfl) h
    · have h := i_no c137 h
      refine lv_iconst (v := 0) hx hb dX0_judgeChange_248 (by decide) ?_
      refine lv_goto (tgt := 253) hx hb dX0_judgeChange_249 (by decide) ?_
      exact w_X0_judgeChange_253 hC hR x4 o133 a134 (0 : Int32) _ _ _ _ hi135 hw (lv_sub hl [2] rfl) h
set_option maxHeartbeats 4000000 in
set_option maxRecDepth 100000 in
theorem w_X0_judgeChange_211 {r : Int32} {D' : dt} (hC : Cx RX0 cX0_judgeChange 9 (some .int) p s m args meth c) (hR : 2 ≤ R.frames ∧ 50 ≤ R.locals) : ∀ (o0 a0 : Nat) (x2 : Int32) (x3 : Int32) (x4 : Int32) (x5 : Int32) (x6 : Int32) (x7 : Int32) (x8 : Int32) (D : dt) (H : Heap) (locs : List Loc) (ls : Array Slot), Is S ad o0 a0 0 → Wd G cA S D ad A s H locs → lv_has ls 9 [(0, .ref a0), (2, .int x2), (3, .int x3), (4, .int x4), (5, .int x5), (6, .int x6), (7, .int x7), (8, .int x8)] → f_X0_judgeChange_211 S o0 x2 x3 x4 x5 x6 x7 x8 D = some (r, D') → W p l e R s m args below meth c H locs 0 0 (MQ below (Qn (some (.int r)) True (wpost G cA S D' ad A) A) args s 0 0 A) (F0 m 211 ls []) := by
  obtain ⟨hx, hb, -⟩ := id hC
  intro o0 a0 x2 x3 x4 x5 x6 x7 x8 D H locs ls hi0 hw hl h
  unfold f_X0_judgeChange_211 at h
  refine lv_iload hx hb dX0_judgeChange_211 (lv_at hl 7 rfl) ?_
  refine lv_if_eq (tgt := 232) hx hb dX0_judgeChange_213 (by decide) (fun c138 => ?_) (fun c138 => ?_)
  · have h := i_yes c138 h
    exact w_X0_judgeChange_232 hC hR o0 a0 x3 x4 x6 x7 _ _ _ _ hi0 hw (lv_sub hl [0, 2, 3, 5, 6] rfl) h
  · have h := i_no c138 h
    refine lv_aload_n hx hb dX0_judgeChange_216 rfl (lv_at hl 0 rfl) ?_
    obtain ⟨o139, ho142, h⟩ := rq_i h
    refine r_getR hC hw kc_0 hi0 4 rfl lk_321 dX0_judgeChange_217 rfl ho142 (fun a140 hi141 => ?_)
    refine lv_aload_n hx hb dX0_judgeChange_220 rfl (lv_at hl 0 rfl) ?_
    refine lv_iload_n hx hb dX0_judgeChange_221 rfl (lv_at hl 1 rfl) ?_
    refine lv_iload hx hb dX0_judgeChange_222 (lv_at hl 4 rfl) ?_
    obtain ⟨r144, hq143, h⟩ := pq_i h
    refine r_cV (st' := [.int r144, .ref a140]) [.int x2, .int x5] [.ref a140] hC hw kc_0 hi0 (k_X0_inStack _ hi0 hq143) mk_X0_inStack lk_604 ⟨Nat.le_trans (by decide) hR.1, Nat.le_trans (by decide) hR.2⟩ ⟨Nat.zero_le _, Nat.zero_le _⟩ rfl hl.1 rfl rfl (Nat.le_of_ble_eq_true rfl) dX0_judgeChange_224 (fun hP H locs hw => ?_)
    refine lv_iload hx hb dX0_judgeChange_227 (lv_at hl 3 rfl) ?_
    obtain ⟨_, D146, hq145, h⟩ := cq_i h
    refine r_cV (st' := []) [.int r144, .int x4] [] hC hw kc_4 hi141 (k_X5_putOctets _ hi141 hq145) mk_X5_putOctets lk_654 ⟨Nat.le_trans (by decide) hR.1, Nat.le_trans (by decide) hR.2⟩ ⟨Nat.zero_le _, Nat.zero_le _⟩ rfl hl.1 rfl rfl (Nat.le_of_ble_eq_true rfl) dX0_judgeChange_229 (fun hP H locs hw => ?_)
    exact w_X0_judgeChange_232 hC hR o0 a0 x3 x4 x6 x7 _ _ _ _ hi0 hw (lv_sub hl [0, 2, 3, 5, 6] rfl) h
set_option maxHeartbeats 4000000 in
set_option maxRecDepth 100000 in
theorem w_X0_judgeChange_172 {r : Int32} {D' : dt} (hC : Cx RX0 cX0_judgeChange 9 (some .int) p s m args meth c) (hR : 2 ≤ R.frames ∧ 50 ≤ R.locals) : ∀ (o0 a0 : Nat) (x2 : Int32) (x3 : Int32) (x4 : Int32) (x5 : Int32) (x6 : Int32) (x7 : Int32) (x8 : Int32) (D : dt) (H : Heap) (locs : List Loc) (ls : Array Slot), Is S ad o0 a0 0 → Wd G cA S D ad A s H locs → lv_has ls 9 [(0, .ref a0), (2, .int x2), (3, .int x3), (4, .int x4), (5, .int x5), (6, .int x6), (7, .int x7), (8, .int x8)] → f_X0_judgeChange_172 S o0 x2 x3 x4 x5 x6 x7 x8 D = some (r, D') → W p l e R s m args below meth c H locs 0 0 (MQ below (Qn (some (.int r)) True (wpost G cA S D' ad A) A) args s 0 0 A) (F0 m 172 ls []) := by
  obtain ⟨hx, hb, -⟩ := id hC
  intro o0 a0 x2 x3 x4 x5 x6 x7 x8 D H locs ls hi0 hw hl h
  unfold f_X0_judgeChange_172 at h
  refine lv_aload_n hx hb dX0_judgeChange_172 rfl (lv_at hl 0 rfl) ?_
  refine lv_iload_n hx hb dX0_judgeChange_173 rfl (lv_at hl 1 rfl) ?_
  refine lv_iload hx hb dX0_judgeChange_174 (lv_at hl 4 rfl) ?_
  refine lv_iload hx hb dX0_judgeChange_176 (lv_at hl 3 rfl) ?_
  refine lv_iconst (v := 1) hx hb dX0_judgeChange_178 (by decide) ?_
  obtain ⟨r148, hq147, h⟩ := pq_i h
  refine r_cV (st' := [.int r148]) [.int x2, .int x5, .int x4, .int (1 : Int32)] [] hC hw kc_0 hi0 (k_X0_isThere _ hi0 hq147) mk_X0_isThere lk_595 ⟨Nat.le_trans (by decide) hR.1, Nat.le_trans (by decide) hR.2⟩ ⟨Nat.zero_le _, Nat.zero_le _⟩ rfl hl.1 rfl rfl (Nat.le_of_ble_eq_true rfl) dX0_judgeChange_179 (fun hP H locs hw => ?_)
  refine lv_if_eq (tgt := 209) hx hb dX0_judgeChange_182 (by decide) (fun c149 => ?_) (fun c149 => ?_)
  · have h := i_yes c149 h
    refine lv_iconst (v := 4) hx hb dX0_judgeChange_209 (by decide) ?_
    cases h
    exact r_iret hC hw dX0_judgeChange_210
  · have h := i_no c149 h
    refine lv_iload hx hb dX0_judgeChange_185 (lv_at hl 7 rfl) ?_
    refine lv_if_eq (tgt := 211) hx hb dX0_judgeChange_187 (by decide) (fun c150 => ?_) (fun c150 => ?_)
    · have h := i_yes c150 h
      exact w_X0_judgeChange_211 hC hR o0 a0 x2 x3 x4 x5 x6 x7 x8 _ _ _ _ hi0 hw (lv_sub hl [0, 1, 2, 3, 4, 5, 6, 7] rfl) h
    · have h := i_no c150 h
      refine lv_aload_n hx hb dX0_judgeChange_190 rfl (lv_at hl 0 rfl) ?_
      obtain ⟨o151, ho154, h⟩ := rq_i h
      refine r_getR hC hw kc_0 hi0 4 rfl lk_321 dX0_judgeChange_191 rfl ho154 (fun a152 hi153 => ?_)
      refine lv_aload_n hx hb dX0_judgeChange_194 rfl (lv_at hl 0 rfl) ?_
      refine lv_iload_n hx hb dX0_judgeChange_195 rfl (lv_at hl 1 rfl) ?_
      refine lv_iload hx hb dX0_judgeChange_196 (lv_at hl 4 rfl) ?_
      obtain ⟨r156, hq155, h⟩ := pq_i h
      refine r_cV (st' := [.int r156, .ref a152]) [.int x2, .int x5] [.ref a152] hC hw kc_0 hi0 (k_X0_inStack _ hi0 hq155) mk_X0_inStack lk_604 ⟨Nat.le_trans (by decide) hR.1, Nat.le_trans (by decide) hR.2⟩ ⟨Nat.zero_le _, Nat.zero_le _⟩ rfl hl.1 rfl rfl (Nat.le_of_ble_eq_true rfl) dX0_judgeChange_198 (fun hP H locs hw => ?_)
      refine lv_iload hx hb dX0_judgeChange_201 (lv_at hl 3 rfl) ?_
      obtain ⟨r158, hq157, h⟩ := pq_i h
      refine r_cV (st' := [.int r158]) [.int r156, .int x4] [] hC hw kc_4 hi153 (k_X5_areKnown _ hi153 hq157) mk_X5_areKnown lk_616 ⟨Nat.le_trans (by decide) hR.1, Nat.le_trans (by decide) hR.2⟩ ⟨Nat.zero_le _, Nat.zero_le _⟩ rfl hl.1 rfl rfl (Nat.le_of_ble_eq_true rfl) dX0_judgeChange_203 (fun hP H locs hw => ?_)
      refine lv_if_ne (tgt := 211) hx hb dX0_judgeChange_206 (by decide) (fun c159 => ?_) (fun c159 => ?_)
      · have h := i_no c159 h
        exact w_X0_judgeChange_211 hC hR o0 a0 x2 x3 x4 x5 x6 x7 x8 _ _ _ _ hi0 hw (lv_sub hl [0, 1, 2, 3, 4, 5, 6, 7] rfl) h
      · have h := i_yes c159 h
        refine lv_iconst (v := 4) hx hb dX0_judgeChange_209 (by decide) ?_
        cases h
        exact r_iret hC hw dX0_judgeChange_210
set_option maxHeartbeats 4000000 in
set_option maxRecDepth 100000 in
theorem w_X0_judgeChange_143 {r : Int32} {D' : dt} (hC : Cx RX0 cX0_judgeChange 9 (some .int) p s m args meth c) (hR : 2 ≤ R.frames ∧ 50 ≤ R.locals) : ∀ (o0 a0 : Nat) (x2 : Int32) (x3 : Int32) (x4 : Int32) (x5 : Int32) (x6 : Int32) (x7 : Int32) (x8 : Int32) (D : dt) (H : Heap) (locs : List Loc) (ls : Array Slot), Is S ad o0 a0 0 → Wd G cA S D ad A s H locs → lv_has ls 9 [(0, .ref a0), (2, .int x2), (3, .int x3), (4, .int x4), (5, .int x5), (6, .int x6), (7, .int x7), (8, .int x8)] → f_X0_judgeChange_143 S o0 x2 x3 x4 x5 x6 x7 x8 D = some (r, D') → W p l e R s m args below meth c H locs 0 0 (MQ below (Qn (some (.int r)) True (wpost G cA S D' ad A) A) args s 0 0 A) (F0 m 143 ls []) := by
  obtain ⟨hx, hb, -⟩ := id hC
  intro o0 a0 x2 x3 x4 x5 x6 x7 x8 D H locs ls hi0 hw hl h
  unfold f_X0_judgeChange_143 at h
  refine lv_aload_n hx hb dX0_judgeChange_143 rfl (lv_at hl 0 rfl) ?_
  obtain ⟨o160, ho163, h⟩ := rq_i h
  refine r_getR hC hw kc_0 hi0 4 rfl lk_321 dX0_judgeChange_144 rfl ho163 (fun a161 hi162 => ?_)
  refine lv_iload_n hx hb dX0_judgeChange_147 rfl (lv_at hl 2 rfl) ?_
  obtain ⟨r165, hq164, h⟩ := pq_i h
  refine r_cV (st' := [.int r165]) [.int x3] [] hC hw kc_4 hi162 (k_X5_isNumber _ hi162 hq164) mk_X5_isNumber lk_639 ⟨Nat.le_trans (by decide) hR.1, Nat.le_trans (by decide) hR.2⟩ ⟨Nat.zero_le _, Nat.zero_le _⟩ rfl hl.1 rfl rfl (Nat.le_of_ble_eq_true rfl) dX0_judgeChange_148 (fun hP H locs hw => ?_)
  refine lv_if_eq (tgt := 170) hx hb dX0_judgeChange_151 (by decide) (fun c166 => ?_) (fun c166 => ?_)
  · have h := i_yes c166 h
    refine lv_iconst (v := 3) hx hb dX0_judgeChange_170 (by decide) ?_
    cases h
    exact r_iret hC hw dX0_judgeChange_171
  · have h := i_no c166 h
    refine lv_iload hx hb dX0_judgeChange_154 (lv_at hl 6 rfl) ?_
    refine lv_if_eq (tgt := 172) hx hb dX0_judgeChange_156 (by decide) (fun c167 => ?_) (fun c167 => ?_)
    · have h := i_yes c167 h
      exact w_X0_judgeChange_172 hC hR o0 a0 x2 x3 x4 x5 x6 x7 x8 _ _ _ _ hi0 hw (lv_sub hl [0, 1, 2, 3, 4, 5, 6, 7] rfl) h
    · have h := i_no c167 h
      refine lv_aload_n hx hb dX0_judgeChange_159 rfl (lv_at hl 0 rfl) ?_
      obtain ⟨o168, ho171, h⟩ := rq_i h
      refine r_getR hC hw kc_0 hi0 4 rfl lk_321 dX0_judgeChange_160 rfl ho171 (fun a169 hi170 => ?_)
      refine lv_iconst (v := 0) hx hb dX0_judgeChange_163 (by decide) ?_
      obtain ⟨r173, hq172, h⟩ := pq_i h
      refine r_cV (st' := [.int r173]) [.int (0 : Int32)] [] hC hw kc_4 hi170 (k_X5_isNumber _ hi170 hq172) mk_X5_isNumber lk_639 ⟨Nat.le_trans (by decide) hR.1, Nat.le_trans (by decide) hR.2⟩ ⟨Nat.zero_le _, Nat.zero_le _⟩ rfl hl.1 rfl rfl (Nat.le_of_ble_eq_true rfl) dX0_judgeChange_164 (fun hP H locs hw => ?_)
      refine lv_if_ne (tgt := 172) hx hb dX0_judgeChange_167 (by decide) (fun c174 => ?_) (fun c174 => ?_)
      · have h := i_no c174 h
        exact w_X0_judgeChange_172 hC hR o0 a0 x2 x3 x4 x5 x6 x7 x8 _ _ _ _ hi0 hw (lv_sub hl [0, 1, 2, 3, 4, 5, 6, 7] rfl) h
      · have h := i_yes c174 h
        refine lv_iconst (v := 3) hx hb dX0_judgeChange_170 (by decide) ?_
        cases h
        exact r_iret hC hw dX0_judgeChange_171
set_option maxHeartbeats 4000000 in
set_option maxRecDepth 100000 in
theorem w_X0_judgeChange_124 {r : Int32} {D' : dt} (hC : Cx RX0 cX0_judgeChange 9 (some .int) p s m args meth c) (hR : 2 ≤ R.frames ∧ 50 ≤ R.locals) : ∀ (o0 a0 : Nat) (x2 : Int32) (x3 : Int32) (x4 : Int32) (x5 : Int32) (x6 : Int32) (x7 : Int32) (xs0 : Int32) (D : dt) (H : Heap) (locs : List Loc) (ls : Array Slot), Is S ad o0 a0 0 → Wd G cA S D ad A s H locs → lv_has ls 9 [(0, .ref a0), (2, .int x2), (3, .int x3), (4, .int x4), (5, .int x5), (6, .int x6), (7, .int x7)] → f_X0_judgeChange_124 S o0 x2 x3 x4 x5 x6 x7 xs0 D = some (r, D') → W p l e R s m args below meth c H locs 0 0 (MQ below (Qn (some (.int r)) True (wpost G cA S D' ad A) A) args s 0 0 A) (F0 m 124 ls [.int xs0]) := by
  obtain ⟨hx, hb, -⟩ := id hC
  intro o0 a0 x2 x3 x4 x5 x6 x7 xs0 D H locs ls hi0 hw hl h
  unfold f_X0_judgeChange_124 at h
  refine lv_istore (lv' := [(8, .int xs0), (0, .ref a0), (2, .int x2), (3, .int x3), (4, .int x4), (5, .int x5), (6, .int x6), (7, .int x7)]) hx hb dX0_judgeChange_124 hl (by decide) rfl (fun ls hl => ?_)
  refine lv_iload hx hb dX0_judgeChange_126 (lv_at hl 0 rfl) ?_
  refine lv_if_ne (tgt := 143) hx hb dX0_judgeChange_128 (by decide) (fun c175 => ?_) (fun c175 => ?_)
  · have h := i_no c175 h
    exact w_X0_judgeChange_143 hC hR o0 a0 x2 x3 x4 x5 x6 x7 xs0 _ _ _ _ hi0 hw (lv_sub hl [1, 2, 3, 4, 5, 6, 7, 0] rfl) h
  · have h := i_yes c175 h
    refine lv_aload_n hx hb dX0_judgeChange_131 rfl (lv_at hl 1 rfl) ?_
    obtain ⟨o176, ho179, h⟩ := rq_i h
    refine r_getR hC hw kc_0 hi0 4 rfl lk_321 dX0_judgeChange_132 rfl ho179 (fun a177 hi178 => ?_)
    refine lv_iload_n hx hb dX0_judgeChange_135 rfl (lv_at hl 2 rfl) ?_
    obtain ⟨r181, hq180, h⟩ := pq_i h
    refine r_cV (st' := [.int r181]) [.int x2] [] hC hw kc_4 hi178 (k_X5_kind _ hi178 hq180) mk_X5_kind lk_587 ⟨Nat.le_trans (by decide) hR.1, Nat.le_trans (by decide) hR.2⟩ ⟨Nat.zero_le _, Nat.zero_le _⟩ rfl hl.1 rfl rfl (Nat.le_of_ble_eq_true rfl) dX0_judgeChange_136 (fun hP H locs hw => ?_)
    refine lv_iconst (v := 5) hx hb dX0_judgeChange_139 (by decide) ?_
    refine lv_icmp_ne (tgt := 170) hx hb dX0_judgeChange_140 (by decide) (fun c182 => ?_) (fun c182 => ?_)
    · have h := i_no c182 h
      refine lv_iconst (v := 3) hx hb dX0_judgeChange_170 (by decide) ?_
      cases h
      exact r_iret hC hw dX0_judgeChange_171
    · have h := i_yes c182 h
      exact w_X0_judgeChange_143 hC hR o0 a0 x2 x3 x4 x5 x6 x7 xs0 _ _ _ _ hi0 hw (lv_sub hl [1, 2, 3, 4, 5, 6, 7, 0] rfl) h
set_option maxHeartbeats 4000000 in
set_option maxRecDepth 100000 in
theorem w_X0_judgeChange_107 {r : Int32} {D' : dt} (hC : Cx RX0 cX0_judgeChange 9 (some .int) p s m args meth c) (hR : 2 ≤ R.frames ∧ 50 ≤ R.locals) : ∀ (o0 a0 : Nat) (x2 : Int32) (x3 : Int32) (x4 : Int32) (x5 : Int32) (x6 : Int32) (x7 : Int32) (D : dt) (H : Heap) (locs : List Loc) (ls : Array Slot), Is S ad o0 a0 0 → Wd G cA S D ad A s H locs → lv_has ls 9 [(0, .ref a0), (2, .int x2), (3, .int x3), (4, .int x4), (5, .int x5), (6, .int x6), (7, .int x7)] → f_X0_judgeChange_107 S o0 x2 x3 x4 x5 x6 x7 D = some (r, D') → W p l e R s m args below meth c H locs 0 0 (MQ below (Qn (some (.int r)) True (wpost G cA S D' ad A) A) args s 0 0 A) (F0 m 107 ls []) := by
  obtain ⟨hx, hb, -⟩ := id hC
  intro o0 a0 x2 x3 x4 x5 x6 x7 D H locs ls hi0 hw hl h
  unfold f_X0_judgeChange_107 at h
  refine lv_aload_n hx hb dX0_judgeChange_107 rfl (lv_at hl 0 rfl) ?_
  obtain ⟨o183, ho186, h⟩ := rq_i h
  refine r_getR hC hw kc_0 hi0 4 rfl lk_321 dX0_judgeChange_108 rfl ho186 (fun a184 hi185 => ?_)
  refine lv_iload_n hx hb dX0_judgeChange_111 rfl (lv_at hl 1 rfl) ?_
  obtain ⟨r188, hq187, h⟩ := pq_i h
  refine r_cV (st' := [.int r188]) [.int x2] [] hC hw kc_4 hi185 (k_X5_kind _ hi185 hq187) mk_X5_kind lk_587 ⟨Nat.le_trans (by decide) hR.1, Nat.le_trans (by decide) hR.2⟩ ⟨Nat.zero_le _, Nat.zero_le _⟩ rfl hl.1 rfl rfl (Nat.le_of_ble_eq_true rfl) dX0_judgeChange_112 (fun hP H locs hw => ?_)
  refine lv_iconst (v := 3) hx hb dX0_judgeChange_115 (by decide) ?_
  refine lv_icmp_ne (tgt := 123) hx hb dX0_judgeChange_116 (by decide) (fun c189 => ?_) (fun c189 => ?_)
  · have h := i_no c189 h
    refine lv_iconst (v := 0) hx hb dX0_judgeChange_123 (by decide) ?_
    exact w_X0_judgeChange_124 hC hR o0 a0 x2 x3 x4 x5 x6 x7 (0 : Int32) _ _ _ _ hi0 hw (lv_sub hl [0, 1, 2, 3, 4, 5, 6] rfl) h
  · have h := i_yes c189 h
    refine lv_iconst (v := 1) hx hb dX0_judgeChange_119 (by decide) ?_
    refine lv_goto (tgt := 124) hx hb dX0_judgeChange_120 (by decide) ?_
    exact w_X0_judgeChange_124 hC hR o0 a0 x2 x3 x4 x5 x6 x7 (1 : Int32) _ _ _ _ hi0 hw (lv_sub hl [0, 1, 2, 3, 4, 5, 6] rfl) h
set_option maxHeartbeats 4000000 in
set_option maxRecDepth 100000 in
theorem w_X0_judgeChange_65 {r : Int32} {D' : dt} (hC : Cx RX0 cX0_judgeChange 9 (some .int) p s m args meth c) (hR : 2 ≤ R.frames ∧ 50 ≤ R.locals) : ∀ (o0 a0 : Nat) (x2 : Int32) (x3 : Int32) (x4 : Int32) (x5 : Int32) (x6 : Int32) (xs0 : Int32) (D : dt) (H : Heap) (locs : List Loc) (ls : Array Slot), Is S ad o0 a0 0 → Wd G cA S D ad A s H locs → lv_has ls 9 [(0, .ref a0), (2, .int x2), (3, .int x3), (4, .int x4), (5, .int x5), (6, .int x6)] → f_X0_judgeChange_65 S o0 x2 x3 x4 x5 x6 xs0 D = some (r, D') → W p l e R s m args below meth c H locs 0 0 (MQ below (Qn (some (.int r)) True (wpost G cA S D' ad A) A) args s 0 0 A) (F0 m 65 ls [.int xs0]) := by
  obtain ⟨hx, hb, -⟩ := id hC
  intro o0 a0 x2 x3 x4 x5 x6 xs0 D H locs ls hi0 hw hl h
  unfold f_X0_judgeChange_65 at h
  refine lv_istore (lv' := [(7, .int xs0), (0, .ref a0), (2, .int x2), (3, .int x3), (4, .int x4), (5, .int x5), (6, .int x6)]) hx hb dX0_judgeChange_65 hl (by decide) rfl (fun ls hl => ?_)
  refine lv_aload_n hx hb dX0_judgeChange_67 rfl (lv_at hl 1 rfl) ?_
  obtain ⟨o190, ho193, h⟩ := rq_i h
  refine r_getR hC hw kc_0 hi0 4 rfl lk_321 dX0_judgeChange_68 rfl ho193 (fun a191 hi192 => ?_)
  refine lv_iload_n hx hb dX0_judgeChange_71 rfl (lv_at hl 2 rfl) ?_
  obtain ⟨r195, hq194, h⟩ := pq_i h
  refine r_cV (st' := [.int r195]) [.int x2] [] hC hw kc_4 hi192 (k_X5_isNone _ hi192 hq194) mk_X5_isNone lk_579 ⟨Nat.le_trans (by decide) hR.1, Nat.le_trans (by decide) hR.2⟩ ⟨Nat.zero_le _, Nat.zero_le _⟩ rfl hl.1 rfl rfl (Nat.le_of_ble_eq_true rfl) dX0_judgeChange_72 (fun hP H locs hw => ?_)
  refine lv_if_ne (tgt := 105) hx hb dX0_judgeChange_75 (by decide) (fun c196 => ?_) (fun c196 => ?_)
  · have h := i_no c196 h
    refine lv_iconst (v := 2) hx hb dX0_judgeChange_105 (by decide) ?_
    cases h
    exact r_iret hC hw dX0_judgeChange_106
  · have h := i_yes c196 h
    refine lv_aload_n hx hb dX0_judgeChange_78 rfl (lv_at hl 1 rfl) ?_
    obtain ⟨o197, ho200, h⟩ := rq_i h
    refine r_getR hC hw kc_0 hi0 4 rfl lk_321 dX0_judgeChange_79 rfl ho200 (fun a198 hi199 => ?_)
    refine lv_iload_n hx hb dX0_judgeChange_82 rfl (lv_at hl 3 rfl) ?_
    obtain ⟨r202, hq201, h⟩ := pq_i h
    refine r_cV (st' := [.int r202]) [.int x3] [] hC hw kc_4 hi199 (k_X5_isNone _ hi199 hq201) mk_X5_isNone lk_579 ⟨Nat.le_trans (by decide) hR.1, Nat.le_trans (by decide) hR.2⟩ ⟨Nat.zero_le _, Nat.zero_le _⟩ rfl hl.1 rfl rfl (Nat.le_of_ble_eq_true rfl) dX0_judgeChange_83 (fun hP H locs hw => ?_)
    refine lv_if_ne (tgt := 105) hx hb dX0_judgeChange_86 (by decide) (fun c203 => ?_) (fun c203 => ?_)
    · have h := i_no c203 h
      refine lv_iconst (v := 2) hx hb dX0_judgeChange_105 (by decide) ?_
      cases h
      exact r_iret hC hw dX0_judgeChange_106
    · have h := i_yes c203 h
      refine lv_iload hx hb dX0_judgeChange_89 (lv_at hl 0 rfl) ?_
      refine lv_if_eq (tgt := 107) hx hb dX0_judgeChange_91 (by decide) (fun c204 => ?_) (fun c204 => ?_)
      · have h := i_yes c204 h
        exact w_X0_judgeChange_107 hC hR o0 a0 x2 x3 x4 x5 x6 xs0 _ _ _ _ hi0 hw (lv_sub hl [1, 2, 3, 4, 5, 6, 0] rfl) h
      · have h := i_no c204 h
        refine lv_aload_n hx hb dX0_judgeChange_94 rfl (lv_at hl 1 rfl) ?_
        obtain ⟨o205, ho208, h⟩ := rq_i h
        refine r_getR hC hw kc_0 hi0 4 rfl lk_321 dX0_judgeChange_95 rfl ho208 (fun a206 hi207 => ?_)
        refine lv_iconst (v := 0) hx hb dX0_judgeChange_98 (by decide) ?_
        obtain ⟨r210, hq209, h⟩ := pq_i h
        refine r_cV (st' := [.int r210]) [.int (0 : Int32)] [] hC hw kc_4 hi207 (k_X5_isNone _ hi207 hq209) mk_X5_isNone lk_579 ⟨Nat.le_trans (by decide) hR.1, Nat.le_trans (by decide) hR.2⟩ ⟨Nat.zero_le _, Nat.zero_le _⟩ rfl hl.1 rfl rfl (Nat.le_of_ble_eq_true rfl) dX0_judgeChange_99 (fun hP H locs hw => ?_)
        refine lv_if_eq (tgt := 107) hx hb dX0_judgeChange_102 (by decide) (fun c211 => ?_) (fun c211 => ?_)
        · have h := i_yes c211 h
          exact w_X0_judgeChange_107 hC hR o0 a0 x2 x3 x4 x5 x6 xs0 _ _ _ _ hi0 hw (lv_sub hl [1, 2, 3, 4, 5, 6, 0] rfl) h
        · have h := i_no c211 h
          refine lv_iconst (v := 2) hx hb dX0_judgeChange_105 (by decide) ?_
          cases h
          exact r_iret hC hw dX0_judgeChange_106
set_option maxHeartbeats 4000000 in
set_option maxRecDepth 100000 in
theorem w_X0_judgeChange_0 {r : Int32} {D' : dt} (hC : Cx RX0 cX0_judgeChange 9 (some .int) p s m args meth c) (hR : 2 ≤ R.frames ∧ 50 ≤ R.locals) : ∀ (o0 a0 : Nat) (x1 : Int32) (D : dt) (H : Heap) (locs : List Loc) (ls : Array Slot), Is S ad o0 a0 0 → Wd G cA S D ad A s H locs → lv_has ls 9 [(0, .ref a0), (1, .int x1)] → f_X0_judgeChange S o0 x1 D = some (r, D') → W p l e R s m args below meth c H locs 0 0 (MQ below (Qn (some (.int r)) True (wpost G cA S D' ad A) A) args s 0 0 A) (F0 m 0 ls []) := by
  obtain ⟨hx, hb, -⟩ := id hC
  intro o0 a0 x1 D H locs ls hi0 hw hl h
  unfold f_X0_judgeChange at h
  refine lv_aload_n hx hb dX0_judgeChange_0 rfl (lv_at hl 0 rfl) ?_
  obtain ⟨o212, ho215, h⟩ := rq_i h
  refine r_getR hC hw kc_0 hi0 0 rfl lk_317 dX0_judgeChange_1 rfl ho215 (fun a213 hi214 => ?_)
  obtain ⟨o216, ho219, h⟩ := rq_i h
  refine r_getR hC hw kc_3 hi214 1 rfl lk_146 dX0_judgeChange_4 rfl ho219 (fun a217 hi218 => ?_)
  refine lv_iload_n hx hb dX0_judgeChange_7 rfl (lv_at hl 1 rfl) ?_
  obtain ⟨hn220, h⟩ := ix_i h
  refine r_iald hC hw hi218 hn220 dX0_judgeChange_8 ?_
  refine lv_topi (fun y221 ey221 => ?_)
  have h := nm_i h y221 ey221
  refine lv_istore_n (lv' := [(2, .int y221), (0, .ref a0), (1, .int x1)]) hx hb dX0_judgeChange_9 rfl hl (by decide) rfl (fun ls hl => ?_)
  refine lv_aload_n hx hb dX0_judgeChange_10 rfl (lv_at hl 1 rfl) ?_
  obtain ⟨o222, ho225, h⟩ := rq_i h
  refine r_getR hC hw kc_0 hi0 0 rfl lk_317 dX0_judgeChange_11 rfl ho225 (fun a223 hi224 => ?_)
  obtain ⟨o226, ho229, h⟩ := rq_i h
  refine r_getR hC hw kc_3 hi224 2 rfl lk_149 dX0_judgeChange_14 rfl ho229 (fun a227 hi228 => ?_)
  refine lv_iload_n hx hb dX0_judgeChange_17 rfl (lv_at hl 2 rfl) ?_
  obtain ⟨hn230, h⟩ := ix_i h
  refine r_iald hC hw hi228 hn230 dX0_judgeChange_18 ?_
  refine lv_topi (fun y231 ey231 => ?_)
  have h := nm_i h y231 ey231
  refine lv_istore_n (lv' := [(3, .int y231), (2, .int y221), (0, .ref a0), (1, .int x1)]) hx hb dX0_judgeChange_19 rfl hl (by decide) rfl (fun ls hl => ?_)
  refine lv_aload_n hx hb dX0_judgeChange_20 rfl (lv_at hl 2 rfl) ?_
  obtain ⟨o232, ho235, h⟩ := rq_i h
  refine r_getR hC hw kc_0 hi0 0 rfl lk_317 dX0_judgeChange_21 rfl ho235 (fun a233 hi234 => ?_)
  refine lv_iload_n hx hb dX0_judgeChange_24 rfl (lv_at hl 3 rfl) ?_
  obtain ⟨r237, hq236, h⟩ := pq_i h
  refine r_cV (st' := [.int r237]) [.int x1] [] hC hw kc_3 hi234 (k_X4_width _ hi234 hq236) mk_X4_width lk_578 ⟨Nat.le_trans (by decide) hR.1, Nat.le_trans (by decide) hR.2⟩ ⟨Nat.zero_le _, Nat.zero_le _⟩ rfl hl.1 rfl rfl (Nat.le_of_ble_eq_true rfl) dX0_judgeChange_25 (fun hP H locs hw => ?_)
  refine lv_istore (lv' := [(4, .int r237), (3, .int y231), (2, .int y221), (0, .ref a0), (1, .int x1)]) hx hb dX0_judgeChange_28 hl (by decide) rfl (fun ls hl => ?_)
  refine lv_aload_n hx hb dX0_judgeChange_30 rfl (lv_at hl 3 rfl) ?_
  obtain ⟨o238, ho241, h⟩ := rq_i h
  refine r_getR hC hw kc_0 hi0 0 rfl lk_317 dX0_judgeChange_31 rfl ho241 (fun a239 hi240 => ?_)
  obtain ⟨o242, ho245, h⟩ := rq_i h
  refine r_getR hC hw kc_3 hi240 3 rfl lk_152 dX0_judgeChange_34 rfl ho245 (fun a243 hi244 => ?_)
  refine lv_iload_n hx hb dX0_judgeChange_37 rfl (lv_at hl 4 rfl) ?_
  obtain ⟨hn246, h⟩ := ix_i h
  refine r_iald hC hw hi244 hn246 dX0_judgeChange_38 ?_
  refine lv_topi (fun y247 ey247 => ?_)
  have h := nm_i h y247 ey247
  refine lv_istore (lv' := [(5, .int y247), (4, .int r237), (3, .int y231), (2, .int y221), (0, .ref a0), (1, .int x1)]) hx hb dX0_judgeChange_39 hl (by decide) rfl (fun ls hl => ?_)
  refine lv_aload_n hx hb dX0_judgeChange_41 rfl (lv_at hl 4 rfl) ?_
  obtain ⟨o248, ho251, h⟩ := rq_i h
  refine r_getR hC hw kc_0 hi0 0 rfl lk_317 dX0_judgeChange_42 rfl ho251 (fun a249 hi250 => ?_)
  obtain ⟨o252, ho255, h⟩ := rq_i h
  refine r_getR hC hw kc_3 hi250 4 rfl lk_155 dX0_judgeChange_45 rfl ho255 (fun a253 hi254 => ?_)
  refine lv_iload_n hx hb dX0_judgeChange_48 rfl (lv_at hl 5 rfl) ?_
  obtain ⟨hn256, h⟩ := ix_i h
  refine r_iald hC hw hi254 hn256 dX0_judgeChange_49 ?_
  refine lv_topi (fun y257 ey257 => ?_)
  have h := nm_i h y257 ey257
  refine lv_istore (lv' := [(6, .int y257), (5, .int y247), (4, .int r237), (3, .int y231), (2, .int y221), (0, .ref a0), (1, .int x1)]) hx hb dX0_judgeChange_50 hl (by decide) rfl (fun ls hl => ?_)
  refine lv_iload hx hb dX0_judgeChange_52 (lv_at hl 0 rfl) ?_
  refine lv_sipush (v := 241) hx hb dX0_judgeChange_54 (by decide) ?_
  refine lv_icmp_ne (tgt := 64) hx hb dX0_judgeChange_57 (by decide) (fun c258 => ?_) (fun c258 => ?_)
  · have h := i_no c258 h
    refine lv_iconst (v := 0) hx hb dX0_judgeChange_64 (by decide) ?_
    exact w_X0_judgeChange_65 hC hR o0 a0 y221 y231 r237 y247 y257 (0 : Int32) _ _ _ _ hi0 hw (lv_sub hl [5, 4, 3, 2, 1, 0] rfl) h
  · have h := i_yes c258 h
    refine lv_iconst (v := 1) hx hb dX0_judgeChange_60 (by decide) ?_
    refine lv_goto (tgt := 65) hx hb dX0_judgeChange_61 (by decide) ?_
    exact w_X0_judgeChange_65 hC hR o0 a0 y221 y231 r237 y247 y257 (1 : Int32) _ _ _ _ hi0 hw (lv_sub hl [5, 4, 3, 2, 1, 0] rfl) h
set_option maxHeartbeats 4000000 in
set_option maxRecDepth 100000 in
theorem k_X0_judgeChange {l : Launch} {G : va_G} {cA : Nat → ClassId} {S : sh} {D D' : dt} {ad : Nat → Nat} (sz : Nat) {o0 a0 : Nat} {x1 : Int32} {r : Int32} (hi0 : Is S ad o0 a0 0) (h : f_X0_judgeChange S o0 x1 D = some (r, D')) : Co l yX0_judgeChange (Cond.code yX0_judgeChange cX0_judgeChange 9 (some .int) :: tb0) 2 50 [.ref a0, .int x1] G cA S D ad sz (some (.int r)) True D' := by
  refine Met.ofW (cc := cX0_judgeChange) (maxL := 9) (ret := (some .int)) (by decide) rfl ?_
  intro p e s m args below meth c s₁ B hml hv
  obtain ⟨rfl, hsz, hP, hK, hD0, hT, hX⟩ := hv
  subst hsz
  have hts := atoms_spec (ws := Cond.code yX0_judgeChange cX0_judgeChange 9 (some .int) :: tb0) B.pre
  have hC : Cx RX0 cX0_judgeChange 9 (some .int) p s m _ meth c := ⟨B.exec, B.bytes, hml, findClass_of_methodNamed B.named, fun w q => hts w (List.mem_cons_of_mem _ q), B.returns, B.notSynchronized⟩
  have hw := Wd.entry hP hK hD0 hT hX
  have hl := lv_entry ([.ref a0, .int x1]) (n := 9) (Nat.le_of_ble_eq_true rfl)
  rw [lg_entry_eq]
  exact w_X0_judgeChange_0 hC ⟨Nat.le_refl _, Nat.le_refl _⟩ o0 a0 x1 D _ _ _ hi0 hw hl h
end
