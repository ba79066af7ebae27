theorem dX2_init_0 : decode cX2_init 0 = .ok (.aload_n 0, 1) := by decide +kernel
theorem dX2_init_1 : decode cX2_init 1 = .ok (.invokespecial 3, 3) := by decide +kernel
theorem dX2_init_4 : decode cX2_init 4 = .ok (.aload_n 0, 1) := by decide +kernel
theorem dX2_init_5 : decode cX2_init 5 = .ok (.sipush 256, 3) := by decide +kernel
theorem dX2_init_8 : decode cX2_init 8 = .ok (.newarray .byte, 2) := by decide +kernel
theorem dX2_init_10 : decode cX2_init 10 = .ok (.putfield 9, 3) := by decide +kernel
theorem dX2_init_13 : decode cX2_init 13 = .ok (.aload_n 0, 1) := by decide +kernel
theorem dX2_init_14 : decode cX2_init 14 = .ok (.sipush 512, 3) := by decide +kernel
theorem dX2_init_17 : decode cX2_init 17 = .ok (.newarray .byte, 2) := by decide +kernel
theorem dX2_init_19 : decode cX2_init 19 = .ok (.putfield 15, 3) := by decide +kernel
theorem dX2_init_22 : decode cX2_init 22 = .ok (.aload_n 0, 1) := by decide +kernel
theorem dX2_init_23 : decode cX2_init 23 = .ok (.iconst 4, 1) := by decide +kernel
theorem dX2_init_24 : decode cX2_init 24 = .ok (.anewarray 18, 3) := by decide +kernel
theorem dX2_init_27 : decode cX2_init 27 = .ok (.putfield 20, 3) := by decide +kernel
theorem dX2_init_30 : decode cX2_init 30 = .ok (.aload_n 0, 1) := by decide +kernel
theorem dX2_init_31 : decode cX2_init 31 = .ok (.aload_n 0, 1) := by decide +kernel
theorem dX2_init_32 : decode cX2_init 32 = .ok (.getfield 15, 3) := by decide +kernel
theorem dX2_init_35 : decode cX2_init 35 = .ok (.putfield 24, 3) := by decide +kernel
theorem dX2_init_38 : decode cX2_init 38 = .ok (.return_, 1) := by decide +kernel
theorem dX2_addTable_0 : decode cX2_addTable 0 = .ok (.aload_n 0, 1) := by decide +kernel
theorem dX2_addTable_1 : decode cX2_addTable 1 = .ok (.getfield 27, 3) := by decide +kernel
theorem dX2_addTable_4 : decode cX2_addTable 4 = .ok (.istore_n 2, 1) := by decide +kernel
theorem dX2_addTable_5 : decode cX2_addTable 5 = .ok (.aload_n 0, 1) := by decide +kernel
theorem dX2_addTable_6 : decode cX2_addTable 6 = .ok (.getfield 20, 3) := by decide +kernel
theorem dX2_addTable_9 : decode cX2_addTable 9 = .ok (.iload_n 2, 1) := by decide +kernel
theorem dX2_addTable_10 : decode cX2_addTable 10 = .ok (.aload_n 1, 1) := by decide +kernel
theorem dX2_addTable_11 : decode cX2_addTable 11 = .ok (.aastore, 1) := by decide +kernel
theorem dX2_addTable_12 : decode cX2_addTable 12 = .ok (.aload_n 0, 1) := by decide +kernel
theorem dX2_addTable_13 : decode cX2_addTable 13 = .ok (.iload_n 2, 1) := by decide +kernel
theorem dX2_addTable_14 : decode cX2_addTable 14 = .ok (.iconst 1, 1) := by decide +kernel
theorem dX2_addTable_15 : decode cX2_addTable 15 = .ok (.iadd, 1) := by decide +kernel
theorem dX2_addTable_16 : decode cX2_addTable 16 = .ok (.putfield 27, 3) := by decide +kernel
theorem dX2_addTable_19 : decode cX2_addTable 19 = .ok (.iload_n 2, 1) := by decide +kernel
theorem dX2_addTable_20 : decode cX2_addTable 20 = .ok (.ireturn, 1) := by decide +kernel
theorem dX2_resizeContext_0 : decode cX2_resizeContext 0 = .ok (.aload_n 0, 1) := by decide +kernel
theorem dX2_resizeContext_1 : decode cX2_resizeContext 1 = .ok (.getfield 33, 3) := by decide +kernel
theorem dX2_resizeContext_4 : decode cX2_resizeContext 4 = .ok (.istore_n 2, 1) := by decide +kernel
theorem dX2_resizeContext_5 : decode cX2_resizeContext 5 = .ok (.iload_n 2, 1) := by decide +kernel
theorem dX2_resizeContext_6 : decode cX2_resizeContext 6 = .ok (.istore_n 3, 1) := by decide +kernel
theorem dX2_resizeContext_7 : decode cX2_resizeContext 7 = .ok (.iload_n 3, 1) := by decide +kernel
theorem dX2_resizeContext_8 : decode cX2_resizeContext 8 = .ok (.iload_n 1, 1) := by decide +kernel
theorem dX2_resizeContext_9 : decode cX2_resizeContext 9 = .ok (.if_icmp .ge 16, 3) := by decide +kernel
theorem dX2_resizeContext_12 : decode cX2_resizeContext 12 = .ok (.aload_n 0, 1) := by decide +kernel
theorem dX2_resizeContext_13 : decode cX2_resizeContext 13 = .ok (.getfield 9, 3) := by decide +kernel
theorem dX2_resizeContext_16 : decode cX2_resizeContext 16 = .ok (.iload_n 3, 1) := by decide +kernel
theorem dX2_resizeContext_17 : decode cX2_resizeContext 17 = .ok (.iconst 0, 1) := by decide +kernel
theorem dX2_resizeContext_18 : decode cX2_resizeContext 18 = .ok (.bastore, 1) := by decide +kernel
theorem dX2_resizeContext_19 : decode cX2_resizeContext 19 = .ok (.iinc 3 1, 3) := by decide +kernel
theorem dX2_resizeContext_22 : decode cX2_resizeContext 22 = .ok (.goto (-15), 3) := by decide +kernel
theorem dX2_resizeContext_25 : decode cX2_resizeContext 25 = .ok (.aload_n 0, 1) := by decide +kernel
theorem dX2_resizeContext_26 : decode cX2_resizeContext 26 = .ok (.iload_n 1, 1) := by decide +kernel
theorem dX2_resizeContext_27 : decode cX2_resizeContext 27 = .ok (.putfield 33, 3) := by decide +kernel
theorem dX2_resizeContext_30 : decode cX2_resizeContext 30 = .ok (.iload_n 2, 1) := by decide +kernel
theorem dX2_resizeContext_31 : decode cX2_resizeContext 31 = .ok (.ireturn, 1) := by decide +kernel
theorem dX2_tableNumbered_0 : decode cX2_tableNumbered 0 = .ok (.iload_n 1, 1) := by decide +kernel
theorem dX2_tableNumbered_1 : decode cX2_tableNumbered 1 = .ok (.ifCond .lt 11, 3) := by decide +kernel
theorem dX2_tableNumbered_4 : decode cX2_tableNumbered 4 = .ok (.iload_n 1, 1) := by decide +kernel
theorem dX2_tableNumbered_5 : decode cX2_tableNumbered 5 = .ok (.aload_n 0, 1) := by decide +kernel
theorem dX2_tableNumbered_6 : decode cX2_tableNumbered 6 = .ok (.getfield 27, 3) := by decide +kernel
theorem dX2_tableNumbered_9 : decode cX2_tableNumbered 9 = .ok (.if_icmp .lt 7, 3) := by decide +kernel
theorem dX2_tableNumbered_12 : decode cX2_tableNumbered 12 = .ok (.aconst_null, 1) := by decide +kernel
theorem dX2_tableNumbered_13 : decode cX2_tableNumbered 13 = .ok (.goto 9, 3) := by decide +kernel
theorem dX2_tableNumbered_16 : decode cX2_tableNumbered 16 = .ok (.aload_n 0, 1) := by decide +kernel
theorem dX2_tableNumbered_17 : decode cX2_tableNumbered 17 = .ok (.getfield 20, 3) := by decide +kernel
theorem dX2_tableNumbered_20 : decode cX2_tableNumbered 20 = .ok (.iload_n 1, 1) := by decide +kernel
theorem dX2_tableNumbered_21 : decode cX2_tableNumbered 21 = .ok (.aaload, 1) := by decide +kernel
theorem dX2_tableNumbered_22 : decode cX2_tableNumbered 22 = .ok (.areturn, 1) := by decide +kernel
theorem dX2_findValue_0 : decode cX2_findValue 0 = .ok (.lload_n 1, 1) := by decide +kernel
theorem dX2_findValue_1 : decode cX2_findValue 1 = .ok (.bipush 24, 2) := by decide +kernel
theorem dX2_findValue_3 : decode cX2_findValue 3 = .ok (.lshr, 1) := by decide +kernel
theorem dX2_findValue_4 : decode cX2_findValue 4 = .ok (.lstore 4, 2) := by decide +kernel
theorem dX2_findValue_6 : decode cX2_findValue 6 = .ok (.lload 4, 2) := by decide +kernel
theorem dX2_findValue_8 : decode cX2_findValue 8 = .ok (.aload_n 0, 1) := by decide +kernel
theorem dX2_findValue_9 : decode cX2_findValue 9 = .ok (.getfield 27, 3) := by decide +kernel
theorem dX2_findValue_12 : decode cX2_findValue 12 = .ok (.i2l, 1) := by decide +kernel
theorem dX2_findValue_13 : decode cX2_findValue 13 = .ok (.lcmp, 1) := by decide +kernel
theorem dX2_findValue_14 : decode cX2_findValue 14 = .ok (.ifCond .ge 13, 3) := by decide +kernel
theorem dX2_findValue_17 : decode cX2_findValue 17 = .ok (.aload_n 0, 1) := by decide +kernel
theorem dX2_findValue_18 : decode cX2_findValue 18 = .ok (.lload 4, 2) := by decide +kernel
theorem dX2_findValue_20 : decode cX2_findValue 20 = .ok (.l2i, 1) := by decide +kernel
theorem dX2_findValue_21 : decode cX2_findValue 21 = .ok (.invokevirtual 53, 3) := by decide +kernel
theorem dX2_findValue_24 : decode cX2_findValue 24 = .ok (.goto 4, 3) := by decide +kernel
theorem dX2_findValue_27 : decode cX2_findValue 27 = .ok (.aconst_null, 1) := by decide +kernel
theorem dX2_findValue_28 : decode cX2_findValue 28 = .ok (.astore 6, 2) := by decide +kernel
theorem dX2_findValue_30 : decode cX2_findValue 30 = .ok (.lload_n 1, 1) := by decide +kernel
theorem dX2_findValue_31 : decode cX2_findValue 31 = .ok (.bipush 12, 2) := by decide +kernel
theorem dX2_findValue_33 : decode cX2_findValue 33 = .ok (.lshr, 1) := by decide +kernel
theorem dX2_findValue_34 : decode cX2_findValue 34 = .ok (.l2i, 1) := by decide +kernel
theorem dX2_findValue_35 : decode cX2_findValue 35 = .ok (.sipush 4095, 3) := by decide +kernel
theorem dX2_findValue_38 : decode cX2_findValue 38 = .ok (.iand, 1) := by decide +kernel
theorem dX2_findValue_39 : decode cX2_findValue 39 = .ok (.istore 7, 2) := by decide +kernel
theorem dX2_findValue_41 : decode cX2_findValue 41 = .ok (.lload_n 1, 1) := by decide +kernel
theorem dX2_findValue_42 : decode cX2_findValue 42 = .ok (.l2i, 1) := by decide +kernel
theorem dX2_findValue_43 : decode cX2_findValue 43 = .ok (.sipush 4095, 3) := by decide +kernel
theorem dX2_findValue_46 : decode cX2_findValue 46 = .ok (.iand, 1) := by decide +kernel
theorem dX2_findValue_47 : decode cX2_findValue 47 = .ok (.istore 8, 2) := by decide +kernel
theorem dX2_findValue_49 : decode cX2_findValue 49 = .ok (.aload 6, 2) := by decide +kernel
theorem dX2_findValue_51 : decode cX2_findValue 51 = .ok (.ifnull 25, 3) := by decide +kernel
theorem dX2_findValue_54 : decode cX2_findValue 54 = .ok (.iload 7, 2) := by decide +kernel
theorem dX2_findValue_56 : decode cX2_findValue 56 = .ok (.aload 6, 2) := by decide +kernel
theorem dX2_findValue_58 : decode cX2_findValue 58 = .ok (.getfield 57, 3) := by decide +kernel
theorem dX2_findValue_61 : decode cX2_findValue 61 = .ok (.if_icmp .ge 15, 3) := by decide +kernel
theorem dX2_findValue_64 : decode cX2_findValue 64 = .ok (.iload 8, 2) := by decide +kernel
theorem dX2_findValue_66 : decode cX2_findValue 66 = .ok (.aload 6, 2) := by decide +kernel
theorem dX2_findValue_68 : decode cX2_findValue 68 = .ok (.getfield 60, 3) := by decide +kernel
theorem dX2_findValue_71 : decode cX2_findValue 71 = .ok (.iload_n 3, 1) := by decide +kernel
theorem dX2_findValue_72 : decode cX2_findValue 72 = .ok (.isub, 1) := by decide +kernel
theorem dX2_findValue_73 : decode cX2_findValue 73 = .ok (.if_icmp .le 5, 3) := by decide +kernel
theorem dX2_findValue_76 : decode cX2_findValue 76 = .ok (.iconst 0, 1) := by decide +kernel
theorem dX2_findValue_77 : decode cX2_findValue 77 = .ok (.ireturn, 1) := by decide +kernel
theorem dX2_findValue_78 : decode cX2_findValue 78 = .ok (.aload_n 0, 1) := by decide +kernel
theorem dX2_findValue_79 : decode cX2_findValue 79 = .ok (.aload 6, 2) := by decide +kernel
theorem dX2_findValue_81 : decode cX2_findValue 81 = .ok (.getfield 63, 3) := by decide +kernel
theorem dX2_findValue_84 : decode cX2_findValue 84 = .ok (.putfield 24, 3) := by decide +kernel
theorem dX2_findValue_87 : decode cX2_findValue 87 = .ok (.aload_n 0, 1) := by decide +kernel
theorem dX2_findValue_88 : decode cX2_findValue 88 = .ok (.iload 7, 2) := by decide +kernel
theorem dX2_findValue_90 : decode cX2_findValue 90 = .ok (.aload 6, 2) := by decide +kernel
theorem dX2_findValue_92 : decode cX2_findValue 92 = .ok (.getfield 60, 3) := by decide +kernel
theorem dX2_findValue_95 : decode cX2_findValue 95 = .ok (.imul, 1) := by decide +kernel
theorem dX2_findValue_96 : decode cX2_findValue 96 = .ok (.iload 8, 2) := by decide +kernel
theorem dX2_findValue_98 : decode cX2_findValue 98 = .ok (.iadd, 1) := by decide +kernel
theorem dX2_findValue_99 : decode cX2_findValue 99 = .ok (.putfield 50, 3) := by decide +kernel
theorem dX2_findValue_102 : decode cX2_findValue 102 = .ok (.iconst 1, 1) := by decide +kernel
theorem dX2_findValue_103 : decode cX2_findValue 103 = .ok (.ireturn, 1) := by decide +kernel
theorem dX2_findIn_0 : decode cX2_findIn 0 = .ok (.lload_n 2, 1) := by decide +kernel
theorem dX2_findIn_1 : decode cX2_findIn 1 = .ok (.lconst 0, 1) := by decide +kernel
theorem dX2_findIn_2 : decode cX2_findIn 2 = .ok (.lcmp, 1) := by decide +kernel
theorem dX2_findIn_3 : decode cX2_findIn 3 = .ok (.ifCond .lt 14, 3) := by decide +kernel
theorem dX2_findIn_6 : decode cX2_findIn 6 = .ok (.lload_n 2, 1) := by decide +kernel
theorem dX2_findIn_7 : decode cX2_findIn 7 = .ok (.iload 4, 2) := by decide +kernel
theorem dX2_findIn_9 : decode cX2_findIn 9 = .ok (.iload 5, 2) := by decide +kernel
theorem dX2_findIn_11 : decode cX2_findIn 11 = .ok (.isub, 1) := by decide +kernel
theorem dX2_findIn_12 : decode cX2_findIn 12 = .ok (.i2l, 1) := by decide +kernel
theorem dX2_findIn_13 : decode cX2_findIn 13 = .ok (.lcmp, 1) := by decide +kernel
theorem dX2_findIn_14 : decode cX2_findIn 14 = .ok (.ifCond .le 5, 3) := by decide +kernel
theorem dX2_findIn_17 : decode cX2_findIn 17 = .ok (.iconst 0, 1) := by decide +kernel
theorem dX2_findIn_18 : decode cX2_findIn 18 = .ok (.ireturn, 1) := by decide +kernel
theorem dX2_findIn_19 : decode cX2_findIn 19 = .ok (.aload_n 0, 1) := by decide +kernel
theorem dX2_findIn_20 : decode cX2_findIn 20 = .ok (.aload_n 1, 1) := by decide +kernel
theorem dX2_findIn_21 : decode cX2_findIn 21 = .ok (.putfield 24, 3) := by decide +kernel
theorem dX2_findIn_24 : decode cX2_findIn 24 = .ok (.aload_n 0, 1) := by decide +kernel
theorem dX2_findIn_25 : decode cX2_findIn 25 = .ok (.lload_n 2, 1) := by decide +kernel
theorem dX2_findIn_26 : decode cX2_findIn 26 = .ok (.l2i, 1) := by decide +kernel
theorem dX2_findIn_27 : decode cX2_findIn 27 = .ok (.putfield 50, 3) := by decide +kernel
theorem dX2_findIn_30 : decode cX2_findIn 30 = .ok (.iconst 1, 1) := by decide +kernel
theorem dX2_findIn_31 : decode cX2_findIn 31 = .ok (.ireturn, 1) := by decide +kernel
theorem dX2_find_0 : decode cX2_find 0 = .ok (.lload_n 1, 1) := by decide +kernel
theorem dX2_find_1 : decode cX2_find 1 = .ok (.ldc2_w 36, 3) := by decide +kernel
theorem dX2_find_4 : decode cX2_find 4 = .ok (.lcmp, 1) := by decide +kernel
theorem dX2_find_5 : decode cX2_find 5 = .ok (.ifCond .lt 14, 3) := by decide +kernel
theorem dX2_find_8 : decode cX2_find 8 = .ok (.aload_n 0, 1) := by decide +kernel
theorem dX2_find_9 : decode cX2_find 9 = .ok (.lload_n 1, 1) := by decide +kernel
theorem dX2_find_10 : decode cX2_find 10 = .ok (.ldc2_w 36, 3) := by decide +kernel
theorem dX2_find_13 : decode cX2_find 13 = .ok (.lsub, 1) := by decide +kernel
theorem dX2_find_14 : decode cX2_find 14 = .ok (.iload_n 3, 1) := by decide +kernel
theorem dX2_find_15 : decode cX2_find 15 = .ok (.invokevirtual 38, 3) := by decide +kernel
theorem dX2_find_18 : decode cX2_find 18 = .ok (.ireturn, 1) := by decide +kernel
theorem dX2_find_19 : decode cX2_find 19 = .ok (.lload_n 1, 1) := by decide +kernel
theorem dX2_find_20 : decode cX2_find 20 = .ok (.ldc2_w 42, 3) := by decide +kernel
theorem dX2_find_23 : decode cX2_find 23 = .ok (.lsub, 1) := by decide +kernel
theorem dX2_find_24 : decode cX2_find 24 = .ok (.lstore 5, 2) := by decide +kernel
theorem dX2_find_26 : decode cX2_find 26 = .ok (.lload 5, 2) := by decide +kernel
theorem dX2_find_28 : decode cX2_find 28 = .ok (.lconst 0, 1) := by decide +kernel
theorem dX2_find_29 : decode cX2_find 29 = .ok (.lcmp, 1) := by decide +kernel
theorem dX2_find_30 : decode cX2_find 30 = .ok (.ifCond .lt 18, 3) := by decide +kernel
theorem dX2_find_33 : decode cX2_find 33 = .ok (.aload_n 0, 1) := by decide +kernel
theorem dX2_find_34 : decode cX2_find 34 = .ok (.aload_n 0, 1) := by decide +kernel
theorem dX2_find_35 : decode cX2_find 35 = .ok (.getfield 15, 3) := by decide +kernel
theorem dX2_find_38 : decode cX2_find 38 = .ok (.lload 5, 2) := by decide +kernel
theorem dX2_find_40 : decode cX2_find 40 = .ok (.sipush 512, 3) := by decide +kernel
theorem dX2_find_43 : decode cX2_find 43 = .ok (.iload_n 3, 1) := by decide +kernel
theorem dX2_find_44 : decode cX2_find 44 = .ok (.invokevirtual 44, 3) := by decide +kernel
theorem dX2_find_47 : decode cX2_find 47 = .ok (.ireturn, 1) := by decide +kernel
theorem dX2_find_48 : decode cX2_find 48 = .ok (.iload 4, 2) := by decide +kernel
theorem dX2_find_50 : decode cX2_find 50 = .ok (.ifCond .ne 28, 3) := by decide +kernel
theorem dX2_find_53 : decode cX2_find 53 = .ok (.aload_n 0, 1) := by decide +kernel
theorem dX2_find_54 : decode cX2_find 54 = .ok (.aload_n 0, 1) := by decide +kernel
theorem dX2_find_55 : decode cX2_find 55 = .ok (.getfield 9, 3) := by decide +kernel
theorem dX2_find_58 : decode cX2_find 58 = .ok (.lload_n 1, 1) := by decide +kernel
theorem dX2_find_59 : decode cX2_find 59 = .ok (.ldc2_w 48, 3) := by decide +kernel
theorem dX2_find_62 : decode cX2_find 62 = .ok (.lsub, 1) := by decide +kernel
theorem dX2_find_63 : decode cX2_find 63 = .ok (.aload_n 0, 1) := by decide +kernel
theorem dX2_find_64 : decode cX2_find 64 = .ok (.getfield 33, 3) := by decide +kernel
theorem dX2_find_67 : decode cX2_find 67 = .ok (.iload_n 3, 1) := by decide +kernel
theorem dX2_find_68 : decode cX2_find 68 = .ok (.invokevirtual 44, 3) := by decide +kernel
theorem dX2_find_71 : decode cX2_find 71 = .ok (.ifCond .eq 7, 3) := by decide +kernel
theorem dX2_find_74 : decode cX2_find 74 = .ok (.iconst 1, 1) := by decide +kernel
theorem dX2_find_75 : decode cX2_find 75 = .ok (.goto 4, 3) := by decide +kernel
theorem dX2_find_78 : decode cX2_find 78 = .ok (.iconst 0, 1) := by decide +kernel
theorem dX2_find_79 : decode cX2_find 79 = .ok (.ireturn, 1) := by decide +kernel
theorem dX2_foundNumber_0 : decode cX2_foundNumber 0 = .ok (.lconst 0, 1) := by decide +kernel
theorem dX2_foundNumber_1 : decode cX2_foundNumber 1 = .ok (.lstore_n 2, 1) := by decide +kernel
theorem dX2_foundNumber_2 : decode cX2_foundNumber 2 = .ok (.iload_n 1, 1) := by decide +kernel
theorem dX2_foundNumber_3 : decode cX2_foundNumber 3 = .ok (.iconst 1, 1) := by decide +kernel
theorem dX2_foundNumber_4 : decode cX2_foundNumber 4 = .ok (.isub, 1) := by decide +kernel
theorem dX2_foundNumber_5 : decode cX2_foundNumber 5 = .ok (.istore 4, 2) := by decide +kernel
theorem dX2_foundNumber_7 : decode cX2_foundNumber 7 = .ok (.iload 4, 2) := by decide +kernel
theorem dX2_foundNumber_9 : decode cX2_foundNumber 9 = .ok (.ifCond .lt 32, 3) := by decide +kernel
theorem dX2_foundNumber_12 : decode cX2_foundNumber 12 = .ok (.lload_n 2, 1) := by decide +kernel
theorem dX2_foundNumber_13 : decode cX2_foundNumber 13 = .ok (.bipush 8, 2) := by decide +kernel
theorem dX2_foundNumber_15 : decode cX2_foundNumber 15 = .ok (.lshl, 1) := by decide +kernel
theorem dX2_foundNumber_16 : decode cX2_foundNumber 16 = .ok (.aload_n 0, 1) := by decide +kernel
theorem dX2_foundNumber_17 : decode cX2_foundNumber 17 = .ok (.getfield 24, 3) := by decide +kernel
theorem dX2_foundNumber_20 : decode cX2_foundNumber 20 = .ok (.aload_n 0, 1) := by decide +kernel
theorem dX2_foundNumber_21 : decode cX2_foundNumber 21 = .ok (.getfield 50, 3) := by decide +kernel
theorem dX2_foundNumber_24 : decode cX2_foundNumber 24 = .ok (.iload 4, 2) := by decide +kernel
theorem dX2_foundNumber_26 : decode cX2_foundNumber 26 = .ok (.iadd, 1) := by decide +kernel
theorem dX2_foundNumber_27 : decode cX2_foundNumber 27 = .ok (.baload, 1) := by decide +kernel
theorem dX2_foundNumber_28 : decode cX2_foundNumber 28 = .ok (.sipush 255, 3) := by decide +kernel
theorem dX2_foundNumber_31 : decode cX2_foundNumber 31 = .ok (.iand, 1) := by decide +kernel
theorem dX2_foundNumber_32 : decode cX2_foundNumber 32 = .ok (.i2l, 1) := by decide +kernel
theorem dX2_foundNumber_33 : decode cX2_foundNumber 33 = .ok (.lor, 1) := by decide +kernel
theorem dX2_foundNumber_34 : decode cX2_foundNumber 34 = .ok (.lstore_n 2, 1) := by decide +kernel
theorem dX2_foundNumber_35 : decode cX2_foundNumber 35 = .ok (.iinc 4 (-1), 3) := by decide +kernel
theorem dX2_foundNumber_38 : decode cX2_foundNumber 38 = .ok (.goto (-31), 3) := by decide +kernel
theorem dX2_foundNumber_41 : decode cX2_foundNumber 41 = .ok (.lload_n 2, 1) := by decide +kernel
theorem dX2_foundNumber_42 : decode cX2_foundNumber 42 = .ok (.lreturn, 1) := by decide +kernel
theorem dX2_writeFound_0 : decode cX2_writeFound 0 = .ok (.iconst 0, 1) := by decide +kernel
theorem dX2_writeFound_1 : decode cX2_writeFound 1 = .ok (.istore 4, 2) := by decide +kernel
theorem dX2_writeFound_3 : decode cX2_writeFound 3 = .ok (.iload 4, 2) := by decide +kernel
theorem dX2_writeFound_5 : decode cX2_writeFound 5 = .ok (.iload_n 3, 1) := by decide +kernel
theorem dX2_writeFound_6 : decode cX2_writeFound 6 = .ok (.if_icmp .ge 30, 3) := by decide +kernel
theorem dX2_writeFound_9 : decode cX2_writeFound 9 = .ok (.aload_n 0, 1) := by decide +kernel
theorem dX2_writeFound_10 : decode cX2_writeFound 10 = .ok (.getfield 24, 3) := by decide +kernel
theorem dX2_writeFound_13 : decode cX2_writeFound 13 = .ok (.aload_n 0, 1) := by decide +kernel
theorem dX2_writeFound_14 : decode cX2_writeFound 14 = .ok (.getfield 50, 3) := by decide +kernel
theorem dX2_writeFound_17 : decode cX2_writeFound 17 = .ok (.iload 4, 2) := by decide +kernel
theorem dX2_writeFound_19 : decode cX2_writeFound 19 = .ok (.iadd, 1) := by decide +kernel
theorem dX2_writeFound_20 : decode cX2_writeFound 20 = .ok (.lload_n 1, 1) := by decide +kernel
theorem dX2_writeFound_21 : decode cX2_writeFound 21 = .ok (.bipush 8, 2) := by decide +kernel
theorem dX2_writeFound_23 : decode cX2_writeFound 23 = .ok (.iload 4, 2) := by decide +kernel
theorem dX2_writeFound_25 : decode cX2_writeFound 25 = .ok (.imul, 1) := by decide +kernel
theorem dX2_writeFound_26 : decode cX2_writeFound 26 = .ok (.lshr, 1) := by decide +kernel
theorem dX2_writeFound_27 : decode cX2_writeFound 27 = .ok (.l2i, 1) := by decide +kernel
theorem dX2_writeFound_28 : decode cX2_writeFound 28 = .ok (.i2b, 1) := by decide +kernel
theorem dX2_writeFound_29 : decode cX2_writeFound 29 = .ok (.bastore, 1) := by decide +kernel
theorem dX2_writeFound_30 : decode cX2_writeFound 30 = .ok (.iinc 4 1, 3) := by decide +kernel
theorem dX2_writeFound_33 : decode cX2_writeFound 33 = .ok (.goto (-30), 3) := by decide +kernel
theorem dX2_writeFound_36 : decode cX2_writeFound 36 = .ok (.return_, 1) := by decide +kernel
theorem dX2_tableAt_0 : decode cX2_tableAt 0 = .ok (.lload_n 1, 1) := by decide +kernel
theorem dX2_tableAt_1 : decode cX2_tableAt 1 = .ok (.ldc2_w 31, 3) := by decide +kernel
theorem dX2_tableAt_4 : decode cX2_tableAt 4 = .ok (.lsub, 1) := by decide +kernel
theorem dX2_tableAt_5 : decode cX2_tableAt 5 = .ok (.lstore_n 3, 1) := by decide +kernel
theorem dX2_tableAt_6 : decode cX2_tableAt 6 = .ok (.lload_n 3, 1) := by decide +kernel
theorem dX2_tableAt_7 : decode cX2_tableAt 7 = .ok (.lconst 0, 1) := by decide +kernel
theorem dX2_tableAt_8 : decode cX2_tableAt 8 = .ok (.lcmp, 1) := by decide +kernel
theorem dX2_tableAt_9 : decode cX2_tableAt 9 = .ok (.ifCond .lt 13, 3) := by decide +kernel
theorem dX2_tableAt_12 : decode cX2_tableAt 12 = .ok (.lload_n 3, 1) := by decide +kernel
theorem dX2_tableAt_13 : decode cX2_tableAt 13 = .ok (.aload_n 0, 1) := by decide +kernel
theorem dX2_tableAt_14 : decode cX2_tableAt 14 = .ok (.getfield 27, 3) := by decide +kernel
theorem dX2_tableAt_17 : decode cX2_tableAt 17 = .ok (.i2l, 1) := by decide +kernel
theorem dX2_tableAt_18 : decode cX2_tableAt 18 = .ok (.lcmp, 1) := by decide +kernel
theorem dX2_tableAt_19 : decode cX2_tableAt 19 = .ok (.ifCond .lt 7, 3) := by decide +kernel
theorem dX2_tableAt_22 : decode cX2_tableAt 22 = .ok (.iconst (-1), 1) := by decide +kernel
theorem dX2_tableAt_23 : decode cX2_tableAt 23 = .ok (.goto 5, 3) := by decide +kernel
theorem dX2_tableAt_26 : decode cX2_tableAt 26 = .ok (.lload_n 3, 1) := by decide +kernel
theorem dX2_tableAt_27 : decode cX2_tableAt 27 = .ok (.l2i, 1) := by decide +kernel
theorem dX2_tableAt_28 : decode cX2_tableAt 28 = .ok (.ireturn, 1) := by decide +kernel
theorem dX2_copyFoundTo_0 : decode cX2_copyFoundTo 0 = .ok (.iconst 0, 1) := by decide +kernel
theorem dX2_copyFoundTo_1 : decode cX2_copyFoundTo 1 = .ok (.istore_n 3, 1) := by decide +kernel
theorem dX2_copyFoundTo_2 : decode cX2_copyFoundTo 2 = .ok (.iload_n 3, 1) := by decide +kernel
theorem dX2_copyFoundTo_3 : decode cX2_copyFoundTo 3 = .ok (.aload_n 1, 1) := by decide +kernel
theorem dX2_copyFoundTo_4 : decode cX2_copyFoundTo 4 = .ok (.getfield 60, 3) := by decide +kernel
theorem dX2_copyFoundTo_7 : decode cX2_copyFoundTo 7 = .ok (.if_icmp .ge 33, 3) := by decide +kernel
theorem dX2_copyFoundTo_10 : decode cX2_copyFoundTo 10 = .ok (.aload_n 1, 1) := by decide +kernel
theorem dX2_copyFoundTo_11 : decode cX2_copyFoundTo 11 = .ok (.getfield 63, 3) := by decide +kernel
theorem dX2_copyFoundTo_14 : decode cX2_copyFoundTo 14 = .ok (.iload_n 2, 1) := by decide +kernel
theorem dX2_copyFoundTo_15 : decode cX2_copyFoundTo 15 = .ok (.aload_n 1, 1) := by decide +kernel
theorem dX2_copyFoundTo_16 : decode cX2_copyFoundTo 16 = .ok (.getfield 60, 3) := by decide +kernel
theorem dX2_copyFoundTo_19 : decode cX2_copyFoundTo 19 = .ok (.imul, 1) := by decide +kernel
theorem dX2_copyFoundTo_20 : decode cX2_copyFoundTo 20 = .ok (.iload_n 3, 1) := by decide +kernel
theorem dX2_copyFoundTo_21 : decode cX2_copyFoundTo 21 = .ok (.iadd, 1) := by decide +kernel
theorem dX2_copyFoundTo_22 : decode cX2_copyFoundTo 22 = .ok (.aload_n 0, 1) := by decide +kernel
theorem dX2_copyFoundTo_23 : decode cX2_copyFoundTo 23 = .ok (.getfield 24, 3) := by decide +kernel
theorem dX2_copyFoundTo_26 : decode cX2_copyFoundTo 26 = .ok (.aload_n 0, 1) := by decide +kernel
theorem dX2_copyFoundTo_27 : decode cX2_copyFoundTo 27 = .ok (.getfield 50, 3) := by decide +kernel
theorem dX2_copyFoundTo_30 : decode cX2_copyFoundTo 30 = .ok (.iload_n 3, 1) := by decide +kernel
theorem dX2_copyFoundTo_31 : decode cX2_copyFoundTo 31 = .ok (.iadd, 1) := by decide +kernel
theorem dX2_copyFoundTo_32 : decode cX2_copyFoundTo 32 = .ok (.baload, 1) := by decide +kernel
theorem dX2_copyFoundTo_33 : decode cX2_copyFoundTo 33 = .ok (.bastore, 1) := by decide +kernel
theorem dX2_copyFoundTo_34 : decode cX2_copyFoundTo 34 = .ok (.iinc 3 1, 3) := by decide +kernel
theorem dX2_copyFoundTo_37 : decode cX2_copyFoundTo 37 = .ok (.goto (-35), 3) := by decide +kernel
theorem dX2_copyFoundTo_40 : decode cX2_copyFoundTo 40 = .ok (.return_, 1) := by decide +kernel
-- JudgedCode$Memory.<init>
def f_X2_init_27 (o0 : Nat) (os0 : Nat) (os1 : Nat) (S : sh) (D : dt) : Option (Unit × sh × dt) := nm (pR D os0 3 (some os1)) fun D24 => rq (gR D24 o0 2) fun o25 => nm (pR D24 o0 6 (some o25)) fun D29 => some ((), S, D29)
def f_X2_init_19 (o0 : Nat) (os0 : Nat) (os1 : Nat) (S : sh) (D : dt) : Option (Unit × sh × dt) := nm (pR D os0 2 (some os1)) fun D30 => f_X2_init_27 o0 o0 (sN S) (aS S 206 4 4) (aD S D30)
def f_X2_init_10 (o0 : Nat) (os0 : Nat) (os1 : Nat) (S : sh) (D : dt) : Option (Unit × sh × dt) := nm (pR D os0 0 (some os1)) fun D36 => f_X2_init_19 o0 o0 (sN S) (aS S 102 512 512) (aD S D36)
def f_X2_init (o0 : Nat) (S : sh) (D : dt) : Option (Unit × sh × dt) := f_X2_init_10 o0 o0 (sN S) (aS S 102 256 256) (aD S D)
-- JudgedCode$Memory.addTable
def f_X2_addTable (S : sh) (o0 : Nat) (o1 : Nat) (D : dt) : Option (Int32 × dt) := nm (gI D o0 4) fun y9 => rq (gR D o0 3) fun o10 => ix y9 (sA S o10) <| nm (pR D o10 y9.toNatClampNeg (some o1)) fun D15 => nm (pI D15 o0 4 (y9 + (1 : Int32))) fun D16 => some (y9, D16)
-- JudgedCode$Memory.resizeContext
def f_X2_resizeContext_7 (S : sh) : Nat → Nat → Int32 → Int32 → Int32 → dt → Option (Int32 × dt)
  | 0, _, _, _, _, _ => none
  | n + 1, o0, x1, x2, x3, D => if x1 ≤ x3 then (nm (pI D o0 1 x1) fun D12 => some (x2, D12)) else (rq (gR D o0 0) fun o13 => ix x3 (sA S o13) <| nm (pI D o13 x3.toNatClampNeg (vp_nar .byte (0 : Int32))) fun D18 => nm (x3 + 1) fun y19 => f_X2_resizeContext_7 S n o0 x1 x2 y19 D18)
def f_X2_resizeContext (S : sh) (o0 : Nat) (x1 : Int32) (D : dt) : Option (Int32 × dt) := nm (gI D o0 1) fun y20 => f_X2_resizeContext_7 S LF o0 x1 y20 y20 D
-- JudgedCode$Memory.tableNumbered
def f_X2_tableNumbered_12 (S : sh) (D : dt) : Option (Option Nat) := some none
def f_X2_tableNumbered (S : sh) (D : dt) (o0 : Nat) (x1 : Int32) : Option (Option Nat) := if x1 < 0 then (f_X2_tableNumbered_12 S D) else (if x1 < (gI D o0 4) then (rq (gR D o0 3) fun o14 => ix x1 (sA S o14) <| oq (gR D o14 x1.toNatClampNeg) (some none) fun o19 => some (some o19)) else (f_X2_tableNumbered_12 S D))
-- JudgedCode$Memory.findValue
def f_X2_findValue_28 (S : sh) (o0 : Nat) (x1 : Int64) (x3 : Int32) (os0 : Option Nat) (D : dt) : Option (Int32 × dt) := oq os0 (nm (((j_lshr x1 (12 : Int32)).toInt32) &&& (4095 : Int32)) fun y19 => nm (x1.toInt32 &&& (4095 : Int32)) fun y20 => some ((0 : Int32), D)) fun os0 => nm (((j_lshr x1 (12 : Int32)).toInt32) &&& (4095 : Int32)) fun y21 => nm (x1.toInt32 &&& (4095 : Int32)) fun y22 => if (gI D os0 3) ≤ y21 then (some ((0 : Int32), D)) else (if y22 ≤ ((gI D os0 2) - x3) then (rq (gR D os0 6) fun o25 => nm (pR D o0 6 (some o25)) fun D29 => nm (pI D29 o0 7 ((y21 * (gI D29 os0 2)) + y22)) fun D30 => some ((1 : Int32), D30)) else (some ((0 : Int32), D)))
def f_X2_findValue (S : sh) (o0 : Nat) (x1 : Int64) (x3 : Int32) (D : dt) : Option (Int32 × dt) := nm (j_lshr x1 (24 : Int32)) fun y31 => if 0 ≤ (lg_cmp y31 ((gI D o0 4).toInt64)) then (f_X2_findValue_28 S o0 x1 x3 none D) else (pq (f_X2_tableNumbered S D o0 y31.toInt32) fun r34 => oq r34 (f_X2_findValue_28 S o0 x1 x3 none D) fun o35 => f_X2_findValue_28 S o0 x1 x3 (some o35) D)
-- JudgedCode$Memory.findIn
def f_X2_findIn (S : sh) (o0 : Nat) (o1 : Nat) (x2 : Int64) (x4 : Int32) (x5 : Int32) (D : dt) : Option (Int32 × dt) := if (lg_cmp x2 (0 : Int64)) < 0 then (some ((0 : Int32), D)) else (if (lg_cmp x2 ((x4 - x5).toInt64)) ≤ 0 then (nm (pR D o0 6 (some o1)) fun D7 => nm (pI D7 o0 7 x2.toInt32) fun D8 => some ((1 : Int32), D8)) else (some ((0 : Int32), D)))
-- JudgedCode$Memory.find
def f_X2_find (S : sh) (o0 : Nat) (x1 : Int64) (x3 : Int32) (x4 : Int32) (D : dt) : Option (Int32 × dt) := if (lg_cmp x1 (34359738368 : Int64)) < 0 then (nm (x1 - (8589934080 : Int64)) fun y26 => if (lg_cmp y26 (0 : Int64)) < 0 then (if x4 = 0 then (rq (gR D o0 0) fun o29 => cq (f_X2_findIn S o0 o29 (x1 - (4294967296 : Int64)) (gI D o0 1) x3 D) fun r34 D35 => if r34 = 0 then (some ((0 : Int32), D35)) else (some ((1 : Int32), D35))) else (some ((0 : Int32), D))) else (rq (gR D o0 2) fun o37 => cq (f_X2_findIn S o0 o37 y26 (512 : Int32) x3 D) fun r42 D43 => ck (r42 = 0 ∨ r42 = 1) <| some (r42, D43))) else (cq (f_X2_findValue S o0 (x1 - (34359738368 : Int64)) x3 D) fun r46 D47 => ck (r46 = 0 ∨ r46 = 1) <| some (r46, D47))
-- JudgedCode$Memory.foundNumber
def f_X2_foundNumber_7 (S : sh) (D : dt) : Nat → Nat → Int64 → Int32 → Option Int64
  | 0, _, _, _ => none
  | n + 1, o0, x2, x4 => if x4 < 0 then (some x2) else (rq (gR D o0 6) fun o12 => ix ((gI D o0 7) + x4) (sA S o12) <| nm ((j_lshl x2 (8 : Int32)) ||| (((gI D o12 ((gI D o0 7) + x4).toNatClampNeg) &&& (255 : Int32)).toInt64)) fun y17 => nm (x4 + (-1)) fun y18 => f_X2_foundNumber_7 S D n o0 y17 y18)
def f_X2_foundNumber (S : sh) (D : dt) (o0 : Nat) (x1 : Int32) : Option Int64 := nm ((0 : Int64)) fun y19 => nm (x1 - (1 : Int32)) fun y20 => f_X2_foundNumber_7 S D LF o0 y19 y20
-- JudgedCode$Memory.writeFound
def f_X2_writeFound_3 (S : sh) : Nat → Nat → Int64 → Int32 → Int32 → dt → Option (Unit × dt)
  | 0, _, _, _, _, _ => none
  | n + 1, o0, x1, x3, x4, D => if x3 ≤ x4 then (some ((), D)) else (rq (gR D o0 6) fun o11 => ix ((gI D o0 7) + x4) (sA S o11) <| nm (pI D o11 ((gI D o0 7) + x4).toNatClampNeg (vp_nar .byte (((j_lshr x1 ((8 : Int32) * x4)).toInt32).toInt8.toInt32))) fun D16 => nm (x4 + 1) fun y17 => f_X2_writeFound_3 S n o0 x1 x3 y17 D16)
def f_X2_writeFound (S : sh) (o0 : Nat) (x1 : Int64) (x3 : Int32) (D : dt) : Option (Unit × dt) := nm ((0 : Int32)) fun y18 => f_X2_writeFound_3 S LF o0 x1 x3 y18 D
-- JudgedCode$Memory.tableAt
def f_X2_tableAt_22 (S : sh) (D : dt) : Option Int32 := some (-1 : Int32)
def f_X2_tableAt (S : sh) (D : dt) (o0 : Nat) (x1 : Int64) : Option Int32 := nm (x1 - (17179869184 : Int64)) fun y4 => if (lg_cmp y4 (0 : Int64)) < 0 then (f_X2_tableAt_22 S D) else (if (lg_cmp y4 ((gI D o0 4).toInt64)) < 0 then (some y4.toInt32) else (f_X2_tableAt_22 S D))
-- JudgedCode$Memory.copyFoundTo
def f_X2_copyFoundTo_2 (S : sh) : Nat → Nat → Nat → Int32 → Int32 → dt → Option (Unit × dt)
  | 0, _, _, _, _, _ => none
  | n + 1, o0, o1, x2, x3, D => if (gI D o1 2) ≤ x3 then (some ((), D)) else (rq (gR D o1 6) fun o16 => rq (gR D o0 6) fun o20 => ix ((gI D o0 7) + x3) (sA S o20) <| ix ((x2 * (gI D o1 2)) + x3) (sA S o16) <| nm (pI D o16 ((x2 * (gI D o1 2)) + x3).toNatClampNeg (vp_nar .byte (gI D o20 ((gI D o0 7) + x3).toNatClampNeg))) fun D26 => nm (x3 + 1) fun y27 => f_X2_copyFoundTo_2 S n o0 o1 x2 y27 D26)
def f_X2_copyFoundTo (S : sh) (o0 : Nat) (o1 : Nat) (x2 : Int32) (D : dt) : Option (Unit × dt) := nm ((0 : Int32)) fun y28 => f_X2_copyFoundTo_2 S LF o0 o1 x2 y28 D
theorem mk_X2_init : MkI yX2_init cX2_init 1 0 := ⟨⟨lk_176, lk_116, (tb_in (i := 177) (by decide +kernel) (by decide +kernel))⟩, rfl, by decide +kernel⟩
theorem mk_X2_addTable : MkV yX2_addTable RX2 cX2_addTable 3 (some .int) 1 := ⟨⟨lk_432, lk_433, lk_116, (tb_in (i := 434) (by decide +kernel) (by decide +kernel))⟩, by decide +kernel⟩
theorem mk_X2_resizeContext : MkV yX2_resizeContext RX2 cX2_resizeContext 4 (some .int) 1 := ⟨⟨lk_440, lk_441, lk_116, (tb_in (i := 442) (by decide +kernel) (by decide +kernel))⟩, by decide +kernel⟩
theorem mk_X2_tableNumbered : MkV yX2_tableNumbered RX2 cX2_tableNumbered 2 (some (.object RX7)) 1 := ⟨⟨lk_565, lk_566, lk_116, (tb_in (i := 567) (by decide +kernel) (by decide +kernel))⟩, by decide +kernel⟩
theorem mk_X2_findValue : MkV yX2_findValue RX2 cX2_findValue 9 (some .boolean) 2 := ⟨⟨lk_934, lk_48, lk_116, (tb_in (i := 935) (by decide +kernel) (by decide +kernel))⟩, by decide +kernel⟩
theorem mk_X2_findIn : MkV yX2_findIn RX2 cX2_findIn 6 (some .boolean) 4 := ⟨⟨lk_940, lk_49, lk_116, (tb_in (i := 941) (by decide +kernel) (by decide +kernel))⟩, by decide +kernel⟩
theorem mk_X2_find : MkV yX2_find RX2 cX2_find 7 (some .boolean) 3 := ⟨⟨lk_928, lk_929, lk_116, (tb_in (i := 930) (by decide +kernel) (by decide +kernel))⟩, by decide +kernel⟩
theorem mk_X2_foundNumber : MkV yX2_foundNumber RX2 cX2_foundNumber 5 (some .long) 1 := ⟨⟨lk_944, lk_945, lk_116, (tb_in (i := 946) (by decide +kernel) (by decide +kernel))⟩, by decide +kernel⟩
theorem mk_X2_writeFound : MkV yX2_writeFound RX2 cX2_writeFound 5 none 2 := ⟨⟨lk_954, lk_955, lk_116, (tb_in (i := 956) (by decide +kernel) (by decide +kernel))⟩, by decide +kernel⟩
theorem mk_X2_tableAt : MkV yX2_tableAt RX2 cX2_tableAt 5 (some .int) 1 := ⟨⟨lk_987, lk_988, lk_116, (tb_in (i := 989) (by decide +kernel) (by decide +kernel))⟩, by decide +kernel⟩
theorem mk_X2_copyFoundTo : MkV yX2_copyFoundTo RX2 cX2_copyFoundTo 4 none 2 := ⟨⟨lk_1012, lk_1013, lk_116, (tb_in (i := 1014) (by decide +kernel) (by decide +kernel))⟩, by decide +kernel⟩
section
variable {p : Program} {l : Launch} {e : Env} {R : Room} {s : State} {m : MethodId} {args : Array Value} {below : List Frame} {meth : Method} {c : Code} {H : Heap} {locs : List Loc} {G : va_G} {cA : Nat → ClassId} {S : sh} {D : dt} {ad : Nat → Nat} {A : Nat → Prop}
theorem mn_X2_init_27 {r : Unit} {S' : sh} {D' : dt} {o0 : Nat} {os0 : Nat} {os1 : Nat} {S : sh} {D : dt} (h : f_X2_init_27 o0 os0 os1 S D = some (r, S', D')) : Ext S S' := by
  unfold f_X2_init_27 at h
  have h := nm_i h _ rfl
  obtain ⟨o25, ho28, h⟩ := rq_i h
  have h := nm_i h _ rfl
  cases h
  exact Ext.rf _
set_option maxHeartbeats 4000000 in
set_option maxRecDepth 100000 in
theorem w_X2_init_27 {r : Unit} {S' : sh} {D' : dt} {S0 : sh} {ad0 : Nat → Nat} (hC : Cx RX2 cX2_init 1 none p s m args meth c) (hin : meth.name = "<init>") (hR : 1 ≤ R.frames ∧ 20 ≤ R.locals) (ho : R.cells = sN S' - sN S0 ∧ R.slots = sZ S' - sZ S0) : ∀ (o0 a0 : Nat) (os0 as0 : Nat) (os1 as1 : Nat) (S : sh) (D : dt) (ad : Nat → Nat) (H : Heap) (locs : List Loc) (ls : Array Slot) (cells slots : Nat), Is S ad o0 a0 2 → Is S ad os0 as0 2 → Is S ad os1 as1 206 → Wd G cA S D ad A s H locs → Al S0 ad0 S ad cells slots → lv_has ls 1 [(0, .ref a0)] → f_X2_init_27 o0 os0 os1 S D = some (r, S', D') → W p l e R s m args below meth c H locs cells slots (MQ below (Qa (fun _ => none) (fun ad' => (∀ k, k < sN S0 → ad' k = ad0 k) ∧ True) (fun ad' => wpost G cA S' D' ad' A) A) args s (sN S' - sN S0) (sZ S' - sZ S0) A) (F0 m 27 ls [.ref as1, .ref as0]) := by
  obtain ⟨hx, hb, -⟩ := id hC
  intro o0 a0 os0 as0 os1 as1 S D ad H locs ls cells slots hi0 his0 his1 hw hc hl h
  have hE : Ext S S' := mn_X2_init_27  h
  unfold f_X2_init_27 at h
  refine r_pRF hC hin hw kc_2 his0 3 rfl lk_188 rfl rfl rfl rfl rfl his1 dX2_init_27 (fun D24 eD24 H locs hw => ?_)
  have h := nm_i h D24 eD24
  refine lv_aload_n hx hb dX2_init_30 rfl (lv_at hl 0 rfl) ?_
  refine lv_aload_n hx hb dX2_init_31 rfl (lv_at hl 0 rfl) ?_
  obtain ⟨o25, ho28, h⟩ := rq_i h
  refine r_getR hC hw kc_2 hi0 2 rfl lk_186 dX2_init_32 rfl ho28 (fun a26 hi27 => ?_)
  refine r_pR hC hw kc_2 hi0 6 rfl lk_193 rfl rfl rfl rfl hi27 dX2_init_35 (fun D29 eD29 H locs hw => ?_)
  have h := nm_i h D29 eD29
  cases h
  exact r_vretA hC hw hc dX2_init_38
theorem mn_X2_init_19 {r : Unit} {S' : sh} {D' : dt} {o0 : Nat} {os0 : Nat} {os1 : Nat} {S : sh} {D : dt} (h : f_X2_init_19 o0 os0 os1 S D = some (r, S', D')) : Ext S S' := by
  unfold f_X2_init_19 at h
  have h := nm_i h _ rfl
  have hA := (Ext.aS S 206 4 4)
  exact hA.tr (mn_X2_init_27 h)
set_option maxHeartbeats 4000000 in
set_option maxRecDepth 100000 in
theorem w_X2_init_19 {r : Unit} {S' : sh} {D' : dt} {S0 : sh} {ad0 : Nat → Nat} (hC : Cx RX2 cX2_init 1 none p s m args meth c) (hin : meth.name = "<init>") (hR : 1 ≤ R.frames ∧ 20 ≤ R.locals) (ho : R.cells = sN S' - sN S0 ∧ R.slots = sZ S' - sZ S0) : ∀ (o0 a0 : Nat) (os0 as0 : Nat) (os1 as1 : Nat) (S : sh) (D : dt) (ad : Nat → Nat) (H : Heap) (locs : List Loc) (ls : Array Slot) (cells slots : Nat), Is S ad o0 a0 2 → Is S ad os0 as0 2 → Is S ad os1 as1 102 → Wd G cA S D ad A s H locs → Al S0 ad0 S ad cells slots → lv_has ls 1 [(0, .ref a0)] → f_X2_init_19 o0 os0 os1 S D = some (r, S', D') → W p l e R s m args below meth c H locs cells slots (MQ below (Qa (fun _ => none) (fun ad' => (∀ k, k < sN S0 → ad' k = ad0 k) ∧ True) (fun ad' => wpost G cA S' D' ad' A) A) args s (sN S' - sN S0) (sZ S' - sZ S0) A) (F0 m 19 ls [.ref as1, .ref as0]) := by
  obtain ⟨hx, hb, -⟩ := id hC
  intro o0 a0 os0 as0 os1 as1 S D ad H locs ls cells slots hi0 his0 his1 hw hc hl h
  have hE : Ext S S' := mn_X2_init_19  h
  unfold f_X2_init_19 at h
  refine r_pRF hC hin hw kc_2 his0 2 rfl lk_186 rfl rfl rfl rfl rfl his1 dX2_init_19 (fun D30 eD30 H locs hw => ?_)
  have h := nm_i h D30 eD30
  refine lv_aload_n hx hb dX2_init_22 rfl (lv_at hl 0 rfl) ?_
  refine lv_iconst (v := 4) hx hb dX2_init_23 (by decide) ?_
  have hE33 := mn_X2_init_27 h
  refine r_newR hC hw lk_179 hw.2.2.2.2.2.2.o0 206 5 (by decide) rfl (by decide) (by decide) (by decide) (hc.room ho hE33).1 (hc.room ho hE33).2 dX2_init_24 (fun q31 H hw hi32 => ?_)
  have hi34 := Is.up hi0 (Ext.aS S 206 4 4) (up_lt (q := q31))
  have hc := hc.new 206 4 4 q31
  exact w_X2_init_27 hC hin hR ho o0 a0 o0 a0 (sN S) q31 _ _ _ _ _ _ _ _ hi34 hi34 hi32 hw hc (lv_sub hl [0] rfl) h --j35
theorem mn_X2_init_10 {r : Unit} {S' : sh} {D' : dt} {o0 : Nat} {os0 : Nat} {os1 : Nat} {S : sh} {D : dt} (h : f_X2_init_10 o0 os0 os1 S D = some (r, S', D')) : Ext S S' := by
  unfold f_X2_init_10 at h
  have h := nm_i h _ rfl
  have hA := (Ext.aS S 102 512 512)
  exact hA.tr (mn_X2_init_19 h)
set_option maxHeartbeats 4000000 in
set_option maxRecDepth 100000 in
theorem w_X2_init_10 {r : Unit} {S' : sh} {D' : dt} {S0 : sh} {ad0 : Nat → Nat} (hC : Cx RX2 cX2_init 1 none p s m args meth c) (hin : meth.name = "<init>") (hR : 1 ≤ R.frames ∧ 20 ≤ R.locals) (ho : R.cells = sN S' - sN S0 ∧ R.slots = sZ S' - sZ S0) : ∀ (o0 a0 : Nat) (os0 as0 : Nat) (os1 as1 : Nat) (S : sh) (D : dt) (ad : Nat → Nat) (H : Heap) (locs : List Loc) (ls : Array Slot) (cells slots : Nat), Is S ad o0 a0 2 → Is S ad os0 as0 2 → Is S ad os1 as1 102 → Wd G cA S D ad A s H locs → Al S0 ad0 S ad cells slots → lv_has ls 1 [(0, .ref a0)] → f_X2_init_10 o0 os0 os1 S D = some (r, S', D') → W p l e R s m args below meth c H locs cells slots (MQ below (Qa (fun _ => none) (fun ad' => (∀ k, k < sN S0 → ad' k = ad0 k) ∧ True) (fun ad' => wpost G cA S' D' ad' A) A) args s (sN S' - sN S0) (sZ S' - sZ S0) A) (F0 m 10 ls [.ref as1, .ref as0]) := by
  obtain ⟨hx, hb, -⟩ := id hC
  intro o0 a0 os0 as0 os1 as1 S D ad H locs ls cells slots hi0 his0 his1 hw hc hl h
  have hE : Ext S S' := mn_X2_init_10  h
  unfold f_X2_init_10 at h
  refine r_pRF hC hin hw kc_2 his0 0 rfl lk_181 rfl rfl rfl rfl rfl his1 dX2_init_10 (fun D36 eD36 H locs hw => ?_)
  have h := nm_i h D36 eD36
  refine lv_aload_n hx hb dX2_init_13 rfl (lv_at hl 0 rfl) ?_
  refine lv_sipush (v := 512) hx hb dX2_init_14 (by decide) ?_
  have hE39 := mn_X2_init_19 h
  refine r_newB hC hw lk_212 (by decide) (by decide) (by decide) (hc.room ho hE39).1 (hc.room ho hE39).2 dX2_init_17 (fun q37 H hw hi38 => ?_)
  have hi40 := Is.up hi0 (Ext.aS S 102 512 512) (up_lt (q := q37))
  have hc := hc.new 102 512 512 q37
  exact w_X2_init_19 hC hin hR ho o0 a0 o0 a0 (sN S) q37 _ _ _ _ _ _ _ _ hi40 hi40 hi38 hw hc (lv_sub hl [0] rfl) h --j41
theorem mn_X2_init_0 {r : Unit} {S' : sh} {D' : dt} {o0 : Nat} {S : sh} {D : dt} (h : f_X2_init o0 S D = some (r, S', D')) : Ext S S' := by
  unfold f_X2_init at h
  have hA := (Ext.aS S 102 256 256)
  exact hA.tr (mn_X2_init_10 h)
set_option maxHeartbeats 4000000 in
set_option maxRecDepth 100000 in
theorem w_X2_init_0 {r : Unit} {S' : sh} {D' : dt} {S0 : sh} {ad0 : Nat → Nat} (hC : Cx RX2 cX2_init 1 none p s m args meth c) (hin : meth.name = "<init>") (hR : 1 ≤ R.frames ∧ 20 ≤ R.locals) (ho : R.cells = sN S' - sN S0 ∧ R.slots = sZ S' - sZ S0) : ∀ (o0 a0 : Nat) (S : sh) (D : dt) (ad : Nat → Nat) (H : Heap) (locs : List Loc) (ls : Array Slot) (cells slots : Nat), Is S ad o0 a0 2 → Wd G cA S D ad A s H locs → Al S0 ad0 S ad cells slots → lv_has ls 1 [(0, .ref a0)] → f_X2_init o0 S D = some (r, S', D') → W p l e R s m args below meth c H locs cells slots (MQ below (Qa (fun _ => none) (fun ad' => (∀ k, k < sN S0 → ad' k = ad0 k) ∧ True) (fun ad' => wpost G cA S' D' ad' A) A) args s (sN S' - sN S0) (sZ S' - sZ S0) A) (F0 m 0 ls []) := by
  obtain ⟨hx, hb, -⟩ := id hC
  intro o0 a0 S D ad H locs ls cells slots hi0 hw hc hl h
  have hE : Ext S S' := mn_X2_init_0  h
  unfold f_X2_init at h
  refine lv_aload_n hx hb dX2_init_0 rfl (lv_at hl 0 rfl) ?_
  refine W.objInit hx hb hC.2.2.2.1 (hC.2.2.2.2.1 _ lk_178) (hC.2.2.2.2.1 _ lk_133) (hC.2.2.2.2.1 _ cd_obj) rfl (by rw [hC.2.2.1]; exact hl.1) rfl dX2_init_1 (Nat.le_trans (by decide) hR.1) (Nat.le_trans (Nat.le_of_ble_eq_true rfl) hR.2) ?_
  refine W.eq (g2 := F0 m 4 ls []) rfl ?_
  refine lv_aload_n hx hb dX2_init_4 rfl (lv_at hl 0 rfl) ?_
  refine lv_sipush (v := 256) hx hb dX2_init_5 (by decide) ?_
  have hE44 := mn_X2_init_10 h
  refine r_newB hC hw lk_212 (by decide) (by decide) (by decide) (hc.room ho hE44).1 (hc.room ho hE44).2 dX2_init_8 (fun q42 H hw hi43 => ?_)
  have hi45 := Is.up hi0 (Ext.aS S 102 256 256) (up_lt (q := q42))
  have hc := hc.new 102 256 256 q42
  exact w_X2_init_10 hC hin hR ho o0 a0 o0 a0 (sN S) q42 _ _ _ _ _ _ _ _ hi45 hi45 hi43 hw hc (lv_sub hl [0] rfl) h --j46
set_option maxHeartbeats 4000000 in
set_option maxRecDepth 100000 in
theorem k_X2_init {l : Launch} {G : va_G} {cA : Nat → ClassId} {S S' : sh} {D D' : dt} {ad : Nat → Nat} (sz : Nat) {o0 a0 : Nat} {r : Unit} (hi0 : Is S ad o0 a0 2) (h : f_X2_init o0 S D = some (r, S', D')) : CoA l yX2_init (Cond.code yX2_init cX2_init 1 none :: tb0) 1 20 [.ref a0] G cA S D ad sz (fun _ => none) True S' D' := by
  refine Met.ofW (cc := cX2_init) (maxL := 1) (ret := none) (by decide) rfl ?_
  intro p e s m args below meth c s₁ B hml hv
  obtain ⟨rfl, hsz, hP, hK, hD0, hT, hX⟩ := hv
  subst hsz
  have hts := atoms_spec (ws := Cond.code yX2_init cX2_init 1 none :: tb0) B.pre
  have hC : Cx RX2 cX2_init 1 none p s m _ meth c := ⟨B.exec, B.bytes, hml, findClass_of_methodNamed B.named, fun w q => hts w (List.mem_cons_of_mem _ q), B.returns, B.notSynchronized⟩
  have hin : meth.name = "<init>" := (name_of_methodNamed B.named B.method).1
  have hw := Wd.entry hP hK hD0 hT hX
  have hl := lv_entry ([.ref a0]) (n := 1) (Nat.le_of_ble_eq_true rfl)
  rw [lg_entry_eq]
  exact w_X2_init_0 hC hin ⟨Nat.le_refl _, Nat.le_refl _⟩ ⟨rfl, rfl⟩ o0 a0 S D ad _ _ _ 0 0 hi0 hw (Al.rf S ad) hl h
set_option maxHeartbeats 4000000 in
set_option maxRecDepth 100000 in
theorem w_X2_addTable_0 {r : Int32} {D' : dt} (hC : Cx RX2 cX2_addTable 3 (some .int) p s m args meth c) (hR : 0 ≤ R.frames ∧ 0 ≤ R.locals) : ∀ (o0 a0 : Nat) (o1 a1 : Nat) (D : dt) (H : Heap) (locs : List Loc) (ls : Array Slot), Is S ad o0 a0 2 → Is S ad o1 a1 6 → Wd G cA S D ad A s H locs → lv_has ls 3 [(0, .ref a0), (1, .ref a1)] → f_X2_addTable S o0 o1 D = some (r, D') → W p l e R s m args below meth c H locs 0 0 (MQ below (Qn (some (.int r)) True (wpost G cA S D' ad A) A) args s 0 0 A) (F0 m 0 ls []) := by
  obtain ⟨hx, hb, -⟩ := id hC
  intro o0 a0 o1 a1 D H locs ls hi0 hi1 hw hl h
  unfold f_X2_addTable at h
  refine lv_aload_n hx hb dX2_addTable_0 rfl (lv_at hl 0 rfl) ?_
  refine r_gI hC hw kc_2 hi0 4 rfl lk_189 dX2_addTable_1 ?_
  refine lv_topi (fun y9 ey9 => ?_)
  have h := nm_i h y9 ey9
  refine lv_istore_n (lv' := [(2, .int y9), (0, .ref a0), (1, .ref a1)]) hx hb dX2_addTable_4 rfl hl (by decide) rfl (fun ls hl => ?_)
  refine lv_aload_n hx hb dX2_addTable_5 rfl (lv_at hl 1 rfl) ?_
  obtain ⟨o10, ho13, h⟩ := rq_i h
  refine r_getR hC hw kc_2 hi0 3 rfl lk_188 dX2_addTable_6 rfl ho13 (fun a11 hi12 => ?_)
  refine lv_iload_n hx hb dX2_addTable_9 rfl (lv_at hl 0 rfl) ?_
  refine lv_aload_n hx hb dX2_addTable_10 rfl (lv_at hl 2 rfl) ?_
  obtain ⟨hn14, h⟩ := ix_i h
  refine r_aas hC hw hi12 (by decide) 5 kc_6 rfl hi1 (fun _ => rfl) hn14 dX2_addTable_11 (fun D15 eD15 H locs hw => ?_)
  have h := nm_i h D15 eD15
  refine lv_aload_n hx hb dX2_addTable_12 rfl (lv_at hl 1 rfl) ?_
  refine lv_iload_n hx hb dX2_addTable_13 rfl (lv_at hl 0 rfl) ?_
  refine lv_iconst (v := 1) hx hb dX2_addTable_14 (by decide) ?_
  refine lv_iadd hx hb dX2_addTable_15 ?_
  refine r_pI hC hw kc_2 hi0 4 rfl lk_189 rfl rfl rfl dX2_addTable_16 (fun D16 eD16 H locs hw => ?_)
  have h := nm_i h D16 eD16
  refine lv_iload_n hx hb dX2_addTable_19 rfl (lv_at hl 0 rfl) ?_
  cases h
  exact r_iret hC hw dX2_addTable_20
set_option maxHeartbeats 4000000 in
set_option maxRecDepth 100000 in
theorem k_X2_addTable {l : Launch} {G : va_G} {cA : Nat → ClassId} {S : sh} {D D' : dt} {ad : Nat → Nat} (sz : Nat) {o0 a0 : Nat} {o1 a1 : Nat} {r : Int32} (hi0 : Is S ad o0 a0 2) (hi1 : Is S ad o1 a1 6) (h : f_X2_addTable S o0 o1 D = some (r, D')) : Co l yX2_addTable (Cond.code yX2_addTable cX2_addTable 3 (some .int) :: tb0) 0 0 [.ref a0, .ref a1] G cA S D ad sz (some (.int r)) True D' := by
  refine Met.ofW (cc := cX2_addTable) (maxL := 3) (ret := (some .int)) (by decide) rfl ?_
  intro p e s m args below meth c s₁ B hml hv
  obtain ⟨rfl, hsz, hP, hK, hD0, hT, hX⟩ := hv
  subst hsz
  have hts := atoms_spec (ws := Cond.code yX2_addTable cX2_addTable 3 (some .int) :: tb0) B.pre
  have hC : Cx RX2 cX2_addTable 3 (some .int) p s m _ meth c := ⟨B.exec, B.bytes, hml, findClass_of_methodNamed B.named, fun w q => hts w (List.mem_cons_of_mem _ q), B.returns, B.notSynchronized⟩
  have hw := Wd.entry hP hK hD0 hT hX
  have hl := lv_entry ([.ref a0, .ref a1]) (n := 3) (Nat.le_of_ble_eq_true rfl)
  rw [lg_entry_eq]
  exact w_X2_addTable_0 hC ⟨Nat.le_refl _, Nat.le_refl _⟩ o0 a0 o1 a1 D _ _ _ hi0 hi1 hw hl h
set_option maxHeartbeats 4000000 in
set_option maxRecDepth 100000 in
theorem w_X2_resizeContext_7 {r : Int32} {D' : dt} (hC : Cx RX2 cX2_resizeContext 4 (some .int) p s m args meth c) (hR : 0 ≤ R.frames ∧ 0 ≤ R.locals) : ∀ (n : Nat), ∀ (o0 a0 : Nat) (x1 : Int32) (x2 : Int32) (x3 : Int32) (D : dt) (H : Heap) (locs : List Loc) (ls : Array Slot), Is S ad o0 a0 2 → Wd G cA S D ad A s H locs → lv_has ls 4 [(0, .ref a0), (1, .int x1), (2, .int x2), (3, .int x3)] → f_X2_resizeContext_7 S n o0 x1 x2 x3 D = some (r, D') → W p l e R s m args below meth c H locs 0 0 (MQ below (Qn (some (.int r)) True (wpost G cA S D' ad A) A) args s 0 0 A) (F0 m 7 ls []) := by
  obtain ⟨hx, hb, -⟩ := id hC
  intro n
  induction n with
  | zero =>
    intro o0 a0 x1 x2 x3 D H locs ls hi0 hw hl h
    rw [f_X2_resizeContext_7.eq_1] at h
    cases h
  | succ n ih =>
    intro o0 a0 x1 x2 x3 D H locs ls hi0 hw hl h
    rw [f_X2_resizeContext_7.eq_2] at h
    refine lv_iload_n hx hb dX2_resizeContext_7 rfl (lv_at hl 3 rfl) ?_
    refine lv_iload_n hx hb dX2_resizeContext_8 rfl (lv_at hl 1 rfl) ?_
    refine lv_icmp_ge (tgt := 25) hx hb dX2_resizeContext_9 (by decide) (fun c11 => ?_) (fun c11 => ?_)
    · have h := i_yes c11 h
      refine lv_aload_n hx hb dX2_resizeContext_25 rfl (lv_at hl 0 rfl) ?_
      refine lv_iload_n hx hb dX2_resizeContext_26 rfl (lv_at hl 1 rfl) ?_
      refine r_pI hC hw kc_2 hi0 1 rfl lk_183 rfl rfl rfl dX2_resizeContext_27 (fun D12 eD12 H locs hw => ?_)
      have h := nm_i h D12 eD12
      refine lv_iload_n hx hb dX2_resizeContext_30 rfl (lv_at hl 2 rfl) ?_
      cases h
      exact r_iret hC hw dX2_resizeContext_31
    · have h := i_no c11 h
      refine lv_aload_n hx hb dX2_resizeContext_12 rfl (lv_at hl 0 rfl) ?_
      obtain ⟨o13, ho16, h⟩ := rq_i h
      refine r_getR hC hw kc_2 hi0 0 rfl lk_181 dX2_resizeContext_13 rfl ho16 (fun a14 hi15 => ?_)
      refine lv_iload_n hx hb dX2_resizeContext_16 rfl (lv_at hl 3 rfl) ?_
      refine lv_iconst (v := 0) hx hb dX2_resizeContext_17 (by decide) ?_
      obtain ⟨hn17, h⟩ := ix_i h
      refine r_bas hC hw hi15 hn17 dX2_resizeContext_18 (fun D18 eD18 H locs hw => ?_)
      have h := nm_i h D18 eD18
      obtain ⟨y19, ey19⟩ : ∃ z : Int32, z = x3 + 1 := ⟨_, rfl⟩
      have h := nm_i h y19 ey19
      refine lv_iinc (v := y19) (lv' := [(3, .int y19), (0, .ref a0), (1, .int x1), (2, .int x2)]) hx hb dX2_resizeContext_19 hl (k := 3) rfl (by rw [ey19]; rfl) (by decide) rfl (fun ls hl => ?_)
      refine lv_goto (tgt := 7) hx hb dX2_resizeContext_22 (by decide) ?_
      exact ih o0 a0 x1 x2 y19 _ _ _ _ hi0 hw (lv_sub hl [1, 2, 3, 0] rfl) h
set_option maxHeartbeats 4000000 in
set_option maxRecDepth 100000 in
theorem w_X2_resizeContext_0 {r : Int32} {D' : dt} (hC : Cx RX2 cX2_resizeContext 4 (some .int) p s m args meth c) (hR : 0 ≤ R.frames ∧ 0 ≤ R.locals) : ∀ (o0 a0 : Nat) (x1 : Int32) (D : dt) (H : Heap) (locs : List Loc) (ls : Array Slot), Is S ad o0 a0 2 → Wd G cA S D ad A s H locs → lv_has ls 4 [(0, .ref a0), (1, .int x1)] → f_X2_resizeContext S o0 x1 D = some (r, D') → W p l e R s m args below meth c H locs 0 0 (MQ below (Qn (some (.int r)) True (wpost G cA S D' ad A) A) args s 0 0 A) (F0 m 0 ls []) := by
  obtain ⟨hx, hb, -⟩ := id hC
  intro o0 a0 x1 D H locs ls hi0 hw hl h
  unfold f_X2_resizeContext at h
  refine lv_aload_n hx hb dX2_resizeContext_0 rfl (lv_at hl 0 rfl) ?_
  refine r_gI hC hw kc_2 hi0 1 rfl lk_183 dX2_resizeContext_1 ?_
  refine lv_topi (fun y20 ey20 => ?_)
  have h := nm_i h y20 ey20
  refine lv_istore_n (lv' := [(2, .int y20), (0, .ref a0), (1, .int x1)]) hx hb dX2_resizeContext_4 rfl hl (by decide) rfl (fun ls hl => ?_)
  refine lv_iload_n hx hb dX2_resizeContext_5 rfl (lv_at hl 0 rfl) ?_
  refine lv_istore_n (lv' := [(3, .int y20), (2, .int y20), (0, .ref a0), (1, .int x1)]) hx hb dX2_resizeContext_6 rfl hl (by decide) rfl (fun ls hl => ?_)
  exact w_X2_resizeContext_7 hC hR LF o0 a0 x1 y20 y20 _ _ _ _ hi0 hw (lv_sub hl [2, 3, 1, 0] rfl) h
set_option maxHeartbeats 4000000 in
set_option maxRecDepth 100000 in
theorem k_X2_resizeContext {l : Launch} {G : va_G} {cA : Nat → ClassId} {S : sh} {D D' : dt} {ad : Nat → Nat} (sz : Nat) {o0 a0 : Nat} {x1 : Int32} {r : Int32} (hi0 : Is S ad o0 a0 2) (h : f_X2_resizeContext S o0 x1 D = some (r, D')) : Co l yX2_resizeContext (Cond.code yX2_resizeContext cX2_resizeContext 4 (some .int) :: tb0) 0 0 [.ref a0, .int x1] G cA S D ad sz (some (.int r)) True D' := by
  refine Met.ofW (cc := cX2_resizeContext) (maxL := 4) (ret := (some .int)) (by decide) rfl ?_
  intro p e s m args below meth c s₁ B hml hv
  obtain ⟨rfl, hsz, hP, hK, hD0, hT, hX⟩ := hv
  subst hsz
  have hts := atoms_spec (ws := Cond.code yX2_resizeContext cX2_resizeContext 4 (some .int) :: tb0) B.pre
  have hC : Cx RX2 cX2_resizeContext 4 (some .int) p s m _ meth c := ⟨B.exec, B.bytes, hml, findClass_of_methodNamed B.named, fun w q => hts w (List.mem_cons_of_mem _ q), B.returns, B.notSynchronized⟩
  have hw := Wd.entry hP hK hD0 hT hX
  have hl := lv_entry ([.ref a0, .int x1]) (n := 4) (Nat.le_of_ble_eq_true rfl)
  rw [lg_entry_eq]
  exact w_X2_resizeContext_0 hC ⟨Nat.le_refl _, Nat.le_refl _⟩ o0 a0 x1 D _ _ _ hi0 hw hl h
set_option maxHeartbeats 4000000 in
set_option maxRecDepth 100000 in
theorem w_X2_tableNumbered_12 {r : Option Nat} (hC : Cx RX2 cX2_tableNumbered 2 (some (.object RX7)) p s m args meth c) (hR : 0 ≤ R.frames ∧ 0 ≤ R.locals) : ∀  (H : Heap) (locs : List Loc) (ls : Array Slot), Wd G cA S D ad A s H locs → lv_has ls 2 [] → f_X2_tableNumbered_12 S D = some r → W p l e R s m args below meth c H locs 0 0 (MQ below (Qn (some (va_rf (r.map ad))) (∀ x, r = some x → x < sN S ∧ sK S x = 6) (wpost G cA S D ad A) A) args s 0 0 A) (F0 m 12 ls []) := by
  obtain ⟨hx, hb, -⟩ := id hC
  intro H locs ls  hw hl h
  unfold f_X2_tableNumbered_12 at h
  refine lv_null hx hb dX2_tableNumbered_12 ?_
  refine lv_goto (tgt := 22) hx hb dX2_tableNumbered_13 (by decide) ?_
  cases h
  exact r_nret (Or.inl ⟨_, rfl⟩) hC hw dX2_tableNumbered_22
set_option maxHeartbeats 4000000 in
set_option maxRecDepth 100000 in
theorem w_X2_tableNumbered_0 {r : Option Nat} (hC : Cx RX2 cX2_tableNumbered 2 (some (.object RX7)) p s m args meth c) (hR : 0 ≤ R.frames ∧ 0 ≤ R.locals) : ∀ (o0 a0 : Nat) (x1 : Int32) (H : Heap) (locs : List Loc) (ls : Array Slot), Is S ad o0 a0 2 → Wd G cA S D ad A s H locs → lv_has ls 2 [(0, .ref a0), (1, .int x1)] → f_X2_tableNumbered S D o0 x1 = some r → W p l e R s m args below meth c H locs 0 0 (MQ below (Qn (some (va_rf (r.map ad))) (∀ x, r = some x → x < sN S ∧ sK S x = 6) (wpost G cA S D ad A) A) args s 0 0 A) (F0 m 0 ls []) := by
  obtain ⟨hx, hb, -⟩ := id hC
  intro o0 a0 x1 H locs ls hi0 hw hl h
  unfold f_X2_tableNumbered at h
  refine lv_iload_n hx hb dX2_tableNumbered_0 rfl (lv_at hl 1 rfl) ?_
  refine lv_if_lt (tgt := 12) hx hb dX2_tableNumbered_1 (by decide) (fun c12 => ?_) (fun c12 => ?_)
  · have h := i_yes c12 h
    exact w_X2_tableNumbered_12 hC hR _ _ _ hw (lv_sub hl [] rfl) h
  · have h := i_no c12 h
    refine lv_iload_n hx hb dX2_tableNumbered_4 rfl (lv_at hl 1 rfl) ?_
    refine lv_aload_n hx hb dX2_tableNumbered_5 rfl (lv_at hl 0 rfl) ?_
    refine r_gI hC hw kc_2 hi0 4 rfl lk_189 dX2_tableNumbered_6 ?_
    refine lv_icmp_lt (tgt := 16) hx hb dX2_tableNumbered_9 (by decide) (fun c13 => ?_) (fun c13 => ?_)
    · have h := i_yes c13 h
      refine lv_aload_n hx hb dX2_tableNumbered_16 rfl (lv_at hl 0 rfl) ?_
      obtain ⟨o14, ho17, h⟩ := rq_i h
      refine r_getR hC hw kc_2 hi0 3 rfl lk_188 dX2_tableNumbered_17 rfl ho17 (fun a15 hi16 => ?_)
      refine lv_iload_n hx hb dX2_tableNumbered_20 rfl (lv_at hl 1 rfl) ?_
      obtain ⟨hn18, h⟩ := ix_i h
      rcases oq_i h with ⟨ho22, h⟩ | ⟨o19, ho22, h⟩
      · refine r_aaldN hC hw hi16 (by decide) 5 rfl hn18 dX2_tableNumbered_21 ho22 ?_
        cases h
        exact r_nret (Or.inl ⟨_, rfl⟩) hC hw dX2_tableNumbered_22
      · refine r_aald hC hw hi16 (by decide) 5 rfl hn18 dX2_tableNumbered_21 (fun _ => rfl) ho22 (fun a20 hi21 => ?_)
        cases h
        exact r_aret (Or.inl ⟨_, rfl⟩) hC hw hi21 dX2_tableNumbered_22
    · have h := i_no c13 h
      exact w_X2_tableNumbered_12 hC hR _ _ _ hw (lv_sub hl [] rfl) h
set_option maxHeartbeats 4000000 in
set_option maxRecDepth 100000 in
theorem k_X2_tableNumbered {l : Launch} {G : va_G} {cA : Nat → ClassId} {S : sh} {D : dt} {ad : Nat → Nat} (sz : Nat) {o0 a0 : Nat} {x1 : Int32} {r : Option Nat} (hi0 : Is S ad o0 a0 2) (h : f_X2_tableNumbered S D o0 x1 = some r) : Co l yX2_tableNumbered (Cond.code yX2_tableNumbered cX2_tableNumbered 2 (some (.object RX7)) :: tb0) 0 0 [.ref a0, .int x1] G cA S D ad sz (some (va_rf (r.map ad))) (∀ x, r = some x → x < sN S ∧ sK S x = 6) D := by
  refine Met.ofW (cc := cX2_tableNumbered) (maxL := 2) (ret := (some (.object RX7))) (by decide) rfl ?_
  intro p e s m args below meth c s₁ B hml hv
  obtain ⟨rfl, hsz, hP, hK, hD0, hT, hX⟩ := hv
  subst hsz
  have hts := atoms_spec (ws := Cond.code yX2_tableNumbered cX2_tableNumbered 2 (some (.object RX7)) :: tb0) B.pre
  have hC : Cx RX2 cX2_tableNumbered 2 (some (.object RX7)) p s m _ meth c := ⟨B.exec, B.bytes, hml, findClass_of_methodNamed B.named, fun w q => hts w (List.mem_cons_of_mem _ q), B.returns, B.notSynchronized⟩
  have hw := Wd.entry hP hK hD0 hT hX
  have hl := lv_entry ([.ref a0, .int x1]) (n := 2) (Nat.le_of_ble_eq_true rfl)
  rw [lg_entry_eq]
  exact w_X2_tableNumbered_0 hC ⟨Nat.le_refl _, Nat.le_refl _⟩ o0 a0 x1 _ _ _ hi0 hw hl h
set_option maxHeartbeats 4000000 in
set_option maxRecDepth 100000 in
theorem w_X2_findValue_28 {r : Int32} {D' : dt} (hC : Cx RX2 cX2_findValue 9 (some .boolean) p s m args meth c) (hR : 1 ≤ R.frames ∧ 21 ≤ R.locals) : ∀ (o0 a0 : Nat) (x1 : Int64) (x3 : Int32) (os0 : Option Nat) (D : dt) (H : Heap) (locs : List Loc) (ls : Array Slot), Is S ad o0 a0 2 → (∀ z, os0 = some z → z < sN S ∧ sK S z = 6) → Wd G cA S D ad A s H locs → lv_has ls 9 [(0, .ref a0), (1, .long x1), (3, .int x3)] → f_X2_findValue_28 S o0 x1 x3 os0 D = some (r, D') → W p l e R s m args below meth c H locs 0 0 (MQ below (Qn (some (.int r)) True (wpost G cA S D' ad A) A) args s 0 0 A) (F0 m 28 ls [va_rf (os0.map ad)]) := by
  obtain ⟨hx, hb, -⟩ := id hC
  intro o0 a0 x1 x3 os0 D H locs ls hi0 his0 hw hl h
  unfold f_X2_findValue_28 at h
  cases os0 with
  | none =>
    have h := oqN h
    have hl : lv_has ls 9 [(0, .ref a0), (1, .long x1), (3, .int x3)] := hl
    refine lv_astoreN (lv' := [(6, .null), (0, .ref a0), (1, .long x1), (3, .int x3)]) hx hb dX2_findValue_28 hl (by decide) rfl (fun ls hl => ?_)
    refine lv_lload_n hx hb dX2_findValue_30 rfl (lv_at hl 2 rfl) ?_
    refine lv_bipush (v := 12) hx hb dX2_findValue_31 (by decide) ?_
    refine lv_lshr (v := j_lshr x1 (12 : Int32)) hx hb dX2_findValue_33 rfl ?_
    refine lv_l2i (v := (j_lshr x1 (12 : Int32)).toInt32) hx hb dX2_findValue_34 rfl ?_
    refine lv_sipush (v := 4095) hx hb dX2_findValue_35 (by decide) ?_
    refine lv_iand hx hb dX2_findValue_38 ?_
    refine lv_topi (fun y19 ey19 => ?_)
    have h := nm_i h y19 ey19
    refine lv_istore (lv' := [(7, .int y19), (6, .null), (0, .ref a0), (1, .long x1), (3, .int x3)]) hx hb dX2_findValue_39 hl (by decide) rfl (fun ls hl => ?_)
    refine lv_lload_n hx hb dX2_findValue_41 rfl (lv_at hl 3 rfl) ?_
    refine lv_l2i (v := x1.toInt32) hx hb dX2_findValue_42 rfl ?_
    refine lv_sipush (v := 4095) hx hb dX2_findValue_43 (by decide) ?_
    refine lv_iand hx hb dX2_findValue_46 ?_
    refine lv_topi (fun y20 ey20 => ?_)
    have h := nm_i h y20 ey20
    refine lv_istore (lv' := [(8, .int y20), (7, .int y19), (6, .null), (0, .ref a0), (1, .long x1), (3, .int x3)]) hx hb dX2_findValue_47 hl (by decide) rfl (fun ls hl => ?_)
    refine lv_aloadN hx hb dX2_findValue_49 (lv_at hl 2 rfl) ?_
    refine lv_ifnullN (tgt := 76) hx hb dX2_findValue_51 (by decide) ?_
    refine lv_iconst (v := 0) hx hb dX2_findValue_76 (by decide) ?_
    cases h
    exact r_zret hC hw (Or.inl rfl) dX2_findValue_77
  | some os0 =>
    have h := oqS h
    have his0 : Is S ad os0 (ad os0) 6 := ⟨(his0 os0 rfl).1, (his0 os0 rfl).2, rfl⟩
    have hl : lv_has ls 9 [(0, .ref a0), (1, .long x1), (3, .int x3)] := hl
    refine lv_astore (lv' := [(6, .ref (ad os0)), (0, .ref a0), (1, .long x1), (3, .int x3)]) hx hb dX2_findValue_28 hl (by decide) rfl (fun ls hl => ?_)
    refine lv_lload_n hx hb dX2_findValue_30 rfl (lv_at hl 2 rfl) ?_
    refine lv_bipush (v := 12) hx hb dX2_findValue_31 (by decide) ?_
    refine lv_lshr (v := j_lshr x1 (12 : Int32)) hx hb dX2_findValue_33 rfl ?_
    refine lv_l2i (v := (j_lshr x1 (12 : Int32)).toInt32) hx hb dX2_findValue_34 rfl ?_
    refine lv_sipush (v := 4095) hx hb dX2_findValue_35 (by decide) ?_
    refine lv_iand hx hb dX2_findValue_38 ?_
    refine lv_topi (fun y21 ey21 => ?_)
    have h := nm_i h y21 ey21
    refine lv_istore (lv' := [(7, .int y21), (6, .ref (ad os0)), (0, .ref a0), (1, .long x1), (3, .int x3)]) hx hb dX2_findValue_39 hl (by decide) rfl (fun ls hl => ?_)
    refine lv_lload_n hx hb dX2_findValue_41 rfl (lv_at hl 3 rfl) ?_
    refine lv_l2i (v := x1.toInt32) hx hb dX2_findValue_42 rfl ?_
    refine lv_sipush (v := 4095) hx hb dX2_findValue_43 (by decide) ?_
    refine lv_iand hx hb dX2_findValue_46 ?_
    refine lv_topi (fun y22 ey22 => ?_)
    have h := nm_i h y22 ey22
    refine lv_istore (lv' := [(8, .int y22), (7, .int y21), (6, .ref (ad os0)), (0, .ref a0), (1, .long x1), (3, .int x3)]) hx hb dX2_findValue_47 hl (by decide) rfl (fun ls hl => ?_)
    refine lv_aload hx hb dX2_findValue_49 (lv_at hl 2 rfl) ?_
    refine lv_ifnull hx hb dX2_findValue_51 ?_
    refine lv_iload hx hb dX2_findValue_54 (lv_at hl 1 rfl) ?_
    refine lv_aload hx hb dX2_findValue_56 (lv_at hl 2 rfl) ?_
    refine r_gI hC hw kc_6 his0 3 rfl lk_411 dX2_findValue_58 ?_
    refine lv_icmp_ge (tgt := 76) hx hb dX2_findValue_61 (by decide) (fun c23 => ?_) (fun c23 => ?_)
    · have h := i_yes c23 h
      refine lv_iconst (v := 0) hx hb dX2_findValue_76 (by decide) ?_
      cases h
      exact r_zret hC hw (Or.inl rfl) dX2_findValue_77
    · have h := i_no c23 h
      refine lv_iload hx hb dX2_findValue_64 (lv_at hl 0 rfl) ?_
      refine lv_aload hx hb dX2_findValue_66 (lv_at hl 2 rfl) ?_
      refine r_gI hC hw kc_6 his0 2 rfl lk_407 dX2_findValue_68 ?_
      refine lv_iload_n hx hb dX2_findValue_71 rfl (lv_at hl 5 rfl) ?_
      refine lv_isub hx hb dX2_findValue_72 ?_
      refine lv_icmp_le (tgt := 78) hx hb dX2_findValue_73 (by decide) (fun c24 => ?_) (fun c24 => ?_)
      · have h := i_yes c24 h
        refine lv_aload_n hx hb dX2_findValue_78 rfl (lv_at hl 3 rfl) ?_
        refine lv_aload hx hb dX2_findValue_79 (lv_at hl 2 rfl) ?_
        obtain ⟨o25, ho28, h⟩ := rq_i h
        refine r_getR hC hw kc_6 his0 6 rfl lk_415 dX2_findValue_81 rfl ho28 (fun a26 hi27 => ?_)
        refine r_pR hC hw kc_2 hi0 6 rfl lk_193 rfl rfl rfl rfl hi27 dX2_findValue_84 (fun D29 eD29 H locs hw => ?_)
        have h := nm_i h D29 eD29
        refine lv_aload_n hx hb dX2_findValue_87 rfl (lv_at hl 3 rfl) ?_
        refine lv_iload hx hb dX2_findValue_88 (lv_at hl 1 rfl) ?_
        refine lv_aload hx hb dX2_findValue_90 (lv_at hl 2 rfl) ?_
        refine r_gI hC hw kc_6 his0 2 rfl lk_407 dX2_findValue_92 ?_
        refine lv_imul hx hb dX2_findValue_95 ?_
        refine lv_iload hx hb dX2_findValue_96 (lv_at hl 0 rfl) ?_
        refine lv_iadd hx hb dX2_findValue_98 ?_
        refine r_pI hC hw kc_2 hi0 7 rfl lk_194 rfl rfl rfl dX2_findValue_99 (fun D30 eD30 H locs hw => ?_)
        have h := nm_i h D30 eD30
        refine lv_iconst (v := 1) hx hb dX2_findValue_102 (by decide) ?_
        cases h
        exact r_zret hC hw (Or.inr rfl) dX2_findValue_103
      · have h := i_no c24 h
        refine lv_iconst (v := 0) hx hb dX2_findValue_76 (by decide) ?_
        cases h
        exact r_zret hC hw (Or.inl rfl) dX2_findValue_77
set_option maxHeartbeats 4000000 in
set_option maxRecDepth 100000 in
theorem w_X2_findValue_0 {r : Int32} {D' : dt} (hC : Cx RX2 cX2_findValue 9 (some .boolean) p s m args meth c) (hR : 1 ≤ R.frames ∧ 21 ≤ R.locals) : ∀ (o0 a0 : Nat) (x1 : Int64) (x3 : Int32) (D : dt) (H : Heap) (locs : List Loc) (ls : Array Slot), Is S ad o0 a0 2 → Wd G cA S D ad A s H locs → lv_has ls 9 [(0, .ref a0), (1, .long x1), (3, .int x3)] → f_X2_findValue S o0 x1 x3 D = some (r, D') → W p l e R s m args below meth c H locs 0 0 (MQ below (Qn (some (.int r)) True (wpost G cA S D' ad A) A) args s 0 0 A) (F0 m 0 ls []) := by
  obtain ⟨hx, hb, -⟩ := id hC
  intro o0 a0 x1 x3 D H locs ls hi0 hw hl h
  unfold f_X2_findValue at h
  refine lv_lload_n hx hb dX2_findValue_0 rfl (lv_at hl 1 rfl) ?_
  refine lv_bipush (v := 24) hx hb dX2_findValue_1 (by decide) ?_
  refine lv_lshr (v := j_lshr x1 (24 : Int32)) hx hb dX2_findValue_3 rfl ?_
  refine lv_topl (fun y31 ey31 => ?_)
  have h := nm_i h y31 ey31
  refine lv_lstore (lv' := [(4, .long y31), (0, .ref a0), (1, .long x1), (3, .int x3)]) hx hb dX2_findValue_4 hl (by decide) rfl (fun ls hl => ?_)
  refine lv_lload hx hb dX2_findValue_6 (lv_at hl 0 rfl) ?_
  refine lv_aload_n hx hb dX2_findValue_8 rfl (lv_at hl 1 rfl) ?_
  refine r_gI hC hw kc_2 hi0 4 rfl lk_189 dX2_findValue_9 ?_
  refine lv_i2l (v := (gI D o0 4).toInt64) hx hb dX2_findValue_12 rfl ?_
  refine W.lcmp hx hb dX2_findValue_13 ?_
  refine lv_if_ge (tgt := 27) hx hb dX2_findValue_14 (by decide) (fun c32 => ?_) (fun c32 => ?_)
  · have h := i_yes c32 h
    refine lv_null hx hb dX2_findValue_27 ?_
    exact w_X2_findValue_28 hC hR o0 a0 x1 x3 none _ _ _ _ hi0 (fun _ q => nomatch q) hw (lv_sub hl [1, 2, 3] rfl) h
  · have h := i_no c32 h
    refine lv_aload_n hx hb dX2_findValue_17 rfl (lv_at hl 1 rfl) ?_
    refine lv_lload hx hb dX2_findValue_18 (lv_at hl 0 rfl) ?_
    refine lv_l2i (v := y31.toInt32) hx hb dX2_findValue_20 rfl ?_
    obtain ⟨r34, hq33, h⟩ := pq_i h
    refine r_cV (st' := [va_rf (r34.map ad)]) [.int y31.toInt32] [] hC hw kc_2 hi0 (k_X2_tableNumbered _ hi0 hq33) mk_X2_tableNumbered lk_936 ⟨Nat.le_trans (by decide) hR.1, Nat.le_trans (by decide) hR.2⟩ ⟨Nat.zero_le _, Nat.zero_le _⟩ rfl hl.1 rfl rfl (Nat.le_of_ble_eq_true rfl) dX2_findValue_21 (fun hP H locs hw => ?_)
    cases r34 with
    | none =>
      have h := oqN h
      refine W.eq (g2 := F0 m 24 ls [.null]) rfl ?_
      refine lv_goto (tgt := 28) hx hb dX2_findValue_24 (by decide) ?_
      exact w_X2_findValue_28 hC hR o0 a0 x1 x3 none _ _ _ _ hi0 (fun _ q => nomatch q) hw (lv_sub hl [1, 2, 3] rfl) h
    | some o35 =>
      have h := oqS h
      have hi36 : Is S ad o35 (ad o35) 6 := ⟨(hP o35 rfl).1, (hP o35 rfl).2, rfl⟩
      refine W.eq (g2 := F0 m 24 ls [.ref (ad o35)]) rfl ?_
      refine lv_goto (tgt := 28) hx hb dX2_findValue_24 (by decide) ?_
      exact w_X2_findValue_28 hC hR o0 a0 x1 x3 (some o35) _ _ _ _ hi0 (fun z q => by cases q; exact ⟨hi36.1, hi36.2.1⟩) hw (lv_sub hl [1, 2, 3] rfl) h
set_option maxHeartbeats 4000000 in
set_option maxRecDepth 100000 in
theorem k_X2_findValue {l : Launch} {G : va_G} {cA : Nat → ClassId} {S : sh} {D D' : dt} {ad : Nat → Nat} (sz : Nat) {o0 a0 : Nat} {x1 : Int64} {x3 : Int32} {r : Int32} (hi0 : Is S ad o0 a0 2) (h : f_X2_findValue S o0 x1 x3 D = some (r, D')) : Co l yX2_findValue (Cond.code yX2_findValue cX2_findValue 9 (some .boolean) :: tb0) 1 21 [.ref a0, .long x1, .int x3] G cA S D ad sz (some (.int r)) True D' := by
  refine Met.ofW (cc := cX2_findValue) (maxL := 9) (ret := (some .boolean)) (by decide) rfl ?_
  intro p e s m args below meth c s₁ B hml hv
  obtain ⟨rfl, hsz, hP, hK, hD0, hT, hX⟩ := hv
  subst hsz
  have hts := atoms_spec (ws := Cond.code yX2_findValue cX2_findValue 9 (some .boolean) :: tb0) B.pre
  have hC : Cx RX2 cX2_findValue 9 (some .boolean) p s m _ meth c := ⟨B.exec, B.bytes, hml, findClass_of_methodNamed B.named, fun w q => hts w (List.mem_cons_of_mem _ q), B.returns, B.notSynchronized⟩
  have hw := Wd.entry hP hK hD0 hT hX
  have hl := lv_entry ([.ref a0, .long x1, .int x3]) (n := 9) (Nat.le_of_ble_eq_true rfl)
  rw [lg_entry_eq]
  exact w_X2_findValue_0 hC ⟨Nat.le_refl _, Nat.le_refl _⟩ o0 a0 x1 x3 D _ _ _ hi0 hw hl h
set_option maxHeartbeats 4000000 in
set_option maxRecDepth 100000 in
theorem w_X2_findIn_0 {r : Int32} {D' : dt} (hC : Cx RX2 cX2_findIn 6 (some .boolean) p s m args meth c) (hR : 0 ≤ R.frames ∧ 0 ≤ R.locals) : ∀ (o0 a0 : Nat) (o1 a1 : Nat) (x2 : Int64) (x4 : Int32) (x5 : Int32) (D : dt) (H : Heap) (locs : List Loc) (ls : Array Slot), Is S ad o0 a0 2 → Is S ad o1 a1 102 → Wd G cA S D ad A s H locs → lv_has ls 6 [(0, .ref a0), (1, .ref a1), (2, .long x2), (4, .int x4), (5, .int x5)] → f_X2_findIn S o0 o1 x2 x4 x5 D = some (r, D') → W p l e R s m args below meth c H locs 0 0 (MQ below (Qn (some (.int r)) True (wpost G cA S D' ad A) A) args s 0 0 A) (F0 m 0 ls []) := by
  obtain ⟨hx, hb, -⟩ := id hC
  intro o0 a0 o1 a1 x2 x4 x5 D H locs ls hi0 hi1 hw hl h
  unfold f_X2_findIn at h
  refine lv_lload_n hx hb dX2_findIn_0 rfl (lv_at hl 2 rfl) ?_
  refine lv_lconst (v := 0) hx hb dX2_findIn_1 (by decide) ?_
  refine W.lcmp hx hb dX2_findIn_2 ?_
  refine lv_if_lt (tgt := 17) hx hb dX2_findIn_3 (by decide) (fun c5 => ?_) (fun c5 => ?_)
  · have h := i_yes c5 h
    refine lv_iconst (v := 0) hx hb dX2_findIn_17 (by decide) ?_
    cases h
    exact r_zret hC hw (Or.inl rfl) dX2_findIn_18
  · have h := i_no c5 h
    refine lv_lload_n hx hb dX2_findIn_6 rfl (lv_at hl 2 rfl) ?_
    refine lv_iload hx hb dX2_findIn_7 (lv_at hl 3 rfl) ?_
    refine lv_iload hx hb dX2_findIn_9 (lv_at hl 4 rfl) ?_
    refine lv_isub hx hb dX2_findIn_11 ?_
    refine lv_i2l (v := (x4 - x5).toInt64) hx hb dX2_findIn_12 rfl ?_
    refine W.lcmp hx hb dX2_findIn_13 ?_
    refine lv_if_le (tgt := 19) hx hb dX2_findIn_14 (by decide) (fun c6 => ?_) (fun c6 => ?_)
    · have h := i_yes c6 h
      refine lv_aload_n hx hb dX2_findIn_19 rfl (lv_at hl 0 rfl) ?_
      refine lv_aload_n hx hb dX2_findIn_20 rfl (lv_at hl 1 rfl) ?_
      refine r_pR hC hw kc_2 hi0 6 rfl lk_193 rfl rfl rfl rfl hi1 dX2_findIn_21 (fun D7 eD7 H locs hw => ?_)
      have h := nm_i h D7 eD7
      refine lv_aload_n hx hb dX2_findIn_24 rfl (lv_at hl 0 rfl) ?_
      refine lv_lload_n hx hb dX2_findIn_25 rfl (lv_at hl 2 rfl) ?_
      refine lv_l2i (v := x2.toInt32) hx hb dX2_findIn_26 rfl ?_
      refine r_pI hC hw kc_2 hi0 7 rfl lk_194 rfl rfl rfl dX2_findIn_27 (fun D8 eD8 H locs hw => ?_)
      have h := nm_i h D8 eD8
      refine lv_iconst (v := 1) hx hb dX2_findIn_30 (by decide) ?_
      cases h
      exact r_zret hC hw (Or.inr rfl) dX2_findIn_31
    · have h := i_no c6 h
      refine lv_iconst (v := 0) hx hb dX2_findIn_17 (by decide) ?_
      cases h
      exact r_zret hC hw (Or.inl rfl) dX2_findIn_18
set_option maxHeartbeats 4000000 in
set_option maxRecDepth 100000 in
theorem k_X2_findIn {l : Launch} {G : va_G} {cA : Nat → ClassId} {S : sh} {D D' : dt} {ad : Nat → Nat} (sz : Nat) {o0 a0 : Nat} {o1 a1 : Nat} {x2 : Int64} {x4 : Int32} {x5 : Int32} {r : Int32} (hi0 : Is S ad o0 a0 2) (hi1 : Is S ad o1 a1 102) (h : f_X2_findIn S o0 o1 x2 x4 x5 D = some (r, D')) : Co l yX2_findIn (Cond.code yX2_findIn cX2_findIn 6 (some .boolean) :: tb0) 0 0 [.ref a0, .ref a1, .long x2, .int x4, .int x5] G cA S D ad sz (some (.int r)) True D' := by
  refine Met.ofW (cc := cX2_findIn) (maxL := 6) (ret := (some .boolean)) (by decide) rfl ?_
  intro p e s m args below meth c s₁ B hml hv
  obtain ⟨rfl, hsz, hP, hK, hD0, hT, hX⟩ := hv
  subst hsz
  have hts := atoms_spec (ws := Cond.code yX2_findIn cX2_findIn 6 (some .boolean) :: tb0) B.pre
  have hC : Cx RX2 cX2_findIn 6 (some .boolean) p s m _ meth c := ⟨B.exec, B.bytes, hml, findClass_of_methodNamed B.named, fun w q => hts w (List.mem_cons_of_mem _ q), B.returns, B.notSynchronized⟩
  have hw := Wd.entry hP hK hD0 hT hX
  have hl := lv_entry ([.ref a0, .ref a1, .long x2, .int x4, .int x5]) (n := 6) (Nat.le_of_ble_eq_true rfl)
  rw [lg_entry_eq]
  exact w_X2_findIn_0 hC ⟨Nat.le_refl _, Nat.le_refl _⟩ o0 a0 o1 a1 x2 x4 x5 D _ _ _ hi0 hi1 hw hl h
set_option maxHeartbeats 4000000 in
set_option maxRecDepth 100000 in
theorem w_X2_find_0 {r : Int32} {D' : dt} (hC : Cx RX2 cX2_find 7 (some .boolean) p s m args meth c) (hR : 2 ≤ R.frames ∧ 49 ≤ R.locals) : ∀ (o0 a0 : Nat) (x1 : Int64) (x3 : Int32) (x4 : Int32) (D : dt) (H : Heap) (locs : List Loc) (ls : Array Slot), Is S ad o0 a0 2 → Wd G cA S D ad A s H locs → lv_has ls 7 [(0, .ref a0), (1, .long x1), (3, .int x3), (4, .int x4)] → f_X2_find S o0 x1 x3 x4 D = some (r, D') → W p l e R s m args below meth c H locs 0 0 (MQ below (Qn (some (.int r)) True (wpost G cA S D' ad A) A) args s 0 0 A) (F0 m 0 ls []) := by
  obtain ⟨hx, hb, -⟩ := id hC
  intro o0 a0 x1 x3 x4 D H locs ls hi0 hw hl h
  unfold f_X2_find at h
  refine lv_lload_n hx hb dX2_find_0 rfl (lv_at hl 1 rfl) ?_
  refine lv_ldc2 (v := 34359738368) hx hb hC.2.2.2.1 (hC.2.2.2.2.1 _ lk_931) dX2_find_1 ?_
  refine W.lcmp hx hb dX2_find_4 ?_
  refine lv_if_lt (tgt := 19) hx hb dX2_find_5 (by decide) (fun c25 => ?_) (fun c25 => ?_)
  · have h := i_yes c25 h
    refine lv_lload_n hx hb dX2_find_19 rfl (lv_at hl 1 rfl) ?_
    refine lv_ldc2 (v := 8589934080) hx hb hC.2.2.2.1 (hC.2.2.2.2.1 _ lk_937) dX2_find_20 ?_
    refine lv_lsub hx hb dX2_find_23 ?_
    refine lv_topl (fun y26 ey26 => ?_)
    have h := nm_i h y26 ey26
    refine lv_lstore (lv' := [(5, .long y26), (0, .ref a0), (1, .long x1), (3, .int x3), (4, .int x4)]) hx hb dX2_find_24 hl (by decide) rfl (fun ls hl => ?_)
    refine lv_lload hx hb dX2_find_26 (lv_at hl 0 rfl) ?_
    refine lv_lconst (v := 0) hx hb dX2_find_28 (by decide) ?_
    refine W.lcmp hx hb dX2_find_29 ?_
    refine lv_if_lt (tgt := 48) hx hb dX2_find_30 (by decide) (fun c27 => ?_) (fun c27 => ?_)
    · have h := i_yes c27 h
      refine lv_iload hx hb dX2_find_48 (lv_at hl 4 rfl) ?_
      refine lv_if_ne (tgt := 78) hx hb dX2_find_50 (by decide) (fun c28 => ?_) (fun c28 => ?_)
      · have h := i_no c28 h
        refine lv_iconst (v := 0) hx hb dX2_find_78 (by decide) ?_
        cases h
        exact r_zret hC hw (Or.inl rfl) dX2_find_79
      · have h := i_yes c28 h
        refine lv_aload_n hx hb dX2_find_53 rfl (lv_at hl 1 rfl) ?_
        refine lv_aload_n hx hb dX2_find_54 rfl (lv_at hl 1 rfl) ?_
        obtain ⟨o29, ho32, h⟩ := rq_i h
        refine r_getR hC hw kc_2 hi0 0 rfl lk_181 dX2_find_55 rfl ho32 (fun a30 hi31 => ?_)
        refine lv_lload_n hx hb dX2_find_58 rfl (lv_at hl 2 rfl) ?_
        refine lv_ldc2 (v := 4294967296) hx hb hC.2.2.2.1 (hC.2.2.2.2.1 _ lk_942) dX2_find_59 ?_
        refine lv_lsub hx hb dX2_find_62 ?_
        refine lv_aload_n hx hb dX2_find_63 rfl (lv_at hl 1 rfl) ?_
        refine r_gI hC hw kc_2 hi0 1 rfl lk_183 dX2_find_64 ?_
        refine lv_iload_n hx hb dX2_find_67 rfl (lv_at hl 3 rfl) ?_
        obtain ⟨r34, D35, hq33, h⟩ := cq_i h
        refine r_cV (st' := [.int r34]) [.ref a30, .long (x1 - (4294967296 : Int64)), .int (gI D o0 1), .int x3] [] hC hw kc_2 hi0 (k_X2_findIn _ hi0 hi31 hq33) mk_X2_findIn lk_938 ⟨Nat.le_trans (by decide) hR.1, Nat.le_trans (by decide) hR.2⟩ ⟨Nat.zero_le _, Nat.zero_le _⟩ rfl hl.1 rfl rfl (Nat.le_of_ble_eq_true rfl) dX2_find_68 (fun hP H locs hw => ?_)
        refine lv_if_eq (tgt := 78) hx hb dX2_find_71 (by decide) (fun c36 => ?_) (fun c36 => ?_)
        · have h := i_yes c36 h
          refine lv_iconst (v := 0) hx hb dX2_find_78 (by decide) ?_
          cases h
          exact r_zret hC hw (Or.inl rfl) dX2_find_79
        · have h := i_no c36 h
          refine lv_iconst (v := 1) hx hb dX2_find_74 (by decide) ?_
          refine lv_goto (tgt := 79) hx hb dX2_find_75 (by decide) ?_
          cases h
          exact r_zret hC hw (Or.inr rfl) dX2_find_79
    · have h := i_no c27 h
      refine lv_aload_n hx hb dX2_find_33 rfl (lv_at hl 1 rfl) ?_
      refine lv_aload_n hx hb dX2_find_34 rfl (lv_at hl 1 rfl) ?_
      obtain ⟨o37, ho40, h⟩ := rq_i h
      refine r_getR hC hw kc_2 hi0 2 rfl lk_186 dX2_find_35 rfl ho40 (fun a38 hi39 => ?_)
      refine lv_lload hx hb dX2_find_38 (lv_at hl 0 rfl) ?_
      refine lv_sipush (v := 512) hx hb dX2_find_40 (by decide) ?_
      refine lv_iload_n hx hb dX2_find_43 rfl (lv_at hl 3 rfl) ?_
      obtain ⟨r42, D43, hq41, h⟩ := cq_i h
      refine r_cV (st' := [.int r42]) [.ref a38, .long y26, .int (512 : Int32), .int x3] [] hC hw kc_2 hi0 (k_X2_findIn _ hi0 hi39 hq41) mk_X2_findIn lk_938 ⟨Nat.le_trans (by decide) hR.1, Nat.le_trans (by decide) hR.2⟩ ⟨Nat.zero_le _, Nat.zero_le _⟩ rfl hl.1 rfl rfl (Nat.le_of_ble_eq_true rfl) dX2_find_44 (fun hP H locs hw => ?_)
      obtain ⟨hz44, h⟩ := ck_i h
      cases h
      exact r_zret hC hw hz44 dX2_find_47
  · have h := i_no c25 h
    refine lv_aload_n hx hb dX2_find_8 rfl (lv_at hl 0 rfl) ?_
    refine lv_lload_n hx hb dX2_find_9 rfl (lv_at hl 1 rfl) ?_
    refine lv_ldc2 (v := 34359738368) hx hb hC.2.2.2.1 (hC.2.2.2.2.1 _ lk_931) dX2_find_10 ?_
    refine lv_lsub hx hb dX2_find_13 ?_
    refine lv_iload_n hx hb dX2_find_14 rfl (lv_at hl 2 rfl) ?_
    obtain ⟨r46, D47, hq45, h⟩ := cq_i h
    refine r_cV (st' := [.int r46]) [.long (x1 - (34359738368 : Int64)), .int x3] [] hC hw kc_2 hi0 (k_X2_findValue _ hi0 hq45) mk_X2_findValue lk_932 ⟨Nat.le_trans (by decide) hR.1, Nat.le_trans (by decide) hR.2⟩ ⟨Nat.zero_le _, Nat.zero_le _⟩ rfl hl.1 rfl rfl (Nat.le_of_ble_eq_true rfl) dX2_find_15 (fun hP H locs hw => ?_)
    obtain ⟨hz48, h⟩ := ck_i h
    cases h
    exact r_zret hC hw hz48 dX2_find_18
set_option maxHeartbeats 4000000 in
set_option maxRecDepth 100000 in
theorem k_X2_find {l : Launch} {G : va_G} {cA : Nat → ClassId} {S : sh} {D D' : dt} {ad : Nat → Nat} (sz : Nat) {o0 a0 : Nat} {x1 : Int64} {x3 : Int32} {x4 : Int32} {r : Int32} (hi0 : Is S ad o0 a0 2) (h : f_X2_find S o0 x1 x3 x4 D = some (r, D')) : Co l yX2_find (Cond.code yX2_find cX2_find 7 (some .boolean) :: tb0) 2 49 [.ref a0, .long x1, .int x3, .int x4] G cA S D ad sz (some (.int r)) True D' := by
  refine Met.ofW (cc := cX2_find) (maxL := 7) (ret := (some .boolean)) (by decide) rfl ?_
  intro p e s m args below meth c s₁ B hml hv
  obtain ⟨rfl, hsz, hP, hK, hD0, hT, hX⟩ := hv
  subst hsz
  have hts := atoms_spec (ws := Cond.code yX2_find cX2_find 7 (some .boolean) :: tb0) B.pre
  have hC : Cx RX2 cX2_find 7 (some .boolean) p s m _ meth c := ⟨B.exec, B.bytes, hml, findClass_of_methodNamed B.named, fun w q => hts w (List.mem_cons_of_mem _ q), B.returns, B.notSynchronized⟩
  have hw := Wd.entry hP hK hD0 hT hX
  have hl := lv_entry ([.ref a0, .long x1, .int x3, .int x4]) (n := 7) (Nat.le_of_ble_eq_true rfl)
  rw [lg_entry_eq]
  exact w_X2_find_0 hC ⟨Nat.le_refl _, Nat.le_refl _⟩ o0 a0 x1 x3 x4 D _ _ _ hi0 hw hl h
set_option maxHeartbeats 4000000 in
set_option maxRecDepth 100000 in
theorem w_X2_foundNumber_7 {r : Int64} (hC : Cx RX2 cX2_foundNumber 5 (some .long) p s m args meth c) (hR : 0 ≤ R.frames ∧ 0 ≤ R.locals) : ∀ (n : Nat), ∀ (o0 a0 : Nat) (x2 : Int64) (x4 : Int32) (H : Heap) (locs : List Loc) (ls : Array Slot), Is S ad o0 a0 2 → Wd G cA S D ad A s H locs → lv_has ls 5 [(0, .ref a0), (2, .long x2), (4, .int x4)] → f_X2_foundNumber_7 S D n o0 x2 x4 = some r → W p l e R s m args below meth c H locs 0 0 (MQ below (Qn (some (.long r)) True (wpost G cA S D ad A) A) args s 0 0 A) (F0 m 7 ls []) := by
  obtain ⟨hx, hb, -⟩ := id hC
  intro n
  induction n with
  | zero =>
    intro o0 a0 x2 x4 H locs ls hi0 hw hl h
    rw [f_X2_foundNumber_7.eq_1] at h
    cases h
  | succ n ih =>
    intro o0 a0 x2 x4 H locs ls hi0 hw hl h
    rw [f_X2_foundNumber_7.eq_2] at h
    refine lv_iload hx hb dX2_foundNumber_7 (lv_at hl 2 rfl) ?_
    refine lv_if_lt (tgt := 41) hx hb dX2_foundNumber_9 (by decide) (fun c11 => ?_) (fun c11 => ?_)
    · have h := i_yes c11 h
      refine lv_lload_n hx hb dX2_foundNumber_41 rfl (lv_at hl 1 rfl) ?_
      cases h
      exact r_lret hC hw dX2_foundNumber_42
    · have h := i_no c11 h
      refine lv_lload_n hx hb dX2_foundNumber_12 rfl (lv_at hl 1 rfl) ?_
      refine lv_bipush (v := 8) hx hb dX2_foundNumber_13 (by decide) ?_
      refine lv_lshl (v := j_lshl x2 (8 : Int32)) hx hb dX2_foundNumber_15 rfl ?_
      refine lv_aload_n hx hb dX2_foundNumber_16 rfl (lv_at hl 0 rfl) ?_
      obtain ⟨o12, ho15, h⟩ := rq_i h
      refine r_getR hC hw kc_2 hi0 6 rfl lk_193 dX2_foundNumber_17 rfl ho15 (fun a13 hi14 => ?_)
      refine lv_aload_n hx hb dX2_foundNumber_20 rfl (lv_at hl 0 rfl) ?_
      refine r_gI hC hw kc_2 hi0 7 rfl lk_194 dX2_foundNumber_21 ?_
      refine lv_iload hx hb dX2_foundNumber_24 (lv_at hl 2 rfl) ?_
      refine lv_iadd hx hb dX2_foundNumber_26 ?_
      obtain ⟨hn16, h⟩ := ix_i h
      refine r_bald hC hw hi14 hn16 dX2_foundNumber_27 ?_
      refine lv_sipush (v := 255) hx hb dX2_foundNumber_28 (by decide) ?_
      refine lv_iand hx hb dX2_foundNumber_31 ?_
      refine lv_i2l (v := ((gI D o12 ((gI D o0 7) + x4).toNatClampNeg) &&& (255 : Int32)).toInt64) hx hb dX2_foundNumber_32 rfl ?_
      refine lv_lor hx hb dX2_foundNumber_33 ?_
      refine lv_topl (fun y17 ey17 => ?_)
      have h := nm_i h y17 ey17
      refine lv_lstore_n (lv' := [(2, .long y17), (0, .ref a0), (4, .int x4)]) hx hb dX2_foundNumber_34 rfl hl (by decide) rfl (fun ls hl => ?_)
      obtain ⟨y18, ey18⟩ : ∃ z : Int32, z = x4 + (-1) := ⟨_, rfl⟩
      have h := nm_i h y18 ey18
      refine lv_iinc (v := y18) (lv' := [(4, .int y18), (2, .long y17), (0, .ref a0)]) hx hb dX2_foundNumber_35 hl (k := 2) rfl (by rw [ey18]; rfl) (by decide) rfl (fun ls hl => ?_)
      refine lv_goto (tgt := 7) hx hb dX2_foundNumber_38 (by decide) ?_
      exact ih o0 a0 y17 y18 _ _ _ hi0 hw (lv_sub hl [2, 1, 0] rfl) h
set_option maxHeartbeats 4000000 in
set_option maxRecDepth 100000 in
theorem w_X2_foundNumber_0 {r : Int64} (hC : Cx RX2 cX2_foundNumber 5 (some .long) p s m args meth c) (hR : 0 ≤ R.frames ∧ 0 ≤ R.locals) : ∀ (o0 a0 : Nat) (x1 : Int32) (H : Heap) (locs : List Loc) (ls : Array Slot), Is S ad o0 a0 2 → Wd G cA S D ad A s H locs → lv_has ls 5 [(0, .ref a0), (1, .int x1)] → f_X2_foundNumber S D o0 x1 = some r → W p l e R s m args below meth c H locs 0 0 (MQ below (Qn (some (.long r)) True (wpost G cA S D ad A) A) args s 0 0 A) (F0 m 0 ls []) := by
  obtain ⟨hx, hb, -⟩ := id hC
  intro o0 a0 x1 H locs ls hi0 hw hl h
  unfold f_X2_foundNumber at h
  refine lv_lconst (v := 0) hx hb dX2_foundNumber_0 (by decide) ?_
  refine lv_topl (fun y19 ey19 => ?_)
  have h := nm_i h y19 ey19
  refine lv_lstore_n (lv' := [(2, .long y19), (0, .ref a0), (1, .int x1)]) hx hb dX2_foundNumber_1 rfl hl (by decide) rfl (fun ls hl => ?_)
  refine lv_iload_n hx hb dX2_foundNumber_2 rfl (lv_at hl 2 rfl) ?_
  refine lv_iconst (v := 1) hx hb dX2_foundNumber_3 (by decide) ?_
  refine lv_isub hx hb dX2_foundNumber_4 ?_
  refine lv_topi (fun y20 ey20 => ?_)
  have h := nm_i h y20 ey20
  refine lv_istore (lv' := [(4, .int y20), (2, .long y19), (0, .ref a0), (1, .int x1)]) hx hb dX2_foundNumber_5 hl (by decide) rfl (fun ls hl => ?_)
  exact w_X2_foundNumber_7 hC hR LF o0 a0 y19 y20 _ _ _ hi0 hw (lv_sub hl [2, 1, 0] rfl) h
set_option maxHeartbeats 4000000 in
set_option maxRecDepth 100000 in
theorem k_X2_foundNumber {l : Launch} {G : va_G} {cA : Nat → ClassId} {S : sh} {D : dt} {ad : Nat → Nat} (sz : Nat) {o0 a0 : Nat} {x1 : Int32} {r : Int64} (hi0 : Is S ad o0 a0 2) (h : f_X2_foundNumber S D o0 x1 = some r) : Co l yX2_foundNumber (Cond.code yX2_foundNumber cX2_foundNumber 5 (some .long) :: tb0) 0 0 [.ref a0, .int x1] G cA S D ad sz (some (.long r)) True D := by
  refine Met.ofW (cc := cX2_foundNumber) (maxL := 5) (ret := (some .long)) (by decide) rfl ?_
  intro p e s m args below meth c s₁ B hml hv
  obtain ⟨rfl, hsz, hP, hK, hD0, hT, hX⟩ := hv
  subst hsz
  have hts := atoms_spec (ws := Cond.code yX2_foundNumber cX2_foundNumber 5 (some .long) :: tb0) B.pre
  have hC : Cx RX2 cX2_foundNumber 5 (some .long) p s m _ meth c := ⟨B.exec, B.bytes, hml, findClass_of_methodNamed B.named, fun w q => hts w (List.mem_cons_of_mem _ q), B.returns, B.notSynchronized⟩
  have hw := Wd.entry hP hK hD0 hT hX
  have hl := lv_entry ([.ref a0, .int x1]) (n := 5) (Nat.le_of_ble_eq_true rfl)
  rw [lg_entry_eq]
  exact w_X2_foundNumber_0 hC ⟨Nat.le_refl _, Nat.le_refl _⟩ o0 a0 x1 _ _ _ hi0 hw hl h
set_option maxHeartbeats 4000000 in
set_option maxRecDepth 100000 in
theorem w_X2_writeFound_3 {r : Unit} {D' : dt} (hC : Cx RX2 cX2_writeFound 5 none p s m args meth c) (hR : 0 ≤ R.frames ∧ 0 ≤ R.locals) : ∀ (n : Nat), ∀ (o0 a0 : Nat) (x1 : Int64) (x3 : Int32) (x4 : Int32) (D : dt) (H : Heap) (locs : List Loc) (ls : Array Slot), Is S ad o0 a0 2 → Wd G cA S D ad A s H locs → lv_has ls 5 [(0, .ref a0), (1, .long x1), (3, .int x3), (4, .int x4)] → f_X2_writeFound_3 S n o0 x1 x3 x4 D = some (r, D') → W p l e R s m args below meth c H locs 0 0 (MQ below (Qn none True (wpost G cA S D' ad A) A) args s 0 0 A) (F0 m 3 ls []) := by
  obtain ⟨hx, hb, -⟩ := id hC
  intro n
  induction n with
  | zero =>
    intro o0 a0 x1 x3 x4 D H locs ls hi0 hw hl h
    rw [f_X2_writeFound_3.eq_1] at h
    cases h
  | succ n ih =>
    intro o0 a0 x1 x3 x4 D H locs ls hi0 hw hl h
    rw [f_X2_writeFound_3.eq_2] at h
    refine lv_iload hx hb dX2_writeFound_3 (lv_at hl 3 rfl) ?_
    refine lv_iload_n hx hb dX2_writeFound_5 rfl (lv_at hl 2 rfl) ?_
    refine lv_icmp_ge (tgt := 36) hx hb dX2_writeFound_6 (by decide) (fun c10 => ?_) (fun c10 => ?_)
    · have h := i_yes c10 h
      cases h
      exact r_vret hC hw dX2_writeFound_36
    · have h := i_no c10 h
      refine lv_aload_n hx hb dX2_writeFound_9 rfl (lv_at hl 0 rfl) ?_
      obtain ⟨o11, ho14, h⟩ := rq_i h
      refine r_getR hC hw kc_2 hi0 6 rfl lk_193 dX2_writeFound_10 rfl ho14 (fun a12 hi13 => ?_)
      refine lv_aload_n hx hb dX2_writeFound_13 rfl (lv_at hl 0 rfl) ?_
      refine r_gI hC hw kc_2 hi0 7 rfl lk_194 dX2_writeFound_14 ?_
      refine lv_iload hx hb dX2_writeFound_17 (lv_at hl 3 rfl) ?_
      refine lv_iadd hx hb dX2_writeFound_19 ?_
      refine lv_lload_n hx hb dX2_writeFound_20 rfl (lv_at hl 1 rfl) ?_
      refine lv_bipush (v := 8) hx hb dX2_writeFound_21 (by decide) ?_
      refine lv_iload hx hb dX2_writeFound_23 (lv_at hl 3 rfl) ?_
      refine lv_imul hx hb dX2_writeFound_25 ?_
      refine lv_lshr (v := j_lshr x1 ((8 : Int32) * x4)) hx hb dX2_writeFound_26 rfl ?_
      refine lv_l2i (v := (j_lshr x1 ((8 : Int32) * x4)).toInt32) hx hb dX2_writeFound_27 rfl ?_
      refine lv_i2b (v := ((j_lshr x1 ((8 : Int32) * x4)).toInt32).toInt8.toInt32) hx hb dX2_writeFound_28 rfl ?_
      obtain ⟨hn15, h⟩ := ix_i h
      refine r_bas hC hw hi13 hn15 dX2_writeFound_29 (fun D16 eD16 H locs hw => ?_)
      have h := nm_i h D16 eD16
      obtain ⟨y17, ey17⟩ : ∃ z : Int32, z = x4 + 1 := ⟨_, rfl⟩
      have h := nm_i h y17 ey17
      refine lv_iinc (v := y17) (lv' := [(4, .int y17), (0, .ref a0), (1, .long x1), (3, .int x3)]) hx hb dX2_writeFound_30 hl (k := 3) rfl (by rw [ey17]; rfl) (by decide) rfl (fun ls hl => ?_)
      refine lv_goto (tgt := 3) hx hb dX2_writeFound_33 (by decide) ?_
      exact ih o0 a0 x1 x3 y17 _ _ _ _ hi0 hw (lv_sub hl [1, 2, 3, 0] rfl) h
set_option maxHeartbeats 4000000 in
set_option maxRecDepth 100000 in
theorem w_X2_writeFound_0 {r : Unit} {D' : dt} (hC : Cx RX2 cX2_writeFound 5 none p s m args meth c) (hR : 0 ≤ R.frames ∧ 0 ≤ R.locals) : ∀ (o0 a0 : Nat) (x1 : Int64) (x3 : Int32) (D : dt) (H : Heap) (locs : List Loc) (ls : Array Slot), Is S ad o0 a0 2 → Wd G cA S D ad A s H locs → lv_has ls 5 [(0, .ref a0), (1, .long x1), (3, .int x3)] → f_X2_writeFound S o0 x1 x3 D = some (r, D') → W p l e R s m args below meth c H locs 0 0 (MQ below (Qn none True (wpost G cA S D' ad A) A) args s 0 0 A) (F0 m 0 ls []) := by
  obtain ⟨hx, hb, -⟩ := id hC
  intro o0 a0 x1 x3 D H locs ls hi0 hw hl h
  unfold f_X2_writeFound at h
  refine lv_iconst (v := 0) hx hb dX2_writeFound_0 (by decide) ?_
  refine lv_topi (fun y18 ey18 => ?_)
  have h := nm_i h y18 ey18
  refine lv_istore (lv' := [(4, .int y18), (0, .ref a0), (1, .long x1), (3, .int x3)]) hx hb dX2_writeFound_1 hl (by decide) rfl (fun ls hl => ?_)
  exact w_X2_writeFound_3 hC hR LF o0 a0 x1 x3 y18 _ _ _ _ hi0 hw (lv_sub hl [1, 2, 3, 0] rfl) h
set_option maxHeartbeats 4000000 in
set_option maxRecDepth 100000 in
theorem k_X2_writeFound {l : Launch} {G : va_G} {cA : Nat → ClassId} {S : sh} {D D' : dt} {ad : Nat → Nat} (sz : Nat) {o0 a0 : Nat} {x1 : Int64} {x3 : Int32} {r : Unit} (hi0 : Is S ad o0 a0 2) (h : f_X2_writeFound S o0 x1 x3 D = some (r, D')) : Co l yX2_writeFound (Cond.code yX2_writeFound cX2_writeFound 5 none :: tb0) 0 0 [.ref a0, .long x1, .int x3] G cA S D ad sz none True D' := by
  refine Met.ofW (cc := cX2_writeFound) (maxL := 5) (ret := none) (by decide) rfl ?_
  intro p e s m args below meth c s₁ B hml hv
  obtain ⟨rfl, hsz, hP, hK, hD0, hT, hX⟩ := hv
  subst hsz
  have hts := atoms_spec (ws := Cond.code yX2_writeFound cX2_writeFound 5 none :: tb0) B.pre
  have hC : Cx RX2 cX2_writeFound 5 none p s m _ meth c := ⟨B.exec, B.bytes, hml, findClass_of_methodNamed B.named, fun w q => hts w (List.mem_cons_of_mem _ q), B.returns, B.notSynchronized⟩
  have hw := Wd.entry hP hK hD0 hT hX
  have hl := lv_entry ([.ref a0, .long x1, .int x3]) (n := 5) (Nat.le_of_ble_eq_true rfl)
  rw [lg_entry_eq]
  exact w_X2_writeFound_0 hC ⟨Nat.le_refl _, Nat.le_refl _⟩ o0 a0 x1 x3 D _ _ _ hi0 hw hl h
set_option maxHeartbeats 4000000 in
set_option maxRecDepth 100000 in
theorem w_X2_tableAt_22 {r : Int32} (hC : Cx RX2 cX2_tableAt 5 (some .int) p s m args meth c) (hR : 0 ≤ R.frames ∧ 0 ≤ R.locals) : ∀  (H : Heap) (locs : List Loc) (ls : Array Slot), Wd G cA S D ad A s H locs → lv_has ls 5 [] → f_X2_tableAt_22 S D = some r → W p l e R s m args below meth c H locs 0 0 (MQ below (Qn (some (.int r)) True (wpost G cA S D ad A) A) args s 0 0 A) (F0 m 22 ls []) := by
  obtain ⟨hx, hb, -⟩ := id hC
  intro H locs ls  hw hl h
  unfold f_X2_tableAt_22 at h
  refine lv_iconst (v := (-1)) hx hb dX2_tableAt_22 (by decide) ?_
  refine lv_goto (tgt := 28) hx hb dX2_tableAt_23 (by decide) ?_
  cases h
  exact r_iret hC hw dX2_tableAt_28
set_option maxHeartbeats 4000000 in
set_option maxRecDepth 100000 in
theorem w_X2_tableAt_0 {r : Int32} (hC : Cx RX2 cX2_tableAt 5 (some .int) p s m args meth c) (hR : 0 ≤ R.frames ∧ 0 ≤ R.locals) : ∀ (o0 a0 : Nat) (x1 : Int64) (H : Heap) (locs : List Loc) (ls : Array Slot), Is S ad o0 a0 2 → Wd G cA S D ad A s H locs → lv_has ls 5 [(0, .ref a0), (1, .long x1)] → f_X2_tableAt S D o0 x1 = some r → W p l e R s m args below meth c H locs 0 0 (MQ below (Qn (some (.int r)) True (wpost G cA S D ad A) A) args s 0 0 A) (F0 m 0 ls []) := by
  obtain ⟨hx, hb, -⟩ := id hC
  intro o0 a0 x1 H locs ls hi0 hw hl h
  unfold f_X2_tableAt at h
  refine lv_lload_n hx hb dX2_tableAt_0 rfl (lv_at hl 1 rfl) ?_
  refine lv_ldc2 (v := 17179869184) hx hb hC.2.2.2.1 (hC.2.2.2.2.1 _ lk_990) dX2_tableAt_1 ?_
  refine lv_lsub hx hb dX2_tableAt_4 ?_
  refine lv_topl (fun y4 ey4 => ?_)
  have h := nm_i h y4 ey4
  refine lv_lstore_n (lv' := [(3, .long y4), (0, .ref a0), (1, .long x1)]) hx hb dX2_tableAt_5 rfl hl (by decide) rfl (fun ls hl => ?_)
  refine lv_lload_n hx hb dX2_tableAt_6 rfl (lv_at hl 0 rfl) ?_
  refine lv_lconst (v := 0) hx hb dX2_tableAt_7 (by decide) ?_
  refine W.lcmp hx hb dX2_tableAt_8 ?_
  refine lv_if_lt (tgt := 22) hx hb dX2_tableAt_9 (by decide) (fun c5 => ?_) (fun c5 => ?_)
  · have h := i_yes c5 h
    exact w_X2_tableAt_22 hC hR _ _ _ hw (lv_sub hl [] rfl) h
  · have h := i_no c5 h
    refine lv_lload_n hx hb dX2_tableAt_12 rfl (lv_at hl 0 rfl) ?_
    refine lv_aload_n hx hb dX2_tableAt_13 rfl (lv_at hl 1 rfl) ?_
    refine r_gI hC hw kc_2 hi0 4 rfl lk_189 dX2_tableAt_14 ?_
    refine lv_i2l (v := (gI D o0 4).toInt64) hx hb dX2_tableAt_17 rfl ?_
    refine W.lcmp hx hb dX2_tableAt_18 ?_
    refine lv_if_lt (tgt := 26) hx hb dX2_tableAt_19 (by decide) (fun c6 => ?_) (fun c6 => ?_)
    · have h := i_yes c6 h
      refine lv_lload_n hx hb dX2_tableAt_26 rfl (lv_at hl 0 rfl) ?_
      refine lv_l2i (v := y4.toInt32) hx hb dX2_tableAt_27 rfl ?_
      cases h
      exact r_iret hC hw dX2_tableAt_28
    · have h := i_no c6 h
      exact w_X2_tableAt_22 hC hR _ _ _ hw (lv_sub hl [] rfl) h
set_option maxHeartbeats 4000000 in
set_option maxRecDepth 100000 in
theorem k_X2_tableAt {l : Launch} {G : va_G} {cA : Nat → ClassId} {S : sh} {D : dt} {ad : Nat → Nat} (sz : Nat) {o0 a0 : Nat} {x1 : Int64} {r : Int32} (hi0 : Is S ad o0 a0 2) (h : f_X2_tableAt S D o0 x1 = some r) : Co l yX2_tableAt (Cond.code yX2_tableAt cX2_tableAt 5 (some .int) :: tb0) 0 0 [.ref a0, .long x1] G cA S D ad sz (some (.int r)) True D := by
  refine Met.ofW (cc := cX2_tableAt) (maxL := 5) (ret := (some .int)) (by decide) rfl ?_
  intro p e s m args below meth c s₁ B hml hv
  obtain ⟨rfl, hsz, hP, hK, hD0, hT, hX⟩ := hv
  subst hsz
  have hts := atoms_spec (ws := Cond.code yX2_tableAt cX2_tableAt 5 (some .int) :: tb0) B.pre
  have hC : Cx RX2 cX2_tableAt 5 (some .int) p s m _ meth c := ⟨B.exec, B.bytes, hml, findClass_of_methodNamed B.named, fun w q => hts w (List.mem_cons_of_mem _ q), B.returns, B.notSynchronized⟩
  have hw := Wd.entry hP hK hD0 hT hX
  have hl := lv_entry ([.ref a0, .long x1]) (n := 5) (Nat.le_of_ble_eq_true rfl)
  rw [lg_entry_eq]
  exact w_X2_tableAt_0 hC ⟨Nat.le_refl _, Nat.le_refl _⟩ o0 a0 x1 _ _ _ hi0 hw hl h
set_option maxHeartbeats 4000000 in
set_option maxRecDepth 100000 in
theorem w_X2_copyFoundTo_2 {r : Unit} {D' : dt} (hC : Cx RX2 cX2_copyFoundTo 4 none p s m args meth c) (hR : 0 ≤ R.frames ∧ 0 ≤ R.locals) : ∀ (n : Nat), ∀ (o0 a0 : Nat) (o1 a1 : Nat) (x2 : Int32) (x3 : Int32) (D : dt) (H : Heap) (locs : List Loc) (ls : Array Slot), Is S ad o0 a0 2 → Is S ad o1 a1 6 → Wd G cA S D ad A s H locs → lv_has ls 4 [(0, .ref a0), (1, .ref a1), (2, .int x2), (3, .int x3)] → f_X2_copyFoundTo_2 S n o0 o1 x2 x3 D = some (r, D') → W p l e R s m args below meth c H locs 0 0 (MQ below (Qn none True (wpost G cA S D' ad A) A) args s 0 0 A) (F0 m 2 ls []) := by
  obtain ⟨hx, hb, -⟩ := id hC
  intro n
  induction n with
  | zero =>
    intro o0 a0 o1 a1 x2 x3 D H locs ls hi0 hi1 hw hl h
    rw [f_X2_copyFoundTo_2.eq_1] at h
    cases h
  | succ n ih =>
    intro o0 a0 o1 a1 x2 x3 D H locs ls hi0 hi1 hw hl h
    rw [f_X2_copyFoundTo_2.eq_2] at h
    refine lv_iload_n hx hb dX2_copyFoundTo_2 rfl (lv_at hl 3 rfl) ?_
    refine lv_aload_n hx hb dX2_copyFoundTo_3 rfl (lv_at hl 1 rfl) ?_
    refine r_gI hC hw kc_6 hi1 2 rfl lk_407 dX2_copyFoundTo_4 ?_
    refine lv_icmp_ge (tgt := 40) hx hb dX2_copyFoundTo_7 (by decide) (fun c15 => ?_) (fun c15 => ?_)
    · have h := i_yes c15 h
      cases h
      exact r_vret hC hw dX2_copyFoundTo_40
    · have h := i_no c15 h
      refine lv_aload_n hx hb dX2_copyFoundTo_10 rfl (lv_at hl 1 rfl) ?_
      obtain ⟨o16, ho19, h⟩ := rq_i h
      refine r_getR hC hw kc_6 hi1 6 rfl lk_415 dX2_copyFoundTo_11 rfl ho19 (fun a17 hi18 => ?_)
      refine lv_iload_n hx hb dX2_copyFoundTo_14 rfl (lv_at hl 2 rfl) ?_
      refine lv_aload_n hx hb dX2_copyFoundTo_15 rfl (lv_at hl 1 rfl) ?_
      refine r_gI hC hw kc_6 hi1 2 rfl lk_407 dX2_copyFoundTo_16 ?_
      refine lv_imul hx hb dX2_copyFoundTo_19 ?_
      refine lv_iload_n hx hb dX2_copyFoundTo_20 rfl (lv_at hl 3 rfl) ?_
      refine lv_iadd hx hb dX2_copyFoundTo_21 ?_
      refine lv_aload_n hx hb dX2_copyFoundTo_22 rfl (lv_at hl 0 rfl) ?_
      obtain ⟨o20, ho23, h⟩ := rq_i h
      refine r_getR hC hw kc_2 hi0 6 rfl lk_193 dX2_copyFoundTo_23 rfl ho23 (fun a21 hi22 => ?_)
      refine lv_aload_n hx hb dX2_copyFoundTo_26 rfl (lv_at hl 0 rfl) ?_
      refine r_gI hC hw kc_2 hi0 7 rfl lk_194 dX2_copyFoundTo_27 ?_
      refine lv_iload_n hx hb dX2_copyFoundTo_30 rfl (lv_at hl 3 rfl) ?_
      refine lv_iadd hx hb dX2_copyFoundTo_31 ?_
      obtain ⟨hn24, h⟩ := ix_i h
      refine r_bald hC hw hi22 hn24 dX2_copyFoundTo_32 ?_
      obtain ⟨hn25, h⟩ := ix_i h
      refine r_bas hC hw hi18 hn25 dX2_copyFoundTo_33 (fun D26 eD26 H locs hw => ?_)
      have h := nm_i h D26 eD26
      obtain ⟨y27, ey27⟩ : ∃ z : Int32, z = x3 + 1 := ⟨_, rfl⟩
      have h := nm_i h y27 ey27
      refine lv_iinc (v := y27) (lv' := [(3, .int y27), (0, .ref a0), (1, .ref a1), (2, .int x2)]) hx hb dX2_copyFoundTo_34 hl (k := 3) rfl (by rw [ey27]; rfl) (by decide) rfl (fun ls hl => ?_)
      refine lv_goto (tgt := 2) hx hb dX2_copyFoundTo_37 (by decide) ?_
      exact ih o0 a0 o1 a1 x2 y27 _ _ _ _ hi0 hi1 hw (lv_sub hl [1, 2, 3, 0] rfl) h
set_option maxHeartbeats 4000000 in
set_option maxRecDepth 100000 in
theorem w_X2_copyFoundTo_0 {r : Unit} {D' : dt} (hC : Cx RX2 cX2_copyFoundTo 4 none p s m args meth c) (hR : 0 ≤ R.frames ∧ 0 ≤ R.locals) : ∀ (o0 a0 : Nat) (o1 a1 : Nat) (x2 : Int32) (D : dt) (H : Heap) (locs : List Loc) (ls : Array Slot), Is S ad o0 a0 2 → Is S ad o1 a1 6 → Wd G cA S D ad A s H locs → lv_has ls 4 [(0, .ref a0), (1, .ref a1), (2, .int x2)] → f_X2_copyFoundTo S o0 o1 x2 D = some (r, D') → W p l e R s m args below meth c H locs 0 0 (MQ below (Qn none True (wpost G cA S D' ad A) A) args s 0 0 A) (F0 m 0 ls []) := by
  obtain ⟨hx, hb, -⟩ := id hC
  intro o0 a0 o1 a1 x2 D H locs ls hi0 hi1 hw hl h
  unfold f_X2_copyFoundTo at h
  refine lv_iconst (v := 0) hx hb dX2_copyFoundTo_0 (by decide) ?_
  refine lv_topi (fun y28 ey28 => ?_)
  have h := nm_i h y28 ey28
  refine lv_istore_n (lv' := [(3, .int y28), (0, .ref a0), (1, .ref a1), (2, .int x2)]) hx hb dX2_copyFoundTo_1 rfl hl (by decide) rfl (fun ls hl => ?_)
  exact w_X2_copyFoundTo_2 hC hR LF o0 a0 o1 a1 x2 y28 _ _ _ _ hi0 hi1 hw (lv_sub hl [1, 2, 3, 0] rfl) h
set_option maxHeartbeats 4000000 in
set_option maxRecDepth 100000 in
theorem k_X2_copyFoundTo {l : Launch} {G : va_G} {cA : Nat → ClassId} {S : sh} {D D' : dt} {ad : Nat → Nat} (sz : Nat) {o0 a0 : Nat} {o1 a1 : Nat} {x2 : Int32} {r : Unit} (hi0 : Is S ad o0 a0 2) (hi1 : Is S ad o1 a1 6) (h : f_X2_copyFoundTo S o0 o1 x2 D = some (r, D')) : Co l yX2_copyFoundTo (Cond.code yX2_copyFoundTo cX2_copyFoundTo 4 none :: tb0) 0 0 [.ref a0, .ref a1, .int x2] G cA S D ad sz none True D' := by
  refine Met.ofW (cc := cX2_copyFoundTo) (maxL := 4) (ret := none) (by decide) rfl ?_
  intro p e s m args below meth c s₁ B hml hv
  obtain ⟨rfl, hsz, hP, hK, hD0, hT, hX⟩ := hv
  subst hsz
  have hts := atoms_spec (ws := Cond.code yX2_copyFoundTo cX2_copyFoundTo 4 none :: tb0) B.pre
  have hC : Cx RX2 cX2_copyFoundTo 4 none p s m _ meth c := ⟨B.exec, B.bytes, hml, findClass_of_methodNamed B.named, fun w q => hts w (List.mem_cons_of_mem _ q), B.returns, B.notSynchronized⟩
  have hw := Wd.entry hP hK hD0 hT hX
  have hl := lv_entry ([.ref a0, .ref a1, .int x2]) (n := 4) (Nat.le_of_ble_eq_true rfl)
  rw [lg_entry_eq]
  exact w_X2_copyFoundTo_0 hC ⟨Nat.le_refl _, Nat.le_refl _⟩ o0 a0 o1 a1 x2 D _ _ _ hi0 hi1 hw hl h
end
