theorem dX1_init_0 : decode cX1_init 0 = .ok (.aload_n 0, 1) := by decide +kernel
theorem dX1_init_1 : decode cX1_init 1 = .ok (.invokespecial 3, 3) := by decide +kernel
theorem dX1_init_4 : decode cX1_init 4 = .ok (.aload_n 0, 1) := by decide +kernel
theorem dX1_init_5 : decode cX1_init 5 = .ok (.bipush 11, 2) := by decide +kernel
theorem dX1_init_7 : decode cX1_init 7 = .ok (.newarray .long, 2) := by decide +kernel
theorem dX1_init_9 : decode cX1_init 9 = .ok (.putfield 9, 3) := by decide +kernel
theorem dX1_init_12 : decode cX1_init 12 = .ok (.aload_n 0, 1) := by decide +kernel
theorem dX1_init_13 : decode cX1_init 13 = .ok (.bipush 32, 2) := by decide +kernel
theorem dX1_init_15 : decode cX1_init 15 = .ok (.newarray .long, 2) := by decide +kernel
theorem dX1_init_17 : decode cX1_init 17 = .ok (.putfield 15, 3) := by decide +kernel
theorem dX1_init_20 : decode cX1_init 20 = .ok (.aload_n 0, 1) := by decide +kernel
theorem dX1_init_21 : decode cX1_init 21 = .ok (.aload_n 1, 1) := by decide +kernel
theorem dX1_init_22 : decode cX1_init 22 = .ok (.putfield 18, 3) := by decide +kernel
theorem dX1_init_25 : decode cX1_init 25 = .ok (.aload_n 0, 1) := by decide +kernel
theorem dX1_init_26 : decode cX1_init 26 = .ok (.aload_n 2, 1) := by decide +kernel
theorem dX1_init_27 : decode cX1_init 27 = .ok (.putfield 22, 3) := by decide +kernel
theorem dX1_init_30 : decode cX1_init 30 = .ok (.return_, 1) := by decide +kernel
theorem dX1_begin_0 : decode cX1_begin 0 = .ok (.aload_n 0, 1) := by decide +kernel
theorem dX1_begin_1 : decode cX1_begin 1 = .ok (.getfield 9, 3) := by decide +kernel
theorem dX1_begin_4 : decode cX1_begin 4 = .ok (.lconst 0, 1) := by decide +kernel
theorem dX1_begin_5 : decode cX1_begin 5 = .ok (.invokestatic 26, 3) := by decide +kernel
theorem dX1_begin_8 : decode cX1_begin 8 = .ok (.aload_n 0, 1) := by decide +kernel
theorem dX1_begin_9 : decode cX1_begin 9 = .ok (.getfield 9, 3) := by decide +kernel
theorem dX1_begin_12 : decode cX1_begin 12 = .ok (.iconst 1, 1) := by decide +kernel
theorem dX1_begin_13 : decode cX1_begin 13 = .ok (.ldc2_w 32, 3) := by decide +kernel
theorem dX1_begin_16 : decode cX1_begin 16 = .ok (.lastore, 1) := by decide +kernel
theorem dX1_begin_17 : decode cX1_begin 17 = .ok (.aload_n 0, 1) := by decide +kernel
theorem dX1_begin_18 : decode cX1_begin 18 = .ok (.getfield 9, 3) := by decide +kernel
theorem dX1_begin_21 : decode cX1_begin 21 = .ok (.bipush 10, 2) := by decide +kernel
theorem dX1_begin_23 : decode cX1_begin 23 = .ok (.ldc2_w 34, 3) := by decide +kernel
theorem dX1_begin_26 : decode cX1_begin 26 = .ok (.lastore, 1) := by decide +kernel
theorem dX1_begin_27 : decode cX1_begin 27 = .ok (.aload_n 0, 1) := by decide +kernel
theorem dX1_begin_28 : decode cX1_begin 28 = .ok (.getfield 22, 3) := by decide +kernel
theorem dX1_begin_31 : decode cX1_begin 31 = .ok (.getfield 36, 3) := by decide +kernel
theorem dX1_begin_34 : decode cX1_begin 34 = .ok (.iconst 0, 1) := by decide +kernel
theorem dX1_begin_35 : decode cX1_begin 35 = .ok (.invokestatic 42, 3) := by decide +kernel
theorem dX1_begin_38 : decode cX1_begin 38 = .ok (.aload_n 0, 1) := by decide +kernel
theorem dX1_begin_39 : decode cX1_begin 39 = .ok (.iconst 0, 1) := by decide +kernel
theorem dX1_begin_40 : decode cX1_begin 40 = .ok (.putfield 45, 3) := by decide +kernel
theorem dX1_begin_43 : decode cX1_begin 43 = .ok (.aload_n 0, 1) := by decide +kernel
theorem dX1_begin_44 : decode cX1_begin 44 = .ok (.iconst 0, 1) := by decide +kernel
theorem dX1_begin_45 : decode cX1_begin 45 = .ok (.putfield 49, 3) := by decide +kernel
theorem dX1_begin_48 : decode cX1_begin 48 = .ok (.aload_n 0, 1) := by decide +kernel
theorem dX1_begin_49 : decode cX1_begin 49 = .ok (.iconst 0, 1) := by decide +kernel
theorem dX1_begin_50 : decode cX1_begin 50 = .ok (.putfield 52, 3) := by decide +kernel
theorem dX1_begin_53 : decode cX1_begin 53 = .ok (.aload_n 0, 1) := by decide +kernel
theorem dX1_begin_54 : decode cX1_begin 54 = .ok (.iconst 1, 1) := by decide +kernel
theorem dX1_begin_55 : decode cX1_begin 55 = .ok (.putfield 55, 3) := by decide +kernel
theorem dX1_begin_58 : decode cX1_begin 58 = .ok (.return_, 1) := by decide +kernel
theorem dX1_goTo_0 : decode cX1_goTo 0 = .ok (.aload_n 0, 1) := by decide +kernel
theorem dX1_goTo_1 : decode cX1_goTo 1 = .ok (.iload_n 1, 1) := by decide +kernel
theorem dX1_goTo_2 : decode cX1_goTo 2 = .ok (.putfield 49, 3) := by decide +kernel
theorem dX1_goTo_5 : decode cX1_goTo 5 = .ok (.iconst 1, 1) := by decide +kernel
theorem dX1_goTo_6 : decode cX1_goTo 6 = .ok (.ireturn, 1) := by decide +kernel
theorem dX1_doPair_0 : decode cX1_doPair 0 = .ok (.aload_n 0, 1) := by decide +kernel
theorem dX1_doPair_1 : decode cX1_doPair 1 = .ok (.getfield 18, 3) := by decide +kernel
theorem dX1_doPair_4 : decode cX1_doPair 4 = .ok (.getfield 87, 3) := by decide +kernel
theorem dX1_doPair_7 : decode cX1_doPair 7 = .ok (.iload_n 1, 1) := by decide +kernel
theorem dX1_doPair_8 : decode cX1_doPair 8 = .ok (.iaload, 1) := by decide +kernel
theorem dX1_doPair_9 : decode cX1_doPair 9 = .ok (.istore_n 2, 1) := by decide +kernel
theorem dX1_doPair_10 : decode cX1_doPair 10 = .ok (.aload_n 0, 1) := by decide +kernel
theorem dX1_doPair_11 : decode cX1_doPair 11 = .ok (.getfield 18, 3) := by decide +kernel
theorem dX1_doPair_14 : decode cX1_doPair 14 = .ok (.getfield 97, 3) := by decide +kernel
theorem dX1_doPair_17 : decode cX1_doPair 17 = .ok (.iload_n 1, 1) := by decide +kernel
theorem dX1_doPair_18 : decode cX1_doPair 18 = .ok (.iaload, 1) := by decide +kernel
theorem dX1_doPair_19 : decode cX1_doPair 19 = .ok (.iconst 1, 1) := by decide +kernel
theorem dX1_doPair_20 : decode cX1_doPair 20 = .ok (.if_icmp .ne 7, 3) := by decide +kernel
theorem dX1_doPair_23 : decode cX1_doPair 23 = .ok (.iconst 1, 1) := by decide +kernel
theorem dX1_doPair_24 : decode cX1_doPair 24 = .ok (.goto 4, 3) := by decide +kernel
theorem dX1_doPair_27 : decode cX1_doPair 27 = .ok (.iconst 0, 1) := by decide +kernel
theorem dX1_doPair_28 : decode cX1_doPair 28 = .ok (.istore_n 3, 1) := by decide +kernel
theorem dX1_doPair_29 : decode cX1_doPair 29 = .ok (.aload_n 0, 1) := by decide +kernel
theorem dX1_doPair_30 : decode cX1_doPair 30 = .ok (.getfield 18, 3) := by decide +kernel
theorem dX1_doPair_33 : decode cX1_doPair 33 = .ok (.iload_n 1, 1) := by decide +kernel
theorem dX1_doPair_34 : decode cX1_doPair 34 = .ok (.iconst 1, 1) := by decide +kernel
theorem dX1_doPair_35 : decode cX1_doPair 35 = .ok (.iadd, 1) := by decide +kernel
theorem dX1_doPair_36 : decode cX1_doPair 36 = .ok (.invokevirtual 64, 3) := by decide +kernel
theorem dX1_doPair_39 : decode cX1_doPair 39 = .ok (.ifCond .ne 5, 3) := by decide +kernel
theorem dX1_doPair_42 : decode cX1_doPair 42 = .ok (.iconst 5, 1) := by decide +kernel
theorem dX1_doPair_43 : decode cX1_doPair 43 = .ok (.ireturn, 1) := by decide +kernel
theorem dX1_doPair_44 : decode cX1_doPair 44 = .ok (.iload_n 3, 1) := by decide +kernel
theorem dX1_doPair_45 : decode cX1_doPair 45 = .ok (.ifCond .eq 16, 3) := by decide +kernel
theorem dX1_doPair_48 : decode cX1_doPair 48 = .ok (.aload_n 0, 1) := by decide +kernel
theorem dX1_doPair_49 : decode cX1_doPair 49 = .ok (.getfield 22, 3) := by decide +kernel
theorem dX1_doPair_52 : decode cX1_doPair 52 = .ok (.iload_n 2, 1) := by decide +kernel
theorem dX1_doPair_53 : decode cX1_doPair 53 = .ok (.invokevirtual 118, 3) := by decide +kernel
theorem dX1_doPair_56 : decode cX1_doPair 56 = .ok (.ifnonnull 5, 3) := by decide +kernel
theorem dX1_doPair_59 : decode cX1_doPair 59 = .ok (.iconst 4, 1) := by decide +kernel
theorem dX1_doPair_60 : decode cX1_doPair 60 = .ok (.ireturn, 1) := by decide +kernel
theorem dX1_doPair_61 : decode cX1_doPair 61 = .ok (.aload_n 0, 1) := by decide +kernel
theorem dX1_doPair_62 : decode cX1_doPair 62 = .ok (.getfield 18, 3) := by decide +kernel
theorem dX1_doPair_65 : decode cX1_doPair 65 = .ok (.getfield 87, 3) := by decide +kernel
theorem dX1_doPair_68 : decode cX1_doPair 68 = .ok (.iload_n 1, 1) := by decide +kernel
theorem dX1_doPair_69 : decode cX1_doPair 69 = .ok (.iconst 1, 1) := by decide +kernel
theorem dX1_doPair_70 : decode cX1_doPair 70 = .ok (.iadd, 1) := by decide +kernel
theorem dX1_doPair_71 : decode cX1_doPair 71 = .ok (.iaload, 1) := by decide +kernel
theorem dX1_doPair_72 : decode cX1_doPair 72 = .ok (.i2l, 1) := by decide +kernel
theorem dX1_doPair_73 : decode cX1_doPair 73 = .ok (.bipush 32, 2) := by decide +kernel
theorem dX1_doPair_75 : decode cX1_doPair 75 = .ok (.lshl, 1) := by decide +kernel
theorem dX1_doPair_76 : decode cX1_doPair 76 = .ok (.iload_n 2, 1) := by decide +kernel
theorem dX1_doPair_77 : decode cX1_doPair 77 = .ok (.i2l, 1) := by decide +kernel
theorem dX1_doPair_78 : decode cX1_doPair 78 = .ok (.ldc2_w 122, 3) := by decide +kernel
theorem dX1_doPair_81 : decode cX1_doPair 81 = .ok (.land, 1) := by decide +kernel
theorem dX1_doPair_82 : decode cX1_doPair 82 = .ok (.lor, 1) := by decide +kernel
theorem dX1_doPair_83 : decode cX1_doPair 83 = .ok (.lstore 4, 2) := by decide +kernel
theorem dX1_doPair_85 : decode cX1_doPair 85 = .ok (.aload_n 0, 1) := by decide +kernel
theorem dX1_doPair_86 : decode cX1_doPair 86 = .ok (.getfield 9, 3) := by decide +kernel
theorem dX1_doPair_89 : decode cX1_doPair 89 = .ok (.aload_n 0, 1) := by decide +kernel
theorem dX1_doPair_90 : decode cX1_doPair 90 = .ok (.getfield 18, 3) := by decide +kernel
theorem dX1_doPair_93 : decode cX1_doPair 93 = .ok (.getfield 124, 3) := by decide +kernel
theorem dX1_doPair_96 : decode cX1_doPair 96 = .ok (.iload_n 1, 1) := by decide +kernel
theorem dX1_doPair_97 : decode cX1_doPair 97 = .ok (.iaload, 1) := by decide +kernel
theorem dX1_doPair_98 : decode cX1_doPair 98 = .ok (.iload_n 3, 1) := by decide +kernel
theorem dX1_doPair_99 : decode cX1_doPair 99 = .ok (.ifCond .eq 12, 3) := by decide +kernel
theorem dX1_doPair_102 : decode cX1_doPair 102 = .ok (.ldc2_w 127, 3) := by decide +kernel
theorem dX1_doPair_105 : decode cX1_doPair 105 = .ok (.iload_n 2, 1) := by decide +kernel
theorem dX1_doPair_106 : decode cX1_doPair 106 = .ok (.i2l, 1) := by decide +kernel
theorem dX1_doPair_107 : decode cX1_doPair 107 = .ok (.ladd, 1) := by decide +kernel
theorem dX1_doPair_108 : decode cX1_doPair 108 = .ok (.goto 5, 3) := by decide +kernel
theorem dX1_doPair_111 : decode cX1_doPair 111 = .ok (.lload 4, 2) := by decide +kernel
theorem dX1_doPair_113 : decode cX1_doPair 113 = .ok (.lastore, 1) := by decide +kernel
theorem dX1_doPair_114 : decode cX1_doPair 114 = .ok (.aload_n 0, 1) := by decide +kernel
theorem dX1_doPair_115 : decode cX1_doPair 115 = .ok (.iload_n 1, 1) := by decide +kernel
theorem dX1_doPair_116 : decode cX1_doPair 116 = .ok (.iconst 2, 1) := by decide +kernel
theorem dX1_doPair_117 : decode cX1_doPair 117 = .ok (.iadd, 1) := by decide +kernel
theorem dX1_doPair_118 : decode cX1_doPair 118 = .ok (.invokevirtual 129, 3) := by decide +kernel
theorem dX1_doPair_121 : decode cX1_doPair 121 = .ok (.ireturn, 1) := by decide +kernel
theorem dX1_doLoad_0 : decode cX1_doLoad 0 = .ok (.aload_n 0, 1) := by decide +kernel
theorem dX1_doLoad_1 : decode cX1_doLoad 1 = .ok (.getfield 18, 3) := by decide +kernel
theorem dX1_doLoad_4 : decode cX1_doLoad 4 = .ok (.iload_n 1, 1) := by decide +kernel
theorem dX1_doLoad_5 : decode cX1_doLoad 5 = .ok (.invokevirtual 132, 3) := by decide +kernel
theorem dX1_doLoad_8 : decode cX1_doLoad 8 = .ok (.istore_n 2, 1) := by decide +kernel
theorem dX1_doLoad_9 : decode cX1_doLoad 9 = .ok (.aload_n 0, 1) := by decide +kernel
theorem dX1_doLoad_10 : decode cX1_doLoad 10 = .ok (.getfield 22, 3) := by decide +kernel
theorem dX1_doLoad_13 : decode cX1_doLoad 13 = .ok (.aload_n 0, 1) := by decide +kernel
theorem dX1_doLoad_14 : decode cX1_doLoad 14 = .ok (.getfield 9, 3) := by decide +kernel
theorem dX1_doLoad_17 : decode cX1_doLoad 17 = .ok (.aload_n 0, 1) := by decide +kernel
theorem dX1_doLoad_18 : decode cX1_doLoad 18 = .ok (.getfield 18, 3) := by decide +kernel
theorem dX1_doLoad_21 : decode cX1_doLoad 21 = .ok (.getfield 97, 3) := by decide +kernel
theorem dX1_doLoad_24 : decode cX1_doLoad 24 = .ok (.iload_n 1, 1) := by decide +kernel
theorem dX1_doLoad_25 : decode cX1_doLoad 25 = .ok (.iaload, 1) := by decide +kernel
theorem dX1_doLoad_26 : decode cX1_doLoad 26 = .ok (.laload, 1) := by decide +kernel
theorem dX1_doLoad_27 : decode cX1_doLoad 27 = .ok (.aload_n 0, 1) := by decide +kernel
theorem dX1_doLoad_28 : decode cX1_doLoad 28 = .ok (.getfield 18, 3) := by decide +kernel
theorem dX1_doLoad_31 : decode cX1_doLoad 31 = .ok (.getfield 135, 3) := by decide +kernel
theorem dX1_doLoad_34 : decode cX1_doLoad 34 = .ok (.iload_n 1, 1) := by decide +kernel
theorem dX1_doLoad_35 : decode cX1_doLoad 35 = .ok (.iaload, 1) := by decide +kernel
theorem dX1_doLoad_36 : decode cX1_doLoad 36 = .ok (.i2l, 1) := by decide +kernel
theorem dX1_doLoad_37 : decode cX1_doLoad 37 = .ok (.ladd, 1) := by decide +kernel
theorem dX1_doLoad_38 : decode cX1_doLoad 38 = .ok (.iload_n 2, 1) := by decide +kernel
theorem dX1_doLoad_39 : decode cX1_doLoad 39 = .ok (.iconst 0, 1) := by decide +kernel
theorem dX1_doLoad_40 : decode cX1_doLoad 40 = .ok (.invokevirtual 138, 3) := by decide +kernel
theorem dX1_doLoad_43 : decode cX1_doLoad 43 = .ok (.ifCond .ne 5, 3) := by decide +kernel
theorem dX1_doLoad_46 : decode cX1_doLoad 46 = .ok (.iconst 4, 1) := by decide +kernel
theorem dX1_doLoad_47 : decode cX1_doLoad 47 = .ok (.ireturn, 1) := by decide +kernel
theorem dX1_doLoad_48 : decode cX1_doLoad 48 = .ok (.aload_n 0, 1) := by decide +kernel
theorem dX1_doLoad_49 : decode cX1_doLoad 49 = .ok (.getfield 22, 3) := by decide +kernel
theorem dX1_doLoad_52 : decode cX1_doLoad 52 = .ok (.iload_n 2, 1) := by decide +kernel
theorem dX1_doLoad_53 : decode cX1_doLoad 53 = .ok (.invokevirtual 142, 3) := by decide +kernel
theorem dX1_doLoad_56 : decode cX1_doLoad 56 = .ok (.lstore_n 3, 1) := by decide +kernel
theorem dX1_doLoad_57 : decode cX1_doLoad 57 = .ok (.aload_n 0, 1) := by decide +kernel
theorem dX1_doLoad_58 : decode cX1_doLoad 58 = .ok (.getfield 9, 3) := by decide +kernel
theorem dX1_doLoad_61 : decode cX1_doLoad 61 = .ok (.aload_n 0, 1) := by decide +kernel
theorem dX1_doLoad_62 : decode cX1_doLoad 62 = .ok (.getfield 18, 3) := by decide +kernel
theorem dX1_doLoad_65 : decode cX1_doLoad 65 = .ok (.getfield 124, 3) := by decide +kernel
theorem dX1_doLoad_68 : decode cX1_doLoad 68 = .ok (.iload_n 1, 1) := by decide +kernel
theorem dX1_doLoad_69 : decode cX1_doLoad 69 = .ok (.iaload, 1) := by decide +kernel
theorem dX1_doLoad_70 : decode cX1_doLoad 70 = .ok (.aload_n 0, 1) := by decide +kernel
theorem dX1_doLoad_71 : decode cX1_doLoad 71 = .ok (.getfield 18, 3) := by decide +kernel
theorem dX1_doLoad_74 : decode cX1_doLoad 74 = .ok (.iload_n 1, 1) := by decide +kernel
theorem dX1_doLoad_75 : decode cX1_doLoad 75 = .ok (.invokevirtual 146, 3) := by decide +kernel
theorem dX1_doLoad_78 : decode cX1_doLoad 78 = .ok (.ifCond .eq 14, 3) := by decide +kernel
theorem dX1_doLoad_81 : decode cX1_doLoad 81 = .ok (.lload_n 3, 1) := by decide +kernel
theorem dX1_doLoad_82 : decode cX1_doLoad 82 = .ok (.bipush 8, 2) := by decide +kernel
theorem dX1_doLoad_84 : decode cX1_doLoad 84 = .ok (.iload_n 2, 1) := by decide +kernel
theorem dX1_doLoad_85 : decode cX1_doLoad 85 = .ok (.imul, 1) := by decide +kernel
theorem dX1_doLoad_86 : decode cX1_doLoad 86 = .ok (.invokestatic 149, 3) := by decide +kernel
theorem dX1_doLoad_89 : decode cX1_doLoad 89 = .ok (.goto 4, 3) := by decide +kernel
theorem dX1_doLoad_92 : decode cX1_doLoad 92 = .ok (.lload_n 3, 1) := by decide +kernel
theorem dX1_doLoad_93 : decode cX1_doLoad 93 = .ok (.lastore, 1) := by decide +kernel
theorem dX1_doLoad_94 : decode cX1_doLoad 94 = .ok (.aload_n 0, 1) := by decide +kernel
theorem dX1_doLoad_95 : decode cX1_doLoad 95 = .ok (.iload_n 1, 1) := by decide +kernel
theorem dX1_doLoad_96 : decode cX1_doLoad 96 = .ok (.iconst 1, 1) := by decide +kernel
theorem dX1_doLoad_97 : decode cX1_doLoad 97 = .ok (.iadd, 1) := by decide +kernel
theorem dX1_doLoad_98 : decode cX1_doLoad 98 = .ok (.invokevirtual 129, 3) := by decide +kernel
theorem dX1_doLoad_101 : decode cX1_doLoad 101 = .ok (.ireturn, 1) := by decide +kernel
theorem dX1_doPut_0 : decode cX1_doPut 0 = .ok (.aload_n 0, 1) := by decide +kernel
theorem dX1_doPut_1 : decode cX1_doPut 1 = .ok (.getfield 18, 3) := by decide +kernel
theorem dX1_doPut_4 : decode cX1_doPut 4 = .ok (.iload_n 1, 1) := by decide +kernel
theorem dX1_doPut_5 : decode cX1_doPut 5 = .ok (.invokevirtual 132, 3) := by decide +kernel
theorem dX1_doPut_8 : decode cX1_doPut 8 = .ok (.istore 4, 2) := by decide +kernel
theorem dX1_doPut_10 : decode cX1_doPut 10 = .ok (.aload_n 0, 1) := by decide +kernel
theorem dX1_doPut_11 : decode cX1_doPut 11 = .ok (.getfield 22, 3) := by decide +kernel
theorem dX1_doPut_14 : decode cX1_doPut 14 = .ok (.aload_n 0, 1) := by decide +kernel
theorem dX1_doPut_15 : decode cX1_doPut 15 = .ok (.getfield 9, 3) := by decide +kernel
theorem dX1_doPut_18 : decode cX1_doPut 18 = .ok (.aload_n 0, 1) := by decide +kernel
theorem dX1_doPut_19 : decode cX1_doPut 19 = .ok (.getfield 18, 3) := by decide +kernel
theorem dX1_doPut_22 : decode cX1_doPut 22 = .ok (.getfield 124, 3) := by decide +kernel
theorem dX1_doPut_25 : decode cX1_doPut 25 = .ok (.iload_n 1, 1) := by decide +kernel
theorem dX1_doPut_26 : decode cX1_doPut 26 = .ok (.iaload, 1) := by decide +kernel
theorem dX1_doPut_27 : decode cX1_doPut 27 = .ok (.laload, 1) := by decide +kernel
theorem dX1_doPut_28 : decode cX1_doPut 28 = .ok (.aload_n 0, 1) := by decide +kernel
theorem dX1_doPut_29 : decode cX1_doPut 29 = .ok (.getfield 18, 3) := by decide +kernel
theorem dX1_doPut_32 : decode cX1_doPut 32 = .ok (.getfield 135, 3) := by decide +kernel
theorem dX1_doPut_35 : decode cX1_doPut 35 = .ok (.iload_n 1, 1) := by decide +kernel
theorem dX1_doPut_36 : decode cX1_doPut 36 = .ok (.iaload, 1) := by decide +kernel
theorem dX1_doPut_37 : decode cX1_doPut 37 = .ok (.i2l, 1) := by decide +kernel
theorem dX1_doPut_38 : decode cX1_doPut 38 = .ok (.ladd, 1) := by decide +kernel
theorem dX1_doPut_39 : decode cX1_doPut 39 = .ok (.iload 4, 2) := by decide +kernel
theorem dX1_doPut_41 : decode cX1_doPut 41 = .ok (.iconst 1, 1) := by decide +kernel
theorem dX1_doPut_42 : decode cX1_doPut 42 = .ok (.invokevirtual 138, 3) := by decide +kernel
theorem dX1_doPut_45 : decode cX1_doPut 45 = .ok (.ifCond .ne 5, 3) := by decide +kernel
theorem dX1_doPut_48 : decode cX1_doPut 48 = .ok (.iconst 4, 1) := by decide +kernel
theorem dX1_doPut_49 : decode cX1_doPut 49 = .ok (.ireturn, 1) := by decide +kernel
theorem dX1_doPut_50 : decode cX1_doPut 50 = .ok (.aload_n 0, 1) := by decide +kernel
theorem dX1_doPut_51 : decode cX1_doPut 51 = .ok (.getfield 22, 3) := by decide +kernel
theorem dX1_doPut_54 : decode cX1_doPut 54 = .ok (.lload_n 2, 1) := by decide +kernel
theorem dX1_doPut_55 : decode cX1_doPut 55 = .ok (.iload 4, 2) := by decide +kernel
theorem dX1_doPut_57 : decode cX1_doPut 57 = .ok (.invokevirtual 155, 3) := by decide +kernel
theorem dX1_doPut_60 : decode cX1_doPut 60 = .ok (.aload_n 0, 1) := by decide +kernel
theorem dX1_doPut_61 : decode cX1_doPut 61 = .ok (.iload_n 1, 1) := by decide +kernel
theorem dX1_doPut_62 : decode cX1_doPut 62 = .ok (.iconst 1, 1) := by decide +kernel
theorem dX1_doPut_63 : decode cX1_doPut 63 = .ok (.iadd, 1) := by decide +kernel
theorem dX1_doPut_64 : decode cX1_doPut 64 = .ok (.invokevirtual 129, 3) := by decide +kernel
theorem dX1_doPut_67 : decode cX1_doPut 67 = .ok (.ireturn, 1) := by decide +kernel
theorem dX1_doChange_0 : decode cX1_doChange 0 = .ok (.aload_n 0, 1) := by decide +kernel
theorem dX1_doChange_1 : decode cX1_doChange 1 = .ok (.getfield 18, 3) := by decide +kernel
theorem dX1_doChange_4 : decode cX1_doChange 4 = .ok (.iload_n 1, 1) := by decide +kernel
theorem dX1_doChange_5 : decode cX1_doChange 5 = .ok (.invokevirtual 132, 3) := by decide +kernel
theorem dX1_doChange_8 : decode cX1_doChange 8 = .ok (.istore_n 2, 1) := by decide +kernel
theorem dX1_doChange_9 : decode cX1_doChange 9 = .ok (.aload_n 0, 1) := by decide +kernel
theorem dX1_doChange_10 : decode cX1_doChange 10 = .ok (.getfield 18, 3) := by decide +kernel
theorem dX1_doChange_13 : decode cX1_doChange 13 = .ok (.getfield 87, 3) := by decide +kernel
theorem dX1_doChange_16 : decode cX1_doChange 16 = .ok (.iload_n 1, 1) := by decide +kernel
theorem dX1_doChange_17 : decode cX1_doChange 17 = .ok (.iaload, 1) := by decide +kernel
theorem dX1_doChange_18 : decode cX1_doChange 18 = .ok (.istore_n 3, 1) := by decide +kernel
theorem dX1_doChange_19 : decode cX1_doChange 19 = .ok (.aload_n 0, 1) := by decide +kernel
theorem dX1_doChange_20 : decode cX1_doChange 20 = .ok (.getfield 22, 3) := by decide +kernel
theorem dX1_doChange_23 : decode cX1_doChange 23 = .ok (.aload_n 0, 1) := by decide +kernel
theorem dX1_doChange_24 : decode cX1_doChange 24 = .ok (.getfield 9, 3) := by decide +kernel
theorem dX1_doChange_27 : decode cX1_doChange 27 = .ok (.aload_n 0, 1) := by decide +kernel
theorem dX1_doChange_28 : decode cX1_doChange 28 = .ok (.getfield 18, 3) := by decide +kernel
theorem dX1_doChange_31 : decode cX1_doChange 31 = .ok (.getfield 124, 3) := by decide +kernel
theorem dX1_doChange_34 : decode cX1_doChange 34 = .ok (.iload_n 1, 1) := by decide +kernel
theorem dX1_doChange_35 : decode cX1_doChange 35 = .ok (.iaload, 1) := by decide +kernel
theorem dX1_doChange_36 : decode cX1_doChange 36 = .ok (.laload, 1) := by decide +kernel
theorem dX1_doChange_37 : decode cX1_doChange 37 = .ok (.aload_n 0, 1) := by decide +kernel
theorem dX1_doChange_38 : decode cX1_doChange 38 = .ok (.getfield 18, 3) := by decide +kernel
theorem dX1_doChange_41 : decode cX1_doChange 41 = .ok (.getfield 135, 3) := by decide +kernel
theorem dX1_doChange_44 : decode cX1_doChange 44 = .ok (.iload_n 1, 1) := by decide +kernel
theorem dX1_doChange_45 : decode cX1_doChange 45 = .ok (.iaload, 1) := by decide +kernel
theorem dX1_doChange_46 : decode cX1_doChange 46 = .ok (.i2l, 1) := by decide +kernel
theorem dX1_doChange_47 : decode cX1_doChange 47 = .ok (.ladd, 1) := by decide +kernel
theorem dX1_doChange_48 : decode cX1_doChange 48 = .ok (.iload_n 2, 1) := by decide +kernel
theorem dX1_doChange_49 : decode cX1_doChange 49 = .ok (.iconst 1, 1) := by decide +kernel
theorem dX1_doChange_50 : decode cX1_doChange 50 = .ok (.invokevirtual 138, 3) := by decide +kernel
theorem dX1_doChange_53 : decode cX1_doChange 53 = .ok (.ifCond .ne 5, 3) := by decide +kernel
theorem dX1_doChange_56 : decode cX1_doChange 56 = .ok (.iconst 4, 1) := by decide +kernel
theorem dX1_doChange_57 : decode cX1_doChange 57 = .ok (.ireturn, 1) := by decide +kernel
theorem dX1_doChange_58 : decode cX1_doChange 58 = .ok (.aload_n 0, 1) := by decide +kernel
theorem dX1_doChange_59 : decode cX1_doChange 59 = .ok (.getfield 22, 3) := by decide +kernel
theorem dX1_doChange_62 : decode cX1_doChange 62 = .ok (.iload_n 2, 1) := by decide +kernel
theorem dX1_doChange_63 : decode cX1_doChange 63 = .ok (.invokevirtual 142, 3) := by decide +kernel
theorem dX1_doChange_66 : decode cX1_doChange 66 = .ok (.lstore 4, 2) := by decide +kernel
theorem dX1_doChange_68 : decode cX1_doChange 68 = .ok (.aload_n 0, 1) := by decide +kernel
theorem dX1_doChange_69 : decode cX1_doChange 69 = .ok (.getfield 9, 3) := by decide +kernel
theorem dX1_doChange_72 : decode cX1_doChange 72 = .ok (.aload_n 0, 1) := by decide +kernel
theorem dX1_doChange_73 : decode cX1_doChange 73 = .ok (.getfield 18, 3) := by decide +kernel
theorem dX1_doChange_76 : decode cX1_doChange 76 = .ok (.getfield 97, 3) := by decide +kernel
theorem dX1_doChange_79 : decode cX1_doChange 79 = .ok (.iload_n 1, 1) := by decide +kernel
theorem dX1_doChange_80 : decode cX1_doChange 80 = .ok (.iaload, 1) := by decide +kernel
theorem dX1_doChange_81 : decode cX1_doChange 81 = .ok (.laload, 1) := by decide +kernel
theorem dX1_doChange_82 : decode cX1_doChange 82 = .ok (.lstore 6, 2) := by decide +kernel
theorem dX1_doChange_84 : decode cX1_doChange 84 = .ok (.iload_n 3, 1) := by decide +kernel
theorem dX1_doChange_85 : decode cX1_doChange 85 = .ok (.sipush 241, 3) := by decide +kernel
theorem dX1_doChange_88 : decode cX1_doChange 88 = .ok (.if_icmp .ne 69, 3) := by decide +kernel
theorem dX1_doChange_91 : decode cX1_doChange 91 = .ok (.iload_n 2, 1) := by decide +kernel
theorem dX1_doChange_92 : decode cX1_doChange 92 = .ok (.bipush 8, 2) := by decide +kernel
theorem dX1_doChange_94 : decode cX1_doChange 94 = .ok (.if_icmp .ne 12, 3) := by decide +kernel
theorem dX1_doChange_97 : decode cX1_doChange 97 = .ok (.aload_n 0, 1) := by decide +kernel
theorem dX1_doChange_98 : decode cX1_doChange 98 = .ok (.getfield 9, 3) := by decide +kernel
theorem dX1_doChange_101 : decode cX1_doChange 101 = .ok (.iconst 0, 1) := by decide +kernel
theorem dX1_doChange_102 : decode cX1_doChange 102 = .ok (.laload, 1) := by decide +kernel
theorem dX1_doChange_103 : decode cX1_doChange 103 = .ok (.goto 13, 3) := by decide +kernel
theorem dX1_doChange_106 : decode cX1_doChange 106 = .ok (.aload_n 0, 1) := by decide +kernel
theorem dX1_doChange_107 : decode cX1_doChange 107 = .ok (.getfield 9, 3) := by decide +kernel
theorem dX1_doChange_110 : decode cX1_doChange 110 = .ok (.iconst 0, 1) := by decide +kernel
theorem dX1_doChange_111 : decode cX1_doChange 111 = .ok (.laload, 1) := by decide +kernel
theorem dX1_doChange_112 : decode cX1_doChange 112 = .ok (.ldc2_w 122, 3) := by decide +kernel
theorem dX1_doChange_115 : decode cX1_doChange 115 = .ok (.land, 1) := by decide +kernel
theorem dX1_doChange_116 : decode cX1_doChange 116 = .ok (.lstore 8, 2) := by decide +kernel
theorem dX1_doChange_118 : decode cX1_doChange 118 = .ok (.aload_n 0, 1) := by decide +kernel
theorem dX1_doChange_119 : decode cX1_doChange 119 = .ok (.getfield 22, 3) := by decide +kernel
theorem dX1_doChange_122 : decode cX1_doChange 122 = .ok (.lload 4, 2) := by decide +kernel
theorem dX1_doChange_124 : decode cX1_doChange 124 = .ok (.lload 8, 2) := by decide +kernel
theorem dX1_doChange_126 : decode cX1_doChange 126 = .ok (.lcmp, 1) := by decide +kernel
theorem dX1_doChange_127 : decode cX1_doChange 127 = .ok (.ifCond .ne 8, 3) := by decide +kernel
theorem dX1_doChange_130 : decode cX1_doChange 130 = .ok (.lload 6, 2) := by decide +kernel
theorem dX1_doChange_132 : decode cX1_doChange 132 = .ok (.goto 5, 3) := by decide +kernel
theorem dX1_doChange_135 : decode cX1_doChange 135 = .ok (.lload 4, 2) := by decide +kernel
theorem dX1_doChange_137 : decode cX1_doChange 137 = .ok (.iload_n 2, 1) := by decide +kernel
theorem dX1_doChange_138 : decode cX1_doChange 138 = .ok (.invokevirtual 155, 3) := by decide +kernel
theorem dX1_doChange_141 : decode cX1_doChange 141 = .ok (.aload_n 0, 1) := by decide +kernel
theorem dX1_doChange_142 : decode cX1_doChange 142 = .ok (.getfield 9, 3) := by decide +kernel
theorem dX1_doChange_145 : decode cX1_doChange 145 = .ok (.iconst 0, 1) := by decide +kernel
theorem dX1_doChange_146 : decode cX1_doChange 146 = .ok (.lload 4, 2) := by decide +kernel
theorem dX1_doChange_148 : decode cX1_doChange 148 = .ok (.lastore, 1) := by decide +kernel
theorem dX1_doChange_149 : decode cX1_doChange 149 = .ok (.aload_n 0, 1) := by decide +kernel
theorem dX1_doChange_150 : decode cX1_doChange 150 = .ok (.iload_n 1, 1) := by decide +kernel
theorem dX1_doChange_151 : decode cX1_doChange 151 = .ok (.iconst 1, 1) := by decide +kernel
theorem dX1_doChange_152 : decode cX1_doChange 152 = .ok (.iadd, 1) := by decide +kernel
theorem dX1_doChange_153 : decode cX1_doChange 153 = .ok (.invokevirtual 129, 3) := by decide +kernel
theorem dX1_doChange_156 : decode cX1_doChange 156 = .ok (.ireturn, 1) := by decide +kernel
theorem dX1_doChange_157 : decode cX1_doChange 157 = .ok (.aload_n 0, 1) := by decide +kernel
theorem dX1_doChange_158 : decode cX1_doChange 158 = .ok (.getfield 22, 3) := by decide +kernel
theorem dX1_doChange_161 : decode cX1_doChange 161 = .ok (.iload_n 3, 1) := by decide +kernel
theorem dX1_doChange_162 : decode cX1_doChange 162 = .ok (.sipush 225, 3) := by decide +kernel
theorem dX1_doChange_165 : decode cX1_doChange 165 = .ok (.if_icmp .ne 8, 3) := by decide +kernel
theorem dX1_doChange_168 : decode cX1_doChange 168 = .ok (.lload 6, 2) := by decide +kernel
theorem dX1_doChange_170 : decode cX1_doChange 170 = .ok (.goto 15, 3) := by decide +kernel
theorem dX1_doChange_173 : decode cX1_doChange 173 = .ok (.iload_n 3, 1) := by decide +kernel
theorem dX1_doChange_174 : decode cX1_doChange 174 = .ok (.iconst 4, 1) := by decide +kernel
theorem dX1_doChange_175 : decode cX1_doChange 175 = .ok (.ishr, 1) := by decide +kernel
theorem dX1_doChange_176 : decode cX1_doChange 176 = .ok (.iconst 1, 1) := by decide +kernel
theorem dX1_doChange_177 : decode cX1_doChange 177 = .ok (.iconst 0, 1) := by decide +kernel
theorem dX1_doChange_178 : decode cX1_doChange 178 = .ok (.lload 4, 2) := by decide +kernel
theorem dX1_doChange_180 : decode cX1_doChange 180 = .ok (.lload 6, 2) := by decide +kernel
theorem dX1_doChange_182 : decode cX1_doChange 182 = .ok (.invokestatic 159, 3) := by decide +kernel
theorem dX1_doChange_185 : decode cX1_doChange 185 = .ok (.iload_n 2, 1) := by decide +kernel
theorem dX1_doChange_186 : decode cX1_doChange 186 = .ok (.invokevirtual 155, 3) := by decide +kernel
theorem dX1_doChange_189 : decode cX1_doChange 189 = .ok (.iload_n 3, 1) := by decide +kernel
theorem dX1_doChange_190 : decode cX1_doChange 190 = .ok (.iconst 1, 1) := by decide +kernel
theorem dX1_doChange_191 : decode cX1_doChange 191 = .ok (.iand, 1) := by decide +kernel
theorem dX1_doChange_192 : decode cX1_doChange 192 = .ok (.ifCond .eq 19, 3) := by decide +kernel
theorem dX1_doChange_195 : decode cX1_doChange 195 = .ok (.aload_n 0, 1) := by decide +kernel
theorem dX1_doChange_196 : decode cX1_doChange 196 = .ok (.getfield 9, 3) := by decide +kernel
theorem dX1_doChange_199 : decode cX1_doChange 199 = .ok (.aload_n 0, 1) := by decide +kernel
theorem dX1_doChange_200 : decode cX1_doChange 200 = .ok (.getfield 18, 3) := by decide +kernel
theorem dX1_doChange_203 : decode cX1_doChange 203 = .ok (.getfield 97, 3) := by decide +kernel
theorem dX1_doChange_206 : decode cX1_doChange 206 = .ok (.iload_n 1, 1) := by decide +kernel
theorem dX1_doChange_207 : decode cX1_doChange 207 = .ok (.iaload, 1) := by decide +kernel
theorem dX1_doChange_208 : decode cX1_doChange 208 = .ok (.lload 4, 2) := by decide +kernel
theorem dX1_doChange_210 : decode cX1_doChange 210 = .ok (.lastore, 1) := by decide +kernel
theorem dX1_doChange_211 : decode cX1_doChange 211 = .ok (.aload_n 0, 1) := by decide +kernel
theorem dX1_doChange_212 : decode cX1_doChange 212 = .ok (.iload_n 1, 1) := by decide +kernel
theorem dX1_doChange_213 : decode cX1_doChange 213 = .ok (.iconst 1, 1) := by decide +kernel
theorem dX1_doChange_214 : decode cX1_doChange 214 = .ok (.iadd, 1) := by decide +kernel
theorem dX1_doChange_215 : decode cX1_doChange 215 = .ok (.invokevirtual 129, 3) := by decide +kernel
theorem dX1_doChange_218 : decode cX1_doChange 218 = .ok (.ireturn, 1) := by decide +kernel
theorem dX1_x_0 : decode cX1_x 0 = .ok (.aload_n 0, 1) := by decide +kernel
theorem dX1_x_1 : decode cX1_x 1 = .ok (.getfield 18, 3) := by decide +kernel
theorem dX1_x_4 : decode cX1_x 4 = .ok (.iload_n 1, 1) := by decide +kernel
theorem dX1_x_5 : decode cX1_x 5 = .ok (.invokevirtual 115, 3) := by decide +kernel
theorem dX1_x_8 : decode cX1_x 8 = .ok (.ifCond .eq 20, 3) := by decide +kernel
theorem dX1_x_11 : decode cX1_x 11 = .ok (.aload_n 0, 1) := by decide +kernel
theorem dX1_x_12 : decode cX1_x 12 = .ok (.getfield 9, 3) := by decide +kernel
theorem dX1_x_15 : decode cX1_x 15 = .ok (.aload_n 0, 1) := by decide +kernel
theorem dX1_x_16 : decode cX1_x 16 = .ok (.getfield 18, 3) := by decide +kernel
theorem dX1_x_19 : decode cX1_x 19 = .ok (.getfield 97, 3) := by decide +kernel
theorem dX1_x_22 : decode cX1_x 22 = .ok (.iload_n 1, 1) := by decide +kernel
theorem dX1_x_23 : decode cX1_x 23 = .ok (.iaload, 1) := by decide +kernel
theorem dX1_x_24 : decode cX1_x 24 = .ok (.laload, 1) := by decide +kernel
theorem dX1_x_25 : decode cX1_x 25 = .ok (.goto 13, 3) := by decide +kernel
theorem dX1_x_28 : decode cX1_x 28 = .ok (.aload_n 0, 1) := by decide +kernel
theorem dX1_x_29 : decode cX1_x 29 = .ok (.getfield 18, 3) := by decide +kernel
theorem dX1_x_32 : decode cX1_x 32 = .ok (.getfield 87, 3) := by decide +kernel
theorem dX1_x_35 : decode cX1_x 35 = .ok (.iload_n 1, 1) := by decide +kernel
theorem dX1_x_36 : decode cX1_x 36 = .ok (.iaload, 1) := by decide +kernel
theorem dX1_x_37 : decode cX1_x 37 = .ok (.i2l, 1) := by decide +kernel
theorem dX1_x_38 : decode cX1_x 38 = .ok (.lreturn, 1) := by decide +kernel
theorem dX1_doArithmetic_0 : decode cX1_doArithmetic 0 = .ok (.aload_n 0, 1) := by decide +kernel
theorem dX1_doArithmetic_1 : decode cX1_doArithmetic 1 = .ok (.getfield 18, 3) := by decide +kernel
theorem dX1_doArithmetic_4 : decode cX1_doArithmetic 4 = .ok (.iload_n 1, 1) := by decide +kernel
theorem dX1_doArithmetic_5 : decode cX1_doArithmetic 5 = .ok (.invokevirtual 106, 3) := by decide +kernel
theorem dX1_doArithmetic_8 : decode cX1_doArithmetic 8 = .ok (.istore_n 2, 1) := by decide +kernel
theorem dX1_doArithmetic_9 : decode cX1_doArithmetic 9 = .ok (.aload_n 0, 1) := by decide +kernel
theorem dX1_doArithmetic_10 : decode cX1_doArithmetic 10 = .ok (.getfield 18, 3) := by decide +kernel
theorem dX1_doArithmetic_13 : decode cX1_doArithmetic 13 = .ok (.getfield 124, 3) := by decide +kernel
theorem dX1_doArithmetic_16 : decode cX1_doArithmetic 16 = .ok (.iload_n 1, 1) := by decide +kernel
theorem dX1_doArithmetic_17 : decode cX1_doArithmetic 17 = .ok (.iaload, 1) := by decide +kernel
theorem dX1_doArithmetic_18 : decode cX1_doArithmetic 18 = .ok (.istore_n 3, 1) := by decide +kernel
theorem dX1_doArithmetic_19 : decode cX1_doArithmetic 19 = .ok (.iload_n 2, 1) := by decide +kernel
theorem dX1_doArithmetic_20 : decode cX1_doArithmetic 20 = .ok (.bipush 13, 2) := by decide +kernel
theorem dX1_doArithmetic_22 : decode cX1_doArithmetic 22 = .ok (.if_icmp .ne 61, 3) := by decide +kernel
theorem dX1_doArithmetic_25 : decode cX1_doArithmetic 25 = .ok (.aload_n 0, 1) := by decide +kernel
theorem dX1_doArithmetic_26 : decode cX1_doArithmetic 26 = .ok (.getfield 18, 3) := by decide +kernel
theorem dX1_doArithmetic_29 : decode cX1_doArithmetic 29 = .ok (.iload_n 1, 1) := by decide +kernel
theorem dX1_doArithmetic_30 : decode cX1_doArithmetic 30 = .ok (.invokevirtual 163, 3) := by decide +kernel
theorem dX1_doArithmetic_33 : decode cX1_doArithmetic 33 = .ok (.ifCond .ne 14, 3) := by decide +kernel
theorem dX1_doArithmetic_36 : decode cX1_doArithmetic 36 = .ok (.aload_n 0, 1) := by decide +kernel
theorem dX1_doArithmetic_37 : decode cX1_doArithmetic 37 = .ok (.getfield 18, 3) := by decide +kernel
theorem dX1_doArithmetic_40 : decode cX1_doArithmetic 40 = .ok (.iload_n 1, 1) := by decide +kernel
theorem dX1_doArithmetic_41 : decode cX1_doArithmetic 41 = .ok (.invokevirtual 115, 3) := by decide +kernel
theorem dX1_doArithmetic_44 : decode cX1_doArithmetic 44 = .ok (.ifCond .eq 7, 3) := by decide +kernel
theorem dX1_doArithmetic_47 : decode cX1_doArithmetic 47 = .ok (.iconst 1, 1) := by decide +kernel
theorem dX1_doArithmetic_48 : decode cX1_doArithmetic 48 = .ok (.goto 4, 3) := by decide +kernel
theorem dX1_doArithmetic_51 : decode cX1_doArithmetic 51 = .ok (.iconst 0, 1) := by decide +kernel
theorem dX1_doArithmetic_52 : decode cX1_doArithmetic 52 = .ok (.istore 4, 2) := by decide +kernel
theorem dX1_doArithmetic_54 : decode cX1_doArithmetic 54 = .ok (.aload_n 0, 1) := by decide +kernel
theorem dX1_doArithmetic_55 : decode cX1_doArithmetic 55 = .ok (.getfield 9, 3) := by decide +kernel
theorem dX1_doArithmetic_58 : decode cX1_doArithmetic 58 = .ok (.iload_n 3, 1) := by decide +kernel
theorem dX1_doArithmetic_59 : decode cX1_doArithmetic 59 = .ok (.aload_n 0, 1) := by decide +kernel
theorem dX1_doArithmetic_60 : decode cX1_doArithmetic 60 = .ok (.getfield 9, 3) := by decide +kernel
theorem dX1_doArithmetic_63 : decode cX1_doArithmetic 63 = .ok (.iload_n 3, 1) := by decide +kernel
theorem dX1_doArithmetic_64 : decode cX1_doArithmetic 64 = .ok (.laload, 1) := by decide +kernel
theorem dX1_doArithmetic_65 : decode cX1_doArithmetic 65 = .ok (.aload_n 0, 1) := by decide +kernel
theorem dX1_doArithmetic_66 : decode cX1_doArithmetic 66 = .ok (.getfield 18, 3) := by decide +kernel
theorem dX1_doArithmetic_69 : decode cX1_doArithmetic 69 = .ok (.getfield 87, 3) := by decide +kernel
theorem dX1_doArithmetic_72 : decode cX1_doArithmetic 72 = .ok (.iload_n 1, 1) := by decide +kernel
theorem dX1_doArithmetic_73 : decode cX1_doArithmetic 73 = .ok (.iaload, 1) := by decide +kernel
theorem dX1_doArithmetic_74 : decode cX1_doArithmetic 74 = .ok (.iload 4, 2) := by decide +kernel
theorem dX1_doArithmetic_76 : decode cX1_doArithmetic 76 = .ok (.invokestatic 166, 3) := by decide +kernel
theorem dX1_doArithmetic_79 : decode cX1_doArithmetic 79 = .ok (.lastore, 1) := by decide +kernel
theorem dX1_doArithmetic_80 : decode cX1_doArithmetic 80 = .ok (.goto 41, 3) := by decide +kernel
theorem dX1_doArithmetic_83 : decode cX1_doArithmetic 83 = .ok (.aload_n 0, 1) := by decide +kernel
theorem dX1_doArithmetic_84 : decode cX1_doArithmetic 84 = .ok (.getfield 9, 3) := by decide +kernel
theorem dX1_doArithmetic_87 : decode cX1_doArithmetic 87 = .ok (.iload_n 3, 1) := by decide +kernel
theorem dX1_doArithmetic_88 : decode cX1_doArithmetic 88 = .ok (.iload_n 2, 1) := by decide +kernel
theorem dX1_doArithmetic_89 : decode cX1_doArithmetic 89 = .ok (.aload_n 0, 1) := by decide +kernel
theorem dX1_doArithmetic_90 : decode cX1_doArithmetic 90 = .ok (.getfield 18, 3) := by decide +kernel
theorem dX1_doArithmetic_93 : decode cX1_doArithmetic 93 = .ok (.iload_n 1, 1) := by decide +kernel
theorem dX1_doArithmetic_94 : decode cX1_doArithmetic 94 = .ok (.invokevirtual 163, 3) := by decide +kernel
theorem dX1_doArithmetic_97 : decode cX1_doArithmetic 97 = .ok (.aload_n 0, 1) := by decide +kernel
theorem dX1_doArithmetic_98 : decode cX1_doArithmetic 98 = .ok (.getfield 18, 3) := by decide +kernel
theorem dX1_doArithmetic_101 : decode cX1_doArithmetic 101 = .ok (.getfield 135, 3) := by decide +kernel
theorem dX1_doArithmetic_104 : decode cX1_doArithmetic 104 = .ok (.iload_n 1, 1) := by decide +kernel
theorem dX1_doArithmetic_105 : decode cX1_doArithmetic 105 = .ok (.iaload, 1) := by decide +kernel
theorem dX1_doArithmetic_106 : decode cX1_doArithmetic 106 = .ok (.aload_n 0, 1) := by decide +kernel
theorem dX1_doArithmetic_107 : decode cX1_doArithmetic 107 = .ok (.getfield 9, 3) := by decide +kernel
theorem dX1_doArithmetic_110 : decode cX1_doArithmetic 110 = .ok (.iload_n 3, 1) := by decide +kernel
theorem dX1_doArithmetic_111 : decode cX1_doArithmetic 111 = .ok (.laload, 1) := by decide +kernel
theorem dX1_doArithmetic_112 : decode cX1_doArithmetic 112 = .ok (.aload_n 0, 1) := by decide +kernel
theorem dX1_doArithmetic_113 : decode cX1_doArithmetic 113 = .ok (.iload_n 1, 1) := by decide +kernel
theorem dX1_doArithmetic_114 : decode cX1_doArithmetic 114 = .ok (.invokevirtual 170, 3) := by decide +kernel
theorem dX1_doArithmetic_117 : decode cX1_doArithmetic 117 = .ok (.invokestatic 159, 3) := by decide +kernel
theorem dX1_doArithmetic_120 : decode cX1_doArithmetic 120 = .ok (.lastore, 1) := by decide +kernel
theorem dX1_doArithmetic_121 : decode cX1_doArithmetic 121 = .ok (.aload_n 0, 1) := by decide +kernel
theorem dX1_doArithmetic_122 : decode cX1_doArithmetic 122 = .ok (.iload_n 1, 1) := by decide +kernel
theorem dX1_doArithmetic_123 : decode cX1_doArithmetic 123 = .ok (.iconst 1, 1) := by decide +kernel
theorem dX1_doArithmetic_124 : decode cX1_doArithmetic 124 = .ok (.iadd, 1) := by decide +kernel
theorem dX1_doArithmetic_125 : decode cX1_doArithmetic 125 = .ok (.invokevirtual 129, 3) := by decide +kernel
theorem dX1_doArithmetic_128 : decode cX1_doArithmetic 128 = .ok (.ireturn, 1) := by decide +kernel
theorem dX1_comeBack_0 : decode cX1_comeBack 0 = .ok (.aload_n 0, 1) := by decide +kernel
theorem dX1_comeBack_1 : decode cX1_comeBack 1 = .ok (.getfield 9, 3) := by decide +kernel
theorem dX1_comeBack_4 : decode cX1_comeBack 4 = .ok (.iconst 0, 1) := by decide +kernel
theorem dX1_comeBack_5 : decode cX1_comeBack 5 = .ok (.lload_n 2, 1) := by decide +kernel
theorem dX1_comeBack_6 : decode cX1_comeBack 6 = .ok (.lastore, 1) := by decide +kernel
theorem dX1_comeBack_7 : decode cX1_comeBack 7 = .ok (.iconst 1, 1) := by decide +kernel
theorem dX1_comeBack_8 : decode cX1_comeBack 8 = .ok (.istore 4, 2) := by decide +kernel
theorem dX1_comeBack_10 : decode cX1_comeBack 10 = .ok (.iload 4, 2) := by decide +kernel
theorem dX1_comeBack_12 : decode cX1_comeBack 12 = .ok (.iconst 5, 1) := by decide +kernel
theorem dX1_comeBack_13 : decode cX1_comeBack 13 = .ok (.if_icmp .gt 17, 3) := by decide +kernel
theorem dX1_comeBack_16 : decode cX1_comeBack 16 = .ok (.aload_n 0, 1) := by decide +kernel
theorem dX1_comeBack_17 : decode cX1_comeBack 17 = .ok (.getfield 9, 3) := by decide +kernel
theorem dX1_comeBack_20 : decode cX1_comeBack 20 = .ok (.iload 4, 2) := by decide +kernel
theorem dX1_comeBack_22 : decode cX1_comeBack 22 = .ok (.lconst 0, 1) := by decide +kernel
theorem dX1_comeBack_23 : decode cX1_comeBack 23 = .ok (.lastore, 1) := by decide +kernel
theorem dX1_comeBack_24 : decode cX1_comeBack 24 = .ok (.iinc 4 1, 3) := by decide +kernel
theorem dX1_comeBack_27 : decode cX1_comeBack 27 = .ok (.goto (-17), 3) := by decide +kernel
theorem dX1_comeBack_30 : decode cX1_comeBack 30 = .ok (.aload_n 0, 1) := by decide +kernel
theorem dX1_comeBack_31 : decode cX1_comeBack 31 = .ok (.iload_n 1, 1) := by decide +kernel
theorem dX1_comeBack_32 : decode cX1_comeBack 32 = .ok (.iconst 1, 1) := by decide +kernel
theorem dX1_comeBack_33 : decode cX1_comeBack 33 = .ok (.iadd, 1) := by decide +kernel
theorem dX1_comeBack_34 : decode cX1_comeBack 34 = .ok (.invokevirtual 129, 3) := by decide +kernel
theorem dX1_comeBack_37 : decode cX1_comeBack 37 = .ok (.ireturn, 1) := by decide +kernel
theorem dX1_doCall_0 : decode cX1_doCall 0 = .ok (.iload_n 2, 1) := by decide +kernel
theorem dX1_doCall_1 : decode cX1_doCall 1 = .ok (.iconst 5, 1) := by decide +kernel
theorem dX1_doCall_2 : decode cX1_doCall 2 = .ok (.if_icmp .ne 16, 3) := by decide +kernel
theorem dX1_doCall_5 : decode cX1_doCall 5 = .ok (.aload_n 0, 1) := by decide +kernel
theorem dX1_doCall_6 : decode cX1_doCall 6 = .ok (.iload_n 1, 1) := by decide +kernel
theorem dX1_doCall_7 : decode cX1_doCall 7 = .ok (.aload_n 0, 1) := by decide +kernel
theorem dX1_doCall_8 : decode cX1_doCall 8 = .ok (.getfield 22, 3) := by decide +kernel
theorem dX1_doCall_11 : decode cX1_doCall 11 = .ok (.getfield 180, 3) := by decide +kernel
theorem dX1_doCall_14 : decode cX1_doCall 14 = .ok (.invokevirtual 184, 3) := by decide +kernel
theorem dX1_doCall_17 : decode cX1_doCall 17 = .ok (.ireturn, 1) := by decide +kernel
theorem dX1_doCall_18 : decode cX1_doCall 18 = .ok (.iload_n 2, 1) := by decide +kernel
theorem dX1_doCall_19 : decode cX1_doCall 19 = .ok (.bipush 6, 2) := by decide +kernel
theorem dX1_doCall_21 : decode cX1_doCall 21 = .ok (.if_icmp .ne 40, 3) := by decide +kernel
theorem dX1_doCall_24 : decode cX1_doCall 24 = .ok (.aload_n 0, 1) := by decide +kernel
theorem dX1_doCall_25 : decode cX1_doCall 25 = .ok (.getfield 15, 3) := by decide +kernel
theorem dX1_doCall_28 : decode cX1_doCall 28 = .ok (.aload_n 0, 1) := by decide +kernel
theorem dX1_doCall_29 : decode cX1_doCall 29 = .ok (.getfield 45, 3) := by decide +kernel
theorem dX1_doCall_32 : decode cX1_doCall 32 = .ok (.bipush 32, 2) := by decide +kernel
theorem dX1_doCall_34 : decode cX1_doCall 34 = .ok (.invokestatic 187, 3) := by decide +kernel
theorem dX1_doCall_37 : decode cX1_doCall 37 = .ok (.aload_n 0, 1) := by decide +kernel
theorem dX1_doCall_38 : decode cX1_doCall 38 = .ok (.getfield 9, 3) := by decide +kernel
theorem dX1_doCall_41 : decode cX1_doCall 41 = .ok (.iconst 1, 1) := by decide +kernel
theorem dX1_doCall_42 : decode cX1_doCall 42 = .ok (.laload, 1) := by decide +kernel
theorem dX1_doCall_43 : decode cX1_doCall 43 = .ok (.lastore, 1) := by decide +kernel
theorem dX1_doCall_44 : decode cX1_doCall 44 = .ok (.aload_n 0, 1) := by decide +kernel
theorem dX1_doCall_45 : decode cX1_doCall 45 = .ok (.dup, 1) := by decide +kernel
theorem dX1_doCall_46 : decode cX1_doCall 46 = .ok (.getfield 45, 3) := by decide +kernel
theorem dX1_doCall_49 : decode cX1_doCall 49 = .ok (.iconst 1, 1) := by decide +kernel
theorem dX1_doCall_50 : decode cX1_doCall 50 = .ok (.iadd, 1) := by decide +kernel
theorem dX1_doCall_51 : decode cX1_doCall 51 = .ok (.putfield 45, 3) := by decide +kernel
theorem dX1_doCall_54 : decode cX1_doCall 54 = .ok (.aload_n 0, 1) := by decide +kernel
theorem dX1_doCall_55 : decode cX1_doCall 55 = .ok (.iload_n 1, 1) := by decide +kernel
theorem dX1_doCall_56 : decode cX1_doCall 56 = .ok (.lconst 0, 1) := by decide +kernel
theorem dX1_doCall_57 : decode cX1_doCall 57 = .ok (.invokevirtual 184, 3) := by decide +kernel
theorem dX1_doCall_60 : decode cX1_doCall 60 = .ok (.ireturn, 1) := by decide +kernel
theorem dX1_doCall_61 : decode cX1_doCall 61 = .ok (.aload_n 0, 1) := by decide +kernel
theorem dX1_doCall_62 : decode cX1_doCall 62 = .ok (.getfield 22, 3) := by decide +kernel
theorem dX1_doCall_65 : decode cX1_doCall 65 = .ok (.aload_n 0, 1) := by decide +kernel
theorem dX1_doCall_66 : decode cX1_doCall 66 = .ok (.getfield 9, 3) := by decide +kernel
theorem dX1_doCall_69 : decode cX1_doCall 69 = .ok (.iconst 1, 1) := by decide +kernel
theorem dX1_doCall_70 : decode cX1_doCall 70 = .ok (.laload, 1) := by decide +kernel
theorem dX1_doCall_71 : decode cX1_doCall 71 = .ok (.invokevirtual 190, 3) := by decide +kernel
theorem dX1_doCall_74 : decode cX1_doCall 74 = .ok (.istore_n 3, 1) := by decide +kernel
theorem dX1_doCall_75 : decode cX1_doCall 75 = .ok (.aload_n 0, 1) := by decide +kernel
theorem dX1_doCall_76 : decode cX1_doCall 76 = .ok (.getfield 22, 3) := by decide +kernel
theorem dX1_doCall_79 : decode cX1_doCall 79 = .ok (.iload_n 3, 1) := by decide +kernel
theorem dX1_doCall_80 : decode cX1_doCall 80 = .ok (.invokevirtual 118, 3) := by decide +kernel
theorem dX1_doCall_83 : decode cX1_doCall 83 = .ok (.astore 4, 2) := by decide +kernel
theorem dX1_doCall_85 : decode cX1_doCall 85 = .ok (.aload 4, 2) := by decide +kernel
theorem dX1_doCall_87 : decode cX1_doCall 87 = .ok (.ifnull 25, 3) := by decide +kernel
theorem dX1_doCall_90 : decode cX1_doCall 90 = .ok (.aload_n 0, 1) := by decide +kernel
theorem dX1_doCall_91 : decode cX1_doCall 91 = .ok (.getfield 22, 3) := by decide +kernel
theorem dX1_doCall_94 : decode cX1_doCall 94 = .ok (.aload_n 0, 1) := by decide +kernel
theorem dX1_doCall_95 : decode cX1_doCall 95 = .ok (.getfield 9, 3) := by decide +kernel
theorem dX1_doCall_98 : decode cX1_doCall 98 = .ok (.iconst 2, 1) := by decide +kernel
theorem dX1_doCall_99 : decode cX1_doCall 99 = .ok (.laload, 1) := by decide +kernel
theorem dX1_doCall_100 : decode cX1_doCall 100 = .ok (.aload 4, 2) := by decide +kernel
theorem dX1_doCall_102 : decode cX1_doCall 102 = .ok (.getfield 194, 3) := by decide +kernel
theorem dX1_doCall_105 : decode cX1_doCall 105 = .ok (.iconst 0, 1) := by decide +kernel
theorem dX1_doCall_106 : decode cX1_doCall 106 = .ok (.invokevirtual 138, 3) := by decide +kernel
theorem dX1_doCall_109 : decode cX1_doCall 109 = .ok (.ifCond .ne 5, 3) := by decide +kernel
theorem dX1_doCall_112 : decode cX1_doCall 112 = .ok (.iconst 4, 1) := by decide +kernel
theorem dX1_doCall_113 : decode cX1_doCall 113 = .ok (.ireturn, 1) := by decide +kernel
theorem dX1_doCall_114 : decode cX1_doCall 114 = .ok (.aload_n 0, 1) := by decide +kernel
theorem dX1_doCall_115 : decode cX1_doCall 115 = .ok (.getfield 22, 3) := by decide +kernel
theorem dX1_doCall_118 : decode cX1_doCall 118 = .ok (.aload 4, 2) := by decide +kernel
theorem dX1_doCall_120 : decode cX1_doCall 120 = .ok (.getfield 194, 3) := by decide +kernel
theorem dX1_doCall_123 : decode cX1_doCall 123 = .ok (.invokevirtual 142, 3) := by decide +kernel
theorem dX1_doCall_126 : decode cX1_doCall 126 = .ok (.lstore 5, 2) := by decide +kernel
theorem dX1_doCall_128 : decode cX1_doCall 128 = .ok (.iload_n 2, 1) := by decide +kernel
theorem dX1_doCall_129 : decode cX1_doCall 129 = .ok (.iconst 1, 1) := by decide +kernel
theorem dX1_doCall_130 : decode cX1_doCall 130 = .ok (.if_icmp .ne 43, 3) := by decide +kernel
theorem dX1_doCall_133 : decode cX1_doCall 133 = .ok (.aload 4, 2) := by decide +kernel
theorem dX1_doCall_135 : decode cX1_doCall 135 = .ok (.lload 5, 2) := by decide +kernel
theorem dX1_doCall_137 : decode cX1_doCall 137 = .ok (.invokevirtual 199, 3) := by decide +kernel
theorem dX1_doCall_140 : decode cX1_doCall 140 = .ok (.istore 7, 2) := by decide +kernel
theorem dX1_doCall_142 : decode cX1_doCall 142 = .ok (.aload_n 0, 1) := by decide +kernel
theorem dX1_doCall_143 : decode cX1_doCall 143 = .ok (.iload_n 1, 1) := by decide +kernel
theorem dX1_doCall_144 : decode cX1_doCall 144 = .ok (.iload 7, 2) := by decide +kernel
theorem dX1_doCall_146 : decode cX1_doCall 146 = .ok (.ifCond .ge 7, 3) := by decide +kernel
theorem dX1_doCall_149 : decode cX1_doCall 149 = .ok (.lconst 0, 1) := by decide +kernel
theorem dX1_doCall_150 : decode cX1_doCall 150 = .ok (.goto 19, 3) := by decide +kernel
theorem dX1_doCall_153 : decode cX1_doCall 153 = .ok (.ldc2_w 202, 3) := by decide +kernel
theorem dX1_doCall_156 : decode cX1_doCall 156 = .ok (.iload_n 3, 1) := by decide +kernel
theorem dX1_doCall_157 : decode cX1_doCall 157 = .ok (.i2l, 1) := by decide +kernel
theorem dX1_doCall_158 : decode cX1_doCall 158 = .ok (.bipush 24, 2) := by decide +kernel
theorem dX1_doCall_160 : decode cX1_doCall 160 = .ok (.lshl, 1) := by decide +kernel
theorem dX1_doCall_161 : decode cX1_doCall 161 = .ok (.ladd, 1) := by decide +kernel
theorem dX1_doCall_162 : decode cX1_doCall 162 = .ok (.iload 7, 2) := by decide +kernel
theorem dX1_doCall_164 : decode cX1_doCall 164 = .ok (.i2l, 1) := by decide +kernel
theorem dX1_doCall_165 : decode cX1_doCall 165 = .ok (.bipush 12, 2) := by decide +kernel
theorem dX1_doCall_167 : decode cX1_doCall 167 = .ok (.lshl, 1) := by decide +kernel
theorem dX1_doCall_168 : decode cX1_doCall 168 = .ok (.ladd, 1) := by decide +kernel
theorem dX1_doCall_169 : decode cX1_doCall 169 = .ok (.invokevirtual 184, 3) := by decide +kernel
theorem dX1_doCall_172 : decode cX1_doCall 172 = .ok (.ireturn, 1) := by decide +kernel
theorem dX1_doCall_173 : decode cX1_doCall 173 = .ok (.iload_n 2, 1) := by decide +kernel
theorem dX1_doCall_174 : decode cX1_doCall 174 = .ok (.iconst 3, 1) := by decide +kernel
theorem dX1_doCall_175 : decode cX1_doCall 175 = .ok (.if_icmp .ne 26, 3) := by decide +kernel
theorem dX1_doCall_178 : decode cX1_doCall 178 = .ok (.aload_n 0, 1) := by decide +kernel
theorem dX1_doCall_179 : decode cX1_doCall 179 = .ok (.iload_n 1, 1) := by decide +kernel
theorem dX1_doCall_180 : decode cX1_doCall 180 = .ok (.aload 4, 2) := by decide +kernel
theorem dX1_doCall_182 : decode cX1_doCall 182 = .ok (.lload 5, 2) := by decide +kernel
theorem dX1_doCall_184 : decode cX1_doCall 184 = .ok (.invokevirtual 204, 3) := by decide +kernel
theorem dX1_doCall_187 : decode cX1_doCall 187 = .ok (.ifCond .eq 7, 3) := by decide +kernel
theorem dX1_doCall_190 : decode cX1_doCall 190 = .ok (.lconst 0, 1) := by decide +kernel
theorem dX1_doCall_191 : decode cX1_doCall 191 = .ok (.goto 6, 3) := by decide +kernel
theorem dX1_doCall_194 : decode cX1_doCall 194 = .ok (.ldc2_w 208, 3) := by decide +kernel
theorem dX1_doCall_197 : decode cX1_doCall 197 = .ok (.invokevirtual 184, 3) := by decide +kernel
theorem dX1_doCall_200 : decode cX1_doCall 200 = .ok (.ireturn, 1) := by decide +kernel
theorem dX1_doCall_201 : decode cX1_doCall 201 = .ok (.aload_n 0, 1) := by decide +kernel
theorem dX1_doCall_202 : decode cX1_doCall 202 = .ok (.getfield 22, 3) := by decide +kernel
theorem dX1_doCall_205 : decode cX1_doCall 205 = .ok (.aload_n 0, 1) := by decide +kernel
theorem dX1_doCall_206 : decode cX1_doCall 206 = .ok (.getfield 9, 3) := by decide +kernel
theorem dX1_doCall_209 : decode cX1_doCall 209 = .ok (.iconst 3, 1) := by decide +kernel
theorem dX1_doCall_210 : decode cX1_doCall 210 = .ok (.laload, 1) := by decide +kernel
theorem dX1_doCall_211 : decode cX1_doCall 211 = .ok (.aload 4, 2) := by decide +kernel
theorem dX1_doCall_213 : decode cX1_doCall 213 = .ok (.getfield 210, 3) := by decide +kernel
theorem dX1_doCall_216 : decode cX1_doCall 216 = .ok (.iconst 0, 1) := by decide +kernel
theorem dX1_doCall_217 : decode cX1_doCall 217 = .ok (.invokevirtual 138, 3) := by decide +kernel
theorem dX1_doCall_220 : decode cX1_doCall 220 = .ok (.ifCond .ne 5, 3) := by decide +kernel
theorem dX1_doCall_223 : decode cX1_doCall 223 = .ok (.iconst 4, 1) := by decide +kernel
theorem dX1_doCall_224 : decode cX1_doCall 224 = .ok (.ireturn, 1) := by decide +kernel
theorem dX1_doCall_225 : decode cX1_doCall 225 = .ok (.aload 4, 2) := by decide +kernel
theorem dX1_doCall_227 : decode cX1_doCall 227 = .ok (.lload 5, 2) := by decide +kernel
theorem dX1_doCall_229 : decode cX1_doCall 229 = .ok (.aload_n 0, 1) := by decide +kernel
theorem dX1_doCall_230 : decode cX1_doCall 230 = .ok (.getfield 9, 3) := by decide +kernel
theorem dX1_doCall_233 : decode cX1_doCall 233 = .ok (.iconst 4, 1) := by decide +kernel
theorem dX1_doCall_234 : decode cX1_doCall 234 = .ok (.laload, 1) := by decide +kernel
theorem dX1_doCall_235 : decode cX1_doCall 235 = .ok (.invokevirtual 213, 3) := by decide +kernel
theorem dX1_doCall_238 : decode cX1_doCall 238 = .ok (.istore 7, 2) := by decide +kernel
theorem dX1_doCall_240 : decode cX1_doCall 240 = .ok (.iload 7, 2) := by decide +kernel
theorem dX1_doCall_242 : decode cX1_doCall 242 = .ok (.ifCond .lt 14, 3) := by decide +kernel
theorem dX1_doCall_245 : decode cX1_doCall 245 = .ok (.aload_n 0, 1) := by decide +kernel
theorem dX1_doCall_246 : decode cX1_doCall 246 = .ok (.getfield 22, 3) := by decide +kernel
theorem dX1_doCall_249 : decode cX1_doCall 249 = .ok (.aload 4, 2) := by decide +kernel
theorem dX1_doCall_251 : decode cX1_doCall 251 = .ok (.iload 7, 2) := by decide +kernel
theorem dX1_doCall_253 : decode cX1_doCall 253 = .ok (.invokevirtual 217, 3) := by decide +kernel
theorem dX1_doCall_256 : decode cX1_doCall 256 = .ok (.aload_n 0, 1) := by decide +kernel
theorem dX1_doCall_257 : decode cX1_doCall 257 = .ok (.iload_n 1, 1) := by decide +kernel
theorem dX1_doCall_258 : decode cX1_doCall 258 = .ok (.iload 7, 2) := by decide +kernel
theorem dX1_doCall_260 : decode cX1_doCall 260 = .ok (.ifCond .ge 9, 3) := by decide +kernel
theorem dX1_doCall_263 : decode cX1_doCall 263 = .ok (.ldc2_w 208, 3) := by decide +kernel
theorem dX1_doCall_266 : decode cX1_doCall 266 = .ok (.goto 4, 3) := by decide +kernel
theorem dX1_doCall_269 : decode cX1_doCall 269 = .ok (.lconst 0, 1) := by decide +kernel
theorem dX1_doCall_270 : decode cX1_doCall 270 = .ok (.invokevirtual 184, 3) := by decide +kernel
theorem dX1_doCall_273 : decode cX1_doCall 273 = .ok (.ireturn, 1) := by decide +kernel
theorem dX1_doJump_0 : decode cX1_doJump 0 = .ok (.aload_n 0, 1) := by decide +kernel
theorem dX1_doJump_1 : decode cX1_doJump 1 = .ok (.getfield 18, 3) := by decide +kernel
theorem dX1_doJump_4 : decode cX1_doJump 4 = .ok (.iload_n 1, 1) := by decide +kernel
theorem dX1_doJump_5 : decode cX1_doJump 5 = .ok (.invokevirtual 106, 3) := by decide +kernel
theorem dX1_doJump_8 : decode cX1_doJump 8 = .ok (.istore_n 2, 1) := by decide +kernel
theorem dX1_doJump_9 : decode cX1_doJump 9 = .ok (.iload_n 2, 1) := by decide +kernel
theorem dX1_doJump_10 : decode cX1_doJump 10 = .ok (.bipush 9, 2) := by decide +kernel
theorem dX1_doJump_12 : decode cX1_doJump 12 = .ok (.if_icmp .ne 5, 3) := by decide +kernel
theorem dX1_doJump_15 : decode cX1_doJump 15 = .ok (.iconst 2, 1) := by decide +kernel
theorem dX1_doJump_16 : decode cX1_doJump 16 = .ok (.ireturn, 1) := by decide +kernel
theorem dX1_doJump_17 : decode cX1_doJump 17 = .ok (.iload_n 2, 1) := by decide +kernel
theorem dX1_doJump_18 : decode cX1_doJump 18 = .ok (.ifCond .eq 37, 3) := by decide +kernel
theorem dX1_doJump_21 : decode cX1_doJump 21 = .ok (.iload_n 2, 1) := by decide +kernel
theorem dX1_doJump_22 : decode cX1_doJump 22 = .ok (.aload_n 0, 1) := by decide +kernel
theorem dX1_doJump_23 : decode cX1_doJump 23 = .ok (.getfield 18, 3) := by decide +kernel
theorem dX1_doJump_26 : decode cX1_doJump 26 = .ok (.iload_n 1, 1) := by decide +kernel
theorem dX1_doJump_27 : decode cX1_doJump 27 = .ok (.invokevirtual 163, 3) := by decide +kernel
theorem dX1_doJump_30 : decode cX1_doJump 30 = .ok (.aload_n 0, 1) := by decide +kernel
theorem dX1_doJump_31 : decode cX1_doJump 31 = .ok (.getfield 9, 3) := by decide +kernel
theorem dX1_doJump_34 : decode cX1_doJump 34 = .ok (.aload_n 0, 1) := by decide +kernel
theorem dX1_doJump_35 : decode cX1_doJump 35 = .ok (.getfield 18, 3) := by decide +kernel
theorem dX1_doJump_38 : decode cX1_doJump 38 = .ok (.getfield 124, 3) := by decide +kernel
theorem dX1_doJump_41 : decode cX1_doJump 41 = .ok (.iload_n 1, 1) := by decide +kernel
theorem dX1_doJump_42 : decode cX1_doJump 42 = .ok (.iaload, 1) := by decide +kernel
theorem dX1_doJump_43 : decode cX1_doJump 43 = .ok (.laload, 1) := by decide +kernel
theorem dX1_doJump_44 : decode cX1_doJump 44 = .ok (.aload_n 0, 1) := by decide +kernel
theorem dX1_doJump_45 : decode cX1_doJump 45 = .ok (.iload_n 1, 1) := by decide +kernel
theorem dX1_doJump_46 : decode cX1_doJump 46 = .ok (.invokevirtual 170, 3) := by decide +kernel
theorem dX1_doJump_49 : decode cX1_doJump 49 = .ok (.invokestatic 173, 3) := by decide +kernel
theorem dX1_doJump_52 : decode cX1_doJump 52 = .ok (.ifCond .eq 7, 3) := by decide +kernel
theorem dX1_doJump_55 : decode cX1_doJump 55 = .ok (.iconst 1, 1) := by decide +kernel
theorem dX1_doJump_56 : decode cX1_doJump 56 = .ok (.goto 4, 3) := by decide +kernel
theorem dX1_doJump_59 : decode cX1_doJump 59 = .ok (.iconst 0, 1) := by decide +kernel
theorem dX1_doJump_60 : decode cX1_doJump 60 = .ok (.istore_n 3, 1) := by decide +kernel
theorem dX1_doJump_61 : decode cX1_doJump 61 = .ok (.aload_n 0, 1) := by decide +kernel
theorem dX1_doJump_62 : decode cX1_doJump 62 = .ok (.iload_n 3, 1) := by decide +kernel
theorem dX1_doJump_63 : decode cX1_doJump 63 = .ok (.ifCond .eq 18, 3) := by decide +kernel
theorem dX1_doJump_66 : decode cX1_doJump 66 = .ok (.iload_n 1, 1) := by decide +kernel
theorem dX1_doJump_67 : decode cX1_doJump 67 = .ok (.iconst 1, 1) := by decide +kernel
theorem dX1_doJump_68 : decode cX1_doJump 68 = .ok (.iadd, 1) := by decide +kernel
theorem dX1_doJump_69 : decode cX1_doJump 69 = .ok (.aload_n 0, 1) := by decide +kernel
theorem dX1_doJump_70 : decode cX1_doJump 70 = .ok (.getfield 18, 3) := by decide +kernel
theorem dX1_doJump_73 : decode cX1_doJump 73 = .ok (.iload_n 1, 1) := by decide +kernel
theorem dX1_doJump_74 : decode cX1_doJump 74 = .ok (.invokevirtual 177, 3) := by decide +kernel
theorem dX1_doJump_77 : decode cX1_doJump 77 = .ok (.iadd, 1) := by decide +kernel
theorem dX1_doJump_78 : decode cX1_doJump 78 = .ok (.goto 6, 3) := by decide +kernel
theorem dX1_doJump_81 : decode cX1_doJump 81 = .ok (.iload_n 1, 1) := by decide +kernel
theorem dX1_doJump_82 : decode cX1_doJump 82 = .ok (.iconst 1, 1) := by decide +kernel
theorem dX1_doJump_83 : decode cX1_doJump 83 = .ok (.iadd, 1) := by decide +kernel
theorem dX1_doJump_84 : decode cX1_doJump 84 = .ok (.invokevirtual 129, 3) := by decide +kernel
theorem dX1_doJump_87 : decode cX1_doJump 87 = .ok (.ireturn, 1) := by decide +kernel
-- JudgedCode$Machine.<init>
def f_X1_init_17 (o0 : Nat) (o1 : Nat) (o2 : Nat) (os0 : Nat) (os1 : Nat) (S : sh) (D : dt) : Option (Unit × sh × dt) := nm (pR D os0 3 (some os1)) fun D19 => nm (pR D19 o0 0 (some o1)) fun D20 => nm (pR D20 o0 1 (some o2)) fun D21 => some ((), S, D21)
def f_X1_init_9 (o0 : Nat) (o1 : Nat) (o2 : Nat) (os0 : Nat) (os1 : Nat) (S : sh) (D : dt) : Option (Unit × sh × dt) := nm (pR D os0 2 (some os1)) fun D22 => f_X1_init_17 o0 o1 o2 o0 (sN S) (aS S 101 32 32) (aD S D22)
def f_X1_init (o0 : Nat) (o1 : Nat) (o2 : Nat) (S : sh) (D : dt) : Option (Unit × sh × dt) := f_X1_init_9 o0 o1 o2 o0 (sN S) (aS S 101 11 11) (aD S D)
-- JudgedCode$Machine.begin
def f_X1_begin (S : sh) (o0 : Nat) (D : dt) : Option (Unit × dt) := rq (gR D o0 2) fun o33 => cq (f_J7_fill_d0a16 S o33 (0 : Int64) D) fun _ D38 => rq (gR D38 o0 2) fun o39 => ix (1 : Int32) (sA S o39) <| nm (pL D38 o39 (1 : Int32).toNatClampNeg (4294967296 : Int64)) fun D44 => rq (gR D44 o0 2) fun o45 => ix (10 : Int32) (sA S o45) <| nm (pL D44 o45 (10 : Int32).toNatClampNeg (8589934592 : Int64)) fun D50 => rq (gR D50 o0 1) fun o51 => rq (gR D50 o51 2) fun o55 => cq (f_J7_fill_031fb S o55 (0 : Int32) D50) fun _ D60 => nm (pI D60 o0 4 (0 : Int32)) fun D61 => nm (pI D61 o0 6 (0 : Int32)) fun D62 => nm (pI D62 o0 7 (0 : Int32)) fun D63 => nm (pI D63 o0 5 (1 : Int32)) fun D64 => some ((), D64)
-- JudgedCode$Machine.goTo
def f_X1_goTo (S : sh) (o0 : Nat) (x1 : Int32) (D : dt) : Option (Int32 × dt) := nm (pI D o0 6 x1) fun D2 => some ((1 : Int32), D2)
-- JudgedCode$Machine.doPair
def f_X1_doPair_113 (S : sh) (o0 : Nat) (x1 : Int32) (os0 : Nat) (xs1 : Int32) (xs2 : Int64) (D : dt) : Option (Int32 × dt) := ix xs1 (sA S os0) <| nm (pL D os0 xs1.toNatClampNeg xs2) fun D67 => cq (f_X1_goTo S o0 (x1 + (2 : Int32)) D67) fun r69 D70 => some (r69, D70)
def f_X1_doPair_61 (S : sh) (o0 : Nat) (x1 : Int32) (x2 : Int32) (x3 : Int32) (D : dt) : Option (Int32 × dt) := rq (gR D o0 0) fun o71 => rq (gR D o71 4) fun o75 => ix (x1 + (1 : Int32)) (sA S o75) <| nm ((j_lshl ((gI D o75 (x1 + (1 : Int32)).toNatClampNeg).toInt64) (32 : Int32)) ||| (x2.toInt64 &&& (4294967295 : Int64))) fun y80 => rq (gR D o0 2) fun o81 => rq (gR D o0 0) fun o85 => rq (gR D o85 1) fun o89 => ix x1 (sA S o89) <| if x3 = 0 then (f_X1_doPair_113 S o0 x1 o81 (gI D o89 x1.toNatClampNeg) y80 D) else (f_X1_doPair_113 S o0 x1 o81 (gI D o89 x1.toNatClampNeg) ((17179869184 : Int64) + x2.toInt64) D)
def f_X1_doPair_28 (S : sh) (o0 : Nat) (x1 : Int32) (x2 : Int32) (xs0 : Int32) (D : dt) : Option (Int32 × dt) := rq (gR D o0 0) fun o95 => pq (f_X4_has S D o95 (x1 + (1 : Int32))) fun r100 => if r100 = 0 then (some ((5 : Int32), D)) else (if xs0 = 0 then (f_X1_doPair_61 S o0 x1 x2 xs0 D) else (rq (gR D o0 1) fun o103 => pq (f_X2_tableNumbered S D o103 x2) fun r108 => oq r108 (some ((4 : Int32), D)) fun o109 => f_X1_doPair_61 S o0 x1 x2 xs0 D))
def f_X1_doPair (S : sh) (o0 : Nat) (x1 : Int32) (D : dt) : Option (Int32 × dt) := rq (gR D o0 0) fun o111 => rq (gR D o111 4) fun o115 => ix x1 (sA S o115) <| nm (gI D o115 x1.toNatClampNeg) fun y120 => rq (gR D o0 0) fun o121 => rq (gR D o121 2) fun o125 => ix x1 (sA S o125) <| if (gI D o125 x1.toNatClampNeg) = (1 : Int32) then (f_X1_doPair_28 S o0 x1 y120 (1 : Int32) D) else (f_X1_doPair_28 S o0 x1 y120 (0 : Int32) D)
-- JudgedCode$Machine.doLoad
def f_X1_doLoad_93 (S : sh) (o0 : Nat) (x1 : Int32) (os0 : Nat) (xs1 : Int32) (xs2 : Int64) (D : dt) : Option (Int32 × dt) := ix xs1 (sA S os0) <| nm (pL D os0 xs1.toNatClampNeg xs2) fun D72 => cq (f_X1_goTo S o0 (x1 + (1 : Int32)) D72) fun r74 D75 => some (r74, D75)
def f_X1_doLoad (S : sh) (o0 : Nat) (x1 : Int32) (D : dt) : Option (Int32 × dt) := rq (gR D o0 0) fun o76 => pq (f_X4_width S D o76 x1) fun r81 => rq (gR D o0 1) fun o82 => rq (gR D o0 2) fun o86 => rq (gR D o0 0) fun o90 => rq (gR D o90 2) fun o94 => ix x1 (sA S o94) <| ix (gI D o94 x1.toNatClampNeg) (sA S o86) <| rq (gR D o0 0) fun o100 => rq (gR D o100 3) fun o104 => ix x1 (sA S o104) <| cq (f_X2_find S o82 ((gL D o86 (gI D o94 x1.toNatClampNeg).toNatClampNeg) + ((gI D o104 x1.toNatClampNeg).toInt64)) r81 (0 : Int32) D) fun r110 D111 => if r110 = 0 then (some ((4 : Int32), D111)) else (rq (gR D111 o0 1) fun o113 => pq (f_X2_foundNumber S D111 o113 r81) fun r118 => rq (gR D111 o0 2) fun o119 => rq (gR D111 o0 0) fun o123 => rq (gR D111 o123 1) fun o127 => ix x1 (sA S o127) <| rq (gR D111 o0 0) fun o132 => pq (f_X4_isSignedLoad S D111 o132 x1) fun r137 => if r137 = 0 then (f_X1_doLoad_93 S o0 x1 o119 (gI D111 o127 x1.toNatClampNeg) r118 D111) else (pq (f_X3_withSign r118 ((8 : Int32) * r81)) fun r140 => f_X1_doLoad_93 S o0 x1 o119 (gI D111 o127 x1.toNatClampNeg) r140 D111))
-- JudgedCode$Machine.doPut
def f_X1_doPut (S : sh) (o0 : Nat) (x1 : Int32) (x2 : Int64) (D : dt) : Option (Int32 × dt) := rq (gR D o0 0) fun o47 => pq (f_X4_width S D o47 x1) fun r52 => rq (gR D o0 1) fun o53 => rq (gR D o0 2) fun o57 => rq (gR D o0 0) fun o61 => rq (gR D o61 1) fun o65 => ix x1 (sA S o65) <| ix (gI D o65 x1.toNatClampNeg) (sA S o57) <| rq (gR D o0 0) fun o71 => rq (gR D o71 3) fun o75 => ix x1 (sA S o75) <| cq (f_X2_find S o53 ((gL D o57 (gI D o65 x1.toNatClampNeg).toNatClampNeg) + ((gI D o75 x1.toNatClampNeg).toInt64)) r52 (1 : Int32) D) fun r81 D82 => if r81 = 0 then (some ((4 : Int32), D82)) else (rq (gR D82 o0 1) fun o84 => cq (f_X2_writeFound S o84 x2 r52 D82) fun _ D89 => cq (f_X1_goTo S o0 (x1 + (1 : Int32)) D89) fun r91 D92 => some (r91, D92))
-- JudgedCode$Machine.doChange
def f_X1_doChange_211 (S : sh) (o0 : Nat) (x1 : Int32) (D : dt) : Option (Int32 × dt) := cq (f_X1_goTo S o0 (x1 + (1 : Int32)) D) fun r126 D127 => some (r126, D127)
def f_X1_doChange_185 (S : sh) (o0 : Nat) (x1 : Int32) (x2 : Int32) (x3 : Int32) (x4 : Int64) (os0 : Nat) (xs1 : Int64) (D : dt) : Option (Int32 × dt) := cq (f_X2_writeFound S os0 xs1 x2 D) fun _ D129 => if (x3 &&& (1 : Int32)) = 0 then (f_X1_doChange_211 S o0 x1 D129) else (rq (gR D129 o0 2) fun o131 => rq (gR D129 o0 0) fun o135 => rq (gR D129 o135 2) fun o139 => ix x1 (sA S o139) <| ix (gI D129 o139 x1.toNatClampNeg) (sA S o131) <| nm (pL D129 o131 (gI D129 o139 x1.toNatClampNeg).toNatClampNeg x4) fun D145 => f_X1_doChange_211 S o0 x1 D145)
def f_X1_doChange_137 (S : sh) (o0 : Nat) (x1 : Int32) (x2 : Int32) (x4 : Int64) (os0 : Nat) (xs1 : Int64) (D : dt) : Option (Int32 × dt) := cq (f_X2_writeFound S os0 xs1 x2 D) fun _ D147 => rq (gR D147 o0 2) fun o148 => ix (0 : Int32) (sA S o148) <| nm (pL D147 o148 (0 : Int32).toNatClampNeg x4) fun D153 => cq (f_X1_goTo S o0 (x1 + (1 : Int32)) D153) fun r155 D156 => some (r155, D156)
def f_X1_doChange_116 (S : sh) (o0 : Nat) (x1 : Int32) (x2 : Int32) (x4 : Int64) (x6 : Int64) (xs0 : Int64) (D : dt) : Option (Int32 × dt) := rq (gR D o0 1) fun o157 => if (lg_cmp x4 xs0) = 0 then (f_X1_doChange_137 S o0 x1 x2 x4 o157 x6 D) else (f_X1_doChange_137 S o0 x1 x2 x4 o157 x4 D)
def f_X1_doChange (S : sh) (o0 : Nat) (x1 : Int32) (D : dt) : Option (Int32 × dt) := rq (gR D o0 0) fun o162 => pq (f_X4_width S D o162 x1) fun r167 => rq (gR D o0 0) fun o168 => rq (gR D o168 4) fun o172 => ix x1 (sA S o172) <| nm (gI D o172 x1.toNatClampNeg) fun y177 => rq (gR D o0 1) fun o178 => rq (gR D o0 2) fun o182 => rq (gR D o0 0) fun o186 => rq (gR D o186 1) fun o190 => ix x1 (sA S o190) <| ix (gI D o190 x1.toNatClampNeg) (sA S o182) <| rq (gR D o0 0) fun o196 => rq (gR D o196 3) fun o200 => ix x1 (sA S o200) <| cq (f_X2_find S o178 ((gL D o182 (gI D o190 x1.toNatClampNeg).toNatClampNeg) + ((gI D o200 x1.toNatClampNeg).toInt64)) r167 (1 : Int32) D) fun r206 D207 => if r206 = 0 then (some ((4 : Int32), D207)) else (rq (gR D207 o0 1) fun o209 => pq (f_X2_foundNumber S D207 o209 r167) fun r214 => rq (gR D207 o0 2) fun o215 => rq (gR D207 o0 0) fun o219 => rq (gR D207 o219 2) fun o223 => ix x1 (sA S o223) <| ix (gI D207 o223 x1.toNatClampNeg) (sA S o215) <| nm (gL D207 o215 (gI D207 o223 x1.toNatClampNeg).toNatClampNeg) fun y229 => if y177 = (241 : Int32) then (if r167 = (8 : Int32) then (rq (gR D207 o0 2) fun o244 => ix (0 : Int32) (sA S o244) <| f_X1_doChange_116 S o0 x1 r167 r214 y229 (gL D207 o244 (0 : Int32).toNatClampNeg) D207) else (rq (gR D207 o0 2) fun o239 => ix (0 : Int32) (sA S o239) <| f_X1_doChange_116 S o0 x1 r167 r214 y229 ((gL D207 o239 (0 : Int32).toNatClampNeg) &&& (4294967295 : Int64)) D207)) else (rq (gR D207 o0 1) fun o231 => if y177 = (225 : Int32) then (f_X1_doChange_185 S o0 x1 r167 y177 r214 o231 y229 D207) else (pq (f_X3_make (y177 >>> ((4 : Int32) &&& 31)) (1 : Int32) (0 : Int32) r214 y229) fun r237 => f_X1_doChange_185 S o0 x1 r167 y177 r214 o231 r237 D207)))
-- JudgedCode$Machine.x
def f_X1_x (S : sh) (D : dt) (o0 : Nat) (x1 : Int32) : Option Int64 := rq (gR D o0 0) fun o31 => pq (f_X4_byRegister S D o31 x1) fun r36 => if r36 = 0 then (rq (gR D o0 0) fun o38 => rq (gR D o38 4) fun o42 => ix x1 (sA S o42) <| some ((gI D o42 x1.toNatClampNeg).toInt64)) else (rq (gR D o0 2) fun o47 => rq (gR D o0 0) fun o51 => rq (gR D o51 2) fun o55 => ix x1 (sA S o55) <| ix (gI D o55 x1.toNatClampNeg) (sA S o47) <| some (gL D o47 (gI D o55 x1.toNatClampNeg).toNatClampNeg))
-- JudgedCode$Machine.doArithmetic
def f_X1_doArithmetic_121 (S : sh) (o0 : Nat) (x1 : Int32) (D : dt) : Option (Int32 × dt) := cq (f_X1_goTo S o0 (x1 + (1 : Int32)) D) fun r88 D89 => some (r88, D89)
def f_X1_doArithmetic_52 (S : sh) (o0 : Nat) (x1 : Int32) (x3 : Int32) (xs0 : Int32) (D : dt) : Option (Int32 × dt) := rq (gR D o0 2) fun o90 => rq (gR D o0 2) fun o94 => ix x3 (sA S o94) <| rq (gR D o0 0) fun o99 => rq (gR D o99 4) fun o103 => ix x1 (sA S o103) <| pq (f_X3_turn (gL D o94 x3.toNatClampNeg) (gI D o103 x1.toNatClampNeg) xs0) fun r109 => ix x3 (sA S o90) <| nm (pL D o90 x3.toNatClampNeg r109) fun D111 => f_X1_doArithmetic_121 S o0 x1 D111
def f_X1_doArithmetic_47 (S : sh) (o0 : Nat) (x1 : Int32) (x3 : Int32) (D : dt) : Option (Int32 × dt) := f_X1_doArithmetic_52 S o0 x1 x3 (1 : Int32) D
def f_X1_doArithmetic (S : sh) (o0 : Nat) (x1 : Int32) (D : dt) : Option (Int32 × dt) := rq (gR D o0 0) fun o112 => pq (f_X4_code S D o112 x1) fun r117 => rq (gR D o0 0) fun o118 => rq (gR D o118 1) fun o122 => ix x1 (sA S o122) <| nm (gI D o122 x1.toNatClampNeg) fun y127 => if r117 = (13 : Int32) then (rq (gR D o0 0) fun o159 => pq (f_X4_isWide S D o159 x1) fun r164 => if r164 = 0 then (rq (gR D o0 0) fun o166 => pq (f_X4_byRegister S D o166 x1) fun r171 => if r171 = 0 then (f_X1_doArithmetic_52 S o0 x1 y127 (0 : Int32) D) else (f_X1_doArithmetic_47 S o0 x1 y127 D)) else (f_X1_doArithmetic_47 S o0 x1 y127 D)) else (rq (gR D o0 2) fun o129 => rq (gR D o0 0) fun o133 => pq (f_X4_isWide S D o133 x1) fun r138 => rq (gR D o0 0) fun o139 => rq (gR D o139 3) fun o143 => ix x1 (sA S o143) <| rq (gR D o0 2) fun o148 => ix y127 (sA S o148) <| pq (f_X1_x S D o0 x1) fun r154 => pq (f_X3_make r117 r138 (gI D o143 x1.toNatClampNeg) (gL D o148 y127.toNatClampNeg) r154) fun r156 => ix y127 (sA S o129) <| nm (pL D o129 y127.toNatClampNeg r156) fun D158 => f_X1_doArithmetic_121 S o0 x1 D158)
-- JudgedCode$Machine.comeBack
def f_X1_comeBack_10 (S : sh) : Nat → Nat → Int32 → Int32 → dt → Option (Int32 × dt)
  | 0, _, _, _, _ => none
  | n + 1, o0, x1, x4, D => if (5 : Int32) < x4 then (cq (f_X1_goTo S o0 (x1 + (1 : Int32)) D) fun r21 D22 => some (r21, D22)) else (rq (gR D o0 2) fun o23 => ix x4 (sA S o23) <| nm (pL D o23 x4.toNatClampNeg (0 : Int64)) fun D28 => nm (x4 + 1) fun y29 => f_X1_comeBack_10 S n o0 x1 y29 D28)
def f_X1_comeBack (S : sh) (o0 : Nat) (x1 : Int32) (x2 : Int64) (D : dt) : Option (Int32 × dt) := rq (gR D o0 2) fun o30 => ix (0 : Int32) (sA S o30) <| nm (pL D o30 (0 : Int32).toNatClampNeg x2) fun D35 => nm ((1 : Int32)) fun y36 => f_X1_comeBack_10 S LF o0 x1 y36 D35
-- JudgedCode$Machine.doCall
def f_X1_doCall_270 (S : sh) (os0 : Nat) (xs1 : Int32) (xs2 : Int64) (D : dt) : Option (Int32 × dt) := cq (f_X1_comeBack S os0 xs1 xs2 D) fun r113 D114 => some (r113, D114)
def f_X1_doCall_256 (S : sh) (o0 : Nat) (x1 : Int32) (x7 : Int32) (D : dt) : Option (Int32 × dt) := if 0 ≤ x7 then (f_X1_doCall_270 S o0 x1 (0 : Int64) D) else (f_X1_doCall_270 S o0 x1 (-1 : Int64) D)
def f_X1_doCall_169 (S : sh) (os0 : Nat) (xs1 : Int32) (xs2 : Int64) (D : dt) : Option (Int32 × dt) := cq (f_X1_comeBack S os0 xs1 xs2 D) fun r117 D118 => some (r117, D118)
def f_X1_doCall_197 (S : sh) (os0 : Nat) (xs1 : Int32) (xs2 : Int64) (D : dt) : Option (Int32 × dt) := cq (f_X1_comeBack S os0 xs1 xs2 D) fun r120 D121 => some (r120, D121)
def f_X1_doCall (S : sh) (o0 : Nat) (x1 : Int32) (x2 : Int32) (D : dt) : Option (Int32 × dt) := if x2 = (5 : Int32) then (rq (gR D o0 1) fun o216 => cq (f_X1_comeBack S o0 x1 (gL D o216 5) D) fun r221 D222 => some (r221, D222)) else (if x2 = (6 : Int32) then (rq (gR D o0 3) fun o199 => pq (f_J9_floorMod_7cf53 (gI D o0 4) (32 : Int32)) fun r204 => rq (gR D o0 2) fun o205 => ix (1 : Int32) (sA S o205) <| ix r204 (sA S o199) <| nm (pL D o199 r204.toNatClampNeg (gL D o205 (1 : Int32).toNatClampNeg)) fun D211 => nm (pI D211 o0 4 ((gI D211 o0 4) + (1 : Int32))) fun D212 => cq (f_X1_comeBack S o0 x1 (0 : Int64) D212) fun r214 D215 => some (r214, D215)) else (rq (gR D o0 1) fun o124 => rq (gR D o0 2) fun o128 => ix (1 : Int32) (sA S o128) <| pq (f_X2_tableAt S D o124 (gL D o128 (1 : Int32).toNatClampNeg)) fun r134 => rq (gR D o0 1) fun o135 => pq (f_X2_tableNumbered S D o135 r134) fun r140 => oq r140 (some ((4 : Int32), D)) fun o141 => rq (gR D o0 1) fun o143 => rq (gR D o0 2) fun o147 => ix (2 : Int32) (sA S o147) <| cq (f_X2_find S o143 (gL D o147 (2 : Int32).toNatClampNeg) (gI D o141 1) (0 : Int32) D) fun r153 D154 => if r153 = 0 then (some ((4 : Int32), D154)) else (rq (gR D154 o0 1) fun o156 => pq (f_X2_foundNumber S D154 o156 (gI D154 o141 1)) fun r161 => if x2 = (1 : Int32) then (pq (f_X7_numberOf S D154 o141 r161) fun r197 => if 0 ≤ r197 then (f_X1_doCall_169 S o0 x1 (((34359738368 : Int64) + (j_lshl r134.toInt64 (24 : Int32))) + (j_lshl r197.toInt64 (12 : Int32))) D154) else (f_X1_doCall_169 S o0 x1 (0 : Int64) D154)) else (if x2 = (3 : Int32) then (cq (f_X7_removeKey S o141 r161 D154) fun r193 D194 => if r193 = 0 then (f_X1_doCall_197 S o0 x1 (-1 : Int64) D194) else (f_X1_doCall_197 S o0 x1 (0 : Int64) D194)) else (rq (gR D154 o0 1) fun o164 => rq (gR D154 o0 2) fun o168 => ix (3 : Int32) (sA S o168) <| cq (f_X2_find S o164 (gL D154 o168 (3 : Int32).toNatClampNeg) (gI D154 o141 2) (0 : Int32) D154) fun r174 D175 => if r174 = 0 then (some ((4 : Int32), D175)) else (rq (gR D175 o0 2) fun o177 => ix (4 : Int32) (sA S o177) <| cq (f_X7_numberToPut S o141 r161 (gL D175 o177 (4 : Int32).toNatClampNeg) D175) fun r183 D184 => if r183 < 0 then (f_X1_doCall_256 S o0 x1 r183 D184) else (rq (gR D184 o0 1) fun o186 => cq (f_X2_copyFoundTo S o186 o141 r183 D184) fun _ D191 => f_X1_doCall_256 S o0 x1 r183 D191)))))))
-- JudgedCode$Machine.doJump
def f_X1_doJump_84 (S : sh) (os0 : Nat) (xs1 : Int32) (D : dt) : Option (Int32 × dt) := cq (f_X1_goTo S os0 xs1 D) fun r45 D46 => some (r45, D46)
def f_X1_doJump_60 (S : sh) (o0 : Nat) (x1 : Int32) (xs0 : Int32) (D : dt) : Option (Int32 × dt) := if xs0 = 0 then (f_X1_doJump_84 S o0 (x1 + (1 : Int32)) D) else (rq (gR D o0 0) fun o48 => pq (f_X4_distance S D o48 x1) fun r53 => f_X1_doJump_84 S o0 ((x1 + (1 : Int32)) + r53) D)
def f_X1_doJump_55 (S : sh) (o0 : Nat) (x1 : Int32) (D : dt) : Option (Int32 × dt) := f_X1_doJump_60 S o0 x1 (1 : Int32) D
def f_X1_doJump (S : sh) (o0 : Nat) (x1 : Int32) (D : dt) : Option (Int32 × dt) := rq (gR D o0 0) fun o54 => pq (f_X4_code S D o54 x1) fun r59 => if r59 = (9 : Int32) then (some ((2 : Int32), D)) else (if r59 = 0 then (f_X1_doJump_55 S o0 x1 D) else (rq (gR D o0 0) fun o62 => pq (f_X4_isWide S D o62 x1) fun r67 => rq (gR D o0 2) fun o68 => rq (gR D o0 0) fun o72 => rq (gR D o72 1) fun o76 => ix x1 (sA S o76) <| ix (gI D o76 x1.toNatClampNeg) (sA S o68) <| pq (f_X1_x S D o0 x1) fun r83 => pq (f_X3_holds r59 r67 (gL D o68 (gI D o76 x1.toNatClampNeg).toNatClampNeg) r83) fun r85 => if r85 = 0 then (f_X1_doJump_60 S o0 x1 (0 : Int32) D) else (f_X1_doJump_55 S o0 x1 D)))
theorem mk_X1_init : MkI yX1_init cX1_init 3 2 := ⟨⟨lk_216, lk_117, (tb_in (i := 217) (by decide +kernel) (by decide +kernel))⟩, rfl, by decide +kernel⟩
theorem mk_X1_begin : MkV yX1_begin RX1 cX1_begin 1 none 0 := ⟨⟨lk_888, lk_889, lk_117, (tb_in (i := 890) (by decide +kernel) (by decide +kernel))⟩, by decide +kernel⟩
theorem mk_X1_goTo : MkV yX1_goTo RX1 cX1_goTo 2 (some .int) 1 := ⟨⟨lk_920, lk_46, lk_117, (tb_in (i := 921) (by decide +kernel) (by decide +kernel))⟩, by decide +kernel⟩
theorem mk_X1_doPair : MkV yX1_doPair RX1 cX1_doPair 6 (some .int) 1 := ⟨⟨lk_913, lk_45, lk_117, (tb_in (i := 914) (by decide +kernel) (by decide +kernel))⟩, by decide +kernel⟩
theorem mk_X1_doLoad : MkV yX1_doLoad RX1 cX1_doLoad 5 (some .int) 1 := ⟨⟨lk_924, lk_47, lk_117, (tb_in (i := 925) (by decide +kernel) (by decide +kernel))⟩, by decide +kernel⟩
theorem mk_X1_doPut : MkV yX1_doPut RX1 cX1_doPut 5 (some .int) 2 := ⟨⟨lk_951, lk_50, lk_117, (tb_in (i := 952) (by decide +kernel) (by decide +kernel))⟩, by decide +kernel⟩
theorem mk_X1_doChange : MkV yX1_doChange RX1 cX1_doChange 10 (some .int) 1 := ⟨⟨lk_960, lk_51, lk_117, (tb_in (i := 961) (by decide +kernel) (by decide +kernel))⟩, by decide +kernel⟩
theorem mk_X1_x : MkV yX1_x RX1 cX1_x 2 (some .long) 1 := ⟨⟨lk_973, lk_53, lk_117, (tb_in (i := 974) (by decide +kernel) (by decide +kernel))⟩, by decide +kernel⟩
theorem mk_X1_doArithmetic : MkV yX1_doArithmetic RX1 cX1_doArithmetic 5 (some .int) 1 := ⟨⟨lk_965, lk_52, lk_117, (tb_in (i := 966) (by decide +kernel) (by decide +kernel))⟩, by decide +kernel⟩
theorem mk_X1_comeBack : MkV yX1_comeBack RX1 cX1_comeBack 5 (some .int) 2 := ⟨⟨lk_981, lk_55, lk_117, (tb_in (i := 982) (by decide +kernel) (by decide +kernel))⟩, by decide +kernel⟩
theorem mk_X1_doCall : MkV yX1_doCall RX1 cX1_doCall 8 (some .int) 2 := ⟨⟨lk_977, lk_54, lk_117, (tb_in (i := 978) (by decide +kernel) (by decide +kernel))⟩, by decide +kernel⟩
theorem mk_X1_doJump : MkV yX1_doJump RX1 cX1_doJump 4 (some .int) 1 := ⟨⟨lk_1017, lk_57, lk_117, (tb_in (i := 1018) (by decide +kernel) (by decide +kernel))⟩, by decide +kernel⟩
section
variable {p : Program} {l : Launch} {e : Env} {R : Room} {s : State} {m : MethodId} {args : Array Value} {below : List Frame} {meth : Method} {c : Code} {H : Heap} {locs : List Loc} {G : va_G} {cA : Nat → ClassId} {S : sh} {D : dt} {ad : Nat → Nat} {A : Nat → Prop}
theorem mn_X1_init_17 {r : Unit} {S' : sh} {D' : dt} {o0 : Nat} {o1 : Nat} {o2 : Nat} {os0 : Nat} {os1 : Nat} {S : sh} {D : dt} (h : f_X1_init_17 o0 o1 o2 os0 os1 S D = some (r, S', D')) : Ext S S' := by
  unfold f_X1_init_17 at h
  have h := nm_i h _ rfl
  have h := nm_i h _ rfl
  have h := nm_i h _ rfl
  cases h
  exact Ext.rf _
set_option maxHeartbeats 4000000 in
set_option maxRecDepth 100000 in
theorem w_X1_init_17 {r : Unit} {S' : sh} {D' : dt} {S0 : sh} {ad0 : Nat → Nat} (hC : Cx RX1 cX1_init 3 none p s m args meth c) (hin : meth.name = "<init>") (hR : 1 ≤ R.frames ∧ 20 ≤ R.locals) (ho : R.cells = sN S' - sN S0 ∧ R.slots = sZ S' - sZ S0) : ∀ (o0 a0 : Nat) (o1 a1 : Nat) (o2 a2 : Nat) (os0 as0 : Nat) (os1 as1 : Nat) (S : sh) (D : dt) (ad : Nat → Nat) (H : Heap) (locs : List Loc) (ls : Array Slot) (cells slots : Nat), Is S ad o0 a0 1 → Is S ad o1 a1 3 → Is S ad o2 a2 2 → Is S ad os0 as0 1 → Is S ad os1 as1 101 → Wd G cA S D ad A s H locs → Al S0 ad0 S ad cells slots → lv_has ls 3 [(0, .ref a0), (1, .ref a1), (2, .ref a2)] → f_X1_init_17 o0 o1 o2 os0 os1 S D = some (r, S', D') → W p l e R s m args below meth c H locs cells slots (MQ below (Qa (fun _ => none) (fun ad' => (∀ k, k < sN S0 → ad' k = ad0 k) ∧ True) (fun ad' => wpost G cA S' D' ad' A) A) args s (sN S' - sN S0) (sZ S' - sZ S0) A) (F0 m 17 ls [.ref as1, .ref as0]) := by
  obtain ⟨hx, hb, -⟩ := id hC
  intro o0 a0 o1 a1 o2 a2 os0 as0 os1 as1 S D ad H locs ls cells slots hi0 hi1 hi2 his0 his1 hw hc hl h
  have hE : Ext S S' := mn_X1_init_17  h
  unfold f_X1_init_17 at h
  refine r_pRF hC hin hw kc_1 his0 3 rfl lk_223 rfl rfl rfl rfl rfl his1 dX1_init_17 (fun D19 eD19 H locs hw => ?_)
  have h := nm_i h D19 eD19
  refine lv_aload_n hx hb dX1_init_20 rfl (lv_at hl 0 rfl) ?_
  refine lv_aload_n hx hb dX1_init_21 rfl (lv_at hl 1 rfl) ?_
  refine r_pRF hC hin hw kc_1 hi0 0 rfl lk_219 rfl rfl rfl rfl rfl hi1 dX1_init_22 (fun D20 eD20 H locs hw => ?_)
  have h := nm_i h D20 eD20
  refine lv_aload_n hx hb dX1_init_25 rfl (lv_at hl 0 rfl) ?_
  refine lv_aload_n hx hb dX1_init_26 rfl (lv_at hl 2 rfl) ?_
  refine r_pRF hC hin hw kc_1 hi0 1 rfl lk_220 rfl rfl rfl rfl rfl hi2 dX1_init_27 (fun D21 eD21 H locs hw => ?_)
  have h := nm_i h D21 eD21
  cases h
  exact r_vretA hC hw hc dX1_init_30
theorem mn_X1_init_9 {r : Unit} {S' : sh} {D' : dt} {o0 : Nat} {o1 : Nat} {o2 : Nat} {os0 : Nat} {os1 : Nat} {S : sh} {D : dt} (h : f_X1_init_9 o0 o1 o2 os0 os1 S D = some (r, S', D')) : Ext S S' := by
  unfold f_X1_init_9 at h
  have h := nm_i h _ rfl
  have hA := (Ext.aS S 101 32 32)
  exact hA.tr (mn_X1_init_17 h)
set_option maxHeartbeats 4000000 in
set_option maxRecDepth 100000 in
theorem w_X1_init_9 {r : Unit} {S' : sh} {D' : dt} {S0 : sh} {ad0 : Nat → Nat} (hC : Cx RX1 cX1_init 3 none p s m args meth c) (hin : meth.name = "<init>") (hR : 1 ≤ R.frames ∧ 20 ≤ R.locals) (ho : R.cells = sN S' - sN S0 ∧ R.slots = sZ S' - sZ S0) : ∀ (o0 a0 : Nat) (o1 a1 : Nat) (o2 a2 : Nat) (os0 as0 : Nat) (os1 as1 : Nat) (S : sh) (D : dt) (ad : Nat → Nat) (H : Heap) (locs : List Loc) (ls : Array Slot) (cells slots : Nat), Is S ad o0 a0 1 → Is S ad o1 a1 3 → Is S ad o2 a2 2 → Is S ad os0 as0 1 → Is S ad os1 as1 101 → Wd G cA S D ad A s H locs → Al S0 ad0 S ad cells slots → lv_has ls 3 [(0, .ref a0), (1, .ref a1), (2, .ref a2)] → f_X1_init_9 o0 o1 o2 os0 os1 S D = some (r, S', D') → W p l e R s m args below meth c H locs cells slots (MQ below (Qa (fun _ => none) (fun ad' => (∀ k, k < sN S0 → ad' k = ad0 k) ∧ True) (fun ad' => wpost G cA S' D' ad' A) A) args s (sN S' - sN S0) (sZ S' - sZ S0) A) (F0 m 9 ls [.ref as1, .ref as0]) := by
  obtain ⟨hx, hb, -⟩ := id hC
  intro o0 a0 o1 a1 o2 a2 os0 as0 os1 as1 S D ad H locs ls cells slots hi0 hi1 hi2 his0 his1 hw hc hl h
  have hE : Ext S S' := mn_X1_init_9  h
  unfold f_X1_init_9 at h
  refine r_pRF hC hin hw kc_1 his0 2 rfl lk_221 rfl rfl rfl rfl rfl his1 dX1_init_9 (fun D22 eD22 H locs hw => ?_)
  have h := nm_i h D22 eD22
  refine lv_aload_n hx hb dX1_init_12 rfl (lv_at hl 0 rfl) ?_
  refine lv_bipush (v := 32) hx hb dX1_init_13 (by decide) ?_
  have hE25 := mn_X1_init_17 h
  refine r_newL hC hw lk_249 (by decide) (by decide) (by decide) (hc.room ho hE25).1 (hc.room ho hE25).2 dX1_init_15 (fun q23 H hw hi24 => ?_)
  have hi26 := Is.up hi0 (Ext.aS S 101 32 32) (up_lt (q := q23))
  have hi27 := Is.up hi1 (Ext.aS S 101 32 32) (up_lt (q := q23))
  have hi28 := Is.up hi2 (Ext.aS S 101 32 32) (up_lt (q := q23))
  have hc := hc.new 101 32 32 q23
  exact w_X1_init_17 hC hin hR ho o0 a0 o1 a1 o2 a2 o0 a0 (sN S) q23 _ _ _ _ _ _ _ _ hi26 hi27 hi28 hi26 hi24 hw hc (lv_sub hl [0, 1, 2] rfl) h --j29
theorem mn_X1_init_0 {r : Unit} {S' : sh} {D' : dt} {o0 : Nat} {o1 : Nat} {o2 : Nat} {S : sh} {D : dt} (h : f_X1_init o0 o1 o2 S D = some (r, S', D')) : Ext S S' := by
  unfold f_X1_init at h
  have hA := (Ext.aS S 101 11 11)
  exact hA.tr (mn_X1_init_9 h)
set_option maxHeartbeats 4000000 in
set_option maxRecDepth 100000 in
theorem w_X1_init_0 {r : Unit} {S' : sh} {D' : dt} {S0 : sh} {ad0 : Nat → Nat} (hC : Cx RX1 cX1_init 3 none p s m args meth c) (hin : meth.name = "<init>") (hR : 1 ≤ R.frames ∧ 20 ≤ R.locals) (ho : R.cells = sN S' - sN S0 ∧ R.slots = sZ S' - sZ S0) : ∀ (o0 a0 : Nat) (o1 a1 : Nat) (o2 a2 : Nat) (S : sh) (D : dt) (ad : Nat → Nat) (H : Heap) (locs : List Loc) (ls : Array Slot) (cells slots : Nat), Is S ad o0 a0 1 → Is S ad o1 a1 3 → Is S ad o2 a2 2 → Wd G cA S D ad A s H locs → Al S0 ad0 S ad cells slots → lv_has ls 3 [(0, .ref a0), (1, .ref a1), (2, .ref a2)] → f_X1_init o0 o1 o2 S D = some (r, S', D') → W p l e R s m args below meth c H locs cells slots (MQ below (Qa (fun _ => none) (fun ad' => (∀ k, k < sN S0 → ad' k = ad0 k) ∧ True) (fun ad' => wpost G cA S' D' ad' A) A) args s (sN S' - sN S0) (sZ S' - sZ S0) A) (F0 m 0 ls []) := by
  obtain ⟨hx, hb, -⟩ := id hC
  intro o0 a0 o1 a1 o2 a2 S D ad H locs ls cells slots hi0 hi1 hi2 hw hc hl h
  have hE : Ext S S' := mn_X1_init_0  h
  unfold f_X1_init at h
  refine lv_aload_n hx hb dX1_init_0 rfl (lv_at hl 0 rfl) ?_
  refine W.objInit hx hb hC.2.2.2.1 (hC.2.2.2.2.1 _ lk_218) (hC.2.2.2.2.1 _ lk_133) (hC.2.2.2.2.1 _ cd_obj) rfl (by rw [hC.2.2.1]; exact hl.1) rfl dX1_init_1 (Nat.le_trans (by decide) hR.1) (Nat.le_trans (Nat.le_of_ble_eq_true rfl) hR.2) ?_
  refine W.eq (g2 := F0 m 4 ls []) rfl ?_
  refine lv_aload_n hx hb dX1_init_4 rfl (lv_at hl 0 rfl) ?_
  refine lv_bipush (v := 11) hx hb dX1_init_5 (by decide) ?_
  have hE32 := mn_X1_init_9 h
  refine r_newL hC hw lk_249 (by decide) (by decide) (by decide) (hc.room ho hE32).1 (hc.room ho hE32).2 dX1_init_7 (fun q30 H hw hi31 => ?_)
  have hi33 := Is.up hi0 (Ext.aS S 101 11 11) (up_lt (q := q30))
  have hi34 := Is.up hi1 (Ext.aS S 101 11 11) (up_lt (q := q30))
  have hi35 := Is.up hi2 (Ext.aS S 101 11 11) (up_lt (q := q30))
  have hc := hc.new 101 11 11 q30
  exact w_X1_init_9 hC hin hR ho o0 a0 o1 a1 o2 a2 o0 a0 (sN S) q30 _ _ _ _ _ _ _ _ hi33 hi34 hi35 hi33 hi31 hw hc (lv_sub hl [0, 1, 2] rfl) h --j36
set_option maxHeartbeats 4000000 in
set_option maxRecDepth 100000 in
theorem k_X1_init {l : Launch} {G : va_G} {cA : Nat → ClassId} {S S' : sh} {D D' : dt} {ad : Nat → Nat} (sz : Nat) {o0 a0 : Nat} {o1 a1 : Nat} {o2 a2 : Nat} {r : Unit} (hi0 : Is S ad o0 a0 1) (hi1 : Is S ad o1 a1 3) (hi2 : Is S ad o2 a2 2) (h : f_X1_init o0 o1 o2 S D = some (r, S', D')) : CoA l yX1_init (Cond.code yX1_init cX1_init 3 none :: tb0) 1 20 [.ref a0, .ref a1, .ref a2] G cA S D ad sz (fun _ => none) True S' D' := by
  refine Met.ofW (cc := cX1_init) (maxL := 3) (ret := none) (by decide) rfl ?_
  intro p e s m args below meth c s₁ B hml hv
  obtain ⟨rfl, hsz, hP, hK, hD0, hT, hX⟩ := hv
  subst hsz
  have hts := atoms_spec (ws := Cond.code yX1_init cX1_init 3 none :: tb0) B.pre
  have hC : Cx RX1 cX1_init 3 none p s m _ meth c := ⟨B.exec, B.bytes, hml, findClass_of_methodNamed B.named, fun w q => hts w (List.mem_cons_of_mem _ q), B.returns, B.notSynchronized⟩
  have hin : meth.name = "<init>" := (name_of_methodNamed B.named B.method).1
  have hw := Wd.entry hP hK hD0 hT hX
  have hl := lv_entry ([.ref a0, .ref a1, .ref a2]) (n := 3) (Nat.le_of_ble_eq_true rfl)
  rw [lg_entry_eq]
  exact w_X1_init_0 hC hin ⟨Nat.le_refl _, Nat.le_refl _⟩ ⟨rfl, rfl⟩ o0 a0 o1 a1 o2 a2 S D ad _ _ _ 0 0 hi0 hi1 hi2 hw (Al.rf S ad) hl h
set_option maxHeartbeats 4000000 in
set_option maxRecDepth 100000 in
theorem w_X1_begin_0 {r : Unit} {D' : dt} (hC : Cx RX1 cX1_begin 1 none p s m args meth c) (hR : 1 ≤ R.frames ∧ 24 ≤ R.locals) : ∀ (o0 a0 : Nat) (D : dt) (H : Heap) (locs : List Loc) (ls : Array Slot), Is S ad o0 a0 1 → Wd G cA S D ad A s H locs → lv_has ls 1 [(0, .ref a0)] → f_X1_begin S o0 D = some (r, D') → W p l e R s m args below meth c H locs 0 0 (MQ below (Qn none True (wpost G cA S D' ad A) A) args s 0 0 A) (F0 m 0 ls []) := by
  obtain ⟨hx, hb, -⟩ := id hC
  intro o0 a0 D H locs ls hi0 hw hl h
  unfold f_X1_begin at h
  refine lv_aload_n hx hb dX1_begin_0 rfl (lv_at hl 0 rfl) ?_
  obtain ⟨o33, ho36, h⟩ := rq_i h
  refine r_getR hC hw kc_1 hi0 2 rfl lk_221 dX1_begin_1 rfl ho36 (fun a34 hi35 => ?_)
  refine lv_lconst (v := 0) hx hb dX1_begin_4 (by decide) ?_
  obtain ⟨_, D38, hq37, h⟩ := cq_i h
  refine r_cS (st' := []) [.ref a34, .long (0 : Int64)] [] hC hw (k_J7_fill_d0a16 _ hi35 hq37) mk_J7_fill_d0a16 lk_891 ⟨Nat.le_trans (by decide) hR.1, Nat.le_trans (by decide) hR.2⟩ ⟨Nat.zero_le _, Nat.zero_le _⟩ rfl hl.1 rfl rfl (Nat.le_of_ble_eq_true rfl) dX1_begin_5 (fun hP H locs hw => ?_)
  refine lv_aload_n hx hb dX1_begin_8 rfl (lv_at hl 0 rfl) ?_
  obtain ⟨o39, ho42, h⟩ := rq_i h
  refine r_getR hC hw kc_1 hi0 2 rfl lk_221 dX1_begin_9 rfl ho42 (fun a40 hi41 => ?_)
  refine lv_iconst (v := 1) hx hb dX1_begin_12 (by decide) ?_
  refine lv_ldc2 (v := 4294967296) hx hb hC.2.2.2.1 (hC.2.2.2.2.1 _ lk_892) dX1_begin_13 ?_
  obtain ⟨hn43, h⟩ := ix_i h
  refine r_las hC hw hi41 hn43 dX1_begin_16 (fun D44 eD44 H locs hw => ?_)
  have h := nm_i h D44 eD44
  refine lv_aload_n hx hb dX1_begin_17 rfl (lv_at hl 0 rfl) ?_
  obtain ⟨o45, ho48, h⟩ := rq_i h
  refine r_getR hC hw kc_1 hi0 2 rfl lk_221 dX1_begin_18 rfl ho48 (fun a46 hi47 => ?_)
  refine lv_bipush (v := 10) hx hb dX1_begin_21 (by decide) ?_
  refine lv_ldc2 (v := 8589934592) hx hb hC.2.2.2.1 (hC.2.2.2.2.1 _ lk_893) dX1_begin_23 ?_
  obtain ⟨hn49, h⟩ := ix_i h
  refine r_las hC hw hi47 hn49 dX1_begin_26 (fun D50 eD50 H locs hw => ?_)
  have h := nm_i h D50 eD50
  refine lv_aload_n hx hb dX1_begin_27 rfl (lv_at hl 0 rfl) ?_
  obtain ⟨o51, ho54, h⟩ := rq_i h
  refine r_getR hC hw kc_1 hi0 1 rfl lk_220 dX1_begin_28 rfl ho54 (fun a52 hi53 => ?_)
  obtain ⟨o55, ho58, h⟩ := rq_i h
  refine r_getR hC hw kc_2 hi53 2 rfl lk_187 dX1_begin_31 rfl ho58 (fun a56 hi57 => ?_)
  refine lv_iconst (v := 0) hx hb dX1_begin_34 (by decide) ?_
  obtain ⟨_, D60, hq59, h⟩ := cq_i h
  refine r_cS (st' := []) [.ref a56, .int (0 : Int32)] [] hC hw (k_J7_fill_031fb _ hi57 hq59) mk_J7_fill_031fb lk_894 ⟨Nat.le_trans (by decide) hR.1, Nat.le_trans (by decide) hR.2⟩ ⟨Nat.zero_le _, Nat.zero_le _⟩ rfl hl.1 rfl rfl (Nat.le_of_ble_eq_true rfl) dX1_begin_35 (fun hP H locs hw => ?_)
  refine lv_aload_n hx hb dX1_begin_38 rfl (lv_at hl 0 rfl) ?_
  refine lv_iconst (v := 0) hx hb dX1_begin_39 (by decide) ?_
  refine r_pI hC hw kc_1 hi0 4 rfl lk_224 rfl rfl rfl dX1_begin_40 (fun D61 eD61 H locs hw => ?_)
  have h := nm_i h D61 eD61
  refine lv_aload_n hx hb dX1_begin_43 rfl (lv_at hl 0 rfl) ?_
  refine lv_iconst (v := 0) hx hb dX1_begin_44 (by decide) ?_
  refine r_pI hC hw kc_1 hi0 6 rfl lk_228 rfl rfl rfl dX1_begin_45 (fun D62 eD62 H locs hw => ?_)
  have h := nm_i h D62 eD62
  refine lv_aload_n hx hb dX1_begin_48 rfl (lv_at hl 0 rfl) ?_
  refine lv_iconst (v := 0) hx hb dX1_begin_49 (by decide) ?_
  refine r_pI hC hw kc_1 hi0 7 rfl lk_230 rfl rfl rfl dX1_begin_50 (fun D63 eD63 H locs hw => ?_)
  have h := nm_i h D63 eD63
  refine lv_aload_n hx hb dX1_begin_53 rfl (lv_at hl 0 rfl) ?_
  refine lv_iconst (v := 1) hx hb dX1_begin_54 (by decide) ?_
  refine r_pI hC hw kc_1 hi0 5 rfl lk_226 rfl rfl rfl dX1_begin_55 (fun D64 eD64 H locs hw => ?_)
  have h := nm_i h D64 eD64
  cases h
  exact r_vret hC hw dX1_begin_58
set_option maxHeartbeats 4000000 in
set_option maxRecDepth 100000 in
theorem k_X1_begin {l : Launch} {G : va_G} {cA : Nat → ClassId} {S : sh} {D D' : dt} {ad : Nat → Nat} (sz : Nat) {o0 a0 : Nat} {r : Unit} (hi0 : Is S ad o0 a0 1) (h : f_X1_begin S o0 D = some (r, D')) : Co l yX1_begin (Cond.code yX1_begin cX1_begin 1 none :: tb0) 1 24 [.ref a0] G cA S D ad sz none True D' := by
  refine Met.ofW (cc := cX1_begin) (maxL := 1) (ret := none) (by decide) rfl ?_
  intro p e s m args below meth c s₁ B hml hv
  obtain ⟨rfl, hsz, hP, hK, hD0, hT, hX⟩ := hv
  subst hsz
  have hts := atoms_spec (ws := Cond.code yX1_begin cX1_begin 1 none :: tb0) B.pre
  have hC : Cx RX1 cX1_begin 1 none p s m _ meth c := ⟨B.exec, B.bytes, hml, findClass_of_methodNamed B.named, fun w q => hts w (List.mem_cons_of_mem _ q), B.returns, B.notSynchronized⟩
  have hw := Wd.entry hP hK hD0 hT hX
  have hl := lv_entry ([.ref a0]) (n := 1) (Nat.le_of_ble_eq_true rfl)
  rw [lg_entry_eq]
  exact w_X1_begin_0 hC ⟨Nat.le_refl _, Nat.le_refl _⟩ o0 a0 D _ _ _ hi0 hw hl h
set_option maxHeartbeats 4000000 in
set_option maxRecDepth 100000 in
theorem w_X1_goTo_0 {r : Int32} {D' : dt} (hC : Cx RX1 cX1_goTo 2 (some .int) p s m args meth c) (hR : 0 ≤ R.frames ∧ 0 ≤ R.locals) : ∀ (o0 a0 : Nat) (x1 : Int32) (D : dt) (H : Heap) (locs : List Loc) (ls : Array Slot), Is S ad o0 a0 1 → Wd G cA S D ad A s H locs → lv_has ls 2 [(0, .ref a0), (1, .int x1)] → f_X1_goTo S o0 x1 D = some (r, D') → W p l e R s m args below meth c H locs 0 0 (MQ below (Qn (some (.int r)) True (wpost G cA S D' ad A) A) args s 0 0 A) (F0 m 0 ls []) := by
  obtain ⟨hx, hb, -⟩ := id hC
  intro o0 a0 x1 D H locs ls hi0 hw hl h
  unfold f_X1_goTo at h
  refine lv_aload_n hx hb dX1_goTo_0 rfl (lv_at hl 0 rfl) ?_
  refine lv_iload_n hx hb dX1_goTo_1 rfl (lv_at hl 1 rfl) ?_
  refine r_pI hC hw kc_1 hi0 6 rfl lk_228 rfl rfl rfl dX1_goTo_2 (fun D2 eD2 H locs hw => ?_)
  have h := nm_i h D2 eD2
  refine lv_iconst (v := 1) hx hb dX1_goTo_5 (by decide) ?_
  cases h
  exact r_iret hC hw dX1_goTo_6
set_option maxHeartbeats 4000000 in
set_option maxRecDepth 100000 in
theorem k_X1_goTo {l : Launch} {G : va_G} {cA : Nat → ClassId} {S : sh} {D D' : dt} {ad : Nat → Nat} (sz : Nat) {o0 a0 : Nat} {x1 : Int32} {r : Int32} (hi0 : Is S ad o0 a0 1) (h : f_X1_goTo S o0 x1 D = some (r, D')) : Co l yX1_goTo (Cond.code yX1_goTo cX1_goTo 2 (some .int) :: tb0) 0 0 [.ref a0, .int x1] G cA S D ad sz (some (.int r)) True D' := by
  refine Met.ofW (cc := cX1_goTo) (maxL := 2) (ret := (some .int)) (by decide) rfl ?_
  intro p e s m args below meth c s₁ B hml hv
  obtain ⟨rfl, hsz, hP, hK, hD0, hT, hX⟩ := hv
  subst hsz
  have hts := atoms_spec (ws := Cond.code yX1_goTo cX1_goTo 2 (some .int) :: tb0) B.pre
  have hC : Cx RX1 cX1_goTo 2 (some .int) p s m _ meth c := ⟨B.exec, B.bytes, hml, findClass_of_methodNamed B.named, fun w q => hts w (List.mem_cons_of_mem _ q), B.returns, B.notSynchronized⟩
  have hw := Wd.entry hP hK hD0 hT hX
  have hl := lv_entry ([.ref a0, .int x1]) (n := 2) (Nat.le_of_ble_eq_true rfl)
  rw [lg_entry_eq]
  exact w_X1_goTo_0 hC ⟨Nat.le_refl _, Nat.le_refl _⟩ o0 a0 x1 D _ _ _ hi0 hw hl h
set_option maxHeartbeats 4000000 in
set_option maxRecDepth 100000 in
theorem w_X1_doPair_113 {r : Int32} {D' : dt} (hC : Cx RX1 cX1_doPair 6 (some .int) p s m args meth c) (hR : 1 ≤ R.frames ∧ 21 ≤ R.locals) : ∀ (o0 a0 : Nat) (x1 : Int32) (os0 as0 : Nat) (xs1 : Int32) (xs2 : Int64) (D : dt) (H : Heap) (locs : List Loc) (ls : Array Slot), Is S ad o0 a0 1 → Is S ad os0 as0 101 → Wd G cA S D ad A s H locs → lv_has ls 6 [(0, .ref a0), (1, .int x1)] → f_X1_doPair_113 S o0 x1 os0 xs1 xs2 D = some (r, D') → W p l e R s m args below meth c H locs 0 0 (MQ below (Qn (some (.int r)) True (wpost G cA S D' ad A) A) args s 0 0 A) (F0 m 113 ls [.long xs2, .int xs1, .ref as0]) := by
  obtain ⟨hx, hb, -⟩ := id hC
  intro o0 a0 x1 os0 as0 xs1 xs2 D H locs ls hi0 his0 hw hl h
  unfold f_X1_doPair_113 at h
  obtain ⟨hn66, h⟩ := ix_i h
  refine r_las hC hw his0 hn66 dX1_doPair_113 (fun D67 eD67 H locs hw => ?_)
  have h := nm_i h D67 eD67
  refine lv_aload_n hx hb dX1_doPair_114 rfl (lv_at hl 0 rfl) ?_
  refine lv_iload_n hx hb dX1_doPair_115 rfl (lv_at hl 1 rfl) ?_
  refine lv_iconst (v := 2) hx hb dX1_doPair_116 (by decide) ?_
  refine lv_iadd hx hb dX1_doPair_117 ?_
  obtain ⟨r69, D70, hq68, h⟩ := cq_i h
  refine r_cV (st' := [.int r69]) [.int (x1 + (2 : Int32))] [] hC hw kc_1 hi0 (k_X1_goTo _ hi0 hq68) mk_X1_goTo lk_918 ⟨Nat.le_trans (by decide) hR.1, Nat.le_trans (by decide) hR.2⟩ ⟨Nat.zero_le _, Nat.zero_le _⟩ rfl hl.1 rfl rfl (Nat.le_of_ble_eq_true rfl) dX1_doPair_118 (fun hP H locs hw => ?_)
  cases h
  exact r_iret hC hw dX1_doPair_121
set_option maxHeartbeats 4000000 in
set_option maxRecDepth 100000 in
theorem w_X1_doPair_61 {r : Int32} {D' : dt} (hC : Cx RX1 cX1_doPair 6 (some .int) p s m args meth c) (hR : 1 ≤ R.frames ∧ 21 ≤ R.locals) : ∀ (o0 a0 : Nat) (x1 : Int32) (x2 : Int32) (x3 : Int32) (D : dt) (H : Heap) (locs : List Loc) (ls : Array Slot), Is S ad o0 a0 1 → Wd G cA S D ad A s H locs → lv_has ls 6 [(0, .ref a0), (1, .int x1), (2, .int x2), (3, .int x3)] → f_X1_doPair_61 S o0 x1 x2 x3 D = some (r, D') → W p l e R s m args below meth c H locs 0 0 (MQ below (Qn (some (.int r)) True (wpost G cA S D' ad A) A) args s 0 0 A) (F0 m 61 ls []) := by
  obtain ⟨hx, hb, -⟩ := id hC
  intro o0 a0 x1 x2 x3 D H locs ls hi0 hw hl h
  unfold f_X1_doPair_61 at h
  refine lv_aload_n hx hb dX1_doPair_61 rfl (lv_at hl 0 rfl) ?_
  obtain ⟨o71, ho74, h⟩ := rq_i h
  refine r_getR hC hw kc_1 hi0 0 rfl lk_219 dX1_doPair_62 rfl ho74 (fun a72 hi73 => ?_)
  obtain ⟨o75, ho78, h⟩ := rq_i h
  refine r_getR hC hw kc_3 hi73 4 rfl lk_154 dX1_doPair_65 rfl ho78 (fun a76 hi77 => ?_)
  refine lv_iload_n hx hb dX1_doPair_68 rfl (lv_at hl 1 rfl) ?_
  refine lv_iconst (v := 1) hx hb dX1_doPair_69 (by decide) ?_
  refine lv_iadd hx hb dX1_doPair_70 ?_
  obtain ⟨hn79, h⟩ := ix_i h
  refine r_iald hC hw hi77 hn79 dX1_doPair_71 ?_
  refine lv_i2l (v := (gI D o75 (x1 + (1 : Int32)).toNatClampNeg).toInt64) hx hb dX1_doPair_72 rfl ?_
  refine lv_bipush (v := 32) hx hb dX1_doPair_73 (by decide) ?_
  refine lv_lshl (v := j_lshl ((gI D o75 (x1 + (1 : Int32)).toNatClampNeg).toInt64) (32 : Int32)) hx hb dX1_doPair_75 rfl ?_
  refine lv_iload_n hx hb dX1_doPair_76 rfl (lv_at hl 2 rfl) ?_
  refine lv_i2l (v := x2.toInt64) hx hb dX1_doPair_77 rfl ?_
  refine lv_ldc2 (v := 4294967295) hx hb hC.2.2.2.1 (hC.2.2.2.2.1 _ lk_916) dX1_doPair_78 ?_
  refine lv_land hx hb dX1_doPair_81 ?_
  refine lv_lor hx hb dX1_doPair_82 ?_
  refine lv_topl (fun y80 ey80 => ?_)
  have h := nm_i h y80 ey80
  refine lv_lstore (lv' := [(4, .long y80), (0, .ref a0), (1, .int x1), (2, .int x2), (3, .int x3)]) hx hb dX1_doPair_83 hl (by decide) rfl (fun ls hl => ?_)
  refine lv_aload_n hx hb dX1_doPair_85 rfl (lv_at hl 1 rfl) ?_
  obtain ⟨o81, ho84, h⟩ := rq_i h
  refine r_getR hC hw kc_1 hi0 2 rfl lk_221 dX1_doPair_86 rfl ho84 (fun a82 hi83 => ?_)
  refine lv_aload_n hx hb dX1_doPair_89 rfl (lv_at hl 1 rfl) ?_
  obtain ⟨o85, ho88, h⟩ := rq_i h
  refine r_getR hC hw kc_1 hi0 0 rfl lk_219 dX1_doPair_90 rfl ho88 (fun a86 hi87 => ?_)
  obtain ⟨o89, ho92, h⟩ := rq_i h
  refine r_getR hC hw kc_3 hi87 1 rfl lk_145 dX1_doPair_93 rfl ho92 (fun a90 hi91 => ?_)
  refine lv_iload_n hx hb dX1_doPair_96 rfl (lv_at hl 2 rfl) ?_
  obtain ⟨hn93, h⟩ := ix_i h
  refine r_iald hC hw hi91 hn93 dX1_doPair_97 ?_
  refine lv_iload_n hx hb dX1_doPair_98 rfl (lv_at hl 4 rfl) ?_
  refine lv_if_eq (tgt := 111) hx hb dX1_doPair_99 (by decide) (fun c94 => ?_) (fun c94 => ?_)
  · have h := i_yes c94 h
    refine lv_lload hx hb dX1_doPair_111 (lv_at hl 0 rfl) ?_
    exact w_X1_doPair_113 hC hR o0 a0 x1 o81 a82 (gI D o89 x1.toNatClampNeg) y80 _ _ _ _ hi0 hi83 hw (lv_sub hl [1, 2] rfl) h
  · have h := i_no c94 h
    refine lv_ldc2 (v := 17179869184) hx hb hC.2.2.2.1 (hC.2.2.2.2.1 _ lk_917) dX1_doPair_102 ?_
    refine lv_iload_n hx hb dX1_doPair_105 rfl (lv_at hl 3 rfl) ?_
    refine lv_i2l (v := x2.toInt64) hx hb dX1_doPair_106 rfl ?_
    refine lv_ladd hx hb dX1_doPair_107 ?_
    refine lv_goto (tgt := 113) hx hb dX1_doPair_108 (by decide) ?_
    exact w_X1_doPair_113 hC hR o0 a0 x1 o81 a82 (gI D o89 x1.toNatClampNeg) ((17179869184 : Int64) + x2.toInt64) _ _ _ _ hi0 hi83 hw (lv_sub hl [1, 2] rfl) h
set_option maxHeartbeats 4000000 in
set_option maxRecDepth 100000 in
theorem w_X1_doPair_28 {r : Int32} {D' : dt} (hC : Cx RX1 cX1_doPair 6 (some .int) p s m args meth c) (hR : 1 ≤ R.frames ∧ 21 ≤ R.locals) : ∀ (o0 a0 : Nat) (x1 : Int32) (x2 : Int32) (xs0 : Int32) (D : dt) (H : Heap) (locs : List Loc) (ls : Array Slot), Is S ad o0 a0 1 → Wd G cA S D ad A s H locs → lv_has ls 6 [(0, .ref a0), (1, .int x1), (2, .int x2)] → f_X1_doPair_28 S o0 x1 x2 xs0 D = some (r, D') → W p l e R s m args below meth c H locs 0 0 (MQ below (Qn (some (.int r)) True (wpost G cA S D' ad A) A) args s 0 0 A) (F0 m 28 ls [.int xs0]) := by
  obtain ⟨hx, hb, -⟩ := id hC
  intro o0 a0 x1 x2 xs0 D H locs ls hi0 hw hl h
  unfold f_X1_doPair_28 at h
  refine lv_istore_n (lv' := [(3, .int xs0), (0, .ref a0), (1, .int x1), (2, .int x2)]) hx hb dX1_doPair_28 rfl hl (by decide) rfl (fun ls hl => ?_)
  refine lv_aload_n hx hb dX1_doPair_29 rfl (lv_at hl 1 rfl) ?_
  obtain ⟨o95, ho98, h⟩ := rq_i h
  refine r_getR hC hw kc_1 hi0 0 rfl lk_219 dX1_doPair_30 rfl ho98 (fun a96 hi97 => ?_)
  refine lv_iload_n hx hb dX1_doPair_33 rfl (lv_at hl 2 rfl) ?_
  refine lv_iconst (v := 1) hx hb dX1_doPair_34 (by decide) ?_
  refine lv_iadd hx hb dX1_doPair_35 ?_
  obtain ⟨r100, hq99, h⟩ := pq_i h
  refine r_cV (st' := [.int r100]) [.int (x1 + (1 : Int32))] [] hC hw kc_3 hi97 (k_X4_has _ hi97 hq99) mk_X4_has lk_905 ⟨Nat.le_trans (by decide) hR.1, Nat.le_trans (by decide) hR.2⟩ ⟨Nat.zero_le _, Nat.zero_le _⟩ rfl hl.1 rfl rfl (Nat.le_of_ble_eq_true rfl) dX1_doPair_36 (fun hP H locs hw => ?_)
  refine lv_if_ne (tgt := 44) hx hb dX1_doPair_39 (by decide) (fun c101 => ?_) (fun c101 => ?_)
  · have h := i_no c101 h
    refine lv_iload_n hx hb dX1_doPair_44 rfl (lv_at hl 0 rfl) ?_
    refine lv_if_eq (tgt := 61) hx hb dX1_doPair_45 (by decide) (fun c102 => ?_) (fun c102 => ?_)
    · have h := i_yes c102 h
      exact w_X1_doPair_61 hC hR o0 a0 x1 x2 xs0 _ _ _ _ hi0 hw (lv_sub hl [1, 2, 3, 0] rfl) h
    · have h := i_no c102 h
      refine lv_aload_n hx hb dX1_doPair_48 rfl (lv_at hl 1 rfl) ?_
      obtain ⟨o103, ho106, h⟩ := rq_i h
      refine r_getR hC hw kc_1 hi0 1 rfl lk_220 dX1_doPair_49 rfl ho106 (fun a104 hi105 => ?_)
      refine lv_iload_n hx hb dX1_doPair_52 rfl (lv_at hl 3 rfl) ?_
      obtain ⟨r108, hq107, h⟩ := pq_i h
      refine r_cV (st' := [va_rf (r108.map ad)]) [.int x2] [] hC hw kc_2 hi105 (k_X2_tableNumbered _ hi105 hq107) mk_X2_tableNumbered lk_915 ⟨Nat.le_trans (by decide) hR.1, Nat.le_trans (by decide) hR.2⟩ ⟨Nat.zero_le _, Nat.zero_le _⟩ rfl hl.1 rfl rfl (Nat.le_of_ble_eq_true rfl) dX1_doPair_53 (fun hP H locs hw => ?_)
      cases r108 with
      | none =>
        have h := oqN h
        refine W.eq (g2 := F0 m 56 ls [.null]) rfl ?_
        refine lv_ifnonnullN hx hb dX1_doPair_56 ?_
        refine lv_iconst (v := 4) hx hb dX1_doPair_59 (by decide) ?_
        cases h
        exact r_iret hC hw dX1_doPair_60
      | some o109 =>
        have h := oqS h
        have hi110 : Is S ad o109 (ad o109) 6 := ⟨(hP o109 rfl).1, (hP o109 rfl).2, rfl⟩
        refine W.eq (g2 := F0 m 56 ls [.ref (ad o109)]) rfl ?_
        refine lv_ifnonnull (tgt := 61) hx hb dX1_doPair_56 (by decide) ?_
        exact w_X1_doPair_61 hC hR o0 a0 x1 x2 xs0 _ _ _ _ hi0 hw (lv_sub hl [1, 2, 3, 0] rfl) h
  · have h := i_yes c101 h
    refine lv_iconst (v := 5) hx hb dX1_doPair_42 (by decide) ?_
    cases h
    exact r_iret hC hw dX1_doPair_43
set_option maxHeartbeats 4000000 in
set_option maxRecDepth 100000 in
theorem w_X1_doPair_0 {r : Int32} {D' : dt} (hC : Cx RX1 cX1_doPair 6 (some .int) p s m args meth c) (hR : 1 ≤ R.frames ∧ 21 ≤ R.locals) : ∀ (o0 a0 : Nat) (x1 : Int32) (D : dt) (H : Heap) (locs : List Loc) (ls : Array Slot), Is S ad o0 a0 1 → Wd G cA S D ad A s H locs → lv_has ls 6 [(0, .ref a0), (1, .int x1)] → f_X1_doPair S o0 x1 D = some (r, D') → W p l e R s m args below meth c H locs 0 0 (MQ below (Qn (some (.int r)) True (wpost G cA S D' ad A) A) args s 0 0 A) (F0 m 0 ls []) := by
  obtain ⟨hx, hb, -⟩ := id hC
  intro o0 a0 x1 D H locs ls hi0 hw hl h
  unfold f_X1_doPair at h
  refine lv_aload_n hx hb dX1_doPair_0 rfl (lv_at hl 0 rfl) ?_
  obtain ⟨o111, ho114, h⟩ := rq_i h
  refine r_getR hC hw kc_1 hi0 0 rfl lk_219 dX1_doPair_1 rfl ho114 (fun a112 hi113 => ?_)
  obtain ⟨o115, ho118, h⟩ := rq_i h
  refine r_getR hC hw kc_3 hi113 4 rfl lk_154 dX1_doPair_4 rfl ho118 (fun a116 hi117 => ?_)
  refine lv_iload_n hx hb dX1_doPair_7 rfl (lv_at hl 1 rfl) ?_
  obtain ⟨hn119, h⟩ := ix_i h
  refine r_iald hC hw hi117 hn119 dX1_doPair_8 ?_
  refine lv_topi (fun y120 ey120 => ?_)
  have h := nm_i h y120 ey120
  refine lv_istore_n (lv' := [(2, .int y120), (0, .ref a0), (1, .int x1)]) hx hb dX1_doPair_9 rfl hl (by decide) rfl (fun ls hl => ?_)
  refine lv_aload_n hx hb dX1_doPair_10 rfl (lv_at hl 1 rfl) ?_
  obtain ⟨o121, ho124, h⟩ := rq_i h
  refine r_getR hC hw kc_1 hi0 0 rfl lk_219 dX1_doPair_11 rfl ho124 (fun a122 hi123 => ?_)
  obtain ⟨o125, ho128, h⟩ := rq_i h
  refine r_getR hC hw kc_3 hi123 2 rfl lk_148 dX1_doPair_14 rfl ho128 (fun a126 hi127 => ?_)
  refine lv_iload_n hx hb dX1_doPair_17 rfl (lv_at hl 2 rfl) ?_
  obtain ⟨hn129, h⟩ := ix_i h
  refine r_iald hC hw hi127 hn129 dX1_doPair_18 ?_
  refine lv_iconst (v := 1) hx hb dX1_doPair_19 (by decide) ?_
  refine lv_icmp_ne (tgt := 27) hx hb dX1_doPair_20 (by decide) (fun c130 => ?_) (fun c130 => ?_)
  · have h := i_no c130 h
    refine lv_iconst (v := 0) hx hb dX1_doPair_27 (by decide) ?_
    exact w_X1_doPair_28 hC hR o0 a0 x1 y120 (0 : Int32) _ _ _ _ hi0 hw (lv_sub hl [1, 2, 0] rfl) h
  · have h := i_yes c130 h
    refine lv_iconst (v := 1) hx hb dX1_doPair_23 (by decide) ?_
    refine lv_goto (tgt := 28) hx hb dX1_doPair_24 (by decide) ?_
    exact w_X1_doPair_28 hC hR o0 a0 x1 y120 (1 : Int32) _ _ _ _ hi0 hw (lv_sub hl [1, 2, 0] rfl) h
set_option maxHeartbeats 4000000 in
set_option maxRecDepth 100000 in
theorem k_X1_doPair {l : Launch} {G : va_G} {cA : Nat → ClassId} {S : sh} {D D' : dt} {ad : Nat → Nat} (sz : Nat) {o0 a0 : Nat} {x1 : Int32} {r : Int32} (hi0 : Is S ad o0 a0 1) (h : f_X1_doPair S o0 x1 D = some (r, D')) : Co l yX1_doPair (Cond.code yX1_doPair cX1_doPair 6 (some .int) :: tb0) 1 21 [.ref a0, .int x1] G cA S D ad sz (some (.int r)) True D' := by
  refine Met.ofW (cc := cX1_doPair) (maxL := 6) (ret := (some .int)) (by decide) rfl ?_
  intro p e s m args below meth c s₁ B hml hv
  obtain ⟨rfl, hsz, hP, hK, hD0, hT, hX⟩ := hv
  subst hsz
  have hts := atoms_spec (ws := Cond.code yX1_doPair cX1_doPair 6 (some .int) :: tb0) B.pre
  have hC : Cx RX1 cX1_doPair 6 (some .int) p s m _ meth c := ⟨B.exec, B.bytes, hml, findClass_of_methodNamed B.named, fun w q => hts w (List.mem_cons_of_mem _ q), B.returns, B.notSynchronized⟩
  have hw := Wd.entry hP hK hD0 hT hX
  have hl := lv_entry ([.ref a0, .int x1]) (n := 6) (Nat.le_of_ble_eq_true rfl)
  rw [lg_entry_eq]
  exact w_X1_doPair_0 hC ⟨Nat.le_refl _, Nat.le_refl _⟩ o0 a0 x1 D _ _ _ hi0 hw hl h
set_option maxHeartbeats 4000000 in
set_option maxRecDepth 100000 in
theorem w_X1_doLoad_93 {r : Int32} {D' : dt} (hC : Cx RX1 cX1_doLoad 5 (some .int) p s m args meth c) (hR : 3 ≤ R.frames ∧ 75 ≤ R.locals) : ∀ (o0 a0 : Nat) (x1 : Int32) (os0 as0 : Nat) (xs1 : Int32) (xs2 : Int64) (D : dt) (H : Heap) (locs : List Loc) (ls : Array Slot), Is S ad o0 a0 1 → Is S ad os0 as0 101 → Wd G cA S D ad A s H locs → lv_has ls 5 [(0, .ref a0), (1, .int x1)] → f_X1_doLoad_93 S o0 x1 os0 xs1 xs2 D = some (r, D') → W p l e R s m args below meth c H locs 0 0 (MQ below (Qn (some (.int r)) True (wpost G cA S D' ad A) A) args s 0 0 A) (F0 m 93 ls [.long xs2, .int xs1, .ref as0]) := by
  obtain ⟨hx, hb, -⟩ := id hC
  intro o0 a0 x1 os0 as0 xs1 xs2 D H locs ls hi0 his0 hw hl h
  unfold f_X1_doLoad_93 at h
  obtain ⟨hn71, h⟩ := ix_i h
  refine r_las hC hw his0 hn71 dX1_doLoad_93 (fun D72 eD72 H locs hw => ?_)
  have h := nm_i h D72 eD72
  refine lv_aload_n hx hb dX1_doLoad_94 rfl (lv_at hl 0 rfl) ?_
  refine lv_iload_n hx hb dX1_doLoad_95 rfl (lv_at hl 1 rfl) ?_
  refine lv_iconst (v := 1) hx hb dX1_doLoad_96 (by decide) ?_
  refine lv_iadd hx hb dX1_doLoad_97 ?_
  obtain ⟨r74, D75, hq73, h⟩ := cq_i h
  refine r_cV (st' := [.int r74]) [.int (x1 + (1 : Int32))] [] hC hw kc_1 hi0 (k_X1_goTo _ hi0 hq73) mk_X1_goTo lk_918 ⟨Nat.le_trans (by decide) hR.1, Nat.le_trans (by decide) hR.2⟩ ⟨Nat.zero_le _, Nat.zero_le _⟩ rfl hl.1 rfl rfl (Nat.le_of_ble_eq_true rfl) dX1_doLoad_98 (fun hP H locs hw => ?_)
  cases h
  exact r_iret hC hw dX1_doLoad_101
set_option maxHeartbeats 4000000 in
set_option maxRecDepth 100000 in
theorem w_X1_doLoad_0 {r : Int32} {D' : dt} (hC : Cx RX1 cX1_doLoad 5 (some .int) p s m args meth c) (hR : 3 ≤ R.frames ∧ 75 ≤ R.locals) : ∀ (o0 a0 : Nat) (x1 : Int32) (D : dt) (H : Heap) (locs : List Loc) (ls : Array Slot), Is S ad o0 a0 1 → Wd G cA S D ad A s H locs → lv_has ls 5 [(0, .ref a0), (1, .int x1)] → f_X1_doLoad S o0 x1 D = some (r, D') → W p l e R s m args below meth c H locs 0 0 (MQ below (Qn (some (.int r)) True (wpost G cA S D' ad A) A) args s 0 0 A) (F0 m 0 ls []) := by
  obtain ⟨hx, hb, -⟩ := id hC
  intro o0 a0 x1 D H locs ls hi0 hw hl h
  unfold f_X1_doLoad at h
  refine lv_aload_n hx hb dX1_doLoad_0 rfl (lv_at hl 0 rfl) ?_
  obtain ⟨o76, ho79, h⟩ := rq_i h
  refine r_getR hC hw kc_1 hi0 0 rfl lk_219 dX1_doLoad_1 rfl ho79 (fun a77 hi78 => ?_)
  refine lv_iload_n hx hb dX1_doLoad_4 rfl (lv_at hl 1 rfl) ?_
  obtain ⟨r81, hq80, h⟩ := pq_i h
  refine r_cV (st' := [.int r81]) [.int x1] [] hC hw kc_3 hi78 (k_X4_width _ hi78 hq80) mk_X4_width lk_926 ⟨Nat.le_trans (by decide) hR.1, Nat.le_trans (by decide) hR.2⟩ ⟨Nat.zero_le _, Nat.zero_le _⟩ rfl hl.1 rfl rfl (Nat.le_of_ble_eq_true rfl) dX1_doLoad_5 (fun hP H locs hw => ?_)
  refine lv_istore_n (lv' := [(2, .int r81), (0, .ref a0), (1, .int x1)]) hx hb dX1_doLoad_8 rfl hl (by decide) rfl (fun ls hl => ?_)
  refine lv_aload_n hx hb dX1_doLoad_9 rfl (lv_at hl 1 rfl) ?_
  obtain ⟨o82, ho85, h⟩ := rq_i h
  refine r_getR hC hw kc_1 hi0 1 rfl lk_220 dX1_doLoad_10 rfl ho85 (fun a83 hi84 => ?_)
  refine lv_aload_n hx hb dX1_doLoad_13 rfl (lv_at hl 1 rfl) ?_
  obtain ⟨o86, ho89, h⟩ := rq_i h
  refine r_getR hC hw kc_1 hi0 2 rfl lk_221 dX1_doLoad_14 rfl ho89 (fun a87 hi88 => ?_)
  refine lv_aload_n hx hb dX1_doLoad_17 rfl (lv_at hl 1 rfl) ?_
  obtain ⟨o90, ho93, h⟩ := rq_i h
  refine r_getR hC hw kc_1 hi0 0 rfl lk_219 dX1_doLoad_18 rfl ho93 (fun a91 hi92 => ?_)
  obtain ⟨o94, ho97, h⟩ := rq_i h
  refine r_getR hC hw kc_3 hi92 2 rfl lk_148 dX1_doLoad_21 rfl ho97 (fun a95 hi96 => ?_)
  refine lv_iload_n hx hb dX1_doLoad_24 rfl (lv_at hl 2 rfl) ?_
  obtain ⟨hn98, h⟩ := ix_i h
  refine r_iald hC hw hi96 hn98 dX1_doLoad_25 ?_
  obtain ⟨hn99, h⟩ := ix_i h
  refine r_lald hC hw hi88 hn99 dX1_doLoad_26 ?_
  refine lv_aload_n hx hb dX1_doLoad_27 rfl (lv_at hl 1 rfl) ?_
  obtain ⟨o100, ho103, h⟩ := rq_i h
  refine r_getR hC hw kc_1 hi0 0 rfl lk_219 dX1_doLoad_28 rfl ho103 (fun a101 hi102 => ?_)
  obtain ⟨o104, ho107, h⟩ := rq_i h
  refine r_getR hC hw kc_3 hi102 3 rfl lk_151 dX1_doLoad_31 rfl ho107 (fun a105 hi106 => ?_)
  refine lv_iload_n hx hb dX1_doLoad_34 rfl (lv_at hl 2 rfl) ?_
  obtain ⟨hn108, h⟩ := ix_i h
  refine r_iald hC hw hi106 hn108 dX1_doLoad_35 ?_
  refine lv_i2l (v := (gI D o104 x1.toNatClampNeg).toInt64) hx hb dX1_doLoad_36 rfl ?_
  refine lv_ladd hx hb dX1_doLoad_37 ?_
  refine lv_iload_n hx hb dX1_doLoad_38 rfl (lv_at hl 0 rfl) ?_
  refine lv_iconst (v := 0) hx hb dX1_doLoad_39 (by decide) ?_
  obtain ⟨r110, D111, hq109, h⟩ := cq_i h
  refine r_cV (st' := [.int r110]) [.long ((gL D o86 (gI D o94 x1.toNatClampNeg).toNatClampNeg) + ((gI D o104 x1.toNatClampNeg).toInt64)), .int r81, .int (0 : Int32)] [] hC hw kc_2 hi84 (k_X2_find _ hi84 hq109) mk_X2_find lk_927 ⟨Nat.le_trans (by decide) hR.1, Nat.le_trans (by decide) hR.2⟩ ⟨Nat.zero_le _, Nat.zero_le _⟩ rfl hl.1 rfl rfl (Nat.le_of_ble_eq_true rfl) dX1_doLoad_40 (fun hP H locs hw => ?_)
  refine lv_if_ne (tgt := 48) hx hb dX1_doLoad_43 (by decide) (fun c112 => ?_) (fun c112 => ?_)
  · have h := i_no c112 h
    refine lv_aload_n hx hb dX1_doLoad_48 rfl (lv_at hl 1 rfl) ?_
    obtain ⟨o113, ho116, h⟩ := rq_i h
    refine r_getR hC hw kc_1 hi0 1 rfl lk_220 dX1_doLoad_49 rfl ho116 (fun a114 hi115 => ?_)
    refine lv_iload_n hx hb dX1_doLoad_52 rfl (lv_at hl 0 rfl) ?_
    obtain ⟨r118, hq117, h⟩ := pq_i h
    refine r_cV (st' := [.long r118]) [.int r81] [] hC hw kc_2 hi115 (k_X2_foundNumber _ hi115 hq117) mk_X2_foundNumber lk_943 ⟨Nat.le_trans (by decide) hR.1, Nat.le_trans (by decide) hR.2⟩ ⟨Nat.zero_le _, Nat.zero_le _⟩ rfl hl.1 rfl rfl (Nat.le_of_ble_eq_true rfl) dX1_doLoad_53 (fun hP H locs hw => ?_)
    refine lv_lstore_n (lv' := [(3, .long r118), (2, .int r81), (0, .ref a0), (1, .int x1)]) hx hb dX1_doLoad_56 rfl hl (by decide) rfl (fun ls hl => ?_)
    refine lv_aload_n hx hb dX1_doLoad_57 rfl (lv_at hl 2 rfl) ?_
    obtain ⟨o119, ho122, h⟩ := rq_i h
    refine r_getR hC hw kc_1 hi0 2 rfl lk_221 dX1_doLoad_58 rfl ho122 (fun a120 hi121 => ?_)
    refine lv_aload_n hx hb dX1_doLoad_61 rfl (lv_at hl 2 rfl) ?_
    obtain ⟨o123, ho126, h⟩ := rq_i h
    refine r_getR hC hw kc_1 hi0 0 rfl lk_219 dX1_doLoad_62 rfl ho126 (fun a124 hi125 => ?_)
    obtain ⟨o127, ho130, h⟩ := rq_i h
    refine r_getR hC hw kc_3 hi125 1 rfl lk_145 dX1_doLoad_65 rfl ho130 (fun a128 hi129 => ?_)
    refine lv_iload_n hx hb dX1_doLoad_68 rfl (lv_at hl 3 rfl) ?_
    obtain ⟨hn131, h⟩ := ix_i h
    refine r_iald hC hw hi129 hn131 dX1_doLoad_69 ?_
    refine lv_aload_n hx hb dX1_doLoad_70 rfl (lv_at hl 2 rfl) ?_
    obtain ⟨o132, ho135, h⟩ := rq_i h
    refine r_getR hC hw kc_1 hi0 0 rfl lk_219 dX1_doLoad_71 rfl ho135 (fun a133 hi134 => ?_)
    refine lv_iload_n hx hb dX1_doLoad_74 rfl (lv_at hl 3 rfl) ?_
    obtain ⟨r137, hq136, h⟩ := pq_i h
    refine r_cV (st' := [.int r137, .int (gI D111 o127 x1.toNatClampNeg), .ref a120]) [.int x1] [.int (gI D111 o127 x1.toNatClampNeg), .ref a120] hC hw kc_3 hi134 (k_X4_isSignedLoad _ hi134 hq136) mk_X4_isSignedLoad lk_947 ⟨Nat.le_trans (by decide) hR.1, Nat.le_trans (by decide) hR.2⟩ ⟨Nat.zero_le _, Nat.zero_le _⟩ rfl hl.1 rfl rfl (Nat.le_of_ble_eq_true rfl) dX1_doLoad_75 (fun hP H locs hw => ?_)
    refine lv_if_eq (tgt := 92) hx hb dX1_doLoad_78 (by decide) (fun c138 => ?_) (fun c138 => ?_)
    · have h := i_yes c138 h
      refine lv_lload_n hx hb dX1_doLoad_92 rfl (lv_at hl 0 rfl) ?_
      exact w_X1_doLoad_93 hC hR o0 a0 x1 o119 a120 (gI D111 o127 x1.toNatClampNeg) r118 _ _ _ _ hi0 hi121 hw (lv_sub hl [2, 3] rfl) h
    · have h := i_no c138 h
      refine lv_lload_n hx hb dX1_doLoad_81 rfl (lv_at hl 0 rfl) ?_
      refine lv_bipush (v := 8) hx hb dX1_doLoad_82 (by decide) ?_
      refine lv_iload_n hx hb dX1_doLoad_84 rfl (lv_at hl 1 rfl) ?_
      refine lv_imul hx hb dX1_doLoad_85 ?_
      obtain ⟨r140, hq139, h⟩ := pq_i h
      refine r_cS (st' := [.long r140, .int (gI D111 o127 x1.toNatClampNeg), .ref a120]) [.long r118, .int ((8 : Int32) * r81)] [.int (gI D111 o127 x1.toNatClampNeg), .ref a120] hC hw (k_X3_withSign _ hq139) mk_X3_withSign lk_948 ⟨Nat.le_trans (by decide) hR.1, Nat.le_trans (by decide) hR.2⟩ ⟨Nat.zero_le _, Nat.zero_le _⟩ rfl hl.1 rfl rfl (Nat.le_of_ble_eq_true rfl) dX1_doLoad_86 (fun hP H locs hw => ?_)
      refine lv_goto (tgt := 93) hx hb dX1_doLoad_89 (by decide) ?_
      exact w_X1_doLoad_93 hC hR o0 a0 x1 o119 a120 (gI D111 o127 x1.toNatClampNeg) r140 _ _ _ _ hi0 hi121 hw (lv_sub hl [2, 3] rfl) h
  · have h := i_yes c112 h
    refine lv_iconst (v := 4) hx hb dX1_doLoad_46 (by decide) ?_
    cases h
    exact r_iret hC hw dX1_doLoad_47
set_option maxHeartbeats 4000000 in
set_option maxRecDepth 100000 in
theorem k_X1_doLoad {l : Launch} {G : va_G} {cA : Nat → ClassId} {S : sh} {D D' : dt} {ad : Nat → Nat} (sz : Nat) {o0 a0 : Nat} {x1 : Int32} {r : Int32} (hi0 : Is S ad o0 a0 1) (h : f_X1_doLoad S o0 x1 D = some (r, D')) : Co l yX1_doLoad (Cond.code yX1_doLoad cX1_doLoad 5 (some .int) :: tb0) 3 75 [.ref a0, .int x1] G cA S D ad sz (some (.int r)) True D' := by
  refine Met.ofW (cc := cX1_doLoad) (maxL := 5) (ret := (some .int)) (by decide) rfl ?_
  intro p e s m args below meth c s₁ B hml hv
  obtain ⟨rfl, hsz, hP, hK, hD0, hT, hX⟩ := hv
  subst hsz
  have hts := atoms_spec (ws := Cond.code yX1_doLoad cX1_doLoad 5 (some .int) :: tb0) B.pre
  have hC : Cx RX1 cX1_doLoad 5 (some .int) p s m _ meth c := ⟨B.exec, B.bytes, hml, findClass_of_methodNamed B.named, fun w q => hts w (List.mem_cons_of_mem _ q), B.returns, B.notSynchronized⟩
  have hw := Wd.entry hP hK hD0 hT hX
  have hl := lv_entry ([.ref a0, .int x1]) (n := 5) (Nat.le_of_ble_eq_true rfl)
  rw [lg_entry_eq]
  exact w_X1_doLoad_0 hC ⟨Nat.le_refl _, Nat.le_refl _⟩ o0 a0 x1 D _ _ _ hi0 hw hl h
set_option maxHeartbeats 4000000 in
set_option maxRecDepth 100000 in
theorem w_X1_doPut_0 {r : Int32} {D' : dt} (hC : Cx RX1 cX1_doPut 5 (some .int) p s m args meth c) (hR : 3 ≤ R.frames ∧ 75 ≤ R.locals) : ∀ (o0 a0 : Nat) (x1 : Int32) (x2 : Int64) (D : dt) (H : Heap) (locs : List Loc) (ls : Array Slot), Is S ad o0 a0 1 → Wd G cA S D ad A s H locs → lv_has ls 5 [(0, .ref a0), (1, .int x1), (2, .long x2)] → f_X1_doPut S o0 x1 x2 D = some (r, D') → W p l e R s m args below meth c H locs 0 0 (MQ below (Qn (some (.int r)) True (wpost G cA S D' ad A) A) args s 0 0 A) (F0 m 0 ls []) := by
  obtain ⟨hx, hb, -⟩ := id hC
  intro o0 a0 x1 x2 D H locs ls hi0 hw hl h
  unfold f_X1_doPut at h
  refine lv_aload_n hx hb dX1_doPut_0 rfl (lv_at hl 0 rfl) ?_
  obtain ⟨o47, ho50, h⟩ := rq_i h
  refine r_getR hC hw kc_1 hi0 0 rfl lk_219 dX1_doPut_1 rfl ho50 (fun a48 hi49 => ?_)
  refine lv_iload_n hx hb dX1_doPut_4 rfl (lv_at hl 1 rfl) ?_
  obtain ⟨r52, hq51, h⟩ := pq_i h
  refine r_cV (st' := [.int r52]) [.int x1] [] hC hw kc_3 hi49 (k_X4_width _ hi49 hq51) mk_X4_width lk_926 ⟨Nat.le_trans (by decide) hR.1, Nat.le_trans (by decide) hR.2⟩ ⟨Nat.zero_le _, Nat.zero_le _⟩ rfl hl.1 rfl rfl (Nat.le_of_ble_eq_true rfl) dX1_doPut_5 (fun hP H locs hw => ?_)
  refine lv_istore (lv' := [(4, .int r52), (0, .ref a0), (1, .int x1), (2, .long x2)]) hx hb dX1_doPut_8 hl (by decide) rfl (fun ls hl => ?_)
  refine lv_aload_n hx hb dX1_doPut_10 rfl (lv_at hl 1 rfl) ?_
  obtain ⟨o53, ho56, h⟩ := rq_i h
  refine r_getR hC hw kc_1 hi0 1 rfl lk_220 dX1_doPut_11 rfl ho56 (fun a54 hi55 => ?_)
  refine lv_aload_n hx hb dX1_doPut_14 rfl (lv_at hl 1 rfl) ?_
  obtain ⟨o57, ho60, h⟩ := rq_i h
  refine r_getR hC hw kc_1 hi0 2 rfl lk_221 dX1_doPut_15 rfl ho60 (fun a58 hi59 => ?_)
  refine lv_aload_n hx hb dX1_doPut_18 rfl (lv_at hl 1 rfl) ?_
  obtain ⟨o61, ho64, h⟩ := rq_i h
  refine r_getR hC hw kc_1 hi0 0 rfl lk_219 dX1_doPut_19 rfl ho64 (fun a62 hi63 => ?_)
  obtain ⟨o65, ho68, h⟩ := rq_i h
  refine r_getR hC hw kc_3 hi63 1 rfl lk_145 dX1_doPut_22 rfl ho68 (fun a66 hi67 => ?_)
  refine lv_iload_n hx hb dX1_doPut_25 rfl (lv_at hl 2 rfl) ?_
  obtain ⟨hn69, h⟩ := ix_i h
  refine r_iald hC hw hi67 hn69 dX1_doPut_26 ?_
  obtain ⟨hn70, h⟩ := ix_i h
  refine r_lald hC hw hi59 hn70 dX1_doPut_27 ?_
  refine lv_aload_n hx hb dX1_doPut_28 rfl (lv_at hl 1 rfl) ?_
  obtain ⟨o71, ho74, h⟩ := rq_i h
  refine r_getR hC hw kc_1 hi0 0 rfl lk_219 dX1_doPut_29 rfl ho74 (fun a72 hi73 => ?_)
  obtain ⟨o75, ho78, h⟩ := rq_i h
  refine r_getR hC hw kc_3 hi73 3 rfl lk_151 dX1_doPut_32 rfl ho78 (fun a76 hi77 => ?_)
  refine lv_iload_n hx hb dX1_doPut_35 rfl (lv_at hl 2 rfl) ?_
  obtain ⟨hn79, h⟩ := ix_i h
  refine r_iald hC hw hi77 hn79 dX1_doPut_36 ?_
  refine lv_i2l (v := (gI D o75 x1.toNatClampNeg).toInt64) hx hb dX1_doPut_37 rfl ?_
  refine lv_ladd hx hb dX1_doPut_38 ?_
  refine lv_iload hx hb dX1_doPut_39 (lv_at hl 0 rfl) ?_
  refine lv_iconst (v := 1) hx hb dX1_doPut_41 (by decide) ?_
  obtain ⟨r81, D82, hq80, h⟩ := cq_i h
  refine r_cV (st' := [.int r81]) [.long ((gL D o57 (gI D o65 x1.toNatClampNeg).toNatClampNeg) + ((gI D o75 x1.toNatClampNeg).toInt64)), .int r52, .int (1 : Int32)] [] hC hw kc_2 hi55 (k_X2_find _ hi55 hq80) mk_X2_find lk_927 ⟨Nat.le_trans (by decide) hR.1, Nat.le_trans (by decide) hR.2⟩ ⟨Nat.zero_le _, Nat.zero_le _⟩ rfl hl.1 rfl rfl (Nat.le_of_ble_eq_true rfl) dX1_doPut_42 (fun hP H locs hw => ?_)
  refine lv_if_ne (tgt := 50) hx hb dX1_doPut_45 (by decide) (fun c83 => ?_) (fun c83 => ?_)
  · have h := i_no c83 h
    refine lv_aload_n hx hb dX1_doPut_50 rfl (lv_at hl 1 rfl) ?_
    obtain ⟨o84, ho87, h⟩ := rq_i h
    refine r_getR hC hw kc_1 hi0 1 rfl lk_220 dX1_doPut_51 rfl ho87 (fun a85 hi86 => ?_)
    refine lv_lload_n hx hb dX1_doPut_54 rfl (lv_at hl 3 rfl) ?_
    refine lv_iload hx hb dX1_doPut_55 (lv_at hl 0 rfl) ?_
    obtain ⟨_, D89, hq88, h⟩ := cq_i h
    refine r_cV (st' := []) [.long x2, .int r52] [] hC hw kc_2 hi86 (k_X2_writeFound _ hi86 hq88) mk_X2_writeFound lk_953 ⟨Nat.le_trans (by decide) hR.1, Nat.le_trans (by decide) hR.2⟩ ⟨Nat.zero_le _, Nat.zero_le _⟩ rfl hl.1 rfl rfl (Nat.le_of_ble_eq_true rfl) dX1_doPut_57 (fun hP H locs hw => ?_)
    refine lv_aload_n hx hb dX1_doPut_60 rfl (lv_at hl 1 rfl) ?_
    refine lv_iload_n hx hb dX1_doPut_61 rfl (lv_at hl 2 rfl) ?_
    refine lv_iconst (v := 1) hx hb dX1_doPut_62 (by decide) ?_
    refine lv_iadd hx hb dX1_doPut_63 ?_
    obtain ⟨r91, D92, hq90, h⟩ := cq_i h
    refine r_cV (st' := [.int r91]) [.int (x1 + (1 : Int32))] [] hC hw kc_1 hi0 (k_X1_goTo _ hi0 hq90) mk_X1_goTo lk_918 ⟨Nat.le_trans (by decide) hR.1, Nat.le_trans (by decide) hR.2⟩ ⟨Nat.zero_le _, Nat.zero_le _⟩ rfl hl.1 rfl rfl (Nat.le_of_ble_eq_true rfl) dX1_doPut_64 (fun hP H locs hw => ?_)
    cases h
    exact r_iret hC hw dX1_doPut_67
  · have h := i_yes c83 h
    refine lv_iconst (v := 4) hx hb dX1_doPut_48 (by decide) ?_
    cases h
    exact r_iret hC hw dX1_doPut_49
set_option maxHeartbeats 4000000 in
set_option maxRecDepth 100000 in
theorem k_X1_doPut {l : Launch} {G : va_G} {cA : Nat → ClassId} {S : sh} {D D' : dt} {ad : Nat → Nat} (sz : Nat) {o0 a0 : Nat} {x1 : Int32} {x2 : Int64} {r : Int32} (hi0 : Is S ad o0 a0 1) (h : f_X1_doPut S o0 x1 x2 D = some (r, D')) : Co l yX1_doPut (Cond.code yX1_doPut cX1_doPut 5 (some .int) :: tb0) 3 75 [.ref a0, .int x1, .long x2] G cA S D ad sz (some (.int r)) True D' := by
  refine Met.ofW (cc := cX1_doPut) (maxL := 5) (ret := (some .int)) (by decide) rfl ?_
  intro p e s m args below meth c s₁ B hml hv
  obtain ⟨rfl, hsz, hP, hK, hD0, hT, hX⟩ := hv
  subst hsz
  have hts := atoms_spec (ws := Cond.code yX1_doPut cX1_doPut 5 (some .int) :: tb0) B.pre
  have hC : Cx RX1 cX1_doPut 5 (some .int) p s m _ meth c := ⟨B.exec, B.bytes, hml, findClass_of_methodNamed B.named, fun w q => hts w (List.mem_cons_of_mem _ q), B.returns, B.notSynchronized⟩
  have hw := Wd.entry hP hK hD0 hT hX
  have hl := lv_entry ([.ref a0, .int x1, .long x2]) (n := 5) (Nat.le_of_ble_eq_true rfl)
  rw [lg_entry_eq]
  exact w_X1_doPut_0 hC ⟨Nat.le_refl _, Nat.le_refl _⟩ o0 a0 x1 x2 D _ _ _ hi0 hw hl h
set_option maxHeartbeats 4000000 in
set_option maxRecDepth 100000 in
theorem w_X1_doChange_211 {r : Int32} {D' : dt} (hC : Cx RX1 cX1_doChange 10 (some .int) p s m args meth c) (hR : 3 ≤ R.frames ∧ 75 ≤ R.locals) : ∀ (o0 a0 : Nat) (x1 : Int32) (D : dt) (H : Heap) (locs : List Loc) (ls : Array Slot), Is S ad o0 a0 1 → Wd G cA S D ad A s H locs → lv_has ls 10 [(0, .ref a0), (1, .int x1)] → f_X1_doChange_211 S o0 x1 D = some (r, D') → W p l e R s m args below meth c H locs 0 0 (MQ below (Qn (some (.int r)) True (wpost G cA S D' ad A) A) args s 0 0 A) (F0 m 211 ls []) := by
  obtain ⟨hx, hb, -⟩ := id hC
  intro o0 a0 x1 D H locs ls hi0 hw hl h
  unfold f_X1_doChange_211 at h
  refine lv_aload_n hx hb dX1_doChange_211 rfl (lv_at hl 0 rfl) ?_
  refine lv_iload_n hx hb dX1_doChange_212 rfl (lv_at hl 1 rfl) ?_
  refine lv_iconst (v := 1) hx hb dX1_doChange_213 (by decide) ?_
  refine lv_iadd hx hb dX1_doChange_214 ?_
  obtain ⟨r126, D127, hq125, h⟩ := cq_i h
  refine r_cV (st' := [.int r126]) [.int (x1 + (1 : Int32))] [] hC hw kc_1 hi0 (k_X1_goTo _ hi0 hq125) mk_X1_goTo lk_918 ⟨Nat.le_trans (by decide) hR.1, Nat.le_trans (by decide) hR.2⟩ ⟨Nat.zero_le _, Nat.zero_le _⟩ rfl hl.1 rfl rfl (Nat.le_of_ble_eq_true rfl) dX1_doChange_215 (fun hP H locs hw => ?_)
  cases h
  exact r_iret hC hw dX1_doChange_218
set_option maxHeartbeats 4000000 in
set_option maxRecDepth 100000 in
theorem w_X1_doChange_185 {r : Int32} {D' : dt} (hC : Cx RX1 cX1_doChange 10 (some .int) p s m args meth c) (hR : 3 ≤ R.frames ∧ 75 ≤ R.locals) : ∀ (o0 a0 : Nat) (x1 : Int32) (x2 : Int32) (x3 : Int32) (x4 : Int64) (os0 as0 : Nat) (xs1 : Int64) (D : dt) (H : Heap) (locs : List Loc) (ls : Array Slot), Is S ad o0 a0 1 → Is S ad os0 as0 2 → Wd G cA S D ad A s H locs → lv_has ls 10 [(0, .ref a0), (1, .int x1), (2, .int x2), (3, .int x3), (4, .long x4)] → f_X1_doChange_185 S o0 x1 x2 x3 x4 os0 xs1 D = some (r, D') → W p l e R s m args below meth c H locs 0 0 (MQ below (Qn (some (.int r)) True (wpost G cA S D' ad A) A) args s 0 0 A) (F0 m 185 ls [.long xs1, .ref as0]) := by
  obtain ⟨hx, hb, -⟩ := id hC
  intro o0 a0 x1 x2 x3 x4 os0 as0 xs1 D H locs ls hi0 his0 hw hl h
  unfold f_X1_doChange_185 at h
  refine lv_iload_n hx hb dX1_doChange_185 rfl (lv_at hl 2 rfl) ?_
  obtain ⟨_, D129, hq128, h⟩ := cq_i h
  refine r_cV (st' := []) [.long xs1, .int x2] [] hC hw kc_2 his0 (k_X2_writeFound _ his0 hq128) mk_X2_writeFound lk_953 ⟨Nat.le_trans (by decide) hR.1, Nat.le_trans (by decide) hR.2⟩ ⟨Nat.zero_le _, Nat.zero_le _⟩ rfl hl.1 rfl rfl (Nat.le_of_ble_eq_true rfl) dX1_doChange_186 (fun hP H locs hw => ?_)
  refine lv_iload_n hx hb dX1_doChange_189 rfl (lv_at hl 3 rfl) ?_
  refine lv_iconst (v := 1) hx hb dX1_doChange_190 (by decide) ?_
  refine lv_iand hx hb dX1_doChange_191 ?_
  refine lv_if_eq (tgt := 211) hx hb dX1_doChange_192 (by decide) (fun c130 => ?_) (fun c130 => ?_)
  · have h := i_yes c130 h
    exact w_X1_doChange_211 hC hR o0 a0 x1 _ _ _ _ hi0 hw (lv_sub hl [0, 1] rfl) h
  · have h := i_no c130 h
    refine lv_aload_n hx hb dX1_doChange_195 rfl (lv_at hl 0 rfl) ?_
    obtain ⟨o131, ho134, h⟩ := rq_i h
    refine r_getR hC hw kc_1 hi0 2 rfl lk_221 dX1_doChange_196 rfl ho134 (fun a132 hi133 => ?_)
    refine lv_aload_n hx hb dX1_doChange_199 rfl (lv_at hl 0 rfl) ?_
    obtain ⟨o135, ho138, h⟩ := rq_i h
    refine r_getR hC hw kc_1 hi0 0 rfl lk_219 dX1_doChange_200 rfl ho138 (fun a136 hi137 => ?_)
    obtain ⟨o139, ho142, h⟩ := rq_i h
    refine r_getR hC hw kc_3 hi137 2 rfl lk_148 dX1_doChange_203 rfl ho142 (fun a140 hi141 => ?_)
    refine lv_iload_n hx hb dX1_doChange_206 rfl (lv_at hl 1 rfl) ?_
    obtain ⟨hn143, h⟩ := ix_i h
    refine r_iald hC hw hi141 hn143 dX1_doChange_207 ?_
    refine lv_lload hx hb dX1_doChange_208 (lv_at hl 4 rfl) ?_
    obtain ⟨hn144, h⟩ := ix_i h
    refine r_las hC hw hi133 hn144 dX1_doChange_210 (fun D145 eD145 H locs hw => ?_)
    have h := nm_i h D145 eD145
    exact w_X1_doChange_211 hC hR o0 a0 x1 _ _ _ _ hi0 hw (lv_sub hl [0, 1] rfl) h
set_option maxHeartbeats 4000000 in
set_option maxRecDepth 100000 in
theorem w_X1_doChange_137 {r : Int32} {D' : dt} (hC : Cx RX1 cX1_doChange 10 (some .int) p s m args meth c) (hR : 3 ≤ R.frames ∧ 75 ≤ R.locals) : ∀ (o0 a0 : Nat) (x1 : Int32) (x2 : Int32) (x4 : Int64) (os0 as0 : Nat) (xs1 : Int64) (D : dt) (H : Heap) (locs : List Loc) (ls : Array Slot), Is S ad o0 a0 1 → Is S ad os0 as0 2 → Wd G cA S D ad A s H locs → lv_has ls 10 [(0, .ref a0), (1, .int x1), (2, .int x2), (4, .long x4)] → f_X1_doChange_137 S o0 x1 x2 x4 os0 xs1 D = some (r, D') → W p l e R s m args below meth c H locs 0 0 (MQ below (Qn (some (.int r)) True (wpost G cA S D' ad A) A) args s 0 0 A) (F0 m 137 ls [.long xs1, .ref as0]) := by
  obtain ⟨hx, hb, -⟩ := id hC
  intro o0 a0 x1 x2 x4 os0 as0 xs1 D H locs ls hi0 his0 hw hl h
  unfold f_X1_doChange_137 at h
  refine lv_iload_n hx hb dX1_doChange_137 rfl (lv_at hl 2 rfl) ?_
  obtain ⟨_, D147, hq146, h⟩ := cq_i h
  refine r_cV (st' := []) [.long xs1, .int x2] [] hC hw kc_2 his0 (k_X2_writeFound _ his0 hq146) mk_X2_writeFound lk_953 ⟨Nat.le_trans (by decide) hR.1, Nat.le_trans (by decide) hR.2⟩ ⟨Nat.zero_le _, Nat.zero_le _⟩ rfl hl.1 rfl rfl (Nat.le_of_ble_eq_true rfl) dX1_doChange_138 (fun hP H locs hw => ?_)
  refine lv_aload_n hx hb dX1_doChange_141 rfl (lv_at hl 0 rfl) ?_
  obtain ⟨o148, ho151, h⟩ := rq_i h
  refine r_getR hC hw kc_1 hi0 2 rfl lk_221 dX1_doChange_142 rfl ho151 (fun a149 hi150 => ?_)
  refine lv_iconst (v := 0) hx hb dX1_doChange_145 (by decide) ?_
  refine lv_lload hx hb dX1_doChange_146 (lv_at hl 3 rfl) ?_
  obtain ⟨hn152, h⟩ := ix_i h
  refine r_las hC hw hi150 hn152 dX1_doChange_148 (fun D153 eD153 H locs hw => ?_)
  have h := nm_i h D153 eD153
  refine lv_aload_n hx hb dX1_doChange_149 rfl (lv_at hl 0 rfl) ?_
  refine lv_iload_n hx hb dX1_doChange_150 rfl (lv_at hl 1 rfl) ?_
  refine lv_iconst (v := 1) hx hb dX1_doChange_151 (by decide) ?_
  refine lv_iadd hx hb dX1_doChange_152 ?_
  obtain ⟨r155, D156, hq154, h⟩ := cq_i h
  refine r_cV (st' := [.int r155]) [.int (x1 + (1 : Int32))] [] hC hw kc_1 hi0 (k_X1_goTo _ hi0 hq154) mk_X1_goTo lk_918 ⟨Nat.le_trans (by decide) hR.1, Nat.le_trans (by decide) hR.2⟩ ⟨Nat.zero_le _, Nat.zero_le _⟩ rfl hl.1 rfl rfl (Nat.le_of_ble_eq_true rfl) dX1_doChange_153 (fun hP H locs hw => ?_)
  cases h
  exact r_iret hC hw dX1_doChange_156
set_option maxHeartbeats 4000000 in
set_option maxRecDepth 100000 in
theorem w_X1_doChange_116 {r : Int32} {D' : dt} (hC : Cx RX1 cX1_doChange 10 (some .int) p s m args meth c) (hR : 3 ≤ R.frames ∧ 75 ≤ R.locals) : ∀ (o0 a0 : Nat) (x1 : Int32) (x2 : Int32) (x4 : Int64) (x6 : Int64) (xs0 : Int64) (D : dt) (H : Heap) (locs : List Loc) (ls : Array Slot), Is S ad o0 a0 1 → Wd G cA S D ad A s H locs → lv_has ls 10 [(0, .ref a0), (1, .int x1), (2, .int x2), (4, .long x4), (6, .long x6)] → f_X1_doChange_116 S o0 x1 x2 x4 x6 xs0 D = some (r, D') → W p l e R s m args below meth c H locs 0 0 (MQ below (Qn (some (.int r)) True (wpost G cA S D' ad A) A) args s 0 0 A) (F0 m 116 ls [.long xs0]) := by
  obtain ⟨hx, hb, -⟩ := id hC
  intro o0 a0 x1 x2 x4 x6 xs0 D H locs ls hi0 hw hl h
  unfold f_X1_doChange_116 at h
  refine lv_lstore (lv' := [(8, .long xs0), (0, .ref a0), (1, .int x1), (2, .int x2), (4, .long x4), (6, .long x6)]) hx hb dX1_doChange_116 hl (by decide) rfl (fun ls hl => ?_)
  refine lv_aload_n hx hb dX1_doChange_118 rfl (lv_at hl 1 rfl) ?_
  obtain ⟨o157, ho160, h⟩ := rq_i h
  refine r_getR hC hw kc_1 hi0 1 rfl lk_220 dX1_doChange_119 rfl ho160 (fun a158 hi159 => ?_)
  refine lv_lload hx hb dX1_doChange_122 (lv_at hl 4 rfl) ?_
  refine lv_lload hx hb dX1_doChange_124 (lv_at hl 0 rfl) ?_
  refine W.lcmp hx hb dX1_doChange_126 ?_
  refine lv_if_ne (tgt := 135) hx hb dX1_doChange_127 (by decide) (fun c161 => ?_) (fun c161 => ?_)
  · have h := i_no c161 h
    refine lv_lload hx hb dX1_doChange_135 (lv_at hl 4 rfl) ?_
    exact w_X1_doChange_137 hC hR o0 a0 x1 x2 x4 o157 a158 x4 _ _ _ _ hi0 hi159 hw (lv_sub hl [1, 2, 3, 4] rfl) h
  · have h := i_yes c161 h
    refine lv_lload hx hb dX1_doChange_130 (lv_at hl 5 rfl) ?_
    refine lv_goto (tgt := 137) hx hb dX1_doChange_132 (by decide) ?_
    exact w_X1_doChange_137 hC hR o0 a0 x1 x2 x4 o157 a158 x6 _ _ _ _ hi0 hi159 hw (lv_sub hl [1, 2, 3, 4] rfl) h
set_option maxHeartbeats 4000000 in
set_option maxRecDepth 100000 in
theorem w_X1_doChange_0 {r : Int32} {D' : dt} (hC : Cx RX1 cX1_doChange 10 (some .int) p s m args meth c) (hR : 3 ≤ R.frames ∧ 75 ≤ R.locals) : ∀ (o0 a0 : Nat) (x1 : Int32) (D : dt) (H : Heap) (locs : List Loc) (ls : Array Slot), Is S ad o0 a0 1 → Wd G cA S D ad A s H locs → lv_has ls 10 [(0, .ref a0), (1, .int x1)] → f_X1_doChange S o0 x1 D = some (r, D') → W p l e R s m args below meth c H locs 0 0 (MQ below (Qn (some (.int r)) True (wpost G cA S D' ad A) A) args s 0 0 A) (F0 m 0 ls []) := by
  obtain ⟨hx, hb, -⟩ := id hC
  intro o0 a0 x1 D H locs ls hi0 hw hl h
  unfold f_X1_doChange at h
  refine lv_aload_n hx hb dX1_doChange_0 rfl (lv_at hl 0 rfl) ?_
  obtain ⟨o162, ho165, h⟩ := rq_i h
  refine r_getR hC hw kc_1 hi0 0 rfl lk_219 dX1_doChange_1 rfl ho165 (fun a163 hi164 => ?_)
  refine lv_iload_n hx hb dX1_doChange_4 rfl (lv_at hl 1 rfl) ?_
  obtain ⟨r167, hq166, h⟩ := pq_i h
  refine r_cV (st' := [.int r167]) [.int x1] [] hC hw kc_3 hi164 (k_X4_width _ hi164 hq166) mk_X4_width lk_926 ⟨Nat.le_trans (by decide) hR.1, Nat.le_trans (by decide) hR.2⟩ ⟨Nat.zero_le _, Nat.zero_le _⟩ rfl hl.1 rfl rfl (Nat.le_of_ble_eq_true rfl) dX1_doChange_5 (fun hP H locs hw => ?_)
  refine lv_istore_n (lv' := [(2, .int r167), (0, .ref a0), (1, .int x1)]) hx hb dX1_doChange_8 rfl hl (by decide) rfl (fun ls hl => ?_)
  refine lv_aload_n hx hb dX1_doChange_9 rfl (lv_at hl 1 rfl) ?_
  obtain ⟨o168, ho171, h⟩ := rq_i h
  refine r_getR hC hw kc_1 hi0 0 rfl lk_219 dX1_doChange_10 rfl ho171 (fun a169 hi170 => ?_)
  obtain ⟨o172, ho175, h⟩ := rq_i h
  refine r_getR hC hw kc_3 hi170 4 rfl lk_154 dX1_doChange_13 rfl ho175 (fun a173 hi174 => ?_)
  refine lv_iload_n hx hb dX1_doChange_16 rfl (lv_at hl 2 rfl) ?_
  obtain ⟨hn176, h⟩ := ix_i h
  refine r_iald hC hw hi174 hn176 dX1_doChange_17 ?_
  refine lv_topi (fun y177 ey177 => ?_)
  have h := nm_i h y177 ey177
  refine lv_istore_n (lv' := [(3, .int y177), (2, .int r167), (0, .ref a0), (1, .int x1)]) hx hb dX1_doChange_18 rfl hl (by decide) rfl (fun ls hl => ?_)
  refine lv_aload_n hx hb dX1_doChange_19 rfl (lv_at hl 2 rfl) ?_
  obtain ⟨o178, ho181, h⟩ := rq_i h
  refine r_getR hC hw kc_1 hi0 1 rfl lk_220 dX1_doChange_20 rfl ho181 (fun a179 hi180 => ?_)
  refine lv_aload_n hx hb dX1_doChange_23 rfl (lv_at hl 2 rfl) ?_
  obtain ⟨o182, ho185, h⟩ := rq_i h
  refine r_getR hC hw kc_1 hi0 2 rfl lk_221 dX1_doChange_24 rfl ho185 (fun a183 hi184 => ?_)
  refine lv_aload_n hx hb dX1_doChange_27 rfl (lv_at hl 2 rfl) ?_
  obtain ⟨o186, ho189, h⟩ := rq_i h
  refine r_getR hC hw kc_1 hi0 0 rfl lk_219 dX1_doChange_28 rfl ho189 (fun a187 hi188 => ?_)
  obtain ⟨o190, ho193, h⟩ := rq_i h
  refine r_getR hC hw kc_3 hi188 1 rfl lk_145 dX1_doChange_31 rfl ho193 (fun a191 hi192 => ?_)
  refine lv_iload_n hx hb dX1_doChange_34 rfl (lv_at hl 3 rfl) ?_
  obtain ⟨hn194, h⟩ := ix_i h
  refine r_iald hC hw hi192 hn194 dX1_doChange_35 ?_
  obtain ⟨hn195, h⟩ := ix_i h
  refine r_lald hC hw hi184 hn195 dX1_doChange_36 ?_
  refine lv_aload_n hx hb dX1_doChange_37 rfl (lv_at hl 2 rfl) ?_
  obtain ⟨o196, ho199, h⟩ := rq_i h
  refine r_getR hC hw kc_1 hi0 0 rfl lk_219 dX1_doChange_38 rfl ho199 (fun a197 hi198 => ?_)
  obtain ⟨o200, ho203, h⟩ := rq_i h
  refine r_getR hC hw kc_3 hi198 3 rfl lk_151 dX1_doChange_41 rfl ho203 (fun a201 hi202 => ?_)
  refine lv_iload_n hx hb dX1_doChange_44 rfl (lv_at hl 3 rfl) ?_
  obtain ⟨hn204, h⟩ := ix_i h
  refine r_iald hC hw hi202 hn204 dX1_doChange_45 ?_
  refine lv_i2l (v := (gI D o200 x1.toNatClampNeg).toInt64) hx hb dX1_doChange_46 rfl ?_
  refine lv_ladd hx hb dX1_doChange_47 ?_
  refine lv_iload_n hx hb dX1_doChange_48 rfl (lv_at hl 1 rfl) ?_
  refine lv_iconst (v := 1) hx hb dX1_doChange_49 (by decide) ?_
  obtain ⟨r206, D207, hq205, h⟩ := cq_i h
  refine r_cV (st' := [.int r206]) [.long ((gL D o182 (gI D o190 x1.toNatClampNeg).toNatClampNeg) + ((gI D o200 x1.toNatClampNeg).toInt64)), .int r167, .int (1 : Int32)] [] hC hw kc_2 hi180 (k_X2_find _ hi180 hq205) mk_X2_find lk_927 ⟨Nat.le_trans (by decide) hR.1, Nat.le_trans (by decide) hR.2⟩ ⟨Nat.zero_le _, Nat.zero_le _⟩ rfl hl.1 rfl rfl (Nat.le_of_ble_eq_true rfl) dX1_doChange_50 (fun hP H locs hw => ?_)
  refine lv_if_ne (tgt := 58) hx hb dX1_doChange_53 (by decide) (fun c208 => ?_) (fun c208 => ?_)
  · have h := i_no c208 h
    refine lv_aload_n hx hb dX1_doChange_58 rfl (lv_at hl 2 rfl) ?_
    obtain ⟨o209, ho212, h⟩ := rq_i h
    refine r_getR hC hw kc_1 hi0 1 rfl lk_220 dX1_doChange_59 rfl ho212 (fun a210 hi211 => ?_)
    refine lv_iload_n hx hb dX1_doChange_62 rfl (lv_at hl 1 rfl) ?_
    obtain ⟨r214, hq213, h⟩ := pq_i h
    refine r_cV (st' := [.long r214]) [.int r167] [] hC hw kc_2 hi211 (k_X2_foundNumber _ hi211 hq213) mk_X2_foundNumber lk_943 ⟨Nat.le_trans (by decide) hR.1, Nat.le_trans (by decide) hR.2⟩ ⟨Nat.zero_le _, Nat.zero_le _⟩ rfl hl.1 rfl rfl (Nat.le_of_ble_eq_true rfl) dX1_doChange_63 (fun hP H locs hw => ?_)
    refine lv_lstore (lv' := [(4, .long r214), (3, .int y177), (2, .int r167), (0, .ref a0), (1, .int x1)]) hx hb dX1_doChange_66 hl (by decide) rfl (fun ls hl => ?_)
    refine lv_aload_n hx hb dX1_doChange_68 rfl (lv_at hl 3 rfl) ?_
    obtain ⟨o215, ho218, h⟩ := rq_i h
    refine r_getR hC hw kc_1 hi0 2 rfl lk_221 dX1_doChange_69 rfl ho218 (fun a216 hi217 => ?_)
    refine lv_aload_n hx hb dX1_doChange_72 rfl (lv_at hl 3 rfl) ?_
    obtain ⟨o219, ho222, h⟩ := rq_i h
    refine r_getR hC hw kc_1 hi0 0 rfl lk_219 dX1_doChange_73 rfl ho222 (fun a220 hi221 => ?_)
    obtain ⟨o223, ho226, h⟩ := rq_i h
    refine r_getR hC hw kc_3 hi221 2 rfl lk_148 dX1_doChange_76 rfl ho226 (fun a224 hi225 => ?_)
    refine lv_iload_n hx hb dX1_doChange_79 rfl (lv_at hl 4 rfl) ?_
    obtain ⟨hn227, h⟩ := ix_i h
    refine r_iald hC hw hi225 hn227 dX1_doChange_80 ?_
    obtain ⟨hn228, h⟩ := ix_i h
    refine r_lald hC hw hi217 hn228 dX1_doChange_81 ?_
    refine lv_topl (fun y229 ey229 => ?_)
    have h := nm_i h y229 ey229
    refine lv_lstore (lv' := [(6, .long y229), (4, .long r214), (3, .int y177), (2, .int r167), (0, .ref a0), (1, .int x1)]) hx hb dX1_doChange_82 hl (by decide) rfl (fun ls hl => ?_)
    refine lv_iload_n hx hb dX1_doChange_84 rfl (lv_at hl 2 rfl) ?_
    refine lv_sipush (v := 241) hx hb dX1_doChange_85 (by decide) ?_
    refine lv_icmp_ne (tgt := 157) hx hb dX1_doChange_88 (by decide) (fun c230 => ?_) (fun c230 => ?_)
    · have h := i_no c230 h
      refine lv_aload_n hx hb dX1_doChange_157 rfl (lv_at hl 4 rfl) ?_
      obtain ⟨o231, ho234, h⟩ := rq_i h
      refine r_getR hC hw kc_1 hi0 1 rfl lk_220 dX1_doChange_158 rfl ho234 (fun a232 hi233 => ?_)
      refine lv_iload_n hx hb dX1_doChange_161 rfl (lv_at hl 2 rfl) ?_
      refine lv_sipush (v := 225) hx hb dX1_doChange_162 (by decide) ?_
      refine lv_icmp_ne (tgt := 173) hx hb dX1_doChange_165 (by decide) (fun c235 => ?_) (fun c235 => ?_)
      · have h := i_no c235 h
        refine lv_iload_n hx hb dX1_doChange_173 rfl (lv_at hl 2 rfl) ?_
        refine lv_iconst (v := 4) hx hb dX1_doChange_174 (by decide) ?_
        refine lv_ishr hx hb dX1_doChange_175 ?_
        refine lv_iconst (v := 1) hx hb dX1_doChange_176 (by decide) ?_
        refine lv_iconst (v := 0) hx hb dX1_doChange_177 (by decide) ?_
        refine lv_lload hx hb dX1_doChange_178 (lv_at hl 1 rfl) ?_
        refine lv_lload hx hb dX1_doChange_180 (lv_at hl 0 rfl) ?_
        obtain ⟨r237, hq236, h⟩ := pq_i h
        refine r_cS (st' := [.long r237, .ref a232]) [.int (y177 >>> ((4 : Int32) &&& 31)), .int (1 : Int32), .int (0 : Int32), .long r214, .long y229] [.ref a232] hC hw (k_X3_make _ hq236) mk_X3_make lk_962 ⟨Nat.le_trans (by decide) hR.1, Nat.le_trans (by decide) hR.2⟩ ⟨Nat.zero_le _, Nat.zero_le _⟩ rfl hl.1 rfl rfl (Nat.le_of_ble_eq_true rfl) dX1_doChange_182 (fun hP H locs hw => ?_)
        exact w_X1_doChange_185 hC hR o0 a0 x1 r167 y177 r214 o231 a232 r237 _ _ _ _ hi0 hi233 hw (lv_sub hl [4, 5, 3, 2, 1] rfl) h
      · have h := i_yes c235 h
        refine lv_lload hx hb dX1_doChange_168 (lv_at hl 0 rfl) ?_
        refine lv_goto (tgt := 185) hx hb dX1_doChange_170 (by decide) ?_
        exact w_X1_doChange_185 hC hR o0 a0 x1 r167 y177 r214 o231 a232 y229 _ _ _ _ hi0 hi233 hw (lv_sub hl [4, 5, 3, 2, 1] rfl) h
    · have h := i_yes c230 h
      refine lv_iload_n hx hb dX1_doChange_91 rfl (lv_at hl 3 rfl) ?_
      refine lv_bipush (v := 8) hx hb dX1_doChange_92 (by decide) ?_
      refine lv_icmp_ne (tgt := 106) hx hb dX1_doChange_94 (by decide) (fun c238 => ?_) (fun c238 => ?_)
      · have h := i_no c238 h
        refine lv_aload_n hx hb dX1_doChange_106 rfl (lv_at hl 4 rfl) ?_
        obtain ⟨o239, ho242, h⟩ := rq_i h
        refine r_getR hC hw kc_1 hi0 2 rfl lk_221 dX1_doChange_107 rfl ho242 (fun a240 hi241 => ?_)
        refine lv_iconst (v := 0) hx hb dX1_doChange_110 (by decide) ?_
        obtain ⟨hn243, h⟩ := ix_i h
        refine r_lald hC hw hi241 hn243 dX1_doChange_111 ?_
        refine lv_ldc2 (v := 4294967295) hx hb hC.2.2.2.1 (hC.2.2.2.2.1 _ lk_916) dX1_doChange_112 ?_
        refine lv_land hx hb dX1_doChange_115 ?_
        exact w_X1_doChange_116 hC hR o0 a0 x1 r167 r214 y229 ((gL D207 o239 (0 : Int32).toNatClampNeg) &&& (4294967295 : Int64)) _ _ _ _ hi0 hw (lv_sub hl [4, 5, 3, 1, 0] rfl) h
      · have h := i_yes c238 h
        refine lv_aload_n hx hb dX1_doChange_97 rfl (lv_at hl 4 rfl) ?_
        obtain ⟨o244, ho247, h⟩ := rq_i h
        refine r_getR hC hw kc_1 hi0 2 rfl lk_221 dX1_doChange_98 rfl ho247 (fun a245 hi246 => ?_)
        refine lv_iconst (v := 0) hx hb dX1_doChange_101 (by decide) ?_
        obtain ⟨hn248, h⟩ := ix_i h
        refine r_lald hC hw hi246 hn248 dX1_doChange_102 ?_
        refine lv_goto (tgt := 116) hx hb dX1_doChange_103 (by decide) ?_
        exact w_X1_doChange_116 hC hR o0 a0 x1 r167 r214 y229 (gL D207 o244 (0 : Int32).toNatClampNeg) _ _ _ _ hi0 hw (lv_sub hl [4, 5, 3, 1, 0] rfl) h
  · have h := i_yes c208 h
    refine lv_iconst (v := 4) hx hb dX1_doChange_56 (by decide) ?_
    cases h
    exact r_iret hC hw dX1_doChange_57
set_option maxHeartbeats 4000000 in
set_option maxRecDepth 100000 in
theorem k_X1_doChange {l : Launch} {G : va_G} {cA : Nat → ClassId} {S : sh} {D D' : dt} {ad : Nat → Nat} (sz : Nat) {o0 a0 : Nat} {x1 : Int32} {r : Int32} (hi0 : Is S ad o0 a0 1) (h : f_X1_doChange S o0 x1 D = some (r, D')) : Co l yX1_doChange (Cond.code yX1_doChange cX1_doChange 10 (some .int) :: tb0) 3 75 [.ref a0, .int x1] G cA S D ad sz (some (.int r)) True D' := by
  refine Met.ofW (cc := cX1_doChange) (maxL := 10) (ret := (some .int)) (by decide) rfl ?_
  intro p e s m args below meth c s₁ B hml hv
  obtain ⟨rfl, hsz, hP, hK, hD0, hT, hX⟩ := hv
  subst hsz
  have hts := atoms_spec (ws := Cond.code yX1_doChange cX1_doChange 10 (some .int) :: tb0) B.pre
  have hC : Cx RX1 cX1_doChange 10 (some .int) p s m _ meth c := ⟨B.exec, B.bytes, hml, findClass_of_methodNamed B.named, fun w q => hts w (List.mem_cons_of_mem _ q), B.returns, B.notSynchronized⟩
  have hw := Wd.entry hP hK hD0 hT hX
  have hl := lv_entry ([.ref a0, .int x1]) (n := 10) (Nat.le_of_ble_eq_true rfl)
  rw [lg_entry_eq]
  exact w_X1_doChange_0 hC ⟨Nat.le_refl _, Nat.le_refl _⟩ o0 a0 x1 D _ _ _ hi0 hw hl h
set_option maxHeartbeats 4000000 in
set_option maxRecDepth 100000 in
theorem w_X1_x_0 {r : Int64} (hC : Cx RX1 cX1_x 2 (some .long) p s m args meth c) (hR : 1 ≤ R.frames ∧ 21 ≤ R.locals) : ∀ (o0 a0 : Nat) (x1 : Int32) (H : Heap) (locs : List Loc) (ls : Array Slot), Is S ad o0 a0 1 → Wd G cA S D ad A s H locs → lv_has ls 2 [(0, .ref a0), (1, .int x1)] → f_X1_x S D o0 x1 = some r → W p l e R s m args below meth c H locs 0 0 (MQ below (Qn (some (.long r)) True (wpost G cA S D ad A) A) args s 0 0 A) (F0 m 0 ls []) := by
  obtain ⟨hx, hb, -⟩ := id hC
  intro o0 a0 x1 H locs ls hi0 hw hl h
  unfold f_X1_x at h
  refine lv_aload_n hx hb dX1_x_0 rfl (lv_at hl 0 rfl) ?_
  obtain ⟨o31, ho34, h⟩ := rq_i h
  refine r_getR hC hw kc_1 hi0 0 rfl lk_219 dX1_x_1 rfl ho34 (fun a32 hi33 => ?_)
  refine lv_iload_n hx hb dX1_x_4 rfl (lv_at hl 1 rfl) ?_
  obtain ⟨r36, hq35, h⟩ := pq_i h
  refine r_cV (st' := [.int r36]) [.int x1] [] hC hw kc_3 hi33 (k_X4_byRegister _ hi33 hq35) mk_X4_byRegister lk_969 ⟨Nat.le_trans (by decide) hR.1, Nat.le_trans (by decide) hR.2⟩ ⟨Nat.zero_le _, Nat.zero_le _⟩ rfl hl.1 rfl rfl (Nat.le_of_ble_eq_true rfl) dX1_x_5 (fun hP H locs hw => ?_)
  refine lv_if_eq (tgt := 28) hx hb dX1_x_8 (by decide) (fun c37 => ?_) (fun c37 => ?_)
  · have h := i_yes c37 h
    refine lv_aload_n hx hb dX1_x_28 rfl (lv_at hl 0 rfl) ?_
    obtain ⟨o38, ho41, h⟩ := rq_i h
    refine r_getR hC hw kc_1 hi0 0 rfl lk_219 dX1_x_29 rfl ho41 (fun a39 hi40 => ?_)
    obtain ⟨o42, ho45, h⟩ := rq_i h
    refine r_getR hC hw kc_3 hi40 4 rfl lk_154 dX1_x_32 rfl ho45 (fun a43 hi44 => ?_)
    refine lv_iload_n hx hb dX1_x_35 rfl (lv_at hl 1 rfl) ?_
    obtain ⟨hn46, h⟩ := ix_i h
    refine r_iald hC hw hi44 hn46 dX1_x_36 ?_
    refine lv_i2l (v := (gI D o42 x1.toNatClampNeg).toInt64) hx hb dX1_x_37 rfl ?_
    cases h
    exact r_lret hC hw dX1_x_38
  · have h := i_no c37 h
    refine lv_aload_n hx hb dX1_x_11 rfl (lv_at hl 0 rfl) ?_
    obtain ⟨o47, ho50, h⟩ := rq_i h
    refine r_getR hC hw kc_1 hi0 2 rfl lk_221 dX1_x_12 rfl ho50 (fun a48 hi49 => ?_)
    refine lv_aload_n hx hb dX1_x_15 rfl (lv_at hl 0 rfl) ?_
    obtain ⟨o51, ho54, h⟩ := rq_i h
    refine r_getR hC hw kc_1 hi0 0 rfl lk_219 dX1_x_16 rfl ho54 (fun a52 hi53 => ?_)
    obtain ⟨o55, ho58, h⟩ := rq_i h
    refine r_getR hC hw kc_3 hi53 2 rfl lk_148 dX1_x_19 rfl ho58 (fun a56 hi57 => ?_)
    refine lv_iload_n hx hb dX1_x_22 rfl (lv_at hl 1 rfl) ?_
    obtain ⟨hn59, h⟩ := ix_i h
    refine r_iald hC hw hi57 hn59 dX1_x_23 ?_
    obtain ⟨hn60, h⟩ := ix_i h
    refine r_lald hC hw hi49 hn60 dX1_x_24 ?_
    refine lv_goto (tgt := 38) hx hb dX1_x_25 (by decide) ?_
    cases h
    exact r_lret hC hw dX1_x_38
set_option maxHeartbeats 4000000 in
set_option maxRecDepth 100000 in
theorem k_X1_x {l : Launch} {G : va_G} {cA : Nat → ClassId} {S : sh} {D : dt} {ad : Nat → Nat} (sz : Nat) {o0 a0 : Nat} {x1 : Int32} {r : Int64} (hi0 : Is S ad o0 a0 1) (h : f_X1_x S D o0 x1 = some r) : Co l yX1_x (Cond.code yX1_x cX1_x 2 (some .long) :: tb0) 1 21 [.ref a0, .int x1] G cA S D ad sz (some (.long r)) True D := by
  refine Met.ofW (cc := cX1_x) (maxL := 2) (ret := (some .long)) (by decide) rfl ?_
  intro p e s m args below meth c s₁ B hml hv
  obtain ⟨rfl, hsz, hP, hK, hD0, hT, hX⟩ := hv
  subst hsz
  have hts := atoms_spec (ws := Cond.code yX1_x cX1_x 2 (some .long) :: tb0) B.pre
  have hC : Cx RX1 cX1_x 2 (some .long) p s m _ meth c := ⟨B.exec, B.bytes, hml, findClass_of_methodNamed B.named, fun w q => hts w (List.mem_cons_of_mem _ q), B.returns, B.notSynchronized⟩
  have hw := Wd.entry hP hK hD0 hT hX
  have hl := lv_entry ([.ref a0, .int x1]) (n := 2) (Nat.le_of_ble_eq_true rfl)
  rw [lg_entry_eq]
  exact w_X1_x_0 hC ⟨Nat.le_refl _, Nat.le_refl _⟩ o0 a0 x1 _ _ _ hi0 hw hl h
set_option maxHeartbeats 4000000 in
set_option maxRecDepth 100000 in
theorem w_X1_doArithmetic_121 {r : Int32} {D' : dt} (hC : Cx RX1 cX1_doArithmetic 5 (some .int) p s m args meth c) (hR : 2 ≤ R.frames ∧ 63 ≤ R.locals) : ∀ (o0 a0 : Nat) (x1 : Int32) (D : dt) (H : Heap) (locs : List Loc) (ls : Array Slot), Is S ad o0 a0 1 → Wd G cA S D ad A s H locs → lv_has ls 5 [(0, .ref a0), (1, .int x1)] → f_X1_doArithmetic_121 S o0 x1 D = some (r, D') → W p l e R s m args below meth c H locs 0 0 (MQ below (Qn (some (.int r)) True (wpost G cA S D' ad A) A) args s 0 0 A) (F0 m 121 ls []) := by
  obtain ⟨hx, hb, -⟩ := id hC
  intro o0 a0 x1 D H locs ls hi0 hw hl h
  unfold f_X1_doArithmetic_121 at h
  refine lv_aload_n hx hb dX1_doArithmetic_121 rfl (lv_at hl 0 rfl) ?_
  refine lv_iload_n hx hb dX1_doArithmetic_122 rfl (lv_at hl 1 rfl) ?_
  refine lv_iconst (v := 1) hx hb dX1_doArithmetic_123 (by decide) ?_
  refine lv_iadd hx hb dX1_doArithmetic_124 ?_
  obtain ⟨r88, D89, hq87, h⟩ := cq_i h
  refine r_cV (st' := [.int r88]) [.int (x1 + (1 : Int32))] [] hC hw kc_1 hi0 (k_X1_goTo _ hi0 hq87) mk_X1_goTo lk_918 ⟨Nat.le_trans (by decide) hR.1, Nat.le_trans (by decide) hR.2⟩ ⟨Nat.zero_le _, Nat.zero_le _⟩ rfl hl.1 rfl rfl (Nat.le_of_ble_eq_true rfl) dX1_doArithmetic_125 (fun hP H locs hw => ?_)
  cases h
  exact r_iret hC hw dX1_doArithmetic_128
set_option maxHeartbeats 4000000 in
set_option maxRecDepth 100000 in
theorem w_X1_doArithmetic_52 {r : Int32} {D' : dt} (hC : Cx RX1 cX1_doArithmetic 5 (some .int) p s m args meth c) (hR : 2 ≤ R.frames ∧ 63 ≤ R.locals) : ∀ (o0 a0 : Nat) (x1 : Int32) (x3 : Int32) (xs0 : Int32) (D : dt) (H : Heap) (locs : List Loc) (ls : Array Slot), Is S ad o0 a0 1 → Wd G cA S D ad A s H locs → lv_has ls 5 [(0, .ref a0), (1, .int x1), (3, .int x3)] → f_X1_doArithmetic_52 S o0 x1 x3 xs0 D = some (r, D') → W p l e R s m args below meth c H locs 0 0 (MQ below (Qn (some (.int r)) True (wpost G cA S D' ad A) A) args s 0 0 A) (F0 m 52 ls [.int xs0]) := by
  obtain ⟨hx, hb, -⟩ := id hC
  intro o0 a0 x1 x3 xs0 D H locs ls hi0 hw hl h
  unfold f_X1_doArithmetic_52 at h
  refine lv_istore (lv' := [(4, .int xs0), (0, .ref a0), (1, .int x1), (3, .int x3)]) hx hb dX1_doArithmetic_52 hl (by decide) rfl (fun ls hl => ?_)
  refine lv_aload_n hx hb dX1_doArithmetic_54 rfl (lv_at hl 1 rfl) ?_
  obtain ⟨o90, ho93, h⟩ := rq_i h
  refine r_getR hC hw kc_1 hi0 2 rfl lk_221 dX1_doArithmetic_55 rfl ho93 (fun a91 hi92 => ?_)
  refine lv_iload_n hx hb dX1_doArithmetic_58 rfl (lv_at hl 3 rfl) ?_
  refine lv_aload_n hx hb dX1_doArithmetic_59 rfl (lv_at hl 1 rfl) ?_
  obtain ⟨o94, ho97, h⟩ := rq_i h
  refine r_getR hC hw kc_1 hi0 2 rfl lk_221 dX1_doArithmetic_60 rfl ho97 (fun a95 hi96 => ?_)
  refine lv_iload_n hx hb dX1_doArithmetic_63 rfl (lv_at hl 3 rfl) ?_
  obtain ⟨hn98, h⟩ := ix_i h
  refine r_lald hC hw hi96 hn98 dX1_doArithmetic_64 ?_
  refine lv_aload_n hx hb dX1_doArithmetic_65 rfl (lv_at hl 1 rfl) ?_
  obtain ⟨o99, ho102, h⟩ := rq_i h
  refine r_getR hC hw kc_1 hi0 0 rfl lk_219 dX1_doArithmetic_66 rfl ho102 (fun a100 hi101 => ?_)
  obtain ⟨o103, ho106, h⟩ := rq_i h
  refine r_getR hC hw kc_3 hi101 4 rfl lk_154 dX1_doArithmetic_69 rfl ho106 (fun a104 hi105 => ?_)
  refine lv_iload_n hx hb dX1_doArithmetic_72 rfl (lv_at hl 2 rfl) ?_
  obtain ⟨hn107, h⟩ := ix_i h
  refine r_iald hC hw hi105 hn107 dX1_doArithmetic_73 ?_
  refine lv_iload hx hb dX1_doArithmetic_74 (lv_at hl 0 rfl) ?_
  obtain ⟨r109, hq108, h⟩ := pq_i h
  refine r_cS (st' := [.long r109, .int x3, .ref a91]) [.long (gL D o94 x3.toNatClampNeg), .int (gI D o103 x1.toNatClampNeg), .int xs0] [.int x3, .ref a91] hC hw (k_X3_turn _ hq108) mk_X3_turn lk_970 ⟨Nat.le_trans (by decide) hR.1, Nat.le_trans (by decide) hR.2⟩ ⟨Nat.zero_le _, Nat.zero_le _⟩ rfl hl.1 rfl rfl (Nat.le_of_ble_eq_true rfl) dX1_doArithmetic_76 (fun hP H locs hw => ?_)
  obtain ⟨hn110, h⟩ := ix_i h
  refine r_las hC hw hi92 hn110 dX1_doArithmetic_79 (fun D111 eD111 H locs hw => ?_)
  have h := nm_i h D111 eD111
  refine lv_goto (tgt := 121) hx hb dX1_doArithmetic_80 (by decide) ?_
  exact w_X1_doArithmetic_121 hC hR o0 a0 x1 _ _ _ _ hi0 hw (lv_sub hl [1, 2] rfl) h
set_option maxHeartbeats 4000000 in
set_option maxRecDepth 100000 in
theorem w_X1_doArithmetic_47 {r : Int32} {D' : dt} (hC : Cx RX1 cX1_doArithmetic 5 (some .int) p s m args meth c) (hR : 2 ≤ R.frames ∧ 63 ≤ R.locals) : ∀ (o0 a0 : Nat) (x1 : Int32) (x3 : Int32) (D : dt) (H : Heap) (locs : List Loc) (ls : Array Slot), Is S ad o0 a0 1 → Wd G cA S D ad A s H locs → lv_has ls 5 [(0, .ref a0), (1, .int x1), (3, .int x3)] → f_X1_doArithmetic_47 S o0 x1 x3 D = some (r, D') → W p l e R s m args below meth c H locs 0 0 (MQ below (Qn (some (.int r)) True (wpost G cA S D' ad A) A) args s 0 0 A) (F0 m 47 ls []) := by
  obtain ⟨hx, hb, -⟩ := id hC
  intro o0 a0 x1 x3 D H locs ls hi0 hw hl h
  unfold f_X1_doArithmetic_47 at h
  refine lv_iconst (v := 1) hx hb dX1_doArithmetic_47 (by decide) ?_
  refine lv_goto (tgt := 52) hx hb dX1_doArithmetic_48 (by decide) ?_
  exact w_X1_doArithmetic_52 hC hR o0 a0 x1 x3 (1 : Int32) _ _ _ _ hi0 hw (lv_sub hl [0, 1, 2] rfl) h
set_option maxHeartbeats 4000000 in
set_option maxRecDepth 100000 in
theorem w_X1_doArithmetic_0 {r : Int32} {D' : dt} (hC : Cx RX1 cX1_doArithmetic 5 (some .int) p s m args meth c) (hR : 2 ≤ R.frames ∧ 63 ≤ R.locals) : ∀ (o0 a0 : Nat) (x1 : Int32) (D : dt) (H : Heap) (locs : List Loc) (ls : Array Slot), Is S ad o0 a0 1 → Wd G cA S D ad A s H locs → lv_has ls 5 [(0, .ref a0), (1, .int x1)] → f_X1_doArithmetic S o0 x1 D = some (r, D') → W p l e R s m args below meth c H locs 0 0 (MQ below (Qn (some (.int r)) True (wpost G cA S D' ad A) A) args s 0 0 A) (F0 m 0 ls []) := by
  obtain ⟨hx, hb, -⟩ := id hC
  intro o0 a0 x1 D H locs ls hi0 hw hl h
  unfold f_X1_doArithmetic at h
  refine lv_aload_n hx hb dX1_doArithmetic_0 rfl (lv_at hl 0 rfl) ?_
  obtain ⟨o112, ho115, h⟩ := rq_i h
  refine r_getR hC hw kc_1 hi0 0 rfl lk_219 dX1_doArithmetic_1 rfl ho115 (fun a113 hi114 => ?_)
  refine lv_iload_n hx hb dX1_doArithmetic_4 rfl (lv_at hl 1 rfl) ?_
  obtain ⟨r117, hq116, h⟩ := pq_i h
  refine r_cV (st' := [.int r117]) [.int x1] [] hC hw kc_3 hi114 (k_X4_code _ hi114 hq116) mk_X4_code lk_967 ⟨Nat.le_trans (by decide) hR.1, Nat.le_trans (by decide) hR.2⟩ ⟨Nat.zero_le _, Nat.zero_le _⟩ rfl hl.1 rfl rfl (Nat.le_of_ble_eq_true rfl) dX1_doArithmetic_5 (fun hP H locs hw => ?_)
  refine lv_istore_n (lv' := [(2, .int r117), (0, .ref a0), (1, .int x1)]) hx hb dX1_doArithmetic_8 rfl hl (by decide) rfl (fun ls hl => ?_)
  refine lv_aload_n hx hb dX1_doArithmetic_9 rfl (lv_at hl 1 rfl) ?_
  obtain ⟨o118, ho121, h⟩ := rq_i h
  refine r_getR hC hw kc_1 hi0 0 rfl lk_219 dX1_doArithmetic_10 rfl ho121 (fun a119 hi120 => ?_)
  obtain ⟨o122, ho125, h⟩ := rq_i h
  refine r_getR hC hw kc_3 hi120 1 rfl lk_145 dX1_doArithmetic_13 rfl ho125 (fun a123 hi124 => ?_)
  refine lv_iload_n hx hb dX1_doArithmetic_16 rfl (lv_at hl 2 rfl) ?_
  obtain ⟨hn126, h⟩ := ix_i h
  refine r_iald hC hw hi124 hn126 dX1_doArithmetic_17 ?_
  refine lv_topi (fun y127 ey127 => ?_)
  have h := nm_i h y127 ey127
  refine lv_istore_n (lv' := [(3, .int y127), (2, .int r117), (0, .ref a0), (1, .int x1)]) hx hb dX1_doArithmetic_18 rfl hl (by decide) rfl (fun ls hl => ?_)
  refine lv_iload_n hx hb dX1_doArithmetic_19 rfl (lv_at hl 1 rfl) ?_
  refine lv_bipush (v := 13) hx hb dX1_doArithmetic_20 (by decide) ?_
  refine lv_icmp_ne (tgt := 83) hx hb dX1_doArithmetic_22 (by decide) (fun c128 => ?_) (fun c128 => ?_)
  · have h := i_no c128 h
    refine lv_aload_n hx hb dX1_doArithmetic_83 rfl (lv_at hl 2 rfl) ?_
    obtain ⟨o129, ho132, h⟩ := rq_i h
    refine r_getR hC hw kc_1 hi0 2 rfl lk_221 dX1_doArithmetic_84 rfl ho132 (fun a130 hi131 => ?_)
    refine lv_iload_n hx hb dX1_doArithmetic_87 rfl (lv_at hl 0 rfl) ?_
    refine lv_iload_n hx hb dX1_doArithmetic_88 rfl (lv_at hl 1 rfl) ?_
    refine lv_aload_n hx hb dX1_doArithmetic_89 rfl (lv_at hl 2 rfl) ?_
    obtain ⟨o133, ho136, h⟩ := rq_i h
    refine r_getR hC hw kc_1 hi0 0 rfl lk_219 dX1_doArithmetic_90 rfl ho136 (fun a134 hi135 => ?_)
    refine lv_iload_n hx hb dX1_doArithmetic_93 rfl (lv_at hl 3 rfl) ?_
    obtain ⟨r138, hq137, h⟩ := pq_i h
    refine r_cV (st' := [.int r138, .int r117, .int y127, .ref a130]) [.int x1] [.int r117, .int y127, .ref a130] hC hw kc_3 hi135 (k_X4_isWide _ hi135 hq137) mk_X4_isWide lk_968 ⟨Nat.le_trans (by decide) hR.1, Nat.le_trans (by decide) hR.2⟩ ⟨Nat.zero_le _, Nat.zero_le _⟩ rfl hl.1 rfl rfl (Nat.le_of_ble_eq_true rfl) dX1_doArithmetic_94 (fun hP H locs hw => ?_)
    refine lv_aload_n hx hb dX1_doArithmetic_97 rfl (lv_at hl 2 rfl) ?_
    obtain ⟨o139, ho142, h⟩ := rq_i h
    refine r_getR hC hw kc_1 hi0 0 rfl lk_219 dX1_doArithmetic_98 rfl ho142 (fun a140 hi141 => ?_)
    obtain ⟨o143, ho146, h⟩ := rq_i h
    refine r_getR hC hw kc_3 hi141 3 rfl lk_151 dX1_doArithmetic_101 rfl ho146 (fun a144 hi145 => ?_)
    refine lv_iload_n hx hb dX1_doArithmetic_104 rfl (lv_at hl 3 rfl) ?_
    obtain ⟨hn147, h⟩ := ix_i h
    refine r_iald hC hw hi145 hn147 dX1_doArithmetic_105 ?_
    refine lv_aload_n hx hb dX1_doArithmetic_106 rfl (lv_at hl 2 rfl) ?_
    obtain ⟨o148, ho151, h⟩ := rq_i h
    refine r_getR hC hw kc_1 hi0 2 rfl lk_221 dX1_doArithmetic_107 rfl ho151 (fun a149 hi150 => ?_)
    refine lv_iload_n hx hb dX1_doArithmetic_110 rfl (lv_at hl 0 rfl) ?_
    obtain ⟨hn152, h⟩ := ix_i h
    refine r_lald hC hw hi150 hn152 dX1_doArithmetic_111 ?_
    refine lv_aload_n hx hb dX1_doArithmetic_112 rfl (lv_at hl 2 rfl) ?_
    refine lv_iload_n hx hb dX1_doArithmetic_113 rfl (lv_at hl 3 rfl) ?_
    obtain ⟨r154, hq153, h⟩ := pq_i h
    refine r_cV (st' := [.long r154, .long (gL D o148 y127.toNatClampNeg), .int (gI D o143 x1.toNatClampNeg), .int r138, .int r117, .int y127, .ref a130]) [.int x1] [.long (gL D o148 y127.toNatClampNeg), .int (gI D o143 x1.toNatClampNeg), .int r138, .int r117, .int y127, .ref a130] hC hw kc_1 hi0 (k_X1_x _ hi0 hq153) mk_X1_x lk_971 ⟨Nat.le_trans (by decide) hR.1, Nat.le_trans (by decide) hR.2⟩ ⟨Nat.zero_le _, Nat.zero_le _⟩ rfl hl.1 rfl rfl (Nat.le_of_ble_eq_true rfl) dX1_doArithmetic_114 (fun hP H locs hw => ?_)
    obtain ⟨r156, hq155, h⟩ := pq_i h
    refine r_cS (st' := [.long r156, .int y127, .ref a130]) [.int r117, .int r138, .int (gI D o143 x1.toNatClampNeg), .long (gL D o148 y127.toNatClampNeg), .long r154] [.int y127, .ref a130] hC hw (k_X3_make _ hq155) mk_X3_make lk_962 ⟨Nat.le_trans (by decide) hR.1, Nat.le_trans (by decide) hR.2⟩ ⟨Nat.zero_le _, Nat.zero_le _⟩ rfl hl.1 rfl rfl (Nat.le_of_ble_eq_true rfl) dX1_doArithmetic_117 (fun hP H locs hw => ?_)
    obtain ⟨hn157, h⟩ := ix_i h
    refine r_las hC hw hi131 hn157 dX1_doArithmetic_120 (fun D158 eD158 H locs hw => ?_)
    have h := nm_i h D158 eD158
    exact w_X1_doArithmetic_121 hC hR o0 a0 x1 _ _ _ _ hi0 hw (lv_sub hl [2, 3] rfl) h
  · have h := i_yes c128 h
    refine lv_aload_n hx hb dX1_doArithmetic_25 rfl (lv_at hl 2 rfl) ?_
    obtain ⟨o159, ho162, h⟩ := rq_i h
    refine r_getR hC hw kc_1 hi0 0 rfl lk_219 dX1_doArithmetic_26 rfl ho162 (fun a160 hi161 => ?_)
    refine lv_iload_n hx hb dX1_doArithmetic_29 rfl (lv_at hl 3 rfl) ?_
    obtain ⟨r164, hq163, h⟩ := pq_i h
    refine r_cV (st' := [.int r164]) [.int x1] [] hC hw kc_3 hi161 (k_X4_isWide _ hi161 hq163) mk_X4_isWide lk_968 ⟨Nat.le_trans (by decide) hR.1, Nat.le_trans (by decide) hR.2⟩ ⟨Nat.zero_le _, Nat.zero_le _⟩ rfl hl.1 rfl rfl (Nat.le_of_ble_eq_true rfl) dX1_doArithmetic_30 (fun hP H locs hw => ?_)
    refine lv_if_ne (tgt := 47) hx hb dX1_doArithmetic_33 (by decide) (fun c165 => ?_) (fun c165 => ?_)
    · have h := i_no c165 h
      exact w_X1_doArithmetic_47 hC hR o0 a0 x1 y127 _ _ _ _ hi0 hw (lv_sub hl [2, 3, 0] rfl) h
    · have h := i_yes c165 h
      refine lv_aload_n hx hb dX1_doArithmetic_36 rfl (lv_at hl 2 rfl) ?_
      obtain ⟨o166, ho169, h⟩ := rq_i h
      refine r_getR hC hw kc_1 hi0 0 rfl lk_219 dX1_doArithmetic_37 rfl ho169 (fun a167 hi168 => ?_)
      refine lv_iload_n hx hb dX1_doArithmetic_40 rfl (lv_at hl 3 rfl) ?_
      obtain ⟨r171, hq170, h⟩ := pq_i h
      refine r_cV (st' := [.int r171]) [.int x1] [] hC hw kc_3 hi168 (k_X4_byRegister _ hi168 hq170) mk_X4_byRegister lk_969 ⟨Nat.le_trans (by decide) hR.1, Nat.le_trans (by decide) hR.2⟩ ⟨Nat.zero_le _, Nat.zero_le _⟩ rfl hl.1 rfl rfl (Nat.le_of_ble_eq_true rfl) dX1_doArithmetic_41 (fun hP H locs hw => ?_)
      refine lv_if_eq (tgt := 51) hx hb dX1_doArithmetic_44 (by decide) (fun c172 => ?_) (fun c172 => ?_)
      · have h := i_yes c172 h
        refine lv_iconst (v := 0) hx hb dX1_doArithmetic_51 (by decide) ?_
        exact w_X1_doArithmetic_52 hC hR o0 a0 x1 y127 (0 : Int32) _ _ _ _ hi0 hw (lv_sub hl [2, 3, 0] rfl) h
      · have h := i_no c172 h
        exact w_X1_doArithmetic_47 hC hR o0 a0 x1 y127 _ _ _ _ hi0 hw (lv_sub hl [2, 3, 0] rfl) h
set_option maxHeartbeats 4000000 in
set_option maxRecDepth 100000 in
theorem k_X1_doArithmetic {l : Launch} {G : va_G} {cA : Nat → ClassId} {S : sh} {D D' : dt} {ad : Nat → Nat} (sz : Nat) {o0 a0 : Nat} {x1 : Int32} {r : Int32} (hi0 : Is S ad o0 a0 1) (h : f_X1_doArithmetic S o0 x1 D = some (r, D')) : Co l yX1_doArithmetic (Cond.code yX1_doArithmetic cX1_doArithmetic 5 (some .int) :: tb0) 2 63 [.ref a0, .int x1] G cA S D ad sz (some (.int r)) True D' := by
  refine Met.ofW (cc := cX1_doArithmetic) (maxL := 5) (ret := (some .int)) (by decide) rfl ?_
  intro p e s m args below meth c s₁ B hml hv
  obtain ⟨rfl, hsz, hP, hK, hD0, hT, hX⟩ := hv
  subst hsz
  have hts := atoms_spec (ws := Cond.code yX1_doArithmetic cX1_doArithmetic 5 (some .int) :: tb0) B.pre
  have hC : Cx RX1 cX1_doArithmetic 5 (some .int) p s m _ meth c := ⟨B.exec, B.bytes, hml, findClass_of_methodNamed B.named, fun w q => hts w (List.mem_cons_of_mem _ q), B.returns, B.notSynchronized⟩
  have hw := Wd.entry hP hK hD0 hT hX
  have hl := lv_entry ([.ref a0, .int x1]) (n := 5) (Nat.le_of_ble_eq_true rfl)
  rw [lg_entry_eq]
  exact w_X1_doArithmetic_0 hC ⟨Nat.le_refl _, Nat.le_refl _⟩ o0 a0 x1 D _ _ _ hi0 hw hl h
set_option maxHeartbeats 4000000 in
set_option maxRecDepth 100000 in
theorem w_X1_comeBack_10 {r : Int32} {D' : dt} (hC : Cx RX1 cX1_comeBack 5 (some .int) p s m args meth c) (hR : 1 ≤ R.frames ∧ 21 ≤ R.locals) : ∀ (n : Nat), ∀ (o0 a0 : Nat) (x1 : Int32) (x4 : Int32) (D : dt) (H : Heap) (locs : List Loc) (ls : Array Slot), Is S ad o0 a0 1 → Wd G cA S D ad A s H locs → lv_has ls 5 [(0, .ref a0), (1, .int x1), (4, .int x4)] → f_X1_comeBack_10 S n o0 x1 x4 D = some (r, D') → W p l e R s m args below meth c H locs 0 0 (MQ below (Qn (some (.int r)) True (wpost G cA S D' ad A) A) args s 0 0 A) (F0 m 10 ls []) := by
  obtain ⟨hx, hb, -⟩ := id hC
  intro n
  induction n with
  | zero =>
    intro o0 a0 x1 x4 D H locs ls hi0 hw hl h
    rw [f_X1_comeBack_10.eq_1] at h
    cases h
  | succ n ih =>
    intro o0 a0 x1 x4 D H locs ls hi0 hw hl h
    rw [f_X1_comeBack_10.eq_2] at h
    refine lv_iload hx hb dX1_comeBack_10 (lv_at hl 2 rfl) ?_
    refine lv_iconst (v := 5) hx hb dX1_comeBack_12 (by decide) ?_
    refine lv_icmp_gt (tgt := 30) hx hb dX1_comeBack_13 (by decide) (fun c19 => ?_) (fun c19 => ?_)
    · have h := i_yes c19 h
      refine lv_aload_n hx hb dX1_comeBack_30 rfl (lv_at hl 0 rfl) ?_
      refine lv_iload_n hx hb dX1_comeBack_31 rfl (lv_at hl 1 rfl) ?_
      refine lv_iconst (v := 1) hx hb dX1_comeBack_32 (by decide) ?_
      refine lv_iadd hx hb dX1_comeBack_33 ?_
      obtain ⟨r21, D22, hq20, h⟩ := cq_i h
      refine r_cV (st' := [.int r21]) [.int (x1 + (1 : Int32))] [] hC hw kc_1 hi0 (k_X1_goTo _ hi0 hq20) mk_X1_goTo lk_918 ⟨Nat.le_trans (by decide) hR.1, Nat.le_trans (by decide) hR.2⟩ ⟨Nat.zero_le _, Nat.zero_le _⟩ rfl hl.1 rfl rfl (Nat.le_of_ble_eq_true rfl) dX1_comeBack_34 (fun hP H locs hw => ?_)
      cases h
      exact r_iret hC hw dX1_comeBack_37
    · have h := i_no c19 h
      refine lv_aload_n hx hb dX1_comeBack_16 rfl (lv_at hl 0 rfl) ?_
      obtain ⟨o23, ho26, h⟩ := rq_i h
      refine r_getR hC hw kc_1 hi0 2 rfl lk_221 dX1_comeBack_17 rfl ho26 (fun a24 hi25 => ?_)
      refine lv_iload hx hb dX1_comeBack_20 (lv_at hl 2 rfl) ?_
      refine lv_lconst (v := 0) hx hb dX1_comeBack_22 (by decide) ?_
      obtain ⟨hn27, h⟩ := ix_i h
      refine r_las hC hw hi25 hn27 dX1_comeBack_23 (fun D28 eD28 H locs hw => ?_)
      have h := nm_i h D28 eD28
      obtain ⟨y29, ey29⟩ : ∃ z : Int32, z = x4 + 1 := ⟨_, rfl⟩
      have h := nm_i h y29 ey29
      refine lv_iinc (v := y29) (lv' := [(4, .int y29), (0, .ref a0), (1, .int x1)]) hx hb dX1_comeBack_24 hl (k := 2) rfl (by rw [ey29]; rfl) (by decide) rfl (fun ls hl => ?_)
      refine lv_goto (tgt := 10) hx hb dX1_comeBack_27 (by decide) ?_
      exact ih o0 a0 x1 y29 _ _ _ _ hi0 hw (lv_sub hl [1, 2, 0] rfl) h
set_option maxHeartbeats 4000000 in
set_option maxRecDepth 100000 in
theorem w_X1_comeBack_0 {r : Int32} {D' : dt} (hC : Cx RX1 cX1_comeBack 5 (some .int) p s m args meth c) (hR : 1 ≤ R.frames ∧ 21 ≤ R.locals) : ∀ (o0 a0 : Nat) (x1 : Int32) (x2 : Int64) (D : dt) (H : Heap) (locs : List Loc) (ls : Array Slot), Is S ad o0 a0 1 → Wd G cA S D ad A s H locs → lv_has ls 5 [(0, .ref a0), (1, .int x1), (2, .long x2)] → f_X1_comeBack S o0 x1 x2 D = some (r, D') → W p l e R s m args below meth c H locs 0 0 (MQ below (Qn (some (.int r)) True (wpost G cA S D' ad A) A) args s 0 0 A) (F0 m 0 ls []) := by
  obtain ⟨hx, hb, -⟩ := id hC
  intro o0 a0 x1 x2 D H locs ls hi0 hw hl h
  unfold f_X1_comeBack at h
  refine lv_aload_n hx hb dX1_comeBack_0 rfl (lv_at hl 0 rfl) ?_
  obtain ⟨o30, ho33, h⟩ := rq_i h
  refine r_getR hC hw kc_1 hi0 2 rfl lk_221 dX1_comeBack_1 rfl ho33 (fun a31 hi32 => ?_)
  refine lv_iconst (v := 0) hx hb dX1_comeBack_4 (by decide) ?_
  refine lv_lload_n hx hb dX1_comeBack_5 rfl (lv_at hl 2 rfl) ?_
  obtain ⟨hn34, h⟩ := ix_i h
  refine r_las hC hw hi32 hn34 dX1_comeBack_6 (fun D35 eD35 H locs hw => ?_)
  have h := nm_i h D35 eD35
  refine lv_iconst (v := 1) hx hb dX1_comeBack_7 (by decide) ?_
  refine lv_topi (fun y36 ey36 => ?_)
  have h := nm_i h y36 ey36
  refine lv_istore (lv' := [(4, .int y36), (0, .ref a0), (1, .int x1), (2, .long x2)]) hx hb dX1_comeBack_8 hl (by decide) rfl (fun ls hl => ?_)
  exact w_X1_comeBack_10 hC hR LF o0 a0 x1 y36 _ _ _ _ hi0 hw (lv_sub hl [1, 2, 0] rfl) h
set_option maxHeartbeats 4000000 in
set_option maxRecDepth 100000 in
theorem k_X1_comeBack {l : Launch} {G : va_G} {cA : Nat → ClassId} {S : sh} {D D' : dt} {ad : Nat → Nat} (sz : Nat) {o0 a0 : Nat} {x1 : Int32} {x2 : Int64} {r : Int32} (hi0 : Is S ad o0 a0 1) (h : f_X1_comeBack S o0 x1 x2 D = some (r, D')) : Co l yX1_comeBack (Cond.code yX1_comeBack cX1_comeBack 5 (some .int) :: tb0) 1 21 [.ref a0, .int x1, .long x2] G cA S D ad sz (some (.int r)) True D' := by
  refine Met.ofW (cc := cX1_comeBack) (maxL := 5) (ret := (some .int)) (by decide) rfl ?_
  intro p e s m args below meth c s₁ B hml hv
  obtain ⟨rfl, hsz, hP, hK, hD0, hT, hX⟩ := hv
  subst hsz
  have hts := atoms_spec (ws := Cond.code yX1_comeBack cX1_comeBack 5 (some .int) :: tb0) B.pre
  have hC : Cx RX1 cX1_comeBack 5 (some .int) p s m _ meth c := ⟨B.exec, B.bytes, hml, findClass_of_methodNamed B.named, fun w q => hts w (List.mem_cons_of_mem _ q), B.returns, B.notSynchronized⟩
  have hw := Wd.entry hP hK hD0 hT hX
  have hl := lv_entry ([.ref a0, .int x1, .long x2]) (n := 5) (Nat.le_of_ble_eq_true rfl)
  rw [lg_entry_eq]
  exact w_X1_comeBack_0 hC ⟨Nat.le_refl _, Nat.le_refl _⟩ o0 a0 x1 x2 D _ _ _ hi0 hw hl h
set_option maxHeartbeats 4000000 in
set_option maxRecDepth 100000 in
theorem w_X1_doCall_270 {r : Int32} {D' : dt} (hC : Cx RX1 cX1_doCall 8 (some .int) p s m args meth c) (hR : 3 ≤ R.frames ∧ 75 ≤ R.locals) : ∀ (os0 as0 : Nat) (xs1 : Int32) (xs2 : Int64) (D : dt) (H : Heap) (locs : List Loc) (ls : Array Slot), Is S ad os0 as0 1 → Wd G cA S D ad A s H locs → lv_has ls 8 [] → f_X1_doCall_270 S os0 xs1 xs2 D = some (r, D') → W p l e R s m args below meth c H locs 0 0 (MQ below (Qn (some (.int r)) True (wpost G cA S D' ad A) A) args s 0 0 A) (F0 m 270 ls [.long xs2, .int xs1, .ref as0]) := by
  obtain ⟨hx, hb, -⟩ := id hC
  intro os0 as0 xs1 xs2 D H locs ls his0 hw hl h
  unfold f_X1_doCall_270 at h
  obtain ⟨r113, D114, hq112, h⟩ := cq_i h
  refine r_cV (st' := [.int r113]) [.int xs1, .long xs2] [] hC hw kc_1 his0 (k_X1_comeBack _ his0 hq112) mk_X1_comeBack lk_979 ⟨Nat.le_trans (by decide) hR.1, Nat.le_trans (by decide) hR.2⟩ ⟨Nat.zero_le _, Nat.zero_le _⟩ rfl hl.1 rfl rfl (Nat.le_of_ble_eq_true rfl) dX1_doCall_270 (fun hP H locs hw => ?_)
  cases h
  exact r_iret hC hw dX1_doCall_273
set_option maxHeartbeats 4000000 in
set_option maxRecDepth 100000 in
theorem w_X1_doCall_256 {r : Int32} {D' : dt} (hC : Cx RX1 cX1_doCall 8 (some .int) p s m args meth c) (hR : 3 ≤ R.frames ∧ 75 ≤ R.locals) : ∀ (o0 a0 : Nat) (x1 : Int32) (x7 : Int32) (D : dt) (H : Heap) (locs : List Loc) (ls : Array Slot), Is S ad o0 a0 1 → Wd G cA S D ad A s H locs → lv_has ls 8 [(0, .ref a0), (1, .int x1), (7, .int x7)] → f_X1_doCall_256 S o0 x1 x7 D = some (r, D') → W p l e R s m args below meth c H locs 0 0 (MQ below (Qn (some (.int r)) True (wpost G cA S D' ad A) A) args s 0 0 A) (F0 m 256 ls []) := by
  obtain ⟨hx, hb, -⟩ := id hC
  intro o0 a0 x1 x7 D H locs ls hi0 hw hl h
  unfold f_X1_doCall_256 at h
  refine lv_aload_n hx hb dX1_doCall_256 rfl (lv_at hl 0 rfl) ?_
  refine lv_iload_n hx hb dX1_doCall_257 rfl (lv_at hl 1 rfl) ?_
  refine lv_iload hx hb dX1_doCall_258 (lv_at hl 2 rfl) ?_
  refine lv_if_ge (tgt := 269) hx hb dX1_doCall_260 (by decide) (fun c115 => ?_) (fun c115 => ?_)
  · have h := i_yes c115 h
    refine lv_lconst (v := 0) hx hb dX1_doCall_269 (by decide) ?_
    exact w_X1_doCall_270 hC hR o0 a0 x1 (0 : Int64) _ _ _ _ hi0 hw (lv_sub hl [] rfl) h
  · have h := i_no c115 h
    refine lv_ldc2 (v := (-1)) hx hb hC.2.2.2.1 (hC.2.2.2.2.1 _ lk_1001) dX1_doCall_263 ?_
    refine lv_goto (tgt := 270) hx hb dX1_doCall_266 (by decide) ?_
    exact w_X1_doCall_270 hC hR o0 a0 x1 (-1 : Int64) _ _ _ _ hi0 hw (lv_sub hl [] rfl) h
set_option maxHeartbeats 4000000 in
set_option maxRecDepth 100000 in
theorem w_X1_doCall_169 {r : Int32} {D' : dt} (hC : Cx RX1 cX1_doCall 8 (some .int) p s m args meth c) (hR : 3 ≤ R.frames ∧ 75 ≤ R.locals) : ∀ (os0 as0 : Nat) (xs1 : Int32) (xs2 : Int64) (D : dt) (H : Heap) (locs : List Loc) (ls : Array Slot), Is S ad os0 as0 1 → Wd G cA S D ad A s H locs → lv_has ls 8 [] → f_X1_doCall_169 S os0 xs1 xs2 D = some (r, D') → W p l e R s m args below meth c H locs 0 0 (MQ below (Qn (some (.int r)) True (wpost G cA S D' ad A) A) args s 0 0 A) (F0 m 169 ls [.long xs2, .int xs1, .ref as0]) := by
  obtain ⟨hx, hb, -⟩ := id hC
  intro os0 as0 xs1 xs2 D H locs ls his0 hw hl h
  unfold f_X1_doCall_169 at h
  obtain ⟨r117, D118, hq116, h⟩ := cq_i h
  refine r_cV (st' := [.int r117]) [.int xs1, .long xs2] [] hC hw kc_1 his0 (k_X1_comeBack _ his0 hq116) mk_X1_comeBack lk_979 ⟨Nat.le_trans (by decide) hR.1, Nat.le_trans (by decide) hR.2⟩ ⟨Nat.zero_le _, Nat.zero_le _⟩ rfl hl.1 rfl rfl (Nat.le_of_ble_eq_true rfl) dX1_doCall_169 (fun hP H locs hw => ?_)
  cases h
  exact r_iret hC hw dX1_doCall_172
set_option maxHeartbeats 4000000 in
set_option maxRecDepth 100000 in
theorem w_X1_doCall_197 {r : Int32} {D' : dt} (hC : Cx RX1 cX1_doCall 8 (some .int) p s m args meth c) (hR : 3 ≤ R.frames ∧ 75 ≤ R.locals) : ∀ (os0 as0 : Nat) (xs1 : Int32) (xs2 : Int64) (D : dt) (H : Heap) (locs : List Loc) (ls : Array Slot), Is S ad os0 as0 1 → Wd G cA S D ad A s H locs → lv_has ls 8 [] → f_X1_doCall_197 S os0 xs1 xs2 D = some (r, D') → W p l e R s m args below meth c H locs 0 0 (MQ below (Qn (some (.int r)) True (wpost G cA S D' ad A) A) args s 0 0 A) (F0 m 197 ls [.long xs2, .int xs1, .ref as0]) := by
  obtain ⟨hx, hb, -⟩ := id hC
  intro os0 as0 xs1 xs2 D H locs ls his0 hw hl h
  unfold f_X1_doCall_197 at h
  obtain ⟨r120, D121, hq119, h⟩ := cq_i h
  refine r_cV (st' := [.int r120]) [.int xs1, .long xs2] [] hC hw kc_1 his0 (k_X1_comeBack _ his0 hq119) mk_X1_comeBack lk_979 ⟨Nat.le_trans (by decide) hR.1, Nat.le_trans (by decide) hR.2⟩ ⟨Nat.zero_le _, Nat.zero_le _⟩ rfl hl.1 rfl rfl (Nat.le_of_ble_eq_true rfl) dX1_doCall_197 (fun hP H locs hw => ?_)
  cases h
  exact r_iret hC hw dX1_doCall_200
set_option maxHeartbeats 4000000 in
set_option maxRecDepth 100000 in
theorem w_X1_doCall_0 {r : Int32} {D' : dt} (hC : Cx RX1 cX1_doCall 8 (some .int) p s m args meth c) (hR : 3 ≤ R.frames ∧ 75 ≤ R.locals) : ∀ (o0 a0 : Nat) (x1 : Int32) (x2 : Int32) (D : dt) (H : Heap) (locs : List Loc) (ls : Array Slot), Is S ad o0 a0 1 → Wd G cA S D ad A s H locs → lv_has ls 8 [(0, .ref a0), (1, .int x1), (2, .int x2)] → f_X1_doCall S o0 x1 x2 D = some (r, D') → W p l e R s m args below meth c H locs 0 0 (MQ below (Qn (some (.int r)) True (wpost G cA S D' ad A) A) args s 0 0 A) (F0 m 0 ls []) := by
  obtain ⟨hx, hb, -⟩ := id hC
  intro o0 a0 x1 x2 D H locs ls hi0 hw hl h
  unfold f_X1_doCall at h
  refine lv_iload_n hx hb dX1_doCall_0 rfl (lv_at hl 2 rfl) ?_
  refine lv_iconst (v := 5) hx hb dX1_doCall_1 (by decide) ?_
  refine lv_icmp_ne (tgt := 18) hx hb dX1_doCall_2 (by decide) (fun c122 => ?_) (fun c122 => ?_)
  · have h := i_no c122 h
    refine lv_iload_n hx hb dX1_doCall_18 rfl (lv_at hl 2 rfl) ?_
    refine lv_bipush (v := 6) hx hb dX1_doCall_19 (by decide) ?_
    refine lv_icmp_ne (tgt := 61) hx hb dX1_doCall_21 (by decide) (fun c123 => ?_) (fun c123 => ?_)
    · have h := i_no c123 h
      refine lv_aload_n hx hb dX1_doCall_61 rfl (lv_at hl 0 rfl) ?_
      obtain ⟨o124, ho127, h⟩ := rq_i h
      refine r_getR hC hw kc_1 hi0 1 rfl lk_220 dX1_doCall_62 rfl ho127 (fun a125 hi126 => ?_)
      refine lv_aload_n hx hb dX1_doCall_65 rfl (lv_at hl 0 rfl) ?_
      obtain ⟨o128, ho131, h⟩ := rq_i h
      refine r_getR hC hw kc_1 hi0 2 rfl lk_221 dX1_doCall_66 rfl ho131 (fun a129 hi130 => ?_)
      refine lv_iconst (v := 1) hx hb dX1_doCall_69 (by decide) ?_
      obtain ⟨hn132, h⟩ := ix_i h
      refine r_lald hC hw hi130 hn132 dX1_doCall_70 ?_
      obtain ⟨r134, hq133, h⟩ := pq_i h
      refine r_cV (st' := [.int r134]) [.long (gL D o128 (1 : Int32).toNatClampNeg)] [] hC hw kc_2 hi126 (k_X2_tableAt _ hi126 hq133) mk_X2_tableAt lk_986 ⟨Nat.le_trans (by decide) hR.1, Nat.le_trans (by decide) hR.2⟩ ⟨Nat.zero_le _, Nat.zero_le _⟩ rfl hl.1 rfl rfl (Nat.le_of_ble_eq_true rfl) dX1_doCall_71 (fun hP H locs hw => ?_)
      refine lv_istore_n (lv' := [(3, .int r134), (0, .ref a0), (1, .int x1), (2, .int x2)]) hx hb dX1_doCall_74 rfl hl (by decide) rfl (fun ls hl => ?_)
      refine lv_aload_n hx hb dX1_doCall_75 rfl (lv_at hl 1 rfl) ?_
      obtain ⟨o135, ho138, h⟩ := rq_i h
      refine r_getR hC hw kc_1 hi0 1 rfl lk_220 dX1_doCall_76 rfl ho138 (fun a136 hi137 => ?_)
      refine lv_iload_n hx hb dX1_doCall_79 rfl (lv_at hl 0 rfl) ?_
      obtain ⟨r140, hq139, h⟩ := pq_i h
      refine r_cV (st' := [va_rf (r140.map ad)]) [.int r134] [] hC hw kc_2 hi137 (k_X2_tableNumbered _ hi137 hq139) mk_X2_tableNumbered lk_915 ⟨Nat.le_trans (by decide) hR.1, Nat.le_trans (by decide) hR.2⟩ ⟨Nat.zero_le _, Nat.zero_le _⟩ rfl hl.1 rfl rfl (Nat.le_of_ble_eq_true rfl) dX1_doCall_80 (fun hP H locs hw => ?_)
      cases r140 with
      | none =>
        have h := oqN h
        refine W.eq (g2 := F0 m 83 ls [.null]) rfl ?_
        refine lv_astoreN (lv' := [(4, .null), (3, .int r134), (0, .ref a0), (1, .int x1), (2, .int x2)]) hx hb dX1_doCall_83 hl (by decide) rfl (fun ls hl => ?_)
        refine lv_aloadN hx hb dX1_doCall_85 (lv_at hl 0 rfl) ?_
        refine lv_ifnullN (tgt := 112) hx hb dX1_doCall_87 (by decide) ?_
        refine lv_iconst (v := 4) hx hb dX1_doCall_112 (by decide) ?_
        cases h
        exact r_iret hC hw dX1_doCall_113
      | some o141 =>
        have h := oqS h
        have hi142 : Is S ad o141 (ad o141) 6 := ⟨(hP o141 rfl).1, (hP o141 rfl).2, rfl⟩
        refine W.eq (g2 := F0 m 83 ls [.ref (ad o141)]) rfl ?_
        refine lv_astore (lv' := [(4, .ref (ad o141)), (3, .int r134), (0, .ref a0), (1, .int x1), (2, .int x2)]) hx hb dX1_doCall_83 hl (by decide) rfl (fun ls hl => ?_)
        refine lv_aload hx hb dX1_doCall_85 (lv_at hl 0 rfl) ?_
        refine lv_ifnull hx hb dX1_doCall_87 ?_
        refine lv_aload_n hx hb dX1_doCall_90 rfl (lv_at hl 2 rfl) ?_
        obtain ⟨o143, ho146, h⟩ := rq_i h
        refine r_getR hC hw kc_1 hi0 1 rfl lk_220 dX1_doCall_91 rfl ho146 (fun a144 hi145 => ?_)
        refine lv_aload_n hx hb dX1_doCall_94 rfl (lv_at hl 2 rfl) ?_
        obtain ⟨o147, ho150, h⟩ := rq_i h
        refine r_getR hC hw kc_1 hi0 2 rfl lk_221 dX1_doCall_95 rfl ho150 (fun a148 hi149 => ?_)
        refine lv_iconst (v := 2) hx hb dX1_doCall_98 (by decide) ?_
        obtain ⟨hn151, h⟩ := ix_i h
        refine r_lald hC hw hi149 hn151 dX1_doCall_99 ?_
        refine lv_aload hx hb dX1_doCall_100 (lv_at hl 0 rfl) ?_
        refine r_gI hC hw kc_6 hi142 1 rfl lk_404 dX1_doCall_102 ?_
        refine lv_iconst (v := 0) hx hb dX1_doCall_105 (by decide) ?_
        obtain ⟨r153, D154, hq152, h⟩ := cq_i h
        refine r_cV (st' := [.int r153]) [.long (gL D o147 (2 : Int32).toNatClampNeg), .int (gI D o141 1), .int (0 : Int32)] [] hC hw kc_2 hi145 (k_X2_find _ hi145 hq152) mk_X2_find lk_927 ⟨Nat.le_trans (by decide) hR.1, Nat.le_trans (by decide) hR.2⟩ ⟨Nat.zero_le _, Nat.zero_le _⟩ rfl hl.1 rfl rfl (Nat.le_of_ble_eq_true rfl) dX1_doCall_106 (fun hP H locs hw => ?_)
        refine lv_if_ne (tgt := 114) hx hb dX1_doCall_109 (by decide) (fun c155 => ?_) (fun c155 => ?_)
        · have h := i_no c155 h
          refine lv_aload_n hx hb dX1_doCall_114 rfl (lv_at hl 2 rfl) ?_
          obtain ⟨o156, ho159, h⟩ := rq_i h
          refine r_getR hC hw kc_1 hi0 1 rfl lk_220 dX1_doCall_115 rfl ho159 (fun a157 hi158 => ?_)
          refine lv_aload hx hb dX1_doCall_118 (lv_at hl 0 rfl) ?_
          refine r_gI hC hw kc_6 hi142 1 rfl lk_404 dX1_doCall_120 ?_
          obtain ⟨r161, hq160, h⟩ := pq_i h
          refine r_cV (st' := [.long r161]) [.int (gI D154 o141 1)] [] hC hw kc_2 hi158 (k_X2_foundNumber _ hi158 hq160) mk_X2_foundNumber lk_943 ⟨Nat.le_trans (by decide) hR.1, Nat.le_trans (by decide) hR.2⟩ ⟨Nat.zero_le _, Nat.zero_le _⟩ rfl hl.1 rfl rfl (Nat.le_of_ble_eq_true rfl) dX1_doCall_123 (fun hP H locs hw => ?_)
          refine lv_lstore (lv' := [(5, .long r161), (4, .ref (ad o141)), (3, .int r134), (0, .ref a0), (1, .int x1), (2, .int x2)]) hx hb dX1_doCall_126 hl (by decide) rfl (fun ls hl => ?_)
          refine lv_iload_n hx hb dX1_doCall_128 rfl (lv_at hl 5 rfl) ?_
          refine lv_iconst (v := 1) hx hb dX1_doCall_129 (by decide) ?_
          refine lv_icmp_ne (tgt := 173) hx hb dX1_doCall_130 (by decide) (fun c162 => ?_) (fun c162 => ?_)
          · have h := i_no c162 h
            refine lv_iload_n hx hb dX1_doCall_173 rfl (lv_at hl 5 rfl) ?_
            refine lv_iconst (v := 3) hx hb dX1_doCall_174 (by decide) ?_
            refine lv_icmp_ne (tgt := 201) hx hb dX1_doCall_175 (by decide) (fun c163 => ?_) (fun c163 => ?_)
            · have h := i_no c163 h
              refine lv_aload_n hx hb dX1_doCall_201 rfl (lv_at hl 3 rfl) ?_
              obtain ⟨o164, ho167, h⟩ := rq_i h
              refine r_getR hC hw kc_1 hi0 1 rfl lk_220 dX1_doCall_202 rfl ho167 (fun a165 hi166 => ?_)
              refine lv_aload_n hx hb dX1_doCall_205 rfl (lv_at hl 3 rfl) ?_
              obtain ⟨o168, ho171, h⟩ := rq_i h
              refine r_getR hC hw kc_1 hi0 2 rfl lk_221 dX1_doCall_206 rfl ho171 (fun a169 hi170 => ?_)
              refine lv_iconst (v := 3) hx hb dX1_doCall_209 (by decide) ?_
              obtain ⟨hn172, h⟩ := ix_i h
              refine r_lald hC hw hi170 hn172 dX1_doCall_210 ?_
              refine lv_aload hx hb dX1_doCall_211 (lv_at hl 1 rfl) ?_
              refine r_gI hC hw kc_6 hi142 2 rfl lk_409 dX1_doCall_213 ?_
              refine lv_iconst (v := 0) hx hb dX1_doCall_216 (by decide) ?_
              obtain ⟨r174, D175, hq173, h⟩ := cq_i h
              refine r_cV (st' := [.int r174]) [.long (gL D154 o168 (3 : Int32).toNatClampNeg), .int (gI D154 o141 2), .int (0 : Int32)] [] hC hw kc_2 hi166 (k_X2_find _ hi166 hq173) mk_X2_find lk_927 ⟨Nat.le_trans (by decide) hR.1, Nat.le_trans (by decide) hR.2⟩ ⟨Nat.zero_le _, Nat.zero_le _⟩ rfl hl.1 rfl rfl (Nat.le_of_ble_eq_true rfl) dX1_doCall_217 (fun hP H locs hw => ?_)
              refine lv_if_ne (tgt := 225) hx hb dX1_doCall_220 (by decide) (fun c176 => ?_) (fun c176 => ?_)
              · have h := i_no c176 h
                refine lv_aload hx hb dX1_doCall_225 (lv_at hl 1 rfl) ?_
                refine lv_lload hx hb dX1_doCall_227 (lv_at hl 0 rfl) ?_
                refine lv_aload_n hx hb dX1_doCall_229 rfl (lv_at hl 3 rfl) ?_
                obtain ⟨o177, ho180, h⟩ := rq_i h
                refine r_getR hC hw kc_1 hi0 2 rfl lk_221 dX1_doCall_230 rfl ho180 (fun a178 hi179 => ?_)
                refine lv_iconst (v := 4) hx hb dX1_doCall_233 (by decide) ?_
                obtain ⟨hn181, h⟩ := ix_i h
                refine r_lald hC hw hi179 hn181 dX1_doCall_234 ?_
                obtain ⟨r183, D184, hq182, h⟩ := cq_i h
                refine r_cV (st' := [.int r183]) [.long r161, .long (gL D175 o177 (4 : Int32).toNatClampNeg)] [] hC hw kc_6 hi142 (k_X7_numberToPut _ hi142 hq182) mk_X7_numberToPut lk_1002 ⟨Nat.le_trans (by decide) hR.1, Nat.le_trans (by decide) hR.2⟩ ⟨Nat.zero_le _, Nat.zero_le _⟩ rfl hl.1 rfl rfl (Nat.le_of_ble_eq_true rfl) dX1_doCall_235 (fun hP H locs hw => ?_)
                refine lv_istore (lv' := [(7, .int r183), (5, .long r161), (4, .ref (ad o141)), (3, .int r134), (0, .ref a0), (1, .int x1), (2, .int x2)]) hx hb dX1_doCall_238 hl (by decide) rfl (fun ls hl => ?_)
                refine lv_iload hx hb dX1_doCall_240 (lv_at hl 0 rfl) ?_
                refine lv_if_lt (tgt := 256) hx hb dX1_doCall_242 (by decide) (fun c185 => ?_) (fun c185 => ?_)
                · have h := i_yes c185 h
                  exact w_X1_doCall_256 hC hR o0 a0 x1 r183 _ _ _ _ hi0 hw (lv_sub hl [4, 5, 0] rfl) h
                · have h := i_no c185 h
                  refine lv_aload_n hx hb dX1_doCall_245 rfl (lv_at hl 4 rfl) ?_
                  obtain ⟨o186, ho189, h⟩ := rq_i h
                  refine r_getR hC hw kc_1 hi0 1 rfl lk_220 dX1_doCall_246 rfl ho189 (fun a187 hi188 => ?_)
                  refine lv_aload hx hb dX1_doCall_249 (lv_at hl 2 rfl) ?_
                  refine lv_iload hx hb dX1_doCall_251 (lv_at hl 0 rfl) ?_
                  obtain ⟨_, D191, hq190, h⟩ := cq_i h
                  refine r_cV (st' := []) [.ref (ad o141), .int r183] [] hC hw kc_2 hi188 (k_X2_copyFoundTo _ hi188 hi142 hq190) mk_X2_copyFoundTo lk_1011 ⟨Nat.le_trans (by decide) hR.1, Nat.le_trans (by decide) hR.2⟩ ⟨Nat.zero_le _, Nat.zero_le _⟩ rfl hl.1 rfl rfl (Nat.le_of_ble_eq_true rfl) dX1_doCall_253 (fun hP H locs hw => ?_)
                  exact w_X1_doCall_256 hC hR o0 a0 x1 r183 _ _ _ _ hi0 hw (lv_sub hl [4, 5, 0] rfl) h
              · have h := i_yes c176 h
                refine lv_iconst (v := 4) hx hb dX1_doCall_223 (by decide) ?_
                cases h
                exact r_iret hC hw dX1_doCall_224
            · have h := i_yes c163 h
              refine lv_aload_n hx hb dX1_doCall_178 rfl (lv_at hl 3 rfl) ?_
              refine lv_iload_n hx hb dX1_doCall_179 rfl (lv_at hl 4 rfl) ?_
              refine lv_aload hx hb dX1_doCall_180 (lv_at hl 1 rfl) ?_
              refine lv_lload hx hb dX1_doCall_182 (lv_at hl 0 rfl) ?_
              obtain ⟨r193, D194, hq192, h⟩ := cq_i h
              refine r_cV (st' := [.int r193, .int x1, .ref a0]) [.long r161] [.int x1, .ref a0] hC hw kc_6 hi142 (k_X7_removeKey _ hi142 hq192) mk_X7_removeKey lk_996 ⟨Nat.le_trans (by decide) hR.1, Nat.le_trans (by decide) hR.2⟩ ⟨Nat.zero_le _, Nat.zero_le _⟩ rfl hl.1 rfl rfl (Nat.le_of_ble_eq_true rfl) dX1_doCall_184 (fun hP H locs hw => ?_)
              refine lv_if_eq (tgt := 194) hx hb dX1_doCall_187 (by decide) (fun c195 => ?_) (fun c195 => ?_)
              · have h := i_yes c195 h
                refine lv_ldc2 (v := (-1)) hx hb hC.2.2.2.1 (hC.2.2.2.2.1 _ lk_1001) dX1_doCall_194 ?_
                exact w_X1_doCall_197 hC hR o0 a0 x1 (-1 : Int64) _ _ _ _ hi0 hw (lv_sub hl [] rfl) h
              · have h := i_no c195 h
                refine lv_lconst (v := 0) hx hb dX1_doCall_190 (by decide) ?_
                refine lv_goto (tgt := 197) hx hb dX1_doCall_191 (by decide) ?_
                exact w_X1_doCall_197 hC hR o0 a0 x1 (0 : Int64) _ _ _ _ hi0 hw (lv_sub hl [] rfl) h
          · have h := i_yes c162 h
            refine lv_aload hx hb dX1_doCall_133 (lv_at hl 1 rfl) ?_
            refine lv_lload hx hb dX1_doCall_135 (lv_at hl 0 rfl) ?_
            obtain ⟨r197, hq196, h⟩ := pq_i h
            refine r_cV (st' := [.int r197]) [.long r161] [] hC hw kc_6 hi142 (k_X7_numberOf _ hi142 hq196) mk_X7_numberOf lk_991 ⟨Nat.le_trans (by decide) hR.1, Nat.le_trans (by decide) hR.2⟩ ⟨Nat.zero_le _, Nat.zero_le _⟩ rfl hl.1 rfl rfl (Nat.le_of_ble_eq_true rfl) dX1_doCall_137 (fun hP H locs hw => ?_)
            refine lv_istore (lv' := [(7, .int r197), (5, .long r161), (4, .ref (ad o141)), (3, .int r134), (0, .ref a0), (1, .int x1), (2, .int x2)]) hx hb dX1_doCall_140 hl (by decide) rfl (fun ls hl => ?_)
            refine lv_aload_n hx hb dX1_doCall_142 rfl (lv_at hl 4 rfl) ?_
            refine lv_iload_n hx hb dX1_doCall_143 rfl (lv_at hl 5 rfl) ?_
            refine lv_iload hx hb dX1_doCall_144 (lv_at hl 0 rfl) ?_
            refine lv_if_ge (tgt := 153) hx hb dX1_doCall_146 (by decide) (fun c198 => ?_) (fun c198 => ?_)
            · have h := i_yes c198 h
              refine lv_ldc2 (v := 34359738368) hx hb hC.2.2.2.1 (hC.2.2.2.2.1 _ lk_995) dX1_doCall_153 ?_
              refine lv_iload_n hx hb dX1_doCall_156 rfl (lv_at hl 3 rfl) ?_
              refine lv_i2l (v := r134.toInt64) hx hb dX1_doCall_157 rfl ?_
              refine lv_bipush (v := 24) hx hb dX1_doCall_158 (by decide) ?_
              refine lv_lshl (v := j_lshl r134.toInt64 (24 : Int32)) hx hb dX1_doCall_160 rfl ?_
              refine lv_ladd hx hb dX1_doCall_161 ?_
              refine lv_iload hx hb dX1_doCall_162 (lv_at hl 0 rfl) ?_
              refine lv_i2l (v := r197.toInt64) hx hb dX1_doCall_164 rfl ?_
              refine lv_bipush (v := 12) hx hb dX1_doCall_165 (by decide) ?_
              refine lv_lshl (v := j_lshl r197.toInt64 (12 : Int32)) hx hb dX1_doCall_167 rfl ?_
              refine lv_ladd hx hb dX1_doCall_168 ?_
              exact w_X1_doCall_169 hC hR o0 a0 x1 (((34359738368 : Int64) + (j_lshl r134.toInt64 (24 : Int32))) + (j_lshl r197.toInt64 (12 : Int32))) _ _ _ _ hi0 hw (lv_sub hl [] rfl) h
            · have h := i_no c198 h
              refine lv_lconst (v := 0) hx hb dX1_doCall_149 (by decide) ?_
              refine lv_goto (tgt := 169) hx hb dX1_doCall_150 (by decide) ?_
              exact w_X1_doCall_169 hC hR o0 a0 x1 (0 : Int64) _ _ _ _ hi0 hw (lv_sub hl [] rfl) h
        · have h := i_yes c155 h
          refine lv_iconst (v := 4) hx hb dX1_doCall_112 (by decide) ?_
          cases h
          exact r_iret hC hw dX1_doCall_113
    · have h := i_yes c123 h
      refine lv_aload_n hx hb dX1_doCall_24 rfl (lv_at hl 0 rfl) ?_
      obtain ⟨o199, ho202, h⟩ := rq_i h
      refine r_getR hC hw kc_1 hi0 3 rfl lk_223 dX1_doCall_25 rfl ho202 (fun a200 hi201 => ?_)
      refine lv_aload_n hx hb dX1_doCall_28 rfl (lv_at hl 0 rfl) ?_
      refine r_gI hC hw kc_1 hi0 4 rfl lk_224 dX1_doCall_29 ?_
      refine lv_bipush (v := 32) hx hb dX1_doCall_32 (by decide) ?_
      obtain ⟨r204, hq203, h⟩ := pq_i h
      refine r_cS (st' := [.int r204, .ref a200]) [.int (gI D o0 4), .int (32 : Int32)] [.ref a200] hC hw (k_J9_floorMod_7cf53 _ hq203) mk_J9_floorMod_7cf53 lk_983 ⟨Nat.le_trans (by decide) hR.1, Nat.le_trans (by decide) hR.2⟩ ⟨Nat.zero_le _, Nat.zero_le _⟩ rfl hl.1 rfl rfl (Nat.le_of_ble_eq_true rfl) dX1_doCall_34 (fun hP H locs hw => ?_)
      refine lv_aload_n hx hb dX1_doCall_37 rfl (lv_at hl 0 rfl) ?_
      obtain ⟨o205, ho208, h⟩ := rq_i h
      refine r_getR hC hw kc_1 hi0 2 rfl lk_221 dX1_doCall_38 rfl ho208 (fun a206 hi207 => ?_)
      refine lv_iconst (v := 1) hx hb dX1_doCall_41 (by decide) ?_
      obtain ⟨hn209, h⟩ := ix_i h
      refine r_lald hC hw hi207 hn209 dX1_doCall_42 ?_
      obtain ⟨hn210, h⟩ := ix_i h
      refine r_las hC hw hi201 hn210 dX1_doCall_43 (fun D211 eD211 H locs hw => ?_)
      have h := nm_i h D211 eD211
      refine lv_aload_n hx hb dX1_doCall_44 rfl (lv_at hl 0 rfl) ?_
      refine lv_dup hx hb dX1_doCall_45 rfl ?_
      refine r_gI hC hw kc_1 hi0 4 rfl lk_224 dX1_doCall_46 ?_
      refine lv_iconst (v := 1) hx hb dX1_doCall_49 (by decide) ?_
      refine lv_iadd hx hb dX1_doCall_50 ?_
      refine r_pI hC hw kc_1 hi0 4 rfl lk_224 rfl rfl rfl dX1_doCall_51 (fun D212 eD212 H locs hw => ?_)
      have h := nm_i h D212 eD212
      refine lv_aload_n hx hb dX1_doCall_54 rfl (lv_at hl 0 rfl) ?_
      refine lv_iload_n hx hb dX1_doCall_55 rfl (lv_at hl 1 rfl) ?_
      refine lv_lconst (v := 0) hx hb dX1_doCall_56 (by decide) ?_
      obtain ⟨r214, D215, hq213, h⟩ := cq_i h
      refine r_cV (st' := [.int r214]) [.int x1, .long (0 : Int64)] [] hC hw kc_1 hi0 (k_X1_comeBack _ hi0 hq213) mk_X1_comeBack lk_979 ⟨Nat.le_trans (by decide) hR.1, Nat.le_trans (by decide) hR.2⟩ ⟨Nat.zero_le _, Nat.zero_le _⟩ rfl hl.1 rfl rfl (Nat.le_of_ble_eq_true rfl) dX1_doCall_57 (fun hP H locs hw => ?_)
      cases h
      exact r_iret hC hw dX1_doCall_60
  · have h := i_yes c122 h
    refine lv_aload_n hx hb dX1_doCall_5 rfl (lv_at hl 0 rfl) ?_
    refine lv_iload_n hx hb dX1_doCall_6 rfl (lv_at hl 1 rfl) ?_
    refine lv_aload_n hx hb dX1_doCall_7 rfl (lv_at hl 0 rfl) ?_
    obtain ⟨o216, ho219, h⟩ := rq_i h
    refine r_getR hC hw kc_1 hi0 1 rfl lk_220 dX1_doCall_8 rfl ho219 (fun a217 hi218 => ?_)
    refine r_gL hC hw kc_2 hi218 5 rfl lk_192 dX1_doCall_11 ?_
    obtain ⟨r221, D222, hq220, h⟩ := cq_i h
    refine r_cV (st' := [.int r221]) [.int x1, .long (gL D o216 5)] [] hC hw kc_1 hi0 (k_X1_comeBack _ hi0 hq220) mk_X1_comeBack lk_979 ⟨Nat.le_trans (by decide) hR.1, Nat.le_trans (by decide) hR.2⟩ ⟨Nat.zero_le _, Nat.zero_le _⟩ rfl hl.1 rfl rfl (Nat.le_of_ble_eq_true rfl) dX1_doCall_14 (fun hP H locs hw => ?_)
    cases h
    exact r_iret hC hw dX1_doCall_17
set_option maxHeartbeats 4000000 in
set_option maxRecDepth 100000 in
theorem k_X1_doCall {l : Launch} {G : va_G} {cA : Nat → ClassId} {S : sh} {D D' : dt} {ad : Nat → Nat} (sz : Nat) {o0 a0 : Nat} {x1 : Int32} {x2 : Int32} {r : Int32} (hi0 : Is S ad o0 a0 1) (h : f_X1_doCall S o0 x1 x2 D = some (r, D')) : Co l yX1_doCall (Cond.code yX1_doCall cX1_doCall 8 (some .int) :: tb0) 3 75 [.ref a0, .int x1, .int x2] G cA S D ad sz (some (.int r)) True D' := by
  refine Met.ofW (cc := cX1_doCall) (maxL := 8) (ret := (some .int)) (by decide) rfl ?_
  intro p e s m args below meth c s₁ B hml hv
  obtain ⟨rfl, hsz, hP, hK, hD0, hT, hX⟩ := hv
  subst hsz
  have hts := atoms_spec (ws := Cond.code yX1_doCall cX1_doCall 8 (some .int) :: tb0) B.pre
  have hC : Cx RX1 cX1_doCall 8 (some .int) p s m _ meth c := ⟨B.exec, B.bytes, hml, findClass_of_methodNamed B.named, fun w q => hts w (List.mem_cons_of_mem _ q), B.returns, B.notSynchronized⟩
  have hw := Wd.entry hP hK hD0 hT hX
  have hl := lv_entry ([.ref a0, .int x1, .int x2]) (n := 8) (Nat.le_of_ble_eq_true rfl)
  rw [lg_entry_eq]
  exact w_X1_doCall_0 hC ⟨Nat.le_refl _, Nat.le_refl _⟩ o0 a0 x1 x2 D _ _ _ hi0 hw hl h
set_option maxHeartbeats 4000000 in
set_option maxRecDepth 100000 in
theorem w_X1_doJump_84 {r : Int32} {D' : dt} (hC : Cx RX1 cX1_doJump 4 (some .int) p s m args meth c) (hR : 2 ≤ R.frames ∧ 53 ≤ R.locals) : ∀ (os0 as0 : Nat) (xs1 : Int32) (D : dt) (H : Heap) (locs : List Loc) (ls : Array Slot), Is S ad os0 as0 1 → Wd G cA S D ad A s H locs → lv_has ls 4 [] → f_X1_doJump_84 S os0 xs1 D = some (r, D') → W p l e R s m args below meth c H locs 0 0 (MQ below (Qn (some (.int r)) True (wpost G cA S D' ad A) A) args s 0 0 A) (F0 m 84 ls [.int xs1, .ref as0]) := by
  obtain ⟨hx, hb, -⟩ := id hC
  intro os0 as0 xs1 D H locs ls his0 hw hl h
  unfold f_X1_doJump_84 at h
  obtain ⟨r45, D46, hq44, h⟩ := cq_i h
  refine r_cV (st' := [.int r45]) [.int xs1] [] hC hw kc_1 his0 (k_X1_goTo _ his0 hq44) mk_X1_goTo lk_918 ⟨Nat.le_trans (by decide) hR.1, Nat.le_trans (by decide) hR.2⟩ ⟨Nat.zero_le _, Nat.zero_le _⟩ rfl hl.1 rfl rfl (Nat.le_of_ble_eq_true rfl) dX1_doJump_84 (fun hP H locs hw => ?_)
  cases h
  exact r_iret hC hw dX1_doJump_87
set_option maxHeartbeats 4000000 in
set_option maxRecDepth 100000 in
theorem w_X1_doJump_60 {r : Int32} {D' : dt} (hC : Cx RX1 cX1_doJump 4 (some .int) p s m args meth c) (hR : 2 ≤ R.frames ∧ 53 ≤ R.locals) : ∀ (o0 a0 : Nat) (x1 : Int32) (xs0 : Int32) (D : dt) (H : Heap) (locs : List Loc) (ls : Array Slot), Is S ad o0 a0 1 → Wd G cA S D ad A s H locs → lv_has ls 4 [(0, .ref a0), (1, .int x1)] → f_X1_doJump_60 S o0 x1 xs0 D = some (r, D') → W p l e R s m args below meth c H locs 0 0 (MQ below (Qn (some (.int r)) True (wpost G cA S D' ad A) A) args s 0 0 A) (F0 m 60 ls [.int xs0]) := by
  obtain ⟨hx, hb, -⟩ := id hC
  intro o0 a0 x1 xs0 D H locs ls hi0 hw hl h
  unfold f_X1_doJump_60 at h
  refine lv_istore_n (lv' := [(3, .int xs0), (0, .ref a0), (1, .int x1)]) hx hb dX1_doJump_60 rfl hl (by decide) rfl (fun ls hl => ?_)
  refine lv_aload_n hx hb dX1_doJump_61 rfl (lv_at hl 1 rfl) ?_
  refine lv_iload_n hx hb dX1_doJump_62 rfl (lv_at hl 0 rfl) ?_
  refine lv_if_eq (tgt := 81) hx hb dX1_doJump_63 (by decide) (fun c47 => ?_) (fun c47 => ?_)
  · have h := i_yes c47 h
    refine lv_iload_n hx hb dX1_doJump_81 rfl (lv_at hl 2 rfl) ?_
    refine lv_iconst (v := 1) hx hb dX1_doJump_82 (by decide) ?_
    refine lv_iadd hx hb dX1_doJump_83 ?_
    exact w_X1_doJump_84 hC hR o0 a0 (x1 + (1 : Int32)) _ _ _ _ hi0 hw (lv_sub hl [] rfl) h
  · have h := i_no c47 h
    refine lv_iload_n hx hb dX1_doJump_66 rfl (lv_at hl 2 rfl) ?_
    refine lv_iconst (v := 1) hx hb dX1_doJump_67 (by decide) ?_
    refine lv_iadd hx hb dX1_doJump_68 ?_
    refine lv_aload_n hx hb dX1_doJump_69 rfl (lv_at hl 1 rfl) ?_
    obtain ⟨o48, ho51, h⟩ := rq_i h
    refine r_getR hC hw kc_1 hi0 0 rfl lk_219 dX1_doJump_70 rfl ho51 (fun a49 hi50 => ?_)
    refine lv_iload_n hx hb dX1_doJump_73 rfl (lv_at hl 2 rfl) ?_
    obtain ⟨r53, hq52, h⟩ := pq_i h
    refine r_cV (st' := [.int r53, .int (x1 + (1 : Int32)), .ref a0]) [.int x1] [.int (x1 + (1 : Int32)), .ref a0] hC hw kc_3 hi50 (k_X4_distance _ hi50 hq52) mk_X4_distance lk_1026 ⟨Nat.le_trans (by decide) hR.1, Nat.le_trans (by decide) hR.2⟩ ⟨Nat.zero_le _, Nat.zero_le _⟩ rfl hl.1 rfl rfl (Nat.le_of_ble_eq_true rfl) dX1_doJump_74 (fun hP H locs hw => ?_)
    refine lv_iadd hx hb dX1_doJump_77 ?_
    refine lv_goto (tgt := 84) hx hb dX1_doJump_78 (by decide) ?_
    exact w_X1_doJump_84 hC hR o0 a0 ((x1 + (1 : Int32)) + r53) _ _ _ _ hi0 hw (lv_sub hl [] rfl) h
set_option maxHeartbeats 4000000 in
set_option maxRecDepth 100000 in
theorem w_X1_doJump_55 {r : Int32} {D' : dt} (hC : Cx RX1 cX1_doJump 4 (some .int) p s m args meth c) (hR : 2 ≤ R.frames ∧ 53 ≤ R.locals) : ∀ (o0 a0 : Nat) (x1 : Int32) (D : dt) (H : Heap) (locs : List Loc) (ls : Array Slot), Is S ad o0 a0 1 → Wd G cA S D ad A s H locs → lv_has ls 4 [(0, .ref a0), (1, .int x1)] → f_X1_doJump_55 S o0 x1 D = some (r, D') → W p l e R s m args below meth c H locs 0 0 (MQ below (Qn (some (.int r)) True (wpost G cA S D' ad A) A) args s 0 0 A) (F0 m 55 ls []) := by
  obtain ⟨hx, hb, -⟩ := id hC
  intro o0 a0 x1 D H locs ls hi0 hw hl h
  unfold f_X1_doJump_55 at h
  refine lv_iconst (v := 1) hx hb dX1_doJump_55 (by decide) ?_
  refine lv_goto (tgt := 60) hx hb dX1_doJump_56 (by decide) ?_
  exact w_X1_doJump_60 hC hR o0 a0 x1 (1 : Int32) _ _ _ _ hi0 hw (lv_sub hl [0, 1] rfl) h
set_option maxHeartbeats 4000000 in
set_option maxRecDepth 100000 in
theorem w_X1_doJump_0 {r : Int32} {D' : dt} (hC : Cx RX1 cX1_doJump 4 (some .int) p s m args meth c) (hR : 2 ≤ R.frames ∧ 53 ≤ R.locals) : ∀ (o0 a0 : Nat) (x1 : Int32) (D : dt) (H : Heap) (locs : List Loc) (ls : Array Slot), Is S ad o0 a0 1 → Wd G cA S D ad A s H locs → lv_has ls 4 [(0, .ref a0), (1, .int x1)] → f_X1_doJump S o0 x1 D = some (r, D') → W p l e R s m args below meth c H locs 0 0 (MQ below (Qn (some (.int r)) True (wpost G cA S D' ad A) A) args s 0 0 A) (F0 m 0 ls []) := by
  obtain ⟨hx, hb, -⟩ := id hC
  intro o0 a0 x1 D H locs ls hi0 hw hl h
  unfold f_X1_doJump at h
  refine lv_aload_n hx hb dX1_doJump_0 rfl (lv_at hl 0 rfl) ?_
  obtain ⟨o54, ho57, h⟩ := rq_i h
  refine r_getR hC hw kc_1 hi0 0 rfl lk_219 dX1_doJump_1 rfl ho57 (fun a55 hi56 => ?_)
  refine lv_iload_n hx hb dX1_doJump_4 rfl (lv_at hl 1 rfl) ?_
  obtain ⟨r59, hq58, h⟩ := pq_i h
  refine r_cV (st' := [.int r59]) [.int x1] [] hC hw kc_3 hi56 (k_X4_code _ hi56 hq58) mk_X4_code lk_967 ⟨Nat.le_trans (by decide) hR.1, Nat.le_trans (by decide) hR.2⟩ ⟨Nat.zero_le _, Nat.zero_le _⟩ rfl hl.1 rfl rfl (Nat.le_of_ble_eq_true rfl) dX1_doJump_5 (fun hP H locs hw => ?_)
  refine lv_istore_n (lv' := [(2, .int r59), (0, .ref a0), (1, .int x1)]) hx hb dX1_doJump_8 rfl hl (by decide) rfl (fun ls hl => ?_)
  refine lv_iload_n hx hb dX1_doJump_9 rfl (lv_at hl 0 rfl) ?_
  refine lv_bipush (v := 9) hx hb dX1_doJump_10 (by decide) ?_
  refine lv_icmp_ne (tgt := 17) hx hb dX1_doJump_12 (by decide) (fun c60 => ?_) (fun c60 => ?_)
  · have h := i_no c60 h
    refine lv_iload_n hx hb dX1_doJump_17 rfl (lv_at hl 0 rfl) ?_
    refine lv_if_eq (tgt := 55) hx hb dX1_doJump_18 (by decide) (fun c61 => ?_) (fun c61 => ?_)
    · have h := i_yes c61 h
      exact w_X1_doJump_55 hC hR o0 a0 x1 _ _ _ _ hi0 hw (lv_sub hl [1, 2] rfl) h
    · have h := i_no c61 h
      refine lv_iload_n hx hb dX1_doJump_21 rfl (lv_at hl 0 rfl) ?_
      refine lv_aload_n hx hb dX1_doJump_22 rfl (lv_at hl 1 rfl) ?_
      obtain ⟨o62, ho65, h⟩ := rq_i h
      refine r_getR hC hw kc_1 hi0 0 rfl lk_219 dX1_doJump_23 rfl ho65 (fun a63 hi64 => ?_)
      refine lv_iload_n hx hb dX1_doJump_26 rfl (lv_at hl 2 rfl) ?_
      obtain ⟨r67, hq66, h⟩ := pq_i h
      refine r_cV (st' := [.int r67, .int r59]) [.int x1] [.int r59] hC hw kc_3 hi64 (k_X4_isWide _ hi64 hq66) mk_X4_isWide lk_968 ⟨Nat.le_trans (by decide) hR.1, Nat.le_trans (by decide) hR.2⟩ ⟨Nat.zero_le _, Nat.zero_le _⟩ rfl hl.1 rfl rfl (Nat.le_of_ble_eq_true rfl) dX1_doJump_27 (fun hP H locs hw => ?_)
      refine lv_aload_n hx hb dX1_doJump_30 rfl (lv_at hl 1 rfl) ?_
      obtain ⟨o68, ho71, h⟩ := rq_i h
      refine r_getR hC hw kc_1 hi0 2 rfl lk_221 dX1_doJump_31 rfl ho71 (fun a69 hi70 => ?_)
      refine lv_aload_n hx hb dX1_doJump_34 rfl (lv_at hl 1 rfl) ?_
      obtain ⟨o72, ho75, h⟩ := rq_i h
      refine r_getR hC hw kc_1 hi0 0 rfl lk_219 dX1_doJump_35 rfl ho75 (fun a73 hi74 => ?_)
      obtain ⟨o76, ho79, h⟩ := rq_i h
      refine r_getR hC hw kc_3 hi74 1 rfl lk_145 dX1_doJump_38 rfl ho79 (fun a77 hi78 => ?_)
      refine lv_iload_n hx hb dX1_doJump_41 rfl (lv_at hl 2 rfl) ?_
      obtain ⟨hn80, h⟩ := ix_i h
      refine r_iald hC hw hi78 hn80 dX1_doJump_42 ?_
      obtain ⟨hn81, h⟩ := ix_i h
      refine r_lald hC hw hi70 hn81 dX1_doJump_43 ?_
      refine lv_aload_n hx hb dX1_doJump_44 rfl (lv_at hl 1 rfl) ?_
      refine lv_iload_n hx hb dX1_doJump_45 rfl (lv_at hl 2 rfl) ?_
      obtain ⟨r83, hq82, h⟩ := pq_i h
      refine r_cV (st' := [.long r83, .long (gL D o68 (gI D o76 x1.toNatClampNeg).toNatClampNeg), .int r67, .int r59]) [.int x1] [.long (gL D o68 (gI D o76 x1.toNatClampNeg).toNatClampNeg), .int r67, .int r59] hC hw kc_1 hi0 (k_X1_x _ hi0 hq82) mk_X1_x lk_971 ⟨Nat.le_trans (by decide) hR.1, Nat.le_trans (by decide) hR.2⟩ ⟨Nat.zero_le _, Nat.zero_le _⟩ rfl hl.1 rfl rfl (Nat.le_of_ble_eq_true rfl) dX1_doJump_46 (fun hP H locs hw => ?_)
      obtain ⟨r85, hq84, h⟩ := pq_i h
      refine r_cS (st' := [.int r85]) [.int r59, .int r67, .long (gL D o68 (gI D o76 x1.toNatClampNeg).toNatClampNeg), .long r83] [] hC hw (k_X3_holds _ hq84) mk_X3_holds lk_1019 ⟨Nat.le_trans (by decide) hR.1, Nat.le_trans (by decide) hR.2⟩ ⟨Nat.zero_le _, Nat.zero_le _⟩ rfl hl.1 rfl rfl (Nat.le_of_ble_eq_true rfl) dX1_doJump_49 (fun hP H locs hw => ?_)
      refine lv_if_eq (tgt := 59) hx hb dX1_doJump_52 (by decide) (fun c86 => ?_) (fun c86 => ?_)
      · have h := i_yes c86 h
        refine lv_iconst (v := 0) hx hb dX1_doJump_59 (by decide) ?_
        exact w_X1_doJump_60 hC hR o0 a0 x1 (0 : Int32) _ _ _ _ hi0 hw (lv_sub hl [1, 2] rfl) h
      · have h := i_no c86 h
        exact w_X1_doJump_55 hC hR o0 a0 x1 _ _ _ _ hi0 hw (lv_sub hl [1, 2] rfl) h
  · have h := i_yes c60 h
    refine lv_iconst (v := 2) hx hb dX1_doJump_15 (by decide) ?_
    cases h
    exact r_iret hC hw dX1_doJump_16
set_option maxHeartbeats 4000000 in
set_option maxRecDepth 100000 in
theorem k_X1_doJump {l : Launch} {G : va_G} {cA : Nat → ClassId} {S : sh} {D D' : dt} {ad : Nat → Nat} (sz : Nat) {o0 a0 : Nat} {x1 : Int32} {r : Int32} (hi0 : Is S ad o0 a0 1) (h : f_X1_doJump S o0 x1 D = some (r, D')) : Co l yX1_doJump (Cond.code yX1_doJump cX1_doJump 4 (some .int) :: tb0) 2 53 [.ref a0, .int x1] G cA S D ad sz (some (.int r)) True D' := by
  refine Met.ofW (cc := cX1_doJump) (maxL := 4) (ret := (some .int)) (by decide) rfl ?_
  intro p e s m args below meth c s₁ B hml hv
  obtain ⟨rfl, hsz, hP, hK, hD0, hT, hX⟩ := hv
  subst hsz
  have hts := atoms_spec (ws := Cond.code yX1_doJump cX1_doJump 4 (some .int) :: tb0) B.pre
  have hC : Cx RX1 cX1_doJump 4 (some .int) p s m _ meth c := ⟨B.exec, B.bytes, hml, findClass_of_methodNamed B.named, fun w q => hts w (List.mem_cons_of_mem _ q), B.returns, B.notSynchronized⟩
  have hw := Wd.entry hP hK hD0 hT hX
  have hl := lv_entry ([.ref a0, .int x1]) (n := 4) (Nat.le_of_ble_eq_true rfl)
  rw [lg_entry_eq]
  exact w_X1_doJump_0 hC ⟨Nat.le_refl _, Nat.le_refl _⟩ o0 a0 x1 D _ _ _ hi0 hw hl h
end
