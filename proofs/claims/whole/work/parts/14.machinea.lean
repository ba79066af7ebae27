theorem dX1_init_0 : decode cX1_init 0 = .ok (.aload_n 0, 1) := by decide +kernel
theorem dX1_init_1 : decode cX1_init 1 = .ok (.invokespecial 3, 3) := by decide +kernel
theorem dX1_init_4 : decode cX1_init 4 = .ok (.aload_n 0, 1) := by decide +kernel
theorem dX1_init_5 : decode cX1_init 5 = .ok (.bipush 11, 2) := by decide +kernel
theorem dX1_init_7 : decode cX1_init 7 = .ok (.newarray .long, 2) := by decide +kernel
theorem dX1_init_9 : decode cX1_init 9 = .ok (.putfield 9, 3) := by decide +kernel
theorem dX1_init_12 : decode cX1_init 12 = .ok (.aload_n 0, 1) := by decide +kernel
theorem dX1_init_13 : decode cX1_init 13 = .ok (.bipush 32, 2) := by decide +kernel
theorem dX1_init_15 : decode cX1_init 15 = .ok (.newarray .long, 2) := by decide +kernel
theorem dX1_init_17 : decode cX1_init 17 = .ok (.putfield 15, 3) := by decide +kernel
theorem dX1_init_20 : decode cX1_init 20 = .ok (.aload_n 0, 1) := by decide +kernel
theorem dX1_init_21 : decode cX1_init 21 = .ok (.aload_n 1, 1) := by decide +kernel
theorem dX1_init_22 : decode cX1_init 22 = .ok (.putfield 18, 3) := by decide +kernel
theorem dX1_init_25 : decode cX1_init 25 = .ok (.aload_n 0, 1) := by decide +kernel
theorem dX1_init_26 : decode cX1_init 26 = .ok (.aload_n 2, 1) := by decide +kernel
theorem dX1_init_27 : decode cX1_init 27 = .ok (.putfield 22, 3) := by decide +kernel
theorem dX1_init_30 : decode cX1_init 30 = .ok (.return_, 1) := by decide +kernel
theorem dX1_begin_0 : decode cX1_begin 0 = .ok (.aload_n 0, 1) := by decide +kernel
theorem dX1_begin_1 : decode cX1_begin 1 = .ok (.getfield 9, 3) := by decide +kernel
theorem dX1_begin_4 : decode cX1_begin 4 = .ok (.lconst 0, 1) := by decide +kernel
theorem dX1_begin_5 : decode cX1_begin 5 = .ok (.invokestatic 26, 3) := by decide +kernel
theorem dX1_begin_8 : decode cX1_begin 8 = .ok (.aload_n 0, 1) := by decide +kernel
theorem dX1_begin_9 : decode cX1_begin 9 = .ok (.getfield 9, 3) := by decide +kernel
theorem dX1_begin_12 : decode cX1_begin 12 = .ok (.iconst 1, 1) := by decide +kernel
theorem dX1_begin_13 : decode cX1_begin 13 = .ok (.ldc2_w 32, 3) := by decide +kernel
theorem dX1_begin_16 : decode cX1_begin 16 = .ok (.lastore, 1) := by decide +kernel
theorem dX1_begin_17 : decode cX1_begin 17 = .ok (.aload_n 0, 1) := by decide +kernel
theorem dX1_begin_18 : decode cX1_begin 18 = .ok (.getfield 9, 3) := by decide +kernel
theorem dX1_begin_21 : decode cX1_begin 21 = .ok (.bipush 10, 2) := by decide +kernel
theorem dX1_begin_23 : decode cX1_begin 23 = .ok (.ldc2_w 34, 3) := by decide +kernel
theorem dX1_begin_26 : decode cX1_begin 26 = .ok (.lastore, 1) := by decide +kernel
theorem dX1_begin_27 : decode cX1_begin 27 = .ok (.aload_n 0, 1) := by decide +kernel
theorem dX1_begin_28 : decode cX1_begin 28 = .ok (.getfield 22, 3) := by decide +kernel
theorem dX1_begin_31 : decode cX1_begin 31 = .ok (.getfield 36, 3) := by decide +kernel
theorem dX1_begin_34 : decode cX1_begin 34 = .ok (.iconst 0, 1) := by decide +kernel
theorem dX1_begin_35 : decode cX1_begin 35 = .ok (.invokestatic 42, 3) := by decide +kernel
theorem dX1_begin_38 : decode cX1_begin 38 = .ok (.aload_n 0, 1) := by decide +kernel
theorem dX1_begin_39 : decode cX1_begin 39 = .ok (.iconst 0, 1) := by decide +kernel
theorem dX1_begin_40 : decode cX1_begin 40 = .ok (.putfield 45, 3) := by decide +kernel
theorem dX1_begin_43 : decode cX1_begin 43 = .ok (.aload_n 0, 1) := by decide +kernel
theorem dX1_begin_44 : decode cX1_begin 44 = .ok (.iconst 0, 1) := by decide +kernel
theorem dX1_begin_45 : decode cX1_begin 45 = .ok (.putfield 49, 3) := by decide +kernel
theorem dX1_begin_48 : decode cX1_begin 48 = .ok (.aload_n 0, 1) := by decide +kernel
theorem dX1_begin_49 : decode cX1_begin 49 = .ok (.iconst 0, 1) := by decide +kernel
theorem dX1_begin_50 : decode cX1_begin 50 = .ok (.putfield 52, 3) := by decide +kernel
theorem dX1_begin_53 : decode cX1_begin 53 = .ok (.aload_n 0, 1) := by decide +kernel
theorem dX1_begin_54 : decode cX1_begin 54 = .ok (.iconst 1, 1) := by decide +kernel
theorem dX1_begin_55 : decode cX1_begin 55 = .ok (.putfield 55, 3) := by decide +kernel
theorem dX1_begin_58 : decode cX1_begin 58 = .ok (.return_, 1) := by decide +kernel
theorem dX1_goTo_0 : decode cX1_goTo 0 = .ok (.aload_n 0, 1) := by decide +kernel
theorem dX1_goTo_1 : decode cX1_goTo 1 = .ok (.iload_n 1, 1) := by decide +kernel
theorem dX1_goTo_2 : decode cX1_goTo 2 = .ok (.putfield 49, 3) := by decide +kernel
theorem dX1_goTo_5 : decode cX1_goTo 5 = .ok (.iconst 1, 1) := by decide +kernel
theorem dX1_goTo_6 : decode cX1_goTo 6 = .ok (.ireturn, 1) := by decide +kernel
theorem dX1_doPair_0 : decode cX1_doPair 0 = .ok (.aload_n 0, 1) := by decide +kernel
theorem dX1_doPair_1 : decode cX1_doPair 1 = .ok (.getfield 18, 3) := by decide +kernel
theorem dX1_doPair_4 : decode cX1_doPair 4 = .ok (.getfield 87, 3) := by decide +kernel
theorem dX1_doPair_7 : decode cX1_doPair 7 = .ok (.iload_n 1, 1) := by decide +kernel
theorem dX1_doPair_8 : decode cX1_doPair 8 = .ok (.iaload, 1) := by decide +kernel
theorem dX1_doPair_9 : decode cX1_doPair 9 = .ok (.istore_n 2, 1) := by decide +kernel
theorem dX1_doPair_10 : decode cX1_doPair 10 = .ok (.aload_n 0, 1) := by decide +kernel
theorem dX1_doPair_11 : decode cX1_doPair 11 = .ok (.getfield 18, 3) := by decide +kernel
theorem dX1_doPair_14 : decode cX1_doPair 14 = .ok (.getfield 97, 3) := by decide +kernel
theorem dX1_doPair_17 : decode cX1_doPair 17 = .ok (.iload_n 1, 1) := by decide +kernel
theorem dX1_doPair_18 : decode cX1_doPair 18 = .ok (.iaload, 1) := by decide +kernel
theorem dX1_doPair_19 : decode cX1_doPair 19 = .ok (.iconst 1, 1) := by decide +kernel
theorem dX1_doPair_20 : decode cX1_doPair 20 = .ok (.if_icmp .ne 7, 3) := by decide +kernel
theorem dX1_doPair_23 : decode cX1_doPair 23 = .ok (.iconst 1, 1) := by decide +kernel
theorem dX1_doPair_24 : decode cX1_doPair 24 = .ok (.goto 4, 3) := by decide +kernel
theorem dX1_doPair_27 : decode cX1_doPair 27 = .ok (.iconst 0, 1) := by decide +kernel
theorem dX1_doPair_28 : decode cX1_doPair 28 = .ok (.istore_n 3, 1) := by decide +kernel
theorem dX1_doPair_29 : decode cX1_doPair 29 = .ok (.aload_n 0, 1) := by decide +kernel
theorem dX1_doPair_30 : decode cX1_doPair 30 = .ok (.getfield 18, 3) := by decide +kernel
theorem dX1_doPair_33 : decode cX1_doPair 33 = .ok (.iload_n 1, 1) := by decide +kernel
theorem dX1_doPair_34 : decode cX1_doPair 34 = .ok (.iconst 1, 1) := by decide +kernel
theorem dX1_doPair_35 : decode cX1_doPair 35 = .ok (.iadd, 1) := by decide +kernel
theorem dX1_doPair_36 : decode cX1_doPair 36 = .ok (.invokevirtual 64, 3) := by decide +kernel
theorem dX1_doPair_39 : decode cX1_doPair 39 = .ok (.ifCond .ne 5, 3) := by decide +kernel
theorem dX1_doPair_42 : decode cX1_doPair 42 = .ok (.iconst 5, 1) := by decide +kernel
theorem dX1_doPair_43 : decode cX1_doPair 43 = .ok (.ireturn, 1) := by decide +kernel
theorem dX1_doPair_44 : decode cX1_doPair 44 = .ok (.iload_n 3, 1) := by decide +kernel
theorem dX1_doPair_45 : decode cX1_doPair 45 = .ok (.ifCond .eq 16, 3) := by decide +kernel
theorem dX1_doPair_48 : decode cX1_doPair 48 = .ok (.aload_n 0, 1) := by decide +kernel
theorem dX1_doPair_49 : decode cX1_doPair 49 = .ok (.getfield 22, 3) := by decide +kernel
theorem dX1_doPair_52 : decode cX1_doPair 52 = .ok (.iload_n 2, 1) := by decide +kernel
theorem dX1_doPair_53 : decode cX1_doPair 53 = .ok (.invokevirtual 118, 3) := by decide +kernel
theorem dX1_doPair_56 : decode cX1_doPair 56 = .ok (.ifnonnull 5, 3) := by decide +kernel
theorem dX1_doPair_59 : decode cX1_doPair 59 = .ok (.iconst 4, 1) := by decide +kernel
theorem dX1_doPair_60 : decode cX1_doPair 60 = .ok (.ireturn, 1) := by decide +kernel
theorem dX1_doPair_61 : decode cX1_doPair 61 = .ok (.aload_n 0, 1) := by decide +kernel
theorem dX1_doPair_62 : decode cX1_doPair 62 = .ok (.getfield 18, 3) := by decide +kernel
theorem dX1_doPair_65 : decode cX1_doPair 65 = .ok (.getfield 87, 3) := by decide +kernel
theorem dX1_doPair_68 : decode cX1_doPair 68 = .ok (.iload_n 1, 1) := by decide +kernel
theorem dX1_doPair_69 : decode cX1_doPair 69 = .ok (.iconst 1, 1) := by decide +kernel
theorem dX1_doPair_70 : decode cX1_doPair 70 = .ok (.iadd, 1) := by decide +kernel
theorem dX1_doPair_71 : decode cX1_doPair 71 = .ok (.iaload, 1) := by decide +kernel
theorem dX1_doPair_72 : decode cX1_doPair 72 = .ok (.i2l, 1) := by decide +kernel
theorem dX1_doPair_73 : decode cX1_doPair 73 = .ok (.bipush 32, 2) := by decide +kernel
theorem dX1_doPair_75 : decode cX1_doPair 75 = .ok (.lshl, 1) := by decide +kernel
theorem dX1_doPair_76 : decode cX1_doPair 76 = .ok (.iload_n 2, 1) := by decide +kernel
theorem dX1_doPair_77 : decode cX1_doPair 77 = .ok (.i2l, 1) := by decide +kernel
theorem dX1_doPair_78 : decode cX1_doPair 78 = .ok (.ldc2_w 122, 3) := by decide +kernel
theorem dX1_doPair_81 : decode cX1_doPair 81 = .ok (.land, 1) := by decide +kernel
theorem dX1_doPair_82 : decode cX1_doPair 82 = .ok (.lor, 1) := by decide +kernel
theorem dX1_doPair_83 : decode cX1_doPair 83 = .ok (.lstore 4, 2) := by decide +kernel
theorem dX1_doPair_85 : decode cX1_doPair 85 = .ok (.aload_n 0, 1) := by decide +kernel
theorem dX1_doPair_86 : decode cX1_doPair 86 = .ok (.getfield 9, 3) := by decide +kernel
theorem dX1_doPair_89 : decode cX1_doPair 89 = .ok (.aload_n 0, 1) := by decide +kernel
theorem dX1_doPair_90 : decode cX1_doPair 90 = .ok (.getfield 18, 3) := by decide +kernel
theorem dX1_doPair_93 : decode cX1_doPair 93 = .ok (.getfield 124, 3) := by decide +kernel
theorem dX1_doPair_96 : decode cX1_doPair 96 = .ok (.iload_n 1, 1) := by decide +kernel
theorem dX1_doPair_97 : decode cX1_doPair 97 = .ok (.iaload, 1) := by decide +kernel
theorem dX1_doPair_98 : decode cX1_doPair 98 = .ok (.iload_n 3, 1) := by decide +kernel
theorem dX1_doPair_99 : decode cX1_doPair 99 = .ok (.ifCond .eq 12, 3) := by decide +kernel
theorem dX1_doPair_102 : decode cX1_doPair 102 = .ok (.ldc2_w 127, 3) := by decide +kernel
theorem dX1_doPair_105 : decode cX1_doPair 105 = .ok (.iload_n 2, 1) := by decide +kernel
theorem dX1_doPair_106 : decode cX1_doPair 106 = .ok (.i2l, 1) := by decide +kernel
theorem dX1_doPair_107 : decode cX1_doPair 107 = .ok (.ladd, 1) := by decide +kernel
theorem dX1_doPair_108 : decode cX1_doPair 108 = .ok (.goto 5, 3) := by decide +kernel
theorem dX1_doPair_111 : decode cX1_doPair 111 = .ok (.lload 4, 2) := by decide +kernel
theorem dX1_doPair_113 : decode cX1_doPair 113 = .ok (.lastore, 1) := by decide +kernel
theorem dX1_doPair_114 : decode cX1_doPair 114 = .ok (.aload_n 0, 1) := by decide +kernel
theorem dX1_doPair_115 : decode cX1_doPair 115 = .ok (.iload_n 1, 1) := by decide +kernel
theorem dX1_doPair_116 : decode cX1_doPair 116 = .ok (.iconst 2, 1) := by decide +kernel
theorem dX1_doPair_117 : decode cX1_doPair 117 = .ok (.iadd, 1) := by decide +kernel
theorem dX1_doPair_118 : decode cX1_doPair 118 = .ok (.invokevirtual 129, 3) := by decide +kernel
theorem dX1_doPair_121 : decode cX1_doPair 121 = .ok (.ireturn, 1) := by decide +kernel
theorem dX1_doLoad_0 : decode cX1_doLoad 0 = .ok (.aload_n 0, 1) := by decide +kernel
theorem dX1_doLoad_1 : decode cX1_doLoad 1 = .ok (.getfield 18, 3) := by decide +kernel
theorem dX1_doLoad_4 : decode cX1_doLoad 4 = .ok (.iload_n 1, 1) := by decide +kernel
theorem dX1_doLoad_5 : decode cX1_doLoad 5 = .ok (.invokevirtual 132, 3) := by decide +kernel
theorem dX1_doLoad_8 : decode cX1_doLoad 8 = .ok (.istore_n 2, 1) := by decide +kernel
theorem dX1_doLoad_9 : decode cX1_doLoad 9 = .ok (.aload_n 0, 1) := by decide +kernel
theorem dX1_doLoad_10 : decode cX1_doLoad 10 = .ok (.getfield 22, 3) := by decide +kernel
theorem dX1_doLoad_13 : decode cX1_doLoad 13 = .ok (.aload_n 0, 1) := by decide +kernel
theorem dX1_doLoad_14 : decode cX1_doLoad 14 = .ok (.getfield 9, 3) := by decide +kernel
theorem dX1_doLoad_17 : decode cX1_doLoad 17 = .ok (.aload_n 0, 1) := by decide +kernel
theorem dX1_doLoad_18 : decode cX1_doLoad 18 = .ok (.getfield 18, 3) := by decide +kernel
theorem dX1_doLoad_21 : decode cX1_doLoad 21 = .ok (.getfield 97, 3) := by decide +kernel
theorem dX1_doLoad_24 : decode cX1_doLoad 24 = .ok (.iload_n 1, 1) := by decide +kernel
theorem dX1_doLoad_25 : decode cX1_doLoad 25 = .ok (.iaload, 1) := by decide +kernel
theorem dX1_doLoad_26 : decode cX1_doLoad 26 = .ok (.laload, 1) := by decide +kernel
theorem dX1_doLoad_27 : decode cX1_doLoad 27 = .ok (.aload_n 0, 1) := by decide +kernel
theorem dX1_doLoad_28 : decode cX1_doLoad 28 = .ok (.getfield 18, 3) := by decide +kernel
theorem dX1_doLoad_31 : decode cX1_doLoad 31 = .ok (.getfield 135, 3) := by decide +kernel
theorem dX1_doLoad_34 : decode cX1_doLoad 34 = .ok (.iload_n 1, 1) := by decide +kernel
theorem dX1_doLoad_35 : decode cX1_doLoad 35 = .ok (.iaload, 1) := by decide +kernel
theorem dX1_doLoad_36 : decode cX1_doLoad 36 = .ok (.i2l, 1) := by decide +kernel
theorem dX1_doLoad_37 : decode cX1_doLoad 37 = .ok (.ladd, 1) := by decide +kernel
theorem dX1_doLoad_38 : decode cX1_doLoad 38 = .ok (.iload_n 2, 1) := by decide +kernel
theorem dX1_doLoad_39 : decode cX1_doLoad 39 = .ok (.iconst 0, 1) := by decide +kernel
theorem dX1_doLoad_40 : decode cX1_doLoad 40 = .ok (.invokevirtual 138, 3) := by decide +kernel
theorem dX1_doLoad_43 : decode cX1_doLoad 43 = .ok (.ifCond .ne 5, 3) := by decide +kernel
theorem dX1_doLoad_46 : decode cX1_doLoad 46 = .ok (.iconst 4, 1) := by decide +kernel
theorem dX1_doLoad_47 : decode cX1_doLoad 47 = .ok (.ireturn, 1) := by decide +kernel
theorem dX1_doLoad_48 : decode cX1_doLoad 48 = .ok (.aload_n 0, 1) := by decide +kernel
theorem dX1_doLoad_49 : decode cX1_doLoad 49 = .ok (.getfield 22, 3) := by decide +kernel
theorem dX1_doLoad_52 : decode cX1_doLoad 52 = .ok (.iload_n 2, 1) := by decide +kernel
theorem dX1_doLoad_53 : decode cX1_doLoad 53 = .ok (.invokevirtual 142, 3) := by decide +kernel
theorem dX1_doLoad_56 : decode cX1_doLoad 56 = .ok (.lstore_n 3, 1) := by decide +kernel
theorem dX1_doLoad_57 : decode cX1_doLoad 57 = .ok (.aload_n 0, 1) := by decide +kernel
theorem dX1_doLoad_58 : decode cX1_doLoad 58 = .ok (.getfield 9, 3) := by decide +kernel
theorem dX1_doLoad_61 : decode cX1_doLoad 61 = .ok (.aload_n 0, 1) := by decide +kernel
theorem dX1_doLoad_62 : decode cX1_doLoad 62 = .ok (.getfield 18, 3) := by decide +kernel
theorem dX1_doLoad_65 : decode cX1_doLoad 65 = .ok (.getfield 124, 3) := by decide +kernel
theorem dX1_doLoad_68 : decode cX1_doLoad 68 = .ok (.iload_n 1, 1) := by decide +kernel
theorem dX1_doLoad_69 : decode cX1_doLoad 69 = .ok (.iaload, 1) := by decide +kernel
theorem dX1_doLoad_70 : decode cX1_doLoad 70 = .ok (.aload_n 0, 1) := by decide +kernel
theorem dX1_doLoad_71 : decode cX1_doLoad 71 = .ok (.getfield 18, 3) := by decide +kernel
theorem dX1_doLoad_74 : decode cX1_doLoad 74 = .ok (.iload_n 1, 1) := by decide +kernel
theorem dX1_doLoad_75 : decode cX1_doLoad 75 = .ok (.invokevirtual 146, 3) := by decide +kernel
theorem dX1_doLoad_78 : decode cX1_doLoad 78 = .ok (.ifCond .eq 14, 3) := by decide +kernel
theorem dX1_doLoad_81 : decode cX1_doLoad 81 = .ok (.lload_n 3, 1) := by decide +kernel
theorem dX1_doLoad_82 : decode cX1_doLoad 82 = .ok (.bipush 8, 2) := by decide +kernel
theorem dX1_doLoad_84 : decode cX1_doLoad 84 = .ok (.iload_n 2, 1) := by decide +kernel
theorem dX1_doLoad_85 : decode cX1_doLoad 85 = .ok (.imul, 1) := by decide +kernel
theorem dX1_doLoad_86 : decode cX1_doLoad 86 = .ok (.invokestatic 149, 3) := by decide +kernel
theorem dX1_doLoad_89 : decode cX1_doLoad 89 = .ok (.goto 4, 3) := by decide +kernel
theorem dX1_doLoad_92 : decode cX1_doLoad 92 = .ok (.lload_n 3, 1) := by decide +kernel
theorem dX1_doLoad_93 : decode cX1_doLoad 93 = .ok (.lastore, 1) := by decide +kernel
theorem dX1_doLoad_94 : decode cX1_doLoad 94 = .ok (.aload_n 0, 1) := by decide +kernel
theorem dX1_doLoad_95 : decode cX1_doLoad 95 = .ok (.iload_n 1, 1) := by decide +kernel
theorem dX1_doLoad_96 : decode cX1_doLoad 96 = .ok (.iconst 1, 1) := by decide +kernel
theorem dX1_doLoad_97 : decode cX1_doLoad 97 = .ok (.iadd, 1) := by decide +kernel
theorem dX1_doLoad_98 : decode cX1_doLoad 98 = .ok (.invokevirtual 129, 3) := by decide +kernel
theorem dX1_doLoad_101 : decode cX1_doLoad 101 = .ok (.ireturn, 1) := by decide +kernel
theorem dX1_doPut_0 : decode cX1_doPut 0 = .ok (.aload_n 0, 1) := by decide +kernel
theorem dX1_doPut_1 : decode cX1_doPut 1 = .ok (.getfield 18, 3) := by decide +kernel
theorem dX1_doPut_4 : decode cX1_doPut 4 = .ok (.iload_n 1, 1) := by decide +kernel
theorem dX1_doPut_5 : decode cX1_doPut 5 = .ok (.invokevirtual 132, 3) := by decide +kernel
theorem dX1_doPut_8 : decode cX1_doPut 8 = .ok (.istore 4, 2) := by decide +kernel
theorem dX1_doPut_10 : decode cX1_doPut 10 = .ok (.aload_n 0, 1) := by decide +kernel
theorem dX1_doPut_11 : decode cX1_doPut 11 = .ok (.getfield 22, 3) := by decide +kernel
theorem dX1_doPut_14 : decode cX1_doPut 14 = .ok (.aload_n 0, 1) := by decide +kernel
theorem dX1_doPut_15 : decode cX1_doPut 15 = .ok (.getfield 9, 3) := by decide +kernel
theorem dX1_doPut_18 : decode cX1_doPut 18 = .ok (.aload_n 0, 1) := by decide +kernel
theorem dX1_doPut_19 : decode cX1_doPut 19 = .ok (.getfield 18, 3) := by decide +kernel
theorem dX1_doPut_22 : decode cX1_doPut 22 = .ok (.getfield 124, 3) := by decide +kernel
theorem dX1_doPut_25 : decode cX1_doPut 25 = .ok (.iload_n 1, 1) := by decide +kernel
theorem dX1_doPut_26 : decode cX1_doPut 26 = .ok (.iaload, 1) := by decide +kernel
theorem dX1_doPut_27 : decode cX1_doPut 27 = .ok (.laload, 1) := by decide +kernel
theorem dX1_doPut_28 : decode cX1_doPut 28 = .ok (.aload_n 0, 1) := by decide +kernel
theorem dX1_doPut_29 : decode cX1_doPut 29 = .ok (.getfield 18, 3) := by decide +kernel
theorem dX1_doPut_32 : decode cX1_doPut 32 = .ok (.getfield 135, 3) := by decide +kernel
theorem dX1_doPut_35 : decode cX1_doPut 35 = .ok (.iload_n 1, 1) := by decide +kernel
theorem dX1_doPut_36 : decode cX1_doPut 36 = .ok (.iaload, 1) := by decide +kernel
theorem dX1_doPut_37 : decode cX1_doPut 37 = .ok (.i2l, 1) := by decide +kernel
theorem dX1_doPut_38 : decode cX1_doPut 38 = .ok (.ladd, 1) := by decide +kernel
theorem dX1_doPut_39 : decode cX1_doPut 39 = .ok (.iload 4, 2) := by decide +kernel
theorem dX1_doPut_41 : decode cX1_doPut 41 = .ok (.iconst 1, 1) := by decide +kernel
theorem dX1_doPut_42 : decode cX1_doPut 42 = .ok (.invokevirtual 138, 3) := by decide +kernel
theorem dX1_doPut_45 : decode cX1_doPut 45 = .ok (.ifCond .ne 5, 3) := by decide +kernel
theorem dX1_doPut_48 : decode cX1_doPut 48 = .ok (.iconst 4, 1) := by decide +kernel
theorem dX1_doPut_49 : decode cX1_doPut 49 = .ok (.ireturn, 1) := by decide +kernel
theorem dX1_doPut_50 : decode cX1_doPut 50 = .ok (.aload_n 0, 1) := by decide +kernel
theorem dX1_doPut_51 : decode cX1_doPut 51 = .ok (.getfield 22, 3) := by decide +kernel
theorem dX1_doPut_54 : decode cX1_doPut 54 = .ok (.lload_n 2, 1) := by decide +kernel
theorem dX1_doPut_55 : decode cX1_doPut 55 = .ok (.iload 4, 2) := by decide +kernel
theorem dX1_doPut_57 : decode cX1_doPut 57 = .ok (.invokevirtual 155, 3) := by decide +kernel
theorem dX1_doPut_60 : decode cX1_doPut 60 = .ok (.aload_n 0, 1) := by decide +kernel
theorem dX1_doPut_61 : decode cX1_doPut 61 = .ok (.iload_n 1, 1) := by decide +kernel
theorem dX1_doPut_62 : decode cX1_doPut 62 = .ok (.iconst 1, 1) := by decide +kernel
theorem dX1_doPut_63 : decode cX1_doPut 63 = .ok (.iadd, 1) := by decide +kernel
theorem dX1_doPut_64 : decode cX1_doPut 64 = .ok (.invokevirtual 129, 3) := by decide +kernel
theorem dX1_doPut_67 : decode cX1_doPut 67 = .ok (.ireturn, 1) := by decide +kernel
theorem dX1_doChange_0 : decode cX1_doChange 0 = .ok (.aload_n 0, 1) := by decide +kernel
theorem dX1_doChange_1 : decode cX1_doChange 1 = .ok (.getfield 18, 3) := by decide +kernel
theorem dX1_doChange_4 : decode cX1_doChange 4 = .ok (.iload_n 1, 1) := by decide +kernel
theorem dX1_doChange_5 : decode cX1_doChange 5 = .ok (.invokevirtual 132, 3) := by decide +kernel
theorem dX1_doChange_8 : decode cX1_doChange 8 = .ok (.istore_n 2, 1) := by decide +kernel
theorem dX1_doChange_9 : decode cX1_doChange 9 = .ok (.aload_n 0, 1) := by decide +kernel
theorem dX1_doChange_10 : decode cX1_doChange 10 = .ok (.getfield 18, 3) := by decide +kernel
theorem dX1_doChange_13 : decode cX1_doChange 13 = .ok (.getfield 87, 3) := by decide +kernel
theorem dX1_doChange_16 : decode cX1_doChange 16 = .ok (.iload_n 1, 1) := by decide +kernel
theorem dX1_doChange_17 : decode cX1_doChange 17 = .ok (.iaload, 1) := by decide +kernel
theorem dX1_doChange_18 : decode cX1_doChange 18 = .ok (.istore_n 3, 1) := by decide +kernel
theorem dX1_doChange_19 : decode cX1_doChange 19 = .ok (.aload_n 0, 1) := by decide +kernel
theorem dX1_doChange_20 : decode cX1_doChange 20 = .ok (.getfield 22, 3) := by decide +kernel
theorem dX1_doChange_23 : decode cX1_doChange 23 = .ok (.aload_n 0, 1) := by decide +kernel
theorem dX1_doChange_24 : decode cX1_doChange 24 = .ok (.getfield 9, 3) := by decide +kernel
theorem dX1_doChange_27 : decode cX1_doChange 27 = .ok (.aload_n 0, 1) := by decide +kernel
theorem dX1_doChange_28 : decode cX1_doChange 28 = .ok (.getfield 18, 3) := by decide +kernel
theorem dX1_doChange_31 : decode cX1_doChange 31 = .ok (.getfield 124, 3) := by decide +kernel
theorem dX1_doChange_34 : decode cX1_doChange 34 = .ok (.iload_n 1, 1) := by decide +kernel
theorem dX1_doChange_35 : decode cX1_doChange 35 = .ok (.iaload, 1) := by decide +kernel
theorem dX1_doChange_36 : decode cX1_doChange 36 = .ok (.laload, 1) := by decide +kernel
theorem dX1_doChange_37 : decode cX1_doChange 37 = .ok (.aload_n 0, 1) := by decide +kernel
theorem dX1_doChange_38 : decode cX1_doChange 38 = .ok (.getfield 18, 3) := by decide +kernel
theorem dX1_doChange_41 : decode cX1_doChange 41 = .ok (.getfield 135, 3) := by decide +kernel
theorem dX1_doChange_44 : decode cX1_doChange 44 = .ok (.iload_n 1, 1) := by decide +kernel
theorem dX1_doChange_45 : decode cX1_doChange 45 = .ok (.iaload, 1) := by decide +kernel
theorem dX1_doChange_46 : decode cX1_doChange 46 = .ok (.i2l, 1) := by decide +kernel
theorem dX1_doChange_47 : decode cX1_doChange 47 = .ok (.ladd, 1) := by decide +kernel
theorem dX1_doChange_48 : decode cX1_doChange 48 = .ok (.iload_n 2, 1) := by decide +kernel
theorem dX1_doChange_49 : decode cX1_doChange 49 = .ok (.iconst 1, 1) := by decide +kernel
theorem dX1_doChange_50 : decode cX1_doChange 50 = .ok (.invokevirtual 138, 3) := by decide +kernel
theorem dX1_doChange_53 : decode cX1_doChange 53 = .ok (.ifCond .ne 5, 3) := by decide +kernel
theorem dX1_doChange_56 : decode cX1_doChange 56 = .ok (.iconst 4, 1) := by decide +kernel
theorem dX1_doChange_57 : decode cX1_doChange 57 = .ok (.ireturn, 1) := by decide +kernel
theorem dX1_doChange_58 : decode cX1_doChange 58 = .ok (.aload_n 0, 1) := by decide +kernel
theorem dX1_doChange_59 : decode cX1_doChange 59 = .ok (.getfield 22, 3) := by decide +kernel
theorem dX1_doChange_62 : decode cX1_doChange 62 = .ok (.iload_n 2, 1) := by decide +kernel
theorem dX1_doChange_63 : decode cX1_doChange 63 = .ok (.invokevirtual 142, 3) := by decide +kernel
theorem dX1_doChange_66 : decode cX1_doChange 66 = .ok (.lstore 4, 2) := by decide +kernel
theorem dX1_doChange_68 : decode cX1_doChange 68 = .ok (.aload_n 0, 1) := by decide +kernel
theorem dX1_doChange_69 : decode cX1_doChange 69 = .ok (.getfield 9, 3) := by decide +kernel
theorem dX1_doChange_72 : decode cX1_doChange 72 = .ok (.aload_n 0, 1) := by decide +kernel
theorem dX1_doChange_73 : decode cX1_doChange 73 = .ok (.getfield 18, 3) := by decide +kernel
theorem dX1_doChange_76 : decode cX1_doChange 76 = .ok (.getfield 97, 3) := by decide +kernel
theorem dX1_doChange_79 : decode cX1_doChange 79 = .ok (.iload_n 1, 1) := by decide +kernel
theorem dX1_doChange_80 : decode cX1_doChange 80 = .ok (.iaload, 1) := by decide +kernel
theorem dX1_doChange_81 : decode cX1_doChange 81 = .ok (.laload, 1) := by decide +kernel
theorem dX1_doChange_82 : decode cX1_doChange 82 = .ok (.lstore 6, 2) := by decide +kernel
theorem dX1_doChange_84 : decode cX1_doChange 84 = .ok (.iload_n 3, 1) := by decide +kernel
theorem dX1_doChange_85 : decode cX1_doChange 85 = .ok (.sipush 241, 3) := by decide +kernel
theorem dX1_doChange_88 : decode cX1_doChange 88 = .ok (.if_icmp .ne 69, 3) := by decide +kernel
theorem dX1_doChange_91 : decode cX1_doChange 91 = .ok (.iload_n 2, 1) := by decide +kernel
theorem dX1_doChange_92 : decode cX1_doChange 92 = .ok (.bipush 8, 2) := by decide +kernel
theorem dX1_doChange_94 : decode cX1_doChange 94 = .ok (.if_icmp .ne 12, 3) := by decide +kernel
theorem dX1_doChange_97 : decode cX1_doChange 97 = .ok (.aload_n 0, 1) := by decide +kernel
theorem dX1_doChange_98 : decode cX1_doChange 98 = .ok (.getfield 9, 3) := by decide +kernel
theorem dX1_doChange_101 : decode cX1_doChange 101 = .ok (.iconst 0, 1) := by decide +kernel
theorem dX1_doChange_102 : decode cX1_doChange 102 = .ok (.laload, 1) := by decide +kernel
theorem dX1_doChange_103 : decode cX1_doChange 103 = .ok (.goto 13, 3) := by decide +kernel
theorem dX1_doChange_106 : decode cX1_doChange 106 = .ok (.aload_n 0, 1) := by decide +kernel
theorem dX1_doChange_107 : decode cX1_doChange 107 = .ok (.getfield 9, 3) := by decide +kernel
theorem dX1_doChange_110 : decode cX1_doChange 110 = .ok (.iconst 0, 1) := by decide +kernel
theorem dX1_doChange_111 : decode cX1_doChange 111 = .ok (.laload, 1) := by decide +kernel
theorem dX1_doChange_112 : decode cX1_doChange 112 = .ok (.ldc2_w 122, 3) := by decide +kernel
theorem dX1_doChange_115 : decode cX1_doChange 115 = .ok (.land, 1) := by decide +kernel
theorem dX1_doChange_116 : decode cX1_doChange 116 = .ok (.lstore 8, 2) := by decide +kernel
theorem dX1_doChange_118 : decode cX1_doChange 118 = .ok (.aload_n 0, 1) := by decide +kernel
theorem dX1_doChange_119 : decode cX1_doChange 119 = .ok (.getfield 22, 3) := by decide +kernel
theorem dX1_doChange_122 : decode cX1_doChange 122 = .ok (.lload 4, 2) := by decide +kernel
theorem dX1_doChange_124 : decode cX1_doChange 124 = .ok (.lload 8, 2) := by decide +kernel
theorem dX1_doChange_126 : decode cX1_doChange 126 = .ok (.lcmp, 1) := by decide +kernel
theorem dX1_doChange_127 : decode cX1_doChange 127 = .ok (.ifCond .ne 8, 3) := by decide +kernel
theorem dX1_doChange_130 : decode cX1_doChange 130 = .ok (.lload 6, 2) := by decide +kernel
theorem dX1_doChange_132 : decode cX1_doChange 132 = .ok (.goto 5, 3) := by decide +kernel
theorem dX1_doChange_135 : decode cX1_doChange 135 = .ok (.lload 4, 2) := by decide +kernel
theorem dX1_doChange_137 : decode cX1_doChange 137 = .ok (.iload_n 2, 1) := by decide +kernel
theorem dX1_doChange_138 : decode cX1_doChange 138 = .ok (.invokevirtual 155, 3) := by decide +kernel
theorem dX1_doChange_141 : decode cX1_doChange 141 = .ok (.aload_n 0, 1) := by decide +kernel
theorem dX1_doChange_142 : decode cX1_doChange 142 = .ok (.getfield 9, 3) := by decide +kernel
theorem dX1_doChange_145 : decode cX1_doChange 145 = .ok (.iconst 0, 1) := by decide +kernel
theorem dX1_doChange_146 : decode cX1_doChange 146 = .ok (.lload 4, 2) := by decide +kernel
theorem dX1_doChange_148 : decode cX1_doChange 148 = .ok (.lastore, 1) := by decide +kernel
theorem dX1_doChange_149 : decode cX1_doChange 149 = .ok (.aload_n 0, 1) := by decide +kernel
theorem dX1_doChange_150 : decode cX1_doChange 150 = .ok (.iload_n 1, 1) := by decide +kernel
theorem dX1_doChange_151 : decode cX1_doChange 151 = .ok (.iconst 1, 1) := by decide +kernel
theorem dX1_doChange_152 : decode cX1_doChange 152 = .ok (.iadd, 1) := by decide +kernel
theorem dX1_doChange_153 : decode cX1_doChange 153 = .ok (.invokevirtual 129, 3) := by decide +kernel
theorem dX1_doChange_156 : decode cX1_doChange 156 = .ok (.ireturn, 1) := by decide +kernel
theorem dX1_doChange_157 : decode cX1_doChange 157 = .ok (.aload_n 0, 1) := by decide +kernel
theorem dX1_doChange_158 : decode cX1_doChange 158 = .ok (.getfield 22, 3) := by decide +kernel
theorem dX1_doChange_161 : decode cX1_doChange 161 = .ok (.iload_n 3, 1) := by decide +kernel
theorem dX1_doChange_162 : decode cX1_doChange 162 = .ok (.sipush 225, 3) := by decide +kernel
theorem dX1_doChange_165 : decode cX1_doChange 165 = .ok (.if_icmp .ne 8, 3) := by decide +kernel
theorem dX1_doChange_168 : decode cX1_doChange 168 = .ok (.lload 6, 2) := by decide +kernel
theorem dX1_doChange_170 : decode cX1_doChange 170 = .ok (.goto 15, 3) := by decide +kernel
theorem dX1_doChange_173 : decode cX1_doChange 173 = .ok (.iload_n 3, 1) := by decide +kernel
theorem dX1_doChange_174 : decode cX1_doChange 174 = .ok (.iconst 4, 1) := by decide +kernel
theorem dX1_doChange_175 : decode cX1_doChange 175 = .ok (.ishr, 1) := by decide +kernel
theorem dX1_doChange_176 : decode cX1_doChange 176 = .ok (.iconst 1, 1) := by decide +kernel
theorem dX1_doChange_177 : decode cX1_doChange 177 = .ok (.iconst 0, 1) := by decide +kernel
theorem dX1_doChange_178 : decode cX1_doChange 178 = .ok (.lload 4, 2) := by decide +kernel
theorem dX1_doChange_180 : decode cX1_doChange 180 = .ok (.lload 6, 2) := by decide +kernel
theorem dX1_doChange_182 : decode cX1_doChange 182 = .ok (.invokestatic 159, 3) := by decide +kernel
theorem dX1_doChange_185 : decode cX1_doChange 185 = .ok (.iload_n 2, 1) := by decide +kernel
theorem dX1_doChange_186 : decode cX1_doChange 186 = .ok (.invokevirtual 155, 3) := by decide +kernel
theorem dX1_doChange_189 : decode cX1_doChange 189 = .ok (.iload_n 3, 1) := by decide +kernel
theorem dX1_doChange_190 : decode cX1_doChange 190 = .ok (.iconst 1, 1) := by decide +kernel
theorem dX1_doChange_191 : decode cX1_doChange 191 = .ok (.iand, 1) := by decide +kernel
theorem dX1_doChange_192 : decode cX1_doChange 192 = .ok (.ifCond .eq 19, 3) := by decide +kernel
theorem dX1_doChange_195 : decode cX1_doChange 195 = .ok (.aload_n 0, 1) := by decide +kernel
theorem dX1_doChange_196 : decode cX1_doChange 196 = .ok (.getfield 9, 3) := by decide +kernel
theorem dX1_doChange_199 : decode cX1_doChange 199 = .ok (.aload_n 0, 1) := by decide +kernel
theorem dX1_doChange_200 : decode cX1_doChange 200 = .ok (.getfield 18, 3) := by decide +kernel
theorem dX1_doChange_203 : decode cX1_doChange 203 = .ok (.getfield 97, 3) := by decide +kernel
theorem dX1_doChange_206 : decode cX1_doChange 206 = .ok (.iload_n 1, 1) := by decide +kernel
theorem dX1_doChange_207 : decode cX1_doChange 207 = .ok (.iaload, 1) := by decide +kernel
theorem dX1_doChange_208 : decode cX1_doChange 208 = .ok (.lload 4, 2) := by decide +kernel
theorem dX1_doChange_210 : decode cX1_doChange 210 = .ok (.lastore, 1) := by decide +kernel
theorem dX1_doChange_211 : decode cX1_doChange 211 = .ok (.aload_n 0, 1) := by decide +kernel
theorem dX1_doChange_212 : decode cX1_doChange 212 = .ok (.iload_n 1, 1) := by decide +kernel
theorem dX1_doChange_213 : decode cX1_doChange 213 = .ok (.iconst 1, 1) := by decide +kernel
theorem dX1_doChange_214 : decode cX1_doChange 214 = .ok (.iadd, 1) := by decide +kernel
theorem dX1_doChange_215 : decode cX1_doChange 215 = .ok (.invokevirtual 129, 3) := by decide +kernel
theorem dX1_doChange_218 : decode cX1_doChange 218 = .ok (.ireturn, 1) := by decide +kernel
theorem dX1_x_0 : decode cX1_x 0 = .ok (.aload_n 0, 1) := by decide +kernel
theorem dX1_x_1 : decode cX1_x 1 = .ok (.getfield 18, 3) := by decide +kernel
theorem dX1_x_4 : decode cX1_x 4 = .ok (.iload_n 1, 1) := by decide +kernel
theorem dX1_x_5 : decode cX1_x 5 = .ok (.invokevirtual 115, 3) := by decide +kernel
theorem dX1_x_8 : decode cX1_x 8 = .ok (.ifCond .eq 20, 3) := by decide +kernel
theorem dX1_x_11 : decode cX1_x 11 = .ok (.aload_n 0, 1) := by decide +kernel
theorem dX1_x_12 : decode cX1_x 12 = .ok (.getfield 9, 3) := by decide +kernel
theorem dX1_x_15 : decode cX1_x 15 = .ok (.aload_n 0, 1) := by decide +kernel
theorem dX1_x_16 : decode cX1_x 16 = .ok (.getfield 18, 3) := by decide +kernel
theorem dX1_x_19 : decode cX1_x 19 = .ok (.getfield 97, 3) := by decide +kernel
theorem dX1_x_22 : decode cX1_x 22 = .ok (.iload_n 1, 1) := by decide +kernel
theorem dX1_x_23 : decode cX1_x 23 = .ok (.iaload, 1) := by decide +kernel
theorem dX1_x_24 : decode cX1_x 24 = .ok (.laload, 1) := by decide +kernel
theorem dX1_x_25 : decode cX1_x 25 = .ok (.goto 13, 3) := by decide +kernel
theorem dX1_x_28 : decode cX1_x 28 = .ok (.aload_n 0, 1) := by decide +kernel
theorem dX1_x_29 : decode cX1_x 29 = .ok (.getfield 18, 3) := by decide +kernel
theorem dX1_x_32 : decode cX1_x 32 = .ok (.getfield 87, 3) := by decide +kernel
theorem dX1_x_35 : decode cX1_x 35 = .ok (.iload_n 1, 1) := by decide +kernel
theorem dX1_x_36 : decode cX1_x 36 = .ok (.iaload, 1) := by decide +kernel
theorem dX1_x_37 : decode cX1_x 37 = .ok (.i2l, 1) := by decide +kernel
theorem dX1_x_38 : decode cX1_x 38 = .ok (.lreturn, 1) := by decide +kernel
theorem dX1_doArithmetic_0 : decode cX1_doArithmetic 0 = .ok (.aload_n 0, 1) := by decide +kernel
theorem dX1_doArithmetic_1 : decode cX1_doArithmetic 1 = .ok (.getfield 18, 3) := by decide +kernel
theorem dX1_doArithmetic_4 : decode cX1_doArithmetic 4 = .ok (.iload_n 1, 1) := by decide +kernel
theorem dX1_doArithmetic_5 : decode cX1_doArithmetic 5 = .ok (.invokevirtual 106, 3) := by decide +kernel
theorem dX1_doArithmetic_8 : decode cX1_doArithmetic 8 = .ok (.istore_n 2, 1) := by decide +kernel
theorem dX1_doArithmetic_9 : decode cX1_doArithmetic 9 = .ok (.aload_n 0, 1) := by decide +kernel
theorem dX1_doArithmetic_10 : decode cX1_doArithmetic 10 = .ok (.getfield 18, 3) := by decide +kernel
theorem dX1_doArithmetic_13 : decode cX1_doArithmetic 13 = .ok (.getfield 124, 3) := by decide +kernel
theorem dX1_doArithmetic_16 : decode cX1_doArithmetic 16 = .ok (.iload_n 1, 1) := by decide +kernel
theorem dX1_doArithmetic_17 : decode cX1_doArithmetic 17 = .ok (.iaload, 1) := by decide +kernel
theorem dX1_doArithmetic_18 : decode cX1_doArithmetic 18 = .ok (.istore_n 3, 1) := by decide +kernel
theorem dX1_doArithmetic_19 : decode cX1_doArithmetic 19 = .ok (.iload_n 2, 1) := by decide +kernel
theorem dX1_doArithmetic_20 : decode cX1_doArithmetic 20 = .ok (.bipush 13, 2) := by decide +kernel
theorem dX1_doArithmetic_22 : decode cX1_doArithmetic 22 = .ok (.if_icmp .ne 61, 3) := by decide +kernel
theorem dX1_doArithmetic_25 : decode cX1_doArithmetic 25 = .ok (.aload_n 0, 1) := by decide +kernel
theorem dX1_doArithmetic_26 : decode cX1_doArithmetic 26 = .ok (.getfield 18, 3) := by decide +kernel
theorem dX1_doArithmetic_29 : decode cX1_doArithmetic 29 = .ok (.iload_n 1, 1) := by decide +kernel
theorem dX1_doArithmetic_30 : decode cX1_doArithmetic 30 = .ok (.invokevirtual 163, 3) := by decide +kernel
theorem dX1_doArithmetic_33 : decode cX1_doArithmetic 33 = .ok (.ifCond .ne 14, 3) := by decide +kernel
theorem dX1_doArithmetic_36 : decode cX1_doArithmetic 36 = .ok (.aload_n 0, 1) := by decide +kernel
theorem dX1_doArithmetic_37 : decode cX1_doArithmetic 37 = .ok (.getfield 18, 3) := by decide +kernel
theorem dX1_doArithmetic_40 : decode cX1_doArithmetic 40 = .ok (.iload_n 1, 1) := by decide +kernel
theorem dX1_doArithmetic_41 : decode cX1_doArithmetic 41 = .ok (.invokevirtual 115, 3) := by decide +kernel
theorem dX1_doArithmetic_44 : decode cX1_doArithmetic 44 = .ok (.ifCond .eq 7, 3) := by decide +kernel
theorem dX1_doArithmetic_47 : decode cX1_doArithmetic 47 = .ok (.iconst 1, 1) := by decide +kernel
theorem dX1_doArithmetic_48 : decode cX1_doArithmetic 48 = .ok (.goto 4, 3) := by decide +kernel
theorem dX1_doArithmetic_51 : decode cX1_doArithmetic 51 = .ok (.iconst 0, 1) := by decide +kernel
theorem dX1_doArithmetic_52 : decode cX1_doArithmetic 52 = .ok (.istore 4, 2) := by decide +kernel
theorem dX1_doArithmetic_54 : decode cX1_doArithmetic 54 = .ok (.aload_n 0, 1) := by decide +kernel
theorem dX1_doArithmetic_55 : decode cX1_doArithmetic 55 = .ok (.getfield 9, 3) := by decide +kernel
theorem dX1_doArithmetic_58 : decode cX1_doArithmetic 58 = .ok (.iload_n 3, 1) := by decide +kernel
theorem dX1_doArithmetic_59 : decode cX1_doArithmetic 59 = .ok (.aload_n 0, 1) := by decide +kernel
theorem dX1_doArithmetic_60 : decode cX1_doArithmetic 60 = .ok (.getfield 9, 3) := by decide +kernel
theorem dX1_doArithmetic_63 : decode cX1_doArithmetic 63 = .ok (.iload_n 3, 1) := by decide +kernel
theorem dX1_doArithmetic_64 : decode cX1_doArithmetic 64 = .ok (.laload, 1) := by decide +kernel
theorem dX1_doArithmetic_65 : decode cX1_doArithmetic 65 = .ok (.aload_n 0, 1) := by decide +kernel
theorem dX1_doArithmetic_66 : decode cX1_doArithmetic 66 = .ok (.getfield 18, 3) := by decide +kernel
theorem dX1_doArithmetic_69 : decode cX1_doArithmetic 69 = .ok (.getfield 87, 3) := by decide +kernel
theorem dX1_doArithmetic_72 : decode cX1_doArithmetic 72 = .ok (.iload_n 1, 1) := by decide +kernel
theorem dX1_doArithmetic_73 : decode cX1_doArithmetic 73 = .ok (.iaload, 1) := by decide +kernel
theorem dX1_doArithmetic_74 : decode cX1_doArithmetic 74 = .ok (.iload 4, 2) := by decide +kernel
theorem dX1_doArithmetic_76 : decode cX1_doArithmetic 76 = .ok (.invokestatic 166, 3) := by decide +kernel
theorem dX1_doArithmetic_79 : decode cX1_doArithmetic 79 = .ok (.lastore, 1) := by decide +kernel
theorem dX1_doArithmetic_80 : decode cX1_doArithmetic 80 = .ok (.goto 41, 3) := by decide +kernel
theorem dX1_doArithmetic_83 : decode cX1_doArithmetic 83 = .ok (.aload_n 0, 1) := by decide +kernel
theorem dX1_doArithmetic_84 : decode cX1_doArithmetic 84 = .ok (.getfield 9, 3) := by decide +kernel
theorem dX1_doArithmetic_87 : decode cX1_doArithmetic 87 = .ok (.iload_n 3, 1) := by decide +kernel
theorem dX1_doArithmetic_88 : decode cX1_doArithmetic 88 = .ok (.iload_n 2, 1) := by decide +kernel
theorem dX1_doArithmetic_89 : decode cX1_doArithmetic 89 = .ok (.aload_n 0, 1) := by decide +kernel
theorem dX1_doArithmetic_90 : decode cX1_doArithmetic 90 = .ok (.getfield 18, 3) := by decide +kernel
theorem dX1_doArithmetic_93 : decode cX1_doArithmetic 93 = .ok (.iload_n 1, 1) := by decide +kernel
theorem dX1_doArithmetic_94 : decode cX1_doArithmetic 94 = .ok (.invokevirtual 163, 3) := by decide +kernel
theorem dX1_doArithmetic_97 : decode cX1_doArithmetic 97 = .ok (.aload_n 0, 1) := by decide +kernel
theorem dX1_doArithmetic_98 : decode cX1_doArithmetic 98 = .ok (.getfield 18, 3) := by decide +kernel
theorem dX1_doArithmetic_101 : decode cX1_doArithmetic 101 = .ok (.getfield 135, 3) := by decide +kernel
theorem dX1_doArithmetic_104 : decode cX1_doArithmetic 104 = .ok (.iload_n 1, 1) := by decide +kernel
theorem dX1_doArithmetic_105 : decode cX1_doArithmetic 105 = .ok (.iaload, 1) := by decide +kernel
theorem dX1_doArithmetic_106 : decode cX1_doArithmetic 106 = .ok (.aload_n 0, 1) := by decide +kernel
theorem dX1_doArithmetic_107 : decode cX1_doArithmetic 107 = .ok (.getfield 9, 3) := by decide +kernel
theorem dX1_doArithmetic_110 : decode cX1_doArithmetic 110 = .ok (.iload_n 3, 1) := by decide +kernel
theorem dX1_doArithmetic_111 : decode cX1_doArithmetic 111 = .ok (.laload, 1) := by decide +kernel
theorem dX1_doArithmetic_112 : decode cX1_doArithmetic 112 = .ok (.aload_n 0, 1) := by decide +kernel
theorem dX1_doArithmetic_113 : decode cX1_doArithmetic 113 = .ok (.iload_n 1, 1) := by decide +kernel
theorem dX1_doArithmetic_114 : decode cX1_doArithmetic 114 = .ok (.invokevirtual 170, 3) := by decide +kernel
theorem dX1_doArithmetic_117 : decode cX1_doArithmetic 117 = .ok (.invokestatic 159, 3) := by decide +kernel
theorem dX1_doArithmetic_120 : decode cX1_doArithmetic 120 = .ok (.lastore, 1) := by decide +kernel
theorem dX1_doArithmetic_121 : decode cX1_doArithmetic 121 = .ok (.aload_n 0, 1) := by decide +kernel
theorem dX1_doArithmetic_122 : decode cX1_doArithmetic 122 = .ok (.iload_n 1, 1) := by decide +kernel
theorem dX1_doArithmetic_123 : decode cX1_doArithmetic 123 = .ok (.iconst 1, 1) := by decide +kernel
theorem dX1_doArithmetic_124 : decode cX1_doArithmetic 124 = .ok (.iadd, 1) := by decide +kernel
theorem dX1_doArithmetic_125 : decode cX1_doArithmetic 125 = .ok (.invokevirtual 129, 3) := by decide +kernel
theorem dX1_doArithmetic_128 : decode cX1_doArithmetic 128 = .ok (.ireturn, 1) := by decide +kernel
theorem dX1_comeBack_0 : decode cX1_comeBack 0 = .ok (.aload_n 0, 1) := by decide +kernel
theorem dX1_comeBack_1 : decode cX1_comeBack 1 = .ok (.getfield 9, 3) := by decide +kernel
theorem dX1_comeBack_4 : decode cX1_comeBack 4 = .ok (.iconst 0, 1) := by decide +kernel
theorem dX1_comeBack_5 : decode cX1_comeBack 5 = .ok (.lload_n 2, 1) := by decide +kernel
theorem dX1_comeBack_6 : decode cX1_comeBack 6 = .ok (.lastore, 1) := by decide +kernel
theorem dX1_comeBack_7 : decode cX1_comeBack 7 = .ok (.iconst 1, 1) := by decide +kernel
theorem dX1_comeBack_8 : decode cX1_comeBack 8 = .ok (.istore 4, 2) := by decide +kernel
theorem dX1_comeBack_10 : decode cX1_comeBack 10 = .ok (.iload 4, 2) := by decide +kernel
theorem dX1_comeBack_12 : decode cX1_comeBack 12 = .ok (.iconst 5, 1) := by decide +kernel
theorem dX1_comeBack_13 : decode cX1_comeBack 13 = .ok (.if_icmp .gt 17, 3) := by decide +kernel
theorem dX1_comeBack_16 : decode cX1_comeBack 16 = .ok (.aload_n 0, 1) := by decide +kernel
theorem dX1_comeBack_17 : decode cX1_comeBack 17 = .ok (.getfield 9, 3) := by decide +kernel
theorem dX1_comeBack_20 : decode cX1_comeBack 20 = .ok (.iload 4, 2) := by decide +kernel
theorem dX1_comeBack_22 : decode cX1_comeBack 22 = .ok (.lconst 0, 1) := by decide +kernel
theorem dX1_comeBack_23 : decode cX1_comeBack 23 = .ok (.lastore, 1) := by decide +kernel
theorem dX1_comeBack_24 : decode cX1_comeBack 24 = .ok (.iinc 4 1, 3) := by decide +kernel
theorem dX1_comeBack_27 : decode cX1_comeBack 27 = .ok (.goto (-17), 3) := by decide +kernel
theorem dX1_comeBack_30 : decode cX1_comeBack 30 = .ok (.aload_n 0, 1) := by decide +kernel
theorem dX1_comeBack_31 : decode cX1_comeBack 31 = .ok (.iload_n 1, 1) := by decide +kernel
theorem dX1_comeBack_32 : decode cX1_comeBack 32 = .ok (.iconst 1, 1) := by decide +kernel
theorem dX1_comeBack_33 : decode cX1_comeBack 33 = .ok (.iadd, 1) := by decide +kernel
theorem dX1_comeBack_34 : decode cX1_comeBack 34 = .ok (.invokevirtual 129, 3) := by decide +kernel
theorem dX1_comeBack_37 : decode cX1_comeBack 37 = .ok (.ireturn, 1) := by decide +kernel
theorem dX1_doCall_0 : decode cX1_doCall 0 = .ok (.iload_n 2, 1) := by decide +kernel
theorem dX1_doCall_1 : decode cX1_doCall 1 = .ok (.iconst 5, 1) := by decide +kernel
theorem dX1_doCall_2 : decode cX1_doCall 2 = .ok (.if_icmp .ne 16, 3) := by decide +kernel
theorem dX1_doCall_5 : decode cX1_doCall 5 = .ok (.aload_n 0, 1) := by decide +kernel
theorem dX1_doCall_6 : decode cX1_doCall 6 = .ok (.iload_n 1, 1) := by decide +kernel
theorem dX1_doCall_7 : decode cX1_doCall 7 = .ok (.aload_n 0, 1) := by decide +kernel
theorem dX1_doCall_8 : decode cX1_doCall 8 = .ok (.getfield 22, 3) := by decide +kernel
theorem dX1_doCall_11 : decode cX1_doCall 11 = .ok (.getfield 180, 3) := by decide +kernel
theorem dX1_doCall_14 : decode cX1_doCall 14 = .ok (.invokevirtual 184, 3) := by decide +kernel
theorem dX1_doCall_17 : decode cX1_doCall 17 = .ok (.ireturn, 1) := by decide +kernel
theorem dX1_doCall_18 : decode cX1_doCall 18 = .ok (.iload_n 2, 1) := by decide +kernel
theorem dX1_doCall_19 : decode cX1_doCall 19 = .ok (.bipush 6, 2) := by decide +kernel
theorem dX1_doCall_21 : decode cX1_doCall 21 = .ok (.if_icmp .ne 38, 3) := by decide +kernel
theorem dX1_doCall_24 : decode cX1_doCall 24 = .ok (.aload_n 0, 1) := by decide +kernel
theorem dX1_doCall_25 : decode cX1_doCall 25 = .ok (.getfield 15, 3) := by decide +kernel
theorem dX1_doCall_28 : decode cX1_doCall 28 = .ok (.aload_n 0, 1) := by decide +kernel
theorem dX1_doCall_29 : decode cX1_doCall 29 = .ok (.getfield 45, 3) := by decide +kernel
theorem dX1_doCall_32 : decode cX1_doCall 32 = .ok (.bipush 32, 2) := by decide +kernel
theorem dX1_doCall_34 : decode cX1_doCall 34 = .ok (.irem, 1) := by decide +kernel
theorem dX1_doCall_35 : decode cX1_doCall 35 = .ok (.aload_n 0, 1) := by decide +kernel
theorem dX1_doCall_36 : decode cX1_doCall 36 = .ok (.getfield 9, 3) := by decide +kernel
theorem dX1_doCall_39 : decode cX1_doCall 39 = .ok (.iconst 1, 1) := by decide +kernel
theorem dX1_doCall_40 : decode cX1_doCall 40 = .ok (.laload, 1) := by decide +kernel
theorem dX1_doCall_41 : decode cX1_doCall 41 = .ok (.lastore, 1) := by decide +kernel
theorem dX1_doCall_42 : decode cX1_doCall 42 = .ok (.aload_n 0, 1) := by decide +kernel
theorem dX1_doCall_43 : decode cX1_doCall 43 = .ok (.dup, 1) := by decide +kernel
theorem dX1_doCall_44 : decode cX1_doCall 44 = .ok (.getfield 45, 3) := by decide +kernel
theorem dX1_doCall_47 : decode cX1_doCall 47 = .ok (.iconst 1, 1) := by decide +kernel
theorem dX1_doCall_48 : decode cX1_doCall 48 = .ok (.iadd, 1) := by decide +kernel
theorem dX1_doCall_49 : decode cX1_doCall 49 = .ok (.putfield 45, 3) := by decide +kernel
theorem dX1_doCall_52 : decode cX1_doCall 52 = .ok (.aload_n 0, 1) := by decide +kernel
theorem dX1_doCall_53 : decode cX1_doCall 53 = .ok (.iload_n 1, 1) := by decide +kernel
theorem dX1_doCall_54 : decode cX1_doCall 54 = .ok (.lconst 0, 1) := by decide +kernel
theorem dX1_doCall_55 : decode cX1_doCall 55 = .ok (.invokevirtual 184, 3) := by decide +kernel
theorem dX1_doCall_58 : decode cX1_doCall 58 = .ok (.ireturn, 1) := by decide +kernel
theorem dX1_doCall_59 : decode cX1_doCall 59 = .ok (.aload_n 0, 1) := by decide +kernel
theorem dX1_doCall_60 : decode cX1_doCall 60 = .ok (.getfield 22, 3) := by decide +kernel
theorem dX1_doCall_63 : decode cX1_doCall 63 = .ok (.aload_n 0, 1) := by decide +kernel
theorem dX1_doCall_64 : decode cX1_doCall 64 = .ok (.getfield 9, 3) := by decide +kernel
theorem dX1_doCall_67 : decode cX1_doCall 67 = .ok (.iconst 1, 1) := by decide +kernel
theorem dX1_doCall_68 : decode cX1_doCall 68 = .ok (.laload, 1) := by decide +kernel
theorem dX1_doCall_69 : decode cX1_doCall 69 = .ok (.invokevirtual 187, 3) := by decide +kernel
theorem dX1_doCall_72 : decode cX1_doCall 72 = .ok (.istore_n 3, 1) := by decide +kernel
theorem dX1_doCall_73 : decode cX1_doCall 73 = .ok (.aload_n 0, 1) := by decide +kernel
theorem dX1_doCall_74 : decode cX1_doCall 74 = .ok (.getfield 22, 3) := by decide +kernel
theorem dX1_doCall_77 : decode cX1_doCall 77 = .ok (.iload_n 3, 1) := by decide +kernel
theorem dX1_doCall_78 : decode cX1_doCall 78 = .ok (.invokevirtual 118, 3) := by decide +kernel
theorem dX1_doCall_81 : decode cX1_doCall 81 = .ok (.astore 4, 2) := by decide +kernel
theorem dX1_doCall_83 : decode cX1_doCall 83 = .ok (.aload 4, 2) := by decide +kernel
theorem dX1_doCall_85 : decode cX1_doCall 85 = .ok (.ifnull 25, 3) := by decide +kernel
theorem dX1_doCall_88 : decode cX1_doCall 88 = .ok (.aload_n 0, 1) := by decide +kernel
theorem dX1_doCall_89 : decode cX1_doCall 89 = .ok (.getfield 22, 3) := by decide +kernel
theorem dX1_doCall_92 : decode cX1_doCall 92 = .ok (.aload_n 0, 1) := by decide +kernel
theorem dX1_doCall_93 : decode cX1_doCall 93 = .ok (.getfield 9, 3) := by decide +kernel
theorem dX1_doCall_96 : decode cX1_doCall 96 = .ok (.iconst 2, 1) := by decide +kernel
theorem dX1_doCall_97 : decode cX1_doCall 97 = .ok (.laload, 1) := by decide +kernel
theorem dX1_doCall_98 : decode cX1_doCall 98 = .ok (.aload 4, 2) := by decide +kernel
theorem dX1_doCall_100 : decode cX1_doCall 100 = .ok (.getfield 191, 3) := by decide +kernel
theorem dX1_doCall_103 : decode cX1_doCall 103 = .ok (.iconst 0, 1) := by decide +kernel
theorem dX1_doCall_104 : decode cX1_doCall 104 = .ok (.invokevirtual 138, 3) := by decide +kernel
theorem dX1_doCall_107 : decode cX1_doCall 107 = .ok (.ifCond .ne 5, 3) := by decide +kernel
theorem dX1_doCall_110 : decode cX1_doCall 110 = .ok (.iconst 4, 1) := by decide +kernel
theorem dX1_doCall_111 : decode cX1_doCall 111 = .ok (.ireturn, 1) := by decide +kernel
theorem dX1_doCall_112 : decode cX1_doCall 112 = .ok (.aload_n 0, 1) := by decide +kernel
theorem dX1_doCall_113 : decode cX1_doCall 113 = .ok (.getfield 22, 3) := by decide +kernel
theorem dX1_doCall_116 : decode cX1_doCall 116 = .ok (.aload 4, 2) := by decide +kernel
theorem dX1_doCall_118 : decode cX1_doCall 118 = .ok (.getfield 191, 3) := by decide +kernel
theorem dX1_doCall_121 : decode cX1_doCall 121 = .ok (.invokevirtual 142, 3) := by decide +kernel
theorem dX1_doCall_124 : decode cX1_doCall 124 = .ok (.lstore 5, 2) := by decide +kernel
theorem dX1_doCall_126 : decode cX1_doCall 126 = .ok (.iload_n 2, 1) := by decide +kernel
theorem dX1_doCall_127 : decode cX1_doCall 127 = .ok (.iconst 1, 1) := by decide +kernel
theorem dX1_doCall_128 : decode cX1_doCall 128 = .ok (.if_icmp .ne 43, 3) := by decide +kernel
theorem dX1_doCall_131 : decode cX1_doCall 131 = .ok (.aload 4, 2) := by decide +kernel
theorem dX1_doCall_133 : decode cX1_doCall 133 = .ok (.lload 5, 2) := by decide +kernel
theorem dX1_doCall_135 : decode cX1_doCall 135 = .ok (.invokevirtual 196, 3) := by decide +kernel
theorem dX1_doCall_138 : decode cX1_doCall 138 = .ok (.istore 7, 2) := by decide +kernel
theorem dX1_doCall_140 : decode cX1_doCall 140 = .ok (.aload_n 0, 1) := by decide +kernel
theorem dX1_doCall_141 : decode cX1_doCall 141 = .ok (.iload_n 1, 1) := by decide +kernel
theorem dX1_doCall_142 : decode cX1_doCall 142 = .ok (.iload 7, 2) := by decide +kernel
theorem dX1_doCall_144 : decode cX1_doCall 144 = .ok (.ifCond .ge 7, 3) := by decide +kernel
theorem dX1_doCall_147 : decode cX1_doCall 147 = .ok (.lconst 0, 1) := by decide +kernel
theorem dX1_doCall_148 : decode cX1_doCall 148 = .ok (.goto 19, 3) := by decide +kernel
theorem dX1_doCall_151 : decode cX1_doCall 151 = .ok (.ldc2_w 199, 3) := by decide +kernel
theorem dX1_doCall_154 : decode cX1_doCall 154 = .ok (.iload_n 3, 1) := by decide +kernel
theorem dX1_doCall_155 : decode cX1_doCall 155 = .ok (.i2l, 1) := by decide +kernel
theorem dX1_doCall_156 : decode cX1_doCall 156 = .ok (.bipush 24, 2) := by decide +kernel
theorem dX1_doCall_158 : decode cX1_doCall 158 = .ok (.lshl, 1) := by decide +kernel
theorem dX1_doCall_159 : decode cX1_doCall 159 = .ok (.ladd, 1) := by decide +kernel
theorem dX1_doCall_160 : decode cX1_doCall 160 = .ok (.iload 7, 2) := by decide +kernel
theorem dX1_doCall_162 : decode cX1_doCall 162 = .ok (.i2l, 1) := by decide +kernel
theorem dX1_doCall_163 : decode cX1_doCall 163 = .ok (.bipush 12, 2) := by decide +kernel
theorem dX1_doCall_165 : decode cX1_doCall 165 = .ok (.lshl, 1) := by decide +kernel
theorem dX1_doCall_166 : decode cX1_doCall 166 = .ok (.ladd, 1) := by decide +kernel
theorem dX1_doCall_167 : decode cX1_doCall 167 = .ok (.invokevirtual 184, 3) := by decide +kernel
theorem dX1_doCall_170 : decode cX1_doCall 170 = .ok (.ireturn, 1) := by decide +kernel
theorem dX1_doCall_171 : decode cX1_doCall 171 = .ok (.iload_n 2, 1) := by decide +kernel
theorem dX1_doCall_172 : decode cX1_doCall 172 = .ok (.iconst 3, 1) := by decide +kernel
theorem dX1_doCall_173 : decode cX1_doCall 173 = .ok (.if_icmp .ne 26, 3) := by decide +kernel
theorem dX1_doCall_176 : decode cX1_doCall 176 = .ok (.aload_n 0, 1) := by decide +kernel
theorem dX1_doCall_177 : decode cX1_doCall 177 = .ok (.iload_n 1, 1) := by decide +kernel
theorem dX1_doCall_178 : decode cX1_doCall 178 = .ok (.aload 4, 2) := by decide +kernel
theorem dX1_doCall_180 : decode cX1_doCall 180 = .ok (.lload 5, 2) := by decide +kernel
theorem dX1_doCall_182 : decode cX1_doCall 182 = .ok (.invokevirtual 201, 3) := by decide +kernel
theorem dX1_doCall_185 : decode cX1_doCall 185 = .ok (.ifCond .eq 7, 3) := by decide +kernel
theorem dX1_doCall_188 : decode cX1_doCall 188 = .ok (.lconst 0, 1) := by decide +kernel
theorem dX1_doCall_189 : decode cX1_doCall 189 = .ok (.goto 6, 3) := by decide +kernel
theorem dX1_doCall_192 : decode cX1_doCall 192 = .ok (.ldc2_w 205, 3) := by decide +kernel
theorem dX1_doCall_195 : decode cX1_doCall 195 = .ok (.invokevirtual 184, 3) := by decide +kernel
theorem dX1_doCall_198 : decode cX1_doCall 198 = .ok (.ireturn, 1) := by decide +kernel
theorem dX1_doCall_199 : decode cX1_doCall 199 = .ok (.aload_n 0, 1) := by decide +kernel
theorem dX1_doCall_200 : decode cX1_doCall 200 = .ok (.getfield 22, 3) := by decide +kernel
theorem dX1_doCall_203 : decode cX1_doCall 203 = .ok (.aload_n 0, 1) := by decide +kernel
theorem dX1_doCall_204 : decode cX1_doCall 204 = .ok (.getfield 9, 3) := by decide +kernel
theorem dX1_doCall_207 : decode cX1_doCall 207 = .ok (.iconst 3, 1) := by decide +kernel
theorem dX1_doCall_208 : decode cX1_doCall 208 = .ok (.laload, 1) := by decide +kernel
theorem dX1_doCall_209 : decode cX1_doCall 209 = .ok (.aload 4, 2) := by decide +kernel
theorem dX1_doCall_211 : decode cX1_doCall 211 = .ok (.getfield 207, 3) := by decide +kernel
theorem dX1_doCall_214 : decode cX1_doCall 214 = .ok (.iconst 0, 1) := by decide +kernel
theorem dX1_doCall_215 : decode cX1_doCall 215 = .ok (.invokevirtual 138, 3) := by decide +kernel
theorem dX1_doCall_218 : decode cX1_doCall 218 = .ok (.ifCond .ne 5, 3) := by decide +kernel
theorem dX1_doCall_221 : decode cX1_doCall 221 = .ok (.iconst 4, 1) := by decide +kernel
theorem dX1_doCall_222 : decode cX1_doCall 222 = .ok (.ireturn, 1) := by decide +kernel
theorem dX1_doCall_223 : decode cX1_doCall 223 = .ok (.aload 4, 2) := by decide +kernel
theorem dX1_doCall_225 : decode cX1_doCall 225 = .ok (.lload 5, 2) := by decide +kernel
theorem dX1_doCall_227 : decode cX1_doCall 227 = .ok (.aload_n 0, 1) := by decide +kernel
theorem dX1_doCall_228 : decode cX1_doCall 228 = .ok (.getfield 9, 3) := by decide +kernel
theorem dX1_doCall_231 : decode cX1_doCall 231 = .ok (.iconst 4, 1) := by decide +kernel
theorem dX1_doCall_232 : decode cX1_doCall 232 = .ok (.laload, 1) := by decide +kernel
theorem dX1_doCall_233 : decode cX1_doCall 233 = .ok (.invokevirtual 210, 3) := by decide +kernel
theorem dX1_doCall_236 : decode cX1_doCall 236 = .ok (.istore 7, 2) := by decide +kernel
theorem dX1_doCall_238 : decode cX1_doCall 238 = .ok (.iload 7, 2) := by decide +kernel
theorem dX1_doCall_240 : decode cX1_doCall 240 = .ok (.ifCond .lt 14, 3) := by decide +kernel
theorem dX1_doCall_243 : decode cX1_doCall 243 = .ok (.aload_n 0, 1) := by decide +kernel
theorem dX1_doCall_244 : decode cX1_doCall 244 = .ok (.getfield 22, 3) := by decide +kernel
theorem dX1_doCall_247 : decode cX1_doCall 247 = .ok (.aload 4, 2) := by decide +kernel
theorem dX1_doCall_249 : decode cX1_doCall 249 = .ok (.iload 7, 2) := by decide +kernel
theorem dX1_doCall_251 : decode cX1_doCall 251 = .ok (.invokevirtual 214, 3) := by decide +kernel
theorem dX1_doCall_254 : decode cX1_doCall 254 = .ok (.aload_n 0, 1) := by decide +kernel
theorem dX1_doCall_255 : decode cX1_doCall 255 = .ok (.iload_n 1, 1) := by decide +kernel
theorem dX1_doCall_256 : decode cX1_doCall 256 = .ok (.iload 7, 2) := by decide +kernel
theorem dX1_doCall_258 : decode cX1_doCall 258 = .ok (.ifCond .ge 9, 3) := by decide +kernel
theorem dX1_doCall_261 : decode cX1_doCall 261 = .ok (.ldc2_w 205, 3) := by decide +kernel
theorem dX1_doCall_264 : decode cX1_doCall 264 = .ok (.goto 4, 3) := by decide +kernel
theorem dX1_doCall_267 : decode cX1_doCall 267 = .ok (.lconst 0, 1) := by decide +kernel
theorem dX1_doCall_268 : decode cX1_doCall 268 = .ok (.invokevirtual 184, 3) := by decide +kernel
theorem dX1_doCall_271 : decode cX1_doCall 271 = .ok (.ireturn, 1) := by decide +kernel
theorem dX1_doJump_0 : decode cX1_doJump 0 = .ok (.aload_n 0, 1) := by decide +kernel
theorem dX1_doJump_1 : decode cX1_doJump 1 = .ok (.getfield 18, 3) := by decide +kernel
theorem dX1_doJump_4 : decode cX1_doJump 4 = .ok (.iload_n 1, 1) := by decide +kernel
theorem dX1_doJump_5 : decode cX1_doJump 5 = .ok (.invokevirtual 106, 3) := by decide +kernel
theorem dX1_doJump_8 : decode cX1_doJump 8 = .ok (.istore_n 2, 1) := by decide +kernel
theorem dX1_doJump_9 : decode cX1_doJump 9 = .ok (.iload_n 2, 1) := by decide +kernel
theorem dX1_doJump_10 : decode cX1_doJump 10 = .ok (.bipush 9, 2) := by decide +kernel
theorem dX1_doJump_12 : decode cX1_doJump 12 = .ok (.if_icmp .ne 5, 3) := by decide +kernel
theorem dX1_doJump_15 : decode cX1_doJump 15 = .ok (.iconst 2, 1) := by decide +kernel
theorem dX1_doJump_16 : decode cX1_doJump 16 = .ok (.ireturn, 1) := by decide +kernel
theorem dX1_doJump_17 : decode cX1_doJump 17 = .ok (.iload_n 2, 1) := by decide +kernel
theorem dX1_doJump_18 : decode cX1_doJump 18 = .ok (.ifCond .eq 37, 3) := by decide +kernel
theorem dX1_doJump_21 : decode cX1_doJump 21 = .ok (.iload_n 2, 1) := by decide +kernel
theorem dX1_doJump_22 : decode cX1_doJump 22 = .ok (.aload_n 0, 1) := by decide +kernel
theorem dX1_doJump_23 : decode cX1_doJump 23 = .ok (.getfield 18, 3) := by decide +kernel
theorem dX1_doJump_26 : decode cX1_doJump 26 = .ok (.iload_n 1, 1) := by decide +kernel
theorem dX1_doJump_27 : decode cX1_doJump 27 = .ok (.invokevirtual 163, 3) := by decide +kernel
theorem dX1_doJump_30 : decode cX1_doJump 30 = .ok (.aload_n 0, 1) := by decide +kernel
theorem dX1_doJump_31 : decode cX1_doJump 31 = .ok (.getfield 9, 3) := by decide +kernel
theorem dX1_doJump_34 : decode cX1_doJump 34 = .ok (.aload_n 0, 1) := by decide +kernel
theorem dX1_doJump_35 : decode cX1_doJump 35 = .ok (.getfield 18, 3) := by decide +kernel
theorem dX1_doJump_38 : decode cX1_doJump 38 = .ok (.getfield 124, 3) := by decide +kernel
theorem dX1_doJump_41 : decode cX1_doJump 41 = .ok (.iload_n 1, 1) := by decide +kernel
theorem dX1_doJump_42 : decode cX1_doJump 42 = .ok (.iaload, 1) := by decide +kernel
theorem dX1_doJump_43 : decode cX1_doJump 43 = .ok (.laload, 1) := by decide +kernel
theorem dX1_doJump_44 : decode cX1_doJump 44 = .ok (.aload_n 0, 1) := by decide +kernel
theorem dX1_doJump_45 : decode cX1_doJump 45 = .ok (.iload_n 1, 1) := by decide +kernel
theorem dX1_doJump_46 : decode cX1_doJump 46 = .ok (.invokevirtual 170, 3) := by decide +kernel
theorem dX1_doJump_49 : decode cX1_doJump 49 = .ok (.invokestatic 173, 3) := by decide +kernel
theorem dX1_doJump_52 : decode cX1_doJump 52 = .ok (.ifCond .eq 7, 3) := by decide +kernel
theorem dX1_doJump_55 : decode cX1_doJump 55 = .ok (.iconst 1, 1) := by decide +kernel
theorem dX1_doJump_56 : decode cX1_doJump 56 = .ok (.goto 4, 3) := by decide +kernel
theorem dX1_doJump_59 : decode cX1_doJump 59 = .ok (.iconst 0, 1) := by decide +kernel
theorem dX1_doJump_60 : decode cX1_doJump 60 = .ok (.istore_n 3, 1) := by decide +kernel
theorem dX1_doJump_61 : decode cX1_doJump 61 = .ok (.aload_n 0, 1) := by decide +kernel
theorem dX1_doJump_62 : decode cX1_doJump 62 = .ok (.iload_n 3, 1) := by decide +kernel
theorem dX1_doJump_63 : decode cX1_doJump 63 = .ok (.ifCond .eq 18, 3) := by decide +kernel
theorem dX1_doJump_66 : decode cX1_doJump 66 = .ok (.iload_n 1, 1) := by decide +kernel
theorem dX1_doJump_67 : decode cX1_doJump 67 = .ok (.iconst 1, 1) := by decide +kernel
theorem dX1_doJump_68 : decode cX1_doJump 68 = .ok (.iadd, 1) := by decide +kernel
theorem dX1_doJump_69 : decode cX1_doJump 69 = .ok (.aload_n 0, 1) := by decide +kernel
theorem dX1_doJump_70 : decode cX1_doJump 70 = .ok (.getfield 18, 3) := by decide +kernel
theorem dX1_doJump_73 : decode cX1_doJump 73 = .ok (.iload_n 1, 1) := by decide +kernel
theorem dX1_doJump_74 : decode cX1_doJump 74 = .ok (.invokevirtual 177, 3) := by decide +kernel
theorem dX1_doJump_77 : decode cX1_doJump 77 = .ok (.iadd, 1) := by decide +kernel
theorem dX1_doJump_78 : decode cX1_doJump 78 = .ok (.goto 6, 3) := by decide +kernel
theorem dX1_doJump_81 : decode cX1_doJump 81 = .ok (.iload_n 1, 1) := by decide +kernel
theorem dX1_doJump_82 : decode cX1_doJump 82 = .ok (.iconst 1, 1) := by decide +kernel
theorem dX1_doJump_83 : decode cX1_doJump 83 = .ok (.iadd, 1) := by decide +kernel
theorem dX1_doJump_84 : decode cX1_doJump 84 = .ok (.invokevirtual 129, 3) := by decide +kernel
theorem dX1_doJump_87 : decode cX1_doJump 87 = .ok (.ireturn, 1) := by decide +kernel
-- JudgedCode$Machine.<init>
def f_X1_init_17 (o0 : Nat) (o1 : Nat) (o2 : Nat) (os0 : Nat) (os1 : Nat) (S : sh) (D : dt) : Option (Unit × sh × dt) := nm (pR D os0 3 (some os1)) fun D19 => nm (pR D19 o0 0 (some o1)) fun D20 => nm (pR D20 o0 1 (some o2)) fun D21 => some ((), S, D21)
def f_X1_init_9 (o0 : Nat) (o1 : Nat) (o2 : Nat) (os0 : Nat) (os1 : Nat) (S : sh) (D : dt) : Option (Unit × sh × dt) := nm (pR D os0 2 (some os1)) fun D22 => f_X1_init_17 o0 o1 o2 o0 (sN S) (aS S 101 32 32) (aD S D22)
def f_X1_init (o0 : Nat) (o1 : Nat) (o2 : Nat) (S : sh) (D : dt) : Option (Unit × sh × dt) := f_X1_init_9 o0 o1 o2 o0 (sN S) (aS S 101 11 11) (aD S D)
-- JudgedCode$Machine.begin
def f_X1_begin (S : sh) (o0 : Nat) (D : dt) : Option (Unit × dt) := rq (gR D o0 2) fun o33 => cq (f_J7_fill_d0a16 S o33 (0 : Int64) D) fun _ D38 => rq (gR D38 o0 2) fun o39 => ix (1 : Int32) (sA S o39) <| nm (pL D38 o39 (1 : Int32).toNatClampNeg (4294967296 : Int64)) fun D44 => rq (gR D44 o0 2) fun o45 => ix (10 : Int32) (sA S o45) <| nm (pL D44 o45 (10 : Int32).toNatClampNeg (8589934592 : Int64)) fun D50 => rq (gR D50 o0 1) fun o51 => rq (gR D50 o51 2) fun o55 => cq (f_J7_fill_031fb S o55 (0 : Int32) D50) fun _ D60 => nm (pI D60 o0 4 (0 : Int32)) fun D61 => nm (pI D61 o0 6 (0 : Int32)) fun D62 => nm (pI D62 o0 7 (0 : Int32)) fun D63 => nm (pI D63 o0 5 (1 : Int32)) fun D64 => some ((), D64)
-- JudgedCode$Machine.goTo
def f_X1_goTo (S : sh) (o0 : Nat) (x1 : Int32) (D : dt) : Option (Int32 × dt) := nm (pI D o0 6 x1) fun D2 => some ((1 : Int32), D2)
-- JudgedCode$Machine.doPair
def f_X1_doPair_113 (S : sh) (o0 : Nat) (x1 : Int32) (os0 : Nat) (xs1 : Int32) (xs2 : Int64) (D : dt) : Option (Int32 × dt) := ix xs1 (sA S os0) <| nm (pL D os0 xs1.toNatClampNeg xs2) fun D69 => cq (f_X1_goTo S o0 (x1 + (2 : Int32)) D69) fun r71 D72 => some (r71, D72)
def f_X1_doPair_61 (S : sh) (o0 : Nat) (x1 : Int32) (x2 : Int32) (x3 : Int32) (D : dt) : Option (Int32 × dt) := rq (gR D o0 0) fun o73 => rq (gR D o73 4) fun o77 => ix (x1 + (1 : Int32)) (sA S o77) <| nm ((j_lshl ((gI D o77 (x1 + (1 : Int32)).toNatClampNeg).toInt64) (32 : Int32)) ||| (x2.toInt64 &&& (4294967295 : Int64))) fun y82 => rq (gR D o0 2) fun o83 => rq (gR D o0 0) fun o87 => rq (gR D o87 1) fun o91 => ix x1 (sA S o91) <| if x3 = 0 then (f_X1_doPair_113 S o0 x1 o83 (gI D o91 x1.toNatClampNeg) y82 D) else (f_X1_doPair_113 S o0 x1 o83 (gI D o91 x1.toNatClampNeg) ((17179869184 : Int64) + x2.toInt64) D)
def f_X1_doPair_28 (S : sh) (o0 : Nat) (x1 : Int32) (x2 : Int32) (xs0 : Int32) (D : dt) : Option (Int32 × dt) := rq (gR D o0 0) fun o97 => cq (f_X4_has S o97 (x1 + (1 : Int32)) D) fun r102 D103 => if r102 = 0 then (some ((5 : Int32), D103)) else (if xs0 = 0 then (f_X1_doPair_61 S o0 x1 x2 xs0 D103) else (rq (gR D103 o0 1) fun o106 => cq (f_X2_tableNumbered S o106 x2 D103) fun r111 D112 => oq r111 (some ((4 : Int32), D112)) fun o113 => f_X1_doPair_61 S o0 x1 x2 xs0 D112))
def f_X1_doPair (S : sh) (o0 : Nat) (x1 : Int32) (D : dt) : Option (Int32 × dt) := rq (gR D o0 0) fun o115 => rq (gR D o115 4) fun o119 => ix x1 (sA S o119) <| nm (gI D o119 x1.toNatClampNeg) fun y124 => rq (gR D o0 0) fun o125 => rq (gR D o125 2) fun o129 => ix x1 (sA S o129) <| if (gI D o129 x1.toNatClampNeg) = (1 : Int32) then (f_X1_doPair_28 S o0 x1 y124 (1 : Int32) D) else (f_X1_doPair_28 S o0 x1 y124 (0 : Int32) D)
-- JudgedCode$Machine.doLoad
def f_X1_doLoad_93 (S : sh) (o0 : Nat) (x1 : Int32) (os0 : Nat) (xs1 : Int32) (xs2 : Int64) (D : dt) : Option (Int32 × dt) := ix xs1 (sA S os0) <| nm (pL D os0 xs1.toNatClampNeg xs2) fun D75 => cq (f_X1_goTo S o0 (x1 + (1 : Int32)) D75) fun r77 D78 => some (r77, D78)
def f_X1_doLoad (S : sh) (o0 : Nat) (x1 : Int32) (D : dt) : Option (Int32 × dt) := rq (gR D o0 0) fun o79 => cq (f_X4_width S o79 x1 D) fun r84 D85 => rq (gR D85 o0 1) fun o86 => rq (gR D85 o0 2) fun o90 => rq (gR D85 o0 0) fun o94 => rq (gR D85 o94 2) fun o98 => ix x1 (sA S o98) <| ix (gI D85 o98 x1.toNatClampNeg) (sA S o90) <| rq (gR D85 o0 0) fun o104 => rq (gR D85 o104 3) fun o108 => ix x1 (sA S o108) <| cq (f_X2_find S o86 ((gL D85 o90 (gI D85 o98 x1.toNatClampNeg).toNatClampNeg) + ((gI D85 o108 x1.toNatClampNeg).toInt64)) r84 (0 : Int32) D85) fun r114 D115 => if r114 = 0 then (some ((4 : Int32), D115)) else (rq (gR D115 o0 1) fun o117 => cq (f_X2_foundNumber S o117 r84 D115) fun r122 D123 => rq (gR D123 o0 2) fun o124 => rq (gR D123 o0 0) fun o128 => rq (gR D123 o128 1) fun o132 => ix x1 (sA S o132) <| rq (gR D123 o0 0) fun o137 => cq (f_X4_isSignedLoad S o137 x1 D123) fun r142 D143 => if r142 = 0 then (f_X1_doLoad_93 S o0 x1 o124 (gI D123 o132 x1.toNatClampNeg) r122 D143) else (pq (f_X3_withSign r122 ((8 : Int32) * r84)) fun r146 => f_X1_doLoad_93 S o0 x1 o124 (gI D123 o132 x1.toNatClampNeg) r146 D143))
-- JudgedCode$Machine.doPut
def f_X1_doPut (S : sh) (o0 : Nat) (x1 : Int32) (x2 : Int64) (D : dt) : Option (Int32 × dt) := rq (gR D o0 0) fun o48 => cq (f_X4_width S o48 x1 D) fun r53 D54 => rq (gR D54 o0 1) fun o55 => rq (gR D54 o0 2) fun o59 => rq (gR D54 o0 0) fun o63 => rq (gR D54 o63 1) fun o67 => ix x1 (sA S o67) <| ix (gI D54 o67 x1.toNatClampNeg) (sA S o59) <| rq (gR D54 o0 0) fun o73 => rq (gR D54 o73 3) fun o77 => ix x1 (sA S o77) <| cq (f_X2_find S o55 ((gL D54 o59 (gI D54 o67 x1.toNatClampNeg).toNatClampNeg) + ((gI D54 o77 x1.toNatClampNeg).toInt64)) r53 (1 : Int32) D54) fun r83 D84 => if r83 = 0 then (some ((4 : Int32), D84)) else (rq (gR D84 o0 1) fun o86 => cq (f_X2_writeFound S o86 x2 r53 D84) fun _ D91 => cq (f_X1_goTo S o0 (x1 + (1 : Int32)) D91) fun r93 D94 => some (r93, D94))
-- JudgedCode$Machine.doChange
def f_X1_doChange_211 (S : sh) (o0 : Nat) (x1 : Int32) (D : dt) : Option (Int32 × dt) := cq (f_X1_goTo S o0 (x1 + (1 : Int32)) D) fun r128 D129 => some (r128, D129)
def f_X1_doChange_185 (S : sh) (o0 : Nat) (x1 : Int32) (x2 : Int32) (x3 : Int32) (x4 : Int64) (os0 : Nat) (xs1 : Int64) (D : dt) : Option (Int32 × dt) := cq (f_X2_writeFound S os0 xs1 x2 D) fun _ D131 => if (x3 &&& (1 : Int32)) = 0 then (f_X1_doChange_211 S o0 x1 D131) else (rq (gR D131 o0 2) fun o133 => rq (gR D131 o0 0) fun o137 => rq (gR D131 o137 2) fun o141 => ix x1 (sA S o141) <| ix (gI D131 o141 x1.toNatClampNeg) (sA S o133) <| nm (pL D131 o133 (gI D131 o141 x1.toNatClampNeg).toNatClampNeg x4) fun D147 => f_X1_doChange_211 S o0 x1 D147)
def f_X1_doChange_137 (S : sh) (o0 : Nat) (x1 : Int32) (x2 : Int32) (x4 : Int64) (os0 : Nat) (xs1 : Int64) (D : dt) : Option (Int32 × dt) := cq (f_X2_writeFound S os0 xs1 x2 D) fun _ D149 => rq (gR D149 o0 2) fun o150 => ix (0 : Int32) (sA S o150) <| nm (pL D149 o150 (0 : Int32).toNatClampNeg x4) fun D155 => cq (f_X1_goTo S o0 (x1 + (1 : Int32)) D155) fun r157 D158 => some (r157, D158)
def f_X1_doChange_116 (S : sh) (o0 : Nat) (x1 : Int32) (x2 : Int32) (x4 : Int64) (x6 : Int64) (xs0 : Int64) (D : dt) : Option (Int32 × dt) := rq (gR D o0 1) fun o159 => if (lg_cmp x4 xs0) = 0 then (f_X1_doChange_137 S o0 x1 x2 x4 o159 x6 D) else (f_X1_doChange_137 S o0 x1 x2 x4 o159 x4 D)
def f_X1_doChange (S : sh) (o0 : Nat) (x1 : Int32) (D : dt) : Option (Int32 × dt) := rq (gR D o0 0) fun o164 => cq (f_X4_width S o164 x1 D) fun r169 D170 => rq (gR D170 o0 0) fun o171 => rq (gR D170 o171 4) fun o175 => ix x1 (sA S o175) <| nm (gI D170 o175 x1.toNatClampNeg) fun y180 => rq (gR D170 o0 1) fun o181 => rq (gR D170 o0 2) fun o185 => rq (gR D170 o0 0) fun o189 => rq (gR D170 o189 1) fun o193 => ix x1 (sA S o193) <| ix (gI D170 o193 x1.toNatClampNeg) (sA S o185) <| rq (gR D170 o0 0) fun o199 => rq (gR D170 o199 3) fun o203 => ix x1 (sA S o203) <| cq (f_X2_find S o181 ((gL D170 o185 (gI D170 o193 x1.toNatClampNeg).toNatClampNeg) + ((gI D170 o203 x1.toNatClampNeg).toInt64)) r169 (1 : Int32) D170) fun r209 D210 => if r209 = 0 then (some ((4 : Int32), D210)) else (rq (gR D210 o0 1) fun o212 => cq (f_X2_foundNumber S o212 r169 D210) fun r217 D218 => rq (gR D218 o0 2) fun o219 => rq (gR D218 o0 0) fun o223 => rq (gR D218 o223 2) fun o227 => ix x1 (sA S o227) <| ix (gI D218 o227 x1.toNatClampNeg) (sA S o219) <| nm (gL D218 o219 (gI D218 o227 x1.toNatClampNeg).toNatClampNeg) fun y233 => if y180 = (241 : Int32) then (if r169 = (8 : Int32) then (rq (gR D218 o0 2) fun o248 => ix (0 : Int32) (sA S o248) <| f_X1_doChange_116 S o0 x1 r169 r217 y233 (gL D218 o248 (0 : Int32).toNatClampNeg) D218) else (rq (gR D218 o0 2) fun o243 => ix (0 : Int32) (sA S o243) <| f_X1_doChange_116 S o0 x1 r169 r217 y233 ((gL D218 o243 (0 : Int32).toNatClampNeg) &&& (4294967295 : Int64)) D218)) else (rq (gR D218 o0 1) fun o235 => if y180 = (225 : Int32) then (f_X1_doChange_185 S o0 x1 r169 y180 r217 o235 y233 D218) else (pq (f_X3_make (y180 >>> ((4 : Int32) &&& 31)) (1 : Int32) (0 : Int32) r217 y233) fun r241 => f_X1_doChange_185 S o0 x1 r169 y180 r217 o235 r241 D218)))
-- JudgedCode$Machine.x
def f_X1_x (S : sh) (o0 : Nat) (x1 : Int32) (D : dt) : Option (Int64 × dt) := rq (gR D o0 0) fun o32 => cq (f_X4_byRegister S o32 x1 D) fun r37 D38 => if r37 = 0 then (rq (gR D38 o0 0) fun o40 => rq (gR D38 o40 4) fun o44 => ix x1 (sA S o44) <| some (((gI D38 o44 x1.toNatClampNeg).toInt64), D38)) else (rq (gR D38 o0 2) fun o49 => rq (gR D38 o0 0) fun o53 => rq (gR D38 o53 2) fun o57 => ix x1 (sA S o57) <| ix (gI D38 o57 x1.toNatClampNeg) (sA S o49) <| some ((gL D38 o49 (gI D38 o57 x1.toNatClampNeg).toNatClampNeg), D38))
-- JudgedCode$Machine.doArithmetic
def f_X1_doArithmetic_121 (S : sh) (o0 : Nat) (x1 : Int32) (D : dt) : Option (Int32 × dt) := cq (f_X1_goTo S o0 (x1 + (1 : Int32)) D) fun r93 D94 => some (r93, D94)
def f_X1_doArithmetic_52 (S : sh) (o0 : Nat) (x1 : Int32) (x3 : Int32) (xs0 : Int32) (D : dt) : Option (Int32 × dt) := rq (gR D o0 2) fun o95 => rq (gR D o0 2) fun o99 => ix x3 (sA S o99) <| rq (gR D o0 0) fun o104 => rq (gR D o104 4) fun o108 => ix x1 (sA S o108) <| pq (f_X3_turn (gL D o99 x3.toNatClampNeg) (gI D o108 x1.toNatClampNeg) xs0) fun r114 => ix x3 (sA S o95) <| nm (pL D o95 x3.toNatClampNeg r114) fun D116 => f_X1_doArithmetic_121 S o0 x1 D116
def f_X1_doArithmetic_47 (S : sh) (o0 : Nat) (x1 : Int32) (x3 : Int32) (D : dt) : Option (Int32 × dt) := f_X1_doArithmetic_52 S o0 x1 x3 (1 : Int32) D
def f_X1_doArithmetic (S : sh) (o0 : Nat) (x1 : Int32) (D : dt) : Option (Int32 × dt) := rq (gR D o0 0) fun o117 => cq (f_X4_code S o117 x1 D) fun r122 D123 => rq (gR D123 o0 0) fun o124 => rq (gR D123 o124 1) fun o128 => ix x1 (sA S o128) <| nm (gI D123 o128 x1.toNatClampNeg) fun y133 => if r122 = (13 : Int32) then (rq (gR D123 o0 0) fun o167 => cq (f_X4_isWide S o167 x1 D123) fun r172 D173 => if r172 = 0 then (rq (gR D173 o0 0) fun o175 => cq (f_X4_byRegister S o175 x1 D173) fun r180 D181 => if r180 = 0 then (f_X1_doArithmetic_52 S o0 x1 y133 (0 : Int32) D181) else (f_X1_doArithmetic_47 S o0 x1 y133 D181)) else (f_X1_doArithmetic_47 S o0 x1 y133 D173)) else (rq (gR D123 o0 2) fun o135 => rq (gR D123 o0 0) fun o139 => cq (f_X4_isWide S o139 x1 D123) fun r144 D145 => rq (gR D145 o0 0) fun o146 => rq (gR D145 o146 3) fun o150 => ix x1 (sA S o150) <| rq (gR D145 o0 2) fun o155 => ix y133 (sA S o155) <| cq (f_X1_x S o0 x1 D145) fun r161 D162 => pq (f_X3_make r122 r144 (gI D145 o150 x1.toNatClampNeg) (gL D145 o155 y133.toNatClampNeg) r161) fun r164 => ix y133 (sA S o135) <| nm (pL D162 o135 y133.toNatClampNeg r164) fun D166 => f_X1_doArithmetic_121 S o0 x1 D166)
-- JudgedCode$Machine.comeBack
def f_X1_comeBack_10 (S : sh) : Nat → Nat → Int32 → Int32 → dt → Option (Int32 × dt)
  | 0, _, _, _, _ => none
  | n + 1, o0, x1, x4, D => if (5 : Int32) < x4 then (cq (f_X1_goTo S o0 (x1 + (1 : Int32)) D) fun r21 D22 => some (r21, D22)) else (rq (gR D o0 2) fun o23 => ix x4 (sA S o23) <| nm (pL D o23 x4.toNatClampNeg (0 : Int64)) fun D28 => nm (x4 + 1) fun y29 => f_X1_comeBack_10 S n o0 x1 y29 D28)
def f_X1_comeBack (S : sh) (o0 : Nat) (x1 : Int32) (x2 : Int64) (D : dt) : Option (Int32 × dt) := rq (gR D o0 2) fun o30 => ix (0 : Int32) (sA S o30) <| nm (pL D o30 (0 : Int32).toNatClampNeg x2) fun D35 => nm ((1 : Int32)) fun y36 => f_X1_comeBack_10 S LF o0 x1 y36 D35
-- JudgedCode$Machine.doCall
def f_X1_doCall_195 (S : sh) (os0 : Nat) (xs1 : Int32) (xs2 : Int64) (D : dt) : Option (Int32 × dt) := cq (f_X1_comeBack S os0 xs1 xs2 D) fun r115 D116 => some (r115, D116)
def f_X1_doCall_268 (S : sh) (os0 : Nat) (xs1 : Int32) (xs2 : Int64) (D : dt) : Option (Int32 × dt) := cq (f_X1_comeBack S os0 xs1 xs2 D) fun r118 D119 => some (r118, D119)
def f_X1_doCall_254 (S : sh) (o0 : Nat) (x1 : Int32) (x7 : Int32) (D : dt) : Option (Int32 × dt) := if 0 ≤ x7 then (f_X1_doCall_268 S o0 x1 (0 : Int64) D) else (f_X1_doCall_268 S o0 x1 (-1 : Int64) D)
def f_X1_doCall_167 (S : sh) (os0 : Nat) (xs1 : Int32) (xs2 : Int64) (D : dt) : Option (Int32 × dt) := cq (f_X1_comeBack S os0 xs1 xs2 D) fun r122 D123 => some (r122, D123)
def f_X1_doCall (S : sh) (o0 : Nat) (x1 : Int32) (x2 : Int32) (D : dt) : Option (Int32 × dt) := if x2 = (5 : Int32) then (rq (gR D o0 1) fun o220 => cq (f_X1_comeBack S o0 x1 (gL D o220 5) D) fun r225 D226 => some (r225, D226)) else (if x2 = (6 : Int32) then (rq (gR D o0 3) fun o205 => rq (gR D o0 2) fun o209 => ix (1 : Int32) (sA S o209) <| ix ((gI D o0 4) - (gI D o0 4) / (32 : Int32) * (32 : Int32)) (sA S o205) <| nm (pL D o205 ((gI D o0 4) - (gI D o0 4) / (32 : Int32) * (32 : Int32)).toNatClampNeg (gL D o209 (1 : Int32).toNatClampNeg)) fun D215 => nm (pI D215 o0 4 ((gI D215 o0 4) + (1 : Int32))) fun D216 => cq (f_X1_comeBack S o0 x1 (0 : Int64) D216) fun r218 D219 => some (r218, D219)) else (rq (gR D o0 1) fun o126 => rq (gR D o0 2) fun o130 => ix (1 : Int32) (sA S o130) <| cq (f_X2_tableAt S o126 (gL D o130 (1 : Int32).toNatClampNeg) D) fun r136 D137 => rq (gR D137 o0 1) fun o138 => cq (f_X2_tableNumbered S o138 r136 D137) fun r143 D144 => oq r143 (some ((4 : Int32), D144)) fun o145 => rq (gR D144 o0 1) fun o147 => rq (gR D144 o0 2) fun o151 => ix (2 : Int32) (sA S o151) <| cq (f_X2_find S o147 (gL D144 o151 (2 : Int32).toNatClampNeg) (gI D144 o145 1) (0 : Int32) D144) fun r157 D158 => if r157 = 0 then (some ((4 : Int32), D158)) else (rq (gR D158 o0 1) fun o160 => cq (f_X2_foundNumber S o160 (gI D158 o145 1) D158) fun r165 D166 => if x2 = (1 : Int32) then (cq (f_X7_numberOf S o145 r165 D166) fun r202 D203 => if 0 ≤ r202 then (f_X1_doCall_167 S o0 x1 (((34359738368 : Int64) + (j_lshl r136.toInt64 (24 : Int32))) + (j_lshl r202.toInt64 (12 : Int32))) D203) else (f_X1_doCall_167 S o0 x1 (0 : Int64) D203)) else (if x2 = (3 : Int32) then (cq (f_X7_removeKey S o145 r165 D166) fun r198 D199 => if r198 = 0 then (f_X1_doCall_195 S o0 x1 (-1 : Int64) D199) else (f_X1_doCall_195 S o0 x1 (0 : Int64) D199)) else (rq (gR D166 o0 1) fun o169 => rq (gR D166 o0 2) fun o173 => ix (3 : Int32) (sA S o173) <| cq (f_X2_find S o169 (gL D166 o173 (3 : Int32).toNatClampNeg) (gI D166 o145 2) (0 : Int32) D166) fun r179 D180 => if r179 = 0 then (some ((4 : Int32), D180)) else (rq (gR D180 o0 2) fun o182 => ix (4 : Int32) (sA S o182) <| cq (f_X7_numberToPut S o145 r165 (gL D180 o182 (4 : Int32).toNatClampNeg) D180) fun r188 D189 => if r188 < 0 then (f_X1_doCall_254 S o0 x1 r188 D189) else (rq (gR D189 o0 1) fun o191 => cq (f_X2_copyFoundTo S o191 o145 r188 D189) fun _ D196 => f_X1_doCall_254 S o0 x1 r188 D196)))))))
-- JudgedCode$Machine.doJump
def f_X1_doJump_84 (S : sh) (os0 : Nat) (xs1 : Int32) (D : dt) : Option (Int32 × dt) := cq (f_X1_goTo S os0 xs1 D) fun r49 D50 => some (r49, D50)
def f_X1_doJump_60 (S : sh) (o0 : Nat) (x1 : Int32) (xs0 : Int32) (D : dt) : Option (Int32 × dt) := if xs0 = 0 then (f_X1_doJump_84 S o0 (x1 + (1 : Int32)) D) else (rq (gR D o0 0) fun o52 => cq (f_X4_distance S o52 x1 D) fun r57 D58 => f_X1_doJump_84 S o0 ((x1 + (1 : Int32)) + r57) D58)
def f_X1_doJump_55 (S : sh) (o0 : Nat) (x1 : Int32) (D : dt) : Option (Int32 × dt) := f_X1_doJump_60 S o0 x1 (1 : Int32) D
def f_X1_doJump (S : sh) (o0 : Nat) (x1 : Int32) (D : dt) : Option (Int32 × dt) := rq (gR D o0 0) fun o59 => cq (f_X4_code S o59 x1 D) fun r64 D65 => if r64 = (9 : Int32) then (some ((2 : Int32), D65)) else (if r64 = 0 then (f_X1_doJump_55 S o0 x1 D65) else (rq (gR D65 o0 0) fun o68 => cq (f_X4_isWide S o68 x1 D65) fun r73 D74 => rq (gR D74 o0 2) fun o75 => rq (gR D74 o0 0) fun o79 => rq (gR D74 o79 1) fun o83 => ix x1 (sA S o83) <| ix (gI D74 o83 x1.toNatClampNeg) (sA S o75) <| cq (f_X1_x S o0 x1 D74) fun r90 D91 => pq (f_X3_holds r64 r73 (gL D74 o75 (gI D74 o83 x1.toNatClampNeg).toNatClampNeg) r90) fun r93 => if r93 = 0 then (f_X1_doJump_60 S o0 x1 (0 : Int32) D91) else (f_X1_doJump_55 S o0 x1 D91)))
theorem mk_X1_init : MkI yX1_init cX1_init 3 2 := ⟨⟨lk_216, lk_117, (tb_in (i := 217) (by decide +kernel) (by decide +kernel))⟩, rfl, by decide +kernel⟩
theorem mk_X1_begin : MkV yX1_begin RX1 cX1_begin 1 none 0 := ⟨⟨lk_888, lk_889, lk_117, (tb_in (i := 890) (by decide +kernel) (by decide +kernel))⟩, by decide +kernel⟩
theorem mk_X1_goTo : MkV yX1_goTo RX1 cX1_goTo 2 (some .int) 1 := ⟨⟨lk_920, lk_46, lk_117, (tb_in (i := 921) (by decide +kernel) (by decide +kernel))⟩, by decide +kernel⟩
theorem mk_X1_doPair : MkV yX1_doPair RX1 cX1_doPair 6 (some .int) 1 := ⟨⟨lk_913, lk_45, lk_117, (tb_in (i := 914) (by decide +kernel) (by decide +kernel))⟩, by decide +kernel⟩
theorem mk_X1_doLoad : MkV yX1_doLoad RX1 cX1_doLoad 5 (some .int) 1 := ⟨⟨lk_924, lk_47, lk_117, (tb_in (i := 925) (by decide +kernel) (by decide +kernel))⟩, by decide +kernel⟩
theorem mk_X1_doPut : MkV yX1_doPut RX1 cX1_doPut 5 (some .int) 2 := ⟨⟨lk_951, lk_50, lk_117, (tb_in (i := 952) (by decide +kernel) (by decide +kernel))⟩, by decide +kernel⟩
theorem mk_X1_doChange : MkV yX1_doChange RX1 cX1_doChange 10 (some .int) 1 := ⟨⟨lk_960, lk_51, lk_117, (tb_in (i := 961) (by decide +kernel) (by decide +kernel))⟩, by decide +kernel⟩
theorem mk_X1_x : MkV yX1_x RX1 cX1_x 2 (some .long) 1 := ⟨⟨lk_973, lk_53, lk_117, (tb_in (i := 974) (by decide +kernel) (by decide +kernel))⟩, by decide +kernel⟩
theorem mk_X1_doArithmetic : MkV yX1_doArithmetic RX1 cX1_doArithmetic 5 (some .int) 1 := ⟨⟨lk_965, lk_52, lk_117, (tb_in (i := 966) (by decide +kernel) (by decide +kernel))⟩, by decide +kernel⟩
theorem mk_X1_comeBack : MkV yX1_comeBack RX1 cX1_comeBack 5 (some .int) 2 := ⟨⟨lk_981, lk_55, lk_117, (tb_in (i := 982) (by decide +kernel) (by decide +kernel))⟩, by decide +kernel⟩
theorem mk_X1_doCall : MkV yX1_doCall RX1 cX1_doCall 8 (some .int) 2 := ⟨⟨lk_977, lk_54, lk_117, (tb_in (i := 978) (by decide +kernel) (by decide +kernel))⟩, by decide +kernel⟩
theorem mk_X1_doJump : MkV yX1_doJump RX1 cX1_doJump 4 (some .int) 1 := ⟨⟨lk_1014, lk_57, lk_117, (tb_in (i := 1015) (by decide +kernel) (by decide +kernel))⟩, by decide +kernel⟩
section
variable {p : Program} {l : Launch} {e : Env} {R : Room} {s : State} {m : MethodId} {args : Array Value} {below : List Frame} {meth : Method} {c : Code} {H : Heap} {locs : List Loc} {G : va_G} {cA : Nat → ClassId} {S : sh} {D : dt} {ad : Nat → Nat} {A : Nat → Prop}
theorem mn_X1_init_17 {r : Unit} {S' : sh} {D' : dt} {o0 : Nat} {o1 : Nat} {o2 : Nat} {os0 : Nat} {os1 : Nat} {S : sh} {D : dt} (h : f_X1_init_17 o0 o1 o2 os0 os1 S D = some (r, S', D')) : Ext S S' := by
  unfold f_X1_init_17 at h
  have h := nm_i h _ rfl
  have h := nm_i h _ rfl
  have h := nm_i h _ rfl
  cases h
  exact Ext.rf _
set_option maxHeartbeats 4000000 in
set_option maxRecDepth 100000 in
theorem w_X1_init_17 {r : Unit} {S' : sh} {D' : dt} {S0 : sh} {ad0 : Nat → Nat} (hC : Cx RX1 cX1_init 3 none p s m args meth c) (hin : meth.name = "<init>") (hR : 1 ≤ R.frames ∧ 20 ≤ R.locals) (ho : R.cells = sN S' - sN S0 ∧ R.slots = sZ S' - sZ S0) : ∀ (o0 a0 : Nat) (o1 a1 : Nat) (o2 a2 : Nat) (os0 as0 : Nat) (os1 as1 : Nat) (S : sh) (D : dt) (ad : Nat → Nat) (H : Heap) (locs : List Loc) (ls : Array Slot) (cells slots : Nat), Is S ad o0 a0 1 → Is S ad o1 a1 3 → Is S ad o2 a2 2 → Is S ad os0 as0 1 → Is S ad os1 as1 101 → Wd G cA S D ad A s H locs → Al S0 ad0 S ad cells slots → lv_has ls 3 [(0, .ref a0), (1, .ref a1), (2, .ref a2)] → f_X1_init_17 o0 o1 o2 os0 os1 S D = some (r, S', D') → W p l e R s m args below meth c H locs cells slots (MQ below (Qa (fun _ => none) (fun ad' => (∀ k, k < sN S0 → ad' k = ad0 k) ∧ True) (fun ad' => wpost G cA S' D' ad' A) A) args s (sN S' - sN S0) (sZ S' - sZ S0) A) (F0 m 17 ls [.ref as1, .ref as0]) := by
  obtain ⟨hx, hb, -⟩ := id hC
  intro o0 a0 o1 a1 o2 a2 os0 as0 os1 as1 S D ad H locs ls cells slots hi0 hi1 hi2 his0 his1 hw hc hl h
  have hE : Ext S S' := mn_X1_init_17  h
  unfold f_X1_init_17 at h
  refine r_pRF hC hin hw kc_1 his0 3 rfl lk_223 rfl rfl rfl rfl rfl his1 dX1_init_17 (fun D19 eD19 H locs hw => ?_)
  have h := nm_i h D19 eD19
  refine lv_aload_n hx hb dX1_init_20 rfl (lv_at hl 0 rfl) ?_
  refine lv_aload_n hx hb dX1_init_21 rfl (lv_at hl 1 rfl) ?_
  refine r_pRF hC hin hw kc_1 hi0 0 rfl lk_219 rfl rfl rfl rfl rfl hi1 dX1_init_22 (fun D20 eD20 H locs hw => ?_)
  have h := nm_i h D20 eD20
  refine lv_aload_n hx hb dX1_init_25 rfl (lv_at hl 0 rfl) ?_
  refine lv_aload_n hx hb dX1_init_26 rfl (lv_at hl 2 rfl) ?_
  refine r_pRF hC hin hw kc_1 hi0 1 rfl lk_220 rfl rfl rfl rfl rfl hi2 dX1_init_27 (fun D21 eD21 H locs hw => ?_)
  have h := nm_i h D21 eD21
  cases h
  exact r_vretA hC hw hc dX1_init_30
theorem mn_X1_init_9 {r : Unit} {S' : sh} {D' : dt} {o0 : Nat} {o1 : Nat} {o2 : Nat} {os0 : Nat} {os1 : Nat} {S : sh} {D : dt} (h : f_X1_init_9 o0 o1 o2 os0 os1 S D = some (r, S', D')) : Ext S S' := by
  unfold f_X1_init_9 at h
  have h := nm_i h _ rfl
  have hA := (Ext.aS S 101 32 32)
  exact hA.tr (mn_X1_init_17 h)
set_option maxHeartbeats 4000000 in
set_option maxRecDepth 100000 in
theorem w_X1_init_9 {r : Unit} {S' : sh} {D' : dt} {S0 : sh} {ad0 : Nat → Nat} (hC : Cx RX1 cX1_init 3 none p s m args meth c) (hin : meth.name = "<init>") (hR : 1 ≤ R.frames ∧ 20 ≤ R.locals) (ho : R.cells = sN S' - sN S0 ∧ R.slots = sZ S' - sZ S0) : ∀ (o0 a0 : Nat) (o1 a1 : Nat) (o2 a2 : Nat) (os0 as0 : Nat) (os1 as1 : Nat) (S : sh) (D : dt) (ad : Nat → Nat) (H : Heap) (locs : List Loc) (ls : Array Slot) (cells slots : Nat), Is S ad o0 a0 1 → Is S ad o1 a1 3 → Is S ad o2 a2 2 → Is S ad os0 as0 1 → Is S ad os1 as1 101 → Wd G cA S D ad A s H locs → Al S0 ad0 S ad cells slots → lv_has ls 3 [(0, .ref a0), (1, .ref a1), (2, .ref a2)] → f_X1_init_9 o0 o1 o2 os0 os1 S D = some (r, S', D') → W p l e R s m args below meth c H locs cells slots (MQ below (Qa (fun _ => none) (fun ad' => (∀ k, k < sN S0 → ad' k = ad0 k) ∧ True) (fun ad' => wpost G cA S' D' ad' A) A) args s (sN S' - sN S0) (sZ S' - sZ S0) A) (F0 m 9 ls [.ref as1, .ref as0]) := by
  obtain ⟨hx, hb, -⟩ := id hC
  intro o0 a0 o1 a1 o2 a2 os0 as0 os1 as1 S D ad H locs ls cells slots hi0 hi1 hi2 his0 his1 hw hc hl h
  have hE : Ext S S' := mn_X1_init_9  h
  unfold f_X1_init_9 at h
  refine r_pRF hC hin hw kc_1 his0 2 rfl lk_221 rfl rfl rfl rfl rfl his1 dX1_init_9 (fun D22 eD22 H locs hw => ?_)
  have h := nm_i h D22 eD22
  refine lv_aload_n hx hb dX1_init_12 rfl (lv_at hl 0 rfl) ?_
  refine lv_bipush (v := 32) hx hb dX1_init_13 (by decide) ?_
  have hE25 := mn_X1_init_17 h
  refine r_newL hC hw lk_249 (by decide) (by decide) (by decide) (hc.room ho hE25).1 (hc.room ho hE25).2 dX1_init_15 (fun q23 H hw hi24 => ?_)
  have hi26 := Is.up hi0 (Ext.aS S 101 32 32) (up_lt (q := q23))
  have hi27 := Is.up hi1 (Ext.aS S 101 32 32) (up_lt (q := q23))
  have hi28 := Is.up hi2 (Ext.aS S 101 32 32) (up_lt (q := q23))
  have hc := hc.new 101 32 32 q23
  exact w_X1_init_17 hC hin hR ho o0 a0 o1 a1 o2 a2 o0 a0 (sN S) q23 _ _ _ _ _ _ _ _ hi26 hi27 hi28 hi26 hi24 hw hc (lv_sub hl [0, 1, 2] rfl) h --j29
theorem mn_X1_init_0 {r : Unit} {S' : sh} {D' : dt} {o0 : Nat} {o1 : Nat} {o2 : Nat} {S : sh} {D : dt} (h : f_X1_init o0 o1 o2 S D = some (r, S', D')) : Ext S S' := by
  unfold f_X1_init at h
  have hA := (Ext.aS S 101 11 11)
  exact hA.tr (mn_X1_init_9 h)
set_option maxHeartbeats 4000000 in
set_option maxRecDepth 100000 in
theorem w_X1_init_0 {r : Unit} {S' : sh} {D' : dt} {S0 : sh} {ad0 : Nat → Nat} (hC : Cx RX1 cX1_init 3 none p s m args meth c) (hin : meth.name = "<init>") (hR : 1 ≤ R.frames ∧ 20 ≤ R.locals) (ho : R.cells = sN S' - sN S0 ∧ R.slots = sZ S' - sZ S0) : ∀ (o0 a0 : Nat) (o1 a1 : Nat) (o2 a2 : Nat) (S : sh) (D : dt) (ad : Nat → Nat) (H : Heap) (locs : List Loc) (ls : Array Slot) (cells slots : Nat), Is S ad o0 a0 1 → Is S ad o1 a1 3 → Is S ad o2 a2 2 → Wd G cA S D ad A s H locs → Al S0 ad0 S ad cells slots → lv_has ls 3 [(0, .ref a0), (1, .ref a1), (2, .ref a2)] → f_X1_init o0 o1 o2 S D = some (r, S', D') → W p l e R s m args below meth c H locs cells slots (MQ below (Qa (fun _ => none) (fun ad' => (∀ k, k < sN S0 → ad' k = ad0 k) ∧ True) (fun ad' => wpost G cA S' D' ad' A) A) args s (sN S' - sN S0) (sZ S' - sZ S0) A) (F0 m 0 ls []) := by
  obtain ⟨hx, hb, -⟩ := id hC
  intro o0 a0 o1 a1 o2 a2 S D ad H locs ls cells slots hi0 hi1 hi2 hw hc hl h
  have hE : Ext S S' := mn_X1_init_0  h
  unfold f_X1_init at h
  refine lv_aload_n hx hb dX1_init_0 rfl (lv_at hl 0 rfl) ?_
  refine W.objInit hx hb hC.2.2.2.1 (hC.2.2.2.2.1 _ lk_218) (hC.2.2.2.2.1 _ lk_133) (hC.2.2.2.2.1 _ cd_obj) rfl (by rw [hC.2.2.1]; exact hl.1) rfl dX1_init_1 (Nat.le_trans (by decide) hR.1) (Nat.le_trans (Nat.le_of_ble_eq_true rfl) hR.2) ?_
  refine W.eq (g2 := F0 m 4 ls []) rfl ?_
  refine lv_aload_n hx hb dX1_init_4 rfl (lv_at hl 0 rfl) ?_
  refine lv_bipush (v := 11) hx hb dX1_init_5 (by decide) ?_
  have hE32 := mn_X1_init_9 h
  refine r_newL hC hw lk_249 (by decide) (by decide) (by decide) (hc.room ho hE32).1 (hc.room ho hE32).2 dX1_init_7 (fun q30 H hw hi31 => ?_)
  have hi33 := Is.up hi0 (Ext.aS S 101 11 11) (up_lt (q := q30))
  have hi34 := Is.up hi1 (Ext.aS S 101 11 11) (up_lt (q := q30))
  have hi35 := Is.up hi2 (Ext.aS S 101 11 11) (up_lt (q := q30))
  have hc := hc.new 101 11 11 q30
  exact w_X1_init_9 hC hin hR ho o0 a0 o1 a1 o2 a2 o0 a0 (sN S) q30 _ _ _ _ _ _ _ _ hi33 hi34 hi35 hi33 hi31 hw hc (lv_sub hl [0, 1, 2] rfl) h --j36
set_option maxHeartbeats 4000000 in
set_option maxRecDepth 100000 in
theorem k_X1_init {l : Launch} {G : va_G} {cA : Nat → ClassId} {S S' : sh} {D D' : dt} {ad : Nat → Nat} (sz : Nat) {o0 a0 : Nat} {o1 a1 : Nat} {o2 a2 : Nat} {r : Unit} (hi0 : Is S ad o0 a0 1) (hi1 : Is S ad o1 a1 3) (hi2 : Is S ad o2 a2 2) (h : f_X1_init o0 o1 o2 S D = some (r, S', D')) : CoA l yX1_init (Cond.code yX1_init cX1_init 3 none :: tb0) 1 20 [.ref a0, .ref a1, .ref a2] G cA S D ad sz (fun _ => none) True S' D' := by
  refine Met.ofW (cc := cX1_init) (maxL := 3) (ret := none) (by decide) rfl ?_
  intro p e s m args below meth c s₁ B hml hv
  obtain ⟨rfl, hsz, hP, hK, hD0, hT, hX⟩ := hv
  subst hsz
  have hts := atoms_spec (ws := Cond.code yX1_init cX1_init 3 none :: tb0) B.pre
  have hC : Cx RX1 cX1_init 3 none p s m _ meth c := ⟨B.exec, B.bytes, hml, findClass_of_methodNamed B.named, fun w q => hts w (List.mem_cons_of_mem _ q), B.returns, B.notSynchronized⟩
  have hin : meth.name = "<init>" := (name_of_methodNamed B.named B.method).1
  have hw := Wd.entry hP hK hD0 hT hX
  have hl := lv_entry ([.ref a0, .ref a1, .ref a2]) (n := 3) (Nat.le_of_ble_eq_true rfl)
  rw [lg_entry_eq]
  exact w_X1_init_0 hC hin ⟨Nat.le_refl _, Nat.le_refl _⟩ ⟨rfl, rfl⟩ o0 a0 o1 a1 o2 a2 S D ad _ _ _ 0 0 hi0 hi1 hi2 hw (Al.rf S ad) hl h
set_option maxHeartbeats 4000000 in
set_option maxRecDepth 100000 in
theorem w_X1_begin_0 {r : Unit} {D' : dt} (hC : Cx RX1 cX1_begin 1 none p s m args meth c) (hR : 1 ≤ R.frames ∧ 24 ≤ R.locals) : ∀ (o0 a0 : Nat) (D : dt) (H : Heap) (locs : List Loc) (ls : Array Slot), Is S ad o0 a0 1 → Wd G cA S D ad A s H locs → lv_has ls 1 [(0, .ref a0)] → f_X1_begin S o0 D = some (r, D') → W p l e R s m args below meth c H locs 0 0 (MQ below (Qn none True (wpost G cA S D' ad A) A) args s 0 0 A) (F0 m 0 ls []) := by
  obtain ⟨hx, hb, -⟩ := id hC
  intro o0 a0 D H locs ls hi0 hw hl h
  unfold f_X1_begin at h
  refine lv_aload_n hx hb dX1_begin_0 rfl (lv_at hl 0 rfl) ?_
  obtain ⟨o33, ho36, h⟩ := rq_i h
  refine r_getR hC hw kc_1 hi0 2 rfl lk_221 dX1_begin_1 rfl ho36 (fun a34 hi35 => ?_)
  refine lv_lconst (v := 0) hx hb dX1_begin_4 (by decide) ?_
  obtain ⟨_, D38, hq37, h⟩ := cq_i h
  refine r_cS (st' := []) [.ref a34, .long (0 : Int64)] [] hC hw (k_J7_fill_d0a16 _ hi35 hq37) mk_J7_fill_d0a16 lk_891 ⟨Nat.le_trans (by decide) hR.1, Nat.le_trans (by decide) hR.2⟩ ⟨Nat.zero_le _, Nat.zero_le _⟩ rfl hl.1 rfl rfl (Nat.le_of_ble_eq_true rfl) dX1_begin_5 (fun hP H locs hw => ?_)
  refine lv_aload_n hx hb dX1_begin_8 rfl (lv_at hl 0 rfl) ?_
  obtain ⟨o39, ho42, h⟩ := rq_i h
  refine r_getR hC hw kc_1 hi0 2 rfl lk_221 dX1_begin_9 rfl ho42 (fun a40 hi41 => ?_)
  refine lv_iconst (v := 1) hx hb dX1_begin_12 (by decide) ?_
  refine lv_ldc2 (v := 4294967296) hx hb hC.2.2.2.1 (hC.2.2.2.2.1 _ lk_892) dX1_begin_13 ?_
  obtain ⟨hn43, h⟩ := ix_i h
  refine r_las hC hw hi41 hn43 dX1_begin_16 (fun D44 eD44 H locs hw => ?_)
  have h := nm_i h D44 eD44
  refine lv_aload_n hx hb dX1_begin_17 rfl (lv_at hl 0 rfl) ?_
  obtain ⟨o45, ho48, h⟩ := rq_i h
  refine r_getR hC hw kc_1 hi0 2 rfl lk_221 dX1_begin_18 rfl ho48 (fun a46 hi47 => ?_)
  refine lv_bipush (v := 10) hx hb dX1_begin_21 (by decide) ?_
  refine lv_ldc2 (v := 8589934592) hx hb hC.2.2.2.1 (hC.2.2.2.2.1 _ lk_893) dX1_begin_23 ?_
  obtain ⟨hn49, h⟩ := ix_i h
  refine r_las hC hw hi47 hn49 dX1_begin_26 (fun D50 eD50 H locs hw => ?_)
  have h := nm_i h D50 eD50
  refine lv_aload_n hx hb dX1_begin_27 rfl (lv_at hl 0 rfl) ?_
  obtain ⟨o51, ho54, h⟩ := rq_i h
  refine r_getR hC hw kc_1 hi0 1 rfl lk_220 dX1_begin_28 rfl ho54 (fun a52 hi53 => ?_)
  obtain ⟨o55, ho58, h⟩ := rq_i h
  refine r_getR hC hw kc_2 hi53 2 rfl lk_187 dX1_begin_31 rfl ho58 (fun a56 hi57 => ?_)
  refine lv_iconst (v := 0) hx hb dX1_begin_34 (by decide) ?_
  obtain ⟨_, D60, hq59, h⟩ := cq_i h
  refine r_cS (st' := []) [.ref a56, .int (0 : Int32)] [] hC hw (k_J7_fill_031fb _ hi57 hq59) mk_J7_fill_031fb lk_894 ⟨Nat.le_trans (by decide) hR.1, Nat.le_trans (by decide) hR.2⟩ ⟨Nat.zero_le _, Nat.zero_le _⟩ rfl hl.1 rfl rfl (Nat.le_of_ble_eq_true rfl) dX1_begin_35 (fun hP H locs hw => ?_)
  refine lv_aload_n hx hb dX1_begin_38 rfl (lv_at hl 0 rfl) ?_
  refine lv_iconst (v := 0) hx hb dX1_begin_39 (by decide) ?_
  refine r_pI hC hw kc_1 hi0 4 rfl lk_224 rfl rfl rfl dX1_begin_40 (fun D61 eD61 H locs hw => ?_)
  have h := nm_i h D61 eD61
  refine lv_aload_n hx hb dX1_begin_43 rfl (lv_at hl 0 rfl) ?_
  refine lv_iconst (v := 0) hx hb dX1_begin_44 (by decide) ?_
  refine r_pI hC hw kc_1 hi0 6 rfl lk_228 rfl rfl rfl dX1_begin_45 (fun D62 eD62 H locs hw => ?_)
  have h := nm_i h D62 eD62
  refine lv_aload_n hx hb dX1_begin_48 rfl (lv_at hl 0 rfl) ?_
  refine lv_iconst (v := 0) hx hb dX1_begin_49 (by decide) ?_
  refine r_pI hC hw kc_1 hi0 7 rfl lk_230 rfl rfl rfl dX1_begin_50 (fun D63 eD63 H locs hw => ?_)
  have h := nm_i h D63 eD63
  refine lv_aload_n hx hb dX1_begin_53 rfl (lv_at hl 0 rfl) ?_
  refine lv_iconst (v := 1) hx hb dX1_begin_54 (by decide) ?_
  refine r_pI hC hw kc_1 hi0 5 rfl lk_226 rfl rfl rfl dX1_begin_55 (fun D64 eD64 H locs hw => ?_)
  have h := nm_i h D64 eD64
  cases h
  exact r_vret hC hw dX1_begin_58
set_option maxHeartbeats 4000000 in
set_option maxRecDepth 100000 in
theorem k_X1_begin {l : Launch} {G : va_G} {cA : Nat → ClassId} {S : sh} {D D' : dt} {ad : Nat → Nat} (sz : Nat) {o0 a0 : Nat} {r : Unit} (hi0 : Is S ad o0 a0 1) (h : f_X1_begin S o0 D = some (r, D')) : Co l yX1_begin (Cond.code yX1_begin cX1_begin 1 none :: tb0) 1 24 [.ref a0] G cA S D ad sz none True D' := by
  refine Met.ofW (cc := cX1_begin) (maxL := 1) (ret := none) (by decide) rfl ?_
  intro p e s m args below meth c s₁ B hml hv
  obtain ⟨rfl, hsz, hP, hK, hD0, hT, hX⟩ := hv
  subst hsz
  have hts := atoms_spec (ws := Cond.code yX1_begin cX1_begin 1 none :: tb0) B.pre
  have hC : Cx RX1 cX1_begin 1 none p s m _ meth c := ⟨B.exec, B.bytes, hml, findClass_of_methodNamed B.named, fun w q => hts w (List.mem_cons_of_mem _ q), B.returns, B.notSynchronized⟩
  have hw := Wd.entry hP hK hD0 hT hX
  have hl := lv_entry ([.ref a0]) (n := 1) (Nat.le_of_ble_eq_true rfl)
  rw [lg_entry_eq]
  exact w_X1_begin_0 hC ⟨Nat.le_refl _, Nat.le_refl _⟩ o0 a0 D _ _ _ hi0 hw hl h
set_option maxHeartbeats 4000000 in
set_option maxRecDepth 100000 in
theorem w_X1_goTo_0 {r : Int32} {D' : dt} (hC : Cx RX1 cX1_goTo 2 (some .int) p s m args meth c) (hR : 0 ≤ R.frames ∧ 0 ≤ R.locals) : ∀ (o0 a0 : Nat) (x1 : Int32) (D : dt) (H : Heap) (locs : List Loc) (ls : Array Slot), Is S ad o0 a0 1 → Wd G cA S D ad A s H locs → lv_has ls 2 [(0, .ref a0), (1, .int x1)] → f_X1_goTo S o0 x1 D = some (r, D') → W p l e R s m args below meth c H locs 0 0 (MQ below (Qn (some (.int r)) True (wpost G cA S D' ad A) A) args s 0 0 A) (F0 m 0 ls []) := by
  obtain ⟨hx, hb, -⟩ := id hC
  intro o0 a0 x1 D H locs ls hi0 hw hl h
  unfold f_X1_goTo at h
  refine lv_aload_n hx hb dX1_goTo_0 rfl (lv_at hl 0 rfl) ?_
  refine lv_iload_n hx hb dX1_goTo_1 rfl (lv_at hl 1 rfl) ?_
  refine r_pI hC hw kc_1 hi0 6 rfl lk_228 rfl rfl rfl dX1_goTo_2 (fun D2 eD2 H locs hw => ?_)
  have h := nm_i h D2 eD2
  refine lv_iconst (v := 1) hx hb dX1_goTo_5 (by decide) ?_
  cases h
  exact r_iret hC hw dX1_goTo_6
set_option maxHeartbeats 4000000 in
set_option maxRecDepth 100000 in
theorem k_X1_goTo {l : Launch} {G : va_G} {cA : Nat → ClassId} {S : sh} {D D' : dt} {ad : Nat → Nat} (sz : Nat) {o0 a0 : Nat} {x1 : Int32} {r : Int32} (hi0 : Is S ad o0 a0 1) (h : f_X1_goTo S o0 x1 D = some (r, D')) : Co l yX1_goTo (Cond.code yX1_goTo cX1_goTo 2 (some .int) :: tb0) 0 0 [.ref a0, .int x1] G cA S D ad sz (some (.int r)) True D' := by
  refine Met.ofW (cc := cX1_goTo) (maxL := 2) (ret := (some .int)) (by decide) rfl ?_
  intro p e s m args below meth c s₁ B hml hv
  obtain ⟨rfl, hsz, hP, hK, hD0, hT, hX⟩ := hv
  subst hsz
  have hts := atoms_spec (ws := Cond.code yX1_goTo cX1_goTo 2 (some .int) :: tb0) B.pre
  have hC : Cx RX1 cX1_goTo 2 (some .int) p s m _ meth c := ⟨B.exec, B.bytes, hml, findClass_of_methodNamed B.named, fun w q => hts w (List.mem_cons_of_mem _ q), B.returns, B.notSynchronized⟩
  have hw := Wd.entry hP hK hD0 hT hX
  have hl := lv_entry ([.ref a0, .int x1]) (n := 2) (Nat.le_of_ble_eq_true rfl)
  rw [lg_entry_eq]
  exact w_X1_goTo_0 hC ⟨Nat.le_refl _, Nat.le_refl _⟩ o0 a0 x1 D _ _ _ hi0 hw hl h
set_option maxHeartbeats 4000000 in
set_option maxRecDepth 100000 in
theorem w_X1_doPair_113 {r : Int32} {D' : dt} (hC : Cx RX1 cX1_doPair 6 (some .int) p s m args meth c) (hR : 1 ≤ R.frames ∧ 21 ≤ R.locals) : ∀ (o0 a0 : Nat) (x1 : Int32) (os0 as0 : Nat) (xs1 : Int32) (xs2 : Int64) (D : dt) (H : Heap) (locs : List Loc) (ls : Array Slot), Is S ad o0 a0 1 → Is S ad os0 as0 101 → Wd G cA S D ad A s H locs → lv_has ls 6 [(0, .ref a0), (1, .int x1)] → f_X1_doPair_113 S o0 x1 os0 xs1 xs2 D = some (r, D') → W p l e R s m args below meth c H locs 0 0 (MQ below (Qn (some (.int r)) True (wpost G cA S D' ad A) A) args s 0 0 A) (F0 m 113 ls [.long xs2, .int xs1, .ref as0]) := by
  obtain ⟨hx, hb, -⟩ := id hC
  intro o0 a0 x1 os0 as0 xs1 xs2 D H locs ls hi0 his0 hw hl h
  unfold f_X1_doPair_113 at h
  obtain ⟨hn68, h⟩ := ix_i h
  refine r_las hC hw his0 hn68 dX1_doPair_113 (fun D69 eD69 H locs hw => ?_)
  have h := nm_i h D69 eD69
  refine lv_aload_n hx hb dX1_doPair_114 rfl (lv_at hl 0 rfl) ?_
  refine lv_iload_n hx hb dX1_doPair_115 rfl (lv_at hl 1 rfl) ?_
  refine lv_iconst (v := 2) hx hb dX1_doPair_116 (by decide) ?_
  refine lv_iadd hx hb dX1_doPair_117 ?_
  obtain ⟨r71, D72, hq70, h⟩ := cq_i h
  refine r_cV (st' := [.int r71]) [.int (x1 + (2 : Int32))] [] hC hw kc_1 hi0 (k_X1_goTo _ hi0 hq70) mk_X1_goTo lk_918 ⟨Nat.le_trans (by decide) hR.1, Nat.le_trans (by decide) hR.2⟩ ⟨Nat.zero_le _, Nat.zero_le _⟩ rfl hl.1 rfl rfl (Nat.le_of_ble_eq_true rfl) dX1_doPair_118 (fun hP H locs hw => ?_)
  cases h
  exact r_iret hC hw dX1_doPair_121
set_option maxHeartbeats 4000000 in
set_option maxRecDepth 100000 in
theorem w_X1_doPair_61 {r : Int32} {D' : dt} (hC : Cx RX1 cX1_doPair 6 (some .int) p s m args meth c) (hR : 1 ≤ R.frames ∧ 21 ≤ R.locals) : ∀ (o0 a0 : Nat) (x1 : Int32) (x2 : Int32) (x3 : Int32) (D : dt) (H : Heap) (locs : List Loc) (ls : Array Slot), Is S ad o0 a0 1 → Wd G cA S D ad A s H locs → lv_has ls 6 [(0, .ref a0), (1, .int x1), (2, .int x2), (3, .int x3)] → f_X1_doPair_61 S o0 x1 x2 x3 D = some (r, D') → W p l e R s m args below meth c H locs 0 0 (MQ below (Qn (some (.int r)) True (wpost G cA S D' ad A) A) args s 0 0 A) (F0 m 61 ls []) := by
  obtain ⟨hx, hb, -⟩ := id hC
  intro o0 a0 x1 x2 x3 D H locs ls hi0 hw hl h
  unfold f_X1_doPair_61 at h
  refine lv_aload_n hx hb dX1_doPair_61 rfl (lv_at hl 0 rfl) ?_
  obtain ⟨o73, ho76, h⟩ := rq_i h
  refine r_getR hC hw kc_1 hi0 0 rfl lk_219 dX1_doPair_62 rfl ho76 (fun a74 hi75 => ?_)
  obtain ⟨o77, ho80, h⟩ := rq_i h
  refine r_getR hC hw kc_3 hi75 4 rfl lk_154 dX1_doPair_65 rfl ho80 (fun a78 hi79 => ?_)
  refine lv_iload_n hx hb dX1_doPair_68 rfl (lv_at hl 1 rfl) ?_
  refine lv_iconst (v := 1) hx hb dX1_doPair_69 (by decide) ?_
  refine lv_iadd hx hb dX1_doPair_70 ?_
  obtain ⟨hn81, h⟩ := ix_i h
  refine r_iald hC hw hi79 hn81 dX1_doPair_71 ?_
  refine lv_i2l (v := (gI D o77 (x1 + (1 : Int32)).toNatClampNeg).toInt64) hx hb dX1_doPair_72 rfl ?_
  refine lv_bipush (v := 32) hx hb dX1_doPair_73 (by decide) ?_
  refine lv_lshl (v := j_lshl ((gI D o77 (x1 + (1 : Int32)).toNatClampNeg).toInt64) (32 : Int32)) hx hb dX1_doPair_75 rfl ?_
  refine lv_iload_n hx hb dX1_doPair_76 rfl (lv_at hl 2 rfl) ?_
  refine lv_i2l (v := x2.toInt64) hx hb dX1_doPair_77 rfl ?_
  refine lv_ldc2 (v := 4294967295) hx hb hC.2.2.2.1 (hC.2.2.2.2.1 _ lk_916) dX1_doPair_78 ?_
  refine lv_land hx hb dX1_doPair_81 ?_
  refine lv_lor hx hb dX1_doPair_82 ?_
  refine lv_topl (fun y82 ey82 => ?_)
  have h := nm_i h y82 ey82
  refine lv_lstore (lv' := [(4, .long y82), (0, .ref a0), (1, .int x1), (2, .int x2), (3, .int x3)]) hx hb dX1_doPair_83 hl (by decide) rfl (fun ls hl => ?_)
  refine lv_aload_n hx hb dX1_doPair_85 rfl (lv_at hl 1 rfl) ?_
  obtain ⟨o83, ho86, h⟩ := rq_i h
  refine r_getR hC hw kc_1 hi0 2 rfl lk_221 dX1_doPair_86 rfl ho86 (fun a84 hi85 => ?_)
  refine lv_aload_n hx hb dX1_doPair_89 rfl (lv_at hl 1 rfl) ?_
  obtain ⟨o87, ho90, h⟩ := rq_i h
  refine r_getR hC hw kc_1 hi0 0 rfl lk_219 dX1_doPair_90 rfl ho90 (fun a88 hi89 => ?_)
  obtain ⟨o91, ho94, h⟩ := rq_i h
  refine r_getR hC hw kc_3 hi89 1 rfl lk_145 dX1_doPair_93 rfl ho94 (fun a92 hi93 => ?_)
  refine lv_iload_n hx hb dX1_doPair_96 rfl (lv_at hl 2 rfl) ?_
  obtain ⟨hn95, h⟩ := ix_i h
  refine r_iald hC hw hi93 hn95 dX1_doPair_97 ?_
  refine lv_iload_n hx hb dX1_doPair_98 rfl (lv_at hl 4 rfl) ?_
  refine lv_if_eq (tgt := 111) hx hb dX1_doPair_99 (by decide) (fun c96 => ?_) (fun c96 => ?_)
  · have h := i_yes c96 h
    refine lv_lload hx hb dX1_doPair_111 (lv_at hl 0 rfl) ?_
    exact w_X1_doPair_113 hC hR o0 a0 x1 o83 a84 (gI D o91 x1.toNatClampNeg) y82 _ _ _ _ hi0 hi85 hw (lv_sub hl [1, 2] rfl) h
  · have h := i_no c96 h
    refine lv_ldc2 (v := 17179869184) hx hb hC.2.2.2.1 (hC.2.2.2.2.1 _ lk_917) dX1_doPair_102 ?_
    refine lv_iload_n hx hb dX1_doPair_105 rfl (lv_at hl 3 rfl) ?_
    refine lv_i2l (v := x2.toInt64) hx hb dX1_doPair_106 rfl ?_
    refine lv_ladd hx hb dX1_doPair_107 ?_
    refine lv_goto (tgt := 113) hx hb dX1_doPair_108 (by decide) ?_
    exact w_X1_doPair_113 hC hR o0 a0 x1 o83 a84 (gI D o91 x1.toNatClampNeg) ((17179869184 : Int64) + x2.toInt64) _ _ _ _ hi0 hi85 hw (lv_sub hl [1, 2] rfl) h
set_option maxHeartbeats 4000000 in
set_option maxRecDepth 100000 in
theorem w_X1_doPair_28 {r : Int32} {D' : dt} (hC : Cx RX1 cX1_doPair 6 (some .int) p s m args meth c) (hR : 1 ≤ R.frames ∧ 21 ≤ R.locals) : ∀ (o0 a0 : Nat) (x1 : Int32) (x2 : Int32) (xs0 : Int32) (D : dt) (H : Heap) (locs : List Loc) (ls : Array Slot), Is S ad o0 a0 1 → Wd G cA S D ad A s H locs → lv_has ls 6 [(0, .ref a0), (1, .int x1), (2, .int x2)] → f_X1_doPair_28 S o0 x1 x2 xs0 D = some (r, D') → W p l e R s m args below meth c H locs 0 0 (MQ below (Qn (some (.int r)) True (wpost G cA S D' ad A) A) args s 0 0 A) (F0 m 28 ls [.int xs0]) := by
  obtain ⟨hx, hb, -⟩ := id hC
  intro o0 a0 x1 x2 xs0 D H locs ls hi0 hw hl h
  unfold f_X1_doPair_28 at h
  refine lv_istore_n (lv' := [(3, .int xs0), (0, .ref a0), (1, .int x1), (2, .int x2)]) hx hb dX1_doPair_28 rfl hl (by decide) rfl (fun ls hl => ?_)
  refine lv_aload_n hx hb dX1_doPair_29 rfl (lv_at hl 1 rfl) ?_
  obtain ⟨o97, ho100, h⟩ := rq_i h
  refine r_getR hC hw kc_1 hi0 0 rfl lk_219 dX1_doPair_30 rfl ho100 (fun a98 hi99 => ?_)
  refine lv_iload_n hx hb dX1_doPair_33 rfl (lv_at hl 2 rfl) ?_
  refine lv_iconst (v := 1) hx hb dX1_doPair_34 (by decide) ?_
  refine lv_iadd hx hb dX1_doPair_35 ?_
  obtain ⟨r102, D103, hq101, h⟩ := cq_i h
  refine r_cV (st' := [.int r102]) [.int (x1 + (1 : Int32))] [] hC hw kc_3 hi99 (k_X4_has _ hi99 hq101) mk_X4_has lk_905 ⟨Nat.le_trans (by decide) hR.1, Nat.le_trans (by decide) hR.2⟩ ⟨Nat.zero_le _, Nat.zero_le _⟩ rfl hl.1 rfl rfl (Nat.le_of_ble_eq_true rfl) dX1_doPair_36 (fun hP H locs hw => ?_)
  refine lv_if_ne (tgt := 44) hx hb dX1_doPair_39 (by decide) (fun c104 => ?_) (fun c104 => ?_)
  · have h := i_no c104 h
    refine lv_iload_n hx hb dX1_doPair_44 rfl (lv_at hl 0 rfl) ?_
    refine lv_if_eq (tgt := 61) hx hb dX1_doPair_45 (by decide) (fun c105 => ?_) (fun c105 => ?_)
    · have h := i_yes c105 h
      exact w_X1_doPair_61 hC hR o0 a0 x1 x2 xs0 _ _ _ _ hi0 hw (lv_sub hl [1, 2, 3, 0] rfl) h
    · have h := i_no c105 h
      refine lv_aload_n hx hb dX1_doPair_48 rfl (lv_at hl 1 rfl) ?_
      obtain ⟨o106, ho109, h⟩ := rq_i h
      refine r_getR hC hw kc_1 hi0 1 rfl lk_220 dX1_doPair_49 rfl ho109 (fun a107 hi108 => ?_)
      refine lv_iload_n hx hb dX1_doPair_52 rfl (lv_at hl 3 rfl) ?_
      obtain ⟨r111, D112, hq110, h⟩ := cq_i h
      refine r_cV (st' := [va_rf (r111.map ad)]) [.int x2] [] hC hw kc_2 hi108 (k_X2_tableNumbered _ hi108 hq110) mk_X2_tableNumbered lk_915 ⟨Nat.le_trans (by decide) hR.1, Nat.le_trans (by decide) hR.2⟩ ⟨Nat.zero_le _, Nat.zero_le _⟩ rfl hl.1 rfl rfl (Nat.le_of_ble_eq_true rfl) dX1_doPair_53 (fun hP H locs hw => ?_)
      cases r111 with
      | none =>
        have h := oqN h
        refine W.eq (g2 := F0 m 56 ls [.null]) rfl ?_
        refine lv_ifnonnullN hx hb dX1_doPair_56 ?_
        refine lv_iconst (v := 4) hx hb dX1_doPair_59 (by decide) ?_
        cases h
        exact r_iret hC hw dX1_doPair_60
      | some o113 =>
        have h := oqS h
        have hi114 : Is S ad o113 (ad o113) 6 := ⟨(hP o113 rfl).1, (hP o113 rfl).2, rfl⟩
        refine W.eq (g2 := F0 m 56 ls [.ref (ad o113)]) rfl ?_
        refine lv_ifnonnull (tgt := 61) hx hb dX1_doPair_56 (by decide) ?_
        exact w_X1_doPair_61 hC hR o0 a0 x1 x2 xs0 _ _ _ _ hi0 hw (lv_sub hl [1, 2, 3, 0] rfl) h
  · have h := i_yes c104 h
    refine lv_iconst (v := 5) hx hb dX1_doPair_42 (by decide) ?_
    cases h
    exact r_iret hC hw dX1_doPair_43
set_option maxHeartbeats 4000000 in
set_option maxRecDepth 100000 in
theorem w_X1_doPair_0 {r : Int32} {D' : dt} (hC : Cx RX1 cX1_doPair 6 (some .int) p s m args meth c) (hR : 1 ≤ R.frames ∧ 21 ≤ R.locals) : ∀ (o0 a0 : Nat) (x1 : Int32) (D : dt) (H : Heap) (locs : List Loc) (ls : Array Slot), Is S ad o0 a0 1 → Wd G cA S D ad A s H locs → lv_has ls 6 [(0, .ref a0), (1, .int x1)] → f_X1_doPair S o0 x1 D = some (r, D') → W p l e R s m args below meth c H locs 0 0 (MQ below (Qn (some (.int r)) True (wpost G cA S D' ad A) A) args s 0 0 A) (F0 m 0 ls []) := by
  obtain ⟨hx, hb, -⟩ := id hC
  intro o0 a0 x1 D H locs ls hi0 hw hl h
  unfold f_X1_doPair at h
  refine lv_aload_n hx hb dX1_doPair_0 rfl (lv_at hl 0 rfl) ?_
  obtain ⟨o115, ho118, h⟩ := rq_i h
  refine r_getR hC hw kc_1 hi0 0 rfl lk_219 dX1_doPair_1 rfl ho118 (fun a116 hi117 => ?_)
  obtain ⟨o119, ho122, h⟩ := rq_i h
  refine r_getR hC hw kc_3 hi117 4 rfl lk_154 dX1_doPair_4 rfl ho122 (fun a120 hi121 => ?_)
  refine lv_iload_n hx hb dX1_doPair_7 rfl (lv_at hl 1 rfl) ?_
  obtain ⟨hn123, h⟩ := ix_i h
  refine r_iald hC hw hi121 hn123 dX1_doPair_8 ?_
  refine lv_topi (fun y124 ey124 => ?_)
  have h := nm_i h y124 ey124
  refine lv_istore_n (lv' := [(2, .int y124), (0, .ref a0), (1, .int x1)]) hx hb dX1_doPair_9 rfl hl (by decide) rfl (fun ls hl => ?_)
  refine lv_aload_n hx hb dX1_doPair_10 rfl (lv_at hl 1 rfl) ?_
  obtain ⟨o125, ho128, h⟩ := rq_i h
  refine r_getR hC hw kc_1 hi0 0 rfl lk_219 dX1_doPair_11 rfl ho128 (fun a126 hi127 => ?_)
  obtain ⟨o129, ho132, h⟩ := rq_i h
  refine r_getR hC hw kc_3 hi127 2 rfl lk_148 dX1_doPair_14 rfl ho132 (fun a130 hi131 => ?_)
  refine lv_iload_n hx hb dX1_doPair_17 rfl (lv_at hl 2 rfl) ?_
  obtain ⟨hn133, h⟩ := ix_i h
  refine r_iald hC hw hi131 hn133 dX1_doPair_18 ?_
  refine lv_iconst (v := 1) hx hb dX1_doPair_19 (by decide) ?_
  refine lv_icmp_ne (tgt := 27) hx hb dX1_doPair_20 (by decide) (fun c134 => ?_) (fun c134 => ?_)
  · have h := i_no c134 h
    refine lv_iconst (v := 0) hx hb dX1_doPair_27 (by decide) ?_
    exact w_X1_doPair_28 hC hR o0 a0 x1 y124 (0 : Int32) _ _ _ _ hi0 hw (lv_sub hl [1, 2, 0] rfl) h
  · have h := i_yes c134 h
    refine lv_iconst (v := 1) hx hb dX1_doPair_23 (by decide) ?_
    refine lv_goto (tgt := 28) hx hb dX1_doPair_24 (by decide) ?_
    exact w_X1_doPair_28 hC hR o0 a0 x1 y124 (1 : Int32) _ _ _ _ hi0 hw (lv_sub hl [1, 2, 0] rfl) h
set_option maxHeartbeats 4000000 in
set_option maxRecDepth 100000 in
theorem k_X1_doPair {l : Launch} {G : va_G} {cA : Nat → ClassId} {S : sh} {D D' : dt} {ad : Nat → Nat} (sz : Nat) {o0 a0 : Nat} {x1 : Int32} {r : Int32} (hi0 : Is S ad o0 a0 1) (h : f_X1_doPair S o0 x1 D = some (r, D')) : Co l yX1_doPair (Cond.code yX1_doPair cX1_doPair 6 (some .int) :: tb0) 1 21 [.ref a0, .int x1] G cA S D ad sz (some (.int r)) True D' := by
  refine Met.ofW (cc := cX1_doPair) (maxL := 6) (ret := (some .int)) (by decide) rfl ?_
  intro p e s m args below meth c s₁ B hml hv
  obtain ⟨rfl, hsz, hP, hK, hD0, hT, hX⟩ := hv
  subst hsz
  have hts := atoms_spec (ws := Cond.code yX1_doPair cX1_doPair 6 (some .int) :: tb0) B.pre
  have hC : Cx RX1 cX1_doPair 6 (some .int) p s m _ meth c := ⟨B.exec, B.bytes, hml, findClass_of_methodNamed B.named, fun w q => hts w (List.mem_cons_of_mem _ q), B.returns, B.notSynchronized⟩
  have hw := Wd.entry hP hK hD0 hT hX
  have hl := lv_entry ([.ref a0, .int x1]) (n := 6) (Nat.le_of_ble_eq_true rfl)
  rw [lg_entry_eq]
  exact w_X1_doPair_0 hC ⟨Nat.le_refl _, Nat.le_refl _⟩ o0 a0 x1 D _ _ _ hi0 hw hl h
set_option maxHeartbeats 4000000 in
set_option maxRecDepth 100000 in
theorem w_X1_doLoad_93 {r : Int32} {D' : dt} (hC : Cx RX1 cX1_doLoad 5 (some .int) p s m args meth c) (hR : 3 ≤ R.frames ∧ 75 ≤ R.locals) : ∀ (o0 a0 : Nat) (x1 : Int32) (os0 as0 : Nat) (xs1 : Int32) (xs2 : Int64) (D : dt) (H : Heap) (locs : List Loc) (ls : Array Slot), Is S ad o0 a0 1 → Is S ad os0 as0 101 → Wd G cA S D ad A s H locs → lv_has ls 5 [(0, .ref a0), (1, .int x1)] → f_X1_doLoad_93 S o0 x1 os0 xs1 xs2 D = some (r, D') → W p l e R s m args below meth c H locs 0 0 (MQ below (Qn (some (.int r)) True (wpost G cA S D' ad A) A) args s 0 0 A) (F0 m 93 ls [.long xs2, .int xs1, .ref as0]) := by
  obtain ⟨hx, hb, -⟩ := id hC
  intro o0 a0 x1 os0 as0 xs1 xs2 D H locs ls hi0 his0 hw hl h
  unfold f_X1_doLoad_93 at h
  obtain ⟨hn74, h⟩ := ix_i h
  refine r_las hC hw his0 hn74 dX1_doLoad_93 (fun D75 eD75 H locs hw => ?_)
  have h := nm_i h D75 eD75
  refine lv_aload_n hx hb dX1_doLoad_94 rfl (lv_at hl 0 rfl) ?_
  refine lv_iload_n hx hb dX1_doLoad_95 rfl (lv_at hl 1 rfl) ?_
  refine lv_iconst (v := 1) hx hb dX1_doLoad_96 (by decide) ?_
  refine lv_iadd hx hb dX1_doLoad_97 ?_
  obtain ⟨r77, D78, hq76, h⟩ := cq_i h
  refine r_cV (st' := [.int r77]) [.int (x1 + (1 : Int32))] [] hC hw kc_1 hi0 (k_X1_goTo _ hi0 hq76) mk_X1_goTo lk_918 ⟨Nat.le_trans (by decide) hR.1, Nat.le_trans (by decide) hR.2⟩ ⟨Nat.zero_le _, Nat.zero_le _⟩ rfl hl.1 rfl rfl (Nat.le_of_ble_eq_true rfl) dX1_doLoad_98 (fun hP H locs hw => ?_)
  cases h
  exact r_iret hC hw dX1_doLoad_101
set_option maxHeartbeats 4000000 in
set_option maxRecDepth 100000 in
theorem w_X1_doLoad_0 {r : Int32} {D' : dt} (hC : Cx RX1 cX1_doLoad 5 (some .int) p s m args meth c) (hR : 3 ≤ R.frames ∧ 75 ≤ R.locals) : ∀ (o0 a0 : Nat) (x1 : Int32) (D : dt) (H : Heap) (locs : List Loc) (ls : Array Slot), Is S ad o0 a0 1 → Wd G cA S D ad A s H locs → lv_has ls 5 [(0, .ref a0), (1, .int x1)] → f_X1_doLoad S o0 x1 D = some (r, D') → W p l e R s m args below meth c H locs 0 0 (MQ below (Qn (some (.int r)) True (wpost G cA S D' ad A) A) args s 0 0 A) (F0 m 0 ls []) := by
  obtain ⟨hx, hb, -⟩ := id hC
  intro o0 a0 x1 D H locs ls hi0 hw hl h
  unfold f_X1_doLoad at h
  refine lv_aload_n hx hb dX1_doLoad_0 rfl (lv_at hl 0 rfl) ?_
  obtain ⟨o79, ho82, h⟩ := rq_i h
  refine r_getR hC hw kc_1 hi0 0 rfl lk_219 dX1_doLoad_1 rfl ho82 (fun a80 hi81 => ?_)
  refine lv_iload_n hx hb dX1_doLoad_4 rfl (lv_at hl 1 rfl) ?_
  obtain ⟨r84, D85, hq83, h⟩ := cq_i h
  refine r_cV (st' := [.int r84]) [.int x1] [] hC hw kc_3 hi81 (k_X4_width _ hi81 hq83) mk_X4_width lk_926 ⟨Nat.le_trans (by decide) hR.1, Nat.le_trans (by decide) hR.2⟩ ⟨Nat.zero_le _, Nat.zero_le _⟩ rfl hl.1 rfl rfl (Nat.le_of_ble_eq_true rfl) dX1_doLoad_5 (fun hP H locs hw => ?_)
  refine lv_istore_n (lv' := [(2, .int r84), (0, .ref a0), (1, .int x1)]) hx hb dX1_doLoad_8 rfl hl (by decide) rfl (fun ls hl => ?_)
  refine lv_aload_n hx hb dX1_doLoad_9 rfl (lv_at hl 1 rfl) ?_
  obtain ⟨o86, ho89, h⟩ := rq_i h
  refine r_getR hC hw kc_1 hi0 1 rfl lk_220 dX1_doLoad_10 rfl ho89 (fun a87 hi88 => ?_)
  refine lv_aload_n hx hb dX1_doLoad_13 rfl (lv_at hl 1 rfl) ?_
  obtain ⟨o90, ho93, h⟩ := rq_i h
  refine r_getR hC hw kc_1 hi0 2 rfl lk_221 dX1_doLoad_14 rfl ho93 (fun a91 hi92 => ?_)
  refine lv_aload_n hx hb dX1_doLoad_17 rfl (lv_at hl 1 rfl) ?_
  obtain ⟨o94, ho97, h⟩ := rq_i h
  refine r_getR hC hw kc_1 hi0 0 rfl lk_219 dX1_doLoad_18 rfl ho97 (fun a95 hi96 => ?_)
  obtain ⟨o98, ho101, h⟩ := rq_i h
  refine r_getR hC hw kc_3 hi96 2 rfl lk_148 dX1_doLoad_21 rfl ho101 (fun a99 hi100 => ?_)
  refine lv_iload_n hx hb dX1_doLoad_24 rfl (lv_at hl 2 rfl) ?_
  obtain ⟨hn102, h⟩ := ix_i h
  refine r_iald hC hw hi100 hn102 dX1_doLoad_25 ?_
  obtain ⟨hn103, h⟩ := ix_i h
  refine r_lald hC hw hi92 hn103 dX1_doLoad_26 ?_
  refine lv_aload_n hx hb dX1_doLoad_27 rfl (lv_at hl 1 rfl) ?_
  obtain ⟨o104, ho107, h⟩ := rq_i h
  refine r_getR hC hw kc_1 hi0 0 rfl lk_219 dX1_doLoad_28 rfl ho107 (fun a105 hi106 => ?_)
  obtain ⟨o108, ho111, h⟩ := rq_i h
  refine r_getR hC hw kc_3 hi106 3 rfl lk_151 dX1_doLoad_31 rfl ho111 (fun a109 hi110 => ?_)
  refine lv_iload_n hx hb dX1_doLoad_34 rfl (lv_at hl 2 rfl) ?_
  obtain ⟨hn112, h⟩ := ix_i h
  refine r_iald hC hw hi110 hn112 dX1_doLoad_35 ?_
  refine lv_i2l (v := (gI D85 o108 x1.toNatClampNeg).toInt64) hx hb dX1_doLoad_36 rfl ?_
  refine lv_ladd hx hb dX1_doLoad_37 ?_
  refine lv_iload_n hx hb dX1_doLoad_38 rfl (lv_at hl 0 rfl) ?_
  refine lv_iconst (v := 0) hx hb dX1_doLoad_39 (by decide) ?_
  obtain ⟨r114, D115, hq113, h⟩ := cq_i h
  refine r_cV (st' := [.int r114]) [.long ((gL D85 o90 (gI D85 o98 x1.toNatClampNeg).toNatClampNeg) + ((gI D85 o108 x1.toNatClampNeg).toInt64)), .int r84, .int (0 : Int32)] [] hC hw kc_2 hi88 (k_X2_find _ hi88 hq113) mk_X2_find lk_927 ⟨Nat.le_trans (by decide) hR.1, Nat.le_trans (by decide) hR.2⟩ ⟨Nat.zero_le _, Nat.zero_le _⟩ rfl hl.1 rfl rfl (Nat.le_of_ble_eq_true rfl) dX1_doLoad_40 (fun hP H locs hw => ?_)
  refine lv_if_ne (tgt := 48) hx hb dX1_doLoad_43 (by decide) (fun c116 => ?_) (fun c116 => ?_)
  · have h := i_no c116 h
    refine lv_aload_n hx hb dX1_doLoad_48 rfl (lv_at hl 1 rfl) ?_
    obtain ⟨o117, ho120, h⟩ := rq_i h
    refine r_getR hC hw kc_1 hi0 1 rfl lk_220 dX1_doLoad_49 rfl ho120 (fun a118 hi119 => ?_)
    refine lv_iload_n hx hb dX1_doLoad_52 rfl (lv_at hl 0 rfl) ?_
    obtain ⟨r122, D123, hq121, h⟩ := cq_i h
    refine r_cV (st' := [.long r122]) [.int r84] [] hC hw kc_2 hi119 (k_X2_foundNumber _ hi119 hq121) mk_X2_foundNumber lk_943 ⟨Nat.le_trans (by decide) hR.1, Nat.le_trans (by decide) hR.2⟩ ⟨Nat.zero_le _, Nat.zero_le _⟩ rfl hl.1 rfl rfl (Nat.le_of_ble_eq_true rfl) dX1_doLoad_53 (fun hP H locs hw => ?_)
    refine lv_lstore_n (lv' := [(3, .long r122), (2, .int r84), (0, .ref a0), (1, .int x1)]) hx hb dX1_doLoad_56 rfl hl (by decide) rfl (fun ls hl => ?_)
    refine lv_aload_n hx hb dX1_doLoad_57 rfl (lv_at hl 2 rfl) ?_
    obtain ⟨o124, ho127, h⟩ := rq_i h
    refine r_getR hC hw kc_1 hi0 2 rfl lk_221 dX1_doLoad_58 rfl ho127 (fun a125 hi126 => ?_)
    refine lv_aload_n hx hb dX1_doLoad_61 rfl (lv_at hl 2 rfl) ?_
    obtain ⟨o128, ho131, h⟩ := rq_i h
    refine r_getR hC hw kc_1 hi0 0 rfl lk_219 dX1_doLoad_62 rfl ho131 (fun a129 hi130 => ?_)
    obtain ⟨o132, ho135, h⟩ := rq_i h
    refine r_getR hC hw kc_3 hi130 1 rfl lk_145 dX1_doLoad_65 rfl ho135 (fun a133 hi134 => ?_)
    refine lv_iload_n hx hb dX1_doLoad_68 rfl (lv_at hl 3 rfl) ?_
    obtain ⟨hn136, h⟩ := ix_i h
    refine r_iald hC hw hi134 hn136 dX1_doLoad_69 ?_
    refine lv_aload_n hx hb dX1_doLoad_70 rfl (lv_at hl 2 rfl) ?_
    obtain ⟨o137, ho140, h⟩ := rq_i h
    refine r_getR hC hw kc_1 hi0 0 rfl lk_219 dX1_doLoad_71 rfl ho140 (fun a138 hi139 => ?_)
    refine lv_iload_n hx hb dX1_doLoad_74 rfl (lv_at hl 3 rfl) ?_
    obtain ⟨r142, D143, hq141, h⟩ := cq_i h
    refine r_cV (st' := [.int r142, .int (gI D123 o132 x1.toNatClampNeg), .ref a125]) [.int x1] [.int (gI D123 o132 x1.toNatClampNeg), .ref a125] hC hw kc_3 hi139 (k_X4_isSignedLoad _ hi139 hq141) mk_X4_isSignedLoad lk_947 ⟨Nat.le_trans (by decide) hR.1, Nat.le_trans (by decide) hR.2⟩ ⟨Nat.zero_le _, Nat.zero_le _⟩ rfl hl.1 rfl rfl (Nat.le_of_ble_eq_true rfl) dX1_doLoad_75 (fun hP H locs hw => ?_)
    refine lv_if_eq (tgt := 92) hx hb dX1_doLoad_78 (by decide) (fun c144 => ?_) (fun c144 => ?_)
    · have h := i_yes c144 h
      refine lv_lload_n hx hb dX1_doLoad_92 rfl (lv_at hl 0 rfl) ?_
      exact w_X1_doLoad_93 hC hR o0 a0 x1 o124 a125 (gI D123 o132 x1.toNatClampNeg) r122 _ _ _ _ hi0 hi126 hw (lv_sub hl [2, 3] rfl) h
    · have h := i_no c144 h
      refine lv_lload_n hx hb dX1_doLoad_81 rfl (lv_at hl 0 rfl) ?_
      refine lv_bipush (v := 8) hx hb dX1_doLoad_82 (by decide) ?_
      refine lv_iload_n hx hb dX1_doLoad_84 rfl (lv_at hl 1 rfl) ?_
      refine lv_imul hx hb dX1_doLoad_85 ?_
      obtain ⟨r146, hq145, h⟩ := pq_i h
      refine r_cS (st' := [.long r146, .int (gI D123 o132 x1.toNatClampNeg), .ref a125]) [.long r122, .int ((8 : Int32) * r84)] [.int (gI D123 o132 x1.toNatClampNeg), .ref a125] hC hw (k_X3_withSign _ hq145) mk_X3_withSign lk_948 ⟨Nat.le_trans (by decide) hR.1, Nat.le_trans (by decide) hR.2⟩ ⟨Nat.zero_le _, Nat.zero_le _⟩ rfl hl.1 rfl rfl (Nat.le_of_ble_eq_true rfl) dX1_doLoad_86 (fun hP H locs hw => ?_)
      refine lv_goto (tgt := 93) hx hb dX1_doLoad_89 (by decide) ?_
      exact w_X1_doLoad_93 hC hR o0 a0 x1 o124 a125 (gI D123 o132 x1.toNatClampNeg) r146 _ _ _ _ hi0 hi126 hw (lv_sub hl [2, 3] rfl) h
  · have h := i_yes c116 h
    refine lv_iconst (v := 4) hx hb dX1_doLoad_46 (by decide) ?_
    cases h
    exact r_iret hC hw dX1_doLoad_47
set_option maxHeartbeats 4000000 in
set_option maxRecDepth 100000 in
theorem k_X1_doLoad {l : Launch} {G : va_G} {cA : Nat → ClassId} {S : sh} {D D' : dt} {ad : Nat → Nat} (sz : Nat) {o0 a0 : Nat} {x1 : Int32} {r : Int32} (hi0 : Is S ad o0 a0 1) (h : f_X1_doLoad S o0 x1 D = some (r, D')) : Co l yX1_doLoad (Cond.code yX1_doLoad cX1_doLoad 5 (some .int) :: tb0) 3 75 [.ref a0, .int x1] G cA S D ad sz (some (.int r)) True D' := by
  refine Met.ofW (cc := cX1_doLoad) (maxL := 5) (ret := (some .int)) (by decide) rfl ?_
  intro p e s m args below meth c s₁ B hml hv
  obtain ⟨rfl, hsz, hP, hK, hD0, hT, hX⟩ := hv
  subst hsz
  have hts := atoms_spec (ws := Cond.code yX1_doLoad cX1_doLoad 5 (some .int) :: tb0) B.pre
  have hC : Cx RX1 cX1_doLoad 5 (some .int) p s m _ meth c := ⟨B.exec, B.bytes, hml, findClass_of_methodNamed B.named, fun w q => hts w (List.mem_cons_of_mem _ q), B.returns, B.notSynchronized⟩
  have hw := Wd.entry hP hK hD0 hT hX
  have hl := lv_entry ([.ref a0, .int x1]) (n := 5) (Nat.le_of_ble_eq_true rfl)
  rw [lg_entry_eq]
  exact w_X1_doLoad_0 hC ⟨Nat.le_refl _, Nat.le_refl _⟩ o0 a0 x1 D _ _ _ hi0 hw hl h
set_option maxHeartbeats 4000000 in
set_option maxRecDepth 100000 in
theorem w_X1_doPut_0 {r : Int32} {D' : dt} (hC : Cx RX1 cX1_doPut 5 (some .int) p s m args meth c) (hR : 3 ≤ R.frames ∧ 75 ≤ R.locals) : ∀ (o0 a0 : Nat) (x1 : Int32) (x2 : Int64) (D : dt) (H : Heap) (locs : List Loc) (ls : Array Slot), Is S ad o0 a0 1 → Wd G cA S D ad A s H locs → lv_has ls 5 [(0, .ref a0), (1, .int x1), (2, .long x2)] → f_X1_doPut S o0 x1 x2 D = some (r, D') → W p l e R s m args below meth c H locs 0 0 (MQ below (Qn (some (.int r)) True (wpost G cA S D' ad A) A) args s 0 0 A) (F0 m 0 ls []) := by
  obtain ⟨hx, hb, -⟩ := id hC
  intro o0 a0 x1 x2 D H locs ls hi0 hw hl h
  unfold f_X1_doPut at h
  refine lv_aload_n hx hb dX1_doPut_0 rfl (lv_at hl 0 rfl) ?_
  obtain ⟨o48, ho51, h⟩ := rq_i h
  refine r_getR hC hw kc_1 hi0 0 rfl lk_219 dX1_doPut_1 rfl ho51 (fun a49 hi50 => ?_)
  refine lv_iload_n hx hb dX1_doPut_4 rfl (lv_at hl 1 rfl) ?_
  obtain ⟨r53, D54, hq52, h⟩ := cq_i h
  refine r_cV (st' := [.int r53]) [.int x1] [] hC hw kc_3 hi50 (k_X4_width _ hi50 hq52) mk_X4_width lk_926 ⟨Nat.le_trans (by decide) hR.1, Nat.le_trans (by decide) hR.2⟩ ⟨Nat.zero_le _, Nat.zero_le _⟩ rfl hl.1 rfl rfl (Nat.le_of_ble_eq_true rfl) dX1_doPut_5 (fun hP H locs hw => ?_)
  refine lv_istore (lv' := [(4, .int r53), (0, .ref a0), (1, .int x1), (2, .long x2)]) hx hb dX1_doPut_8 hl (by decide) rfl (fun ls hl => ?_)
  refine lv_aload_n hx hb dX1_doPut_10 rfl (lv_at hl 1 rfl) ?_
  obtain ⟨o55, ho58, h⟩ := rq_i h
  refine r_getR hC hw kc_1 hi0 1 rfl lk_220 dX1_doPut_11 rfl ho58 (fun a56 hi57 => ?_)
  refine lv_aload_n hx hb dX1_doPut_14 rfl (lv_at hl 1 rfl) ?_
  obtain ⟨o59, ho62, h⟩ := rq_i h
  refine r_getR hC hw kc_1 hi0 2 rfl lk_221 dX1_doPut_15 rfl ho62 (fun a60 hi61 => ?_)
  refine lv_aload_n hx hb dX1_doPut_18 rfl (lv_at hl 1 rfl) ?_
  obtain ⟨o63, ho66, h⟩ := rq_i h
  refine r_getR hC hw kc_1 hi0 0 rfl lk_219 dX1_doPut_19 rfl ho66 (fun a64 hi65 => ?_)
  obtain ⟨o67, ho70, h⟩ := rq_i h
  refine r_getR hC hw kc_3 hi65 1 rfl lk_145 dX1_doPut_22 rfl ho70 (fun a68 hi69 => ?_)
  refine lv_iload_n hx hb dX1_doPut_25 rfl (lv_at hl 2 rfl) ?_
  obtain ⟨hn71, h⟩ := ix_i h
  refine r_iald hC hw hi69 hn71 dX1_doPut_26 ?_
  obtain ⟨hn72, h⟩ := ix_i h
  refine r_lald hC hw hi61 hn72 dX1_doPut_27 ?_
  refine lv_aload_n hx hb dX1_doPut_28 rfl (lv_at hl 1 rfl) ?_
  obtain ⟨o73, ho76, h⟩ := rq_i h
  refine r_getR hC hw kc_1 hi0 0 rfl lk_219 dX1_doPut_29 rfl ho76 (fun a74 hi75 => ?_)
  obtain ⟨o77, ho80, h⟩ := rq_i h
  refine r_getR hC hw kc_3 hi75 3 rfl lk_151 dX1_doPut_32 rfl ho80 (fun a78 hi79 => ?_)
  refine lv_iload_n hx hb dX1_doPut_35 rfl (lv_at hl 2 rfl) ?_
  obtain ⟨hn81, h⟩ := ix_i h
  refine r_iald hC hw hi79 hn81 dX1_doPut_36 ?_
  refine lv_i2l (v := (gI D54 o77 x1.toNatClampNeg).toInt64) hx hb dX1_doPut_37 rfl ?_
  refine lv_ladd hx hb dX1_doPut_38 ?_
  refine lv_iload hx hb dX1_doPut_39 (lv_at hl 0 rfl) ?_
  refine lv_iconst (v := 1) hx hb dX1_doPut_41 (by decide) ?_
  obtain ⟨r83, D84, hq82, h⟩ := cq_i h
  refine r_cV (st' := [.int r83]) [.long ((gL D54 o59 (gI D54 o67 x1.toNatClampNeg).toNatClampNeg) + ((gI D54 o77 x1.toNatClampNeg).toInt64)), .int r53, .int (1 : Int32)] [] hC hw kc_2 hi57 (k_X2_find _ hi57 hq82) mk_X2_find lk_927 ⟨Nat.le_trans (by decide) hR.1, Nat.le_trans (by decide) hR.2⟩ ⟨Nat.zero_le _, Nat.zero_le _⟩ rfl hl.1 rfl rfl (Nat.le_of_ble_eq_true rfl) dX1_doPut_42 (fun hP H locs hw => ?_)
  refine lv_if_ne (tgt := 50) hx hb dX1_doPut_45 (by decide) (fun c85 => ?_) (fun c85 => ?_)
  · have h := i_no c85 h
    refine lv_aload_n hx hb dX1_doPut_50 rfl (lv_at hl 1 rfl) ?_
    obtain ⟨o86, ho89, h⟩ := rq_i h
    refine r_getR hC hw kc_1 hi0 1 rfl lk_220 dX1_doPut_51 rfl ho89 (fun a87 hi88 => ?_)
    refine lv_lload_n hx hb dX1_doPut_54 rfl (lv_at hl 3 rfl) ?_
    refine lv_iload hx hb dX1_doPut_55 (lv_at hl 0 rfl) ?_
    obtain ⟨_, D91, hq90, h⟩ := cq_i h
    refine r_cV (st' := []) [.long x2, .int r53] [] hC hw kc_2 hi88 (k_X2_writeFound _ hi88 hq90) mk_X2_writeFound lk_953 ⟨Nat.le_trans (by decide) hR.1, Nat.le_trans (by decide) hR.2⟩ ⟨Nat.zero_le _, Nat.zero_le _⟩ rfl hl.1 rfl rfl (Nat.le_of_ble_eq_true rfl) dX1_doPut_57 (fun hP H locs hw => ?_)
    refine lv_aload_n hx hb dX1_doPut_60 rfl (lv_at hl 1 rfl) ?_
    refine lv_iload_n hx hb dX1_doPut_61 rfl (lv_at hl 2 rfl) ?_
    refine lv_iconst (v := 1) hx hb dX1_doPut_62 (by decide) ?_
    refine lv_iadd hx hb dX1_doPut_63 ?_
    obtain ⟨r93, D94, hq92, h⟩ := cq_i h
    refine r_cV (st' := [.int r93]) [.int (x1 + (1 : Int32))] [] hC hw kc_1 hi0 (k_X1_goTo _ hi0 hq92) mk_X1_goTo lk_918 ⟨Nat.le_trans (by decide) hR.1, Nat.le_trans (by decide) hR.2⟩ ⟨Nat.zero_le _, Nat.zero_le _⟩ rfl hl.1 rfl rfl (Nat.le_of_ble_eq_true rfl) dX1_doPut_64 (fun hP H locs hw => ?_)
    cases h
    exact r_iret hC hw dX1_doPut_67
  · have h := i_yes c85 h
    refine lv_iconst (v := 4) hx hb dX1_doPut_48 (by decide) ?_
    cases h
    exact r_iret hC hw dX1_doPut_49
set_option maxHeartbeats 4000000 in
set_option maxRecDepth 100000 in
theorem k_X1_doPut {l : Launch} {G : va_G} {cA : Nat → ClassId} {S : sh} {D D' : dt} {ad : Nat → Nat} (sz : Nat) {o0 a0 : Nat} {x1 : Int32} {x2 : Int64} {r : Int32} (hi0 : Is S ad o0 a0 1) (h : f_X1_doPut S o0 x1 x2 D = some (r, D')) : Co l yX1_doPut (Cond.code yX1_doPut cX1_doPut 5 (some .int) :: tb0) 3 75 [.ref a0, .int x1, .long x2] G cA S D ad sz (some (.int r)) True D' := by
  refine Met.ofW (cc := cX1_doPut) (maxL := 5) (ret := (some .int)) (by decide) rfl ?_
  intro p e s m args below meth c s₁ B hml hv
  obtain ⟨rfl, hsz, hP, hK, hD0, hT, hX⟩ := hv
  subst hsz
  have hts := atoms_spec (ws := Cond.code yX1_doPut cX1_doPut 5 (some .int) :: tb0) B.pre
  have hC : Cx RX1 cX1_doPut 5 (some .int) p s m _ meth c := ⟨B.exec, B.bytes, hml, findClass_of_methodNamed B.named, fun w q => hts w (List.mem_cons_of_mem _ q), B.returns, B.notSynchronized⟩
  have hw := Wd.entry hP hK hD0 hT hX
  have hl := lv_entry ([.ref a0, .int x1, .long x2]) (n := 5) (Nat.le_of_ble_eq_true rfl)
  rw [lg_entry_eq]
  exact w_X1_doPut_0 hC ⟨Nat.le_refl _, Nat.le_refl _⟩ o0 a0 x1 x2 D _ _ _ hi0 hw hl h
set_option maxHeartbeats 4000000 in
set_option maxRecDepth 100000 in
theorem w_X1_doChange_211 {r : Int32} {D' : dt} (hC : Cx RX1 cX1_doChange 10 (some .int) p s m args meth c) (hR : 3 ≤ R.frames ∧ 75 ≤ R.locals) : ∀ (o0 a0 : Nat) (x1 : Int32) (D : dt) (H : Heap) (locs : List Loc) (ls : Array Slot), Is S ad o0 a0 1 → Wd G cA S D ad A s H locs → lv_has ls 10 [(0, .ref a0), (1, .int x1)] → f_X1_doChange_211 S o0 x1 D = some (r, D') → W p l e R s m args below meth c H locs 0 0 (MQ below (Qn (some (.int r)) True (wpost G cA S D' ad A) A) args s 0 0 A) (F0 m 211 ls []) := by
  obtain ⟨hx, hb, -⟩ := id hC
  intro o0 a0 x1 D H locs ls hi0 hw hl h
  unfold f_X1_doChange_211 at h
  refine lv_aload_n hx hb dX1_doChange_211 rfl (lv_at hl 0 rfl) ?_
  refine lv_iload_n hx hb dX1_doChange_212 rfl (lv_at hl 1 rfl) ?_
  refine lv_iconst (v := 1) hx hb dX1_doChange_213 (by decide) ?_
  refine lv_iadd hx hb dX1_doChange_214 ?_
  obtain ⟨r128, D129, hq127, h⟩ := cq_i h
  refine r_cV (st' := [.int r128]) [.int (x1 + (1 : Int32))] [] hC hw kc_1 hi0 (k_X1_goTo _ hi0 hq127) mk_X1_goTo lk_918 ⟨Nat.le_trans (by decide) hR.1, Nat.le_trans (by decide) hR.2⟩ ⟨Nat.zero_le _, Nat.zero_le _⟩ rfl hl.1 rfl rfl (Nat.le_of_ble_eq_true rfl) dX1_doChange_215 (fun hP H locs hw => ?_)
  cases h
  exact r_iret hC hw dX1_doChange_218
set_option maxHeartbeats 4000000 in
set_option maxRecDepth 100000 in
theorem w_X1_doChange_185 {r : Int32} {D' : dt} (hC : Cx RX1 cX1_doChange 10 (some .int) p s m args meth c) (hR : 3 ≤ R.frames ∧ 75 ≤ R.locals) : ∀ (o0 a0 : Nat) (x1 : Int32) (x2 : Int32) (x3 : Int32) (x4 : Int64) (os0 as0 : Nat) (xs1 : Int64) (D : dt) (H : Heap) (locs : List Loc) (ls : Array Slot), Is S ad o0 a0 1 → Is S ad os0 as0 2 → Wd G cA S D ad A s H locs → lv_has ls 10 [(0, .ref a0), (1, .int x1), (2, .int x2), (3, .int x3), (4, .long x4)] → f_X1_doChange_185 S o0 x1 x2 x3 x4 os0 xs1 D = some (r, D') → W p l e R s m args below meth c H locs 0 0 (MQ below (Qn (some (.int r)) True (wpost G cA S D' ad A) A) args s 0 0 A) (F0 m 185 ls [.long xs1, .ref as0]) := by
  obtain ⟨hx, hb, -⟩ := id hC
  intro o0 a0 x1 x2 x3 x4 os0 as0 xs1 D H locs ls hi0 his0 hw hl h
  unfold f_X1_doChange_185 at h
  refine lv_iload_n hx hb dX1_doChange_185 rfl (lv_at hl 2 rfl) ?_
  obtain ⟨_, D131, hq130, h⟩ := cq_i h
  refine r_cV (st' := []) [.long xs1, .int x2] [] hC hw kc_2 his0 (k_X2_writeFound _ his0 hq130) mk_X2_writeFound lk_953 ⟨Nat.le_trans (by decide) hR.1, Nat.le_trans (by decide) hR.2⟩ ⟨Nat.zero_le _, Nat.zero_le _⟩ rfl hl.1 rfl rfl (Nat.le_of_ble_eq_true rfl) dX1_doChange_186 (fun hP H locs hw => ?_)
  refine lv_iload_n hx hb dX1_doChange_189 rfl (lv_at hl 3 rfl) ?_
  refine lv_iconst (v := 1) hx hb dX1_doChange_190 (by decide) ?_
  refine lv_iand hx hb dX1_doChange_191 ?_
  refine lv_if_eq (tgt := 211) hx hb dX1_doChange_192 (by decide) (fun c132 => ?_) (fun c132 => ?_)
  · have h := i_yes c132 h
    exact w_X1_doChange_211 hC hR o0 a0 x1 _ _ _ _ hi0 hw (lv_sub hl [0, 1] rfl) h
  · have h := i_no c132 h
    refine lv_aload_n hx hb dX1_doChange_195 rfl (lv_at hl 0 rfl) ?_
    obtain ⟨o133, ho136, h⟩ := rq_i h
    refine r_getR hC hw kc_1 hi0 2 rfl lk_221 dX1_doChange_196 rfl ho136 (fun a134 hi135 => ?_)
    refine lv_aload_n hx hb dX1_doChange_199 rfl (lv_at hl 0 rfl) ?_
    obtain ⟨o137, ho140, h⟩ := rq_i h
    refine r_getR hC hw kc_1 hi0 0 rfl lk_219 dX1_doChange_200 rfl ho140 (fun a138 hi139 => ?_)
    obtain ⟨o141, ho144, h⟩ := rq_i h
    refine r_getR hC hw kc_3 hi139 2 rfl lk_148 dX1_doChange_203 rfl ho144 (fun a142 hi143 => ?_)
    refine lv_iload_n hx hb dX1_doChange_206 rfl (lv_at hl 1 rfl) ?_
    obtain ⟨hn145, h⟩ := ix_i h
    refine r_iald hC hw hi143 hn145 dX1_doChange_207 ?_
    refine lv_lload hx hb dX1_doChange_208 (lv_at hl 4 rfl) ?_
    obtain ⟨hn146, h⟩ := ix_i h
    refine r_las hC hw hi135 hn146 dX1_doChange_210 (fun D147 eD147 H locs hw => ?_)
    have h := nm_i h D147 eD147
    exact w_X1_doChange_211 hC hR o0 a0 x1 _ _ _ _ hi0 hw (lv_sub hl [0, 1] rfl) h
set_option maxHeartbeats 4000000 in
set_option maxRecDepth 100000 in
theorem w_X1_doChange_137 {r : Int32} {D' : dt} (hC : Cx RX1 cX1_doChange 10 (some .int) p s m args meth c) (hR : 3 ≤ R.frames ∧ 75 ≤ R.locals) : ∀ (o0 a0 : Nat) (x1 : Int32) (x2 : Int32) (x4 : Int64) (os0 as0 : Nat) (xs1 : Int64) (D : dt) (H : Heap) (locs : List Loc) (ls : Array Slot), Is S ad o0 a0 1 → Is S ad os0 as0 2 → Wd G cA S D ad A s H locs → lv_has ls 10 [(0, .ref a0), (1, .int x1), (2, .int x2), (4, .long x4)] → f_X1_doChange_137 S o0 x1 x2 x4 os0 xs1 D = some (r, D') → W p l e R s m args below meth c H locs 0 0 (MQ below (Qn (some (.int r)) True (wpost G cA S D' ad A) A) args s 0 0 A) (F0 m 137 ls [.long xs1, .ref as0]) := by
  obtain ⟨hx, hb, -⟩ := id hC
  intro o0 a0 x1 x2 x4 os0 as0 xs1 D H locs ls hi0 his0 hw hl h
  unfold f_X1_doChange_137 at h
  refine lv_iload_n hx hb dX1_doChange_137 rfl (lv_at hl 2 rfl) ?_
  obtain ⟨_, D149, hq148, h⟩ := cq_i h
  refine r_cV (st' := []) [.long xs1, .int x2] [] hC hw kc_2 his0 (k_X2_writeFound _ his0 hq148) mk_X2_writeFound lk_953 ⟨Nat.le_trans (by decide) hR.1, Nat.le_trans (by decide) hR.2⟩ ⟨Nat.zero_le _, Nat.zero_le _⟩ rfl hl.1 rfl rfl (Nat.le_of_ble_eq_true rfl) dX1_doChange_138 (fun hP H locs hw => ?_)
  refine lv_aload_n hx hb dX1_doChange_141 rfl (lv_at hl 0 rfl) ?_
  obtain ⟨o150, ho153, h⟩ := rq_i h
  refine r_getR hC hw kc_1 hi0 2 rfl lk_221 dX1_doChange_142 rfl ho153 (fun a151 hi152 => ?_)
  refine lv_iconst (v := 0) hx hb dX1_doChange_145 (by decide) ?_
  refine lv_lload hx hb dX1_doChange_146 (lv_at hl 3 rfl) ?_
  obtain ⟨hn154, h⟩ := ix_i h
  refine r_las hC hw hi152 hn154 dX1_doChange_148 (fun D155 eD155 H locs hw => ?_)
  have h := nm_i h D155 eD155
  refine lv_aload_n hx hb dX1_doChange_149 rfl (lv_at hl 0 rfl) ?_
  refine lv_iload_n hx hb dX1_doChange_150 rfl (lv_at hl 1 rfl) ?_
  refine lv_iconst (v := 1) hx hb dX1_doChange_151 (by decide) ?_
  refine lv_iadd hx hb dX1_doChange_152 ?_
  obtain ⟨r157, D158, hq156, h⟩ := cq_i h
  refine r_cV (st' := [.int r157]) [.int (x1 + (1 : Int32))] [] hC hw kc_1 hi0 (k_X1_goTo _ hi0 hq156) mk_X1_goTo lk_918 ⟨Nat.le_trans (by decide) hR.1, Nat.le_trans (by decide) hR.2⟩ ⟨Nat.zero_le _, Nat.zero_le _⟩ rfl hl.1 rfl rfl (Nat.le_of_ble_eq_true rfl) dX1_doChange_153 (fun hP H locs hw => ?_)
  cases h
  exact r_iret hC hw dX1_doChange_156
set_option maxHeartbeats 4000000 in
set_option maxRecDepth 100000 in
theorem w_X1_doChange_116 {r : Int32} {D' : dt} (hC : Cx RX1 cX1_doChange 10 (some .int) p s m args meth c) (hR : 3 ≤ R.frames ∧ 75 ≤ R.locals) : ∀ (o0 a0 : Nat) (x1 : Int32) (x2 : Int32) (x4 : Int64) (x6 : Int64) (xs0 : Int64) (D : dt) (H : Heap) (locs : List Loc) (ls : Array Slot), Is S ad o0 a0 1 → Wd G cA S D ad A s H locs → lv_has ls 10 [(0, .ref a0), (1, .int x1), (2, .int x2), (4, .long x4), (6, .long x6)] → f_X1_doChange_116 S o0 x1 x2 x4 x6 xs0 D = some (r, D') → W p l e R s m args below meth c H locs 0 0 (MQ below (Qn (some (.int r)) True (wpost G cA S D' ad A) A) args s 0 0 A) (F0 m 116 ls [.long xs0]) := by
  obtain ⟨hx, hb, -⟩ := id hC
  intro o0 a0 x1 x2 x4 x6 xs0 D H locs ls hi0 hw hl h
  unfold f_X1_doChange_116 at h
  refine lv_lstore (lv' := [(8, .long xs0), (0, .ref a0), (1, .int x1), (2, .int x2), (4, .long x4), (6, .long x6)]) hx hb dX1_doChange_116 hl (by decide) rfl (fun ls hl => ?_)
  refine lv_aload_n hx hb dX1_doChange_118 rfl (lv_at hl 1 rfl) ?_
  obtain ⟨o159, ho162, h⟩ := rq_i h
  refine r_getR hC hw kc_1 hi0 1 rfl lk_220 dX1_doChange_119 rfl ho162 (fun a160 hi161 => ?_)
  refine lv_lload hx hb dX1_doChange_122 (lv_at hl 4 rfl) ?_
  refine lv_lload hx hb dX1_doChange_124 (lv_at hl 0 rfl) ?_
  refine W.lcmp hx hb dX1_doChange_126 ?_
  refine lv_if_ne (tgt := 135) hx hb dX1_doChange_127 (by decide) (fun c163 => ?_) (fun c163 => ?_)
  · have h := i_no c163 h
    refine lv_lload hx hb dX1_doChange_135 (lv_at hl 4 rfl) ?_
    exact w_X1_doChange_137 hC hR o0 a0 x1 x2 x4 o159 a160 x4 _ _ _ _ hi0 hi161 hw (lv_sub hl [1, 2, 3, 4] rfl) h
  · have h := i_yes c163 h
    refine lv_lload hx hb dX1_doChange_130 (lv_at hl 5 rfl) ?_
    refine lv_goto (tgt := 137) hx hb dX1_doChange_132 (by decide) ?_
    exact w_X1_doChange_137 hC hR o0 a0 x1 x2 x4 o159 a160 x6 _ _ _ _ hi0 hi161 hw (lv_sub hl [1, 2, 3, 4] rfl) h
set_option maxHeartbeats 4000000 in
set_option maxRecDepth 100000 in
theorem w_X1_doChange_0 {r : Int32} {D' : dt} (hC : Cx RX1 cX1_doChange 10 (some .int) p s m args meth c) (hR : 3 ≤ R.frames ∧ 75 ≤ R.locals) : ∀ (o0 a0 : Nat) (x1 : Int32) (D : dt) (H : Heap) (locs : List Loc) (ls : Array Slot), Is S ad o0 a0 1 → Wd G cA S D ad A s H locs → lv_has ls 10 [(0, .ref a0), (1, .int x1)] → f_X1_doChange S o0 x1 D = some (r, D') → W p l e R s m args below meth c H locs 0 0 (MQ below (Qn (some (.int r)) True (wpost G cA S D' ad A) A) args s 0 0 A) (F0 m 0 ls []) := by
  obtain ⟨hx, hb, -⟩ := id hC
  intro o0 a0 x1 D H locs ls hi0 hw hl h
  unfold f_X1_doChange at h
  refine lv_aload_n hx hb dX1_doChange_0 rfl (lv_at hl 0 rfl) ?_
  obtain ⟨o164, ho167, h⟩ := rq_i h
  refine r_getR hC hw kc_1 hi0 0 rfl lk_219 dX1_doChange_1 rfl ho167 (fun a165 hi166 => ?_)
  refine lv_iload_n hx hb dX1_doChange_4 rfl (lv_at hl 1 rfl) ?_
  obtain ⟨r169, D170, hq168, h⟩ := cq_i h
  refine r_cV (st' := [.int r169]) [.int x1] [] hC hw kc_3 hi166 (k_X4_width _ hi166 hq168) mk_X4_width lk_926 ⟨Nat.le_trans (by decide) hR.1, Nat.le_trans (by decide) hR.2⟩ ⟨Nat.zero_le _, Nat.zero_le _⟩ rfl hl.1 rfl rfl (Nat.le_of_ble_eq_true rfl) dX1_doChange_5 (fun hP H locs hw => ?_)
  refine lv_istore_n (lv' := [(2, .int r169), (0, .ref a0), (1, .int x1)]) hx hb dX1_doChange_8 rfl hl (by decide) rfl (fun ls hl => ?_)
  refine lv_aload_n hx hb dX1_doChange_9 rfl (lv_at hl 1 rfl) ?_
  obtain ⟨o171, ho174, h⟩ := rq_i h
  refine r_getR hC hw kc_1 hi0 0 rfl lk_219 dX1_doChange_10 rfl ho174 (fun a172 hi173 => ?_)
  obtain ⟨o175, ho178, h⟩ := rq_i h
  refine r_getR hC hw kc_3 hi173 4 rfl lk_154 dX1_doChange_13 rfl ho178 (fun a176 hi177 => ?_)
  refine lv_iload_n hx hb dX1_doChange_16 rfl (lv_at hl 2 rfl) ?_
  obtain ⟨hn179, h⟩ := ix_i h
  refine r_iald hC hw hi177 hn179 dX1_doChange_17 ?_
  refine lv_topi (fun y180 ey180 => ?_)
  have h := nm_i h y180 ey180
  refine lv_istore_n (lv' := [(3, .int y180), (2, .int r169), (0, .ref a0), (1, .int x1)]) hx hb dX1_doChange_18 rfl hl (by decide) rfl (fun ls hl => ?_)
  refine lv_aload_n hx hb dX1_doChange_19 rfl (lv_at hl 2 rfl) ?_
  obtain ⟨o181, ho184, h⟩ := rq_i h
  refine r_getR hC hw kc_1 hi0 1 rfl lk_220 dX1_doChange_20 rfl ho184 (fun a182 hi183 => ?_)
  refine lv_aload_n hx hb dX1_doChange_23 rfl (lv_at hl 2 rfl) ?_
  obtain ⟨o185, ho188, h⟩ := rq_i h
  refine r_getR hC hw kc_1 hi0 2 rfl lk_221 dX1_doChange_24 rfl ho188 (fun a186 hi187 => ?_)
  refine lv_aload_n hx hb dX1_doChange_27 rfl (lv_at hl 2 rfl) ?_
  obtain ⟨o189, ho192, h⟩ := rq_i h
  refine r_getR hC hw kc_1 hi0 0 rfl lk_219 dX1_doChange_28 rfl ho192 (fun a190 hi191 => ?_)
  obtain ⟨o193, ho196, h⟩ := rq_i h
  refine r_getR hC hw kc_3 hi191 1 rfl lk_145 dX1_doChange_31 rfl ho196 (fun a194 hi195 => ?_)
  refine lv_iload_n hx hb dX1_doChange_34 rfl (lv_at hl 3 rfl) ?_
  obtain ⟨hn197, h⟩ := ix_i h
  refine r_iald hC hw hi195 hn197 dX1_doChange_35 ?_
  obtain ⟨hn198, h⟩ := ix_i h
  refine r_lald hC hw hi187 hn198 dX1_doChange_36 ?_
  refine lv_aload_n hx hb dX1_doChange_37 rfl (lv_at hl 2 rfl) ?_
  obtain ⟨o199, ho202, h⟩ := rq_i h
  refine r_getR hC hw kc_1 hi0 0 rfl lk_219 dX1_doChange_38 rfl ho202 (fun a200 hi201 => ?_)
  obtain ⟨o203, ho206, h⟩ := rq_i h
  refine r_getR hC hw kc_3 hi201 3 rfl lk_151 dX1_doChange_41 rfl ho206 (fun a204 hi205 => ?_)
  refine lv_iload_n hx hb dX1_doChange_44 rfl (lv_at hl 3 rfl) ?_
  obtain ⟨hn207, h⟩ := ix_i h
  refine r_iald hC hw hi205 hn207 dX1_doChange_45 ?_
  refine lv_i2l (v := (gI D170 o203 x1.toNatClampNeg).toInt64) hx hb dX1_doChange_46 rfl ?_
  refine lv_ladd hx hb dX1_doChange_47 ?_
  refine lv_iload_n hx hb dX1_doChange_48 rfl (lv_at hl 1 rfl) ?_
  refine lv_iconst (v := 1) hx hb dX1_doChange_49 (by decide) ?_
  obtain ⟨r209, D210, hq208, h⟩ := cq_i h
  refine r_cV (st' := [.int r209]) [.long ((gL D170 o185 (gI D170 o193 x1.toNatClampNeg).toNatClampNeg) + ((gI D170 o203 x1.toNatClampNeg).toInt64)), .int r169, .int (1 : Int32)] [] hC hw kc_2 hi183 (k_X2_find _ hi183 hq208) mk_X2_find lk_927 ⟨Nat.le_trans (by decide) hR.1, Nat.le_trans (by decide) hR.2⟩ ⟨Nat.zero_le _, Nat.zero_le _⟩ rfl hl.1 rfl rfl (Nat.le_of_ble_eq_true rfl) dX1_doChange_50 (fun hP H locs hw => ?_)
  refine lv_if_ne (tgt := 58) hx hb dX1_doChange_53 (by decide) (fun c211 => ?_) (fun c211 => ?_)
  · have h := i_no c211 h
    refine lv_aload_n hx hb dX1_doChange_58 rfl (lv_at hl 2 rfl) ?_
    obtain ⟨o212, ho215, h⟩ := rq_i h
    refine r_getR hC hw kc_1 hi0 1 rfl lk_220 dX1_doChange_59 rfl ho215 (fun a213 hi214 => ?_)
    refine lv_iload_n hx hb dX1_doChange_62 rfl (lv_at hl 1 rfl) ?_
    obtain ⟨r217, D218, hq216, h⟩ := cq_i h
    refine r_cV (st' := [.long r217]) [.int r169] [] hC hw kc_2 hi214 (k_X2_foundNumber _ hi214 hq216) mk_X2_foundNumber lk_943 ⟨Nat.le_trans (by decide) hR.1, Nat.le_trans (by decide) hR.2⟩ ⟨Nat.zero_le _, Nat.zero_le _⟩ rfl hl.1 rfl rfl (Nat.le_of_ble_eq_true rfl) dX1_doChange_63 (fun hP H locs hw => ?_)
    refine lv_lstore (lv' := [(4, .long r217), (3, .int y180), (2, .int r169), (0, .ref a0), (1, .int x1)]) hx hb dX1_doChange_66 hl (by decide) rfl (fun ls hl => ?_)
    refine lv_aload_n hx hb dX1_doChange_68 rfl (lv_at hl 3 rfl) ?_
    obtain ⟨o219, ho222, h⟩ := rq_i h
    refine r_getR hC hw kc_1 hi0 2 rfl lk_221 dX1_doChange_69 rfl ho222 (fun a220 hi221 => ?_)
    refine lv_aload_n hx hb dX1_doChange_72 rfl (lv_at hl 3 rfl) ?_
    obtain ⟨o223, ho226, h⟩ := rq_i h
    refine r_getR hC hw kc_1 hi0 0 rfl lk_219 dX1_doChange_73 rfl ho226 (fun a224 hi225 => ?_)
    obtain ⟨o227, ho230, h⟩ := rq_i h
    refine r_getR hC hw kc_3 hi225 2 rfl lk_148 dX1_doChange_76 rfl ho230 (fun a228 hi229 => ?_)
    refine lv_iload_n hx hb dX1_doChange_79 rfl (lv_at hl 4 rfl) ?_
    obtain ⟨hn231, h⟩ := ix_i h
    refine r_iald hC hw hi229 hn231 dX1_doChange_80 ?_
    obtain ⟨hn232, h⟩ := ix_i h
    refine r_lald hC hw hi221 hn232 dX1_doChange_81 ?_
    refine lv_topl (fun y233 ey233 => ?_)
    have h := nm_i h y233 ey233
    refine lv_lstore (lv' := [(6, .long y233), (4, .long r217), (3, .int y180), (2, .int r169), (0, .ref a0), (1, .int x1)]) hx hb dX1_doChange_82 hl (by decide) rfl (fun ls hl => ?_)
    refine lv_iload_n hx hb dX1_doChange_84 rfl (lv_at hl 2 rfl) ?_
    refine lv_sipush (v := 241) hx hb dX1_doChange_85 (by decide) ?_
    refine lv_icmp_ne (tgt := 157) hx hb dX1_doChange_88 (by decide) (fun c234 => ?_) (fun c234 => ?_)
    · have h := i_no c234 h
      refine lv_aload_n hx hb dX1_doChange_157 rfl (lv_at hl 4 rfl) ?_
      obtain ⟨o235, ho238, h⟩ := rq_i h
      refine r_getR hC hw kc_1 hi0 1 rfl lk_220 dX1_doChange_158 rfl ho238 (fun a236 hi237 => ?_)
      refine lv_iload_n hx hb dX1_doChange_161 rfl (lv_at hl 2 rfl) ?_
      refine lv_sipush (v := 225) hx hb dX1_doChange_162 (by decide) ?_
      refine lv_icmp_ne (tgt := 173) hx hb dX1_doChange_165 (by decide) (fun c239 => ?_) (fun c239 => ?_)
      · have h := i_no c239 h
        refine lv_iload_n hx hb dX1_doChange_173 rfl (lv_at hl 2 rfl) ?_
        refine lv_iconst (v := 4) hx hb dX1_doChange_174 (by decide) ?_
        refine lv_ishr hx hb dX1_doChange_175 ?_
        refine lv_iconst (v := 1) hx hb dX1_doChange_176 (by decide) ?_
        refine lv_iconst (v := 0) hx hb dX1_doChange_177 (by decide) ?_
        refine lv_lload hx hb dX1_doChange_178 (lv_at hl 1 rfl) ?_
        refine lv_lload hx hb dX1_doChange_180 (lv_at hl 0 rfl) ?_
        obtain ⟨r241, hq240, h⟩ := pq_i h
        refine r_cS (st' := [.long r241, .ref a236]) [.int (y180 >>> ((4 : Int32) &&& 31)), .int (1 : Int32), .int (0 : Int32), .long r217, .long y233] [.ref a236] hC hw (k_X3_make _ hq240) mk_X3_make lk_962 ⟨Nat.le_trans (by decide) hR.1, Nat.le_trans (by decide) hR.2⟩ ⟨Nat.zero_le _, Nat.zero_le _⟩ rfl hl.1 rfl rfl (Nat.le_of_ble_eq_true rfl) dX1_doChange_182 (fun hP H locs hw => ?_)
        exact w_X1_doChange_185 hC hR o0 a0 x1 r169 y180 r217 o235 a236 r241 _ _ _ _ hi0 hi237 hw (lv_sub hl [4, 5, 3, 2, 1] rfl) h
      · have h := i_yes c239 h
        refine lv_lload hx hb dX1_doChange_168 (lv_at hl 0 rfl) ?_
        refine lv_goto (tgt := 185) hx hb dX1_doChange_170 (by decide) ?_
        exact w_X1_doChange_185 hC hR o0 a0 x1 r169 y180 r217 o235 a236 y233 _ _ _ _ hi0 hi237 hw (lv_sub hl [4, 5, 3, 2, 1] rfl) h
    · have h := i_yes c234 h
      refine lv_iload_n hx hb dX1_doChange_91 rfl (lv_at hl 3 rfl) ?_
      refine lv_bipush (v := 8) hx hb dX1_doChange_92 (by decide) ?_
      refine lv_icmp_ne (tgt := 106) hx hb dX1_doChange_94 (by decide) (fun c242 => ?_) (fun c242 => ?_)
      · have h := i_no c242 h
        refine lv_aload_n hx hb dX1_doChange_106 rfl (lv_at hl 4 rfl) ?_
        obtain ⟨o243, ho246, h⟩ := rq_i h
        refine r_getR hC hw kc_1 hi0 2 rfl lk_221 dX1_doChange_107 rfl ho246 (fun a244 hi245 => ?_)
        refine lv_iconst (v := 0) hx hb dX1_doChange_110 (by decide) ?_
        obtain ⟨hn247, h⟩ := ix_i h
        refine r_lald hC hw hi245 hn247 dX1_doChange_111 ?_
        refine lv_ldc2 (v := 4294967295) hx hb hC.2.2.2.1 (hC.2.2.2.2.1 _ lk_916) dX1_doChange_112 ?_
        refine lv_land hx hb dX1_doChange_115 ?_
        exact w_X1_doChange_116 hC hR o0 a0 x1 r169 r217 y233 ((gL D218 o243 (0 : Int32).toNatClampNeg) &&& (4294967295 : Int64)) _ _ _ _ hi0 hw (lv_sub hl [4, 5, 3, 1, 0] rfl) h
      · have h := i_yes c242 h
        refine lv_aload_n hx hb dX1_doChange_97 rfl (lv_at hl 4 rfl) ?_
        obtain ⟨o248, ho251, h⟩ := rq_i h
        refine r_getR hC hw kc_1 hi0 2 rfl lk_221 dX1_doChange_98 rfl ho251 (fun a249 hi250 => ?_)
        refine lv_iconst (v := 0) hx hb dX1_doChange_101 (by decide) ?_
        obtain ⟨hn252, h⟩ := ix_i h
        refine r_lald hC hw hi250 hn252 dX1_doChange_102 ?_
        refine lv_goto (tgt := 116) hx hb dX1_doChange_103 (by decide) ?_
        exact w_X1_doChange_116 hC hR o0 a0 x1 r169 r217 y233 (gL D218 o248 (0 : Int32).toNatClampNeg) _ _ _ _ hi0 hw (lv_sub hl [4, 5, 3, 1, 0] rfl) h
  · have h := i_yes c211 h
    refine lv_iconst (v := 4) hx hb dX1_doChange_56 (by decide) ?_
    cases h
    exact r_iret hC hw dX1_doChange_57
set_option maxHeartbeats 4000000 in
set_option maxRecDepth 100000 in
theorem k_X1_doChange {l : Launch} {G : va_G} {cA : Nat → ClassId} {S : sh} {D D' : dt} {ad : Nat → Nat} (sz : Nat) {o0 a0 : Nat} {x1 : Int32} {r : Int32} (hi0 : Is S ad o0 a0 1) (h : f_X1_doChange S o0 x1 D = some (r, D')) : Co l yX1_doChange (Cond.code yX1_doChange cX1_doChange 10 (some .int) :: tb0) 3 75 [.ref a0, .int x1] G cA S D ad sz (some (.int r)) True D' := by
  refine Met.ofW (cc := cX1_doChange) (maxL := 10) (ret := (some .int)) (by decide) rfl ?_
  intro p e s m args below meth c s₁ B hml hv
  obtain ⟨rfl, hsz, hP, hK, hD0, hT, hX⟩ := hv
  subst hsz
  have hts := atoms_spec (ws := Cond.code yX1_doChange cX1_doChange 10 (some .int) :: tb0) B.pre
  have hC : Cx RX1 cX1_doChange 10 (some .int) p s m _ meth c := ⟨B.exec, B.bytes, hml, findClass_of_methodNamed B.named, fun w q => hts w (List.mem_cons_of_mem _ q), B.returns, B.notSynchronized⟩
  have hw := Wd.entry hP hK hD0 hT hX
  have hl := lv_entry ([.ref a0, .int x1]) (n := 10) (Nat.le_of_ble_eq_true rfl)
  rw [lg_entry_eq]
  exact w_X1_doChange_0 hC ⟨Nat.le_refl _, Nat.le_refl _⟩ o0 a0 x1 D _ _ _ hi0 hw hl h
set_option maxHeartbeats 4000000 in
set_option maxRecDepth 100000 in
theorem w_X1_x_0 {r : Int64} {D' : dt} (hC : Cx RX1 cX1_x 2 (some .long) p s m args meth c) (hR : 1 ≤ R.frames ∧ 21 ≤ R.locals) : ∀ (o0 a0 : Nat) (x1 : Int32) (D : dt) (H : Heap) (locs : List Loc) (ls : Array Slot), Is S ad o0 a0 1 → Wd G cA S D ad A s H locs → lv_has ls 2 [(0, .ref a0), (1, .int x1)] → f_X1_x S o0 x1 D = some (r, D') → W p l e R s m args below meth c H locs 0 0 (MQ below (Qn (some (.long r)) True (wpost G cA S D' ad A) A) args s 0 0 A) (F0 m 0 ls []) := by
  obtain ⟨hx, hb, -⟩ := id hC
  intro o0 a0 x1 D H locs ls hi0 hw hl h
  unfold f_X1_x at h
  refine lv_aload_n hx hb dX1_x_0 rfl (lv_at hl 0 rfl) ?_
  obtain ⟨o32, ho35, h⟩ := rq_i h
  refine r_getR hC hw kc_1 hi0 0 rfl lk_219 dX1_x_1 rfl ho35 (fun a33 hi34 => ?_)
  refine lv_iload_n hx hb dX1_x_4 rfl (lv_at hl 1 rfl) ?_
  obtain ⟨r37, D38, hq36, h⟩ := cq_i h
  refine r_cV (st' := [.int r37]) [.int x1] [] hC hw kc_3 hi34 (k_X4_byRegister _ hi34 hq36) mk_X4_byRegister lk_969 ⟨Nat.le_trans (by decide) hR.1, Nat.le_trans (by decide) hR.2⟩ ⟨Nat.zero_le _, Nat.zero_le _⟩ rfl hl.1 rfl rfl (Nat.le_of_ble_eq_true rfl) dX1_x_5 (fun hP H locs hw => ?_)
  refine lv_if_eq (tgt := 28) hx hb dX1_x_8 (by decide) (fun c39 => ?_) (fun c39 => ?_)
  · have h := i_yes c39 h
    refine lv_aload_n hx hb dX1_x_28 rfl (lv_at hl 0 rfl) ?_
    obtain ⟨o40, ho43, h⟩ := rq_i h
    refine r_getR hC hw kc_1 hi0 0 rfl lk_219 dX1_x_29 rfl ho43 (fun a41 hi42 => ?_)
    obtain ⟨o44, ho47, h⟩ := rq_i h
    refine r_getR hC hw kc_3 hi42 4 rfl lk_154 dX1_x_32 rfl ho47 (fun a45 hi46 => ?_)
    refine lv_iload_n hx hb dX1_x_35 rfl (lv_at hl 1 rfl) ?_
    obtain ⟨hn48, h⟩ := ix_i h
    refine r_iald hC hw hi46 hn48 dX1_x_36 ?_
    refine lv_i2l (v := (gI D38 o44 x1.toNatClampNeg).toInt64) hx hb dX1_x_37 rfl ?_
    cases h
    exact r_lret hC hw dX1_x_38
  · have h := i_no c39 h
    refine lv_aload_n hx hb dX1_x_11 rfl (lv_at hl 0 rfl) ?_
    obtain ⟨o49, ho52, h⟩ := rq_i h
    refine r_getR hC hw kc_1 hi0 2 rfl lk_221 dX1_x_12 rfl ho52 (fun a50 hi51 => ?_)
    refine lv_aload_n hx hb dX1_x_15 rfl (lv_at hl 0 rfl) ?_
    obtain ⟨o53, ho56, h⟩ := rq_i h
    refine r_getR hC hw kc_1 hi0 0 rfl lk_219 dX1_x_16 rfl ho56 (fun a54 hi55 => ?_)
    obtain ⟨o57, ho60, h⟩ := rq_i h
    refine r_getR hC hw kc_3 hi55 2 rfl lk_148 dX1_x_19 rfl ho60 (fun a58 hi59 => ?_)
    refine lv_iload_n hx hb dX1_x_22 rfl (lv_at hl 1 rfl) ?_
    obtain ⟨hn61, h⟩ := ix_i h
    refine r_iald hC hw hi59 hn61 dX1_x_23 ?_
    obtain ⟨hn62, h⟩ := ix_i h
    refine r_lald hC hw hi51 hn62 dX1_x_24 ?_
    refine lv_goto (tgt := 38) hx hb dX1_x_25 (by decide) ?_
    cases h
    exact r_lret hC hw dX1_x_38
set_option maxHeartbeats 4000000 in
set_option maxRecDepth 100000 in
theorem k_X1_x {l : Launch} {G : va_G} {cA : Nat → ClassId} {S : sh} {D D' : dt} {ad : Nat → Nat} (sz : Nat) {o0 a0 : Nat} {x1 : Int32} {r : Int64} (hi0 : Is S ad o0 a0 1) (h : f_X1_x S o0 x1 D = some (r, D')) : Co l yX1_x (Cond.code yX1_x cX1_x 2 (some .long) :: tb0) 1 21 [.ref a0, .int x1] G cA S D ad sz (some (.long r)) True D' := by
  refine Met.ofW (cc := cX1_x) (maxL := 2) (ret := (some .long)) (by decide) rfl ?_
  intro p e s m args below meth c s₁ B hml hv
  obtain ⟨rfl, hsz, hP, hK, hD0, hT, hX⟩ := hv
  subst hsz
  have hts := atoms_spec (ws := Cond.code yX1_x cX1_x 2 (some .long) :: tb0) B.pre
  have hC : Cx RX1 cX1_x 2 (some .long) p s m _ meth c := ⟨B.exec, B.bytes, hml, findClass_of_methodNamed B.named, fun w q => hts w (List.mem_cons_of_mem _ q), B.returns, B.notSynchronized⟩
  have hw := Wd.entry hP hK hD0 hT hX
  have hl := lv_entry ([.ref a0, .int x1]) (n := 2) (Nat.le_of_ble_eq_true rfl)
  rw [lg_entry_eq]
  exact w_X1_x_0 hC ⟨Nat.le_refl _, Nat.le_refl _⟩ o0 a0 x1 D _ _ _ hi0 hw hl h
set_option maxHeartbeats 4000000 in
set_option maxRecDepth 100000 in
theorem w_X1_doArithmetic_121 {r : Int32} {D' : dt} (hC : Cx RX1 cX1_doArithmetic 5 (some .int) p s m args meth c) (hR : 2 ≤ R.frames ∧ 63 ≤ R.locals) : ∀ (o0 a0 : Nat) (x1 : Int32) (D : dt) (H : Heap) (locs : List Loc) (ls : Array Slot), Is S ad o0 a0 1 → Wd G cA S D ad A s H locs → lv_has ls 5 [(0, .ref a0), (1, .int x1)] → f_X1_doArithmetic_121 S o0 x1 D = some (r, D') → W p l e R s m args below meth c H locs 0 0 (MQ below (Qn (some (.int r)) True (wpost G cA S D' ad A) A) args s 0 0 A) (F0 m 121 ls []) := by
  obtain ⟨hx, hb, -⟩ := id hC
  intro o0 a0 x1 D H locs ls hi0 hw hl h
  unfold f_X1_doArithmetic_121 at h
  refine lv_aload_n hx hb dX1_doArithmetic_121 rfl (lv_at hl 0 rfl) ?_
  refine lv_iload_n hx hb dX1_doArithmetic_122 rfl (lv_at hl 1 rfl) ?_
  refine lv_iconst (v := 1) hx hb dX1_doArithmetic_123 (by decide) ?_
  refine lv_iadd hx hb dX1_doArithmetic_124 ?_
  obtain ⟨r93, D94, hq92, h⟩ := cq_i h
  refine r_cV (st' := [.int r93]) [.int (x1 + (1 : Int32))] [] hC hw kc_1 hi0 (k_X1_goTo _ hi0 hq92) mk_X1_goTo lk_918 ⟨Nat.le_trans (by decide) hR.1, Nat.le_trans (by decide) hR.2⟩ ⟨Nat.zero_le _, Nat.zero_le _⟩ rfl hl.1 rfl rfl (Nat.le_of_ble_eq_true rfl) dX1_doArithmetic_125 (fun hP H locs hw => ?_)
  cases h
  exact r_iret hC hw dX1_doArithmetic_128
set_option maxHeartbeats 4000000 in
set_option maxRecDepth 100000 in
theorem w_X1_doArithmetic_52 {r : Int32} {D' : dt} (hC : Cx RX1 cX1_doArithmetic 5 (some .int) p s m args meth c) (hR : 2 ≤ R.frames ∧ 63 ≤ R.locals) : ∀ (o0 a0 : Nat) (x1 : Int32) (x3 : Int32) (xs0 : Int32) (D : dt) (H : Heap) (locs : List Loc) (ls : Array Slot), Is S ad o0 a0 1 → Wd G cA S D ad A s H locs → lv_has ls 5 [(0, .ref a0), (1, .int x1), (3, .int x3)] → f_X1_doArithmetic_52 S o0 x1 x3 xs0 D = some (r, D') → W p l e R s m args below meth c H locs 0 0 (MQ below (Qn (some (.int r)) True (wpost G cA S D' ad A) A) args s 0 0 A) (F0 m 52 ls [.int xs0]) := by
  obtain ⟨hx, hb, -⟩ := id hC
  intro o0 a0 x1 x3 xs0 D H locs ls hi0 hw hl h
  unfold f_X1_doArithmetic_52 at h
  refine lv_istore (lv' := [(4, .int xs0), (0, .ref a0), (1, .int x1), (3, .int x3)]) hx hb dX1_doArithmetic_52 hl (by decide) rfl (fun ls hl => ?_)
  refine lv_aload_n hx hb dX1_doArithmetic_54 rfl (lv_at hl 1 rfl) ?_
  obtain ⟨o95, ho98, h⟩ := rq_i h
  refine r_getR hC hw kc_1 hi0 2 rfl lk_221 dX1_doArithmetic_55 rfl ho98 (fun a96 hi97 => ?_)
  refine lv_iload_n hx hb dX1_doArithmetic_58 rfl (lv_at hl 3 rfl) ?_
  refine lv_aload_n hx hb dX1_doArithmetic_59 rfl (lv_at hl 1 rfl) ?_
  obtain ⟨o99, ho102, h⟩ := rq_i h
  refine r_getR hC hw kc_1 hi0 2 rfl lk_221 dX1_doArithmetic_60 rfl ho102 (fun a100 hi101 => ?_)
  refine lv_iload_n hx hb dX1_doArithmetic_63 rfl (lv_at hl 3 rfl) ?_
  obtain ⟨hn103, h⟩ := ix_i h
  refine r_lald hC hw hi101 hn103 dX1_doArithmetic_64 ?_
  refine lv_aload_n hx hb dX1_doArithmetic_65 rfl (lv_at hl 1 rfl) ?_
  obtain ⟨o104, ho107, h⟩ := rq_i h
  refine r_getR hC hw kc_1 hi0 0 rfl lk_219 dX1_doArithmetic_66 rfl ho107 (fun a105 hi106 => ?_)
  obtain ⟨o108, ho111, h⟩ := rq_i h
  refine r_getR hC hw kc_3 hi106 4 rfl lk_154 dX1_doArithmetic_69 rfl ho111 (fun a109 hi110 => ?_)
  refine lv_iload_n hx hb dX1_doArithmetic_72 rfl (lv_at hl 2 rfl) ?_
  obtain ⟨hn112, h⟩ := ix_i h
  refine r_iald hC hw hi110 hn112 dX1_doArithmetic_73 ?_
  refine lv_iload hx hb dX1_doArithmetic_74 (lv_at hl 0 rfl) ?_
  obtain ⟨r114, hq113, h⟩ := pq_i h
  refine r_cS (st' := [.long r114, .int x3, .ref a96]) [.long (gL D o99 x3.toNatClampNeg), .int (gI D o108 x1.toNatClampNeg), .int xs0] [.int x3, .ref a96] hC hw (k_X3_turn _ hq113) mk_X3_turn lk_970 ⟨Nat.le_trans (by decide) hR.1, Nat.le_trans (by decide) hR.2⟩ ⟨Nat.zero_le _, Nat.zero_le _⟩ rfl hl.1 rfl rfl (Nat.le_of_ble_eq_true rfl) dX1_doArithmetic_76 (fun hP H locs hw => ?_)
  obtain ⟨hn115, h⟩ := ix_i h
  refine r_las hC hw hi97 hn115 dX1_doArithmetic_79 (fun D116 eD116 H locs hw => ?_)
  have h := nm_i h D116 eD116
  refine lv_goto (tgt := 121) hx hb dX1_doArithmetic_80 (by decide) ?_
  exact w_X1_doArithmetic_121 hC hR o0 a0 x1 _ _ _ _ hi0 hw (lv_sub hl [1, 2] rfl) h
set_option maxHeartbeats 4000000 in
set_option maxRecDepth 100000 in
theorem w_X1_doArithmetic_47 {r : Int32} {D' : dt} (hC : Cx RX1 cX1_doArithmetic 5 (some .int) p s m args meth c) (hR : 2 ≤ R.frames ∧ 63 ≤ R.locals) : ∀ (o0 a0 : Nat) (x1 : Int32) (x3 : Int32) (D : dt) (H : Heap) (locs : List Loc) (ls : Array Slot), Is S ad o0 a0 1 → Wd G cA S D ad A s H locs → lv_has ls 5 [(0, .ref a0), (1, .int x1), (3, .int x3)] → f_X1_doArithmetic_47 S o0 x1 x3 D = some (r, D') → W p l e R s m args below meth c H locs 0 0 (MQ below (Qn (some (.int r)) True (wpost G cA S D' ad A) A) args s 0 0 A) (F0 m 47 ls []) := by
  obtain ⟨hx, hb, -⟩ := id hC
  intro o0 a0 x1 x3 D H locs ls hi0 hw hl h
  unfold f_X1_doArithmetic_47 at h
  refine lv_iconst (v := 1) hx hb dX1_doArithmetic_47 (by decide) ?_
  refine lv_goto (tgt := 52) hx hb dX1_doArithmetic_48 (by decide) ?_
  exact w_X1_doArithmetic_52 hC hR o0 a0 x1 x3 (1 : Int32) _ _ _ _ hi0 hw (lv_sub hl [0, 1, 2] rfl) h
set_option maxHeartbeats 4000000 in
set_option maxRecDepth 100000 in
theorem w_X1_doArithmetic_0 {r : Int32} {D' : dt} (hC : Cx RX1 cX1_doArithmetic 5 (some .int) p s m args meth c) (hR : 2 ≤ R.frames ∧ 63 ≤ R.locals) : ∀ (o0 a0 : Nat) (x1 : Int32) (D : dt) (H : Heap) (locs : List Loc) (ls : Array Slot), Is S ad o0 a0 1 → Wd G cA S D ad A s H locs → lv_has ls 5 [(0, .ref a0), (1, .int x1)] → f_X1_doArithmetic S o0 x1 D = some (r, D') → W p l e R s m args below meth c H locs 0 0 (MQ below (Qn (some (.int r)) True (wpost G cA S D' ad A) A) args s 0 0 A) (F0 m 0 ls []) := by
  obtain ⟨hx, hb, -⟩ := id hC
  intro o0 a0 x1 D H locs ls hi0 hw hl h
  unfold f_X1_doArithmetic at h
  refine lv_aload_n hx hb dX1_doArithmetic_0 rfl (lv_at hl 0 rfl) ?_
  obtain ⟨o117, ho120, h⟩ := rq_i h
  refine r_getR hC hw kc_1 hi0 0 rfl lk_219 dX1_doArithmetic_1 rfl ho120 (fun a118 hi119 => ?_)
  refine lv_iload_n hx hb dX1_doArithmetic_4 rfl (lv_at hl 1 rfl) ?_
  obtain ⟨r122, D123, hq121, h⟩ := cq_i h
  refine r_cV (st' := [.int r122]) [.int x1] [] hC hw kc_3 hi119 (k_X4_code _ hi119 hq121) mk_X4_code lk_967 ⟨Nat.le_trans (by decide) hR.1, Nat.le_trans (by decide) hR.2⟩ ⟨Nat.zero_le _, Nat.zero_le _⟩ rfl hl.1 rfl rfl (Nat.le_of_ble_eq_true rfl) dX1_doArithmetic_5 (fun hP H locs hw => ?_)
  refine lv_istore_n (lv' := [(2, .int r122), (0, .ref a0), (1, .int x1)]) hx hb dX1_doArithmetic_8 rfl hl (by decide) rfl (fun ls hl => ?_)
  refine lv_aload_n hx hb dX1_doArithmetic_9 rfl (lv_at hl 1 rfl) ?_
  obtain ⟨o124, ho127, h⟩ := rq_i h
  refine r_getR hC hw kc_1 hi0 0 rfl lk_219 dX1_doArithmetic_10 rfl ho127 (fun a125 hi126 => ?_)
  obtain ⟨o128, ho131, h⟩ := rq_i h
  refine r_getR hC hw kc_3 hi126 1 rfl lk_145 dX1_doArithmetic_13 rfl ho131 (fun a129 hi130 => ?_)
  refine lv_iload_n hx hb dX1_doArithmetic_16 rfl (lv_at hl 2 rfl) ?_
  obtain ⟨hn132, h⟩ := ix_i h
  refine r_iald hC hw hi130 hn132 dX1_doArithmetic_17 ?_
  refine lv_topi (fun y133 ey133 => ?_)
  have h := nm_i h y133 ey133
  refine lv_istore_n (lv' := [(3, .int y133), (2, .int r122), (0, .ref a0), (1, .int x1)]) hx hb dX1_doArithmetic_18 rfl hl (by decide) rfl (fun ls hl => ?_)
  refine lv_iload_n hx hb dX1_doArithmetic_19 rfl (lv_at hl 1 rfl) ?_
  refine lv_bipush (v := 13) hx hb dX1_doArithmetic_20 (by decide) ?_
  refine lv_icmp_ne (tgt := 83) hx hb dX1_doArithmetic_22 (by decide) (fun c134 => ?_) (fun c134 => ?_)
  · have h := i_no c134 h
    refine lv_aload_n hx hb dX1_doArithmetic_83 rfl (lv_at hl 2 rfl) ?_
    obtain ⟨o135, ho138, h⟩ := rq_i h
    refine r_getR hC hw kc_1 hi0 2 rfl lk_221 dX1_doArithmetic_84 rfl ho138 (fun a136 hi137 => ?_)
    refine lv_iload_n hx hb dX1_doArithmetic_87 rfl (lv_at hl 0 rfl) ?_
    refine lv_iload_n hx hb dX1_doArithmetic_88 rfl (lv_at hl 1 rfl) ?_
    refine lv_aload_n hx hb dX1_doArithmetic_89 rfl (lv_at hl 2 rfl) ?_
    obtain ⟨o139, ho142, h⟩ := rq_i h
    refine r_getR hC hw kc_1 hi0 0 rfl lk_219 dX1_doArithmetic_90 rfl ho142 (fun a140 hi141 => ?_)
    refine lv_iload_n hx hb dX1_doArithmetic_93 rfl (lv_at hl 3 rfl) ?_
    obtain ⟨r144, D145, hq143, h⟩ := cq_i h
    refine r_cV (st' := [.int r144, .int r122, .int y133, .ref a136]) [.int x1] [.int r122, .int y133, .ref a136] hC hw kc_3 hi141 (k_X4_isWide _ hi141 hq143) mk_X4_isWide lk_968 ⟨Nat.le_trans (by decide) hR.1, Nat.le_trans (by decide) hR.2⟩ ⟨Nat.zero_le _, Nat.zero_le _⟩ rfl hl.1 rfl rfl (Nat.le_of_ble_eq_true rfl) dX1_doArithmetic_94 (fun hP H locs hw => ?_)
    refine lv_aload_n hx hb dX1_doArithmetic_97 rfl (lv_at hl 2 rfl) ?_
    obtain ⟨o146, ho149, h⟩ := rq_i h
    refine r_getR hC hw kc_1 hi0 0 rfl lk_219 dX1_doArithmetic_98 rfl ho149 (fun a147 hi148 => ?_)
    obtain ⟨o150, ho153, h⟩ := rq_i h
    refine r_getR hC hw kc_3 hi148 3 rfl lk_151 dX1_doArithmetic_101 rfl ho153 (fun a151 hi152 => ?_)
    refine lv_iload_n hx hb dX1_doArithmetic_104 rfl (lv_at hl 3 rfl) ?_
    obtain ⟨hn154, h⟩ := ix_i h
    refine r_iald hC hw hi152 hn154 dX1_doArithmetic_105 ?_
    refine lv_aload_n hx hb dX1_doArithmetic_106 rfl (lv_at hl 2 rfl) ?_
    obtain ⟨o155, ho158, h⟩ := rq_i h
    refine r_getR hC hw kc_1 hi0 2 rfl lk_221 dX1_doArithmetic_107 rfl ho158 (fun a156 hi157 => ?_)
    refine lv_iload_n hx hb dX1_doArithmetic_110 rfl (lv_at hl 0 rfl) ?_
    obtain ⟨hn159, h⟩ := ix_i h
    refine r_lald hC hw hi157 hn159 dX1_doArithmetic_111 ?_
    refine lv_aload_n hx hb dX1_doArithmetic_112 rfl (lv_at hl 2 rfl) ?_
    refine lv_iload_n hx hb dX1_doArithmetic_113 rfl (lv_at hl 3 rfl) ?_
    obtain ⟨r161, D162, hq160, h⟩ := cq_i h
    refine r_cV (st' := [.long r161, .long (gL D145 o155 y133.toNatClampNeg), .int (gI D145 o150 x1.toNatClampNeg), .int r144, .int r122, .int y133, .ref a136]) [.int x1] [.long (gL D145 o155 y133.toNatClampNeg), .int (gI D145 o150 x1.toNatClampNeg), .int r144, .int r122, .int y133, .ref a136] hC hw kc_1 hi0 (k_X1_x _ hi0 hq160) mk_X1_x lk_971 ⟨Nat.le_trans (by decide) hR.1, Nat.le_trans (by decide) hR.2⟩ ⟨Nat.zero_le _, Nat.zero_le _⟩ rfl hl.1 rfl rfl (Nat.le_of_ble_eq_true rfl) dX1_doArithmetic_114 (fun hP H locs hw => ?_)
    obtain ⟨r164, hq163, h⟩ := pq_i h
    refine r_cS (st' := [.long r164, .int y133, .ref a136]) [.int r122, .int r144, .int (gI D145 o150 x1.toNatClampNeg), .long (gL D145 o155 y133.toNatClampNeg), .long r161] [.int y133, .ref a136] hC hw (k_X3_make _ hq163) mk_X3_make lk_962 ⟨Nat.le_trans (by decide) hR.1, Nat.le_trans (by decide) hR.2⟩ ⟨Nat.zero_le _, Nat.zero_le _⟩ rfl hl.1 rfl rfl (Nat.le_of_ble_eq_true rfl) dX1_doArithmetic_117 (fun hP H locs hw => ?_)
    obtain ⟨hn165, h⟩ := ix_i h
    refine r_las hC hw hi137 hn165 dX1_doArithmetic_120 (fun D166 eD166 H locs hw => ?_)
    have h := nm_i h D166 eD166
    exact w_X1_doArithmetic_121 hC hR o0 a0 x1 _ _ _ _ hi0 hw (lv_sub hl [2, 3] rfl) h
  · have h := i_yes c134 h
    refine lv_aload_n hx hb dX1_doArithmetic_25 rfl (lv_at hl 2 rfl) ?_
    obtain ⟨o167, ho170, h⟩ := rq_i h
    refine r_getR hC hw kc_1 hi0 0 rfl lk_219 dX1_doArithmetic_26 rfl ho170 (fun a168 hi169 => ?_)
    refine lv_iload_n hx hb dX1_doArithmetic_29 rfl (lv_at hl 3 rfl) ?_
    obtain ⟨r172, D173, hq171, h⟩ := cq_i h
    refine r_cV (st' := [.int r172]) [.int x1] [] hC hw kc_3 hi169 (k_X4_isWide _ hi169 hq171) mk_X4_isWide lk_968 ⟨Nat.le_trans (by decide) hR.1, Nat.le_trans (by decide) hR.2⟩ ⟨Nat.zero_le _, Nat.zero_le _⟩ rfl hl.1 rfl rfl (Nat.le_of_ble_eq_true rfl) dX1_doArithmetic_30 (fun hP H locs hw => ?_)
    refine lv_if_ne (tgt := 47) hx hb dX1_doArithmetic_33 (by decide) (fun c174 => ?_) (fun c174 => ?_)
    · have h := i_no c174 h
      exact w_X1_doArithmetic_47 hC hR o0 a0 x1 y133 _ _ _ _ hi0 hw (lv_sub hl [2, 3, 0] rfl) h
    · have h := i_yes c174 h
      refine lv_aload_n hx hb dX1_doArithmetic_36 rfl (lv_at hl 2 rfl) ?_
      obtain ⟨o175, ho178, h⟩ := rq_i h
      refine r_getR hC hw kc_1 hi0 0 rfl lk_219 dX1_doArithmetic_37 rfl ho178 (fun a176 hi177 => ?_)
      refine lv_iload_n hx hb dX1_doArithmetic_40 rfl (lv_at hl 3 rfl) ?_
      obtain ⟨r180, D181, hq179, h⟩ := cq_i h
      refine r_cV (st' := [.int r180]) [.int x1] [] hC hw kc_3 hi177 (k_X4_byRegister _ hi177 hq179) mk_X4_byRegister lk_969 ⟨Nat.le_trans (by decide) hR.1, Nat.le_trans (by decide) hR.2⟩ ⟨Nat.zero_le _, Nat.zero_le _⟩ rfl hl.1 rfl rfl (Nat.le_of_ble_eq_true rfl) dX1_doArithmetic_41 (fun hP H locs hw => ?_)
      refine lv_if_eq (tgt := 51) hx hb dX1_doArithmetic_44 (by decide) (fun c182 => ?_) (fun c182 => ?_)
      · have h := i_yes c182 h
        refine lv_iconst (v := 0) hx hb dX1_doArithmetic_51 (by decide) ?_
        exact w_X1_doArithmetic_52 hC hR o0 a0 x1 y133 (0 : Int32) _ _ _ _ hi0 hw (lv_sub hl [2, 3, 0] rfl) h
      · have h := i_no c182 h
        exact w_X1_doArithmetic_47 hC hR o0 a0 x1 y133 _ _ _ _ hi0 hw (lv_sub hl [2, 3, 0] rfl) h
set_option maxHeartbeats 4000000 in
set_option maxRecDepth 100000 in
theorem k_X1_doArithmetic {l : Launch} {G : va_G} {cA : Nat → ClassId} {S : sh} {D D' : dt} {ad : Nat → Nat} (sz : Nat) {o0 a0 : Nat} {x1 : Int32} {r : Int32} (hi0 : Is S ad o0 a0 1) (h : f_X1_doArithmetic S o0 x1 D = some (r, D')) : Co l yX1_doArithmetic (Cond.code yX1_doArithmetic cX1_doArithmetic 5 (some .int) :: tb0) 2 63 [.ref a0, .int x1] G cA S D ad sz (some (.int r)) True D' := by
  refine Met.ofW (cc := cX1_doArithmetic) (maxL := 5) (ret := (some .int)) (by decide) rfl ?_
  intro p e s m args below meth c s₁ B hml hv
  obtain ⟨rfl, hsz, hP, hK, hD0, hT, hX⟩ := hv
  subst hsz
  have hts := atoms_spec (ws := Cond.code yX1_doArithmetic cX1_doArithmetic 5 (some .int) :: tb0) B.pre
  have hC : Cx RX1 cX1_doArithmetic 5 (some .int) p s m _ meth c := ⟨B.exec, B.bytes, hml, findClass_of_methodNamed B.named, fun w q => hts w (List.mem_cons_of_mem _ q), B.returns, B.notSynchronized⟩
  have hw := Wd.entry hP hK hD0 hT hX
  have hl := lv_entry ([.ref a0, .int x1]) (n := 5) (Nat.le_of_ble_eq_true rfl)
  rw [lg_entry_eq]
  exact w_X1_doArithmetic_0 hC ⟨Nat.le_refl _, Nat.le_refl _⟩ o0 a0 x1 D _ _ _ hi0 hw hl h
set_option maxHeartbeats 4000000 in
set_option maxRecDepth 100000 in
theorem w_X1_comeBack_10 {r : Int32} {D' : dt} (hC : Cx RX1 cX1_comeBack 5 (some .int) p s m args meth c) (hR : 1 ≤ R.frames ∧ 21 ≤ R.locals) : ∀ (n : Nat), ∀ (o0 a0 : Nat) (x1 : Int32) (x4 : Int32) (D : dt) (H : Heap) (locs : List Loc) (ls : Array Slot), Is S ad o0 a0 1 → Wd G cA S D ad A s H locs → lv_has ls 5 [(0, .ref a0), (1, .int x1), (4, .int x4)] → f_X1_comeBack_10 S n o0 x1 x4 D = some (r, D') → W p l e R s m args below meth c H locs 0 0 (MQ below (Qn (some (.int r)) True (wpost G cA S D' ad A) A) args s 0 0 A) (F0 m 10 ls []) := by
  obtain ⟨hx, hb, -⟩ := id hC
  intro n
  induction n with
  | zero =>
    intro o0 a0 x1 x4 D H locs ls hi0 hw hl h
    rw [f_X1_comeBack_10.eq_1] at h
    cases h
  | succ n ih =>
    intro o0 a0 x1 x4 D H locs ls hi0 hw hl h
    rw [f_X1_comeBack_10.eq_2] at h
    refine lv_iload hx hb dX1_comeBack_10 (lv_at hl 2 rfl) ?_
    refine lv_iconst (v := 5) hx hb dX1_comeBack_12 (by decide) ?_
    refine lv_icmp_gt (tgt := 30) hx hb dX1_comeBack_13 (by decide) (fun c19 => ?_) (fun c19 => ?_)
    · have h := i_yes c19 h
      refine lv_aload_n hx hb dX1_comeBack_30 rfl (lv_at hl 0 rfl) ?_
      refine lv_iload_n hx hb dX1_comeBack_31 rfl (lv_at hl 1 rfl) ?_
      refine lv_iconst (v := 1) hx hb dX1_comeBack_32 (by decide) ?_
      refine lv_iadd hx hb dX1_comeBack_33 ?_
      obtain ⟨r21, D22, hq20, h⟩ := cq_i h
      refine r_cV (st' := [.int r21]) [.int (x1 + (1 : Int32))] [] hC hw kc_1 hi0 (k_X1_goTo _ hi0 hq20) mk_X1_goTo lk_918 ⟨Nat.le_trans (by decide) hR.1, Nat.le_trans (by decide) hR.2⟩ ⟨Nat.zero_le _, Nat.zero_le _⟩ rfl hl.1 rfl rfl (Nat.le_of_ble_eq_true rfl) dX1_comeBack_34 (fun hP H locs hw => ?_)
      cases h
      exact r_iret hC hw dX1_comeBack_37
    · have h := i_no c19 h
      refine lv_aload_n hx hb dX1_comeBack_16 rfl (lv_at hl 0 rfl) ?_
      obtain ⟨o23, ho26, h⟩ := rq_i h
      refine r_getR hC hw kc_1 hi0 2 rfl lk_221 dX1_comeBack_17 rfl ho26 (fun a24 hi25 => ?_)
      refine lv_iload hx hb dX1_comeBack_20 (lv_at hl 2 rfl) ?_
      refine lv_lconst (v := 0) hx hb dX1_comeBack_22 (by decide) ?_
      obtain ⟨hn27, h⟩ := ix_i h
      refine r_las hC hw hi25 hn27 dX1_comeBack_23 (fun D28 eD28 H locs hw => ?_)
      have h := nm_i h D28 eD28
      obtain ⟨y29, ey29⟩ : ∃ z : Int32, z = x4 + 1 := ⟨_, rfl⟩
      have h := nm_i h y29 ey29
      refine lv_iinc (v := y29) (lv' := [(4, .int y29), (0, .ref a0), (1, .int x1)]) hx hb dX1_comeBack_24 hl (k := 2) rfl (by rw [ey29]; rfl) (by decide) rfl (fun ls hl => ?_)
      refine lv_goto (tgt := 10) hx hb dX1_comeBack_27 (by decide) ?_
      exact ih o0 a0 x1 y29 _ _ _ _ hi0 hw (lv_sub hl [1, 2, 0] rfl) h
set_option maxHeartbeats 4000000 in
set_option maxRecDepth 100000 in
theorem w_X1_comeBack_0 {r : Int32} {D' : dt} (hC : Cx RX1 cX1_comeBack 5 (some .int) p s m args meth c) (hR : 1 ≤ R.frames ∧ 21 ≤ R.locals) : ∀ (o0 a0 : Nat) (x1 : Int32) (x2 : Int64) (D : dt) (H : Heap) (locs : List Loc) (ls : Array Slot), Is S ad o0 a0 1 → Wd G cA S D ad A s H locs → lv_has ls 5 [(0, .ref a0), (1, .int x1), (2, .long x2)] → f_X1_comeBack S o0 x1 x2 D = some (r, D') → W p l e R s m args below meth c H locs 0 0 (MQ below (Qn (some (.int r)) True (wpost G cA S D' ad A) A) args s 0 0 A) (F0 m 0 ls []) := by
  obtain ⟨hx, hb, -⟩ := id hC
  intro o0 a0 x1 x2 D H locs ls hi0 hw hl h
  unfold f_X1_comeBack at h
  refine lv_aload_n hx hb dX1_comeBack_0 rfl (lv_at hl 0 rfl) ?_
  obtain ⟨o30, ho33, h⟩ := rq_i h
  refine r_getR hC hw kc_1 hi0 2 rfl lk_221 dX1_comeBack_1 rfl ho33 (fun a31 hi32 => ?_)
  refine lv_iconst (v := 0) hx hb dX1_comeBack_4 (by decide) ?_
  refine lv_lload_n hx hb dX1_comeBack_5 rfl (lv_at hl 2 rfl) ?_
  obtain ⟨hn34, h⟩ := ix_i h
  refine r_las hC hw hi32 hn34 dX1_comeBack_6 (fun D35 eD35 H locs hw => ?_)
  have h := nm_i h D35 eD35
  refine lv_iconst (v := 1) hx hb dX1_comeBack_7 (by decide) ?_
  refine lv_topi (fun y36 ey36 => ?_)
  have h := nm_i h y36 ey36
  refine lv_istore (lv' := [(4, .int y36), (0, .ref a0), (1, .int x1), (2, .long x2)]) hx hb dX1_comeBack_8 hl (by decide) rfl (fun ls hl => ?_)
  exact w_X1_comeBack_10 hC hR LF o0 a0 x1 y36 _ _ _ _ hi0 hw (lv_sub hl [1, 2, 0] rfl) h
set_option maxHeartbeats 4000000 in
set_option maxRecDepth 100000 in
theorem k_X1_comeBack {l : Launch} {G : va_G} {cA : Nat → ClassId} {S : sh} {D D' : dt} {ad : Nat → Nat} (sz : Nat) {o0 a0 : Nat} {x1 : Int32} {x2 : Int64} {r : Int32} (hi0 : Is S ad o0 a0 1) (h : f_X1_comeBack S o0 x1 x2 D = some (r, D')) : Co l yX1_comeBack (Cond.code yX1_comeBack cX1_comeBack 5 (some .int) :: tb0) 1 21 [.ref a0, .int x1, .long x2] G cA S D ad sz (some (.int r)) True D' := by
  refine Met.ofW (cc := cX1_comeBack) (maxL := 5) (ret := (some .int)) (by decide) rfl ?_
  intro p e s m args below meth c s₁ B hml hv
  obtain ⟨rfl, hsz, hP, hK, hD0, hT, hX⟩ := hv
  subst hsz
  have hts := atoms_spec (ws := Cond.code yX1_comeBack cX1_comeBack 5 (some .int) :: tb0) B.pre
  have hC : Cx RX1 cX1_comeBack 5 (some .int) p s m _ meth c := ⟨B.exec, B.bytes, hml, findClass_of_methodNamed B.named, fun w q => hts w (List.mem_cons_of_mem _ q), B.returns, B.notSynchronized⟩
  have hw := Wd.entry hP hK hD0 hT hX
  have hl := lv_entry ([.ref a0, .int x1, .long x2]) (n := 5) (Nat.le_of_ble_eq_true rfl)
  rw [lg_entry_eq]
  exact w_X1_comeBack_0 hC ⟨Nat.le_refl _, Nat.le_refl _⟩ o0 a0 x1 x2 D _ _ _ hi0 hw hl h
set_option maxHeartbeats 4000000 in
set_option maxRecDepth 100000 in
theorem w_X1_doCall_195 {r : Int32} {D' : dt} (hC : Cx RX1 cX1_doCall 8 (some .int) p s m args meth c) (hR : 3 ≤ R.frames ∧ 75 ≤ R.locals) : ∀ (os0 as0 : Nat) (xs1 : Int32) (xs2 : Int64) (D : dt) (H : Heap) (locs : List Loc) (ls : Array Slot), Is S ad os0 as0 1 → Wd G cA S D ad A s H locs → lv_has ls 8 [] → f_X1_doCall_195 S os0 xs1 xs2 D = some (r, D') → W p l e R s m args below meth c H locs 0 0 (MQ below (Qn (some (.int r)) True (wpost G cA S D' ad A) A) args s 0 0 A) (F0 m 195 ls [.long xs2, .int xs1, .ref as0]) := by
  obtain ⟨hx, hb, -⟩ := id hC
  intro os0 as0 xs1 xs2 D H locs ls his0 hw hl h
  unfold f_X1_doCall_195 at h
  obtain ⟨r115, D116, hq114, h⟩ := cq_i h
  refine r_cV (st' := [.int r115]) [.int xs1, .long xs2] [] hC hw kc_1 his0 (k_X1_comeBack _ his0 hq114) mk_X1_comeBack lk_979 ⟨Nat.le_trans (by decide) hR.1, Nat.le_trans (by decide) hR.2⟩ ⟨Nat.zero_le _, Nat.zero_le _⟩ rfl hl.1 rfl rfl (Nat.le_of_ble_eq_true rfl) dX1_doCall_195 (fun hP H locs hw => ?_)
  cases h
  exact r_iret hC hw dX1_doCall_198
set_option maxHeartbeats 4000000 in
set_option maxRecDepth 100000 in
theorem w_X1_doCall_268 {r : Int32} {D' : dt} (hC : Cx RX1 cX1_doCall 8 (some .int) p s m args meth c) (hR : 3 ≤ R.frames ∧ 75 ≤ R.locals) : ∀ (os0 as0 : Nat) (xs1 : Int32) (xs2 : Int64) (D : dt) (H : Heap) (locs : List Loc) (ls : Array Slot), Is S ad os0 as0 1 → Wd G cA S D ad A s H locs → lv_has ls 8 [] → f_X1_doCall_268 S os0 xs1 xs2 D = some (r, D') → W p l e R s m args below meth c H locs 0 0 (MQ below (Qn (some (.int r)) True (wpost G cA S D' ad A) A) args s 0 0 A) (F0 m 268 ls [.long xs2, .int xs1, .ref as0]) := by
  obtain ⟨hx, hb, -⟩ := id hC
  intro os0 as0 xs1 xs2 D H locs ls his0 hw hl h
  unfold f_X1_doCall_268 at h
  obtain ⟨r118, D119, hq117, h⟩ := cq_i h
  refine r_cV (st' := [.int r118]) [.int xs1, .long xs2] [] hC hw kc_1 his0 (k_X1_comeBack _ his0 hq117) mk_X1_comeBack lk_979 ⟨Nat.le_trans (by decide) hR.1, Nat.le_trans (by decide) hR.2⟩ ⟨Nat.zero_le _, Nat.zero_le _⟩ rfl hl.1 rfl rfl (Nat.le_of_ble_eq_true rfl) dX1_doCall_268 (fun hP H locs hw => ?_)
  cases h
  exact r_iret hC hw dX1_doCall_271
set_option maxHeartbeats 4000000 in
set_option maxRecDepth 100000 in
theorem w_X1_doCall_254 {r : Int32} {D' : dt} (hC : Cx RX1 cX1_doCall 8 (some .int) p s m args meth c) (hR : 3 ≤ R.frames ∧ 75 ≤ R.locals) : ∀ (o0 a0 : Nat) (x1 : Int32) (x7 : Int32) (D : dt) (H : Heap) (locs : List Loc) (ls : Array Slot), Is S ad o0 a0 1 → Wd G cA S D ad A s H locs → lv_has ls 8 [(0, .ref a0), (1, .int x1), (7, .int x7)] → f_X1_doCall_254 S o0 x1 x7 D = some (r, D') → W p l e R s m args below meth c H locs 0 0 (MQ below (Qn (some (.int r)) True (wpost G cA S D' ad A) A) args s 0 0 A) (F0 m 254 ls []) := by
  obtain ⟨hx, hb, -⟩ := id hC
  intro o0 a0 x1 x7 D H locs ls hi0 hw hl h
  unfold f_X1_doCall_254 at h
  refine lv_aload_n hx hb dX1_doCall_254 rfl (lv_at hl 0 rfl) ?_
  refine lv_iload_n hx hb dX1_doCall_255 rfl (lv_at hl 1 rfl) ?_
  refine lv_iload hx hb dX1_doCall_256 (lv_at hl 2 rfl) ?_
  refine lv_if_ge (tgt := 267) hx hb dX1_doCall_258 (by decide) (fun c120 => ?_) (fun c120 => ?_)
  · have h := i_yes c120 h
    refine lv_lconst (v := 0) hx hb dX1_doCall_267 (by decide) ?_
    exact w_X1_doCall_268 hC hR o0 a0 x1 (0 : Int64) _ _ _ _ hi0 hw (lv_sub hl [] rfl) h
  · have h := i_no c120 h
    refine lv_ldc2 (v := (-1)) hx hb hC.2.2.2.1 (hC.2.2.2.2.1 _ lk_998) dX1_doCall_261 ?_
    refine lv_goto (tgt := 268) hx hb dX1_doCall_264 (by decide) ?_
    exact w_X1_doCall_268 hC hR o0 a0 x1 (-1 : Int64) _ _ _ _ hi0 hw (lv_sub hl [] rfl) h
set_option maxHeartbeats 4000000 in
set_option maxRecDepth 100000 in
theorem w_X1_doCall_167 {r : Int32} {D' : dt} (hC : Cx RX1 cX1_doCall 8 (some .int) p s m args meth c) (hR : 3 ≤ R.frames ∧ 75 ≤ R.locals) : ∀ (os0 as0 : Nat) (xs1 : Int32) (xs2 : Int64) (D : dt) (H : Heap) (locs : List Loc) (ls : Array Slot), Is S ad os0 as0 1 → Wd G cA S D ad A s H locs → lv_has ls 8 [] → f_X1_doCall_167 S os0 xs1 xs2 D = some (r, D') → W p l e R s m args below meth c H locs 0 0 (MQ below (Qn (some (.int r)) True (wpost G cA S D' ad A) A) args s 0 0 A) (F0 m 167 ls [.long xs2, .int xs1, .ref as0]) := by
  obtain ⟨hx, hb, -⟩ := id hC
  intro os0 as0 xs1 xs2 D H locs ls his0 hw hl h
  unfold f_X1_doCall_167 at h
  obtain ⟨r122, D123, hq121, h⟩ := cq_i h
  refine r_cV (st' := [.int r122]) [.int xs1, .long xs2] [] hC hw kc_1 his0 (k_X1_comeBack _ his0 hq121) mk_X1_comeBack lk_979 ⟨Nat.le_trans (by decide) hR.1, Nat.le_trans (by decide) hR.2⟩ ⟨Nat.zero_le _, Nat.zero_le _⟩ rfl hl.1 rfl rfl (Nat.le_of_ble_eq_true rfl) dX1_doCall_167 (fun hP H locs hw => ?_)
  cases h
  exact r_iret hC hw dX1_doCall_170
set_option maxHeartbeats 4000000 in
set_option maxRecDepth 100000 in
theorem w_X1_doCall_0 {r : Int32} {D' : dt} (hC : Cx RX1 cX1_doCall 8 (some .int) p s m args meth c) (hR : 3 ≤ R.frames ∧ 75 ≤ R.locals) : ∀ (o0 a0 : Nat) (x1 : Int32) (x2 : Int32) (D : dt) (H : Heap) (locs : List Loc) (ls : Array Slot), Is S ad o0 a0 1 → Wd G cA S D ad A s H locs → lv_has ls 8 [(0, .ref a0), (1, .int x1), (2, .int x2)] → f_X1_doCall S o0 x1 x2 D = some (r, D') → W p l e R s m args below meth c H locs 0 0 (MQ below (Qn (some (.int r)) True (wpost G cA S D' ad A) A) args s 0 0 A) (F0 m 0 ls []) := by
  obtain ⟨hx, hb, -⟩ := id hC
  intro o0 a0 x1 x2 D H locs ls hi0 hw hl h
  unfold f_X1_doCall at h
  refine lv_iload_n hx hb dX1_doCall_0 rfl (lv_at hl 2 rfl) ?_
  refine lv_iconst (v := 5) hx hb dX1_doCall_1 (by decide) ?_
  refine lv_icmp_ne (tgt := 18) hx hb dX1_doCall_2 (by decide) (fun c124 => ?_) (fun c124 => ?_)
  · have h := i_no c124 h
    refine lv_iload_n hx hb dX1_doCall_18 rfl (lv_at hl 2 rfl) ?_
    refine lv_bipush (v := 6) hx hb dX1_doCall_19 (by decide) ?_
    refine lv_icmp_ne (tgt := 59) hx hb dX1_doCall_21 (by decide) (fun c125 => ?_) (fun c125 => ?_)
    · have h := i_no c125 h
      refine lv_aload_n hx hb dX1_doCall_59 rfl (lv_at hl 0 rfl) ?_
      obtain ⟨o126, ho129, h⟩ := rq_i h
      refine r_getR hC hw kc_1 hi0 1 rfl lk_220 dX1_doCall_60 rfl ho129 (fun a127 hi128 => ?_)
      refine lv_aload_n hx hb dX1_doCall_63 rfl (lv_at hl 0 rfl) ?_
      obtain ⟨o130, ho133, h⟩ := rq_i h
      refine r_getR hC hw kc_1 hi0 2 rfl lk_221 dX1_doCall_64 rfl ho133 (fun a131 hi132 => ?_)
      refine lv_iconst (v := 1) hx hb dX1_doCall_67 (by decide) ?_
      obtain ⟨hn134, h⟩ := ix_i h
      refine r_lald hC hw hi132 hn134 dX1_doCall_68 ?_
      obtain ⟨r136, D137, hq135, h⟩ := cq_i h
      refine r_cV (st' := [.int r136]) [.long (gL D o130 (1 : Int32).toNatClampNeg)] [] hC hw kc_2 hi128 (k_X2_tableAt _ hi128 hq135) mk_X2_tableAt lk_983 ⟨Nat.le_trans (by decide) hR.1, Nat.le_trans (by decide) hR.2⟩ ⟨Nat.zero_le _, Nat.zero_le _⟩ rfl hl.1 rfl rfl (Nat.le_of_ble_eq_true rfl) dX1_doCall_69 (fun hP H locs hw => ?_)
      refine lv_istore_n (lv' := [(3, .int r136), (0, .ref a0), (1, .int x1), (2, .int x2)]) hx hb dX1_doCall_72 rfl hl (by decide) rfl (fun ls hl => ?_)
      refine lv_aload_n hx hb dX1_doCall_73 rfl (lv_at hl 1 rfl) ?_
      obtain ⟨o138, ho141, h⟩ := rq_i h
      refine r_getR hC hw kc_1 hi0 1 rfl lk_220 dX1_doCall_74 rfl ho141 (fun a139 hi140 => ?_)
      refine lv_iload_n hx hb dX1_doCall_77 rfl (lv_at hl 0 rfl) ?_
      obtain ⟨r143, D144, hq142, h⟩ := cq_i h
      refine r_cV (st' := [va_rf (r143.map ad)]) [.int r136] [] hC hw kc_2 hi140 (k_X2_tableNumbered _ hi140 hq142) mk_X2_tableNumbered lk_915 ⟨Nat.le_trans (by decide) hR.1, Nat.le_trans (by decide) hR.2⟩ ⟨Nat.zero_le _, Nat.zero_le _⟩ rfl hl.1 rfl rfl (Nat.le_of_ble_eq_true rfl) dX1_doCall_78 (fun hP H locs hw => ?_)
      cases r143 with
      | none =>
        have h := oqN h
        refine W.eq (g2 := F0 m 81 ls [.null]) rfl ?_
        refine lv_astoreN (lv' := [(4, .null), (3, .int r136), (0, .ref a0), (1, .int x1), (2, .int x2)]) hx hb dX1_doCall_81 hl (by decide) rfl (fun ls hl => ?_)
        refine lv_aloadN hx hb dX1_doCall_83 (lv_at hl 0 rfl) ?_
        refine lv_ifnullN (tgt := 110) hx hb dX1_doCall_85 (by decide) ?_
        refine lv_iconst (v := 4) hx hb dX1_doCall_110 (by decide) ?_
        cases h
        exact r_iret hC hw dX1_doCall_111
      | some o145 =>
        have h := oqS h
        have hi146 : Is S ad o145 (ad o145) 6 := ⟨(hP o145 rfl).1, (hP o145 rfl).2, rfl⟩
        refine W.eq (g2 := F0 m 81 ls [.ref (ad o145)]) rfl ?_
        refine lv_astore (lv' := [(4, .ref (ad o145)), (3, .int r136), (0, .ref a0), (1, .int x1), (2, .int x2)]) hx hb dX1_doCall_81 hl (by decide) rfl (fun ls hl => ?_)
        refine lv_aload hx hb dX1_doCall_83 (lv_at hl 0 rfl) ?_
        refine lv_ifnull hx hb dX1_doCall_85 ?_
        refine lv_aload_n hx hb dX1_doCall_88 rfl (lv_at hl 2 rfl) ?_
        obtain ⟨o147, ho150, h⟩ := rq_i h
        refine r_getR hC hw kc_1 hi0 1 rfl lk_220 dX1_doCall_89 rfl ho150 (fun a148 hi149 => ?_)
        refine lv_aload_n hx hb dX1_doCall_92 rfl (lv_at hl 2 rfl) ?_
        obtain ⟨o151, ho154, h⟩ := rq_i h
        refine r_getR hC hw kc_1 hi0 2 rfl lk_221 dX1_doCall_93 rfl ho154 (fun a152 hi153 => ?_)
        refine lv_iconst (v := 2) hx hb dX1_doCall_96 (by decide) ?_
        obtain ⟨hn155, h⟩ := ix_i h
        refine r_lald hC hw hi153 hn155 dX1_doCall_97 ?_
        refine lv_aload hx hb dX1_doCall_98 (lv_at hl 0 rfl) ?_
        refine r_gI hC hw kc_6 hi146 1 rfl lk_404 dX1_doCall_100 ?_
        refine lv_iconst (v := 0) hx hb dX1_doCall_103 (by decide) ?_
        obtain ⟨r157, D158, hq156, h⟩ := cq_i h
        refine r_cV (st' := [.int r157]) [.long (gL D144 o151 (2 : Int32).toNatClampNeg), .int (gI D144 o145 1), .int (0 : Int32)] [] hC hw kc_2 hi149 (k_X2_find _ hi149 hq156) mk_X2_find lk_927 ⟨Nat.le_trans (by decide) hR.1, Nat.le_trans (by decide) hR.2⟩ ⟨Nat.zero_le _, Nat.zero_le _⟩ rfl hl.1 rfl rfl (Nat.le_of_ble_eq_true rfl) dX1_doCall_104 (fun hP H locs hw => ?_)
        refine lv_if_ne (tgt := 112) hx hb dX1_doCall_107 (by decide) (fun c159 => ?_) (fun c159 => ?_)
        · have h := i_no c159 h
          refine lv_aload_n hx hb dX1_doCall_112 rfl (lv_at hl 2 rfl) ?_
          obtain ⟨o160, ho163, h⟩ := rq_i h
          refine r_getR hC hw kc_1 hi0 1 rfl lk_220 dX1_doCall_113 rfl ho163 (fun a161 hi162 => ?_)
          refine lv_aload hx hb dX1_doCall_116 (lv_at hl 0 rfl) ?_
          refine r_gI hC hw kc_6 hi146 1 rfl lk_404 dX1_doCall_118 ?_
          obtain ⟨r165, D166, hq164, h⟩ := cq_i h
          refine r_cV (st' := [.long r165]) [.int (gI D158 o145 1)] [] hC hw kc_2 hi162 (k_X2_foundNumber _ hi162 hq164) mk_X2_foundNumber lk_943 ⟨Nat.le_trans (by decide) hR.1, Nat.le_trans (by decide) hR.2⟩ ⟨Nat.zero_le _, Nat.zero_le _⟩ rfl hl.1 rfl rfl (Nat.le_of_ble_eq_true rfl) dX1_doCall_121 (fun hP H locs hw => ?_)
          refine lv_lstore (lv' := [(5, .long r165), (4, .ref (ad o145)), (3, .int r136), (0, .ref a0), (1, .int x1), (2, .int x2)]) hx hb dX1_doCall_124 hl (by decide) rfl (fun ls hl => ?_)
          refine lv_iload_n hx hb dX1_doCall_126 rfl (lv_at hl 5 rfl) ?_
          refine lv_iconst (v := 1) hx hb dX1_doCall_127 (by decide) ?_
          refine lv_icmp_ne (tgt := 171) hx hb dX1_doCall_128 (by decide) (fun c167 => ?_) (fun c167 => ?_)
          · have h := i_no c167 h
            refine lv_iload_n hx hb dX1_doCall_171 rfl (lv_at hl 5 rfl) ?_
            refine lv_iconst (v := 3) hx hb dX1_doCall_172 (by decide) ?_
            refine lv_icmp_ne (tgt := 199) hx hb dX1_doCall_173 (by decide) (fun c168 => ?_) (fun c168 => ?_)
            · have h := i_no c168 h
              refine lv_aload_n hx hb dX1_doCall_199 rfl (lv_at hl 3 rfl) ?_
              obtain ⟨o169, ho172, h⟩ := rq_i h
              refine r_getR hC hw kc_1 hi0 1 rfl lk_220 dX1_doCall_200 rfl ho172 (fun a170 hi171 => ?_)
              refine lv_aload_n hx hb dX1_doCall_203 rfl (lv_at hl 3 rfl) ?_
              obtain ⟨o173, ho176, h⟩ := rq_i h
              refine r_getR hC hw kc_1 hi0 2 rfl lk_221 dX1_doCall_204 rfl ho176 (fun a174 hi175 => ?_)
              refine lv_iconst (v := 3) hx hb dX1_doCall_207 (by decide) ?_
              obtain ⟨hn177, h⟩ := ix_i h
              refine r_lald hC hw hi175 hn177 dX1_doCall_208 ?_
              refine lv_aload hx hb dX1_doCall_209 (lv_at hl 1 rfl) ?_
              refine r_gI hC hw kc_6 hi146 2 rfl lk_409 dX1_doCall_211 ?_
              refine lv_iconst (v := 0) hx hb dX1_doCall_214 (by decide) ?_
              obtain ⟨r179, D180, hq178, h⟩ := cq_i h
              refine r_cV (st' := [.int r179]) [.long (gL D166 o173 (3 : Int32).toNatClampNeg), .int (gI D166 o145 2), .int (0 : Int32)] [] hC hw kc_2 hi171 (k_X2_find _ hi171 hq178) mk_X2_find lk_927 ⟨Nat.le_trans (by decide) hR.1, Nat.le_trans (by decide) hR.2⟩ ⟨Nat.zero_le _, Nat.zero_le _⟩ rfl hl.1 rfl rfl (Nat.le_of_ble_eq_true rfl) dX1_doCall_215 (fun hP H locs hw => ?_)
              refine lv_if_ne (tgt := 223) hx hb dX1_doCall_218 (by decide) (fun c181 => ?_) (fun c181 => ?_)
              · have h := i_no c181 h
                refine lv_aload hx hb dX1_doCall_223 (lv_at hl 1 rfl) ?_
                refine lv_lload hx hb dX1_doCall_225 (lv_at hl 0 rfl) ?_
                refine lv_aload_n hx hb dX1_doCall_227 rfl (lv_at hl 3 rfl) ?_
                obtain ⟨o182, ho185, h⟩ := rq_i h
                refine r_getR hC hw kc_1 hi0 2 rfl lk_221 dX1_doCall_228 rfl ho185 (fun a183 hi184 => ?_)
                refine lv_iconst (v := 4) hx hb dX1_doCall_231 (by decide) ?_
                obtain ⟨hn186, h⟩ := ix_i h
                refine r_lald hC hw hi184 hn186 dX1_doCall_232 ?_
                obtain ⟨r188, D189, hq187, h⟩ := cq_i h
                refine r_cV (st' := [.int r188]) [.long r165, .long (gL D180 o182 (4 : Int32).toNatClampNeg)] [] hC hw kc_6 hi146 (k_X7_numberToPut _ hi146 hq187) mk_X7_numberToPut lk_999 ⟨Nat.le_trans (by decide) hR.1, Nat.le_trans (by decide) hR.2⟩ ⟨Nat.zero_le _, Nat.zero_le _⟩ rfl hl.1 rfl rfl (Nat.le_of_ble_eq_true rfl) dX1_doCall_233 (fun hP H locs hw => ?_)
                refine lv_istore (lv' := [(7, .int r188), (5, .long r165), (4, .ref (ad o145)), (3, .int r136), (0, .ref a0), (1, .int x1), (2, .int x2)]) hx hb dX1_doCall_236 hl (by decide) rfl (fun ls hl => ?_)
                refine lv_iload hx hb dX1_doCall_238 (lv_at hl 0 rfl) ?_
                refine lv_if_lt (tgt := 254) hx hb dX1_doCall_240 (by decide) (fun c190 => ?_) (fun c190 => ?_)
                · have h := i_yes c190 h
                  exact w_X1_doCall_254 hC hR o0 a0 x1 r188 _ _ _ _ hi0 hw (lv_sub hl [4, 5, 0] rfl) h
                · have h := i_no c190 h
                  refine lv_aload_n hx hb dX1_doCall_243 rfl (lv_at hl 4 rfl) ?_
                  obtain ⟨o191, ho194, h⟩ := rq_i h
                  refine r_getR hC hw kc_1 hi0 1 rfl lk_220 dX1_doCall_244 rfl ho194 (fun a192 hi193 => ?_)
                  refine lv_aload hx hb dX1_doCall_247 (lv_at hl 2 rfl) ?_
                  refine lv_iload hx hb dX1_doCall_249 (lv_at hl 0 rfl) ?_
                  obtain ⟨_, D196, hq195, h⟩ := cq_i h
                  refine r_cV (st' := []) [.ref (ad o145), .int r188] [] hC hw kc_2 hi193 (k_X2_copyFoundTo _ hi193 hi146 hq195) mk_X2_copyFoundTo lk_1008 ⟨Nat.le_trans (by decide) hR.1, Nat.le_trans (by decide) hR.2⟩ ⟨Nat.zero_le _, Nat.zero_le _⟩ rfl hl.1 rfl rfl (Nat.le_of_ble_eq_true rfl) dX1_doCall_251 (fun hP H locs hw => ?_)
                  exact w_X1_doCall_254 hC hR o0 a0 x1 r188 _ _ _ _ hi0 hw (lv_sub hl [4, 5, 0] rfl) h
              · have h := i_yes c181 h
                refine lv_iconst (v := 4) hx hb dX1_doCall_221 (by decide) ?_
                cases h
                exact r_iret hC hw dX1_doCall_222
            · have h := i_yes c168 h
              refine lv_aload_n hx hb dX1_doCall_176 rfl (lv_at hl 3 rfl) ?_
              refine lv_iload_n hx hb dX1_doCall_177 rfl (lv_at hl 4 rfl) ?_
              refine lv_aload hx hb dX1_doCall_178 (lv_at hl 1 rfl) ?_
              refine lv_lload hx hb dX1_doCall_180 (lv_at hl 0 rfl) ?_
              obtain ⟨r198, D199, hq197, h⟩ := cq_i h
              refine r_cV (st' := [.int r198, .int x1, .ref a0]) [.long r165] [.int x1, .ref a0] hC hw kc_6 hi146 (k_X7_removeKey _ hi146 hq197) mk_X7_removeKey lk_993 ⟨Nat.le_trans (by decide) hR.1, Nat.le_trans (by decide) hR.2⟩ ⟨Nat.zero_le _, Nat.zero_le _⟩ rfl hl.1 rfl rfl (Nat.le_of_ble_eq_true rfl) dX1_doCall_182 (fun hP H locs hw => ?_)
              refine lv_if_eq (tgt := 192) hx hb dX1_doCall_185 (by decide) (fun c200 => ?_) (fun c200 => ?_)
              · have h := i_yes c200 h
                refine lv_ldc2 (v := (-1)) hx hb hC.2.2.2.1 (hC.2.2.2.2.1 _ lk_998) dX1_doCall_192 ?_
                exact w_X1_doCall_195 hC hR o0 a0 x1 (-1 : Int64) _ _ _ _ hi0 hw (lv_sub hl [] rfl) h
              · have h := i_no c200 h
                refine lv_lconst (v := 0) hx hb dX1_doCall_188 (by decide) ?_
                refine lv_goto (tgt := 195) hx hb dX1_doCall_189 (by decide) ?_
                exact w_X1_doCall_195 hC hR o0 a0 x1 (0 : Int64) _ _ _ _ hi0 hw (lv_sub hl [] rfl) h
          · have h := i_yes c167 h
            refine lv_aload hx hb dX1_doCall_131 (lv_at hl 1 rfl) ?_
            refine lv_lload hx hb dX1_doCall_133 (lv_at hl 0 rfl) ?_
            obtain ⟨r202, D203, hq201, h⟩ := cq_i h
            refine r_cV (st' := [.int r202]) [.long r165] [] hC hw kc_6 hi146 (k_X7_numberOf _ hi146 hq201) mk_X7_numberOf lk_988 ⟨Nat.le_trans (by decide) hR.1, Nat.le_trans (by decide) hR.2⟩ ⟨Nat.zero_le _, Nat.zero_le _⟩ rfl hl.1 rfl rfl (Nat.le_of_ble_eq_true rfl) dX1_doCall_135 (fun hP H locs hw => ?_)
            refine lv_istore (lv' := [(7, .int r202), (5, .long r165), (4, .ref (ad o145)), (3, .int r136), (0, .ref a0), (1, .int x1), (2, .int x2)]) hx hb dX1_doCall_138 hl (by decide) rfl (fun ls hl => ?_)
            refine lv_aload_n hx hb dX1_doCall_140 rfl (lv_at hl 4 rfl) ?_
            refine lv_iload_n hx hb dX1_doCall_141 rfl (lv_at hl 5 rfl) ?_
            refine lv_iload hx hb dX1_doCall_142 (lv_at hl 0 rfl) ?_
            refine lv_if_ge (tgt := 151) hx hb dX1_doCall_144 (by decide) (fun c204 => ?_) (fun c204 => ?_)
            · have h := i_yes c204 h
              refine lv_ldc2 (v := 34359738368) hx hb hC.2.2.2.1 (hC.2.2.2.2.1 _ lk_992) dX1_doCall_151 ?_
              refine lv_iload_n hx hb dX1_doCall_154 rfl (lv_at hl 3 rfl) ?_
              refine lv_i2l (v := r136.toInt64) hx hb dX1_doCall_155 rfl ?_
              refine lv_bipush (v := 24) hx hb dX1_doCall_156 (by decide) ?_
              refine lv_lshl (v := j_lshl r136.toInt64 (24 : Int32)) hx hb dX1_doCall_158 rfl ?_
              refine lv_ladd hx hb dX1_doCall_159 ?_
              refine lv_iload hx hb dX1_doCall_160 (lv_at hl 0 rfl) ?_
              refine lv_i2l (v := r202.toInt64) hx hb dX1_doCall_162 rfl ?_
              refine lv_bipush (v := 12) hx hb dX1_doCall_163 (by decide) ?_
              refine lv_lshl (v := j_lshl r202.toInt64 (12 : Int32)) hx hb dX1_doCall_165 rfl ?_
              refine lv_ladd hx hb dX1_doCall_166 ?_
              exact w_X1_doCall_167 hC hR o0 a0 x1 (((34359738368 : Int64) + (j_lshl r136.toInt64 (24 : Int32))) + (j_lshl r202.toInt64 (12 : Int32))) _ _ _ _ hi0 hw (lv_sub hl [] rfl) h
            · have h := i_no c204 h
              refine lv_lconst (v := 0) hx hb dX1_doCall_147 (by decide) ?_
              refine lv_goto (tgt := 167) hx hb dX1_doCall_148 (by decide) ?_
              exact w_X1_doCall_167 hC hR o0 a0 x1 (0 : Int64) _ _ _ _ hi0 hw (lv_sub hl [] rfl) h
        · have h := i_yes c159 h
          refine lv_iconst (v := 4) hx hb dX1_doCall_110 (by decide) ?_
          cases h
          exact r_iret hC hw dX1_doCall_111
    · have h := i_yes c125 h
      refine lv_aload_n hx hb dX1_doCall_24 rfl (lv_at hl 0 rfl) ?_
      obtain ⟨o205, ho208, h⟩ := rq_i h
      refine r_getR hC hw kc_1 hi0 3 rfl lk_223 dX1_doCall_25 rfl ho208 (fun a206 hi207 => ?_)
      refine lv_aload_n hx hb dX1_doCall_28 rfl (lv_at hl 0 rfl) ?_
      refine r_gI hC hw kc_1 hi0 4 rfl lk_224 dX1_doCall_29 ?_
      refine lv_bipush (v := 32) hx hb dX1_doCall_32 (by decide) ?_
      refine lv_irem hx hb dX1_doCall_34 (by decide) ?_
      refine lv_aload_n hx hb dX1_doCall_35 rfl (lv_at hl 0 rfl) ?_
      obtain ⟨o209, ho212, h⟩ := rq_i h
      refine r_getR hC hw kc_1 hi0 2 rfl lk_221 dX1_doCall_36 rfl ho212 (fun a210 hi211 => ?_)
      refine lv_iconst (v := 1) hx hb dX1_doCall_39 (by decide) ?_
      obtain ⟨hn213, h⟩ := ix_i h
      refine r_lald hC hw hi211 hn213 dX1_doCall_40 ?_
      obtain ⟨hn214, h⟩ := ix_i h
      refine r_las hC hw hi207 hn214 dX1_doCall_41 (fun D215 eD215 H locs hw => ?_)
      have h := nm_i h D215 eD215
      refine lv_aload_n hx hb dX1_doCall_42 rfl (lv_at hl 0 rfl) ?_
      refine lv_dup hx hb dX1_doCall_43 rfl ?_
      refine r_gI hC hw kc_1 hi0 4 rfl lk_224 dX1_doCall_44 ?_
      refine lv_iconst (v := 1) hx hb dX1_doCall_47 (by decide) ?_
      refine lv_iadd hx hb dX1_doCall_48 ?_
      refine r_pI hC hw kc_1 hi0 4 rfl lk_224 rfl rfl rfl dX1_doCall_49 (fun D216 eD216 H locs hw => ?_)
      have h := nm_i h D216 eD216
      refine lv_aload_n hx hb dX1_doCall_52 rfl (lv_at hl 0 rfl) ?_
      refine lv_iload_n hx hb dX1_doCall_53 rfl (lv_at hl 1 rfl) ?_
      refine lv_lconst (v := 0) hx hb dX1_doCall_54 (by decide) ?_
      obtain ⟨r218, D219, hq217, h⟩ := cq_i h
      refine r_cV (st' := [.int r218]) [.int x1, .long (0 : Int64)] [] hC hw kc_1 hi0 (k_X1_comeBack _ hi0 hq217) mk_X1_comeBack lk_979 ⟨Nat.le_trans (by decide) hR.1, Nat.le_trans (by decide) hR.2⟩ ⟨Nat.zero_le _, Nat.zero_le _⟩ rfl hl.1 rfl rfl (Nat.le_of_ble_eq_true rfl) dX1_doCall_55 (fun hP H locs hw => ?_)
      cases h
      exact r_iret hC hw dX1_doCall_58
  · have h := i_yes c124 h
    refine lv_aload_n hx hb dX1_doCall_5 rfl (lv_at hl 0 rfl) ?_
    refine lv_iload_n hx hb dX1_doCall_6 rfl (lv_at hl 1 rfl) ?_
    refine lv_aload_n hx hb dX1_doCall_7 rfl (lv_at hl 0 rfl) ?_
    obtain ⟨o220, ho223, h⟩ := rq_i h
    refine r_getR hC hw kc_1 hi0 1 rfl lk_220 dX1_doCall_8 rfl ho223 (fun a221 hi222 => ?_)
    refine r_gL hC hw kc_2 hi222 5 rfl lk_192 dX1_doCall_11 ?_
    obtain ⟨r225, D226, hq224, h⟩ := cq_i h
    refine r_cV (st' := [.int r225]) [.int x1, .long (gL D o220 5)] [] hC hw kc_1 hi0 (k_X1_comeBack _ hi0 hq224) mk_X1_comeBack lk_979 ⟨Nat.le_trans (by decide) hR.1, Nat.le_trans (by decide) hR.2⟩ ⟨Nat.zero_le _, Nat.zero_le _⟩ rfl hl.1 rfl rfl (Nat.le_of_ble_eq_true rfl) dX1_doCall_14 (fun hP H locs hw => ?_)
    cases h
    exact r_iret hC hw dX1_doCall_17
set_option maxHeartbeats 4000000 in
set_option maxRecDepth 100000 in
theorem k_X1_doCall {l : Launch} {G : va_G} {cA : Nat → ClassId} {S : sh} {D D' : dt} {ad : Nat → Nat} (sz : Nat) {o0 a0 : Nat} {x1 : Int32} {x2 : Int32} {r : Int32} (hi0 : Is S ad o0 a0 1) (h : f_X1_doCall S o0 x1 x2 D = some (r, D')) : Co l yX1_doCall (Cond.code yX1_doCall cX1_doCall 8 (some .int) :: tb0) 3 75 [.ref a0, .int x1, .int x2] G cA S D ad sz (some (.int r)) True D' := by
  refine Met.ofW (cc := cX1_doCall) (maxL := 8) (ret := (some .int)) (by decide) rfl ?_
  intro p e s m args below meth c s₁ B hml hv
  obtain ⟨rfl, hsz, hP, hK, hD0, hT, hX⟩ := hv
  subst hsz
  have hts := atoms_spec (ws := Cond.code yX1_doCall cX1_doCall 8 (some .int) :: tb0) B.pre
  have hC : Cx RX1 cX1_doCall 8 (some .int) p s m _ meth c := ⟨B.exec, B.bytes, hml, findClass_of_methodNamed B.named, fun w q => hts w (List.mem_cons_of_mem _ q), B.returns, B.notSynchronized⟩
  have hw := Wd.entry hP hK hD0 hT hX
  have hl := lv_entry ([.ref a0, .int x1, .int x2]) (n := 8) (Nat.le_of_ble_eq_true rfl)
  rw [lg_entry_eq]
  exact w_X1_doCall_0 hC ⟨Nat.le_refl _, Nat.le_refl _⟩ o0 a0 x1 x2 D _ _ _ hi0 hw hl h
set_option maxHeartbeats 4000000 in
set_option maxRecDepth 100000 in
theorem w_X1_doJump_84 {r : Int32} {D' : dt} (hC : Cx RX1 cX1_doJump 4 (some .int) p s m args meth c) (hR : 2 ≤ R.frames ∧ 53 ≤ R.locals) : ∀ (os0 as0 : Nat) (xs1 : Int32) (D : dt) (H : Heap) (locs : List Loc) (ls : Array Slot), Is S ad os0 as0 1 → Wd G cA S D ad A s H locs → lv_has ls 4 [] → f_X1_doJump_84 S os0 xs1 D = some (r, D') → W p l e R s m args below meth c H locs 0 0 (MQ below (Qn (some (.int r)) True (wpost G cA S D' ad A) A) args s 0 0 A) (F0 m 84 ls [.int xs1, .ref as0]) := by
  obtain ⟨hx, hb, -⟩ := id hC
  intro os0 as0 xs1 D H locs ls his0 hw hl h
  unfold f_X1_doJump_84 at h
  obtain ⟨r49, D50, hq48, h⟩ := cq_i h
  refine r_cV (st' := [.int r49]) [.int xs1] [] hC hw kc_1 his0 (k_X1_goTo _ his0 hq48) mk_X1_goTo lk_918 ⟨Nat.le_trans (by decide) hR.1, Nat.le_trans (by decide) hR.2⟩ ⟨Nat.zero_le _, Nat.zero_le _⟩ rfl hl.1 rfl rfl (Nat.le_of_ble_eq_true rfl) dX1_doJump_84 (fun hP H locs hw => ?_)
  cases h
  exact r_iret hC hw dX1_doJump_87
set_option maxHeartbeats 4000000 in
set_option maxRecDepth 100000 in
theorem w_X1_doJump_60 {r : Int32} {D' : dt} (hC : Cx RX1 cX1_doJump 4 (some .int) p s m args meth c) (hR : 2 ≤ R.frames ∧ 53 ≤ R.locals) : ∀ (o0 a0 : Nat) (x1 : Int32) (xs0 : Int32) (D : dt) (H : Heap) (locs : List Loc) (ls : Array Slot), Is S ad o0 a0 1 → Wd G cA S D ad A s H locs → lv_has ls 4 [(0, .ref a0), (1, .int x1)] → f_X1_doJump_60 S o0 x1 xs0 D = some (r, D') → W p l e R s m args below meth c H locs 0 0 (MQ below (Qn (some (.int r)) True (wpost G cA S D' ad A) A) args s 0 0 A) (F0 m 60 ls [.int xs0]) := by
  obtain ⟨hx, hb, -⟩ := id hC
  intro o0 a0 x1 xs0 D H locs ls hi0 hw hl h
  unfold f_X1_doJump_60 at h
  refine lv_istore_n (lv' := [(3, .int xs0), (0, .ref a0), (1, .int x1)]) hx hb dX1_doJump_60 rfl hl (by decide) rfl (fun ls hl => ?_)
  refine lv_aload_n hx hb dX1_doJump_61 rfl (lv_at hl 1 rfl) ?_
  refine lv_iload_n hx hb dX1_doJump_62 rfl (lv_at hl 0 rfl) ?_
  refine lv_if_eq (tgt := 81) hx hb dX1_doJump_63 (by decide) (fun c51 => ?_) (fun c51 => ?_)
  · have h := i_yes c51 h
    refine lv_iload_n hx hb dX1_doJump_81 rfl (lv_at hl 2 rfl) ?_
    refine lv_iconst (v := 1) hx hb dX1_doJump_82 (by decide) ?_
    refine lv_iadd hx hb dX1_doJump_83 ?_
    exact w_X1_doJump_84 hC hR o0 a0 (x1 + (1 : Int32)) _ _ _ _ hi0 hw (lv_sub hl [] rfl) h
  · have h := i_no c51 h
    refine lv_iload_n hx hb dX1_doJump_66 rfl (lv_at hl 2 rfl) ?_
    refine lv_iconst (v := 1) hx hb dX1_doJump_67 (by decide) ?_
    refine lv_iadd hx hb dX1_doJump_68 ?_
    refine lv_aload_n hx hb dX1_doJump_69 rfl (lv_at hl 1 rfl) ?_
    obtain ⟨o52, ho55, h⟩ := rq_i h
    refine r_getR hC hw kc_1 hi0 0 rfl lk_219 dX1_doJump_70 rfl ho55 (fun a53 hi54 => ?_)
    refine lv_iload_n hx hb dX1_doJump_73 rfl (lv_at hl 2 rfl) ?_
    obtain ⟨r57, D58, hq56, h⟩ := cq_i h
    refine r_cV (st' := [.int r57, .int (x1 + (1 : Int32)), .ref a0]) [.int x1] [.int (x1 + (1 : Int32)), .ref a0] hC hw kc_3 hi54 (k_X4_distance _ hi54 hq56) mk_X4_distance lk_1023 ⟨Nat.le_trans (by decide) hR.1, Nat.le_trans (by decide) hR.2⟩ ⟨Nat.zero_le _, Nat.zero_le _⟩ rfl hl.1 rfl rfl (Nat.le_of_ble_eq_true rfl) dX1_doJump_74 (fun hP H locs hw => ?_)
    refine lv_iadd hx hb dX1_doJump_77 ?_
    refine lv_goto (tgt := 84) hx hb dX1_doJump_78 (by decide) ?_
    exact w_X1_doJump_84 hC hR o0 a0 ((x1 + (1 : Int32)) + r57) _ _ _ _ hi0 hw (lv_sub hl [] rfl) h
set_option maxHeartbeats 4000000 in
set_option maxRecDepth 100000 in
theorem w_X1_doJump_55 {r : Int32} {D' : dt} (hC : Cx RX1 cX1_doJump 4 (some .int) p s m args meth c) (hR : 2 ≤ R.frames ∧ 53 ≤ R.locals) : ∀ (o0 a0 : Nat) (x1 : Int32) (D : dt) (H : Heap) (locs : List Loc) (ls : Array Slot), Is S ad o0 a0 1 → Wd G cA S D ad A s H locs → lv_has ls 4 [(0, .ref a0), (1, .int x1)] → f_X1_doJump_55 S o0 x1 D = some (r, D') → W p l e R s m args below meth c H locs 0 0 (MQ below (Qn (some (.int r)) True (wpost G cA S D' ad A) A) args s 0 0 A) (F0 m 55 ls []) := by
  obtain ⟨hx, hb, -⟩ := id hC
  intro o0 a0 x1 D H locs ls hi0 hw hl h
  unfold f_X1_doJump_55 at h
  refine lv_iconst (v := 1) hx hb dX1_doJump_55 (by decide) ?_
  refine lv_goto (tgt := 60) hx hb dX1_doJump_56 (by decide) ?_
  exact w_X1_doJump_60 hC hR o0 a0 x1 (1 : Int32) _ _ _ _ hi0 hw (lv_sub hl [0, 1] rfl) h
set_option maxHeartbeats 4000000 in
set_option maxRecDepth 100000 in
theorem w_X1_doJump_0 {r : Int32} {D' : dt} (hC : Cx RX1 cX1_doJump 4 (some .int) p s m args meth c) (hR : 2 ≤ R.frames ∧ 53 ≤ R.locals) : ∀ (o0 a0 : Nat) (x1 : Int32) (D : dt) (H : Heap) (locs : List Loc) (ls : Array Slot), Is S ad o0 a0 1 → Wd G cA S D ad A s H locs → lv_has ls 4 [(0, .ref a0), (1, .int x1)] → f_X1_doJump S o0 x1 D = some (r, D') → W p l e R s m args below meth c H locs 0 0 (MQ below (Qn (some (.int r)) True (wpost G cA S D' ad A) A) args s 0 0 A) (F0 m 0 ls []) := by
  obtain ⟨hx, hb, -⟩ := id hC
  intro o0 a0 x1 D H locs ls hi0 hw hl h
  unfold f_X1_doJump at h
  refine lv_aload_n hx hb dX1_doJump_0 rfl (lv_at hl 0 rfl) ?_
  obtain ⟨o59, ho62, h⟩ := rq_i h
  refine r_getR hC hw kc_1 hi0 0 rfl lk_219 dX1_doJump_1 rfl ho62 (fun a60 hi61 => ?_)
  refine lv_iload_n hx hb dX1_doJump_4 rfl (lv_at hl 1 rfl) ?_
  obtain ⟨r64, D65, hq63, h⟩ := cq_i h
  refine r_cV (st' := [.int r64]) [.int x1] [] hC hw kc_3 hi61 (k_X4_code _ hi61 hq63) mk_X4_code lk_967 ⟨Nat.le_trans (by decide) hR.1, Nat.le_trans (by decide) hR.2⟩ ⟨Nat.zero_le _, Nat.zero_le _⟩ rfl hl.1 rfl rfl (Nat.le_of_ble_eq_true rfl) dX1_doJump_5 (fun hP H locs hw => ?_)
  refine lv_istore_n (lv' := [(2, .int r64), (0, .ref a0), (1, .int x1)]) hx hb dX1_doJump_8 rfl hl (by decide) rfl (fun ls hl => ?_)
  refine lv_iload_n hx hb dX1_doJump_9 rfl (lv_at hl 0 rfl) ?_
  refine lv_bipush (v := 9) hx hb dX1_doJump_10 (by decide) ?_
  refine lv_icmp_ne (tgt := 17) hx hb dX1_doJump_12 (by decide) (fun c66 => ?_) (fun c66 => ?_)
  · have h := i_no c66 h
    refine lv_iload_n hx hb dX1_doJump_17 rfl (lv_at hl 0 rfl) ?_
    refine lv_if_eq (tgt := 55) hx hb dX1_doJump_18 (by decide) (fun c67 => ?_) (fun c67 => ?_)
    · have h := i_yes c67 h
      exact w_X1_doJump_55 hC hR o0 a0 x1 _ _ _ _ hi0 hw (lv_sub hl [1, 2] rfl) h
    · have h := i_no c67 h
      refine lv_iload_n hx hb dX1_doJump_21 rfl (lv_at hl 0 rfl) ?_
      refine lv_aload_n hx hb dX1_doJump_22 rfl (lv_at hl 1 rfl) ?_
      obtain ⟨o68, ho71, h⟩ := rq_i h
      refine r_getR hC hw kc_1 hi0 0 rfl lk_219 dX1_doJump_23 rfl ho71 (fun a69 hi70 => ?_)
      refine lv_iload_n hx hb dX1_doJump_26 rfl (lv_at hl 2 rfl) ?_
      obtain ⟨r73, D74, hq72, h⟩ := cq_i h
      refine r_cV (st' := [.int r73, .int r64]) [.int x1] [.int r64] hC hw kc_3 hi70 (k_X4_isWide _ hi70 hq72) mk_X4_isWide lk_968 ⟨Nat.le_trans (by decide) hR.1, Nat.le_trans (by decide) hR.2⟩ ⟨Nat.zero_le _, Nat.zero_le _⟩ rfl hl.1 rfl rfl (Nat.le_of_ble_eq_true rfl) dX1_doJump_27 (fun hP H locs hw => ?_)
      refine lv_aload_n hx hb dX1_doJump_30 rfl (lv_at hl 1 rfl) ?_
      obtain ⟨o75, ho78, h⟩ := rq_i h
      refine r_getR hC hw kc_1 hi0 2 rfl lk_221 dX1_doJump_31 rfl ho78 (fun a76 hi77 => ?_)
      refine lv_aload_n hx hb dX1_doJump_34 rfl (lv_at hl 1 rfl) ?_
      obtain ⟨o79, ho82, h⟩ := rq_i h
      refine r_getR hC hw kc_1 hi0 0 rfl lk_219 dX1_doJump_35 rfl ho82 (fun a80 hi81 => ?_)
      obtain ⟨o83, ho86, h⟩ := rq_i h
      refine r_getR hC hw kc_3 hi81 1 rfl lk_145 dX1_doJump_38 rfl ho86 (fun a84 hi85 => ?_)
      refine lv_iload_n hx hb dX1_doJump_41 rfl (lv_at hl 2 rfl) ?_
      obtain ⟨hn87, h⟩ := ix_i h
      refine r_iald hC hw hi85 hn87 dX1_doJump_42 ?_
      obtain ⟨hn88, h⟩ := ix_i h
      refine r_lald hC hw hi77 hn88 dX1_doJump_43 ?_
      refine lv_aload_n hx hb dX1_doJump_44 rfl (lv_at hl 1 rfl) ?_
      refine lv_iload_n hx hb dX1_doJump_45 rfl (lv_at hl 2 rfl) ?_
      obtain ⟨r90, D91, hq89, h⟩ := cq_i h
      refine r_cV (st' := [.long r90, .long (gL D74 o75 (gI D74 o83 x1.toNatClampNeg).toNatClampNeg), .int r73, .int r64]) [.int x1] [.long (gL D74 o75 (gI D74 o83 x1.toNatClampNeg).toNatClampNeg), .int r73, .int r64] hC hw kc_1 hi0 (k_X1_x _ hi0 hq89) mk_X1_x lk_971 ⟨Nat.le_trans (by decide) hR.1, Nat.le_trans (by decide) hR.2⟩ ⟨Nat.zero_le _, Nat.zero_le _⟩ rfl hl.1 rfl rfl (Nat.le_of_ble_eq_true rfl) dX1_doJump_46 (fun hP H locs hw => ?_)
      obtain ⟨r93, hq92, h⟩ := pq_i h
      refine r_cS (st' := [.int r93]) [.int r64, .int r73, .long (gL D74 o75 (gI D74 o83 x1.toNatClampNeg).toNatClampNeg), .long r90] [] hC hw (k_X3_holds _ hq92) mk_X3_holds lk_1016 ⟨Nat.le_trans (by decide) hR.1, Nat.le_trans (by decide) hR.2⟩ ⟨Nat.zero_le _, Nat.zero_le _⟩ rfl hl.1 rfl rfl (Nat.le_of_ble_eq_true rfl) dX1_doJump_49 (fun hP H locs hw => ?_)
      refine lv_if_eq (tgt := 59) hx hb dX1_doJump_52 (by decide) (fun c94 => ?_) (fun c94 => ?_)
      · have h := i_yes c94 h
        refine lv_iconst (v := 0) hx hb dX1_doJump_59 (by decide) ?_
        exact w_X1_doJump_60 hC hR o0 a0 x1 (0 : Int32) _ _ _ _ hi0 hw (lv_sub hl [1, 2] rfl) h
      · have h := i_no c94 h
        exact w_X1_doJump_55 hC hR o0 a0 x1 _ _ _ _ hi0 hw (lv_sub hl [1, 2] rfl) h
  · have h := i_yes c66 h
    refine lv_iconst (v := 2) hx hb dX1_doJump_15 (by decide) ?_
    cases h
    exact r_iret hC hw dX1_doJump_16
set_option maxHeartbeats 4000000 in
set_option maxRecDepth 100000 in
theorem k_X1_doJump {l : Launch} {G : va_G} {cA : Nat → ClassId} {S : sh} {D D' : dt} {ad : Nat → Nat} (sz : Nat) {o0 a0 : Nat} {x1 : Int32} {r : Int32} (hi0 : Is S ad o0 a0 1) (h : f_X1_doJump S o0 x1 D = some (r, D')) : Co l yX1_doJump (Cond.code yX1_doJump cX1_doJump 4 (some .int) :: tb0) 2 53 [.ref a0, .int x1] G cA S D ad sz (some (.int r)) True D' := by
  refine Met.ofW (cc := cX1_doJump) (maxL := 4) (ret := (some .int)) (by decide) rfl ?_
  intro p e s m args below meth c s₁ B hml hv
  obtain ⟨rfl, hsz, hP, hK, hD0, hT, hX⟩ := hv
  subst hsz
  have hts := atoms_spec (ws := Cond.code yX1_doJump cX1_doJump 4 (some .int) :: tb0) B.pre
  have hC : Cx RX1 cX1_doJump 4 (some .int) p s m _ meth c := ⟨B.exec, B.bytes, hml, findClass_of_methodNamed B.named, fun w q => hts w (List.mem_cons_of_mem _ q), B.returns, B.notSynchronized⟩
  have hw := Wd.entry hP hK hD0 hT hX
  have hl := lv_entry ([.ref a0, .int x1]) (n := 4) (Nat.le_of_ble_eq_true rfl)
  rw [lg_entry_eq]
  exact w_X1_doJump_0 hC ⟨Nat.le_refl _, Nat.le_refl _⟩ o0 a0 x1 D _ _ _ hi0 hw hl h
end
