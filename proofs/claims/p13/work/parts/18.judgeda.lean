theorem dX8_init_0 : decode cX8_init 0 = .ok (.aload_n 0, 1) := by decide +kernel
theorem dX8_init_1 : decode cX8_init 1 = .ok (.invokespecial 1, 3) := by decide +kernel
theorem dX8_init_4 : decode cX8_init 4 = .ok (.aload_n 0, 1) := by decide +kernel
theorem dX8_init_5 : decode cX8_init 5 = .ok (.new 7, 3) := by decide +kernel
theorem dX8_init_8 : decode cX8_init 8 = .ok (.dup, 1) := by decide +kernel
theorem dX8_init_9 : decode cX8_init 9 = .ok (.invokespecial 9, 3) := by decide +kernel
theorem dX8_init_12 : decode cX8_init 12 = .ok (.putfield 10, 3) := by decide +kernel
theorem dX8_init_15 : decode cX8_init 15 = .ok (.aload_n 0, 1) := by decide +kernel
theorem dX8_init_16 : decode cX8_init 16 = .ok (.new 16, 3) := by decide +kernel
theorem dX8_init_19 : decode cX8_init 19 = .ok (.dup, 1) := by decide +kernel
theorem dX8_init_20 : decode cX8_init 20 = .ok (.invokespecial 18, 3) := by decide +kernel
theorem dX8_init_23 : decode cX8_init 23 = .ok (.putfield 19, 3) := by decide +kernel
theorem dX8_init_26 : decode cX8_init 26 = .ok (.aload_n 0, 1) := by decide +kernel
theorem dX8_init_27 : decode cX8_init 27 = .ok (.new 23, 3) := by decide +kernel
theorem dX8_init_30 : decode cX8_init 30 = .ok (.dup, 1) := by decide +kernel
theorem dX8_init_31 : decode cX8_init 31 = .ok (.aload_n 0, 1) := by decide +kernel
theorem dX8_init_32 : decode cX8_init 32 = .ok (.getfield 10, 3) := by decide +kernel
theorem dX8_init_35 : decode cX8_init 35 = .ok (.aload_n 0, 1) := by decide +kernel
theorem dX8_init_36 : decode cX8_init 36 = .ok (.getfield 19, 3) := by decide +kernel
theorem dX8_init_39 : decode cX8_init 39 = .ok (.invokespecial 25, 3) := by decide +kernel
theorem dX8_init_42 : decode cX8_init 42 = .ok (.putfield 28, 3) := by decide +kernel
theorem dX8_init_45 : decode cX8_init 45 = .ok (.aload_n 0, 1) := by decide +kernel
theorem dX8_init_46 : decode cX8_init 46 = .ok (.new 32, 3) := by decide +kernel
theorem dX8_init_49 : decode cX8_init 49 = .ok (.dup, 1) := by decide +kernel
theorem dX8_init_50 : decode cX8_init 50 = .ok (.aload_n 0, 1) := by decide +kernel
theorem dX8_init_51 : decode cX8_init 51 = .ok (.getfield 10, 3) := by decide +kernel
theorem dX8_init_54 : decode cX8_init 54 = .ok (.aload_n 0, 1) := by decide +kernel
theorem dX8_init_55 : decode cX8_init 55 = .ok (.getfield 19, 3) := by decide +kernel
theorem dX8_init_58 : decode cX8_init 58 = .ok (.invokespecial 34, 3) := by decide +kernel
theorem dX8_init_61 : decode cX8_init 61 = .ok (.putfield 35, 3) := by decide +kernel
theorem dX8_init_64 : decode cX8_init 64 = .ok (.return_, 1) := by decide +kernel
theorem dX8_fitsSlot_0 : decode cX8_fitsSlot 0 = .ok (.iload_n 0, 1) := by decide +kernel
theorem dX8_fitsSlot_1 : decode cX8_fitsSlot 1 = .ok (.ifCond .lt 39, 3) := by decide +kernel
theorem dX8_fitsSlot_4 : decode cX8_fitsSlot 4 = .ok (.iload_n 0, 1) := by decide +kernel
theorem dX8_fitsSlot_5 : decode cX8_fitsSlot 5 = .ok (.sipush 255, 3) := by decide +kernel
theorem dX8_fitsSlot_8 : decode cX8_fitsSlot 8 = .ok (.if_icmp .gt 32, 3) := by decide +kernel
theorem dX8_fitsSlot_11 : decode cX8_fitsSlot 11 = .ok (.iload_n 1, 1) := by decide +kernel
theorem dX8_fitsSlot_12 : decode cX8_fitsSlot 12 = .ok (.ifCond .lt 28, 3) := by decide +kernel
theorem dX8_fitsSlot_15 : decode cX8_fitsSlot 15 = .ok (.iload_n 1, 1) := by decide +kernel
theorem dX8_fitsSlot_16 : decode cX8_fitsSlot 16 = .ok (.sipush 255, 3) := by decide +kernel
theorem dX8_fitsSlot_19 : decode cX8_fitsSlot 19 = .ok (.if_icmp .gt 21, 3) := by decide +kernel
theorem dX8_fitsSlot_22 : decode cX8_fitsSlot 22 = .ok (.iload_n 2, 1) := by decide +kernel
theorem dX8_fitsSlot_23 : decode cX8_fitsSlot 23 = .ok (.sipush (-32768), 3) := by decide +kernel
theorem dX8_fitsSlot_26 : decode cX8_fitsSlot 26 = .ok (.if_icmp .lt 14, 3) := by decide +kernel
theorem dX8_fitsSlot_29 : decode cX8_fitsSlot 29 = .ok (.iload_n 2, 1) := by decide +kernel
theorem dX8_fitsSlot_30 : decode cX8_fitsSlot 30 = .ok (.sipush 32767, 3) := by decide +kernel
theorem dX8_fitsSlot_33 : decode cX8_fitsSlot 33 = .ok (.if_icmp .gt 7, 3) := by decide +kernel
theorem dX8_fitsSlot_36 : decode cX8_fitsSlot 36 = .ok (.iconst 1, 1) := by decide +kernel
theorem dX8_fitsSlot_37 : decode cX8_fitsSlot 37 = .ok (.goto 4, 3) := by decide +kernel
theorem dX8_fitsSlot_40 : decode cX8_fitsSlot 40 = .ok (.iconst 0, 1) := by decide +kernel
theorem dX8_fitsSlot_41 : decode cX8_fitsSlot 41 = .ok (.ireturn, 1) := by decide +kernel
theorem dX8_feed_0 : decode cX8_feed 0 = .ok (.iload_n 1, 1) := by decide +kernel
theorem dX8_feed_1 : decode cX8_feed 1 = .ok (.iload_n 2, 1) := by decide +kernel
theorem dX8_feed_2 : decode cX8_feed 2 = .ok (.iload_n 3, 1) := by decide +kernel
theorem dX8_feed_3 : decode cX8_feed 3 = .ok (.invokestatic 39, 3) := by decide +kernel
theorem dX8_feed_6 : decode cX8_feed 6 = .ok (.ifCond .ne 6, 3) := by decide +kernel
theorem dX8_feed_9 : decode cX8_feed 9 = .ok (.bipush (-2), 2) := by decide +kernel
theorem dX8_feed_11 : decode cX8_feed 11 = .ok (.ireturn, 1) := by decide +kernel
theorem dX8_feed_12 : decode cX8_feed 12 = .ok (.aload_n 0, 1) := by decide +kernel
theorem dX8_feed_13 : decode cX8_feed 13 = .ok (.getfield 10, 3) := by decide +kernel
theorem dX8_feed_16 : decode cX8_feed 16 = .ok (.getfield 43, 3) := by decide +kernel
theorem dX8_feed_19 : decode cX8_feed 19 = .ok (.sipush 200, 3) := by decide +kernel
theorem dX8_feed_22 : decode cX8_feed 22 = .ok (.if_icmp .lt 6, 3) := by decide +kernel
theorem dX8_feed_25 : decode cX8_feed 25 = .ok (.bipush (-4), 2) := by decide +kernel
theorem dX8_feed_27 : decode cX8_feed 27 = .ok (.ireturn, 1) := by decide +kernel
theorem dX8_feed_28 : decode cX8_feed 28 = .ok (.aload_n 0, 1) := by decide +kernel
theorem dX8_feed_29 : decode cX8_feed 29 = .ok (.getfield 10, 3) := by decide +kernel
theorem dX8_feed_32 : decode cX8_feed 32 = .ok (.getfield 43, 3) := by decide +kernel
theorem dX8_feed_35 : decode cX8_feed 35 = .ok (.istore 5, 2) := by decide +kernel
theorem dX8_feed_37 : decode cX8_feed 37 = .ok (.aload_n 0, 1) := by decide +kernel
theorem dX8_feed_38 : decode cX8_feed 38 = .ok (.getfield 10, 3) := by decide +kernel
theorem dX8_feed_41 : decode cX8_feed 41 = .ok (.iload 5, 2) := by decide +kernel
theorem dX8_feed_43 : decode cX8_feed 43 = .ok (.iconst 1, 1) := by decide +kernel
theorem dX8_feed_44 : decode cX8_feed 44 = .ok (.iadd, 1) := by decide +kernel
theorem dX8_feed_45 : decode cX8_feed 45 = .ok (.putfield 43, 3) := by decide +kernel
theorem dX8_feed_48 : decode cX8_feed 48 = .ok (.aload_n 0, 1) := by decide +kernel
theorem dX8_feed_49 : decode cX8_feed 49 = .ok (.getfield 10, 3) := by decide +kernel
theorem dX8_feed_52 : decode cX8_feed 52 = .ok (.iload 5, 2) := by decide +kernel
theorem dX8_feed_54 : decode cX8_feed 54 = .ok (.iload_n 1, 1) := by decide +kernel
theorem dX8_feed_55 : decode cX8_feed 55 = .ok (.iload_n 2, 1) := by decide +kernel
theorem dX8_feed_56 : decode cX8_feed 56 = .ok (.iload_n 3, 1) := by decide +kernel
theorem dX8_feed_57 : decode cX8_feed 57 = .ok (.iload 4, 2) := by decide +kernel
theorem dX8_feed_59 : decode cX8_feed 59 = .ok (.invokevirtual 47, 3) := by decide +kernel
theorem dX8_feed_62 : decode cX8_feed 62 = .ok (.aload_n 0, 1) := by decide +kernel
theorem dX8_feed_63 : decode cX8_feed 63 = .ok (.getfield 28, 3) := by decide +kernel
theorem dX8_feed_66 : decode cX8_feed 66 = .ok (.iconst 0, 1) := by decide +kernel
theorem dX8_feed_67 : decode cX8_feed 67 = .ok (.putfield 51, 3) := by decide +kernel
theorem dX8_feed_70 : decode cX8_feed 70 = .ok (.iload 5, 2) := by decide +kernel
theorem dX8_feed_72 : decode cX8_feed 72 = .ok (.ireturn, 1) := by decide +kernel
theorem dX8_alter_0 : decode cX8_alter 0 = .ok (.aload_n 0, 1) := by decide +kernel
theorem dX8_alter_1 : decode cX8_alter 1 = .ok (.getfield 10, 3) := by decide +kernel
theorem dX8_alter_4 : decode cX8_alter 4 = .ok (.iload_n 1, 1) := by decide +kernel
theorem dX8_alter_5 : decode cX8_alter 5 = .ok (.invokevirtual 54, 3) := by decide +kernel
theorem dX8_alter_8 : decode cX8_alter 8 = .ok (.ifCond .ne 5, 3) := by decide +kernel
theorem dX8_alter_11 : decode cX8_alter 11 = .ok (.iconst (-1), 1) := by decide +kernel
theorem dX8_alter_12 : decode cX8_alter 12 = .ok (.ireturn, 1) := by decide +kernel
theorem dX8_alter_13 : decode cX8_alter 13 = .ok (.iload_n 2, 1) := by decide +kernel
theorem dX8_alter_14 : decode cX8_alter 14 = .ok (.iload_n 3, 1) := by decide +kernel
theorem dX8_alter_15 : decode cX8_alter 15 = .ok (.iload 4, 2) := by decide +kernel
theorem dX8_alter_17 : decode cX8_alter 17 = .ok (.invokestatic 39, 3) := by decide +kernel
theorem dX8_alter_20 : decode cX8_alter 20 = .ok (.ifCond .ne 6, 3) := by decide +kernel
theorem dX8_alter_23 : decode cX8_alter 23 = .ok (.bipush (-2), 2) := by decide +kernel
theorem dX8_alter_25 : decode cX8_alter 25 = .ok (.ireturn, 1) := by decide +kernel
theorem dX8_alter_26 : decode cX8_alter 26 = .ok (.aload_n 0, 1) := by decide +kernel
theorem dX8_alter_27 : decode cX8_alter 27 = .ok (.getfield 10, 3) := by decide +kernel
theorem dX8_alter_30 : decode cX8_alter 30 = .ok (.iload_n 1, 1) := by decide +kernel
theorem dX8_alter_31 : decode cX8_alter 31 = .ok (.iload_n 2, 1) := by decide +kernel
theorem dX8_alter_32 : decode cX8_alter 32 = .ok (.iload_n 3, 1) := by decide +kernel
theorem dX8_alter_33 : decode cX8_alter 33 = .ok (.iload 4, 2) := by decide +kernel
theorem dX8_alter_35 : decode cX8_alter 35 = .ok (.iload 5, 2) := by decide +kernel
theorem dX8_alter_37 : decode cX8_alter 37 = .ok (.invokevirtual 47, 3) := by decide +kernel
theorem dX8_alter_40 : decode cX8_alter 40 = .ok (.aload_n 0, 1) := by decide +kernel
theorem dX8_alter_41 : decode cX8_alter 41 = .ok (.getfield 28, 3) := by decide +kernel
theorem dX8_alter_44 : decode cX8_alter 44 = .ok (.iconst 0, 1) := by decide +kernel
theorem dX8_alter_45 : decode cX8_alter 45 = .ok (.putfield 51, 3) := by decide +kernel
theorem dX8_alter_48 : decode cX8_alter 48 = .ok (.iconst 1, 1) := by decide +kernel
theorem dX8_alter_49 : decode cX8_alter 49 = .ok (.ireturn, 1) := by decide +kernel
theorem dX8_cut_0 : decode cX8_cut 0 = .ok (.aload_n 0, 1) := by decide +kernel
theorem dX8_cut_1 : decode cX8_cut 1 = .ok (.getfield 10, 3) := by decide +kernel
theorem dX8_cut_4 : decode cX8_cut 4 = .ok (.getfield 43, 3) := by decide +kernel
theorem dX8_cut_7 : decode cX8_cut 7 = .ok (.istore_n 2, 1) := by decide +kernel
theorem dX8_cut_8 : decode cX8_cut 8 = .ok (.iload_n 1, 1) := by decide +kernel
theorem dX8_cut_9 : decode cX8_cut 9 = .ok (.ifCond .lt 8, 3) := by decide +kernel
theorem dX8_cut_12 : decode cX8_cut 12 = .ok (.iload_n 1, 1) := by decide +kernel
theorem dX8_cut_13 : decode cX8_cut 13 = .ok (.iload_n 2, 1) := by decide +kernel
theorem dX8_cut_14 : decode cX8_cut 14 = .ok (.if_icmp .le 6, 3) := by decide +kernel
theorem dX8_cut_17 : decode cX8_cut 17 = .ok (.bipush (-2), 2) := by decide +kernel
theorem dX8_cut_19 : decode cX8_cut 19 = .ok (.ireturn, 1) := by decide +kernel
theorem dX8_cut_20 : decode cX8_cut 20 = .ok (.aload_n 0, 1) := by decide +kernel
theorem dX8_cut_21 : decode cX8_cut 21 = .ok (.getfield 10, 3) := by decide +kernel
theorem dX8_cut_24 : decode cX8_cut 24 = .ok (.iload_n 1, 1) := by decide +kernel
theorem dX8_cut_25 : decode cX8_cut 25 = .ok (.putfield 43, 3) := by decide +kernel
theorem dX8_cut_28 : decode cX8_cut 28 = .ok (.aload_n 0, 1) := by decide +kernel
theorem dX8_cut_29 : decode cX8_cut 29 = .ok (.getfield 28, 3) := by decide +kernel
theorem dX8_cut_32 : decode cX8_cut 32 = .ok (.iconst 0, 1) := by decide +kernel
theorem dX8_cut_33 : decode cX8_cut 33 = .ok (.putfield 51, 3) := by decide +kernel
theorem dX8_cut_36 : decode cX8_cut 36 = .ok (.iload_n 2, 1) := by decide +kernel
theorem dX8_cut_37 : decode cX8_cut 37 = .ok (.ireturn, 1) := by decide +kernel
theorem dX8_table_0 : decode cX8_table 0 = .ok (.iload_n 1, 1) := by decide +kernel
theorem dX8_table_1 : decode cX8_table 1 = .ok (.ifCond .eq 8, 3) := by decide +kernel
theorem dX8_table_4 : decode cX8_table 4 = .ok (.iload_n 1, 1) := by decide +kernel
theorem dX8_table_5 : decode cX8_table 5 = .ok (.iconst 1, 1) := by decide +kernel
theorem dX8_table_6 : decode cX8_table 6 = .ok (.if_icmp .ne 27, 3) := by decide +kernel
theorem dX8_table_9 : decode cX8_table 9 = .ok (.iload_n 3, 1) := by decide +kernel
theorem dX8_table_10 : decode cX8_table 10 = .ok (.iconst 1, 1) := by decide +kernel
theorem dX8_table_11 : decode cX8_table 11 = .ok (.if_icmp .lt 22, 3) := by decide +kernel
theorem dX8_table_14 : decode cX8_table 14 = .ok (.iload_n 3, 1) := by decide +kernel
theorem dX8_table_15 : decode cX8_table 15 = .ok (.bipush 32, 2) := by decide +kernel
theorem dX8_table_17 : decode cX8_table 17 = .ok (.if_icmp .gt 16, 3) := by decide +kernel
theorem dX8_table_20 : decode cX8_table 20 = .ok (.iload 4, 2) := by decide +kernel
theorem dX8_table_22 : decode cX8_table 22 = .ok (.iconst 1, 1) := by decide +kernel
theorem dX8_table_23 : decode cX8_table 23 = .ok (.if_icmp .lt 10, 3) := by decide +kernel
theorem dX8_table_26 : decode cX8_table 26 = .ok (.iload 4, 2) := by decide +kernel
theorem dX8_table_28 : decode cX8_table 28 = .ok (.bipush 32, 2) := by decide +kernel
theorem dX8_table_30 : decode cX8_table 30 = .ok (.if_icmp .le 6, 3) := by decide +kernel
theorem dX8_table_33 : decode cX8_table 33 = .ok (.bipush (-2), 2) := by decide +kernel
theorem dX8_table_35 : decode cX8_table 35 = .ok (.ireturn, 1) := by decide +kernel
theorem dX8_table_36 : decode cX8_table 36 = .ok (.iload_n 1, 1) := by decide +kernel
theorem dX8_table_37 : decode cX8_table 37 = .ok (.ifCond .ne 8, 3) := by decide +kernel
theorem dX8_table_40 : decode cX8_table 40 = .ok (.iload_n 2, 1) := by decide +kernel
theorem dX8_table_41 : decode cX8_table 41 = .ok (.iconst 4, 1) := by decide +kernel
theorem dX8_table_42 : decode cX8_table 42 = .ok (.if_icmp .ne 14, 3) := by decide +kernel
theorem dX8_table_45 : decode cX8_table 45 = .ok (.iload_n 2, 1) := by decide +kernel
theorem dX8_table_46 : decode cX8_table 46 = .ok (.iconst 1, 1) := by decide +kernel
theorem dX8_table_47 : decode cX8_table 47 = .ok (.if_icmp .lt 9, 3) := by decide +kernel
theorem dX8_table_50 : decode cX8_table 50 = .ok (.iload_n 2, 1) := by decide +kernel
theorem dX8_table_51 : decode cX8_table 51 = .ok (.bipush 8, 2) := by decide +kernel
theorem dX8_table_53 : decode cX8_table 53 = .ok (.if_icmp .le 6, 3) := by decide +kernel
theorem dX8_table_56 : decode cX8_table 56 = .ok (.bipush (-2), 2) := by decide +kernel
theorem dX8_table_58 : decode cX8_table 58 = .ok (.ireturn, 1) := by decide +kernel
theorem dX8_table_59 : decode cX8_table 59 = .ok (.aload_n 0, 1) := by decide +kernel
theorem dX8_table_60 : decode cX8_table 60 = .ok (.getfield 19, 3) := by decide +kernel
theorem dX8_table_63 : decode cX8_table 63 = .ok (.getfield 58, 3) := by decide +kernel
theorem dX8_table_66 : decode cX8_table 66 = .ok (.iconst 4, 1) := by decide +kernel
theorem dX8_table_67 : decode cX8_table 67 = .ok (.if_icmp .lt 6, 3) := by decide +kernel
theorem dX8_table_70 : decode cX8_table 70 = .ok (.bipush (-4), 2) := by decide +kernel
theorem dX8_table_72 : decode cX8_table 72 = .ok (.ireturn, 1) := by decide +kernel
theorem dX8_table_73 : decode cX8_table 73 = .ok (.aload_n 0, 1) := by decide +kernel
theorem dX8_table_74 : decode cX8_table 74 = .ok (.getfield 19, 3) := by decide +kernel
theorem dX8_table_77 : decode cX8_table 77 = .ok (.new 61, 3) := by decide +kernel
theorem dX8_table_80 : decode cX8_table 80 = .ok (.dup, 1) := by decide +kernel
theorem dX8_table_81 : decode cX8_table 81 = .ok (.iload_n 1, 1) := by decide +kernel
theorem dX8_table_82 : decode cX8_table 82 = .ok (.ifCond .ne 7, 3) := by decide +kernel
theorem dX8_table_85 : decode cX8_table 85 = .ok (.iconst 1, 1) := by decide +kernel
theorem dX8_table_86 : decode cX8_table 86 = .ok (.goto 4, 3) := by decide +kernel
theorem dX8_table_89 : decode cX8_table 89 = .ok (.iconst 0, 1) := by decide +kernel
theorem dX8_table_90 : decode cX8_table 90 = .ok (.iload_n 2, 1) := by decide +kernel
theorem dX8_table_91 : decode cX8_table 91 = .ok (.iload_n 3, 1) := by decide +kernel
theorem dX8_table_92 : decode cX8_table 92 = .ok (.iload 4, 2) := by decide +kernel
theorem dX8_table_94 : decode cX8_table 94 = .ok (.invokespecial 63, 3) := by decide +kernel
theorem dX8_table_97 : decode cX8_table 97 = .ok (.invokevirtual 66, 3) := by decide +kernel
theorem dX8_table_100 : decode cX8_table 100 = .ok (.ireturn, 1) := by decide +kernel
theorem dX8_context_0 : decode cX8_context 0 = .ok (.iload_n 1, 1) := by decide +kernel
theorem dX8_context_1 : decode cX8_context 1 = .ok (.ifCond .lt 10, 3) := by decide +kernel
theorem dX8_context_4 : decode cX8_context 4 = .ok (.iload_n 1, 1) := by decide +kernel
theorem dX8_context_5 : decode cX8_context 5 = .ok (.sipush 256, 3) := by decide +kernel
theorem dX8_context_8 : decode cX8_context 8 = .ok (.if_icmp .le 6, 3) := by decide +kernel
theorem dX8_context_11 : decode cX8_context 11 = .ok (.bipush (-2), 2) := by decide +kernel
theorem dX8_context_13 : decode cX8_context 13 = .ok (.ireturn, 1) := by decide +kernel
theorem dX8_context_14 : decode cX8_context 14 = .ok (.aload_n 0, 1) := by decide +kernel
theorem dX8_context_15 : decode cX8_context 15 = .ok (.getfield 28, 3) := by decide +kernel
theorem dX8_context_18 : decode cX8_context 18 = .ok (.getfield 51, 3) := by decide +kernel
theorem dX8_context_21 : decode cX8_context 21 = .ok (.iconst 1, 1) := by decide +kernel
theorem dX8_context_22 : decode cX8_context 22 = .ok (.if_icmp .ne 6, 3) := by decide +kernel
theorem dX8_context_25 : decode cX8_context 25 = .ok (.bipush (-3), 2) := by decide +kernel
theorem dX8_context_27 : decode cX8_context 27 = .ok (.ireturn, 1) := by decide +kernel
theorem dX8_context_28 : decode cX8_context 28 = .ok (.aload_n 0, 1) := by decide +kernel
theorem dX8_context_29 : decode cX8_context 29 = .ok (.getfield 19, 3) := by decide +kernel
theorem dX8_context_32 : decode cX8_context 32 = .ok (.iload_n 1, 1) := by decide +kernel
theorem dX8_context_33 : decode cX8_context 33 = .ok (.invokevirtual 70, 3) := by decide +kernel
theorem dX8_context_36 : decode cX8_context 36 = .ok (.ireturn, 1) := by decide +kernel
theorem dX8_poke_0 : decode cX8_poke 0 = .ok (.iload_n 1, 1) := by decide +kernel
theorem dX8_poke_1 : decode cX8_poke 1 = .ok (.ifCond .lt 14, 3) := by decide +kernel
theorem dX8_poke_4 : decode cX8_poke 4 = .ok (.iload_n 1, 1) := by decide +kernel
theorem dX8_poke_5 : decode cX8_poke 5 = .ok (.aload_n 0, 1) := by decide +kernel
theorem dX8_poke_6 : decode cX8_poke 6 = .ok (.getfield 19, 3) := by decide +kernel
theorem dX8_poke_9 : decode cX8_poke 9 = .ok (.getfield 74, 3) := by decide +kernel
theorem dX8_poke_12 : decode cX8_poke 12 = .ok (.if_icmp .lt 5, 3) := by decide +kernel
theorem dX8_poke_15 : decode cX8_poke 15 = .ok (.iconst (-1), 1) := by decide +kernel
theorem dX8_poke_16 : decode cX8_poke 16 = .ok (.ireturn, 1) := by decide +kernel
theorem dX8_poke_17 : decode cX8_poke 17 = .ok (.iload_n 2, 1) := by decide +kernel
theorem dX8_poke_18 : decode cX8_poke 18 = .ok (.ifCond .lt 10, 3) := by decide +kernel
theorem dX8_poke_21 : decode cX8_poke 21 = .ok (.iload_n 2, 1) := by decide +kernel
theorem dX8_poke_22 : decode cX8_poke 22 = .ok (.sipush 255, 3) := by decide +kernel
theorem dX8_poke_25 : decode cX8_poke 25 = .ok (.if_icmp .le 6, 3) := by decide +kernel
theorem dX8_poke_28 : decode cX8_poke 28 = .ok (.bipush (-2), 2) := by decide +kernel
theorem dX8_poke_30 : decode cX8_poke 30 = .ok (.ireturn, 1) := by decide +kernel
theorem dX8_poke_31 : decode cX8_poke 31 = .ok (.aload_n 0, 1) := by decide +kernel
theorem dX8_poke_32 : decode cX8_poke 32 = .ok (.getfield 28, 3) := by decide +kernel
theorem dX8_poke_35 : decode cX8_poke 35 = .ok (.getfield 51, 3) := by decide +kernel
theorem dX8_poke_38 : decode cX8_poke 38 = .ok (.iconst 1, 1) := by decide +kernel
theorem dX8_poke_39 : decode cX8_poke 39 = .ok (.if_icmp .ne 6, 3) := by decide +kernel
theorem dX8_poke_42 : decode cX8_poke 42 = .ok (.bipush (-3), 2) := by decide +kernel
theorem dX8_poke_44 : decode cX8_poke 44 = .ok (.ireturn, 1) := by decide +kernel
theorem dX8_poke_45 : decode cX8_poke 45 = .ok (.aload_n 0, 1) := by decide +kernel
theorem dX8_poke_46 : decode cX8_poke 46 = .ok (.getfield 19, 3) := by decide +kernel
theorem dX8_poke_49 : decode cX8_poke 49 = .ok (.getfield 77, 3) := by decide +kernel
theorem dX8_poke_52 : decode cX8_poke 52 = .ok (.iload_n 1, 1) := by decide +kernel
theorem dX8_poke_53 : decode cX8_poke 53 = .ok (.baload, 1) := by decide +kernel
theorem dX8_poke_54 : decode cX8_poke 54 = .ok (.sipush 255, 3) := by decide +kernel
theorem dX8_poke_57 : decode cX8_poke 57 = .ok (.iand, 1) := by decide +kernel
theorem dX8_poke_58 : decode cX8_poke 58 = .ok (.istore_n 3, 1) := by decide +kernel
theorem dX8_poke_59 : decode cX8_poke 59 = .ok (.aload_n 0, 1) := by decide +kernel
theorem dX8_poke_60 : decode cX8_poke 60 = .ok (.getfield 19, 3) := by decide +kernel
theorem dX8_poke_63 : decode cX8_poke 63 = .ok (.getfield 77, 3) := by decide +kernel
theorem dX8_poke_66 : decode cX8_poke 66 = .ok (.iload_n 1, 1) := by decide +kernel
theorem dX8_poke_67 : decode cX8_poke 67 = .ok (.iload_n 2, 1) := by decide +kernel
theorem dX8_poke_68 : decode cX8_poke 68 = .ok (.i2b, 1) := by decide +kernel
theorem dX8_poke_69 : decode cX8_poke 69 = .ok (.bastore, 1) := by decide +kernel
theorem dX8_poke_70 : decode cX8_poke 70 = .ok (.iload_n 3, 1) := by decide +kernel
theorem dX8_poke_71 : decode cX8_poke 71 = .ok (.ireturn, 1) := by decide +kernel
theorem dX8_tick_0 : decode cX8_tick 0 = .ok (.lload_n 1, 1) := by decide +kernel
theorem dX8_tick_1 : decode cX8_tick 1 = .ok (.lconst 0, 1) := by decide +kernel
theorem dX8_tick_2 : decode cX8_tick 2 = .ok (.lcmp, 1) := by decide +kernel
theorem dX8_tick_3 : decode cX8_tick 3 = .ok (.ifCond .lt 19, 3) := by decide +kernel
theorem dX8_tick_6 : decode cX8_tick 6 = .ok (.lload_n 1, 1) := by decide +kernel
theorem dX8_tick_7 : decode cX8_tick 7 = .ok (.ldc2_w 81, 3) := by decide +kernel
theorem dX8_tick_10 : decode cX8_tick 10 = .ok (.aload_n 0, 1) := by decide +kernel
theorem dX8_tick_11 : decode cX8_tick 11 = .ok (.getfield 19, 3) := by decide +kernel
theorem dX8_tick_14 : decode cX8_tick 14 = .ok (.getfield 83, 3) := by decide +kernel
theorem dX8_tick_17 : decode cX8_tick 17 = .ok (.lsub, 1) := by decide +kernel
theorem dX8_tick_18 : decode cX8_tick 18 = .ok (.lcmp, 1) := by decide +kernel
theorem dX8_tick_19 : decode cX8_tick 19 = .ok (.ifCond .le 7, 3) := by decide +kernel
theorem dX8_tick_22 : decode cX8_tick 22 = .ok (.ldc2_w 87, 3) := by decide +kernel
theorem dX8_tick_25 : decode cX8_tick 25 = .ok (.lreturn, 1) := by decide +kernel
theorem dX8_tick_26 : decode cX8_tick 26 = .ok (.aload_n 0, 1) := by decide +kernel
theorem dX8_tick_27 : decode cX8_tick 27 = .ok (.getfield 19, 3) := by decide +kernel
theorem dX8_tick_30 : decode cX8_tick 30 = .ok (.dup, 1) := by decide +kernel
theorem dX8_tick_31 : decode cX8_tick 31 = .ok (.getfield 83, 3) := by decide +kernel
theorem dX8_tick_34 : decode cX8_tick 34 = .ok (.lload_n 1, 1) := by decide +kernel
theorem dX8_tick_35 : decode cX8_tick 35 = .ok (.ladd, 1) := by decide +kernel
theorem dX8_tick_36 : decode cX8_tick 36 = .ok (.putfield 83, 3) := by decide +kernel
theorem dX8_tick_39 : decode cX8_tick 39 = .ok (.aload_n 0, 1) := by decide +kernel
theorem dX8_tick_40 : decode cX8_tick 40 = .ok (.getfield 19, 3) := by decide +kernel
theorem dX8_tick_43 : decode cX8_tick 43 = .ok (.getfield 83, 3) := by decide +kernel
theorem dX8_tick_46 : decode cX8_tick 46 = .ok (.lreturn, 1) := by decide +kernel
theorem dX8_judge_0 : decode cX8_judge 0 = .ok (.aload_n 0, 1) := by decide +kernel
theorem dX8_judge_1 : decode cX8_judge 1 = .ok (.getfield 35, 3) := by decide +kernel
theorem dX8_judge_4 : decode cX8_judge 4 = .ok (.invokevirtual 89, 3) := by decide +kernel
theorem dX8_judge_7 : decode cX8_judge 7 = .ok (.ireturn, 1) := by decide +kernel
theorem dX8_place_0 : decode cX8_place 0 = .ok (.aload_n 0, 1) := by decide +kernel
theorem dX8_place_1 : decode cX8_place 1 = .ok (.getfield 35, 3) := by decide +kernel
theorem dX8_place_4 : decode cX8_place 4 = .ok (.getfield 93, 3) := by decide +kernel
theorem dX8_place_7 : decode cX8_place 7 = .ok (.ireturn, 1) := by decide +kernel
theorem dX8_may_0 : decode cX8_may 0 = .ok (.aload_n 0, 1) := by decide +kernel
theorem dX8_may_1 : decode cX8_may 1 = .ok (.getfield 10, 3) := by decide +kernel
theorem dX8_may_4 : decode cX8_may 4 = .ok (.iload_n 1, 1) := by decide +kernel
theorem dX8_may_5 : decode cX8_may 5 = .ok (.invokevirtual 54, 3) := by decide +kernel
theorem dX8_may_8 : decode cX8_may 8 = .ok (.ifCond .eq 13, 3) := by decide +kernel
theorem dX8_may_11 : decode cX8_may 11 = .ok (.iload_n 2, 1) := by decide +kernel
theorem dX8_may_12 : decode cX8_may 12 = .ok (.ifCond .lt 9, 3) := by decide +kernel
theorem dX8_may_15 : decode cX8_may 15 = .ok (.iload_n 2, 1) := by decide +kernel
theorem dX8_may_16 : decode cX8_may 16 = .ok (.bipush 11, 2) := by decide +kernel
theorem dX8_may_18 : decode cX8_may 18 = .ok (.if_icmp .lt 7, 3) := by decide +kernel
theorem dX8_may_21 : decode cX8_may 21 = .ok (.ldc2_w 96, 3) := by decide +kernel
theorem dX8_may_24 : decode cX8_may 24 = .ok (.lreturn, 1) := by decide +kernel
theorem dX8_may_25 : decode cX8_may 25 = .ok (.iload_n 3, 1) := by decide +kernel
theorem dX8_may_26 : decode cX8_may 26 = .ok (.ifCond .lt 8, 3) := by decide +kernel
theorem dX8_may_29 : decode cX8_may 29 = .ok (.iload_n 3, 1) := by decide +kernel
theorem dX8_may_30 : decode cX8_may 30 = .ok (.iconst 4, 1) := by decide +kernel
theorem dX8_may_31 : decode cX8_may 31 = .ok (.if_icmp .le 7, 3) := by decide +kernel
theorem dX8_may_34 : decode cX8_may 34 = .ok (.ldc2_w 87, 3) := by decide +kernel
theorem dX8_may_37 : decode cX8_may 37 = .ok (.lreturn, 1) := by decide +kernel
theorem dX8_may_38 : decode cX8_may 38 = .ok (.aload_n 0, 1) := by decide +kernel
theorem dX8_may_39 : decode cX8_may 39 = .ok (.getfield 35, 3) := by decide +kernel
theorem dX8_may_42 : decode cX8_may 42 = .ok (.iload_n 1, 1) := by decide +kernel
theorem dX8_may_43 : decode cX8_may 43 = .ok (.invokevirtual 98, 3) := by decide +kernel
theorem dX8_may_46 : decode cX8_may 46 = .ok (.astore 4, 2) := by decide +kernel
theorem dX8_may_48 : decode cX8_may 48 = .ok (.aload 4, 2) := by decide +kernel
theorem dX8_may_50 : decode cX8_may 50 = .ok (.ifnonnull 7, 3) := by decide +kernel
theorem dX8_may_53 : decode cX8_may 53 = .ok (.lconst 0, 1) := by decide +kernel
theorem dX8_may_54 : decode cX8_may 54 = .ok (.goto 10, 3) := by decide +kernel
theorem dX8_may_57 : decode cX8_may 57 = .ok (.aload 4, 2) := by decide +kernel
theorem dX8_may_59 : decode cX8_may 59 = .ok (.iload_n 2, 1) := by decide +kernel
theorem dX8_may_60 : decode cX8_may 60 = .ok (.iload_n 3, 1) := by decide +kernel
theorem dX8_may_61 : decode cX8_may 61 = .ok (.invokevirtual 102, 3) := by decide +kernel
theorem dX8_may_64 : decode cX8_may 64 = .ok (.lreturn, 1) := by decide +kernel
theorem dX8_cell_0 : decode cX8_cell 0 = .ok (.aload_n 0, 1) := by decide +kernel
theorem dX8_cell_1 : decode cX8_cell 1 = .ok (.getfield 10, 3) := by decide +kernel
theorem dX8_cell_4 : decode cX8_cell 4 = .ok (.iload_n 1, 1) := by decide +kernel
theorem dX8_cell_5 : decode cX8_cell 5 = .ok (.invokevirtual 54, 3) := by decide +kernel
theorem dX8_cell_8 : decode cX8_cell 8 = .ok (.ifCond .eq 15, 3) := by decide +kernel
theorem dX8_cell_11 : decode cX8_cell 11 = .ok (.iload_n 2, 1) := by decide +kernel
theorem dX8_cell_12 : decode cX8_cell 12 = .ok (.sipush (-512), 3) := by decide +kernel
theorem dX8_cell_15 : decode cX8_cell 15 = .ok (.if_icmp .lt 8, 3) := by decide +kernel
theorem dX8_cell_18 : decode cX8_cell 18 = .ok (.iload_n 2, 1) := by decide +kernel
theorem dX8_cell_19 : decode cX8_cell 19 = .ok (.iconst (-1), 1) := by decide +kernel
theorem dX8_cell_20 : decode cX8_cell 20 = .ok (.if_icmp .le 5, 3) := by decide +kernel
theorem dX8_cell_23 : decode cX8_cell 23 = .ok (.iconst (-1), 1) := by decide +kernel
theorem dX8_cell_24 : decode cX8_cell 24 = .ok (.ireturn, 1) := by decide +kernel
theorem dX8_cell_25 : decode cX8_cell 25 = .ok (.aload_n 0, 1) := by decide +kernel
theorem dX8_cell_26 : decode cX8_cell 26 = .ok (.getfield 35, 3) := by decide +kernel
theorem dX8_cell_29 : decode cX8_cell 29 = .ok (.iload_n 1, 1) := by decide +kernel
theorem dX8_cell_30 : decode cX8_cell 30 = .ok (.invokevirtual 98, 3) := by decide +kernel
theorem dX8_cell_33 : decode cX8_cell 33 = .ok (.astore_n 3, 1) := by decide +kernel
theorem dX8_cell_34 : decode cX8_cell 34 = .ok (.aload_n 3, 1) := by decide +kernel
theorem dX8_cell_35 : decode cX8_cell 35 = .ok (.ifnonnull 7, 3) := by decide +kernel
theorem dX8_cell_38 : decode cX8_cell 38 = .ok (.iconst 0, 1) := by decide +kernel
theorem dX8_cell_39 : decode cX8_cell 39 = .ok (.goto 12, 3) := by decide +kernel
theorem dX8_cell_42 : decode cX8_cell 42 = .ok (.aload_n 3, 1) := by decide +kernel
theorem dX8_cell_43 : decode cX8_cell 43 = .ok (.iload_n 2, 1) := by decide +kernel
theorem dX8_cell_44 : decode cX8_cell 44 = .ok (.sipush 512, 3) := by decide +kernel
theorem dX8_cell_47 : decode cX8_cell 47 = .ok (.iadd, 1) := by decide +kernel
theorem dX8_cell_48 : decode cX8_cell 48 = .ok (.invokevirtual 108, 3) := by decide +kernel
theorem dX8_cell_51 : decode cX8_cell 51 = .ok (.ireturn, 1) := by decide +kernel
theorem dX8_start_0 : decode cX8_start 0 = .ok (.aload_n 0, 1) := by decide +kernel
theorem dX8_start_1 : decode cX8_start 1 = .ok (.getfield 10, 3) := by decide +kernel
theorem dX8_start_4 : decode cX8_start 4 = .ok (.getfield 43, 3) := by decide +kernel
theorem dX8_start_7 : decode cX8_start 7 = .ok (.ifCond .ne 6, 3) := by decide +kernel
theorem dX8_start_10 : decode cX8_start 10 = .ok (.bipush (-3), 2) := by decide +kernel
theorem dX8_start_12 : decode cX8_start 12 = .ok (.ireturn, 1) := by decide +kernel
theorem dX8_start_13 : decode cX8_start 13 = .ok (.aload_n 0, 1) := by decide +kernel
theorem dX8_start_14 : decode cX8_start 14 = .ok (.getfield 28, 3) := by decide +kernel
theorem dX8_start_17 : decode cX8_start 17 = .ok (.invokevirtual 111, 3) := by decide +kernel
theorem dX8_start_20 : decode cX8_start 20 = .ok (.iconst 1, 1) := by decide +kernel
theorem dX8_start_21 : decode cX8_start 21 = .ok (.ireturn, 1) := by decide +kernel
theorem dX8_step_0 : decode cX8_step 0 = .ok (.aload_n 0, 1) := by decide +kernel
theorem dX8_step_1 : decode cX8_step 1 = .ok (.getfield 28, 3) := by decide +kernel
theorem dX8_step_4 : decode cX8_step 4 = .ok (.getfield 51, 3) := by decide +kernel
theorem dX8_step_7 : decode cX8_step 7 = .ok (.iconst 1, 1) := by decide +kernel
theorem dX8_step_8 : decode cX8_step 8 = .ok (.if_icmp .eq 6, 3) := by decide +kernel
theorem dX8_step_11 : decode cX8_step 11 = .ok (.bipush (-3), 2) := by decide +kernel
theorem dX8_step_13 : decode cX8_step 13 = .ok (.ireturn, 1) := by decide +kernel
theorem dX8_step_14 : decode cX8_step 14 = .ok (.aload_n 0, 1) := by decide +kernel
theorem dX8_step_15 : decode cX8_step 15 = .ok (.getfield 28, 3) := by decide +kernel
theorem dX8_step_18 : decode cX8_step 18 = .ok (.invokevirtual 114, 3) := by decide +kernel
theorem dX8_step_21 : decode cX8_step 21 = .ok (.ireturn, 1) := by decide +kernel
theorem dX8_run_0 : decode cX8_run 0 = .ok (.iload_n 1, 1) := by decide +kernel
theorem dX8_run_1 : decode cX8_run 1 = .ok (.ifCond .lt 10, 3) := by decide +kernel
theorem dX8_run_4 : decode cX8_run 4 = .ok (.iload_n 1, 1) := by decide +kernel
theorem dX8_run_5 : decode cX8_run 5 = .ok (.sipush 10000, 3) := by decide +kernel
theorem dX8_run_8 : decode cX8_run 8 = .ok (.if_icmp .le 6, 3) := by decide +kernel
theorem dX8_run_11 : decode cX8_run 11 = .ok (.bipush (-2), 2) := by decide +kernel
theorem dX8_run_13 : decode cX8_run 13 = .ok (.ireturn, 1) := by decide +kernel
theorem dX8_run_14 : decode cX8_run 14 = .ok (.aload_n 0, 1) := by decide +kernel
theorem dX8_run_15 : decode cX8_run 15 = .ok (.getfield 28, 3) := by decide +kernel
theorem dX8_run_18 : decode cX8_run 18 = .ok (.getfield 51, 3) := by decide +kernel
theorem dX8_run_21 : decode cX8_run 21 = .ok (.iconst 1, 1) := by decide +kernel
theorem dX8_run_22 : decode cX8_run 22 = .ok (.if_icmp .eq 6, 3) := by decide +kernel
theorem dX8_run_25 : decode cX8_run 25 = .ok (.bipush (-3), 2) := by decide +kernel
theorem dX8_run_27 : decode cX8_run 27 = .ok (.ireturn, 1) := by decide +kernel
theorem dX8_run_28 : decode cX8_run 28 = .ok (.iconst 0, 1) := by decide +kernel
theorem dX8_run_29 : decode cX8_run 29 = .ok (.istore_n 2, 1) := by decide +kernel
theorem dX8_run_30 : decode cX8_run 30 = .ok (.iload_n 2, 1) := by decide +kernel
theorem dX8_run_31 : decode cX8_run 31 = .ok (.iload_n 1, 1) := by decide +kernel
theorem dX8_run_32 : decode cX8_run 32 = .ok (.if_icmp .ge 28, 3) := by decide +kernel
theorem dX8_run_35 : decode cX8_run 35 = .ok (.aload_n 0, 1) := by decide +kernel
theorem dX8_run_36 : decode cX8_run 36 = .ok (.getfield 28, 3) := by decide +kernel
theorem dX8_run_39 : decode cX8_run 39 = .ok (.getfield 51, 3) := by decide +kernel
theorem dX8_run_42 : decode cX8_run 42 = .ok (.iconst 1, 1) := by decide +kernel
theorem dX8_run_43 : decode cX8_run 43 = .ok (.if_icmp .ne 17, 3) := by decide +kernel
theorem dX8_run_46 : decode cX8_run 46 = .ok (.aload_n 0, 1) := by decide +kernel
theorem dX8_run_47 : decode cX8_run 47 = .ok (.getfield 28, 3) := by decide +kernel
theorem dX8_run_50 : decode cX8_run 50 = .ok (.invokevirtual 114, 3) := by decide +kernel
theorem dX8_run_53 : decode cX8_run 53 = .ok (.pop, 1) := by decide +kernel
theorem dX8_run_54 : decode cX8_run 54 = .ok (.iinc 2 1, 3) := by decide +kernel
theorem dX8_run_57 : decode cX8_run 57 = .ok (.goto (-27), 3) := by decide +kernel
theorem dX8_run_60 : decode cX8_run 60 = .ok (.aload_n 0, 1) := by decide +kernel
theorem dX8_run_61 : decode cX8_run 61 = .ok (.getfield 28, 3) := by decide +kernel
theorem dX8_run_64 : decode cX8_run 64 = .ok (.getfield 51, 3) := by decide +kernel
theorem dX8_run_67 : decode cX8_run 67 = .ok (.ireturn, 1) := by decide +kernel
theorem dX8_told_0 : decode cX8_told 0 = .ok (.iload_n 1, 1) := by decide +kernel
theorem dX8_told_1 : decode cX8_told 1 = .ok (.tableswitch 87 0 5 #[39, 47, 55, 63, 71, 79], 39) := by decide +kernel
theorem dX8_told_40 : decode cX8_told 40 = .ok (.aload_n 0, 1) := by decide +kernel
theorem dX8_told_41 : decode cX8_told 41 = .ok (.getfield 28, 3) := by decide +kernel
theorem dX8_told_44 : decode cX8_told 44 = .ok (.getfield 51, 3) := by decide +kernel
theorem dX8_told_47 : decode cX8_told 47 = .ok (.ireturn, 1) := by decide +kernel
theorem dX8_told_48 : decode cX8_told 48 = .ok (.aload_n 0, 1) := by decide +kernel
theorem dX8_told_49 : decode cX8_told 49 = .ok (.getfield 28, 3) := by decide +kernel
theorem dX8_told_52 : decode cX8_told 52 = .ok (.getfield 117, 3) := by decide +kernel
theorem dX8_told_55 : decode cX8_told 55 = .ok (.ireturn, 1) := by decide +kernel
theorem dX8_told_56 : decode cX8_told 56 = .ok (.aload_n 0, 1) := by decide +kernel
theorem dX8_told_57 : decode cX8_told 57 = .ok (.getfield 28, 3) := by decide +kernel
theorem dX8_told_60 : decode cX8_told 60 = .ok (.getfield 120, 3) := by decide +kernel
theorem dX8_told_63 : decode cX8_told 63 = .ok (.ireturn, 1) := by decide +kernel
theorem dX8_told_64 : decode cX8_told 64 = .ok (.aload_n 0, 1) := by decide +kernel
theorem dX8_told_65 : decode cX8_told 65 = .ok (.getfield 10, 3) := by decide +kernel
theorem dX8_told_68 : decode cX8_told 68 = .ok (.getfield 43, 3) := by decide +kernel
theorem dX8_told_71 : decode cX8_told 71 = .ok (.ireturn, 1) := by decide +kernel
theorem dX8_told_72 : decode cX8_told 72 = .ok (.aload_n 0, 1) := by decide +kernel
theorem dX8_told_73 : decode cX8_told 73 = .ok (.getfield 19, 3) := by decide +kernel
theorem dX8_told_76 : decode cX8_told 76 = .ok (.getfield 58, 3) := by decide +kernel
theorem dX8_told_79 : decode cX8_told 79 = .ok (.ireturn, 1) := by decide +kernel
theorem dX8_told_80 : decode cX8_told 80 = .ok (.aload_n 0, 1) := by decide +kernel
theorem dX8_told_81 : decode cX8_told 81 = .ok (.getfield 28, 3) := by decide +kernel
theorem dX8_told_84 : decode cX8_told 84 = .ok (.getfield 123, 3) := by decide +kernel
theorem dX8_told_87 : decode cX8_told 87 = .ok (.ireturn, 1) := by decide +kernel
theorem dX8_told_88 : decode cX8_told 88 = .ok (.bipush (-2), 2) := by decide +kernel
theorem dX8_told_90 : decode cX8_told 90 = .ok (.ireturn, 1) := by decide +kernel
theorem dX8_register_0 : decode cX8_register 0 = .ok (.iload_n 1, 1) := by decide +kernel
theorem dX8_register_1 : decode cX8_register 1 = .ok (.ifCond .lt 9, 3) := by decide +kernel
theorem dX8_register_4 : decode cX8_register 4 = .ok (.iload_n 1, 1) := by decide +kernel
theorem dX8_register_5 : decode cX8_register 5 = .ok (.bipush 11, 2) := by decide +kernel
theorem dX8_register_7 : decode cX8_register 7 = .ok (.if_icmp .lt 7, 3) := by decide +kernel
theorem dX8_register_10 : decode cX8_register 10 = .ok (.lconst 0, 1) := by decide +kernel
theorem dX8_register_11 : decode cX8_register 11 = .ok (.goto 12, 3) := by decide +kernel
theorem dX8_register_14 : decode cX8_register 14 = .ok (.aload_n 0, 1) := by decide +kernel
theorem dX8_register_15 : decode cX8_register 15 = .ok (.getfield 28, 3) := by decide +kernel
theorem dX8_register_18 : decode cX8_register 18 = .ok (.getfield 126, 3) := by decide +kernel
theorem dX8_register_21 : decode cX8_register 21 = .ok (.iload_n 1, 1) := by decide +kernel
theorem dX8_register_22 : decode cX8_register 22 = .ok (.laload, 1) := by decide +kernel
theorem dX8_register_23 : decode cX8_register 23 = .ok (.lreturn, 1) := by decide +kernel
theorem dX8_octet_0 : decode cX8_octet 0 = .ok (.aload_n 0, 1) := by decide +kernel
theorem dX8_octet_1 : decode cX8_octet 1 = .ok (.getfield 19, 3) := by decide +kernel
theorem dX8_octet_4 : decode cX8_octet 4 = .ok (.lload_n 1, 1) := by decide +kernel
theorem dX8_octet_5 : decode cX8_octet 5 = .ok (.iconst 1, 1) := by decide +kernel
theorem dX8_octet_6 : decode cX8_octet 6 = .ok (.iconst 0, 1) := by decide +kernel
theorem dX8_octet_7 : decode cX8_octet 7 = .ok (.invokevirtual 130, 3) := by decide +kernel
theorem dX8_octet_10 : decode cX8_octet 10 = .ok (.ifCond .eq 15, 3) := by decide +kernel
theorem dX8_octet_13 : decode cX8_octet 13 = .ok (.aload_n 0, 1) := by decide +kernel
theorem dX8_octet_14 : decode cX8_octet 14 = .ok (.getfield 19, 3) := by decide +kernel
theorem dX8_octet_17 : decode cX8_octet 17 = .ok (.iconst 1, 1) := by decide +kernel
theorem dX8_octet_18 : decode cX8_octet 18 = .ok (.invokevirtual 134, 3) := by decide +kernel
theorem dX8_octet_21 : decode cX8_octet 21 = .ok (.l2i, 1) := by decide +kernel
theorem dX8_octet_22 : decode cX8_octet 22 = .ok (.goto 4, 3) := by decide +kernel
theorem dX8_octet_25 : decode cX8_octet 25 = .ok (.iconst (-1), 1) := by decide +kernel
theorem dX8_octet_26 : decode cX8_octet 26 = .ok (.ireturn, 1) := by decide +kernel
theorem dX8_putAt_0 : decode cX8_putAt 0 = .ok (.aload_n 0, 1) := by decide +kernel
theorem dX8_putAt_1 : decode cX8_putAt 1 = .ok (.getfield 28, 3) := by decide +kernel
theorem dX8_putAt_4 : decode cX8_putAt 4 = .ok (.iload_n 1, 1) := by decide +kernel
theorem dX8_putAt_5 : decode cX8_putAt 5 = .ok (.invokevirtual 138, 3) := by decide +kernel
theorem dX8_putAt_8 : decode cX8_putAt 8 = .ok (.lreturn, 1) := by decide +kernel
theorem dX8_keys_0 : decode cX8_keys 0 = .ok (.aload_n 0, 1) := by decide +kernel
theorem dX8_keys_1 : decode cX8_keys 1 = .ok (.getfield 19, 3) := by decide +kernel
theorem dX8_keys_4 : decode cX8_keys 4 = .ok (.iload_n 1, 1) := by decide +kernel
theorem dX8_keys_5 : decode cX8_keys 5 = .ok (.invokevirtual 141, 3) := by decide +kernel
theorem dX8_keys_8 : decode cX8_keys 8 = .ok (.astore_n 2, 1) := by decide +kernel
theorem dX8_keys_9 : decode cX8_keys 9 = .ok (.aload_n 2, 1) := by decide +kernel
theorem dX8_keys_10 : decode cX8_keys 10 = .ok (.ifnonnull 7, 3) := by decide +kernel
theorem dX8_keys_13 : decode cX8_keys 13 = .ok (.iconst (-1), 1) := by decide +kernel
theorem dX8_keys_14 : decode cX8_keys 14 = .ok (.goto 7, 3) := by decide +kernel
theorem dX8_keys_17 : decode cX8_keys 17 = .ok (.aload_n 2, 1) := by decide +kernel
theorem dX8_keys_18 : decode cX8_keys 18 = .ok (.invokevirtual 145, 3) := by decide +kernel
theorem dX8_keys_21 : decode cX8_keys 21 = .ok (.ireturn, 1) := by decide +kernel
-- JudgedCode.<init>
def f_X8_init_61 (os0 : Nat) (os1 : Nat) (S : sh) (D : dt) : Option (Unit × sh × dt) := nm (pR D os0 3 (some os1)) fun D81 => some ((), S, D81)
def f_X8_init_49 (o0 : Nat) (os0 : Nat) (os1 : Nat) (S : sh) (D : dt) : Option (Unit × sh × dt) := rq (gR D o0 0) fun o82 => rq (gR D o0 1) fun o86 => c3 (f_X0_init os1 o82 o86 S D) fun _ S92 D91 => f_X8_init_61 os0 os1 S92 D91
def f_X8_init_42 (o0 : Nat) (os0 : Nat) (os1 : Nat) (S : sh) (D : dt) : Option (Unit × sh × dt) := nm (pR D os0 2 (some os1)) fun D100 => f_X8_init_49 o0 o0 (sN S) (aS S 0 0 12) (aD S D100)
def f_X8_init_30 (o0 : Nat) (os0 : Nat) (os1 : Nat) (S : sh) (D : dt) : Option (Unit × sh × dt) := rq (gR D o0 0) fun o106 => rq (gR D o0 1) fun o110 => c3 (f_X1_init os1 o106 o110 S D) fun _ S116 D115 => f_X8_init_42 o0 os0 os1 S116 D115
def f_X8_init_23 (o0 : Nat) (os0 : Nat) (os1 : Nat) (S : sh) (D : dt) : Option (Unit × sh × dt) := nm (pR D os0 1 (some os1)) fun D124 => f_X8_init_30 o0 o0 (sN S) (aS S 1 0 8) (aD S D124)
def f_X8_init_19 (o0 : Nat) (os0 : Nat) (os1 : Nat) (S : sh) (D : dt) : Option (Unit × sh × dt) := c3 (f_X2_init os1 S D) fun _ S132 D131 => f_X8_init_23 o0 os0 os1 S132 D131
def f_X8_init_12 (o0 : Nat) (os0 : Nat) (os1 : Nat) (S : sh) (D : dt) : Option (Unit × sh × dt) := nm (pR D os0 0 (some os1)) fun D140 => f_X8_init_19 o0 o0 (sN S) (aS S 2 0 8) (aD S D140)
def f_X8_init_8 (o0 : Nat) (os0 : Nat) (os1 : Nat) (S : sh) (D : dt) : Option (Unit × sh × dt) := c3 (f_X4_init os1 S D) fun _ S148 D147 => f_X8_init_12 o0 os0 os1 S148 D147
def f_X8_init (o0 : Nat) (S : sh) (D : dt) : Option (Unit × sh × dt) := f_X8_init_8 o0 o0 (sN S) (aS S 3 0 6) (aD S D)
-- JudgedCode.fitsSlot
def f_X8_fitsSlot (x0 : Int32) (x1 : Int32) (x2 : Int32) : Option Int32 := if x0 < 0 then (some (0 : Int32)) else (if (255 : Int32) < x0 then (some (0 : Int32)) else (if x1 < 0 then (some (0 : Int32)) else (if (255 : Int32) < x1 then (some (0 : Int32)) else (if x2 < (-32768 : Int32) then (some (0 : Int32)) else (if (32767 : Int32) < x2 then (some (0 : Int32)) else (some (1 : Int32)))))))
-- JudgedCode.feed
def f_X8_feed (S : sh) (o0 : Nat) (x1 : Int32) (x2 : Int32) (x3 : Int32) (x4 : Int32) (D : dt) : Option (Int32 × dt) := pq (f_X8_fitsSlot x1 x2 x3) fun r31 => if r31 = 0 then (some ((-2 : Int32), D)) else (rq (gR D o0 0) fun o33 => if (gI D o33 5) < (200 : Int32) then (rq (gR D o0 0) fun o38 => nm (gI D o38 5) fun y42 => rq (gR D o0 0) fun o43 => nm (pI D o43 5 (y42 + (1 : Int32))) fun D47 => rq (gR D47 o0 0) fun o48 => cq (f_X4_write S o48 y42 x1 x2 x3 x4 D47) fun _ D53 => rq (gR D53 o0 2) fun o54 => nm (pI D53 o54 5 (0 : Int32)) fun D58 => some (y42, D58)) else (some ((-4 : Int32), D)))
-- JudgedCode.alter
def f_X8_alter (S : sh) (o0 : Nat) (x1 : Int32) (x2 : Int32) (x3 : Int32) (x4 : Int32) (x5 : Int32) (D : dt) : Option (Int32 × dt) := rq (gR D o0 0) fun o22 => pq (f_X4_has S D o22 x1) fun r27 => if r27 = 0 then (some ((-1 : Int32), D)) else (pq (f_X8_fitsSlot x2 x3 x4) fun r30 => if r30 = 0 then (some ((-2 : Int32), D)) else (rq (gR D o0 0) fun o32 => cq (f_X4_write S o32 x1 x2 x3 x4 x5 D) fun _ D37 => rq (gR D37 o0 2) fun o38 => nm (pI D37 o38 5 (0 : Int32)) fun D42 => some ((1 : Int32), D42)))
-- JudgedCode.cut
def f_X8_cut (S : sh) (o0 : Nat) (x1 : Int32) (D : dt) : Option (Int32 × dt) := rq (gR D o0 0) fun o18 => nm (gI D o18 5) fun y22 => if x1 < 0 then (some ((-2 : Int32), D)) else (if x1 ≤ y22 then (rq (gR D o0 0) fun o25 => nm (pI D o25 5 x1) fun D29 => rq (gR D29 o0 2) fun o30 => nm (pI D29 o30 5 (0 : Int32)) fun D34 => some (y22, D34)) else (some ((-2 : Int32), D)))
-- JudgedCode.table
def f_X8_table_97 (os0 : Nat) (os1 : Nat) (S : sh) (D : dt) : Option (Int32 × sh × dt) := cq (f_X2_addTable S os0 os1 D) fun r46 D47 => some (r46, S, D47)
def f_X8_table_90 (x2 : Int32) (x3 : Int32) (x4 : Int32) (os0 : Nat) (os1 : Nat) (os2 : Nat) (xs3 : Int32) (S : sh) (D : dt) : Option (Int32 × sh × dt) := c3 (f_X7_init os2 xs3 x2 x3 x4 S D) fun _ S50 D49 => f_X8_table_97 os0 os1 S50 D49
def f_X8_table_80 (x1 : Int32) (x2 : Int32) (x3 : Int32) (x4 : Int32) (os0 : Nat) (os1 : Nat) (S : sh) (D : dt) : Option (Int32 × sh × dt) := if x1 = 0 then (f_X8_table_90 x2 x3 x4 os0 os1 os1 (1 : Int32) S D) else (f_X8_table_90 x2 x3 x4 os0 os1 os1 (0 : Int32) S D)
def f_X8_table_45 (o0 : Nat) (x1 : Int32) (x2 : Int32) (x3 : Int32) (x4 : Int32) (S : sh) (D : dt) : Option (Int32 × sh × dt) := if x2 < (1 : Int32) then (some ((-2 : Int32), S, D)) else (if x2 ≤ (8 : Int32) then (rq (gR D o0 1) fun o62 => if (gI D o62 4) < (4 : Int32) then (rq (gR D o0 1) fun o67 => f_X8_table_80 x1 x2 x3 x4 o67 (sN S) (aS S 6 0 7) (aD S D)) else (some ((-4 : Int32), S, D))) else (some ((-2 : Int32), S, D)))
def f_X8_table_9 (o0 : Nat) (x1 : Int32) (x2 : Int32) (x3 : Int32) (x4 : Int32) (S : sh) (D : dt) : Option (Int32 × sh × dt) := if x3 < (1 : Int32) then (some ((-2 : Int32), S, D)) else (if (32 : Int32) < x3 then (some ((-2 : Int32), S, D)) else (if x4 < (1 : Int32) then (some ((-2 : Int32), S, D)) else (if x4 ≤ (32 : Int32) then (if x1 = 0 then (if x2 = (4 : Int32) then (f_X8_table_45 o0 x1 x2 x3 x4 S D) else (some ((-2 : Int32), S, D))) else (f_X8_table_45 o0 x1 x2 x3 x4 S D)) else (some ((-2 : Int32), S, D)))))
def f_X8_table (o0 : Nat) (x1 : Int32) (x2 : Int32) (x3 : Int32) (x4 : Int32) (S : sh) (D : dt) : Option (Int32 × sh × dt) := if x1 = 0 then (f_X8_table_9 o0 x1 x2 x3 x4 S D) else (if x1 = (1 : Int32) then (f_X8_table_9 o0 x1 x2 x3 x4 S D) else (some ((-2 : Int32), S, D)))
-- JudgedCode.context
def f_X8_context (S : sh) (o0 : Nat) (x1 : Int32) (D : dt) : Option (Int32 × dt) := if x1 < 0 then (some ((-2 : Int32), D)) else (if x1 ≤ (256 : Int32) then (rq (gR D o0 2) fun o17 => if (gI D o17 5) = (1 : Int32) then (some ((-3 : Int32), D)) else (rq (gR D o0 1) fun o22 => cq (f_X2_resizeContext S o22 x1 D) fun r27 D28 => some (r27, D28))) else (some ((-2 : Int32), D)))
-- JudgedCode.poke
def f_X8_poke (S : sh) (o0 : Nat) (x1 : Int32) (x2 : Int32) (D : dt) : Option (Int32 × dt) := if x1 < 0 then (some ((-1 : Int32), D)) else (rq (gR D o0 1) fun o35 => if x1 < (gI D o35 1) then (if x2 < 0 then (some ((-2 : Int32), D)) else (if x2 ≤ (255 : Int32) then (rq (gR D o0 2) fun o42 => if (gI D o42 5) = (1 : Int32) then (some ((-3 : Int32), D)) else (rq (gR D o0 1) fun o47 => rq (gR D o47 0) fun o51 => ix x1 (sA S o51) <| nm ((gI D o51 x1.toNatClampNeg) &&& (255 : Int32)) fun y56 => rq (gR D o0 1) fun o57 => rq (gR D o57 0) fun o61 => ix x1 (sA S o61) <| nm (pI D o61 x1.toNatClampNeg (vp_nar .byte x2.toInt8.toInt32)) fun D66 => some (y56, D66))) else (some ((-2 : Int32), D)))) else (some ((-1 : Int32), D)))
-- JudgedCode.tick
def f_X8_tick_22 (S : sh) (D : dt) : Option (Int64 × dt) := some ((-2 : Int64), D)
def f_X8_tick (S : sh) (o0 : Nat) (x1 : Int64) (D : dt) : Option (Int64 × dt) := if (lg_cmp x1 (0 : Int64)) < 0 then (f_X8_tick_22 S D) else (rq (gR D o0 1) fun o17 => if (lg_cmp x1 ((4611686018427387904 : Int64) - (gL D o17 5))) ≤ 0 then (rq (gR D o0 1) fun o22 => nm (pL D o22 5 ((gL D o22 5) + x1)) fun D26 => rq (gR D26 o0 1) fun o27 => some ((gL D26 o27 5), D26)) else (f_X8_tick_22 S D))
-- JudgedCode.judge
def f_X8_judge_7 (xs0 : Int32) (S : sh) (D : dt) : Option (Int32 × sh × dt) := some (xs0, S, D)
def f_X8_judge (o0 : Nat) (S : sh) (D : dt) : Option (Int32 × sh × dt) := rq (gR D o0 3) fun o14 => c3 (f_X0_follow o14 S D) fun r19 S21 D20 => f_X8_judge_7 r19 S21 D20
-- JudgedCode.place
def f_X8_place (S : sh) (D : dt) (o0 : Nat) : Option Int32 := rq (gR D o0 3) fun o5 => some (gI D o5 7)
-- JudgedCode.may
def f_X8_may_34 (S : sh) (D : dt) : Option Int64 := some (-2 : Int64)
def f_X8_may_21 (S : sh) (D : dt) : Option Int64 := some (-1 : Int64)
def f_X8_may (S : sh) (D : dt) (o0 : Nat) (x1 : Int32) (x2 : Int32) (x3 : Int32) : Option Int64 := rq (gR D o0 0) fun o22 => pq (f_X4_has S D o22 x1) fun r27 => if r27 = 0 then (f_X8_may_21 S D) else (if x2 < 0 then (f_X8_may_21 S D) else (if x2 < (11 : Int32) then (if x3 < 0 then (f_X8_may_34 S D) else (if x3 ≤ (4 : Int32) then (rq (gR D o0 3) fun o33 => pq (f_X0_sceneAt S D o33 x1) fun r38 => oq r38 (some (0 : Int64)) fun o39 => pq (f_X5_tell S D o39 x2 x3) fun r42 => some r42) else (f_X8_may_34 S D))) else (f_X8_may_21 S D)))
-- JudgedCode.cell
def f_X8_cell (S : sh) (D : dt) (o0 : Nat) (x1 : Int32) (x2 : Int32) : Option Int32 := rq (gR D o0 0) fun o20 => pq (f_X4_has S D o20 x1) fun r25 => if r25 = 0 then (some (-1 : Int32)) else (if x2 < (-512 : Int32) then (some (-1 : Int32)) else (if x2 ≤ (-1 : Int32) then (rq (gR D o0 3) fun o29 => pq (f_X0_sceneAt S D o29 x1) fun r34 => oq r34 (some (0 : Int32)) fun o35 => pq (f_X5_tellOctet S D o35 (x2 + (512 : Int32))) fun r38 => some r38) else (some (-1 : Int32))))
-- JudgedCode.start
def f_X8_start (S : sh) (o0 : Nat) (D : dt) : Option (Int32 × dt) := rq (gR D o0 0) fun o12 => if (gI D o12 5) = 0 then (some ((-3 : Int32), D)) else (rq (gR D o0 2) fun o17 => cq (f_X1_begin S o17 D) fun _ D22 => some ((1 : Int32), D22))
-- JudgedCode.step
def f_X8_step (S : sh) (o0 : Nat) (D : dt) : Option (Int32 × dt) := rq (gR D o0 2) fun o13 => if (gI D o13 5) = (1 : Int32) then (rq (gR D o0 2) fun o18 => cq (f_X1_advance S o18 D) fun r23 D24 => some (r23, D24)) else (some ((-3 : Int32), D))
-- JudgedCode.run
def f_X8_run_60 (S : sh) (o0 : Nat) (D : dt) : Option (Int32 × dt) := rq (gR D o0 2) fun o27 => some ((gI D o27 5), D)
def f_X8_run_30 (S : sh) : Nat → Nat → Int32 → Int32 → dt → Option (Int32 × dt)
  | 0, _, _, _, _ => none
  | n + 1, o0, x1, x2, D => if x1 ≤ x2 then (f_X8_run_60 S o0 D) else (rq (gR D o0 2) fun o32 => if (gI D o32 5) = (1 : Int32) then (rq (gR D o0 2) fun o37 => cq (f_X1_advance S o37 D) fun r42 D43 => nm (x2 + 1) fun y44 => f_X8_run_30 S n o0 x1 y44 D43) else (f_X8_run_60 S o0 D))
def f_X8_run (S : sh) (o0 : Nat) (x1 : Int32) (D : dt) : Option (Int32 × dt) := if x1 < 0 then (some ((-2 : Int32), D)) else (if x1 ≤ (10000 : Int32) then (rq (gR D o0 2) fun o47 => if (gI D o47 5) = (1 : Int32) then (nm ((0 : Int32)) fun y52 => f_X8_run_30 S LF o0 x1 y52 D) else (some ((-3 : Int32), D))) else (some ((-2 : Int32), D)))
-- JudgedCode.told
def f_X8_told (S : sh) (D : dt) (o0 : Nat) (x1 : Int32) : Option Int32 := if x1 = 0 then (rq (gR D o0 2) fun o32 => some (gI D o32 5)) else if x1 = 1 then (rq (gR D o0 2) fun o37 => some (gI D o37 6)) else if x1 = 2 then (rq (gR D o0 2) fun o42 => some (gI D o42 7)) else if x1 = 3 then (rq (gR D o0 0) fun o47 => some (gI D o47 5)) else if x1 = 4 then (rq (gR D o0 1) fun o52 => some (gI D o52 4)) else if x1 = 5 then (rq (gR D o0 2) fun o57 => some (gI D o57 4)) else (some (-2 : Int32))
-- JudgedCode.register
def f_X8_register_10 (S : sh) (D : dt) : Option Int64 := some (0 : Int64)
def f_X8_register (S : sh) (D : dt) (o0 : Nat) (x1 : Int32) : Option Int64 := if x1 < 0 then (f_X8_register_10 S D) else (if x1 < (11 : Int32) then (rq (gR D o0 2) fun o14 => rq (gR D o14 2) fun o18 => ix x1 (sA S o18) <| some (gL D o18 x1.toNatClampNeg)) else (f_X8_register_10 S D))
-- JudgedCode.octet
def f_X8_octet (S : sh) (o0 : Nat) (x1 : Int64) (D : dt) : Option (Int32 × dt) := rq (gR D o0 1) fun o15 => cq (f_X2_find S o15 x1 (1 : Int32) (0 : Int32) D) fun r20 D21 => if r20 = 0 then (some ((-1 : Int32), D21)) else (rq (gR D21 o0 1) fun o23 => pq (f_X2_foundNumber S D21 o23 (1 : Int32)) fun r28 => some (r28.toInt32, D21))
-- JudgedCode.putAt
def f_X8_putAt (S : sh) (D : dt) (o0 : Nat) (x1 : Int32) : Option Int64 := rq (gR D o0 2) fun o7 => pq (f_X1_keptPut S D o7 x1) fun r12 => some r12
-- JudgedCode.keys
def f_X8_keys (S : sh) (D : dt) (o0 : Nat) (x1 : Int32) : Option Int32 := rq (gR D o0 1) fun o11 => pq (f_X2_tableNumbered S D o11 x1) fun r16 => oq r16 (some (-1 : Int32)) fun o17 => pq (f_X7_keyCount S D o17) fun r20 => some r20
theorem mk_X8_init : MkI yX8_init cX8_init 1 0 := ⟨⟨lk_130, lk_114, (tb_in (i := 131) (by decide +kernel) (by decide +kernel))⟩, rfl, by decide +kernel⟩
theorem mk_X8_fitsSlot : MkS yX8_fitsSlot cX8_fitsSlot 3 (some .boolean) 3 := ⟨⟨lk_373, lk_114, (tb_in (i := 374) (by decide +kernel) (by decide +kernel))⟩, by decide +kernel⟩
theorem mk_X8_feed : MkV yX8_feed RX8 cX8_feed 6 (some .int) 4 := ⟨⟨lk_369, lk_370, lk_114, (tb_in (i := 371) (by decide +kernel) (by decide +kernel))⟩, by decide +kernel⟩
theorem mk_X8_alter : MkV yX8_alter RX8 cX8_alter 6 (some .int) 5 := ⟨⟨lk_384, lk_385, lk_114, (tb_in (i := 386) (by decide +kernel) (by decide +kernel))⟩, by decide +kernel⟩
theorem mk_X8_cut : MkV yX8_cut RX8 cX8_cut 3 (some .int) 1 := ⟨⟨lk_389, lk_390, lk_114, (tb_in (i := 391) (by decide +kernel) (by decide +kernel))⟩, by decide +kernel⟩
theorem mk_X8_table : MkV yX8_table RX8 cX8_table 5 (some .int) 4 := ⟨⟨lk_393, lk_394, lk_114, (tb_in (i := 395) (by decide +kernel) (by decide +kernel))⟩, by decide +kernel⟩
theorem mk_X8_context : MkV yX8_context RX8 cX8_context 2 (some .int) 1 := ⟨⟨lk_436, lk_437, lk_114, (tb_in (i := 438) (by decide +kernel) (by decide +kernel))⟩, by decide +kernel⟩
theorem mk_X8_poke : MkV yX8_poke RX8 cX8_poke 4 (some .int) 2 := ⟨⟨lk_444, lk_445, lk_114, (tb_in (i := 446) (by decide +kernel) (by decide +kernel))⟩, by decide +kernel⟩
theorem mk_X8_tick : MkV yX8_tick RX8 cX8_tick 3 (some .long) 1 := ⟨⟨lk_448, lk_449, lk_114, (tb_in (i := 450) (by decide +kernel) (by decide +kernel))⟩, by decide +kernel⟩
theorem mk_X8_judge : MkV yX8_judge RX8 cX8_judge 1 (some .int) 0 := ⟨⟨lk_454, lk_455, lk_114, (tb_in (i := 456) (by decide +kernel) (by decide +kernel))⟩, by decide +kernel⟩
theorem mk_X8_place : MkV yX8_place RX8 cX8_place 1 (some .int) 0 := ⟨⟨lk_861, lk_862, lk_114, (tb_in (i := 863) (by decide +kernel) (by decide +kernel))⟩, by decide +kernel⟩
theorem mk_X8_may : MkV yX8_may RX8 cX8_may 5 (some .long) 3 := ⟨⟨lk_865, lk_866, lk_114, (tb_in (i := 867) (by decide +kernel) (by decide +kernel))⟩, by decide +kernel⟩
theorem mk_X8_cell : MkV yX8_cell RX8 cX8_cell 4 (some .int) 2 := ⟨⟨lk_876, lk_877, lk_114, (tb_in (i := 878) (by decide +kernel) (by decide +kernel))⟩, by decide +kernel⟩
theorem mk_X8_start : MkV yX8_start RX8 cX8_start 1 (some .int) 0 := ⟨⟨lk_884, lk_885, lk_114, (tb_in (i := 886) (by decide +kernel) (by decide +kernel))⟩, by decide +kernel⟩
theorem mk_X8_step : MkV yX8_step RX8 cX8_step 1 (some .int) 0 := ⟨⟨lk_898, lk_899, lk_114, (tb_in (i := 900) (by decide +kernel) (by decide +kernel))⟩, by decide +kernel⟩
theorem mk_X8_run : MkV yX8_run RX8 cX8_run 3 (some .int) 1 := ⟨⟨lk_1028, lk_1029, lk_114, (tb_in (i := 1030) (by decide +kernel) (by decide +kernel))⟩, by decide +kernel⟩
theorem mk_X8_told : MkV yX8_told RX8 cX8_told 2 (some .int) 1 := ⟨⟨lk_1032, lk_1033, lk_114, (tb_in (i := 1034) (by decide +kernel) (by decide +kernel))⟩, by decide +kernel⟩
theorem mk_X8_register : MkV yX8_register RX8 cX8_register 2 (some .long) 1 := ⟨⟨lk_1036, lk_1037, lk_114, (tb_in (i := 1038) (by decide +kernel) (by decide +kernel))⟩, by decide +kernel⟩
theorem mk_X8_octet : MkV yX8_octet RX8 cX8_octet 3 (some .int) 1 := ⟨⟨lk_1040, lk_1041, lk_114, (tb_in (i := 1042) (by decide +kernel) (by decide +kernel))⟩, by decide +kernel⟩
theorem mk_X8_putAt : MkV yX8_putAt RX8 cX8_putAt 2 (some .long) 1 := ⟨⟨lk_1046, lk_1047, lk_114, (tb_in (i := 1048) (by decide +kernel) (by decide +kernel))⟩, by decide +kernel⟩
theorem mk_X8_keys : MkV yX8_keys RX8 cX8_keys 3 (some .int) 1 := ⟨⟨lk_1057, lk_1058, lk_114, (tb_in (i := 1059) (by decide +kernel) (by decide +kernel))⟩, by decide +kernel⟩
section
variable {p : Program} {l : Launch} {e : Env} {R : Room} {s : State} {m : MethodId} {args : Array Value} {below : List Frame} {meth : Method} {c : Code} {H : Heap} {locs : List Loc} {G : va_G} {cA : Nat → ClassId} {S : sh} {D : dt} {ad : Nat → Nat} {A : Nat → Prop}
theorem mn_X8_init_61 {r : Unit} {S' : sh} {D' : dt} {os0 : Nat} {os1 : Nat} {S : sh} {D : dt} (h : f_X8_init_61 os0 os1 S D = some (r, S', D')) : Ext S S' := by
  unfold f_X8_init_61 at h
  have h := nm_i h _ rfl
  cases h
  exact Ext.rf _
set_option maxHeartbeats 4000000 in
set_option maxRecDepth 100000 in
theorem w_X8_init_61 {r : Unit} {S' : sh} {D' : dt} {S0 : sh} {ad0 : Nat → Nat} (hC : Cx RX8 cX8_init 1 none p s m args meth c) (hin : meth.name = "<init>") (hR : 3 ≤ R.frames ∧ 62 ≤ R.locals) (ho : R.cells = sN S' - sN S0 ∧ R.slots = sZ S' - sZ S0) : ∀ (os0 as0 : Nat) (os1 as1 : Nat) (S : sh) (D : dt) (ad : Nat → Nat) (H : Heap) (locs : List Loc) (ls : Array Slot) (cells slots : Nat), Is S ad os0 as0 7 → Is S ad os1 as1 0 → Wd G cA S D ad A s H locs → Al S0 ad0 S ad cells slots → lv_has ls 1 [] → f_X8_init_61 os0 os1 S D = some (r, S', D') → W p l e R s m args below meth c H locs cells slots (MQ below (Qa (fun _ => none) (fun ad' => (∀ k, k < sN S0 → ad' k = ad0 k) ∧ True) (fun ad' => wpost G cA S' D' ad' A) A) args s (sN S' - sN S0) (sZ S' - sZ S0) A) (F0 m 61 ls [.ref as1, .ref as0]) := by
  obtain ⟨hx, hb, -⟩ := id hC
  intro os0 as0 os1 as1 S D ad H locs ls cells slots his0 his1 hw hc hl h
  have hE : Ext S S' := mn_X8_init_61  h
  unfold f_X8_init_61 at h
  refine r_pRF hC hin hw kc_7 his0 3 rfl lk_358 rfl rfl rfl rfl rfl his1 dX8_init_61 (fun D81 eD81 H locs hw => ?_)
  have h := nm_i h D81 eD81
  cases h
  exact r_vretA hC hw hc dX8_init_64
theorem mn_X8_init_49 {r : Unit} {S' : sh} {D' : dt} {o0 : Nat} {os0 : Nat} {os1 : Nat} {S : sh} {D : dt} (h : f_X8_init_49 o0 os0 os1 S D = some (r, S', D')) : Ext S S' := by
  unfold f_X8_init_49 at h
  obtain ⟨o82, ho85, h⟩ := rq_i h
  obtain ⟨o86, ho89, h⟩ := rq_i h
  obtain ⟨_, S92, D91, hq90, h⟩ := c3_i h
  have hA := mn_X0_init_0 hq90
  exact hA.tr (mn_X8_init_61 h)
set_option maxHeartbeats 4000000 in
set_option maxRecDepth 100000 in
theorem w_X8_init_49 {r : Unit} {S' : sh} {D' : dt} {S0 : sh} {ad0 : Nat → Nat} (hC : Cx RX8 cX8_init 1 none p s m args meth c) (hin : meth.name = "<init>") (hR : 3 ≤ R.frames ∧ 62 ≤ R.locals) (ho : R.cells = sN S' - sN S0 ∧ R.slots = sZ S' - sZ S0) : ∀ (o0 a0 : Nat) (os0 as0 : Nat) (os1 as1 : Nat) (S : sh) (D : dt) (ad : Nat → Nat) (H : Heap) (locs : List Loc) (ls : Array Slot) (cells slots : Nat), Is S ad o0 a0 7 → Is S ad os0 as0 7 → Is S ad os1 as1 0 → Wd G cA S D ad A s H locs → Al S0 ad0 S ad cells slots → lv_has ls 1 [(0, .ref a0)] → f_X8_init_49 o0 os0 os1 S D = some (r, S', D') → W p l e R s m args below meth c H locs cells slots (MQ below (Qa (fun _ => none) (fun ad' => (∀ k, k < sN S0 → ad' k = ad0 k) ∧ True) (fun ad' => wpost G cA S' D' ad' A) A) args s (sN S' - sN S0) (sZ S' - sZ S0) A) (F0 m 49 ls [.ref as1, .ref as0]) := by
  obtain ⟨hx, hb, -⟩ := id hC
  intro o0 a0 os0 as0 os1 as1 S D ad H locs ls cells slots hi0 his0 his1 hw hc hl h
  have hE : Ext S S' := mn_X8_init_49  h
  unfold f_X8_init_49 at h
  refine lv_dup hx hb dX8_init_49 rfl ?_
  refine lv_aload_n hx hb dX8_init_50 rfl (lv_at hl 0 rfl) ?_
  obtain ⟨o82, ho85, h⟩ := rq_i h
  refine r_getR hC hw kc_7 hi0 0 rfl lk_355 dX8_init_51 rfl ho85 (fun a83 hi84 => ?_)
  refine lv_aload_n hx hb dX8_init_54 rfl (lv_at hl 0 rfl) ?_
  obtain ⟨o86, ho89, h⟩ := rq_i h
  refine r_getR hC hw kc_7 hi0 1 rfl lk_356 dX8_init_55 rfl ho89 (fun a87 hi88 => ?_)
  obtain ⟨_, S92, D91, hq90, h⟩ := c3_i h
  have hE93 := mn_X0_init_0 hq90
  have hE94 := mn_X8_init_61 h
  refine r_cIA [.ref a83, .ref a87] [.ref as1, .ref as0] hC hw (k_X0_init _ his1 hi84 hi88 hq90) mk_X0_init lk_252 ⟨Nat.le_trans (by decide) hR.1, Nat.le_trans (by decide) hR.2⟩ (hc.roomC ho hE93 hE94) rfl hl.1 rfl (Nat.le_of_ble_eq_true rfl) dX8_init_58 (fun ad95 hP H locs hw => ?_)
  refine W.eq (g2 := F0 m 61 ls [.ref as1, .ref as0]) rfl ?_
  have hi96 := Is.up his1 hE93 hP.1
  have hi97 := Is.up his0 hE93 hP.1
  have hi98 := Is.up hi0 hE93 hP.1
  have hc := hc.call hE93 hP.1
  exact w_X8_init_61 hC hin hR ho os0 as0 os1 as1 _ _ _ _ _ _ _ _ hi97 hi96 hw hc (lv_sub hl [] rfl) h --j99
theorem mn_X8_init_42 {r : Unit} {S' : sh} {D' : dt} {o0 : Nat} {os0 : Nat} {os1 : Nat} {S : sh} {D : dt} (h : f_X8_init_42 o0 os0 os1 S D = some (r, S', D')) : Ext S S' := by
  unfold f_X8_init_42 at h
  have h := nm_i h _ rfl
  have hA := (Ext.aS S 0 0 12)
  exact hA.tr (mn_X8_init_49 h)
set_option maxHeartbeats 4000000 in
set_option maxRecDepth 100000 in
theorem w_X8_init_42 {r : Unit} {S' : sh} {D' : dt} {S0 : sh} {ad0 : Nat → Nat} (hC : Cx RX8 cX8_init 1 none p s m args meth c) (hin : meth.name = "<init>") (hR : 3 ≤ R.frames ∧ 62 ≤ R.locals) (ho : R.cells = sN S' - sN S0 ∧ R.slots = sZ S' - sZ S0) : ∀ (o0 a0 : Nat) (os0 as0 : Nat) (os1 as1 : Nat) (S : sh) (D : dt) (ad : Nat → Nat) (H : Heap) (locs : List Loc) (ls : Array Slot) (cells slots : Nat), Is S ad o0 a0 7 → Is S ad os0 as0 7 → Is S ad os1 as1 1 → Wd G cA S D ad A s H locs → Al S0 ad0 S ad cells slots → lv_has ls 1 [(0, .ref a0)] → f_X8_init_42 o0 os0 os1 S D = some (r, S', D') → W p l e R s m args below meth c H locs cells slots (MQ below (Qa (fun _ => none) (fun ad' => (∀ k, k < sN S0 → ad' k = ad0 k) ∧ True) (fun ad' => wpost G cA S' D' ad' A) A) args s (sN S' - sN S0) (sZ S' - sZ S0) A) (F0 m 42 ls [.ref as1, .ref as0]) := by
  obtain ⟨hx, hb, -⟩ := id hC
  intro o0 a0 os0 as0 os1 as1 S D ad H locs ls cells slots hi0 his0 his1 hw hc hl h
  have hE : Ext S S' := mn_X8_init_42  h
  unfold f_X8_init_42 at h
  refine r_pRF hC hin hw kc_7 his0 2 rfl lk_357 rfl rfl rfl rfl rfl his1 dX8_init_42 (fun D100 eD100 H locs hw => ?_)
  have h := nm_i h D100 eD100
  refine lv_aload_n hx hb dX8_init_45 rfl (lv_at hl 0 rfl) ?_
  have hE103 := mn_X8_init_49 h
  refine r_new hC hw kc_0 df_0 lk_250 lk_251 lk_118 (hc.room ho hE103).1 (hc.room ho hE103).2 dX8_init_46 (fun q101 H hw hi102 => ?_)
  have hi104 := Is.up hi0 (Ext.aS S 0 0 12) (up_lt (q := q101))
  have hc := hc.new 0 0 12 q101
  exact w_X8_init_49 hC hin hR ho o0 a0 o0 a0 (sN S) q101 _ _ _ _ _ _ _ _ hi104 hi104 hi102 hw hc (lv_sub hl [0] rfl) h --j105
theorem mn_X8_init_30 {r : Unit} {S' : sh} {D' : dt} {o0 : Nat} {os0 : Nat} {os1 : Nat} {S : sh} {D : dt} (h : f_X8_init_30 o0 os0 os1 S D = some (r, S', D')) : Ext S S' := by
  unfold f_X8_init_30 at h
  obtain ⟨o106, ho109, h⟩ := rq_i h
  obtain ⟨o110, ho113, h⟩ := rq_i h
  obtain ⟨_, S116, D115, hq114, h⟩ := c3_i h
  have hA := mn_X1_init_0 hq114
  exact hA.tr (mn_X8_init_42 h)
set_option maxHeartbeats 4000000 in
set_option maxRecDepth 100000 in
theorem w_X8_init_30 {r : Unit} {S' : sh} {D' : dt} {S0 : sh} {ad0 : Nat → Nat} (hC : Cx RX8 cX8_init 1 none p s m args meth c) (hin : meth.name = "<init>") (hR : 3 ≤ R.frames ∧ 62 ≤ R.locals) (ho : R.cells = sN S' - sN S0 ∧ R.slots = sZ S' - sZ S0) : ∀ (o0 a0 : Nat) (os0 as0 : Nat) (os1 as1 : Nat) (S : sh) (D : dt) (ad : Nat → Nat) (H : Heap) (locs : List Loc) (ls : Array Slot) (cells slots : Nat), Is S ad o0 a0 7 → Is S ad os0 as0 7 → Is S ad os1 as1 1 → Wd G cA S D ad A s H locs → Al S0 ad0 S ad cells slots → lv_has ls 1 [(0, .ref a0)] → f_X8_init_30 o0 os0 os1 S D = some (r, S', D') → W p l e R s m args below meth c H locs cells slots (MQ below (Qa (fun _ => none) (fun ad' => (∀ k, k < sN S0 → ad' k = ad0 k) ∧ True) (fun ad' => wpost G cA S' D' ad' A) A) args s (sN S' - sN S0) (sZ S' - sZ S0) A) (F0 m 30 ls [.ref as1, .ref as0]) := by
  obtain ⟨hx, hb, -⟩ := id hC
  intro o0 a0 os0 as0 os1 as1 S D ad H locs ls cells slots hi0 his0 his1 hw hc hl h
  have hE : Ext S S' := mn_X8_init_30  h
  unfold f_X8_init_30 at h
  refine lv_dup hx hb dX8_init_30 rfl ?_
  refine lv_aload_n hx hb dX8_init_31 rfl (lv_at hl 0 rfl) ?_
  obtain ⟨o106, ho109, h⟩ := rq_i h
  refine r_getR hC hw kc_7 hi0 0 rfl lk_355 dX8_init_32 rfl ho109 (fun a107 hi108 => ?_)
  refine lv_aload_n hx hb dX8_init_35 rfl (lv_at hl 0 rfl) ?_
  obtain ⟨o110, ho113, h⟩ := rq_i h
  refine r_getR hC hw kc_7 hi0 1 rfl lk_356 dX8_init_36 rfl ho113 (fun a111 hi112 => ?_)
  obtain ⟨_, S116, D115, hq114, h⟩ := c3_i h
  have hE117 := mn_X1_init_0 hq114
  have hE118 := mn_X8_init_42 h
  refine r_cIA [.ref a107, .ref a111] [.ref as1, .ref as0] hC hw (k_X1_init _ his1 hi108 hi112 hq114) mk_X1_init lk_215 ⟨Nat.le_trans (by decide) hR.1, Nat.le_trans (by decide) hR.2⟩ (hc.roomC ho hE117 hE118) rfl hl.1 rfl (Nat.le_of_ble_eq_true rfl) dX8_init_39 (fun ad119 hP H locs hw => ?_)
  refine W.eq (g2 := F0 m 42 ls [.ref as1, .ref as0]) rfl ?_
  have hi120 := Is.up his1 hE117 hP.1
  have hi121 := Is.up his0 hE117 hP.1
  have hi122 := Is.up hi0 hE117 hP.1
  have hc := hc.call hE117 hP.1
  exact w_X8_init_42 hC hin hR ho o0 a0 os0 as0 os1 as1 _ _ _ _ _ _ _ _ hi122 hi121 hi120 hw hc (lv_sub hl [0] rfl) h --j123
theorem mn_X8_init_23 {r : Unit} {S' : sh} {D' : dt} {o0 : Nat} {os0 : Nat} {os1 : Nat} {S : sh} {D : dt} (h : f_X8_init_23 o0 os0 os1 S D = some (r, S', D')) : Ext S S' := by
  unfold f_X8_init_23 at h
  have h := nm_i h _ rfl
  have hA := (Ext.aS S 1 0 8)
  exact hA.tr (mn_X8_init_30 h)
set_option maxHeartbeats 4000000 in
set_option maxRecDepth 100000 in
theorem w_X8_init_23 {r : Unit} {S' : sh} {D' : dt} {S0 : sh} {ad0 : Nat → Nat} (hC : Cx RX8 cX8_init 1 none p s m args meth c) (hin : meth.name = "<init>") (hR : 3 ≤ R.frames ∧ 62 ≤ R.locals) (ho : R.cells = sN S' - sN S0 ∧ R.slots = sZ S' - sZ S0) : ∀ (o0 a0 : Nat) (os0 as0 : Nat) (os1 as1 : Nat) (S : sh) (D : dt) (ad : Nat → Nat) (H : Heap) (locs : List Loc) (ls : Array Slot) (cells slots : Nat), Is S ad o0 a0 7 → Is S ad os0 as0 7 → Is S ad os1 as1 2 → Wd G cA S D ad A s H locs → Al S0 ad0 S ad cells slots → lv_has ls 1 [(0, .ref a0)] → f_X8_init_23 o0 os0 os1 S D = some (r, S', D') → W p l e R s m args below meth c H locs cells slots (MQ below (Qa (fun _ => none) (fun ad' => (∀ k, k < sN S0 → ad' k = ad0 k) ∧ True) (fun ad' => wpost G cA S' D' ad' A) A) args s (sN S' - sN S0) (sZ S' - sZ S0) A) (F0 m 23 ls [.ref as1, .ref as0]) := by
  obtain ⟨hx, hb, -⟩ := id hC
  intro o0 a0 os0 as0 os1 as1 S D ad H locs ls cells slots hi0 his0 his1 hw hc hl h
  have hE : Ext S S' := mn_X8_init_23  h
  unfold f_X8_init_23 at h
  refine r_pRF hC hin hw kc_7 his0 1 rfl lk_356 rfl rfl rfl rfl rfl his1 dX8_init_23 (fun D124 eD124 H locs hw => ?_)
  have h := nm_i h D124 eD124
  refine lv_aload_n hx hb dX8_init_26 rfl (lv_at hl 0 rfl) ?_
  have hE127 := mn_X8_init_30 h
  refine r_new hC hw kc_1 df_1 lk_213 lk_214 lk_117 (hc.room ho hE127).1 (hc.room ho hE127).2 dX8_init_27 (fun q125 H hw hi126 => ?_)
  have hi128 := Is.up hi0 (Ext.aS S 1 0 8) (up_lt (q := q125))
  have hc := hc.new 1 0 8 q125
  exact w_X8_init_30 hC hin hR ho o0 a0 o0 a0 (sN S) q125 _ _ _ _ _ _ _ _ hi128 hi128 hi126 hw hc (lv_sub hl [0] rfl) h --j129
theorem mn_X8_init_19 {r : Unit} {S' : sh} {D' : dt} {o0 : Nat} {os0 : Nat} {os1 : Nat} {S : sh} {D : dt} (h : f_X8_init_19 o0 os0 os1 S D = some (r, S', D')) : Ext S S' := by
  unfold f_X8_init_19 at h
  obtain ⟨_, S132, D131, hq130, h⟩ := c3_i h
  have hA := mn_X2_init_0 hq130
  exact hA.tr (mn_X8_init_23 h)
set_option maxHeartbeats 4000000 in
set_option maxRecDepth 100000 in
theorem w_X8_init_19 {r : Unit} {S' : sh} {D' : dt} {S0 : sh} {ad0 : Nat → Nat} (hC : Cx RX8 cX8_init 1 none p s m args meth c) (hin : meth.name = "<init>") (hR : 3 ≤ R.frames ∧ 62 ≤ R.locals) (ho : R.cells = sN S' - sN S0 ∧ R.slots = sZ S' - sZ S0) : ∀ (o0 a0 : Nat) (os0 as0 : Nat) (os1 as1 : Nat) (S : sh) (D : dt) (ad : Nat → Nat) (H : Heap) (locs : List Loc) (ls : Array Slot) (cells slots : Nat), Is S ad o0 a0 7 → Is S ad os0 as0 7 → Is S ad os1 as1 2 → Wd G cA S D ad A s H locs → Al S0 ad0 S ad cells slots → lv_has ls 1 [(0, .ref a0)] → f_X8_init_19 o0 os0 os1 S D = some (r, S', D') → W p l e R s m args below meth c H locs cells slots (MQ below (Qa (fun _ => none) (fun ad' => (∀ k, k < sN S0 → ad' k = ad0 k) ∧ True) (fun ad' => wpost G cA S' D' ad' A) A) args s (sN S' - sN S0) (sZ S' - sZ S0) A) (F0 m 19 ls [.ref as1, .ref as0]) := by
  obtain ⟨hx, hb, -⟩ := id hC
  intro o0 a0 os0 as0 os1 as1 S D ad H locs ls cells slots hi0 his0 his1 hw hc hl h
  have hE : Ext S S' := mn_X8_init_19  h
  unfold f_X8_init_19 at h
  refine lv_dup hx hb dX8_init_19 rfl ?_
  obtain ⟨_, S132, D131, hq130, h⟩ := c3_i h
  have hE133 := mn_X2_init_0 hq130
  have hE134 := mn_X8_init_23 h
  refine r_cINA [] [.ref as1, .ref as0] hC hw (k_X2_init _ his1 hq130) mk_X2_init hw.2.2.2.2.2.2.n1 ⟨Nat.le_trans (by decide) hR.1, Nat.le_trans (by decide) hR.2⟩ (hc.roomC ho hE133 hE134) rfl hl.1 rfl (Nat.le_of_ble_eq_true rfl) dX8_init_20 (fun ad135 hP H locs hw => ?_)
  refine W.eq (g2 := F0 m 23 ls [.ref as1, .ref as0]) rfl ?_
  have hi136 := Is.up his1 hE133 hP.1
  have hi137 := Is.up his0 hE133 hP.1
  have hi138 := Is.up hi0 hE133 hP.1
  have hc := hc.call hE133 hP.1
  exact w_X8_init_23 hC hin hR ho o0 a0 os0 as0 os1 as1 _ _ _ _ _ _ _ _ hi138 hi137 hi136 hw hc (lv_sub hl [0] rfl) h --j139
theorem mn_X8_init_12 {r : Unit} {S' : sh} {D' : dt} {o0 : Nat} {os0 : Nat} {os1 : Nat} {S : sh} {D : dt} (h : f_X8_init_12 o0 os0 os1 S D = some (r, S', D')) : Ext S S' := by
  unfold f_X8_init_12 at h
  have h := nm_i h _ rfl
  have hA := (Ext.aS S 2 0 8)
  exact hA.tr (mn_X8_init_19 h)
set_option maxHeartbeats 4000000 in
set_option maxRecDepth 100000 in
theorem w_X8_init_12 {r : Unit} {S' : sh} {D' : dt} {S0 : sh} {ad0 : Nat → Nat} (hC : Cx RX8 cX8_init 1 none p s m args meth c) (hin : meth.name = "<init>") (hR : 3 ≤ R.frames ∧ 62 ≤ R.locals) (ho : R.cells = sN S' - sN S0 ∧ R.slots = sZ S' - sZ S0) : ∀ (o0 a0 : Nat) (os0 as0 : Nat) (os1 as1 : Nat) (S : sh) (D : dt) (ad : Nat → Nat) (H : Heap) (locs : List Loc) (ls : Array Slot) (cells slots : Nat), Is S ad o0 a0 7 → Is S ad os0 as0 7 → Is S ad os1 as1 3 → Wd G cA S D ad A s H locs → Al S0 ad0 S ad cells slots → lv_has ls 1 [(0, .ref a0)] → f_X8_init_12 o0 os0 os1 S D = some (r, S', D') → W p l e R s m args below meth c H locs cells slots (MQ below (Qa (fun _ => none) (fun ad' => (∀ k, k < sN S0 → ad' k = ad0 k) ∧ True) (fun ad' => wpost G cA S' D' ad' A) A) args s (sN S' - sN S0) (sZ S' - sZ S0) A) (F0 m 12 ls [.ref as1, .ref as0]) := by
  obtain ⟨hx, hb, -⟩ := id hC
  intro o0 a0 os0 as0 os1 as1 S D ad H locs ls cells slots hi0 his0 his1 hw hc hl h
  have hE : Ext S S' := mn_X8_init_12  h
  unfold f_X8_init_12 at h
  refine r_pRF hC hin hw kc_7 his0 0 rfl lk_355 rfl rfl rfl rfl rfl his1 dX8_init_12 (fun D140 eD140 H locs hw => ?_)
  have h := nm_i h D140 eD140
  refine lv_aload_n hx hb dX8_init_15 rfl (lv_at hl 0 rfl) ?_
  have hE143 := mn_X8_init_19 h
  refine r_new hC hw kc_2 df_2 lk_173 lk_174 lk_116 (hc.room ho hE143).1 (hc.room ho hE143).2 dX8_init_16 (fun q141 H hw hi142 => ?_)
  have hi144 := Is.up hi0 (Ext.aS S 2 0 8) (up_lt (q := q141))
  have hc := hc.new 2 0 8 q141
  exact w_X8_init_19 hC hin hR ho o0 a0 o0 a0 (sN S) q141 _ _ _ _ _ _ _ _ hi144 hi144 hi142 hw hc (lv_sub hl [0] rfl) h --j145
theorem mn_X8_init_8 {r : Unit} {S' : sh} {D' : dt} {o0 : Nat} {os0 : Nat} {os1 : Nat} {S : sh} {D : dt} (h : f_X8_init_8 o0 os0 os1 S D = some (r, S', D')) : Ext S S' := by
  unfold f_X8_init_8 at h
  obtain ⟨_, S148, D147, hq146, h⟩ := c3_i h
  have hA := mn_X4_init_0 hq146
  exact hA.tr (mn_X8_init_12 h)
set_option maxHeartbeats 4000000 in
set_option maxRecDepth 100000 in
theorem w_X8_init_8 {r : Unit} {S' : sh} {D' : dt} {S0 : sh} {ad0 : Nat → Nat} (hC : Cx RX8 cX8_init 1 none p s m args meth c) (hin : meth.name = "<init>") (hR : 3 ≤ R.frames ∧ 62 ≤ R.locals) (ho : R.cells = sN S' - sN S0 ∧ R.slots = sZ S' - sZ S0) : ∀ (o0 a0 : Nat) (os0 as0 : Nat) (os1 as1 : Nat) (S : sh) (D : dt) (ad : Nat → Nat) (H : Heap) (locs : List Loc) (ls : Array Slot) (cells slots : Nat), Is S ad o0 a0 7 → Is S ad os0 as0 7 → Is S ad os1 as1 3 → Wd G cA S D ad A s H locs → Al S0 ad0 S ad cells slots → lv_has ls 1 [(0, .ref a0)] → f_X8_init_8 o0 os0 os1 S D = some (r, S', D') → W p l e R s m args below meth c H locs cells slots (MQ below (Qa (fun _ => none) (fun ad' => (∀ k, k < sN S0 → ad' k = ad0 k) ∧ True) (fun ad' => wpost G cA S' D' ad' A) A) args s (sN S' - sN S0) (sZ S' - sZ S0) A) (F0 m 8 ls [.ref as1, .ref as0]) := by
  obtain ⟨hx, hb, -⟩ := id hC
  intro o0 a0 os0 as0 os1 as1 S D ad H locs ls cells slots hi0 his0 his1 hw hc hl h
  have hE : Ext S S' := mn_X8_init_8  h
  unfold f_X8_init_8 at h
  refine lv_dup hx hb dX8_init_8 rfl ?_
  obtain ⟨_, S148, D147, hq146, h⟩ := c3_i h
  have hE149 := mn_X4_init_0 hq146
  have hE150 := mn_X8_init_12 h
  refine r_cINA [] [.ref as1, .ref as0] hC hw (k_X4_init _ his1 hq146) mk_X4_init hw.2.2.2.2.2.2.n0 ⟨Nat.le_trans (by decide) hR.1, Nat.le_trans (by decide) hR.2⟩ (hc.roomC ho hE149 hE150) rfl hl.1 rfl (Nat.le_of_ble_eq_true rfl) dX8_init_9 (fun ad151 hP H locs hw => ?_)
  refine W.eq (g2 := F0 m 12 ls [.ref as1, .ref as0]) rfl ?_
  have hi152 := Is.up his1 hE149 hP.1
  have hi153 := Is.up his0 hE149 hP.1
  have hi154 := Is.up hi0 hE149 hP.1
  have hc := hc.call hE149 hP.1
  exact w_X8_init_12 hC hin hR ho o0 a0 os0 as0 os1 as1 _ _ _ _ _ _ _ _ hi154 hi153 hi152 hw hc (lv_sub hl [0] rfl) h --j155
theorem mn_X8_init_0 {r : Unit} {S' : sh} {D' : dt} {o0 : Nat} {S : sh} {D : dt} (h : f_X8_init o0 S D = some (r, S', D')) : Ext S S' := by
  unfold f_X8_init at h
  have hA := (Ext.aS S 3 0 6)
  exact hA.tr (mn_X8_init_8 h)
set_option maxHeartbeats 4000000 in
set_option maxRecDepth 100000 in
theorem w_X8_init_0 {r : Unit} {S' : sh} {D' : dt} {S0 : sh} {ad0 : Nat → Nat} (hC : Cx RX8 cX8_init 1 none p s m args meth c) (hin : meth.name = "<init>") (hR : 3 ≤ R.frames ∧ 62 ≤ R.locals) (ho : R.cells = sN S' - sN S0 ∧ R.slots = sZ S' - sZ S0) : ∀ (o0 a0 : Nat) (S : sh) (D : dt) (ad : Nat → Nat) (H : Heap) (locs : List Loc) (ls : Array Slot) (cells slots : Nat), Is S ad o0 a0 7 → Wd G cA S D ad A s H locs → Al S0 ad0 S ad cells slots → lv_has ls 1 [(0, .ref a0)] → f_X8_init o0 S D = some (r, S', D') → W p l e R s m args below meth c H locs cells slots (MQ below (Qa (fun _ => none) (fun ad' => (∀ k, k < sN S0 → ad' k = ad0 k) ∧ True) (fun ad' => wpost G cA S' D' ad' A) A) args s (sN S' - sN S0) (sZ S' - sZ S0) A) (F0 m 0 ls []) := by
  obtain ⟨hx, hb, -⟩ := id hC
  intro o0 a0 S D ad H locs ls cells slots hi0 hw hc hl h
  have hE : Ext S S' := mn_X8_init_0  h
  unfold f_X8_init at h
  refine lv_aload_n hx hb dX8_init_0 rfl (lv_at hl 0 rfl) ?_
  refine W.objInit hx hb hC.2.2.2.1 (hC.2.2.2.2.1 _ lk_132) (hC.2.2.2.2.1 _ lk_133) (hC.2.2.2.2.1 _ cd_obj) rfl (by rw [hC.2.2.1]; exact hl.1) rfl dX8_init_1 (Nat.le_trans (by decide) hR.1) (Nat.le_trans (Nat.le_of_ble_eq_true rfl) hR.2) ?_
  refine W.eq (g2 := F0 m 4 ls []) rfl ?_
  refine lv_aload_n hx hb dX8_init_4 rfl (lv_at hl 0 rfl) ?_
  have hE158 := mn_X8_init_8 h
  refine r_new hC hw kc_3 df_3 lk_135 lk_136 lk_115 (hc.room ho hE158).1 (hc.room ho hE158).2 dX8_init_5 (fun q156 H hw hi157 => ?_)
  have hi159 := Is.up hi0 (Ext.aS S 3 0 6) (up_lt (q := q156))
  have hc := hc.new 3 0 6 q156
  exact w_X8_init_8 hC hin hR ho o0 a0 o0 a0 (sN S) q156 _ _ _ _ _ _ _ _ hi159 hi159 hi157 hw hc (lv_sub hl [0] rfl) h --j160
set_option maxHeartbeats 4000000 in
set_option maxRecDepth 100000 in
theorem k_X8_init {l : Launch} {G : va_G} {cA : Nat → ClassId} {S S' : sh} {D D' : dt} {ad : Nat → Nat} (sz : Nat) {o0 a0 : Nat} {r : Unit} (hi0 : Is S ad o0 a0 7) (h : f_X8_init o0 S D = some (r, S', D')) : CoA l yX8_init (Cond.code yX8_init cX8_init 1 none :: tb0) 3 62 [.ref a0] G cA S D ad sz (fun _ => none) True S' D' := by
  refine Met.ofW (cc := cX8_init) (maxL := 1) (ret := none) (by decide) rfl ?_
  intro p e s m args below meth c s₁ B hml hv
  obtain ⟨rfl, hsz, hP, hK, hD0, hT, hX⟩ := hv
  subst hsz
  have hts := atoms_spec (ws := Cond.code yX8_init cX8_init 1 none :: tb0) B.pre
  have hC : Cx RX8 cX8_init 1 none p s m _ meth c := ⟨B.exec, B.bytes, hml, findClass_of_methodNamed B.named, fun w q => hts w (List.mem_cons_of_mem _ q), B.returns, B.notSynchronized⟩
  have hin : meth.name = "<init>" := (name_of_methodNamed B.named B.method).1
  have hw := Wd.entry hP hK hD0 hT hX
  have hl := lv_entry ([.ref a0]) (n := 1) (Nat.le_of_ble_eq_true rfl)
  rw [lg_entry_eq]
  exact w_X8_init_0 hC hin ⟨Nat.le_refl _, Nat.le_refl _⟩ ⟨rfl, rfl⟩ o0 a0 S D ad _ _ _ 0 0 hi0 hw (Al.rf S ad) hl h
set_option maxHeartbeats 4000000 in
set_option maxRecDepth 100000 in
theorem w_X8_fitsSlot_0 {r : Int32} (hC : Cx RX8 cX8_fitsSlot 3 (some .boolean) p s m args meth c) (hR : 0 ≤ R.frames ∧ 0 ≤ R.locals) : ∀ (x0 : Int32) (x1 : Int32) (x2 : Int32) (H : Heap) (locs : List Loc) (ls : Array Slot), Wd G cA S D ad A s H locs → lv_has ls 3 [(0, .int x0), (1, .int x1), (2, .int x2)] → f_X8_fitsSlot x0 x1 x2 = some r → W p l e R s m args below meth c H locs 0 0 (MQ below (Qn (some (.int r)) True (wpost G cA S D ad A) A) args s 0 0 A) (F0 m 0 ls []) := by
  obtain ⟨hx, hb, -⟩ := id hC
  intro x0 x1 x2 H locs ls hw hl h
  unfold f_X8_fitsSlot at h
  refine lv_iload_n hx hb dX8_fitsSlot_0 rfl (lv_at hl 0 rfl) ?_
  refine lv_if_lt (tgt := 40) hx hb dX8_fitsSlot_1 (by decide) (fun c7 => ?_) (fun c7 => ?_)
  · have h := i_yes c7 h
    refine lv_iconst (v := 0) hx hb dX8_fitsSlot_40 (by decide) ?_
    cases h
    exact r_zret hC hw (Or.inl rfl) dX8_fitsSlot_41
  · have h := i_no c7 h
    refine lv_iload_n hx hb dX8_fitsSlot_4 rfl (lv_at hl 0 rfl) ?_
    refine lv_sipush (v := 255) hx hb dX8_fitsSlot_5 (by decide) ?_
    refine lv_icmp_gt (tgt := 40) hx hb dX8_fitsSlot_8 (by decide) (fun c8 => ?_) (fun c8 => ?_)
    · have h := i_yes c8 h
      refine lv_iconst (v := 0) hx hb dX8_fitsSlot_40 (by decide) ?_
      cases h
      exact r_zret hC hw (Or.inl rfl) dX8_fitsSlot_41
    · have h := i_no c8 h
      refine lv_iload_n hx hb dX8_fitsSlot_11 rfl (lv_at hl 1 rfl) ?_
      refine lv_if_lt (tgt := 40) hx hb dX8_fitsSlot_12 (by decide) (fun c9 => ?_) (fun c9 => ?_)
      · have h := i_yes c9 h
        refine lv_iconst (v := 0) hx hb dX8_fitsSlot_40 (by decide) ?_
        cases h
        exact r_zret hC hw (Or.inl rfl) dX8_fitsSlot_41
      · have h := i_no c9 h
        refine lv_iload_n hx hb dX8_fitsSlot_15 rfl (lv_at hl 1 rfl) ?_
        refine lv_sipush (v := 255) hx hb dX8_fitsSlot_16 (by decide) ?_
        refine lv_icmp_gt (tgt := 40) hx hb dX8_fitsSlot_19 (by decide) (fun c10 => ?_) (fun c10 => ?_)
        · have h := i_yes c10 h
          refine lv_iconst (v := 0) hx hb dX8_fitsSlot_40 (by decide) ?_
          cases h
          exact r_zret hC hw (Or.inl rfl) dX8_fitsSlot_41
        · have h := i_no c10 h
          refine lv_iload_n hx hb dX8_fitsSlot_22 rfl (lv_at hl 2 rfl) ?_
          refine lv_sipush (v := (-32768)) hx hb dX8_fitsSlot_23 (by decide) ?_
          refine lv_icmp_lt (tgt := 40) hx hb dX8_fitsSlot_26 (by decide) (fun c11 => ?_) (fun c11 => ?_)
          · have h := i_yes c11 h
            refine lv_iconst (v := 0) hx hb dX8_fitsSlot_40 (by decide) ?_
            cases h
            exact r_zret hC hw (Or.inl rfl) dX8_fitsSlot_41
          · have h := i_no c11 h
            refine lv_iload_n hx hb dX8_fitsSlot_29 rfl (lv_at hl 2 rfl) ?_
            refine lv_sipush (v := 32767) hx hb dX8_fitsSlot_30 (by decide) ?_
            refine lv_icmp_gt (tgt := 40) hx hb dX8_fitsSlot_33 (by decide) (fun c12 => ?_) (fun c12 => ?_)
            · have h := i_yes c12 h
              refine lv_iconst (v := 0) hx hb dX8_fitsSlot_40 (by decide) ?_
              cases h
              exact r_zret hC hw (Or.inl rfl) dX8_fitsSlot_41
            · have h := i_no c12 h
              refine lv_iconst (v := 1) hx hb dX8_fitsSlot_36 (by decide) ?_
              refine lv_goto (tgt := 41) hx hb dX8_fitsSlot_37 (by decide) ?_
              cases h
              exact r_zret hC hw (Or.inr rfl) dX8_fitsSlot_41
set_option maxHeartbeats 4000000 in
set_option maxRecDepth 100000 in
theorem k_X8_fitsSlot {l : Launch} {G : va_G} {cA : Nat → ClassId} {S : sh} {D : dt} {ad : Nat → Nat} (sz : Nat) {x0 : Int32} {x1 : Int32} {x2 : Int32} {r : Int32}  (h : f_X8_fitsSlot x0 x1 x2 = some r) : Co l yX8_fitsSlot (Cond.code yX8_fitsSlot cX8_fitsSlot 3 (some .boolean) :: tb0) 0 0 [.int x0, .int x1, .int x2] G cA S D ad sz (some (.int r)) True D := by
  refine Met.ofW (cc := cX8_fitsSlot) (maxL := 3) (ret := (some .boolean)) (by decide) rfl ?_
  intro p e s m args below meth c s₁ B hml hv
  obtain ⟨rfl, hsz, hP, hK, hD0, hT, hX⟩ := hv
  subst hsz
  have hts := atoms_spec (ws := Cond.code yX8_fitsSlot cX8_fitsSlot 3 (some .boolean) :: tb0) B.pre
  have hC : Cx RX8 cX8_fitsSlot 3 (some .boolean) p s m _ meth c := ⟨B.exec, B.bytes, hml, findClass_of_methodNamed B.named, fun w q => hts w (List.mem_cons_of_mem _ q), B.returns, B.notSynchronized⟩
  have hw := Wd.entry hP hK hD0 hT hX
  have hl := lv_entry ([.int x0, .int x1, .int x2]) (n := 3) (Nat.le_of_ble_eq_true rfl)
  rw [lg_entry_eq]
  exact w_X8_fitsSlot_0 hC ⟨Nat.le_refl _, Nat.le_refl _⟩ x0 x1 x2 _ _ _ hw hl h
set_option maxHeartbeats 4000000 in
set_option maxRecDepth 100000 in
theorem w_X8_feed_0 {r : Int32} {D' : dt} (hC : Cx RX8 cX8_feed 6 (some .int) p s m args meth c) (hR : 2 ≤ R.frames ∧ 46 ≤ R.locals) : ∀ (o0 a0 : Nat) (x1 : Int32) (x2 : Int32) (x3 : Int32) (x4 : Int32) (D : dt) (H : Heap) (locs : List Loc) (ls : Array Slot), Is S ad o0 a0 7 → Wd G cA S D ad A s H locs → lv_has ls 6 [(0, .ref a0), (1, .int x1), (2, .int x2), (3, .int x3), (4, .int x4)] → f_X8_feed S o0 x1 x2 x3 x4 D = some (r, D') → W p l e R s m args below meth c H locs 0 0 (MQ below (Qn (some (.int r)) True (wpost G cA S D' ad A) A) args s 0 0 A) (F0 m 0 ls []) := by
  obtain ⟨hx, hb, -⟩ := id hC
  intro o0 a0 x1 x2 x3 x4 D H locs ls hi0 hw hl h
  unfold f_X8_feed at h
  refine lv_iload_n hx hb dX8_feed_0 rfl (lv_at hl 1 rfl) ?_
  refine lv_iload_n hx hb dX8_feed_1 rfl (lv_at hl 2 rfl) ?_
  refine lv_iload_n hx hb dX8_feed_2 rfl (lv_at hl 3 rfl) ?_
  obtain ⟨r31, hq30, h⟩ := pq_i h
  refine r_cS (st' := [.int r31]) [.int x1, .int x2, .int x3] [] hC hw (k_X8_fitsSlot _ hq30) mk_X8_fitsSlot lk_372 ⟨Nat.le_trans (by decide) hR.1, Nat.le_trans (by decide) hR.2⟩ ⟨Nat.zero_le _, Nat.zero_le _⟩ rfl hl.1 rfl rfl (Nat.le_of_ble_eq_true rfl) dX8_feed_3 (fun hP H locs hw => ?_)
  refine lv_if_ne (tgt := 12) hx hb dX8_feed_6 (by decide) (fun c32 => ?_) (fun c32 => ?_)
  · have h := i_no c32 h
    refine lv_aload_n hx hb dX8_feed_12 rfl (lv_at hl 0 rfl) ?_
    obtain ⟨o33, ho36, h⟩ := rq_i h
    refine r_getR hC hw kc_7 hi0 0 rfl lk_355 dX8_feed_13 rfl ho36 (fun a34 hi35 => ?_)
    refine r_gI hC hw kc_3 hi35 5 rfl lk_157 dX8_feed_16 ?_
    refine lv_sipush (v := 200) hx hb dX8_feed_19 (by decide) ?_
    refine lv_icmp_lt (tgt := 28) hx hb dX8_feed_22 (by decide) (fun c37 => ?_) (fun c37 => ?_)
    · have h := i_yes c37 h
      refine lv_aload_n hx hb dX8_feed_28 rfl (lv_at hl 0 rfl) ?_
      obtain ⟨o38, ho41, h⟩ := rq_i h
      refine r_getR hC hw kc_7 hi0 0 rfl lk_355 dX8_feed_29 rfl ho41 (fun a39 hi40 => ?_)
      refine r_gI hC hw kc_3 hi40 5 rfl lk_157 dX8_feed_32 ?_
      refine lv_topi (fun y42 ey42 => ?_)
      have h := nm_i h y42 ey42
      refine lv_istore (lv' := [(5, .int y42), (0, .ref a0), (1, .int x1), (2, .int x2), (3, .int x3), (4, .int x4)]) hx hb dX8_feed_35 hl (by decide) rfl (fun ls hl => ?_)
      refine lv_aload_n hx hb dX8_feed_37 rfl (lv_at hl 1 rfl) ?_
      obtain ⟨o43, ho46, h⟩ := rq_i h
      refine r_getR hC hw kc_7 hi0 0 rfl lk_355 dX8_feed_38 rfl ho46 (fun a44 hi45 => ?_)
      refine lv_iload hx hb dX8_feed_41 (lv_at hl 0 rfl) ?_
      refine lv_iconst (v := 1) hx hb dX8_feed_43 (by decide) ?_
      refine lv_iadd hx hb dX8_feed_44 ?_
      refine r_pI hC hw kc_3 hi45 5 rfl lk_157 rfl rfl rfl dX8_feed_45 (fun D47 eD47 H locs hw => ?_)
      have h := nm_i h D47 eD47
      refine lv_aload_n hx hb dX8_feed_48 rfl (lv_at hl 1 rfl) ?_
      obtain ⟨o48, ho51, h⟩ := rq_i h
      refine r_getR hC hw kc_7 hi0 0 rfl lk_355 dX8_feed_49 rfl ho51 (fun a49 hi50 => ?_)
      refine lv_iload hx hb dX8_feed_52 (lv_at hl 0 rfl) ?_
      refine lv_iload_n hx hb dX8_feed_54 rfl (lv_at hl 2 rfl) ?_
      refine lv_iload_n hx hb dX8_feed_55 rfl (lv_at hl 3 rfl) ?_
      refine lv_iload_n hx hb dX8_feed_56 rfl (lv_at hl 4 rfl) ?_
      refine lv_iload hx hb dX8_feed_57 (lv_at hl 5 rfl) ?_
      obtain ⟨_, D53, hq52, h⟩ := cq_i h
      refine r_cV (st' := []) [.int y42, .int x1, .int x2, .int x3, .int x4] [] hC hw kc_3 hi50 (k_X4_write _ hi50 hq52) mk_X4_write lk_375 ⟨Nat.le_trans (by decide) hR.1, Nat.le_trans (by decide) hR.2⟩ ⟨Nat.zero_le _, Nat.zero_le _⟩ rfl hl.1 rfl rfl (Nat.le_of_ble_eq_true rfl) dX8_feed_59 (fun hP H locs hw => ?_)
      refine lv_aload_n hx hb dX8_feed_62 rfl (lv_at hl 1 rfl) ?_
      obtain ⟨o54, ho57, h⟩ := rq_i h
      refine r_getR hC hw kc_7 hi0 2 rfl lk_357 dX8_feed_63 rfl ho57 (fun a55 hi56 => ?_)
      refine lv_iconst (v := 0) hx hb dX8_feed_66 (by decide) ?_
      refine r_pI hC hw kc_1 hi56 5 rfl lk_227 rfl rfl rfl dX8_feed_67 (fun D58 eD58 H locs hw => ?_)
      have h := nm_i h D58 eD58
      refine lv_iload hx hb dX8_feed_70 (lv_at hl 0 rfl) ?_
      cases h
      exact r_iret hC hw dX8_feed_72
    · have h := i_no c37 h
      refine lv_bipush (v := (-4)) hx hb dX8_feed_25 (by decide) ?_
      cases h
      exact r_iret hC hw dX8_feed_27
  · have h := i_yes c32 h
    refine lv_bipush (v := (-2)) hx hb dX8_feed_9 (by decide) ?_
    cases h
    exact r_iret hC hw dX8_feed_11
set_option maxHeartbeats 4000000 in
set_option maxRecDepth 100000 in
theorem k_X8_feed {l : Launch} {G : va_G} {cA : Nat → ClassId} {S : sh} {D D' : dt} {ad : Nat → Nat} (sz : Nat) {o0 a0 : Nat} {x1 : Int32} {x2 : Int32} {x3 : Int32} {x4 : Int32} {r : Int32} (hi0 : Is S ad o0 a0 7) (h : f_X8_feed S o0 x1 x2 x3 x4 D = some (r, D')) : Co l yX8_feed (Cond.code yX8_feed cX8_feed 6 (some .int) :: tb0) 2 46 [.ref a0, .int x1, .int x2, .int x3, .int x4] G cA S D ad sz (some (.int r)) True D' := by
  refine Met.ofW (cc := cX8_feed) (maxL := 6) (ret := (some .int)) (by decide) rfl ?_
  intro p e s m args below meth c s₁ B hml hv
  obtain ⟨rfl, hsz, hP, hK, hD0, hT, hX⟩ := hv
  subst hsz
  have hts := atoms_spec (ws := Cond.code yX8_feed cX8_feed 6 (some .int) :: tb0) B.pre
  have hC : Cx RX8 cX8_feed 6 (some .int) p s m _ meth c := ⟨B.exec, B.bytes, hml, findClass_of_methodNamed B.named, fun w q => hts w (List.mem_cons_of_mem _ q), B.returns, B.notSynchronized⟩
  have hw := Wd.entry hP hK hD0 hT hX
  have hl := lv_entry ([.ref a0, .int x1, .int x2, .int x3, .int x4]) (n := 6) (Nat.le_of_ble_eq_true rfl)
  rw [lg_entry_eq]
  exact w_X8_feed_0 hC ⟨Nat.le_refl _, Nat.le_refl _⟩ o0 a0 x1 x2 x3 x4 D _ _ _ hi0 hw hl h
set_option maxHeartbeats 4000000 in
set_option maxRecDepth 100000 in
theorem w_X8_alter_0 {r : Int32} {D' : dt} (hC : Cx RX8 cX8_alter 6 (some .int) p s m args meth c) (hR : 2 ≤ R.frames ∧ 46 ≤ R.locals) : ∀ (o0 a0 : Nat) (x1 : Int32) (x2 : Int32) (x3 : Int32) (x4 : Int32) (x5 : Int32) (D : dt) (H : Heap) (locs : List Loc) (ls : Array Slot), Is S ad o0 a0 7 → Wd G cA S D ad A s H locs → lv_has ls 6 [(0, .ref a0), (1, .int x1), (2, .int x2), (3, .int x3), (4, .int x4), (5, .int x5)] → f_X8_alter S o0 x1 x2 x3 x4 x5 D = some (r, D') → W p l e R s m args below meth c H locs 0 0 (MQ below (Qn (some (.int r)) True (wpost G cA S D' ad A) A) args s 0 0 A) (F0 m 0 ls []) := by
  obtain ⟨hx, hb, -⟩ := id hC
  intro o0 a0 x1 x2 x3 x4 x5 D H locs ls hi0 hw hl h
  unfold f_X8_alter at h
  refine lv_aload_n hx hb dX8_alter_0 rfl (lv_at hl 0 rfl) ?_
  obtain ⟨o22, ho25, h⟩ := rq_i h
  refine r_getR hC hw kc_7 hi0 0 rfl lk_355 dX8_alter_1 rfl ho25 (fun a23 hi24 => ?_)
  refine lv_iload_n hx hb dX8_alter_4 rfl (lv_at hl 1 rfl) ?_
  obtain ⟨r27, hq26, h⟩ := pq_i h
  refine r_cV (st' := [.int r27]) [.int x1] [] hC hw kc_3 hi24 (k_X4_has _ hi24 hq26) mk_X4_has lk_387 ⟨Nat.le_trans (by decide) hR.1, Nat.le_trans (by decide) hR.2⟩ ⟨Nat.zero_le _, Nat.zero_le _⟩ rfl hl.1 rfl rfl (Nat.le_of_ble_eq_true rfl) dX8_alter_5 (fun hP H locs hw => ?_)
  refine lv_if_ne (tgt := 13) hx hb dX8_alter_8 (by decide) (fun c28 => ?_) (fun c28 => ?_)
  · have h := i_no c28 h
    refine lv_iload_n hx hb dX8_alter_13 rfl (lv_at hl 2 rfl) ?_
    refine lv_iload_n hx hb dX8_alter_14 rfl (lv_at hl 3 rfl) ?_
    refine lv_iload hx hb dX8_alter_15 (lv_at hl 4 rfl) ?_
    obtain ⟨r30, hq29, h⟩ := pq_i h
    refine r_cS (st' := [.int r30]) [.int x2, .int x3, .int x4] [] hC hw (k_X8_fitsSlot _ hq29) mk_X8_fitsSlot lk_372 ⟨Nat.le_trans (by decide) hR.1, Nat.le_trans (by decide) hR.2⟩ ⟨Nat.zero_le _, Nat.zero_le _⟩ rfl hl.1 rfl rfl (Nat.le_of_ble_eq_true rfl) dX8_alter_17 (fun hP H locs hw => ?_)
    refine lv_if_ne (tgt := 26) hx hb dX8_alter_20 (by decide) (fun c31 => ?_) (fun c31 => ?_)
    · have h := i_no c31 h
      refine lv_aload_n hx hb dX8_alter_26 rfl (lv_at hl 0 rfl) ?_
      obtain ⟨o32, ho35, h⟩ := rq_i h
      refine r_getR hC hw kc_7 hi0 0 rfl lk_355 dX8_alter_27 rfl ho35 (fun a33 hi34 => ?_)
      refine lv_iload_n hx hb dX8_alter_30 rfl (lv_at hl 1 rfl) ?_
      refine lv_iload_n hx hb dX8_alter_31 rfl (lv_at hl 2 rfl) ?_
      refine lv_iload_n hx hb dX8_alter_32 rfl (lv_at hl 3 rfl) ?_
      refine lv_iload hx hb dX8_alter_33 (lv_at hl 4 rfl) ?_
      refine lv_iload hx hb dX8_alter_35 (lv_at hl 5 rfl) ?_
      obtain ⟨_, D37, hq36, h⟩ := cq_i h
      refine r_cV (st' := []) [.int x1, .int x2, .int x3, .int x4, .int x5] [] hC hw kc_3 hi34 (k_X4_write _ hi34 hq36) mk_X4_write lk_375 ⟨Nat.le_trans (by decide) hR.1, Nat.le_trans (by decide) hR.2⟩ ⟨Nat.zero_le _, Nat.zero_le _⟩ rfl hl.1 rfl rfl (Nat.le_of_ble_eq_true rfl) dX8_alter_37 (fun hP H locs hw => ?_)
      refine lv_aload_n hx hb dX8_alter_40 rfl (lv_at hl 0 rfl) ?_
      obtain ⟨o38, ho41, h⟩ := rq_i h
      refine r_getR hC hw kc_7 hi0 2 rfl lk_357 dX8_alter_41 rfl ho41 (fun a39 hi40 => ?_)
      refine lv_iconst (v := 0) hx hb dX8_alter_44 (by decide) ?_
      refine r_pI hC hw kc_1 hi40 5 rfl lk_227 rfl rfl rfl dX8_alter_45 (fun D42 eD42 H locs hw => ?_)
      have h := nm_i h D42 eD42
      refine lv_iconst (v := 1) hx hb dX8_alter_48 (by decide) ?_
      cases h
      exact r_iret hC hw dX8_alter_49
    · have h := i_yes c31 h
      refine lv_bipush (v := (-2)) hx hb dX8_alter_23 (by decide) ?_
      cases h
      exact r_iret hC hw dX8_alter_25
  · have h := i_yes c28 h
    refine lv_iconst (v := (-1)) hx hb dX8_alter_11 (by decide) ?_
    cases h
    exact r_iret hC hw dX8_alter_12
set_option maxHeartbeats 4000000 in
set_option maxRecDepth 100000 in
theorem k_X8_alter {l : Launch} {G : va_G} {cA : Nat → ClassId} {S : sh} {D D' : dt} {ad : Nat → Nat} (sz : Nat) {o0 a0 : Nat} {x1 : Int32} {x2 : Int32} {x3 : Int32} {x4 : Int32} {x5 : Int32} {r : Int32} (hi0 : Is S ad o0 a0 7) (h : f_X8_alter S o0 x1 x2 x3 x4 x5 D = some (r, D')) : Co l yX8_alter (Cond.code yX8_alter cX8_alter 6 (some .int) :: tb0) 2 46 [.ref a0, .int x1, .int x2, .int x3, .int x4, .int x5] G cA S D ad sz (some (.int r)) True D' := by
  refine Met.ofW (cc := cX8_alter) (maxL := 6) (ret := (some .int)) (by decide) rfl ?_
  intro p e s m args below meth c s₁ B hml hv
  obtain ⟨rfl, hsz, hP, hK, hD0, hT, hX⟩ := hv
  subst hsz
  have hts := atoms_spec (ws := Cond.code yX8_alter cX8_alter 6 (some .int) :: tb0) B.pre
  have hC : Cx RX8 cX8_alter 6 (some .int) p s m _ meth c := ⟨B.exec, B.bytes, hml, findClass_of_methodNamed B.named, fun w q => hts w (List.mem_cons_of_mem _ q), B.returns, B.notSynchronized⟩
  have hw := Wd.entry hP hK hD0 hT hX
  have hl := lv_entry ([.ref a0, .int x1, .int x2, .int x3, .int x4, .int x5]) (n := 6) (Nat.le_of_ble_eq_true rfl)
  rw [lg_entry_eq]
  exact w_X8_alter_0 hC ⟨Nat.le_refl _, Nat.le_refl _⟩ o0 a0 x1 x2 x3 x4 x5 D _ _ _ hi0 hw hl h
set_option maxHeartbeats 4000000 in
set_option maxRecDepth 100000 in
theorem w_X8_cut_0 {r : Int32} {D' : dt} (hC : Cx RX8 cX8_cut 3 (some .int) p s m args meth c) (hR : 0 ≤ R.frames ∧ 0 ≤ R.locals) : ∀ (o0 a0 : Nat) (x1 : Int32) (D : dt) (H : Heap) (locs : List Loc) (ls : Array Slot), Is S ad o0 a0 7 → Wd G cA S D ad A s H locs → lv_has ls 3 [(0, .ref a0), (1, .int x1)] → f_X8_cut S o0 x1 D = some (r, D') → W p l e R s m args below meth c H locs 0 0 (MQ below (Qn (some (.int r)) True (wpost G cA S D' ad A) A) args s 0 0 A) (F0 m 0 ls []) := by
  obtain ⟨hx, hb, -⟩ := id hC
  intro o0 a0 x1 D H locs ls hi0 hw hl h
  unfold f_X8_cut at h
  refine lv_aload_n hx hb dX8_cut_0 rfl (lv_at hl 0 rfl) ?_
  obtain ⟨o18, ho21, h⟩ := rq_i h
  refine r_getR hC hw kc_7 hi0 0 rfl lk_355 dX8_cut_1 rfl ho21 (fun a19 hi20 => ?_)
  refine r_gI hC hw kc_3 hi20 5 rfl lk_157 dX8_cut_4 ?_
  refine lv_topi (fun y22 ey22 => ?_)
  have h := nm_i h y22 ey22
  refine lv_istore_n (lv' := [(2, .int y22), (0, .ref a0), (1, .int x1)]) hx hb dX8_cut_7 rfl hl (by decide) rfl (fun ls hl => ?_)
  refine lv_iload_n hx hb dX8_cut_8 rfl (lv_at hl 2 rfl) ?_
  refine lv_if_lt (tgt := 17) hx hb dX8_cut_9 (by decide) (fun c23 => ?_) (fun c23 => ?_)
  · have h := i_yes c23 h
    refine lv_bipush (v := (-2)) hx hb dX8_cut_17 (by decide) ?_
    cases h
    exact r_iret hC hw dX8_cut_19
  · have h := i_no c23 h
    refine lv_iload_n hx hb dX8_cut_12 rfl (lv_at hl 2 rfl) ?_
    refine lv_iload_n hx hb dX8_cut_13 rfl (lv_at hl 0 rfl) ?_
    refine lv_icmp_le (tgt := 20) hx hb dX8_cut_14 (by decide) (fun c24 => ?_) (fun c24 => ?_)
    · have h := i_yes c24 h
      refine lv_aload_n hx hb dX8_cut_20 rfl (lv_at hl 1 rfl) ?_
      obtain ⟨o25, ho28, h⟩ := rq_i h
      refine r_getR hC hw kc_7 hi0 0 rfl lk_355 dX8_cut_21 rfl ho28 (fun a26 hi27 => ?_)
      refine lv_iload_n hx hb dX8_cut_24 rfl (lv_at hl 2 rfl) ?_
      refine r_pI hC hw kc_3 hi27 5 rfl lk_157 rfl rfl rfl dX8_cut_25 (fun D29 eD29 H locs hw => ?_)
      have h := nm_i h D29 eD29
      refine lv_aload_n hx hb dX8_cut_28 rfl (lv_at hl 1 rfl) ?_
      obtain ⟨o30, ho33, h⟩ := rq_i h
      refine r_getR hC hw kc_7 hi0 2 rfl lk_357 dX8_cut_29 rfl ho33 (fun a31 hi32 => ?_)
      refine lv_iconst (v := 0) hx hb dX8_cut_32 (by decide) ?_
      refine r_pI hC hw kc_1 hi32 5 rfl lk_227 rfl rfl rfl dX8_cut_33 (fun D34 eD34 H locs hw => ?_)
      have h := nm_i h D34 eD34
      refine lv_iload_n hx hb dX8_cut_36 rfl (lv_at hl 0 rfl) ?_
      cases h
      exact r_iret hC hw dX8_cut_37
    · have h := i_no c24 h
      refine lv_bipush (v := (-2)) hx hb dX8_cut_17 (by decide) ?_
      cases h
      exact r_iret hC hw dX8_cut_19
set_option maxHeartbeats 4000000 in
set_option maxRecDepth 100000 in
theorem k_X8_cut {l : Launch} {G : va_G} {cA : Nat → ClassId} {S : sh} {D D' : dt} {ad : Nat → Nat} (sz : Nat) {o0 a0 : Nat} {x1 : Int32} {r : Int32} (hi0 : Is S ad o0 a0 7) (h : f_X8_cut S o0 x1 D = some (r, D')) : Co l yX8_cut (Cond.code yX8_cut cX8_cut 3 (some .int) :: tb0) 0 0 [.ref a0, .int x1] G cA S D ad sz (some (.int r)) True D' := by
  refine Met.ofW (cc := cX8_cut) (maxL := 3) (ret := (some .int)) (by decide) rfl ?_
  intro p e s m args below meth c s₁ B hml hv
  obtain ⟨rfl, hsz, hP, hK, hD0, hT, hX⟩ := hv
  subst hsz
  have hts := atoms_spec (ws := Cond.code yX8_cut cX8_cut 3 (some .int) :: tb0) B.pre
  have hC : Cx RX8 cX8_cut 3 (some .int) p s m _ meth c := ⟨B.exec, B.bytes, hml, findClass_of_methodNamed B.named, fun w q => hts w (List.mem_cons_of_mem _ q), B.returns, B.notSynchronized⟩
  have hw := Wd.entry hP hK hD0 hT hX
  have hl := lv_entry ([.ref a0, .int x1]) (n := 3) (Nat.le_of_ble_eq_true rfl)
  rw [lg_entry_eq]
  exact w_X8_cut_0 hC ⟨Nat.le_refl _, Nat.le_refl _⟩ o0 a0 x1 D _ _ _ hi0 hw hl h
theorem mn_X8_table_97 {r : Int32} {S' : sh} {D' : dt} {os0 : Nat} {os1 : Nat} {S : sh} {D : dt} (h : f_X8_table_97 os0 os1 S D = some (r, S', D')) : Ext S S' := by
  unfold f_X8_table_97 at h
  obtain ⟨r46, D47, hq45, h⟩ := cq_i h
  cases h
  exact Ext.rf _
set_option maxHeartbeats 4000000 in
set_option maxRecDepth 100000 in
theorem w_X8_table_97 {r : Int32} {S' : sh} {D' : dt} {S0 : sh} {ad0 : Nat → Nat} (hC : Cx RX8 cX8_table 5 (some .int) p s m args meth c) (hR : 2 ≤ R.frames ∧ 44 ≤ R.locals) (ho : R.cells = sN S' - sN S0 ∧ R.slots = sZ S' - sZ S0) : ∀ (os0 as0 : Nat) (os1 as1 : Nat) (S : sh) (D : dt) (ad : Nat → Nat) (H : Heap) (locs : List Loc) (ls : Array Slot) (cells slots : Nat), Is S ad os0 as0 2 → Is S ad os1 as1 6 → Wd G cA S D ad A s H locs → Al S0 ad0 S ad cells slots → lv_has ls 5 [] → f_X8_table_97 os0 os1 S D = some (r, S', D') → W p l e R s m args below meth c H locs cells slots (MQ below (Qa (fun _ => (some (.int r))) (fun ad' => (∀ k, k < sN S0 → ad' k = ad0 k) ∧ True) (fun ad' => wpost G cA S' D' ad' A) A) args s (sN S' - sN S0) (sZ S' - sZ S0) A) (F0 m 97 ls [.ref as1, .ref as0]) := by
  obtain ⟨hx, hb, -⟩ := id hC
  intro os0 as0 os1 as1 S D ad H locs ls cells slots his0 his1 hw hc hl h
  have hE : Ext S S' := mn_X8_table_97  h
  unfold f_X8_table_97 at h
  obtain ⟨r46, D47, hq45, h⟩ := cq_i h
  refine r_cV (st' := [.int r46]) [.ref as1] [] hC hw kc_2 his0 (k_X2_addTable _ his0 his1 hq45) mk_X2_addTable lk_431 ⟨Nat.le_trans (by decide) hR.1, Nat.le_trans (by decide) hR.2⟩ (hc.le ho hE) rfl hl.1 rfl rfl (Nat.le_of_ble_eq_true rfl) dX8_table_97 (fun hP H locs hw => ?_)
  cases h
  exact r_iretA hC hw hc dX8_table_100
theorem mn_X8_table_90 {r : Int32} {S' : sh} {D' : dt} {x2 : Int32} {x3 : Int32} {x4 : Int32} {os0 : Nat} {os1 : Nat} {os2 : Nat} {xs3 : Int32} {S : sh} {D : dt} (h : f_X8_table_90 x2 x3 x4 os0 os1 os2 xs3 S D = some (r, S', D')) : Ext S S' := by
  unfold f_X8_table_90 at h
  obtain ⟨_, S50, D49, hq48, h⟩ := c3_i h
  have hA := mn_X7_init_0 hq48
  exact hA.tr (mn_X8_table_97 h)
set_option maxHeartbeats 4000000 in
set_option maxRecDepth 100000 in
theorem w_X8_table_90 {r : Int32} {S' : sh} {D' : dt} {S0 : sh} {ad0 : Nat → Nat} (hC : Cx RX8 cX8_table 5 (some .int) p s m args meth c) (hR : 2 ≤ R.frames ∧ 44 ≤ R.locals) (ho : R.cells = sN S' - sN S0 ∧ R.slots = sZ S' - sZ S0) : ∀ (x2 : Int32) (x3 : Int32) (x4 : Int32) (os0 as0 : Nat) (os1 as1 : Nat) (os2 as2 : Nat) (xs3 : Int32) (S : sh) (D : dt) (ad : Nat → Nat) (H : Heap) (locs : List Loc) (ls : Array Slot) (cells slots : Nat), Is S ad os0 as0 2 → Is S ad os1 as1 6 → Is S ad os2 as2 6 → Wd G cA S D ad A s H locs → Al S0 ad0 S ad cells slots → lv_has ls 5 [(2, .int x2), (3, .int x3), (4, .int x4)] → f_X8_table_90 x2 x3 x4 os0 os1 os2 xs3 S D = some (r, S', D') → W p l e R s m args below meth c H locs cells slots (MQ below (Qa (fun _ => (some (.int r))) (fun ad' => (∀ k, k < sN S0 → ad' k = ad0 k) ∧ True) (fun ad' => wpost G cA S' D' ad' A) A) args s (sN S' - sN S0) (sZ S' - sZ S0) A) (F0 m 90 ls [.int xs3, .ref as2, .ref as1, .ref as0]) := by
  obtain ⟨hx, hb, -⟩ := id hC
  intro x2 x3 x4 os0 as0 os1 as1 os2 as2 xs3 S D ad H locs ls cells slots his0 his1 his2 hw hc hl h
  have hE : Ext S S' := mn_X8_table_90  h
  unfold f_X8_table_90 at h
  refine lv_iload_n hx hb dX8_table_90 rfl (lv_at hl 0 rfl) ?_
  refine lv_iload_n hx hb dX8_table_91 rfl (lv_at hl 1 rfl) ?_
  refine lv_iload hx hb dX8_table_92 (lv_at hl 2 rfl) ?_
  obtain ⟨_, S50, D49, hq48, h⟩ := c3_i h
  have hE51 := mn_X7_init_0 hq48
  have hE52 := mn_X8_table_97 h
  refine r_cIA [.int xs3, .int x2, .int x3, .int x4] [.ref as1, .ref as0] hC hw (k_X7_init _ his2 hq48) mk_X7_init lk_398 ⟨Nat.le_trans (by decide) hR.1, Nat.le_trans (by decide) hR.2⟩ (hc.roomC ho hE51 hE52) rfl hl.1 rfl (Nat.le_of_ble_eq_true rfl) dX8_table_94 (fun ad53 hP H locs hw => ?_)
  refine W.eq (g2 := F0 m 97 ls [.ref as1, .ref as0]) rfl ?_
  have hi54 := Is.up his1 hE51 hP.1
  have hi55 := Is.up his0 hE51 hP.1
  have hc := hc.call hE51 hP.1
  exact w_X8_table_97 hC hR ho os0 as0 os1 as1 _ _ _ _ _ _ _ _ hi55 hi54 hw hc (lv_sub hl [] rfl) h --j56
theorem mn_X8_table_80 {r : Int32} {S' : sh} {D' : dt} {x1 : Int32} {x2 : Int32} {x3 : Int32} {x4 : Int32} {os0 : Nat} {os1 : Nat} {S : sh} {D : dt} (h : f_X8_table_80 x1 x2 x3 x4 os0 os1 S D = some (r, S', D')) : Ext S S' := by
  unfold f_X8_table_80 at h
  rcases (Decidable.em (x1 = 0)).symm with c57 | c57
  · have h := i_no c57 h
    exact (mn_X8_table_90 h)
  · have h := i_yes c57 h
    exact (mn_X8_table_90 h)
set_option maxHeartbeats 4000000 in
set_option maxRecDepth 100000 in
theorem w_X8_table_80 {r : Int32} {S' : sh} {D' : dt} {S0 : sh} {ad0 : Nat → Nat} (hC : Cx RX8 cX8_table 5 (some .int) p s m args meth c) (hR : 2 ≤ R.frames ∧ 44 ≤ R.locals) (ho : R.cells = sN S' - sN S0 ∧ R.slots = sZ S' - sZ S0) : ∀ (x1 : Int32) (x2 : Int32) (x3 : Int32) (x4 : Int32) (os0 as0 : Nat) (os1 as1 : Nat) (S : sh) (D : dt) (ad : Nat → Nat) (H : Heap) (locs : List Loc) (ls : Array Slot) (cells slots : Nat), Is S ad os0 as0 2 → Is S ad os1 as1 6 → Wd G cA S D ad A s H locs → Al S0 ad0 S ad cells slots → lv_has ls 5 [(1, .int x1), (2, .int x2), (3, .int x3), (4, .int x4)] → f_X8_table_80 x1 x2 x3 x4 os0 os1 S D = some (r, S', D') → W p l e R s m args below meth c H locs cells slots (MQ below (Qa (fun _ => (some (.int r))) (fun ad' => (∀ k, k < sN S0 → ad' k = ad0 k) ∧ True) (fun ad' => wpost G cA S' D' ad' A) A) args s (sN S' - sN S0) (sZ S' - sZ S0) A) (F0 m 80 ls [.ref as1, .ref as0]) := by
  obtain ⟨hx, hb, -⟩ := id hC
  intro x1 x2 x3 x4 os0 as0 os1 as1 S D ad H locs ls cells slots his0 his1 hw hc hl h
  have hE : Ext S S' := mn_X8_table_80  h
  unfold f_X8_table_80 at h
  refine lv_dup hx hb dX8_table_80 rfl ?_
  refine lv_iload_n hx hb dX8_table_81 rfl (lv_at hl 0 rfl) ?_
  refine lv_if_ne (tgt := 89) hx hb dX8_table_82 (by decide) (fun c57 => ?_) (fun c57 => ?_)
  · have h := i_no c57 h
    refine lv_iconst (v := 0) hx hb dX8_table_89 (by decide) ?_
    exact w_X8_table_90 hC hR ho x2 x3 x4 os0 as0 os1 as1 os1 as1 (0 : Int32) _ _ _ _ _ _ _ _ his0 his1 his1 hw hc (lv_sub hl [1, 2, 3] rfl) h --j58
  · have h := i_yes c57 h
    refine lv_iconst (v := 1) hx hb dX8_table_85 (by decide) ?_
    refine lv_goto (tgt := 90) hx hb dX8_table_86 (by decide) ?_
    exact w_X8_table_90 hC hR ho x2 x3 x4 os0 as0 os1 as1 os1 as1 (1 : Int32) _ _ _ _ _ _ _ _ his0 his1 his1 hw hc (lv_sub hl [1, 2, 3] rfl) h --j59
theorem mn_X8_table_45 {r : Int32} {S' : sh} {D' : dt} {o0 : Nat} {x1 : Int32} {x2 : Int32} {x3 : Int32} {x4 : Int32} {S : sh} {D : dt} (h : f_X8_table_45 o0 x1 x2 x3 x4 S D = some (r, S', D')) : Ext S S' := by
  unfold f_X8_table_45 at h
  rcases (Decidable.em (x2 < (1 : Int32))) with c60 | c60
  · have h := i_yes c60 h
    cases h
    exact Ext.rf _
  · have h := i_no c60 h
    rcases (Decidable.em (x2 ≤ (8 : Int32))) with c61 | c61
    · have h := i_yes c61 h
      obtain ⟨o62, ho65, h⟩ := rq_i h
      rcases (Decidable.em ((gI D o62 4) < (4 : Int32))) with c66 | c66
      · have h := i_yes c66 h
        obtain ⟨o67, ho70, h⟩ := rq_i h
        have hA := (Ext.aS S 6 0 7)
        exact hA.tr (mn_X8_table_80 h)
      · have h := i_no c66 h
        cases h
        exact Ext.rf _
    · have h := i_no c61 h
      cases h
      exact Ext.rf _
set_option maxHeartbeats 4000000 in
set_option maxRecDepth 100000 in
theorem w_X8_table_45 {r : Int32} {S' : sh} {D' : dt} {S0 : sh} {ad0 : Nat → Nat} (hC : Cx RX8 cX8_table 5 (some .int) p s m args meth c) (hR : 2 ≤ R.frames ∧ 44 ≤ R.locals) (ho : R.cells = sN S' - sN S0 ∧ R.slots = sZ S' - sZ S0) : ∀ (o0 a0 : Nat) (x1 : Int32) (x2 : Int32) (x3 : Int32) (x4 : Int32) (S : sh) (D : dt) (ad : Nat → Nat) (H : Heap) (locs : List Loc) (ls : Array Slot) (cells slots : Nat), Is S ad o0 a0 7 → Wd G cA S D ad A s H locs → Al S0 ad0 S ad cells slots → lv_has ls 5 [(0, .ref a0), (1, .int x1), (2, .int x2), (3, .int x3), (4, .int x4)] → f_X8_table_45 o0 x1 x2 x3 x4 S D = some (r, S', D') → W p l e R s m args below meth c H locs cells slots (MQ below (Qa (fun _ => (some (.int r))) (fun ad' => (∀ k, k < sN S0 → ad' k = ad0 k) ∧ True) (fun ad' => wpost G cA S' D' ad' A) A) args s (sN S' - sN S0) (sZ S' - sZ S0) A) (F0 m 45 ls []) := by
  obtain ⟨hx, hb, -⟩ := id hC
  intro o0 a0 x1 x2 x3 x4 S D ad H locs ls cells slots hi0 hw hc hl h
  have hE : Ext S S' := mn_X8_table_45  h
  unfold f_X8_table_45 at h
  refine lv_iload_n hx hb dX8_table_45 rfl (lv_at hl 2 rfl) ?_
  refine lv_iconst (v := 1) hx hb dX8_table_46 (by decide) ?_
  refine lv_icmp_lt (tgt := 56) hx hb dX8_table_47 (by decide) (fun c60 => ?_) (fun c60 => ?_)
  · have h := i_yes c60 h
    refine lv_bipush (v := (-2)) hx hb dX8_table_56 (by decide) ?_
    cases h
    exact r_iretA hC hw hc dX8_table_58
  · have h := i_no c60 h
    refine lv_iload_n hx hb dX8_table_50 rfl (lv_at hl 2 rfl) ?_
    refine lv_bipush (v := 8) hx hb dX8_table_51 (by decide) ?_
    refine lv_icmp_le (tgt := 59) hx hb dX8_table_53 (by decide) (fun c61 => ?_) (fun c61 => ?_)
    · have h := i_yes c61 h
      refine lv_aload_n hx hb dX8_table_59 rfl (lv_at hl 0 rfl) ?_
      obtain ⟨o62, ho65, h⟩ := rq_i h
      refine r_getR hC hw kc_7 hi0 1 rfl lk_356 dX8_table_60 rfl ho65 (fun a63 hi64 => ?_)
      refine r_gI hC hw kc_2 hi64 4 rfl lk_190 dX8_table_63 ?_
      refine lv_iconst (v := 4) hx hb dX8_table_66 (by decide) ?_
      refine lv_icmp_lt (tgt := 73) hx hb dX8_table_67 (by decide) (fun c66 => ?_) (fun c66 => ?_)
      · have h := i_yes c66 h
        refine lv_aload_n hx hb dX8_table_73 rfl (lv_at hl 0 rfl) ?_
        obtain ⟨o67, ho70, h⟩ := rq_i h
        refine r_getR hC hw kc_7 hi0 1 rfl lk_356 dX8_table_74 rfl ho70 (fun a68 hi69 => ?_)
        have hE73 := mn_X8_table_80 h
        refine r_new hC hw kc_6 df_6 lk_396 lk_397 lk_122 (hc.room ho hE73).1 (hc.room ho hE73).2 dX8_table_77 (fun q71 H hw hi72 => ?_)
        have hi74 := Is.up hi69 (Ext.aS S 6 0 7) (up_lt (q := q71))
        have hi75 := Is.up hi0 (Ext.aS S 6 0 7) (up_lt (q := q71))
        have hc := hc.new 6 0 7 q71
        exact w_X8_table_80 hC hR ho x1 x2 x3 x4 o67 a68 (sN S) q71 _ _ _ _ _ _ _ _ hi74 hi72 hw hc (lv_sub hl [1, 2, 3, 4] rfl) h --j76
      · have h := i_no c66 h
        refine lv_bipush (v := (-4)) hx hb dX8_table_70 (by decide) ?_
        cases h
        exact r_iretA hC hw hc dX8_table_72
    · have h := i_no c61 h
      refine lv_bipush (v := (-2)) hx hb dX8_table_56 (by decide) ?_
      cases h
      exact r_iretA hC hw hc dX8_table_58
theorem mn_X8_table_9 {r : Int32} {S' : sh} {D' : dt} {o0 : Nat} {x1 : Int32} {x2 : Int32} {x3 : Int32} {x4 : Int32} {S : sh} {D : dt} (h : f_X8_table_9 o0 x1 x2 x3 x4 S D = some (r, S', D')) : Ext S S' := by
  unfold f_X8_table_9 at h
  rcases (Decidable.em (x3 < (1 : Int32))) with c77 | c77
  · have h := i_yes c77 h
    cases h
    exact Ext.rf _
  · have h := i_no c77 h
    rcases (Decidable.em ((32 : Int32) < x3)) with c78 | c78
    · have h := i_yes c78 h
      cases h
      exact Ext.rf _
    · have h := i_no c78 h
      rcases (Decidable.em (x4 < (1 : Int32))) with c79 | c79
      · have h := i_yes c79 h
        cases h
        exact Ext.rf _
      · have h := i_no c79 h
        rcases (Decidable.em (x4 ≤ (32 : Int32))) with c80 | c80
        · have h := i_yes c80 h
          rcases (Decidable.em (x1 = 0)).symm with c81 | c81
          · have h := i_no c81 h
            exact (mn_X8_table_45 h)
          · have h := i_yes c81 h
            rcases (Decidable.em (x2 = (4 : Int32))).symm with c83 | c83
            · have h := i_no c83 h
              cases h
              exact Ext.rf _
            · have h := i_yes c83 h
              exact (mn_X8_table_45 h)
        · have h := i_no c80 h
          cases h
          exact Ext.rf _
set_option maxHeartbeats 4000000 in
set_option maxRecDepth 100000 in
theorem w_X8_table_9 {r : Int32} {S' : sh} {D' : dt} {S0 : sh} {ad0 : Nat → Nat} (hC : Cx RX8 cX8_table 5 (some .int) p s m args meth c) (hR : 2 ≤ R.frames ∧ 44 ≤ R.locals) (ho : R.cells = sN S' - sN S0 ∧ R.slots = sZ S' - sZ S0) : ∀ (o0 a0 : Nat) (x1 : Int32) (x2 : Int32) (x3 : Int32) (x4 : Int32) (S : sh) (D : dt) (ad : Nat → Nat) (H : Heap) (locs : List Loc) (ls : Array Slot) (cells slots : Nat), Is S ad o0 a0 7 → Wd G cA S D ad A s H locs → Al S0 ad0 S ad cells slots → lv_has ls 5 [(0, .ref a0), (1, .int x1), (2, .int x2), (3, .int x3), (4, .int x4)] → f_X8_table_9 o0 x1 x2 x3 x4 S D = some (r, S', D') → W p l e R s m args below meth c H locs cells slots (MQ below (Qa (fun _ => (some (.int r))) (fun ad' => (∀ k, k < sN S0 → ad' k = ad0 k) ∧ True) (fun ad' => wpost G cA S' D' ad' A) A) args s (sN S' - sN S0) (sZ S' - sZ S0) A) (F0 m 9 ls []) := by
  obtain ⟨hx, hb, -⟩ := id hC
  intro o0 a0 x1 x2 x3 x4 S D ad H locs ls cells slots hi0 hw hc hl h
  have hE : Ext S S' := mn_X8_table_9  h
  unfold f_X8_table_9 at h
  refine lv_iload_n hx hb dX8_table_9 rfl (lv_at hl 3 rfl) ?_
  refine lv_iconst (v := 1) hx hb dX8_table_10 (by decide) ?_
  refine lv_icmp_lt (tgt := 33) hx hb dX8_table_11 (by decide) (fun c77 => ?_) (fun c77 => ?_)
  · have h := i_yes c77 h
    refine lv_bipush (v := (-2)) hx hb dX8_table_33 (by decide) ?_
    cases h
    exact r_iretA hC hw hc dX8_table_35
  · have h := i_no c77 h
    refine lv_iload_n hx hb dX8_table_14 rfl (lv_at hl 3 rfl) ?_
    refine lv_bipush (v := 32) hx hb dX8_table_15 (by decide) ?_
    refine lv_icmp_gt (tgt := 33) hx hb dX8_table_17 (by decide) (fun c78 => ?_) (fun c78 => ?_)
    · have h := i_yes c78 h
      refine lv_bipush (v := (-2)) hx hb dX8_table_33 (by decide) ?_
      cases h
      exact r_iretA hC hw hc dX8_table_35
    · have h := i_no c78 h
      refine lv_iload hx hb dX8_table_20 (lv_at hl 4 rfl) ?_
      refine lv_iconst (v := 1) hx hb dX8_table_22 (by decide) ?_
      refine lv_icmp_lt (tgt := 33) hx hb dX8_table_23 (by decide) (fun c79 => ?_) (fun c79 => ?_)
      · have h := i_yes c79 h
        refine lv_bipush (v := (-2)) hx hb dX8_table_33 (by decide) ?_
        cases h
        exact r_iretA hC hw hc dX8_table_35
      · have h := i_no c79 h
        refine lv_iload hx hb dX8_table_26 (lv_at hl 4 rfl) ?_
        refine lv_bipush (v := 32) hx hb dX8_table_28 (by decide) ?_
        refine lv_icmp_le (tgt := 36) hx hb dX8_table_30 (by decide) (fun c80 => ?_) (fun c80 => ?_)
        · have h := i_yes c80 h
          refine lv_iload_n hx hb dX8_table_36 rfl (lv_at hl 1 rfl) ?_
          refine lv_if_ne (tgt := 45) hx hb dX8_table_37 (by decide) (fun c81 => ?_) (fun c81 => ?_)
          · have h := i_no c81 h
            exact w_X8_table_45 hC hR ho o0 a0 x1 x2 x3 x4 _ _ _ _ _ _ _ _ hi0 hw hc (lv_sub hl [0, 1, 2, 3, 4] rfl) h --j82
          · have h := i_yes c81 h
            refine lv_iload_n hx hb dX8_table_40 rfl (lv_at hl 2 rfl) ?_
            refine lv_iconst (v := 4) hx hb dX8_table_41 (by decide) ?_
            refine lv_icmp_ne (tgt := 56) hx hb dX8_table_42 (by decide) (fun c83 => ?_) (fun c83 => ?_)
            · have h := i_no c83 h
              refine lv_bipush (v := (-2)) hx hb dX8_table_56 (by decide) ?_
              cases h
              exact r_iretA hC hw hc dX8_table_58
            · have h := i_yes c83 h
              exact w_X8_table_45 hC hR ho o0 a0 x1 x2 x3 x4 _ _ _ _ _ _ _ _ hi0 hw hc (lv_sub hl [0, 1, 2, 3, 4] rfl) h --j84
        · have h := i_no c80 h
          refine lv_bipush (v := (-2)) hx hb dX8_table_33 (by decide) ?_
          cases h
          exact r_iretA hC hw hc dX8_table_35
theorem mn_X8_table_0 {r : Int32} {S' : sh} {D' : dt} {o0 : Nat} {x1 : Int32} {x2 : Int32} {x3 : Int32} {x4 : Int32} {S : sh} {D : dt} (h : f_X8_table o0 x1 x2 x3 x4 S D = some (r, S', D')) : Ext S S' := by
  unfold f_X8_table at h
  rcases (Decidable.em (x1 = 0)) with c85 | c85
  · have h := i_yes c85 h
    exact (mn_X8_table_9 h)
  · have h := i_no c85 h
    rcases (Decidable.em (x1 = (1 : Int32))).symm with c87 | c87
    · have h := i_no c87 h
      cases h
      exact Ext.rf _
    · have h := i_yes c87 h
      exact (mn_X8_table_9 h)
set_option maxHeartbeats 4000000 in
set_option maxRecDepth 100000 in
theorem w_X8_table_0 {r : Int32} {S' : sh} {D' : dt} {S0 : sh} {ad0 : Nat → Nat} (hC : Cx RX8 cX8_table 5 (some .int) p s m args meth c) (hR : 2 ≤ R.frames ∧ 44 ≤ R.locals) (ho : R.cells = sN S' - sN S0 ∧ R.slots = sZ S' - sZ S0) : ∀ (o0 a0 : Nat) (x1 : Int32) (x2 : Int32) (x3 : Int32) (x4 : Int32) (S : sh) (D : dt) (ad : Nat → Nat) (H : Heap) (locs : List Loc) (ls : Array Slot) (cells slots : Nat), Is S ad o0 a0 7 → Wd G cA S D ad A s H locs → Al S0 ad0 S ad cells slots → lv_has ls 5 [(0, .ref a0), (1, .int x1), (2, .int x2), (3, .int x3), (4, .int x4)] → f_X8_table o0 x1 x2 x3 x4 S D = some (r, S', D') → W p l e R s m args below meth c H locs cells slots (MQ below (Qa (fun _ => (some (.int r))) (fun ad' => (∀ k, k < sN S0 → ad' k = ad0 k) ∧ True) (fun ad' => wpost G cA S' D' ad' A) A) args s (sN S' - sN S0) (sZ S' - sZ S0) A) (F0 m 0 ls []) := by
  obtain ⟨hx, hb, -⟩ := id hC
  intro o0 a0 x1 x2 x3 x4 S D ad H locs ls cells slots hi0 hw hc hl h
  have hE : Ext S S' := mn_X8_table_0  h
  unfold f_X8_table at h
  refine lv_iload_n hx hb dX8_table_0 rfl (lv_at hl 1 rfl) ?_
  refine lv_if_eq (tgt := 9) hx hb dX8_table_1 (by decide) (fun c85 => ?_) (fun c85 => ?_)
  · have h := i_yes c85 h
    exact w_X8_table_9 hC hR ho o0 a0 x1 x2 x3 x4 _ _ _ _ _ _ _ _ hi0 hw hc (lv_sub hl [0, 1, 2, 3, 4] rfl) h --j86
  · have h := i_no c85 h
    refine lv_iload_n hx hb dX8_table_4 rfl (lv_at hl 1 rfl) ?_
    refine lv_iconst (v := 1) hx hb dX8_table_5 (by decide) ?_
    refine lv_icmp_ne (tgt := 33) hx hb dX8_table_6 (by decide) (fun c87 => ?_) (fun c87 => ?_)
    · have h := i_no c87 h
      refine lv_bipush (v := (-2)) hx hb dX8_table_33 (by decide) ?_
      cases h
      exact r_iretA hC hw hc dX8_table_35
    · have h := i_yes c87 h
      exact w_X8_table_9 hC hR ho o0 a0 x1 x2 x3 x4 _ _ _ _ _ _ _ _ hi0 hw hc (lv_sub hl [0, 1, 2, 3, 4] rfl) h --j88
set_option maxHeartbeats 4000000 in
set_option maxRecDepth 100000 in
theorem k_X8_table {l : Launch} {G : va_G} {cA : Nat → ClassId} {S S' : sh} {D D' : dt} {ad : Nat → Nat} (sz : Nat) {o0 a0 : Nat} {x1 : Int32} {x2 : Int32} {x3 : Int32} {x4 : Int32} {r : Int32} (hi0 : Is S ad o0 a0 7) (h : f_X8_table o0 x1 x2 x3 x4 S D = some (r, S', D')) : CoA l yX8_table (Cond.code yX8_table cX8_table 5 (some .int) :: tb0) 2 44 [.ref a0, .int x1, .int x2, .int x3, .int x4] G cA S D ad sz (fun _ => (some (.int r))) True S' D' := by
  refine Met.ofW (cc := cX8_table) (maxL := 5) (ret := (some .int)) (by decide) rfl ?_
  intro p e s m args below meth c s₁ B hml hv
  obtain ⟨rfl, hsz, hP, hK, hD0, hT, hX⟩ := hv
  subst hsz
  have hts := atoms_spec (ws := Cond.code yX8_table cX8_table 5 (some .int) :: tb0) B.pre
  have hC : Cx RX8 cX8_table 5 (some .int) p s m _ meth c := ⟨B.exec, B.bytes, hml, findClass_of_methodNamed B.named, fun w q => hts w (List.mem_cons_of_mem _ q), B.returns, B.notSynchronized⟩
  have hw := Wd.entry hP hK hD0 hT hX
  have hl := lv_entry ([.ref a0, .int x1, .int x2, .int x3, .int x4]) (n := 5) (Nat.le_of_ble_eq_true rfl)
  rw [lg_entry_eq]
  exact w_X8_table_0 hC ⟨Nat.le_refl _, Nat.le_refl _⟩ ⟨rfl, rfl⟩ o0 a0 x1 x2 x3 x4 S D ad _ _ _ 0 0 hi0 hw (Al.rf S ad) hl h
set_option maxHeartbeats 4000000 in
set_option maxRecDepth 100000 in
theorem w_X8_context_0 {r : Int32} {D' : dt} (hC : Cx RX8 cX8_context 2 (some .int) p s m args meth c) (hR : 1 ≤ R.frames ∧ 23 ≤ R.locals) : ∀ (o0 a0 : Nat) (x1 : Int32) (D : dt) (H : Heap) (locs : List Loc) (ls : Array Slot), Is S ad o0 a0 7 → Wd G cA S D ad A s H locs → lv_has ls 2 [(0, .ref a0), (1, .int x1)] → f_X8_context S o0 x1 D = some (r, D') → W p l e R s m args below meth c H locs 0 0 (MQ below (Qn (some (.int r)) True (wpost G cA S D' ad A) A) args s 0 0 A) (F0 m 0 ls []) := by
  obtain ⟨hx, hb, -⟩ := id hC
  intro o0 a0 x1 D H locs ls hi0 hw hl h
  unfold f_X8_context at h
  refine lv_iload_n hx hb dX8_context_0 rfl (lv_at hl 1 rfl) ?_
  refine lv_if_lt (tgt := 11) hx hb dX8_context_1 (by decide) (fun c15 => ?_) (fun c15 => ?_)
  · have h := i_yes c15 h
    refine lv_bipush (v := (-2)) hx hb dX8_context_11 (by decide) ?_
    cases h
    exact r_iret hC hw dX8_context_13
  · have h := i_no c15 h
    refine lv_iload_n hx hb dX8_context_4 rfl (lv_at hl 1 rfl) ?_
    refine lv_sipush (v := 256) hx hb dX8_context_5 (by decide) ?_
    refine lv_icmp_le (tgt := 14) hx hb dX8_context_8 (by decide) (fun c16 => ?_) (fun c16 => ?_)
    · have h := i_yes c16 h
      refine lv_aload_n hx hb dX8_context_14 rfl (lv_at hl 0 rfl) ?_
      obtain ⟨o17, ho20, h⟩ := rq_i h
      refine r_getR hC hw kc_7 hi0 2 rfl lk_357 dX8_context_15 rfl ho20 (fun a18 hi19 => ?_)
      refine r_gI hC hw kc_1 hi19 5 rfl lk_227 dX8_context_18 ?_
      refine lv_iconst (v := 1) hx hb dX8_context_21 (by decide) ?_
      refine lv_icmp_ne (tgt := 28) hx hb dX8_context_22 (by decide) (fun c21 => ?_) (fun c21 => ?_)
      · have h := i_no c21 h
        refine lv_aload_n hx hb dX8_context_28 rfl (lv_at hl 0 rfl) ?_
        obtain ⟨o22, ho25, h⟩ := rq_i h
        refine r_getR hC hw kc_7 hi0 1 rfl lk_356 dX8_context_29 rfl ho25 (fun a23 hi24 => ?_)
        refine lv_iload_n hx hb dX8_context_32 rfl (lv_at hl 1 rfl) ?_
        obtain ⟨r27, D28, hq26, h⟩ := cq_i h
        refine r_cV (st' := [.int r27]) [.int x1] [] hC hw kc_2 hi24 (k_X2_resizeContext _ hi24 hq26) mk_X2_resizeContext lk_439 ⟨Nat.le_trans (by decide) hR.1, Nat.le_trans (by decide) hR.2⟩ ⟨Nat.zero_le _, Nat.zero_le _⟩ rfl hl.1 rfl rfl (Nat.le_of_ble_eq_true rfl) dX8_context_33 (fun hP H locs hw => ?_)
        cases h
        exact r_iret hC hw dX8_context_36
      · have h := i_yes c21 h
        refine lv_bipush (v := (-3)) hx hb dX8_context_25 (by decide) ?_
        cases h
        exact r_iret hC hw dX8_context_27
    · have h := i_no c16 h
      refine lv_bipush (v := (-2)) hx hb dX8_context_11 (by decide) ?_
      cases h
      exact r_iret hC hw dX8_context_13
set_option maxHeartbeats 4000000 in
set_option maxRecDepth 100000 in
theorem k_X8_context {l : Launch} {G : va_G} {cA : Nat → ClassId} {S : sh} {D D' : dt} {ad : Nat → Nat} (sz : Nat) {o0 a0 : Nat} {x1 : Int32} {r : Int32} (hi0 : Is S ad o0 a0 7) (h : f_X8_context S o0 x1 D = some (r, D')) : Co l yX8_context (Cond.code yX8_context cX8_context 2 (some .int) :: tb0) 1 23 [.ref a0, .int x1] G cA S D ad sz (some (.int r)) True D' := by
  refine Met.ofW (cc := cX8_context) (maxL := 2) (ret := (some .int)) (by decide) rfl ?_
  intro p e s m args below meth c s₁ B hml hv
  obtain ⟨rfl, hsz, hP, hK, hD0, hT, hX⟩ := hv
  subst hsz
  have hts := atoms_spec (ws := Cond.code yX8_context cX8_context 2 (some .int) :: tb0) B.pre
  have hC : Cx RX8 cX8_context 2 (some .int) p s m _ meth c := ⟨B.exec, B.bytes, hml, findClass_of_methodNamed B.named, fun w q => hts w (List.mem_cons_of_mem _ q), B.returns, B.notSynchronized⟩
  have hw := Wd.entry hP hK hD0 hT hX
  have hl := lv_entry ([.ref a0, .int x1]) (n := 2) (Nat.le_of_ble_eq_true rfl)
  rw [lg_entry_eq]
  exact w_X8_context_0 hC ⟨Nat.le_refl _, Nat.le_refl _⟩ o0 a0 x1 D _ _ _ hi0 hw hl h
set_option maxHeartbeats 4000000 in
set_option maxRecDepth 100000 in
theorem w_X8_poke_0 {r : Int32} {D' : dt} (hC : Cx RX8 cX8_poke 4 (some .int) p s m args meth c) (hR : 0 ≤ R.frames ∧ 0 ≤ R.locals) : ∀ (o0 a0 : Nat) (x1 : Int32) (x2 : Int32) (D : dt) (H : Heap) (locs : List Loc) (ls : Array Slot), Is S ad o0 a0 7 → Wd G cA S D ad A s H locs → lv_has ls 4 [(0, .ref a0), (1, .int x1), (2, .int x2)] → f_X8_poke S o0 x1 x2 D = some (r, D') → W p l e R s m args below meth c H locs 0 0 (MQ below (Qn (some (.int r)) True (wpost G cA S D' ad A) A) args s 0 0 A) (F0 m 0 ls []) := by
  obtain ⟨hx, hb, -⟩ := id hC
  intro o0 a0 x1 x2 D H locs ls hi0 hw hl h
  unfold f_X8_poke at h
  refine lv_iload_n hx hb dX8_poke_0 rfl (lv_at hl 1 rfl) ?_
  refine lv_if_lt (tgt := 15) hx hb dX8_poke_1 (by decide) (fun c34 => ?_) (fun c34 => ?_)
  · have h := i_yes c34 h
    refine lv_iconst (v := (-1)) hx hb dX8_poke_15 (by decide) ?_
    cases h
    exact r_iret hC hw dX8_poke_16
  · have h := i_no c34 h
    refine lv_iload_n hx hb dX8_poke_4 rfl (lv_at hl 1 rfl) ?_
    refine lv_aload_n hx hb dX8_poke_5 rfl (lv_at hl 0 rfl) ?_
    obtain ⟨o35, ho38, h⟩ := rq_i h
    refine r_getR hC hw kc_7 hi0 1 rfl lk_356 dX8_poke_6 rfl ho38 (fun a36 hi37 => ?_)
    refine r_gI hC hw kc_2 hi37 1 rfl lk_184 dX8_poke_9 ?_
    refine lv_icmp_lt (tgt := 17) hx hb dX8_poke_12 (by decide) (fun c39 => ?_) (fun c39 => ?_)
    · have h := i_yes c39 h
      refine lv_iload_n hx hb dX8_poke_17 rfl (lv_at hl 2 rfl) ?_
      refine lv_if_lt (tgt := 28) hx hb dX8_poke_18 (by decide) (fun c40 => ?_) (fun c40 => ?_)
      · have h := i_yes c40 h
        refine lv_bipush (v := (-2)) hx hb dX8_poke_28 (by decide) ?_
        cases h
        exact r_iret hC hw dX8_poke_30
      · have h := i_no c40 h
        refine lv_iload_n hx hb dX8_poke_21 rfl (lv_at hl 2 rfl) ?_
        refine lv_sipush (v := 255) hx hb dX8_poke_22 (by decide) ?_
        refine lv_icmp_le (tgt := 31) hx hb dX8_poke_25 (by decide) (fun c41 => ?_) (fun c41 => ?_)
        · have h := i_yes c41 h
          refine lv_aload_n hx hb dX8_poke_31 rfl (lv_at hl 0 rfl) ?_
          obtain ⟨o42, ho45, h⟩ := rq_i h
          refine r_getR hC hw kc_7 hi0 2 rfl lk_357 dX8_poke_32 rfl ho45 (fun a43 hi44 => ?_)
          refine r_gI hC hw kc_1 hi44 5 rfl lk_227 dX8_poke_35 ?_
          refine lv_iconst (v := 1) hx hb dX8_poke_38 (by decide) ?_
          refine lv_icmp_ne (tgt := 45) hx hb dX8_poke_39 (by decide) (fun c46 => ?_) (fun c46 => ?_)
          · have h := i_no c46 h
            refine lv_aload_n hx hb dX8_poke_45 rfl (lv_at hl 0 rfl) ?_
            obtain ⟨o47, ho50, h⟩ := rq_i h
            refine r_getR hC hw kc_7 hi0 1 rfl lk_356 dX8_poke_46 rfl ho50 (fun a48 hi49 => ?_)
            obtain ⟨o51, ho54, h⟩ := rq_i h
            refine r_getR hC hw kc_2 hi49 0 rfl lk_182 dX8_poke_49 rfl ho54 (fun a52 hi53 => ?_)
            refine lv_iload_n hx hb dX8_poke_52 rfl (lv_at hl 1 rfl) ?_
            obtain ⟨hn55, h⟩ := ix_i h
            refine r_bald hC hw hi53 hn55 dX8_poke_53 ?_
            refine lv_sipush (v := 255) hx hb dX8_poke_54 (by decide) ?_
            refine lv_iand hx hb dX8_poke_57 ?_
            refine lv_topi (fun y56 ey56 => ?_)
            have h := nm_i h y56 ey56
            refine lv_istore_n (lv' := [(3, .int y56), (0, .ref a0), (1, .int x1), (2, .int x2)]) hx hb dX8_poke_58 rfl hl (by decide) rfl (fun ls hl => ?_)
            refine lv_aload_n hx hb dX8_poke_59 rfl (lv_at hl 1 rfl) ?_
            obtain ⟨o57, ho60, h⟩ := rq_i h
            refine r_getR hC hw kc_7 hi0 1 rfl lk_356 dX8_poke_60 rfl ho60 (fun a58 hi59 => ?_)
            obtain ⟨o61, ho64, h⟩ := rq_i h
            refine r_getR hC hw kc_2 hi59 0 rfl lk_182 dX8_poke_63 rfl ho64 (fun a62 hi63 => ?_)
            refine lv_iload_n hx hb dX8_poke_66 rfl (lv_at hl 2 rfl) ?_
            refine lv_iload_n hx hb dX8_poke_67 rfl (lv_at hl 3 rfl) ?_
            refine lv_i2b (v := x2.toInt8.toInt32) hx hb dX8_poke_68 rfl ?_
            obtain ⟨hn65, h⟩ := ix_i h
            refine r_bas hC hw hi63 hn65 dX8_poke_69 (fun D66 eD66 H locs hw => ?_)
            have h := nm_i h D66 eD66
            refine lv_iload_n hx hb dX8_poke_70 rfl (lv_at hl 0 rfl) ?_
            cases h
            exact r_iret hC hw dX8_poke_71
          · have h := i_yes c46 h
            refine lv_bipush (v := (-3)) hx hb dX8_poke_42 (by decide) ?_
            cases h
            exact r_iret hC hw dX8_poke_44
        · have h := i_no c41 h
          refine lv_bipush (v := (-2)) hx hb dX8_poke_28 (by decide) ?_
          cases h
          exact r_iret hC hw dX8_poke_30
    · have h := i_no c39 h
      refine lv_iconst (v := (-1)) hx hb dX8_poke_15 (by decide) ?_
      cases h
      exact r_iret hC hw dX8_poke_16
set_option maxHeartbeats 4000000 in
set_option maxRecDepth 100000 in
theorem k_X8_poke {l : Launch} {G : va_G} {cA : Nat → ClassId} {S : sh} {D D' : dt} {ad : Nat → Nat} (sz : Nat) {o0 a0 : Nat} {x1 : Int32} {x2 : Int32} {r : Int32} (hi0 : Is S ad o0 a0 7) (h : f_X8_poke S o0 x1 x2 D = some (r, D')) : Co l yX8_poke (Cond.code yX8_poke cX8_poke 4 (some .int) :: tb0) 0 0 [.ref a0, .int x1, .int x2] G cA S D ad sz (some (.int r)) True D' := by
  refine Met.ofW (cc := cX8_poke) (maxL := 4) (ret := (some .int)) (by decide) rfl ?_
  intro p e s m args below meth c s₁ B hml hv
  obtain ⟨rfl, hsz, hP, hK, hD0, hT, hX⟩ := hv
  subst hsz
  have hts := atoms_spec (ws := Cond.code yX8_poke cX8_poke 4 (some .int) :: tb0) B.pre
  have hC : Cx RX8 cX8_poke 4 (some .int) p s m _ meth c := ⟨B.exec, B.bytes, hml, findClass_of_methodNamed B.named, fun w q => hts w (List.mem_cons_of_mem _ q), B.returns, B.notSynchronized⟩
  have hw := Wd.entry hP hK hD0 hT hX
  have hl := lv_entry ([.ref a0, .int x1, .int x2]) (n := 4) (Nat.le_of_ble_eq_true rfl)
  rw [lg_entry_eq]
  exact w_X8_poke_0 hC ⟨Nat.le_refl _, Nat.le_refl _⟩ o0 a0 x1 x2 D _ _ _ hi0 hw hl h
set_option maxHeartbeats 4000000 in
set_option maxRecDepth 100000 in
theorem w_X8_tick_22 {r : Int64} {D' : dt} (hC : Cx RX8 cX8_tick 3 (some .long) p s m args meth c) (hR : 0 ≤ R.frames ∧ 0 ≤ R.locals) : ∀  (D : dt) (H : Heap) (locs : List Loc) (ls : Array Slot), Wd G cA S D ad A s H locs → lv_has ls 3 [] → f_X8_tick_22 S D = some (r, D') → W p l e R s m args below meth c H locs 0 0 (MQ below (Qn (some (.long r)) True (wpost G cA S D' ad A) A) args s 0 0 A) (F0 m 22 ls []) := by
  obtain ⟨hx, hb, -⟩ := id hC
  intro D H locs ls  hw hl h
  unfold f_X8_tick_22 at h
  refine lv_ldc2 (v := (-2)) hx hb hC.2.2.2.1 (hC.2.2.2.2.1 _ lk_452) dX8_tick_22 ?_
  cases h
  exact r_lret hC hw dX8_tick_25
set_option maxHeartbeats 4000000 in
set_option maxRecDepth 100000 in
theorem w_X8_tick_0 {r : Int64} {D' : dt} (hC : Cx RX8 cX8_tick 3 (some .long) p s m args meth c) (hR : 0 ≤ R.frames ∧ 0 ≤ R.locals) : ∀ (o0 a0 : Nat) (x1 : Int64) (D : dt) (H : Heap) (locs : List Loc) (ls : Array Slot), Is S ad o0 a0 7 → Wd G cA S D ad A s H locs → lv_has ls 3 [(0, .ref a0), (1, .long x1)] → f_X8_tick S o0 x1 D = some (r, D') → W p l e R s m args below meth c H locs 0 0 (MQ below (Qn (some (.long r)) True (wpost G cA S D' ad A) A) args s 0 0 A) (F0 m 0 ls []) := by
  obtain ⟨hx, hb, -⟩ := id hC
  intro o0 a0 x1 D H locs ls hi0 hw hl h
  unfold f_X8_tick at h
  refine lv_lload_n hx hb dX8_tick_0 rfl (lv_at hl 1 rfl) ?_
  refine lv_lconst (v := 0) hx hb dX8_tick_1 (by decide) ?_
  refine W.lcmp hx hb dX8_tick_2 ?_
  refine lv_if_lt (tgt := 22) hx hb dX8_tick_3 (by decide) (fun c16 => ?_) (fun c16 => ?_)
  · have h := i_yes c16 h
    exact w_X8_tick_22 hC hR _ _ _ _ hw (lv_sub hl [] rfl) h
  · have h := i_no c16 h
    refine lv_lload_n hx hb dX8_tick_6 rfl (lv_at hl 1 rfl) ?_
    refine lv_ldc2 (v := 4611686018427387904) hx hb hC.2.2.2.1 (hC.2.2.2.2.1 _ lk_451) dX8_tick_7 ?_
    refine lv_aload_n hx hb dX8_tick_10 rfl (lv_at hl 0 rfl) ?_
    obtain ⟨o17, ho20, h⟩ := rq_i h
    refine r_getR hC hw kc_7 hi0 1 rfl lk_356 dX8_tick_11 rfl ho20 (fun a18 hi19 => ?_)
    refine r_gL hC hw kc_2 hi19 5 rfl lk_191 dX8_tick_14 ?_
    refine lv_lsub hx hb dX8_tick_17 ?_
    refine W.lcmp hx hb dX8_tick_18 ?_
    refine lv_if_le (tgt := 26) hx hb dX8_tick_19 (by decide) (fun c21 => ?_) (fun c21 => ?_)
    · have h := i_yes c21 h
      refine lv_aload_n hx hb dX8_tick_26 rfl (lv_at hl 0 rfl) ?_
      obtain ⟨o22, ho25, h⟩ := rq_i h
      refine r_getR hC hw kc_7 hi0 1 rfl lk_356 dX8_tick_27 rfl ho25 (fun a23 hi24 => ?_)
      refine lv_dup hx hb dX8_tick_30 rfl ?_
      refine r_gL hC hw kc_2 hi24 5 rfl lk_191 dX8_tick_31 ?_
      refine lv_lload_n hx hb dX8_tick_34 rfl (lv_at hl 1 rfl) ?_
      refine lv_ladd hx hb dX8_tick_35 ?_
      refine r_pL hC hw kc_2 hi24 5 rfl lk_191 rfl rfl rfl dX8_tick_36 (fun D26 eD26 H locs hw => ?_)
      have h := nm_i h D26 eD26
      refine lv_aload_n hx hb dX8_tick_39 rfl (lv_at hl 0 rfl) ?_
      obtain ⟨o27, ho30, h⟩ := rq_i h
      refine r_getR hC hw kc_7 hi0 1 rfl lk_356 dX8_tick_40 rfl ho30 (fun a28 hi29 => ?_)
      refine r_gL hC hw kc_2 hi29 5 rfl lk_191 dX8_tick_43 ?_
      cases h
      exact r_lret hC hw dX8_tick_46
    · have h := i_no c21 h
      exact w_X8_tick_22 hC hR _ _ _ _ hw (lv_sub hl [] rfl) h
set_option maxHeartbeats 4000000 in
set_option maxRecDepth 100000 in
theorem k_X8_tick {l : Launch} {G : va_G} {cA : Nat → ClassId} {S : sh} {D D' : dt} {ad : Nat → Nat} (sz : Nat) {o0 a0 : Nat} {x1 : Int64} {r : Int64} (hi0 : Is S ad o0 a0 7) (h : f_X8_tick S o0 x1 D = some (r, D')) : Co l yX8_tick (Cond.code yX8_tick cX8_tick 3 (some .long) :: tb0) 0 0 [.ref a0, .long x1] G cA S D ad sz (some (.long r)) True D' := by
  refine Met.ofW (cc := cX8_tick) (maxL := 3) (ret := (some .long)) (by decide) rfl ?_
  intro p e s m args below meth c s₁ B hml hv
  obtain ⟨rfl, hsz, hP, hK, hD0, hT, hX⟩ := hv
  subst hsz
  have hts := atoms_spec (ws := Cond.code yX8_tick cX8_tick 3 (some .long) :: tb0) B.pre
  have hC : Cx RX8 cX8_tick 3 (some .long) p s m _ meth c := ⟨B.exec, B.bytes, hml, findClass_of_methodNamed B.named, fun w q => hts w (List.mem_cons_of_mem _ q), B.returns, B.notSynchronized⟩
  have hw := Wd.entry hP hK hD0 hT hX
  have hl := lv_entry ([.ref a0, .long x1]) (n := 3) (Nat.le_of_ble_eq_true rfl)
  rw [lg_entry_eq]
  exact w_X8_tick_0 hC ⟨Nat.le_refl _, Nat.le_refl _⟩ o0 a0 x1 D _ _ _ hi0 hw hl h
theorem mn_X8_judge_7 {r : Int32} {S' : sh} {D' : dt} {xs0 : Int32} {S : sh} {D : dt} (h : f_X8_judge_7 xs0 S D = some (r, S', D')) : Ext S S' := by
  unfold f_X8_judge_7 at h
  cases h
  exact Ext.rf _
set_option maxHeartbeats 4000000 in
set_option maxRecDepth 100000 in
theorem w_X8_judge_7 {r : Int32} {S' : sh} {D' : dt} {S0 : sh} {ad0 : Nat → Nat} (hC : Cx RX8 cX8_judge 1 (some .int) p s m args meth c) (hR : 7 ≤ R.frames ∧ 187 ≤ R.locals) (ho : R.cells = sN S' - sN S0 ∧ R.slots = sZ S' - sZ S0) : ∀ (xs0 : Int32) (S : sh) (D : dt) (ad : Nat → Nat) (H : Heap) (locs : List Loc) (ls : Array Slot) (cells slots : Nat), Wd G cA S D ad A s H locs → Al S0 ad0 S ad cells slots → lv_has ls 1 [] → f_X8_judge_7 xs0 S D = some (r, S', D') → W p l e R s m args below meth c H locs cells slots (MQ below (Qa (fun _ => (some (.int r))) (fun ad' => (∀ k, k < sN S0 → ad' k = ad0 k) ∧ True) (fun ad' => wpost G cA S' D' ad' A) A) args s (sN S' - sN S0) (sZ S' - sZ S0) A) (F0 m 7 ls [.int xs0]) := by
  obtain ⟨hx, hb, -⟩ := id hC
  intro xs0 S D ad H locs ls cells slots  hw hc hl h
  have hE : Ext S S' := mn_X8_judge_7  h
  unfold f_X8_judge_7 at h
  cases h
  exact r_iretA hC hw hc dX8_judge_7
theorem mn_X8_judge_0 {r : Int32} {S' : sh} {D' : dt} {o0 : Nat} {S : sh} {D : dt} (h : f_X8_judge o0 S D = some (r, S', D')) : Ext S S' := by
  unfold f_X8_judge at h
  obtain ⟨o14, ho17, h⟩ := rq_i h
  obtain ⟨r19, S21, D20, hq18, h⟩ := c3_i h
  have hA := mn_X0_follow_0 hq18
  exact hA.tr (mn_X8_judge_7 h)
set_option maxHeartbeats 4000000 in
set_option maxRecDepth 100000 in
theorem w_X8_judge_0 {r : Int32} {S' : sh} {D' : dt} {S0 : sh} {ad0 : Nat → Nat} (hC : Cx RX8 cX8_judge 1 (some .int) p s m args meth c) (hR : 7 ≤ R.frames ∧ 187 ≤ R.locals) (ho : R.cells = sN S' - sN S0 ∧ R.slots = sZ S' - sZ S0) : ∀ (o0 a0 : Nat) (S : sh) (D : dt) (ad : Nat → Nat) (H : Heap) (locs : List Loc) (ls : Array Slot) (cells slots : Nat), Is S ad o0 a0 7 → Wd G cA S D ad A s H locs → Al S0 ad0 S ad cells slots → lv_has ls 1 [(0, .ref a0)] → f_X8_judge o0 S D = some (r, S', D') → W p l e R s m args below meth c H locs cells slots (MQ below (Qa (fun _ => (some (.int r))) (fun ad' => (∀ k, k < sN S0 → ad' k = ad0 k) ∧ True) (fun ad' => wpost G cA S' D' ad' A) A) args s (sN S' - sN S0) (sZ S' - sZ S0) A) (F0 m 0 ls []) := by
  obtain ⟨hx, hb, -⟩ := id hC
  intro o0 a0 S D ad H locs ls cells slots hi0 hw hc hl h
  have hE : Ext S S' := mn_X8_judge_0  h
  unfold f_X8_judge at h
  refine lv_aload_n hx hb dX8_judge_0 rfl (lv_at hl 0 rfl) ?_
  obtain ⟨o14, ho17, h⟩ := rq_i h
  refine r_getR hC hw kc_7 hi0 3 rfl lk_358 dX8_judge_1 rfl ho17 (fun a15 hi16 => ?_)
  obtain ⟨r19, S21, D20, hq18, h⟩ := c3_i h
  have hE22 := mn_X0_follow_0 hq18
  have hE23 := mn_X8_judge_7 h
  refine r_cVA [] [] hC hw kc_0 hi16 (k_X0_follow _ hi16 hq18) mk_X0_follow lk_457 ⟨Nat.le_trans (by decide) hR.1, Nat.le_trans (by decide) hR.2⟩ (hc.roomC ho hE22 hE23) rfl hl.1 rfl (Nat.le_of_ble_eq_true rfl) dX8_judge_4 (fun ad24 hP H locs hw => ?_)
  refine W.eq (g2 := F0 m 7 ls [.int r19]) rfl ?_
  have hi25 := Is.up hi0 hE22 hP.1
  have hc := hc.call hE22 hP.1
  exact w_X8_judge_7 hC hR ho r19 _ _ _ _ _ _ _ _ hw hc (lv_sub hl [] rfl) h --j26
set_option maxHeartbeats 4000000 in
set_option maxRecDepth 100000 in
theorem k_X8_judge {l : Launch} {G : va_G} {cA : Nat → ClassId} {S S' : sh} {D D' : dt} {ad : Nat → Nat} (sz : Nat) {o0 a0 : Nat} {r : Int32} (hi0 : Is S ad o0 a0 7) (h : f_X8_judge o0 S D = some (r, S', D')) : CoA l yX8_judge (Cond.code yX8_judge cX8_judge 1 (some .int) :: tb0) 7 187 [.ref a0] G cA S D ad sz (fun _ => (some (.int r))) True S' D' := by
  refine Met.ofW (cc := cX8_judge) (maxL := 1) (ret := (some .int)) (by decide) rfl ?_
  intro p e s m args below meth c s₁ B hml hv
  obtain ⟨rfl, hsz, hP, hK, hD0, hT, hX⟩ := hv
  subst hsz
  have hts := atoms_spec (ws := Cond.code yX8_judge cX8_judge 1 (some .int) :: tb0) B.pre
  have hC : Cx RX8 cX8_judge 1 (some .int) p s m _ meth c := ⟨B.exec, B.bytes, hml, findClass_of_methodNamed B.named, fun w q => hts w (List.mem_cons_of_mem _ q), B.returns, B.notSynchronized⟩
  have hw := Wd.entry hP hK hD0 hT hX
  have hl := lv_entry ([.ref a0]) (n := 1) (Nat.le_of_ble_eq_true rfl)
  rw [lg_entry_eq]
  exact w_X8_judge_0 hC ⟨Nat.le_refl _, Nat.le_refl _⟩ ⟨rfl, rfl⟩ o0 a0 S D ad _ _ _ 0 0 hi0 hw (Al.rf S ad) hl h
set_option maxHeartbeats 4000000 in
set_option maxRecDepth 100000 in
theorem w_X8_place_0 {r : Int32} (hC : Cx RX8 cX8_place 1 (some .int) p s m args meth c) (hR : 0 ≤ R.frames ∧ 0 ≤ R.locals) : ∀ (o0 a0 : Nat) (H : Heap) (locs : List Loc) (ls : Array Slot), Is S ad o0 a0 7 → Wd G cA S D ad A s H locs → lv_has ls 1 [(0, .ref a0)] → f_X8_place S D o0 = some r → W p l e R s m args below meth c H locs 0 0 (MQ below (Qn (some (.int r)) True (wpost G cA S D ad A) A) args s 0 0 A) (F0 m 0 ls []) := by
  obtain ⟨hx, hb, -⟩ := id hC
  intro o0 a0 H locs ls hi0 hw hl h
  unfold f_X8_place at h
  refine lv_aload_n hx hb dX8_place_0 rfl (lv_at hl 0 rfl) ?_
  obtain ⟨o5, ho8, h⟩ := rq_i h
  refine r_getR hC hw kc_7 hi0 3 rfl lk_358 dX8_place_1 rfl ho8 (fun a6 hi7 => ?_)
  refine r_gI hC hw kc_0 hi7 7 rfl lk_325 dX8_place_4 ?_
  cases h
  exact r_iret hC hw dX8_place_7
set_option maxHeartbeats 4000000 in
set_option maxRecDepth 100000 in
theorem k_X8_place {l : Launch} {G : va_G} {cA : Nat → ClassId} {S : sh} {D : dt} {ad : Nat → Nat} (sz : Nat) {o0 a0 : Nat} {r : Int32} (hi0 : Is S ad o0 a0 7) (h : f_X8_place S D o0 = some r) : Co l yX8_place (Cond.code yX8_place cX8_place 1 (some .int) :: tb0) 0 0 [.ref a0] G cA S D ad sz (some (.int r)) True D := by
  refine Met.ofW (cc := cX8_place) (maxL := 1) (ret := (some .int)) (by decide) rfl ?_
  intro p e s m args below meth c s₁ B hml hv
  obtain ⟨rfl, hsz, hP, hK, hD0, hT, hX⟩ := hv
  subst hsz
  have hts := atoms_spec (ws := Cond.code yX8_place cX8_place 1 (some .int) :: tb0) B.pre
  have hC : Cx RX8 cX8_place 1 (some .int) p s m _ meth c := ⟨B.exec, B.bytes, hml, findClass_of_methodNamed B.named, fun w q => hts w (List.mem_cons_of_mem _ q), B.returns, B.notSynchronized⟩
  have hw := Wd.entry hP hK hD0 hT hX
  have hl := lv_entry ([.ref a0]) (n := 1) (Nat.le_of_ble_eq_true rfl)
  rw [lg_entry_eq]
  exact w_X8_place_0 hC ⟨Nat.le_refl _, Nat.le_refl _⟩ o0 a0 _ _ _ hi0 hw hl h
set_option maxHeartbeats 4000000 in
set_option maxRecDepth 100000 in
theorem w_X8_may_34 {r : Int64} (hC : Cx RX8 cX8_may 5 (some .long) p s m args meth c) (hR : 2 ≤ R.frames ∧ 45 ≤ R.locals) : ∀  (H : Heap) (locs : List Loc) (ls : Array Slot), Wd G cA S D ad A s H locs → lv_has ls 5 [] → f_X8_may_34 S D = some r → W p l e R s m args below meth c H locs 0 0 (MQ below (Qn (some (.long r)) True (wpost G cA S D ad A) A) args s 0 0 A) (F0 m 34 ls []) := by
  obtain ⟨hx, hb, -⟩ := id hC
  intro H locs ls  hw hl h
  unfold f_X8_may_34 at h
  refine lv_ldc2 (v := (-2)) hx hb hC.2.2.2.1 (hC.2.2.2.2.1 _ lk_452) dX8_may_34 ?_
  cases h
  exact r_lret hC hw dX8_may_37
set_option maxHeartbeats 4000000 in
set_option maxRecDepth 100000 in
theorem w_X8_may_21 {r : Int64} (hC : Cx RX8 cX8_may 5 (some .long) p s m args meth c) (hR : 2 ≤ R.frames ∧ 45 ≤ R.locals) : ∀  (H : Heap) (locs : List Loc) (ls : Array Slot), Wd G cA S D ad A s H locs → lv_has ls 5 [] → f_X8_may_21 S D = some r → W p l e R s m args below meth c H locs 0 0 (MQ below (Qn (some (.long r)) True (wpost G cA S D ad A) A) args s 0 0 A) (F0 m 21 ls []) := by
  obtain ⟨hx, hb, -⟩ := id hC
  intro H locs ls  hw hl h
  unfold f_X8_may_21 at h
  refine lv_ldc2 (v := (-1)) hx hb hC.2.2.2.1 (hC.2.2.2.2.1 _ lk_868) dX8_may_21 ?_
  cases h
  exact r_lret hC hw dX8_may_24
set_option maxHeartbeats 4000000 in
set_option maxRecDepth 100000 in
theorem w_X8_may_0 {r : Int64} (hC : Cx RX8 cX8_may 5 (some .long) p s m args meth c) (hR : 2 ≤ R.frames ∧ 45 ≤ R.locals) : ∀ (o0 a0 : Nat) (x1 : Int32) (x2 : Int32) (x3 : Int32) (H : Heap) (locs : List Loc) (ls : Array Slot), Is S ad o0 a0 7 → Wd G cA S D ad A s H locs → lv_has ls 5 [(0, .ref a0), (1, .int x1), (2, .int x2), (3, .int x3)] → f_X8_may S D o0 x1 x2 x3 = some r → W p l e R s m args below meth c H locs 0 0 (MQ below (Qn (some (.long r)) True (wpost G cA S D ad A) A) args s 0 0 A) (F0 m 0 ls []) := by
  obtain ⟨hx, hb, -⟩ := id hC
  intro o0 a0 x1 x2 x3 H locs ls hi0 hw hl h
  unfold f_X8_may at h
  refine lv_aload_n hx hb dX8_may_0 rfl (lv_at hl 0 rfl) ?_
  obtain ⟨o22, ho25, h⟩ := rq_i h
  refine r_getR hC hw kc_7 hi0 0 rfl lk_355 dX8_may_1 rfl ho25 (fun a23 hi24 => ?_)
  refine lv_iload_n hx hb dX8_may_4 rfl (lv_at hl 1 rfl) ?_
  obtain ⟨r27, hq26, h⟩ := pq_i h
  refine r_cV (st' := [.int r27]) [.int x1] [] hC hw kc_3 hi24 (k_X4_has _ hi24 hq26) mk_X4_has lk_387 ⟨Nat.le_trans (by decide) hR.1, Nat.le_trans (by decide) hR.2⟩ ⟨Nat.zero_le _, Nat.zero_le _⟩ rfl hl.1 rfl rfl (Nat.le_of_ble_eq_true rfl) dX8_may_5 (fun hP H locs hw => ?_)
  refine lv_if_eq (tgt := 21) hx hb dX8_may_8 (by decide) (fun c28 => ?_) (fun c28 => ?_)
  · have h := i_yes c28 h
    exact w_X8_may_21 hC hR _ _ _ hw (lv_sub hl [] rfl) h
  · have h := i_no c28 h
    refine lv_iload_n hx hb dX8_may_11 rfl (lv_at hl 2 rfl) ?_
    refine lv_if_lt (tgt := 21) hx hb dX8_may_12 (by decide) (fun c29 => ?_) (fun c29 => ?_)
    · have h := i_yes c29 h
      exact w_X8_may_21 hC hR _ _ _ hw (lv_sub hl [] rfl) h
    · have h := i_no c29 h
      refine lv_iload_n hx hb dX8_may_15 rfl (lv_at hl 2 rfl) ?_
      refine lv_bipush (v := 11) hx hb dX8_may_16 (by decide) ?_
      refine lv_icmp_lt (tgt := 25) hx hb dX8_may_18 (by decide) (fun c30 => ?_) (fun c30 => ?_)
      · have h := i_yes c30 h
        refine lv_iload_n hx hb dX8_may_25 rfl (lv_at hl 3 rfl) ?_
        refine lv_if_lt (tgt := 34) hx hb dX8_may_26 (by decide) (fun c31 => ?_) (fun c31 => ?_)
        · have h := i_yes c31 h
          exact w_X8_may_34 hC hR _ _ _ hw (lv_sub hl [] rfl) h
        · have h := i_no c31 h
          refine lv_iload_n hx hb dX8_may_29 rfl (lv_at hl 3 rfl) ?_
          refine lv_iconst (v := 4) hx hb dX8_may_30 (by decide) ?_
          refine lv_icmp_le (tgt := 38) hx hb dX8_may_31 (by decide) (fun c32 => ?_) (fun c32 => ?_)
          · have h := i_yes c32 h
            refine lv_aload_n hx hb dX8_may_38 rfl (lv_at hl 0 rfl) ?_
            obtain ⟨o33, ho36, h⟩ := rq_i h
            refine r_getR hC hw kc_7 hi0 3 rfl lk_358 dX8_may_39 rfl ho36 (fun a34 hi35 => ?_)
            refine lv_iload_n hx hb dX8_may_42 rfl (lv_at hl 1 rfl) ?_
            obtain ⟨r38, hq37, h⟩ := pq_i h
            refine r_cV (st' := [va_rf (r38.map ad)]) [.int x1] [] hC hw kc_0 hi35 (k_X0_sceneAt _ hi35 hq37) mk_X0_sceneAt lk_869 ⟨Nat.le_trans (by decide) hR.1, Nat.le_trans (by decide) hR.2⟩ ⟨Nat.zero_le _, Nat.zero_le _⟩ rfl hl.1 rfl rfl (Nat.le_of_ble_eq_true rfl) dX8_may_43 (fun hP H locs hw => ?_)
            cases r38 with
            | none =>
              have h := oqN h
              refine W.eq (g2 := F0 m 46 ls [.null]) rfl ?_
              refine lv_astoreN (lv' := [(4, .null), (0, .ref a0), (1, .int x1), (2, .int x2), (3, .int x3)]) hx hb dX8_may_46 hl (by decide) rfl (fun ls hl => ?_)
              refine lv_aloadN hx hb dX8_may_48 (lv_at hl 0 rfl) ?_
              refine lv_ifnonnullN hx hb dX8_may_50 ?_
              refine lv_lconst (v := 0) hx hb dX8_may_53 (by decide) ?_
              refine lv_goto (tgt := 64) hx hb dX8_may_54 (by decide) ?_
              cases h
              exact r_lret hC hw dX8_may_64
            | some o39 =>
              have h := oqS h
              have hi40 : Is S ad o39 (ad o39) 4 := ⟨(hP o39 rfl).1, (hP o39 rfl).2, rfl⟩
              refine W.eq (g2 := F0 m 46 ls [.ref (ad o39)]) rfl ?_
              refine lv_astore (lv' := [(4, .ref (ad o39)), (0, .ref a0), (1, .int x1), (2, .int x2), (3, .int x3)]) hx hb dX8_may_46 hl (by decide) rfl (fun ls hl => ?_)
              refine lv_aload hx hb dX8_may_48 (lv_at hl 0 rfl) ?_
              refine lv_ifnonnull (tgt := 57) hx hb dX8_may_50 (by decide) ?_
              refine lv_aload hx hb dX8_may_57 (lv_at hl 0 rfl) ?_
              refine lv_iload_n hx hb dX8_may_59 rfl (lv_at hl 3 rfl) ?_
              refine lv_iload_n hx hb dX8_may_60 rfl (lv_at hl 4 rfl) ?_
              obtain ⟨r42, hq41, h⟩ := pq_i h
              refine r_cV (st' := [.long r42]) [.int x2, .int x3] [] hC hw kc_4 hi40 (k_X5_tell _ hi40 hq41) mk_X5_tell lk_870 ⟨Nat.le_trans (by decide) hR.1, Nat.le_trans (by decide) hR.2⟩ ⟨Nat.zero_le _, Nat.zero_le _⟩ rfl hl.1 rfl rfl (Nat.le_of_ble_eq_true rfl) dX8_may_61 (fun hP H locs hw => ?_)
              cases h
              exact r_lret hC hw dX8_may_64
          · have h := i_no c32 h
            exact w_X8_may_34 hC hR _ _ _ hw (lv_sub hl [] rfl) h
      · have h := i_no c30 h
        exact w_X8_may_21 hC hR _ _ _ hw (lv_sub hl [] rfl) h
set_option maxHeartbeats 4000000 in
set_option maxRecDepth 100000 in
theorem k_X8_may {l : Launch} {G : va_G} {cA : Nat → ClassId} {S : sh} {D : dt} {ad : Nat → Nat} (sz : Nat) {o0 a0 : Nat} {x1 : Int32} {x2 : Int32} {x3 : Int32} {r : Int64} (hi0 : Is S ad o0 a0 7) (h : f_X8_may S D o0 x1 x2 x3 = some r) : Co l yX8_may (Cond.code yX8_may cX8_may 5 (some .long) :: tb0) 2 45 [.ref a0, .int x1, .int x2, .int x3] G cA S D ad sz (some (.long r)) True D := by
  refine Met.ofW (cc := cX8_may) (maxL := 5) (ret := (some .long)) (by decide) rfl ?_
  intro p e s m args below meth c s₁ B hml hv
  obtain ⟨rfl, hsz, hP, hK, hD0, hT, hX⟩ := hv
  subst hsz
  have hts := atoms_spec (ws := Cond.code yX8_may cX8_may 5 (some .long) :: tb0) B.pre
  have hC : Cx RX8 cX8_may 5 (some .long) p s m _ meth c := ⟨B.exec, B.bytes, hml, findClass_of_methodNamed B.named, fun w q => hts w (List.mem_cons_of_mem _ q), B.returns, B.notSynchronized⟩
  have hw := Wd.entry hP hK hD0 hT hX
  have hl := lv_entry ([.ref a0, .int x1, .int x2, .int x3]) (n := 5) (Nat.le_of_ble_eq_true rfl)
  rw [lg_entry_eq]
  exact w_X8_may_0 hC ⟨Nat.le_refl _, Nat.le_refl _⟩ o0 a0 x1 x2 x3 _ _ _ hi0 hw hl h
set_option maxHeartbeats 4000000 in
set_option maxRecDepth 100000 in
theorem w_X8_cell_0 {r : Int32} (hC : Cx RX8 cX8_cell 4 (some .int) p s m args meth c) (hR : 2 ≤ R.frames ∧ 43 ≤ R.locals) : ∀ (o0 a0 : Nat) (x1 : Int32) (x2 : Int32) (H : Heap) (locs : List Loc) (ls : Array Slot), Is S ad o0 a0 7 → Wd G cA S D ad A s H locs → lv_has ls 4 [(0, .ref a0), (1, .int x1), (2, .int x2)] → f_X8_cell S D o0 x1 x2 = some r → W p l e R s m args below meth c H locs 0 0 (MQ below (Qn (some (.int r)) True (wpost G cA S D ad A) A) args s 0 0 A) (F0 m 0 ls []) := by
  obtain ⟨hx, hb, -⟩ := id hC
  intro o0 a0 x1 x2 H locs ls hi0 hw hl h
  unfold f_X8_cell at h
  refine lv_aload_n hx hb dX8_cell_0 rfl (lv_at hl 0 rfl) ?_
  obtain ⟨o20, ho23, h⟩ := rq_i h
  refine r_getR hC hw kc_7 hi0 0 rfl lk_355 dX8_cell_1 rfl ho23 (fun a21 hi22 => ?_)
  refine lv_iload_n hx hb dX8_cell_4 rfl (lv_at hl 1 rfl) ?_
  obtain ⟨r25, hq24, h⟩ := pq_i h
  refine r_cV (st' := [.int r25]) [.int x1] [] hC hw kc_3 hi22 (k_X4_has _ hi22 hq24) mk_X4_has lk_387 ⟨Nat.le_trans (by decide) hR.1, Nat.le_trans (by decide) hR.2⟩ ⟨Nat.zero_le _, Nat.zero_le _⟩ rfl hl.1 rfl rfl (Nat.le_of_ble_eq_true rfl) dX8_cell_5 (fun hP H locs hw => ?_)
  refine lv_if_eq (tgt := 23) hx hb dX8_cell_8 (by decide) (fun c26 => ?_) (fun c26 => ?_)
  · have h := i_yes c26 h
    refine lv_iconst (v := (-1)) hx hb dX8_cell_23 (by decide) ?_
    cases h
    exact r_iret hC hw dX8_cell_24
  · have h := i_no c26 h
    refine lv_iload_n hx hb dX8_cell_11 rfl (lv_at hl 2 rfl) ?_
    refine lv_sipush (v := (-512)) hx hb dX8_cell_12 (by decide) ?_
    refine lv_icmp_lt (tgt := 23) hx hb dX8_cell_15 (by decide) (fun c27 => ?_) (fun c27 => ?_)
    · have h := i_yes c27 h
      refine lv_iconst (v := (-1)) hx hb dX8_cell_23 (by decide) ?_
      cases h
      exact r_iret hC hw dX8_cell_24
    · have h := i_no c27 h
      refine lv_iload_n hx hb dX8_cell_18 rfl (lv_at hl 2 rfl) ?_
      refine lv_iconst (v := (-1)) hx hb dX8_cell_19 (by decide) ?_
      refine lv_icmp_le (tgt := 25) hx hb dX8_cell_20 (by decide) (fun c28 => ?_) (fun c28 => ?_)
      · have h := i_yes c28 h
        refine lv_aload_n hx hb dX8_cell_25 rfl (lv_at hl 0 rfl) ?_
        obtain ⟨o29, ho32, h⟩ := rq_i h
        refine r_getR hC hw kc_7 hi0 3 rfl lk_358 dX8_cell_26 rfl ho32 (fun a30 hi31 => ?_)
        refine lv_iload_n hx hb dX8_cell_29 rfl (lv_at hl 1 rfl) ?_
        obtain ⟨r34, hq33, h⟩ := pq_i h
        refine r_cV (st' := [va_rf (r34.map ad)]) [.int x1] [] hC hw kc_0 hi31 (k_X0_sceneAt _ hi31 hq33) mk_X0_sceneAt lk_869 ⟨Nat.le_trans (by decide) hR.1, Nat.le_trans (by decide) hR.2⟩ ⟨Nat.zero_le _, Nat.zero_le _⟩ rfl hl.1 rfl rfl (Nat.le_of_ble_eq_true rfl) dX8_cell_30 (fun hP H locs hw => ?_)
        cases r34 with
        | none =>
          have h := oqN h
          refine W.eq (g2 := F0 m 33 ls [.null]) rfl ?_
          refine lv_astore_nN (lv' := [(3, .null), (0, .ref a0), (1, .int x1), (2, .int x2)]) hx hb dX8_cell_33 rfl hl (by decide) rfl (fun ls hl => ?_)
          refine lv_aload_nN hx hb dX8_cell_34 rfl (lv_at hl 0 rfl) ?_
          refine lv_ifnonnullN hx hb dX8_cell_35 ?_
          refine lv_iconst (v := 0) hx hb dX8_cell_38 (by decide) ?_
          refine lv_goto (tgt := 51) hx hb dX8_cell_39 (by decide) ?_
          cases h
          exact r_iret hC hw dX8_cell_51
        | some o35 =>
          have h := oqS h
          have hi36 : Is S ad o35 (ad o35) 4 := ⟨(hP o35 rfl).1, (hP o35 rfl).2, rfl⟩
          refine W.eq (g2 := F0 m 33 ls [.ref (ad o35)]) rfl ?_
          refine lv_astore_n (lv' := [(3, .ref (ad o35)), (0, .ref a0), (1, .int x1), (2, .int x2)]) hx hb dX8_cell_33 rfl hl (by decide) rfl (fun ls hl => ?_)
          refine lv_aload_n hx hb dX8_cell_34 rfl (lv_at hl 0 rfl) ?_
          refine lv_ifnonnull (tgt := 42) hx hb dX8_cell_35 (by decide) ?_
          refine lv_aload_n hx hb dX8_cell_42 rfl (lv_at hl 0 rfl) ?_
          refine lv_iload_n hx hb dX8_cell_43 rfl (lv_at hl 3 rfl) ?_
          refine lv_sipush (v := 512) hx hb dX8_cell_44 (by decide) ?_
          refine lv_iadd hx hb dX8_cell_47 ?_
          obtain ⟨r38, hq37, h⟩ := pq_i h
          refine r_cV (st' := [.int r38]) [.int (x2 + (512 : Int32))] [] hC hw kc_4 hi36 (k_X5_tellOctet _ hi36 hq37) mk_X5_tellOctet lk_879 ⟨Nat.le_trans (by decide) hR.1, Nat.le_trans (by decide) hR.2⟩ ⟨Nat.zero_le _, Nat.zero_le _⟩ rfl hl.1 rfl rfl (Nat.le_of_ble_eq_true rfl) dX8_cell_48 (fun hP H locs hw => ?_)
          cases h
          exact r_iret hC hw dX8_cell_51
      · have h := i_no c28 h
        refine lv_iconst (v := (-1)) hx hb dX8_cell_23 (by decide) ?_
        cases h
        exact r_iret hC hw dX8_cell_24
set_option maxHeartbeats 4000000 in
set_option maxRecDepth 100000 in
theorem k_X8_cell {l : Launch} {G : va_G} {cA : Nat → ClassId} {S : sh} {D : dt} {ad : Nat → Nat} (sz : Nat) {o0 a0 : Nat} {x1 : Int32} {x2 : Int32} {r : Int32} (hi0 : Is S ad o0 a0 7) (h : f_X8_cell S D o0 x1 x2 = some r) : Co l yX8_cell (Cond.code yX8_cell cX8_cell 4 (some .int) :: tb0) 2 43 [.ref a0, .int x1, .int x2] G cA S D ad sz (some (.int r)) True D := by
  refine Met.ofW (cc := cX8_cell) (maxL := 4) (ret := (some .int)) (by decide) rfl ?_
  intro p e s m args below meth c s₁ B hml hv
  obtain ⟨rfl, hsz, hP, hK, hD0, hT, hX⟩ := hv
  subst hsz
  have hts := atoms_spec (ws := Cond.code yX8_cell cX8_cell 4 (some .int) :: tb0) B.pre
  have hC : Cx RX8 cX8_cell 4 (some .int) p s m _ meth c := ⟨B.exec, B.bytes, hml, findClass_of_methodNamed B.named, fun w q => hts w (List.mem_cons_of_mem _ q), B.returns, B.notSynchronized⟩
  have hw := Wd.entry hP hK hD0 hT hX
  have hl := lv_entry ([.ref a0, .int x1, .int x2]) (n := 4) (Nat.le_of_ble_eq_true rfl)
  rw [lg_entry_eq]
  exact w_X8_cell_0 hC ⟨Nat.le_refl _, Nat.le_refl _⟩ o0 a0 x1 x2 _ _ _ hi0 hw hl h
set_option maxHeartbeats 4000000 in
set_option maxRecDepth 100000 in
theorem w_X8_start_0 {r : Int32} {D' : dt} (hC : Cx RX8 cX8_start 1 (some .int) p s m args meth c) (hR : 2 ≤ R.frames ∧ 44 ≤ R.locals) : ∀ (o0 a0 : Nat) (D : dt) (H : Heap) (locs : List Loc) (ls : Array Slot), Is S ad o0 a0 7 → Wd G cA S D ad A s H locs → lv_has ls 1 [(0, .ref a0)] → f_X8_start S o0 D = some (r, D') → W p l e R s m args below meth c H locs 0 0 (MQ below (Qn (some (.int r)) True (wpost G cA S D' ad A) A) args s 0 0 A) (F0 m 0 ls []) := by
  obtain ⟨hx, hb, -⟩ := id hC
  intro o0 a0 D H locs ls hi0 hw hl h
  unfold f_X8_start at h
  refine lv_aload_n hx hb dX8_start_0 rfl (lv_at hl 0 rfl) ?_
  obtain ⟨o12, ho15, h⟩ := rq_i h
  refine r_getR hC hw kc_7 hi0 0 rfl lk_355 dX8_start_1 rfl ho15 (fun a13 hi14 => ?_)
  refine r_gI hC hw kc_3 hi14 5 rfl lk_157 dX8_start_4 ?_
  refine lv_if_ne (tgt := 13) hx hb dX8_start_7 (by decide) (fun c16 => ?_) (fun c16 => ?_)
  · have h := i_no c16 h
    refine lv_aload_n hx hb dX8_start_13 rfl (lv_at hl 0 rfl) ?_
    obtain ⟨o17, ho20, h⟩ := rq_i h
    refine r_getR hC hw kc_7 hi0 2 rfl lk_357 dX8_start_14 rfl ho20 (fun a18 hi19 => ?_)
    obtain ⟨_, D22, hq21, h⟩ := cq_i h
    refine r_cV (st' := []) [] [] hC hw kc_1 hi19 (k_X1_begin _ hi19 hq21) mk_X1_begin lk_887 ⟨Nat.le_trans (by decide) hR.1, Nat.le_trans (by decide) hR.2⟩ ⟨Nat.zero_le _, Nat.zero_le _⟩ rfl hl.1 rfl rfl (Nat.le_of_ble_eq_true rfl) dX8_start_17 (fun hP H locs hw => ?_)
    refine lv_iconst (v := 1) hx hb dX8_start_20 (by decide) ?_
    cases h
    exact r_iret hC hw dX8_start_21
  · have h := i_yes c16 h
    refine lv_bipush (v := (-3)) hx hb dX8_start_10 (by decide) ?_
    cases h
    exact r_iret hC hw dX8_start_12
set_option maxHeartbeats 4000000 in
set_option maxRecDepth 100000 in
theorem k_X8_start {l : Launch} {G : va_G} {cA : Nat → ClassId} {S : sh} {D D' : dt} {ad : Nat → Nat} (sz : Nat) {o0 a0 : Nat} {r : Int32} (hi0 : Is S ad o0 a0 7) (h : f_X8_start S o0 D = some (r, D')) : Co l yX8_start (Cond.code yX8_start cX8_start 1 (some .int) :: tb0) 2 44 [.ref a0] G cA S D ad sz (some (.int r)) True D' := by
  refine Met.ofW (cc := cX8_start) (maxL := 1) (ret := (some .int)) (by decide) rfl ?_
  intro p e s m args below meth c s₁ B hml hv
  obtain ⟨rfl, hsz, hP, hK, hD0, hT, hX⟩ := hv
  subst hsz
  have hts := atoms_spec (ws := Cond.code yX8_start cX8_start 1 (some .int) :: tb0) B.pre
  have hC : Cx RX8 cX8_start 1 (some .int) p s m _ meth c := ⟨B.exec, B.bytes, hml, findClass_of_methodNamed B.named, fun w q => hts w (List.mem_cons_of_mem _ q), B.returns, B.notSynchronized⟩
  have hw := Wd.entry hP hK hD0 hT hX
  have hl := lv_entry ([.ref a0]) (n := 1) (Nat.le_of_ble_eq_true rfl)
  rw [lg_entry_eq]
  exact w_X8_start_0 hC ⟨Nat.le_refl _, Nat.le_refl _⟩ o0 a0 D _ _ _ hi0 hw hl h
set_option maxHeartbeats 4000000 in
set_option maxRecDepth 100000 in
theorem w_X8_step_0 {r : Int32} {D' : dt} (hC : Cx RX8 cX8_step 1 (some .int) p s m args meth c) (hR : 6 ≤ R.frames ∧ 146 ≤ R.locals) : ∀ (o0 a0 : Nat) (D : dt) (H : Heap) (locs : List Loc) (ls : Array Slot), Is S ad o0 a0 7 → Wd G cA S D ad A s H locs → lv_has ls 1 [(0, .ref a0)] → f_X8_step S o0 D = some (r, D') → W p l e R s m args below meth c H locs 0 0 (MQ below (Qn (some (.int r)) True (wpost G cA S D' ad A) A) args s 0 0 A) (F0 m 0 ls []) := by
  obtain ⟨hx, hb, -⟩ := id hC
  intro o0 a0 D H locs ls hi0 hw hl h
  unfold f_X8_step at h
  refine lv_aload_n hx hb dX8_step_0 rfl (lv_at hl 0 rfl) ?_
  obtain ⟨o13, ho16, h⟩ := rq_i h
  refine r_getR hC hw kc_7 hi0 2 rfl lk_357 dX8_step_1 rfl ho16 (fun a14 hi15 => ?_)
  refine r_gI hC hw kc_1 hi15 5 rfl lk_227 dX8_step_4 ?_
  refine lv_iconst (v := 1) hx hb dX8_step_7 (by decide) ?_
  refine lv_icmp_eq (tgt := 14) hx hb dX8_step_8 (by decide) (fun c17 => ?_) (fun c17 => ?_)
  · have h := i_yes c17 h
    refine lv_aload_n hx hb dX8_step_14 rfl (lv_at hl 0 rfl) ?_
    obtain ⟨o18, ho21, h⟩ := rq_i h
    refine r_getR hC hw kc_7 hi0 2 rfl lk_357 dX8_step_15 rfl ho21 (fun a19 hi20 => ?_)
    obtain ⟨r23, D24, hq22, h⟩ := cq_i h
    refine r_cV (st' := [.int r23]) [] [] hC hw kc_1 hi20 (k_X1_advance _ hi20 hq22) mk_X1_advance lk_901 ⟨Nat.le_trans (by decide) hR.1, Nat.le_trans (by decide) hR.2⟩ ⟨Nat.zero_le _, Nat.zero_le _⟩ rfl hl.1 rfl rfl (Nat.le_of_ble_eq_true rfl) dX8_step_18 (fun hP H locs hw => ?_)
    cases h
    exact r_iret hC hw dX8_step_21
  · have h := i_no c17 h
    refine lv_bipush (v := (-3)) hx hb dX8_step_11 (by decide) ?_
    cases h
    exact r_iret hC hw dX8_step_13
set_option maxHeartbeats 4000000 in
set_option maxRecDepth 100000 in
theorem k_X8_step {l : Launch} {G : va_G} {cA : Nat → ClassId} {S : sh} {D D' : dt} {ad : Nat → Nat} (sz : Nat) {o0 a0 : Nat} {r : Int32} (hi0 : Is S ad o0 a0 7) (h : f_X8_step S o0 D = some (r, D')) : Co l yX8_step (Cond.code yX8_step cX8_step 1 (some .int) :: tb0) 6 146 [.ref a0] G cA S D ad sz (some (.int r)) True D' := by
  refine Met.ofW (cc := cX8_step) (maxL := 1) (ret := (some .int)) (by decide) rfl ?_
  intro p e s m args below meth c s₁ B hml hv
  obtain ⟨rfl, hsz, hP, hK, hD0, hT, hX⟩ := hv
  subst hsz
  have hts := atoms_spec (ws := Cond.code yX8_step cX8_step 1 (some .int) :: tb0) B.pre
  have hC : Cx RX8 cX8_step 1 (some .int) p s m _ meth c := ⟨B.exec, B.bytes, hml, findClass_of_methodNamed B.named, fun w q => hts w (List.mem_cons_of_mem _ q), B.returns, B.notSynchronized⟩
  have hw := Wd.entry hP hK hD0 hT hX
  have hl := lv_entry ([.ref a0]) (n := 1) (Nat.le_of_ble_eq_true rfl)
  rw [lg_entry_eq]
  exact w_X8_step_0 hC ⟨Nat.le_refl _, Nat.le_refl _⟩ o0 a0 D _ _ _ hi0 hw hl h
set_option maxHeartbeats 4000000 in
set_option maxRecDepth 100000 in
theorem w_X8_run_60 {r : Int32} {D' : dt} (hC : Cx RX8 cX8_run 3 (some .int) p s m args meth c) (hR : 6 ≤ R.frames ∧ 146 ≤ R.locals) : ∀ (o0 a0 : Nat) (D : dt) (H : Heap) (locs : List Loc) (ls : Array Slot), Is S ad o0 a0 7 → Wd G cA S D ad A s H locs → lv_has ls 3 [(0, .ref a0)] → f_X8_run_60 S o0 D = some (r, D') → W p l e R s m args below meth c H locs 0 0 (MQ below (Qn (some (.int r)) True (wpost G cA S D' ad A) A) args s 0 0 A) (F0 m 60 ls []) := by
  obtain ⟨hx, hb, -⟩ := id hC
  intro o0 a0 D H locs ls hi0 hw hl h
  unfold f_X8_run_60 at h
  refine lv_aload_n hx hb dX8_run_60 rfl (lv_at hl 0 rfl) ?_
  obtain ⟨o27, ho30, h⟩ := rq_i h
  refine r_getR hC hw kc_7 hi0 2 rfl lk_357 dX8_run_61 rfl ho30 (fun a28 hi29 => ?_)
  refine r_gI hC hw kc_1 hi29 5 rfl lk_227 dX8_run_64 ?_
  cases h
  exact r_iret hC hw dX8_run_67
set_option maxHeartbeats 4000000 in
set_option maxRecDepth 100000 in
theorem w_X8_run_30 {r : Int32} {D' : dt} (hC : Cx RX8 cX8_run 3 (some .int) p s m args meth c) (hR : 6 ≤ R.frames ∧ 146 ≤ R.locals) : ∀ (n : Nat), ∀ (o0 a0 : Nat) (x1 : Int32) (x2 : Int32) (D : dt) (H : Heap) (locs : List Loc) (ls : Array Slot), Is S ad o0 a0 7 → Wd G cA S D ad A s H locs → lv_has ls 3 [(0, .ref a0), (1, .int x1), (2, .int x2)] → f_X8_run_30 S n o0 x1 x2 D = some (r, D') → W p l e R s m args below meth c H locs 0 0 (MQ below (Qn (some (.int r)) True (wpost G cA S D' ad A) A) args s 0 0 A) (F0 m 30 ls []) := by
  obtain ⟨hx, hb, -⟩ := id hC
  intro n
  induction n with
  | zero =>
    intro o0 a0 x1 x2 D H locs ls hi0 hw hl h
    rw [f_X8_run_30.eq_1] at h
    cases h
  | succ n ih =>
    intro o0 a0 x1 x2 D H locs ls hi0 hw hl h
    rw [f_X8_run_30.eq_2] at h
    refine lv_iload_n hx hb dX8_run_30 rfl (lv_at hl 2 rfl) ?_
    refine lv_iload_n hx hb dX8_run_31 rfl (lv_at hl 1 rfl) ?_
    refine lv_icmp_ge (tgt := 60) hx hb dX8_run_32 (by decide) (fun c31 => ?_) (fun c31 => ?_)
    · have h := i_yes c31 h
      exact w_X8_run_60 hC hR o0 a0 _ _ _ _ hi0 hw (lv_sub hl [0] rfl) h
    · have h := i_no c31 h
      refine lv_aload_n hx hb dX8_run_35 rfl (lv_at hl 0 rfl) ?_
      obtain ⟨o32, ho35, h⟩ := rq_i h
      refine r_getR hC hw kc_7 hi0 2 rfl lk_357 dX8_run_36 rfl ho35 (fun a33 hi34 => ?_)
      refine r_gI hC hw kc_1 hi34 5 rfl lk_227 dX8_run_39 ?_
      refine lv_iconst (v := 1) hx hb dX8_run_42 (by decide) ?_
      refine lv_icmp_ne (tgt := 60) hx hb dX8_run_43 (by decide) (fun c36 => ?_) (fun c36 => ?_)
      · have h := i_no c36 h
        exact w_X8_run_60 hC hR o0 a0 _ _ _ _ hi0 hw (lv_sub hl [0] rfl) h
      · have h := i_yes c36 h
        refine lv_aload_n hx hb dX8_run_46 rfl (lv_at hl 0 rfl) ?_
        obtain ⟨o37, ho40, h⟩ := rq_i h
        refine r_getR hC hw kc_7 hi0 2 rfl lk_357 dX8_run_47 rfl ho40 (fun a38 hi39 => ?_)
        obtain ⟨r42, D43, hq41, h⟩ := cq_i h
        refine r_cV (st' := [.int r42]) [] [] hC hw kc_1 hi39 (k_X1_advance _ hi39 hq41) mk_X1_advance lk_901 ⟨Nat.le_trans (by decide) hR.1, Nat.le_trans (by decide) hR.2⟩ ⟨Nat.zero_le _, Nat.zero_le _⟩ rfl hl.1 rfl rfl (Nat.le_of_ble_eq_true rfl) dX8_run_50 (fun hP H locs hw => ?_)
        refine lv_pop hx hb dX8_run_53 rfl ?_
        obtain ⟨y44, ey44⟩ : ∃ z : Int32, z = x2 + 1 := ⟨_, rfl⟩
        have h := nm_i h y44 ey44
        refine lv_iinc (v := y44) (lv' := [(2, .int y44), (0, .ref a0), (1, .int x1)]) hx hb dX8_run_54 hl (k := 2) rfl (by rw [ey44]; rfl) (by decide) rfl (fun ls hl => ?_)
        refine lv_goto (tgt := 30) hx hb dX8_run_57 (by decide) ?_
        exact ih o0 a0 x1 y44 _ _ _ _ hi0 hw (lv_sub hl [1, 2, 0] rfl) h
set_option maxHeartbeats 4000000 in
set_option maxRecDepth 100000 in
theorem w_X8_run_0 {r : Int32} {D' : dt} (hC : Cx RX8 cX8_run 3 (some .int) p s m args meth c) (hR : 6 ≤ R.frames ∧ 146 ≤ R.locals) : ∀ (o0 a0 : Nat) (x1 : Int32) (D : dt) (H : Heap) (locs : List Loc) (ls : Array Slot), Is S ad o0 a0 7 → Wd G cA S D ad A s H locs → lv_has ls 3 [(0, .ref a0), (1, .int x1)] → f_X8_run S o0 x1 D = some (r, D') → W p l e R s m args below meth c H locs 0 0 (MQ below (Qn (some (.int r)) True (wpost G cA S D' ad A) A) args s 0 0 A) (F0 m 0 ls []) := by
  obtain ⟨hx, hb, -⟩ := id hC
  intro o0 a0 x1 D H locs ls hi0 hw hl h
  unfold f_X8_run at h
  refine lv_iload_n hx hb dX8_run_0 rfl (lv_at hl 1 rfl) ?_
  refine lv_if_lt (tgt := 11) hx hb dX8_run_1 (by decide) (fun c45 => ?_) (fun c45 => ?_)
  · have h := i_yes c45 h
    refine lv_bipush (v := (-2)) hx hb dX8_run_11 (by decide) ?_
    cases h
    exact r_iret hC hw dX8_run_13
  · have h := i_no c45 h
    refine lv_iload_n hx hb dX8_run_4 rfl (lv_at hl 1 rfl) ?_
    refine lv_sipush (v := 10000) hx hb dX8_run_5 (by decide) ?_
    refine lv_icmp_le (tgt := 14) hx hb dX8_run_8 (by decide) (fun c46 => ?_) (fun c46 => ?_)
    · have h := i_yes c46 h
      refine lv_aload_n hx hb dX8_run_14 rfl (lv_at hl 0 rfl) ?_
      obtain ⟨o47, ho50, h⟩ := rq_i h
      refine r_getR hC hw kc_7 hi0 2 rfl lk_357 dX8_run_15 rfl ho50 (fun a48 hi49 => ?_)
      refine r_gI hC hw kc_1 hi49 5 rfl lk_227 dX8_run_18 ?_
      refine lv_iconst (v := 1) hx hb dX8_run_21 (by decide) ?_
      refine lv_icmp_eq (tgt := 28) hx hb dX8_run_22 (by decide) (fun c51 => ?_) (fun c51 => ?_)
      · have h := i_yes c51 h
        refine lv_iconst (v := 0) hx hb dX8_run_28 (by decide) ?_
        refine lv_topi (fun y52 ey52 => ?_)
        have h := nm_i h y52 ey52
        refine lv_istore_n (lv' := [(2, .int y52), (0, .ref a0), (1, .int x1)]) hx hb dX8_run_29 rfl hl (by decide) rfl (fun ls hl => ?_)
        exact w_X8_run_30 hC hR LF o0 a0 x1 y52 _ _ _ _ hi0 hw (lv_sub hl [1, 2, 0] rfl) h
      · have h := i_no c51 h
        refine lv_bipush (v := (-3)) hx hb dX8_run_25 (by decide) ?_
        cases h
        exact r_iret hC hw dX8_run_27
    · have h := i_no c46 h
      refine lv_bipush (v := (-2)) hx hb dX8_run_11 (by decide) ?_
      cases h
      exact r_iret hC hw dX8_run_13
set_option maxHeartbeats 4000000 in
set_option maxRecDepth 100000 in
theorem k_X8_run {l : Launch} {G : va_G} {cA : Nat → ClassId} {S : sh} {D D' : dt} {ad : Nat → Nat} (sz : Nat) {o0 a0 : Nat} {x1 : Int32} {r : Int32} (hi0 : Is S ad o0 a0 7) (h : f_X8_run S o0 x1 D = some (r, D')) : Co l yX8_run (Cond.code yX8_run cX8_run 3 (some .int) :: tb0) 6 146 [.ref a0, .int x1] G cA S D ad sz (some (.int r)) True D' := by
  refine Met.ofW (cc := cX8_run) (maxL := 3) (ret := (some .int)) (by decide) rfl ?_
  intro p e s m args below meth c s₁ B hml hv
  obtain ⟨rfl, hsz, hP, hK, hD0, hT, hX⟩ := hv
  subst hsz
  have hts := atoms_spec (ws := Cond.code yX8_run cX8_run 3 (some .int) :: tb0) B.pre
  have hC : Cx RX8 cX8_run 3 (some .int) p s m _ meth c := ⟨B.exec, B.bytes, hml, findClass_of_methodNamed B.named, fun w q => hts w (List.mem_cons_of_mem _ q), B.returns, B.notSynchronized⟩
  have hw := Wd.entry hP hK hD0 hT hX
  have hl := lv_entry ([.ref a0, .int x1]) (n := 3) (Nat.le_of_ble_eq_true rfl)
  rw [lg_entry_eq]
  exact w_X8_run_0 hC ⟨Nat.le_refl _, Nat.le_refl _⟩ o0 a0 x1 D _ _ _ hi0 hw hl h
set_option maxHeartbeats 4000000 in
set_option maxRecDepth 100000 in
theorem w_X8_told_0 {r : Int32} (hC : Cx RX8 cX8_told 2 (some .int) p s m args meth c) (hR : 0 ≤ R.frames ∧ 0 ≤ R.locals) : ∀ (o0 a0 : Nat) (x1 : Int32) (H : Heap) (locs : List Loc) (ls : Array Slot), Is S ad o0 a0 7 → Wd G cA S D ad A s H locs → lv_has ls 2 [(0, .ref a0), (1, .int x1)] → f_X8_told S D o0 x1 = some r → W p l e R s m args below meth c H locs 0 0 (MQ below (Qn (some (.int r)) True (wpost G cA S D ad A) A) args s 0 0 A) (F0 m 0 ls []) := by
  obtain ⟨hx, hb, -⟩ := id hC
  intro o0 a0 x1 H locs ls hi0 hw hl h
  unfold f_X8_told at h
  refine lv_iload_n hx hb dX8_told_0 rfl (lv_at hl 1 rfl) ?_
  by_cases c31 : x1 = 0
  · have h := i_yes c31 h
    refine lv_tableIn (off := 39) (tgt := 40) hx hb dX8_told_1 (by rw [c31]; decide) (by rw [c31]; decide) (by rw [c31] <;> rfl) (by decide) ?_
    refine lv_aload_n hx hb dX8_told_40 rfl (lv_at hl 0 rfl) ?_
    obtain ⟨o32, ho35, h⟩ := rq_i h
    refine r_getR hC hw kc_7 hi0 2 rfl lk_357 dX8_told_41 rfl ho35 (fun a33 hi34 => ?_)
    refine r_gI hC hw kc_1 hi34 5 rfl lk_227 dX8_told_44 ?_
    cases h
    exact r_iret hC hw dX8_told_47
  have h := i_no c31 h
  by_cases c36 : x1 = 1
  · have h := i_yes c36 h
    refine lv_tableIn (off := 47) (tgt := 48) hx hb dX8_told_1 (by rw [c36]; decide) (by rw [c36]; decide) (by rw [c36] <;> rfl) (by decide) ?_
    refine lv_aload_n hx hb dX8_told_48 rfl (lv_at hl 0 rfl) ?_
    obtain ⟨o37, ho40, h⟩ := rq_i h
    refine r_getR hC hw kc_7 hi0 2 rfl lk_357 dX8_told_49 rfl ho40 (fun a38 hi39 => ?_)
    refine r_gI hC hw kc_1 hi39 6 rfl lk_229 dX8_told_52 ?_
    cases h
    exact r_iret hC hw dX8_told_55
  have h := i_no c36 h
  by_cases c41 : x1 = 2
  · have h := i_yes c41 h
    refine lv_tableIn (off := 55) (tgt := 56) hx hb dX8_told_1 (by rw [c41]; decide) (by rw [c41]; decide) (by rw [c41] <;> rfl) (by decide) ?_
    refine lv_aload_n hx hb dX8_told_56 rfl (lv_at hl 0 rfl) ?_
    obtain ⟨o42, ho45, h⟩ := rq_i h
    refine r_getR hC hw kc_7 hi0 2 rfl lk_357 dX8_told_57 rfl ho45 (fun a43 hi44 => ?_)
    refine r_gI hC hw kc_1 hi44 7 rfl lk_231 dX8_told_60 ?_
    cases h
    exact r_iret hC hw dX8_told_63
  have h := i_no c41 h
  by_cases c46 : x1 = 3
  · have h := i_yes c46 h
    refine lv_tableIn (off := 63) (tgt := 64) hx hb dX8_told_1 (by rw [c46]; decide) (by rw [c46]; decide) (by rw [c46] <;> rfl) (by decide) ?_
    refine lv_aload_n hx hb dX8_told_64 rfl (lv_at hl 0 rfl) ?_
    obtain ⟨o47, ho50, h⟩ := rq_i h
    refine r_getR hC hw kc_7 hi0 0 rfl lk_355 dX8_told_65 rfl ho50 (fun a48 hi49 => ?_)
    refine r_gI hC hw kc_3 hi49 5 rfl lk_157 dX8_told_68 ?_
    cases h
    exact r_iret hC hw dX8_told_71
  have h := i_no c46 h
  by_cases c51 : x1 = 4
  · have h := i_yes c51 h
    refine lv_tableIn (off := 71) (tgt := 72) hx hb dX8_told_1 (by rw [c51]; decide) (by rw [c51]; decide) (by rw [c51] <;> rfl) (by decide) ?_
    refine lv_aload_n hx hb dX8_told_72 rfl (lv_at hl 0 rfl) ?_
    obtain ⟨o52, ho55, h⟩ := rq_i h
    refine r_getR hC hw kc_7 hi0 1 rfl lk_356 dX8_told_73 rfl ho55 (fun a53 hi54 => ?_)
    refine r_gI hC hw kc_2 hi54 4 rfl lk_190 dX8_told_76 ?_
    cases h
    exact r_iret hC hw dX8_told_79
  have h := i_no c51 h
  by_cases c56 : x1 = 5
  · have h := i_yes c56 h
    refine lv_tableIn (off := 79) (tgt := 80) hx hb dX8_told_1 (by rw [c56]; decide) (by rw [c56]; decide) (by rw [c56] <;> rfl) (by decide) ?_
    refine lv_aload_n hx hb dX8_told_80 rfl (lv_at hl 0 rfl) ?_
    obtain ⟨o57, ho60, h⟩ := rq_i h
    refine r_getR hC hw kc_7 hi0 2 rfl lk_357 dX8_told_81 rfl ho60 (fun a58 hi59 => ?_)
    refine r_gI hC hw kc_1 hi59 4 rfl lk_225 dX8_told_84 ?_
    cases h
    exact r_iret hC hw dX8_told_87
  have h := i_no c56 h
  refine lv_tableOut (tgt := 88) hx hb dX8_told_1 (by have nc31 := lv_neT c31 (a := 0) rfl; have nc36 := lv_neT c36 (a := 1) rfl; have nc41 := lv_neT c41 (a := 2) rfl; have nc46 := lv_neT c46 (a := 3) rfl; have nc51 := lv_neT c51 (a := 4) rfl; have nc56 := lv_neT c56 (a := 5) rfl; omega) (by decide) ?_
  refine lv_bipush (v := (-2)) hx hb dX8_told_88 (by decide) ?_
  cases h
  exact r_iret hC hw dX8_told_90
set_option maxHeartbeats 4000000 in
set_option maxRecDepth 100000 in
theorem k_X8_told {l : Launch} {G : va_G} {cA : Nat → ClassId} {S : sh} {D : dt} {ad : Nat → Nat} (sz : Nat) {o0 a0 : Nat} {x1 : Int32} {r : Int32} (hi0 : Is S ad o0 a0 7) (h : f_X8_told S D o0 x1 = some r) : Co l yX8_told (Cond.code yX8_told cX8_told 2 (some .int) :: tb0) 0 0 [.ref a0, .int x1] G cA S D ad sz (some (.int r)) True D := by
  refine Met.ofW (cc := cX8_told) (maxL := 2) (ret := (some .int)) (by decide) rfl ?_
  intro p e s m args below meth c s₁ B hml hv
  obtain ⟨rfl, hsz, hP, hK, hD0, hT, hX⟩ := hv
  subst hsz
  have hts := atoms_spec (ws := Cond.code yX8_told cX8_told 2 (some .int) :: tb0) B.pre
  have hC : Cx RX8 cX8_told 2 (some .int) p s m _ meth c := ⟨B.exec, B.bytes, hml, findClass_of_methodNamed B.named, fun w q => hts w (List.mem_cons_of_mem _ q), B.returns, B.notSynchronized⟩
  have hw := Wd.entry hP hK hD0 hT hX
  have hl := lv_entry ([.ref a0, .int x1]) (n := 2) (Nat.le_of_ble_eq_true rfl)
  rw [lg_entry_eq]
  exact w_X8_told_0 hC ⟨Nat.le_refl _, Nat.le_refl _⟩ o0 a0 x1 _ _ _ hi0 hw hl h
set_option maxHeartbeats 4000000 in
set_option maxRecDepth 100000 in
theorem w_X8_register_10 {r : Int64} (hC : Cx RX8 cX8_register 2 (some .long) p s m args meth c) (hR : 0 ≤ R.frames ∧ 0 ≤ R.locals) : ∀  (H : Heap) (locs : List Loc) (ls : Array Slot), Wd G cA S D ad A s H locs → lv_has ls 2 [] → f_X8_register_10 S D = some r → W p l e R s m args below meth c H locs 0 0 (MQ below (Qn (some (.long r)) True (wpost G cA S D ad A) A) args s 0 0 A) (F0 m 10 ls []) := by
  obtain ⟨hx, hb, -⟩ := id hC
  intro H locs ls  hw hl h
  unfold f_X8_register_10 at h
  refine lv_lconst (v := 0) hx hb dX8_register_10 (by decide) ?_
  refine lv_goto (tgt := 23) hx hb dX8_register_11 (by decide) ?_
  cases h
  exact r_lret hC hw dX8_register_23
set_option maxHeartbeats 4000000 in
set_option maxRecDepth 100000 in
theorem w_X8_register_0 {r : Int64} (hC : Cx RX8 cX8_register 2 (some .long) p s m args meth c) (hR : 0 ≤ R.frames ∧ 0 ≤ R.locals) : ∀ (o0 a0 : Nat) (x1 : Int32) (H : Heap) (locs : List Loc) (ls : Array Slot), Is S ad o0 a0 7 → Wd G cA S D ad A s H locs → lv_has ls 2 [(0, .ref a0), (1, .int x1)] → f_X8_register S D o0 x1 = some r → W p l e R s m args below meth c H locs 0 0 (MQ below (Qn (some (.long r)) True (wpost G cA S D ad A) A) args s 0 0 A) (F0 m 0 ls []) := by
  obtain ⟨hx, hb, -⟩ := id hC
  intro o0 a0 x1 H locs ls hi0 hw hl h
  unfold f_X8_register at h
  refine lv_iload_n hx hb dX8_register_0 rfl (lv_at hl 1 rfl) ?_
  refine lv_if_lt (tgt := 10) hx hb dX8_register_1 (by decide) (fun c12 => ?_) (fun c12 => ?_)
  · have h := i_yes c12 h
    exact w_X8_register_10 hC hR _ _ _ hw (lv_sub hl [] rfl) h
  · have h := i_no c12 h
    refine lv_iload_n hx hb dX8_register_4 rfl (lv_at hl 1 rfl) ?_
    refine lv_bipush (v := 11) hx hb dX8_register_5 (by decide) ?_
    refine lv_icmp_lt (tgt := 14) hx hb dX8_register_7 (by decide) (fun c13 => ?_) (fun c13 => ?_)
    · have h := i_yes c13 h
      refine lv_aload_n hx hb dX8_register_14 rfl (lv_at hl 0 rfl) ?_
      obtain ⟨o14, ho17, h⟩ := rq_i h
      refine r_getR hC hw kc_7 hi0 2 rfl lk_357 dX8_register_15 rfl ho17 (fun a15 hi16 => ?_)
      obtain ⟨o18, ho21, h⟩ := rq_i h
      refine r_getR hC hw kc_1 hi16 2 rfl lk_222 dX8_register_18 rfl ho21 (fun a19 hi20 => ?_)
      refine lv_iload_n hx hb dX8_register_21 rfl (lv_at hl 1 rfl) ?_
      obtain ⟨hn22, h⟩ := ix_i h
      refine r_lald hC hw hi20 hn22 dX8_register_22 ?_
      cases h
      exact r_lret hC hw dX8_register_23
    · have h := i_no c13 h
      exact w_X8_register_10 hC hR _ _ _ hw (lv_sub hl [] rfl) h
set_option maxHeartbeats 4000000 in
set_option maxRecDepth 100000 in
theorem k_X8_register {l : Launch} {G : va_G} {cA : Nat → ClassId} {S : sh} {D : dt} {ad : Nat → Nat} (sz : Nat) {o0 a0 : Nat} {x1 : Int32} {r : Int64} (hi0 : Is S ad o0 a0 7) (h : f_X8_register S D o0 x1 = some r) : Co l yX8_register (Cond.code yX8_register cX8_register 2 (some .long) :: tb0) 0 0 [.ref a0, .int x1] G cA S D ad sz (some (.long r)) True D := by
  refine Met.ofW (cc := cX8_register) (maxL := 2) (ret := (some .long)) (by decide) rfl ?_
  intro p e s m args below meth c s₁ B hml hv
  obtain ⟨rfl, hsz, hP, hK, hD0, hT, hX⟩ := hv
  subst hsz
  have hts := atoms_spec (ws := Cond.code yX8_register cX8_register 2 (some .long) :: tb0) B.pre
  have hC : Cx RX8 cX8_register 2 (some .long) p s m _ meth c := ⟨B.exec, B.bytes, hml, findClass_of_methodNamed B.named, fun w q => hts w (List.mem_cons_of_mem _ q), B.returns, B.notSynchronized⟩
  have hw := Wd.entry hP hK hD0 hT hX
  have hl := lv_entry ([.ref a0, .int x1]) (n := 2) (Nat.le_of_ble_eq_true rfl)
  rw [lg_entry_eq]
  exact w_X8_register_0 hC ⟨Nat.le_refl _, Nat.le_refl _⟩ o0 a0 x1 _ _ _ hi0 hw hl h
set_option maxHeartbeats 4000000 in
set_option maxRecDepth 100000 in
theorem w_X8_octet_0 {r : Int32} {D' : dt} (hC : Cx RX8 cX8_octet 3 (some .int) p s m args meth c) (hR : 3 ≤ R.frames ∧ 75 ≤ R.locals) : ∀ (o0 a0 : Nat) (x1 : Int64) (D : dt) (H : Heap) (locs : List Loc) (ls : Array Slot), Is S ad o0 a0 7 → Wd G cA S D ad A s H locs → lv_has ls 3 [(0, .ref a0), (1, .long x1)] → f_X8_octet S o0 x1 D = some (r, D') → W p l e R s m args below meth c H locs 0 0 (MQ below (Qn (some (.int r)) True (wpost G cA S D' ad A) A) args s 0 0 A) (F0 m 0 ls []) := by
  obtain ⟨hx, hb, -⟩ := id hC
  intro o0 a0 x1 D H locs ls hi0 hw hl h
  unfold f_X8_octet at h
  refine lv_aload_n hx hb dX8_octet_0 rfl (lv_at hl 0 rfl) ?_
  obtain ⟨o15, ho18, h⟩ := rq_i h
  refine r_getR hC hw kc_7 hi0 1 rfl lk_356 dX8_octet_1 rfl ho18 (fun a16 hi17 => ?_)
  refine lv_lload_n hx hb dX8_octet_4 rfl (lv_at hl 1 rfl) ?_
  refine lv_iconst (v := 1) hx hb dX8_octet_5 (by decide) ?_
  refine lv_iconst (v := 0) hx hb dX8_octet_6 (by decide) ?_
  obtain ⟨r20, D21, hq19, h⟩ := cq_i h
  refine r_cV (st' := [.int r20]) [.long x1, .int (1 : Int32), .int (0 : Int32)] [] hC hw kc_2 hi17 (k_X2_find _ hi17 hq19) mk_X2_find lk_1043 ⟨Nat.le_trans (by decide) hR.1, Nat.le_trans (by decide) hR.2⟩ ⟨Nat.zero_le _, Nat.zero_le _⟩ rfl hl.1 rfl rfl (Nat.le_of_ble_eq_true rfl) dX8_octet_7 (fun hP H locs hw => ?_)
  refine lv_if_eq (tgt := 25) hx hb dX8_octet_10 (by decide) (fun c22 => ?_) (fun c22 => ?_)
  · have h := i_yes c22 h
    refine lv_iconst (v := (-1)) hx hb dX8_octet_25 (by decide) ?_
    cases h
    exact r_iret hC hw dX8_octet_26
  · have h := i_no c22 h
    refine lv_aload_n hx hb dX8_octet_13 rfl (lv_at hl 0 rfl) ?_
    obtain ⟨o23, ho26, h⟩ := rq_i h
    refine r_getR hC hw kc_7 hi0 1 rfl lk_356 dX8_octet_14 rfl ho26 (fun a24 hi25 => ?_)
    refine lv_iconst (v := 1) hx hb dX8_octet_17 (by decide) ?_
    obtain ⟨r28, hq27, h⟩ := pq_i h
    refine r_cV (st' := [.long r28]) [.int (1 : Int32)] [] hC hw kc_2 hi25 (k_X2_foundNumber _ hi25 hq27) mk_X2_foundNumber lk_1044 ⟨Nat.le_trans (by decide) hR.1, Nat.le_trans (by decide) hR.2⟩ ⟨Nat.zero_le _, Nat.zero_le _⟩ rfl hl.1 rfl rfl (Nat.le_of_ble_eq_true rfl) dX8_octet_18 (fun hP H locs hw => ?_)
    refine lv_l2i (v := r28.toInt32) hx hb dX8_octet_21 rfl ?_
    refine lv_goto (tgt := 26) hx hb dX8_octet_22 (by decide) ?_
    cases h
    exact r_iret hC hw dX8_octet_26
set_option maxHeartbeats 4000000 in
set_option maxRecDepth 100000 in
theorem k_X8_octet {l : Launch} {G : va_G} {cA : Nat → ClassId} {S : sh} {D D' : dt} {ad : Nat → Nat} (sz : Nat) {o0 a0 : Nat} {x1 : Int64} {r : Int32} (hi0 : Is S ad o0 a0 7) (h : f_X8_octet S o0 x1 D = some (r, D')) : Co l yX8_octet (Cond.code yX8_octet cX8_octet 3 (some .int) :: tb0) 3 75 [.ref a0, .long x1] G cA S D ad sz (some (.int r)) True D' := by
  refine Met.ofW (cc := cX8_octet) (maxL := 3) (ret := (some .int)) (by decide) rfl ?_
  intro p e s m args below meth c s₁ B hml hv
  obtain ⟨rfl, hsz, hP, hK, hD0, hT, hX⟩ := hv
  subst hsz
  have hts := atoms_spec (ws := Cond.code yX8_octet cX8_octet 3 (some .int) :: tb0) B.pre
  have hC : Cx RX8 cX8_octet 3 (some .int) p s m _ meth c := ⟨B.exec, B.bytes, hml, findClass_of_methodNamed B.named, fun w q => hts w (List.mem_cons_of_mem _ q), B.returns, B.notSynchronized⟩
  have hw := Wd.entry hP hK hD0 hT hX
  have hl := lv_entry ([.ref a0, .long x1]) (n := 3) (Nat.le_of_ble_eq_true rfl)
  rw [lg_entry_eq]
  exact w_X8_octet_0 hC ⟨Nat.le_refl _, Nat.le_refl _⟩ o0 a0 x1 D _ _ _ hi0 hw hl h
set_option maxHeartbeats 4000000 in
set_option maxRecDepth 100000 in
theorem w_X8_putAt_0 {r : Int64} (hC : Cx RX8 cX8_putAt 2 (some .long) p s m args meth c) (hR : 2 ≤ R.frames ∧ 52 ≤ R.locals) : ∀ (o0 a0 : Nat) (x1 : Int32) (H : Heap) (locs : List Loc) (ls : Array Slot), Is S ad o0 a0 7 → Wd G cA S D ad A s H locs → lv_has ls 2 [(0, .ref a0), (1, .int x1)] → f_X8_putAt S D o0 x1 = some r → W p l e R s m args below meth c H locs 0 0 (MQ below (Qn (some (.long r)) True (wpost G cA S D ad A) A) args s 0 0 A) (F0 m 0 ls []) := by
  obtain ⟨hx, hb, -⟩ := id hC
  intro o0 a0 x1 H locs ls hi0 hw hl h
  unfold f_X8_putAt at h
  refine lv_aload_n hx hb dX8_putAt_0 rfl (lv_at hl 0 rfl) ?_
  obtain ⟨o7, ho10, h⟩ := rq_i h
  refine r_getR hC hw kc_7 hi0 2 rfl lk_357 dX8_putAt_1 rfl ho10 (fun a8 hi9 => ?_)
  refine lv_iload_n hx hb dX8_putAt_4 rfl (lv_at hl 1 rfl) ?_
  obtain ⟨r12, hq11, h⟩ := pq_i h
  refine r_cV (st' := [.long r12]) [.int x1] [] hC hw kc_1 hi9 (k_X1_keptPut _ hi9 hq11) mk_X1_keptPut lk_1049 ⟨Nat.le_trans (by decide) hR.1, Nat.le_trans (by decide) hR.2⟩ ⟨Nat.zero_le _, Nat.zero_le _⟩ rfl hl.1 rfl rfl (Nat.le_of_ble_eq_true rfl) dX8_putAt_5 (fun hP H locs hw => ?_)
  cases h
  exact r_lret hC hw dX8_putAt_8
set_option maxHeartbeats 4000000 in
set_option maxRecDepth 100000 in
theorem k_X8_putAt {l : Launch} {G : va_G} {cA : Nat → ClassId} {S : sh} {D : dt} {ad : Nat → Nat} (sz : Nat) {o0 a0 : Nat} {x1 : Int32} {r : Int64} (hi0 : Is S ad o0 a0 7) (h : f_X8_putAt S D o0 x1 = some r) : Co l yX8_putAt (Cond.code yX8_putAt cX8_putAt 2 (some .long) :: tb0) 2 52 [.ref a0, .int x1] G cA S D ad sz (some (.long r)) True D := by
  refine Met.ofW (cc := cX8_putAt) (maxL := 2) (ret := (some .long)) (by decide) rfl ?_
  intro p e s m args below meth c s₁ B hml hv
  obtain ⟨rfl, hsz, hP, hK, hD0, hT, hX⟩ := hv
  subst hsz
  have hts := atoms_spec (ws := Cond.code yX8_putAt cX8_putAt 2 (some .long) :: tb0) B.pre
  have hC : Cx RX8 cX8_putAt 2 (some .long) p s m _ meth c := ⟨B.exec, B.bytes, hml, findClass_of_methodNamed B.named, fun w q => hts w (List.mem_cons_of_mem _ q), B.returns, B.notSynchronized⟩
  have hw := Wd.entry hP hK hD0 hT hX
  have hl := lv_entry ([.ref a0, .int x1]) (n := 2) (Nat.le_of_ble_eq_true rfl)
  rw [lg_entry_eq]
  exact w_X8_putAt_0 hC ⟨Nat.le_refl _, Nat.le_refl _⟩ o0 a0 x1 _ _ _ hi0 hw hl h
set_option maxHeartbeats 4000000 in
set_option maxRecDepth 100000 in
theorem w_X8_keys_0 {r : Int32} (hC : Cx RX8 cX8_keys 3 (some .int) p s m args meth c) (hR : 1 ≤ R.frames ∧ 22 ≤ R.locals) : ∀ (o0 a0 : Nat) (x1 : Int32) (H : Heap) (locs : List Loc) (ls : Array Slot), Is S ad o0 a0 7 → Wd G cA S D ad A s H locs → lv_has ls 3 [(0, .ref a0), (1, .int x1)] → f_X8_keys S D o0 x1 = some r → W p l e R s m args below meth c H locs 0 0 (MQ below (Qn (some (.int r)) True (wpost G cA S D ad A) A) args s 0 0 A) (F0 m 0 ls []) := by
  obtain ⟨hx, hb, -⟩ := id hC
  intro o0 a0 x1 H locs ls hi0 hw hl h
  unfold f_X8_keys at h
  refine lv_aload_n hx hb dX8_keys_0 rfl (lv_at hl 0 rfl) ?_
  obtain ⟨o11, ho14, h⟩ := rq_i h
  refine r_getR hC hw kc_7 hi0 1 rfl lk_356 dX8_keys_1 rfl ho14 (fun a12 hi13 => ?_)
  refine lv_iload_n hx hb dX8_keys_4 rfl (lv_at hl 1 rfl) ?_
  obtain ⟨r16, hq15, h⟩ := pq_i h
  refine r_cV (st' := [va_rf (r16.map ad)]) [.int x1] [] hC hw kc_2 hi13 (k_X2_tableNumbered _ hi13 hq15) mk_X2_tableNumbered lk_1060 ⟨Nat.le_trans (by decide) hR.1, Nat.le_trans (by decide) hR.2⟩ ⟨Nat.zero_le _, Nat.zero_le _⟩ rfl hl.1 rfl rfl (Nat.le_of_ble_eq_true rfl) dX8_keys_5 (fun hP H locs hw => ?_)
  cases r16 with
  | none =>
    have h := oqN h
    refine W.eq (g2 := F0 m 8 ls [.null]) rfl ?_
    refine lv_astore_nN (lv' := [(2, .null), (0, .ref a0), (1, .int x1)]) hx hb dX8_keys_8 rfl hl (by decide) rfl (fun ls hl => ?_)
    refine lv_aload_nN hx hb dX8_keys_9 rfl (lv_at hl 0 rfl) ?_
    refine lv_ifnonnullN hx hb dX8_keys_10 ?_
    refine lv_iconst (v := (-1)) hx hb dX8_keys_13 (by decide) ?_
    refine lv_goto (tgt := 21) hx hb dX8_keys_14 (by decide) ?_
    cases h
    exact r_iret hC hw dX8_keys_21
  | some o17 =>
    have h := oqS h
    have hi18 : Is S ad o17 (ad o17) 6 := ⟨(hP o17 rfl).1, (hP o17 rfl).2, rfl⟩
    refine W.eq (g2 := F0 m 8 ls [.ref (ad o17)]) rfl ?_
    refine lv_astore_n (lv' := [(2, .ref (ad o17)), (0, .ref a0), (1, .int x1)]) hx hb dX8_keys_8 rfl hl (by decide) rfl (fun ls hl => ?_)
    refine lv_aload_n hx hb dX8_keys_9 rfl (lv_at hl 0 rfl) ?_
    refine lv_ifnonnull (tgt := 17) hx hb dX8_keys_10 (by decide) ?_
    refine lv_aload_n hx hb dX8_keys_17 rfl (lv_at hl 0 rfl) ?_
    obtain ⟨r20, hq19, h⟩ := pq_i h
    refine r_cV (st' := [.int r20]) [] [] hC hw kc_6 hi18 (k_X7_keyCount _ hi18 hq19) mk_X7_keyCount lk_1061 ⟨Nat.le_trans (by decide) hR.1, Nat.le_trans (by decide) hR.2⟩ ⟨Nat.zero_le _, Nat.zero_le _⟩ rfl hl.1 rfl rfl (Nat.le_of_ble_eq_true rfl) dX8_keys_18 (fun hP H locs hw => ?_)
    cases h
    exact r_iret hC hw dX8_keys_21
set_option maxHeartbeats 4000000 in
set_option maxRecDepth 100000 in
theorem k_X8_keys {l : Launch} {G : va_G} {cA : Nat → ClassId} {S : sh} {D : dt} {ad : Nat → Nat} (sz : Nat) {o0 a0 : Nat} {x1 : Int32} {r : Int32} (hi0 : Is S ad o0 a0 7) (h : f_X8_keys S D o0 x1 = some r) : Co l yX8_keys (Cond.code yX8_keys cX8_keys 3 (some .int) :: tb0) 1 22 [.ref a0, .int x1] G cA S D ad sz (some (.int r)) True D := by
  refine Met.ofW (cc := cX8_keys) (maxL := 3) (ret := (some .int)) (by decide) rfl ?_
  intro p e s m args below meth c s₁ B hml hv
  obtain ⟨rfl, hsz, hP, hK, hD0, hT, hX⟩ := hv
  subst hsz
  have hts := atoms_spec (ws := Cond.code yX8_keys cX8_keys 3 (some .int) :: tb0) B.pre
  have hC : Cx RX8 cX8_keys 3 (some .int) p s m _ meth c := ⟨B.exec, B.bytes, hml, findClass_of_methodNamed B.named, fun w q => hts w (List.mem_cons_of_mem _ q), B.returns, B.notSynchronized⟩
  have hw := Wd.entry hP hK hD0 hT hX
  have hl := lv_entry ([.ref a0, .int x1]) (n := 3) (Nat.le_of_ble_eq_true rfl)
  rw [lg_entry_eq]
  exact w_X8_keys_0 hC ⟨Nat.le_refl _, Nat.le_refl _⟩ o0 a0 x1 _ _ _ hi0 hw hl h
end
