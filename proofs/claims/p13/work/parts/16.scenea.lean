theorem dX5_init_0 : decode cX5_init 0 = .ok (.aload_n 0, 1) := by decide +kernel
theorem dX5_init_1 : decode cX5_init 1 = .ok (.invokespecial 3, 3) := by decide +kernel
theorem dX5_init_4 : decode cX5_init 4 = .ok (.aload_n 0, 1) := by decide +kernel
theorem dX5_init_5 : decode cX5_init 5 = .ok (.bipush 75, 2) := by decide +kernel
theorem dX5_init_7 : decode cX5_init 7 = .ok (.newarray .int, 2) := by decide +kernel
theorem dX5_init_9 : decode cX5_init 9 = .ok (.putfield 11, 3) := by decide +kernel
theorem dX5_init_12 : decode cX5_init 12 = .ok (.aload_n 0, 1) := by decide +kernel
theorem dX5_init_13 : decode cX5_init 13 = .ok (.bipush 75, 2) := by decide +kernel
theorem dX5_init_15 : decode cX5_init 15 = .ok (.newarray .long, 2) := by decide +kernel
theorem dX5_init_17 : decode cX5_init 17 = .ok (.putfield 15, 3) := by decide +kernel
theorem dX5_init_20 : decode cX5_init 20 = .ok (.aload_n 0, 1) := by decide +kernel
theorem dX5_init_21 : decode cX5_init 21 = .ok (.bipush 75, 2) := by decide +kernel
theorem dX5_init_23 : decode cX5_init 23 = .ok (.newarray .long, 2) := by decide +kernel
theorem dX5_init_25 : decode cX5_init 25 = .ok (.putfield 19, 3) := by decide +kernel
theorem dX5_init_28 : decode cX5_init 28 = .ok (.aload_n 0, 1) := by decide +kernel
theorem dX5_init_29 : decode cX5_init 29 = .ok (.bipush 8, 2) := by decide +kernel
theorem dX5_init_31 : decode cX5_init 31 = .ok (.newarray .long, 2) := by decide +kernel
theorem dX5_init_33 : decode cX5_init 33 = .ok (.putfield 22, 3) := by decide +kernel
theorem dX5_init_36 : decode cX5_init 36 = .ok (.return_, 1) := by decide +kernel
theorem dX5_write_0 : decode cX5_write 0 = .ok (.aload_n 0, 1) := by decide +kernel
theorem dX5_write_1 : decode cX5_write 1 = .ok (.getfield 11, 3) := by decide +kernel
theorem dX5_write_4 : decode cX5_write 4 = .ok (.iload_n 1, 1) := by decide +kernel
theorem dX5_write_5 : decode cX5_write 5 = .ok (.iload_n 2, 1) := by decide +kernel
theorem dX5_write_6 : decode cX5_write 6 = .ok (.iastore, 1) := by decide +kernel
theorem dX5_write_7 : decode cX5_write 7 = .ok (.aload_n 0, 1) := by decide +kernel
theorem dX5_write_8 : decode cX5_write 8 = .ok (.getfield 15, 3) := by decide +kernel
theorem dX5_write_11 : decode cX5_write 11 = .ok (.iload_n 1, 1) := by decide +kernel
theorem dX5_write_12 : decode cX5_write 12 = .ok (.lload_n 3, 1) := by decide +kernel
theorem dX5_write_13 : decode cX5_write 13 = .ok (.lastore, 1) := by decide +kernel
theorem dX5_write_14 : decode cX5_write 14 = .ok (.aload_n 0, 1) := by decide +kernel
theorem dX5_write_15 : decode cX5_write 15 = .ok (.getfield 19, 3) := by decide +kernel
theorem dX5_write_18 : decode cX5_write 18 = .ok (.iload_n 1, 1) := by decide +kernel
theorem dX5_write_19 : decode cX5_write 19 = .ok (.lload 5, 2) := by decide +kernel
theorem dX5_write_21 : decode cX5_write 21 = .ok (.lastore, 1) := by decide +kernel
theorem dX5_write_22 : decode cX5_write 22 = .ok (.return_, 1) := by decide +kernel
theorem dX5_begin_0 : decode cX5_begin 0 = .ok (.aload_n 0, 1) := by decide +kernel
theorem dX5_begin_1 : decode cX5_begin 1 = .ok (.getfield 11, 3) := by decide +kernel
theorem dX5_begin_4 : decode cX5_begin 4 = .ok (.iconst 0, 1) := by decide +kernel
theorem dX5_begin_5 : decode cX5_begin 5 = .ok (.invokestatic 25, 3) := by decide +kernel
theorem dX5_begin_8 : decode cX5_begin 8 = .ok (.aload_n 0, 1) := by decide +kernel
theorem dX5_begin_9 : decode cX5_begin 9 = .ok (.getfield 15, 3) := by decide +kernel
theorem dX5_begin_12 : decode cX5_begin 12 = .ok (.lconst 0, 1) := by decide +kernel
theorem dX5_begin_13 : decode cX5_begin 13 = .ok (.invokestatic 31, 3) := by decide +kernel
theorem dX5_begin_16 : decode cX5_begin 16 = .ok (.aload_n 0, 1) := by decide +kernel
theorem dX5_begin_17 : decode cX5_begin 17 = .ok (.getfield 19, 3) := by decide +kernel
theorem dX5_begin_20 : decode cX5_begin 20 = .ok (.lconst 0, 1) := by decide +kernel
theorem dX5_begin_21 : decode cX5_begin 21 = .ok (.invokestatic 31, 3) := by decide +kernel
theorem dX5_begin_24 : decode cX5_begin 24 = .ok (.aload_n 0, 1) := by decide +kernel
theorem dX5_begin_25 : decode cX5_begin 25 = .ok (.getfield 22, 3) := by decide +kernel
theorem dX5_begin_28 : decode cX5_begin 28 = .ok (.lconst 0, 1) := by decide +kernel
theorem dX5_begin_29 : decode cX5_begin 29 = .ok (.invokestatic 31, 3) := by decide +kernel
theorem dX5_begin_32 : decode cX5_begin 32 = .ok (.aload_n 0, 1) := by decide +kernel
theorem dX5_begin_33 : decode cX5_begin 33 = .ok (.lconst 0, 1) := by decide +kernel
theorem dX5_begin_34 : decode cX5_begin 34 = .ok (.putfield 34, 3) := by decide +kernel
theorem dX5_begin_37 : decode cX5_begin 37 = .ok (.aload_n 0, 1) := by decide +kernel
theorem dX5_begin_38 : decode cX5_begin 38 = .ok (.iconst 1, 1) := by decide +kernel
theorem dX5_begin_39 : decode cX5_begin 39 = .ok (.iconst 2, 1) := by decide +kernel
theorem dX5_begin_40 : decode cX5_begin 40 = .ok (.lconst 0, 1) := by decide +kernel
theorem dX5_begin_41 : decode cX5_begin 41 = .ok (.lconst 0, 1) := by decide +kernel
theorem dX5_begin_42 : decode cX5_begin 42 = .ok (.invokevirtual 38, 3) := by decide +kernel
theorem dX5_begin_45 : decode cX5_begin 45 = .ok (.aload_n 0, 1) := by decide +kernel
theorem dX5_begin_46 : decode cX5_begin 46 = .ok (.bipush 10, 2) := by decide +kernel
theorem dX5_begin_48 : decode cX5_begin 48 = .ok (.iconst 3, 1) := by decide +kernel
theorem dX5_begin_49 : decode cX5_begin 49 = .ok (.lconst 0, 1) := by decide +kernel
theorem dX5_begin_50 : decode cX5_begin 50 = .ok (.lconst 0, 1) := by decide +kernel
theorem dX5_begin_51 : decode cX5_begin 51 = .ok (.invokevirtual 38, 3) := by decide +kernel
theorem dX5_begin_54 : decode cX5_begin 54 = .ok (.aload_n 0, 1) := by decide +kernel
theorem dX5_begin_55 : decode cX5_begin 55 = .ok (.iconst 1, 1) := by decide +kernel
theorem dX5_begin_56 : decode cX5_begin 56 = .ok (.putfield 42, 3) := by decide +kernel
theorem dX5_begin_59 : decode cX5_begin 59 = .ok (.return_, 1) := by decide +kernel
theorem dX5_copyFrom_0 : decode cX5_copyFrom 0 = .ok (.aload_n 1, 1) := by decide +kernel
theorem dX5_copyFrom_1 : decode cX5_copyFrom 1 = .ok (.getfield 34, 3) := by decide +kernel
theorem dX5_copyFrom_4 : decode cX5_copyFrom 4 = .ok (.lconst 0, 1) := by decide +kernel
theorem dX5_copyFrom_5 : decode cX5_copyFrom 5 = .ok (.lcmp, 1) := by decide +kernel
theorem dX5_copyFrom_6 : decode cX5_copyFrom 6 = .ok (.ifCond .ne 8, 3) := by decide +kernel
theorem dX5_copyFrom_9 : decode cX5_copyFrom 9 = .ok (.bipush 11, 2) := by decide +kernel
theorem dX5_copyFrom_11 : decode cX5_copyFrom 11 = .ok (.goto 5, 3) := by decide +kernel
theorem dX5_copyFrom_14 : decode cX5_copyFrom 14 = .ok (.bipush 75, 2) := by decide +kernel
theorem dX5_copyFrom_16 : decode cX5_copyFrom 16 = .ok (.istore_n 2, 1) := by decide +kernel
theorem dX5_copyFrom_17 : decode cX5_copyFrom 17 = .ok (.aload_n 1, 1) := by decide +kernel
theorem dX5_copyFrom_18 : decode cX5_copyFrom 18 = .ok (.getfield 11, 3) := by decide +kernel
theorem dX5_copyFrom_21 : decode cX5_copyFrom 21 = .ok (.iconst 0, 1) := by decide +kernel
theorem dX5_copyFrom_22 : decode cX5_copyFrom 22 = .ok (.aload_n 0, 1) := by decide +kernel
theorem dX5_copyFrom_23 : decode cX5_copyFrom 23 = .ok (.getfield 11, 3) := by decide +kernel
theorem dX5_copyFrom_26 : decode cX5_copyFrom 26 = .ok (.iconst 0, 1) := by decide +kernel
theorem dX5_copyFrom_27 : decode cX5_copyFrom 27 = .ok (.iload_n 2, 1) := by decide +kernel
theorem dX5_copyFrom_28 : decode cX5_copyFrom 28 = .ok (.invokestatic 48, 3) := by decide +kernel
theorem dX5_copyFrom_31 : decode cX5_copyFrom 31 = .ok (.aload_n 1, 1) := by decide +kernel
theorem dX5_copyFrom_32 : decode cX5_copyFrom 32 = .ok (.getfield 15, 3) := by decide +kernel
theorem dX5_copyFrom_35 : decode cX5_copyFrom 35 = .ok (.iconst 0, 1) := by decide +kernel
theorem dX5_copyFrom_36 : decode cX5_copyFrom 36 = .ok (.aload_n 0, 1) := by decide +kernel
theorem dX5_copyFrom_37 : decode cX5_copyFrom 37 = .ok (.getfield 15, 3) := by decide +kernel
theorem dX5_copyFrom_40 : decode cX5_copyFrom 40 = .ok (.iconst 0, 1) := by decide +kernel
theorem dX5_copyFrom_41 : decode cX5_copyFrom 41 = .ok (.iload_n 2, 1) := by decide +kernel
theorem dX5_copyFrom_42 : decode cX5_copyFrom 42 = .ok (.invokestatic 48, 3) := by decide +kernel
theorem dX5_copyFrom_45 : decode cX5_copyFrom 45 = .ok (.aload_n 1, 1) := by decide +kernel
theorem dX5_copyFrom_46 : decode cX5_copyFrom 46 = .ok (.getfield 19, 3) := by decide +kernel
theorem dX5_copyFrom_49 : decode cX5_copyFrom 49 = .ok (.iconst 0, 1) := by decide +kernel
theorem dX5_copyFrom_50 : decode cX5_copyFrom 50 = .ok (.aload_n 0, 1) := by decide +kernel
theorem dX5_copyFrom_51 : decode cX5_copyFrom 51 = .ok (.getfield 19, 3) := by decide +kernel
theorem dX5_copyFrom_54 : decode cX5_copyFrom 54 = .ok (.iconst 0, 1) := by decide +kernel
theorem dX5_copyFrom_55 : decode cX5_copyFrom 55 = .ok (.iload_n 2, 1) := by decide +kernel
theorem dX5_copyFrom_56 : decode cX5_copyFrom 56 = .ok (.invokestatic 48, 3) := by decide +kernel
theorem dX5_copyFrom_59 : decode cX5_copyFrom 59 = .ok (.aload_n 1, 1) := by decide +kernel
theorem dX5_copyFrom_60 : decode cX5_copyFrom 60 = .ok (.getfield 22, 3) := by decide +kernel
theorem dX5_copyFrom_63 : decode cX5_copyFrom 63 = .ok (.iconst 0, 1) := by decide +kernel
theorem dX5_copyFrom_64 : decode cX5_copyFrom 64 = .ok (.aload_n 0, 1) := by decide +kernel
theorem dX5_copyFrom_65 : decode cX5_copyFrom 65 = .ok (.getfield 22, 3) := by decide +kernel
theorem dX5_copyFrom_68 : decode cX5_copyFrom 68 = .ok (.iconst 0, 1) := by decide +kernel
theorem dX5_copyFrom_69 : decode cX5_copyFrom 69 = .ok (.bipush 8, 2) := by decide +kernel
theorem dX5_copyFrom_71 : decode cX5_copyFrom 71 = .ok (.invokestatic 48, 3) := by decide +kernel
theorem dX5_copyFrom_74 : decode cX5_copyFrom 74 = .ok (.aload_n 0, 1) := by decide +kernel
theorem dX5_copyFrom_75 : decode cX5_copyFrom 75 = .ok (.aload_n 1, 1) := by decide +kernel
theorem dX5_copyFrom_76 : decode cX5_copyFrom 76 = .ok (.getfield 34, 3) := by decide +kernel
theorem dX5_copyFrom_79 : decode cX5_copyFrom 79 = .ok (.putfield 34, 3) := by decide +kernel
theorem dX5_copyFrom_82 : decode cX5_copyFrom 82 = .ok (.aload_n 0, 1) := by decide +kernel
theorem dX5_copyFrom_83 : decode cX5_copyFrom 83 = .ok (.iconst 1, 1) := by decide +kernel
theorem dX5_copyFrom_84 : decode cX5_copyFrom 84 = .ok (.putfield 42, 3) := by decide +kernel
theorem dX5_copyFrom_87 : decode cX5_copyFrom 87 = .ok (.return_, 1) := by decide +kernel
theorem dX5_tagOf_0 : decode cX5_tagOf 0 = .ok (.iload_n 0, 1) := by decide +kernel
theorem dX5_tagOf_1 : decode cX5_tagOf 1 = .ok (.iload_n 1, 1) := by decide +kernel
theorem dX5_tagOf_2 : decode cX5_tagOf 2 = .ok (.iconst 4, 1) := by decide +kernel
theorem dX5_tagOf_3 : decode cX5_tagOf 3 = .ok (.ishl, 1) := by decide +kernel
theorem dX5_tagOf_4 : decode cX5_tagOf 4 = .ok (.ior, 1) := by decide +kernel
theorem dX5_tagOf_5 : decode cX5_tagOf 5 = .ok (.iload_n 2, 1) := by decide +kernel
theorem dX5_tagOf_6 : decode cX5_tagOf 6 = .ok (.bipush 8, 2) := by decide +kernel
theorem dX5_tagOf_8 : decode cX5_tagOf 8 = .ok (.ishl, 1) := by decide +kernel
theorem dX5_tagOf_9 : decode cX5_tagOf 9 = .ok (.ior, 1) := by decide +kernel
theorem dX5_tagOf_10 : decode cX5_tagOf 10 = .ok (.ireturn, 1) := by decide +kernel
theorem dX5_isNone_0 : decode cX5_isNone 0 = .ok (.aload_n 0, 1) := by decide +kernel
theorem dX5_isNone_1 : decode cX5_isNone 1 = .ok (.getfield 11, 3) := by decide +kernel
theorem dX5_isNone_4 : decode cX5_isNone 4 = .ok (.iload_n 1, 1) := by decide +kernel
theorem dX5_isNone_5 : decode cX5_isNone 5 = .ok (.iaload, 1) := by decide +kernel
theorem dX5_isNone_6 : decode cX5_isNone 6 = .ok (.ifCond .ne 7, 3) := by decide +kernel
theorem dX5_isNone_9 : decode cX5_isNone 9 = .ok (.iconst 1, 1) := by decide +kernel
theorem dX5_isNone_10 : decode cX5_isNone 10 = .ok (.goto 4, 3) := by decide +kernel
theorem dX5_isNone_13 : decode cX5_isNone 13 = .ok (.iconst 0, 1) := by decide +kernel
theorem dX5_isNone_14 : decode cX5_isNone 14 = .ok (.ireturn, 1) := by decide +kernel
theorem dX5_kind_0 : decode cX5_kind 0 = .ok (.aload_n 0, 1) := by decide +kernel
theorem dX5_kind_1 : decode cX5_kind 1 = .ok (.getfield 11, 3) := by decide +kernel
theorem dX5_kind_4 : decode cX5_kind 4 = .ok (.iload_n 1, 1) := by decide +kernel
theorem dX5_kind_5 : decode cX5_kind 5 = .ok (.iaload, 1) := by decide +kernel
theorem dX5_kind_6 : decode cX5_kind 6 = .ok (.bipush 15, 2) := by decide +kernel
theorem dX5_kind_8 : decode cX5_kind 8 = .ok (.iand, 1) := by decide +kernel
theorem dX5_kind_9 : decode cX5_kind 9 = .ok (.ireturn, 1) := by decide +kernel
theorem dX5_tableOf_0 : decode cX5_tableOf 0 = .ok (.aload_n 0, 1) := by decide +kernel
theorem dX5_tableOf_1 : decode cX5_tableOf 1 = .ok (.getfield 11, 3) := by decide +kernel
theorem dX5_tableOf_4 : decode cX5_tableOf 4 = .ok (.iload_n 1, 1) := by decide +kernel
theorem dX5_tableOf_5 : decode cX5_tableOf 5 = .ok (.iaload, 1) := by decide +kernel
theorem dX5_tableOf_6 : decode cX5_tableOf 6 = .ok (.iconst 4, 1) := by decide +kernel
theorem dX5_tableOf_7 : decode cX5_tableOf 7 = .ok (.ishr, 1) := by decide +kernel
theorem dX5_tableOf_8 : decode cX5_tableOf 8 = .ok (.bipush 15, 2) := by decide +kernel
theorem dX5_tableOf_10 : decode cX5_tableOf 10 = .ok (.iand, 1) := by decide +kernel
theorem dX5_tableOf_11 : decode cX5_tableOf 11 = .ok (.ireturn, 1) := by decide +kernel
theorem dX5_holds_0 : decode cX5_holds 0 = .ok (.aload_n 0, 1) := by decide +kernel
theorem dX5_holds_1 : decode cX5_holds 1 = .ok (.getfield 34, 3) := by decide +kernel
theorem dX5_holds_4 : decode cX5_holds 4 = .ok (.iload_n 1, 1) := by decide +kernel
theorem dX5_holds_5 : decode cX5_holds 5 = .ok (.lushr, 1) := by decide +kernel
theorem dX5_holds_6 : decode cX5_holds 6 = .ok (.lconst 1, 1) := by decide +kernel
theorem dX5_holds_7 : decode cX5_holds 7 = .ok (.land, 1) := by decide +kernel
theorem dX5_holds_8 : decode cX5_holds 8 = .ok (.lconst 0, 1) := by decide +kernel
theorem dX5_holds_9 : decode cX5_holds 9 = .ok (.lcmp, 1) := by decide +kernel
theorem dX5_holds_10 : decode cX5_holds 10 = .ok (.ifCond .eq 7, 3) := by decide +kernel
theorem dX5_holds_13 : decode cX5_holds 13 = .ok (.iconst 1, 1) := by decide +kernel
theorem dX5_holds_14 : decode cX5_holds 14 = .ok (.goto 4, 3) := by decide +kernel
theorem dX5_holds_17 : decode cX5_holds 17 = .ok (.iconst 0, 1) := by decide +kernel
theorem dX5_holds_18 : decode cX5_holds 18 = .ok (.ireturn, 1) := by decide +kernel
theorem dX5_isKnown_0 : decode cX5_isKnown 0 = .ok (.aload_n 0, 1) := by decide +kernel
theorem dX5_isKnown_1 : decode cX5_isKnown 1 = .ok (.getfield 22, 3) := by decide +kernel
theorem dX5_isKnown_4 : decode cX5_isKnown 4 = .ok (.iload_n 1, 1) := by decide +kernel
theorem dX5_isKnown_5 : decode cX5_isKnown 5 = .ok (.bipush 6, 2) := by decide +kernel
theorem dX5_isKnown_7 : decode cX5_isKnown 7 = .ok (.ishr, 1) := by decide +kernel
theorem dX5_isKnown_8 : decode cX5_isKnown 8 = .ok (.laload, 1) := by decide +kernel
theorem dX5_isKnown_9 : decode cX5_isKnown 9 = .ok (.iload_n 1, 1) := by decide +kernel
theorem dX5_isKnown_10 : decode cX5_isKnown 10 = .ok (.bipush 63, 2) := by decide +kernel
theorem dX5_isKnown_12 : decode cX5_isKnown 12 = .ok (.iand, 1) := by decide +kernel
theorem dX5_isKnown_13 : decode cX5_isKnown 13 = .ok (.lushr, 1) := by decide +kernel
theorem dX5_isKnown_14 : decode cX5_isKnown 14 = .ok (.lconst 1, 1) := by decide +kernel
theorem dX5_isKnown_15 : decode cX5_isKnown 15 = .ok (.land, 1) := by decide +kernel
theorem dX5_isKnown_16 : decode cX5_isKnown 16 = .ok (.lconst 0, 1) := by decide +kernel
theorem dX5_isKnown_17 : decode cX5_isKnown 17 = .ok (.lcmp, 1) := by decide +kernel
theorem dX5_isKnown_18 : decode cX5_isKnown 18 = .ok (.ifCond .eq 7, 3) := by decide +kernel
theorem dX5_isKnown_21 : decode cX5_isKnown 21 = .ok (.iconst 1, 1) := by decide +kernel
theorem dX5_isKnown_22 : decode cX5_isKnown 22 = .ok (.goto 4, 3) := by decide +kernel
theorem dX5_isKnown_25 : decode cX5_isKnown 25 = .ok (.iconst 0, 1) := by decide +kernel
theorem dX5_isKnown_26 : decode cX5_isKnown 26 = .ok (.ireturn, 1) := by decide +kernel
theorem dX5_areKnown_0 : decode cX5_areKnown 0 = .ok (.iload_n 1, 1) := by decide +kernel
theorem dX5_areKnown_1 : decode cX5_areKnown 1 = .ok (.istore_n 3, 1) := by decide +kernel
theorem dX5_areKnown_2 : decode cX5_areKnown 2 = .ok (.iload_n 3, 1) := by decide +kernel
theorem dX5_areKnown_3 : decode cX5_areKnown 3 = .ok (.iload_n 1, 1) := by decide +kernel
theorem dX5_areKnown_4 : decode cX5_areKnown 4 = .ok (.iload_n 2, 1) := by decide +kernel
theorem dX5_areKnown_5 : decode cX5_areKnown 5 = .ok (.iadd, 1) := by decide +kernel
theorem dX5_areKnown_6 : decode cX5_areKnown 6 = .ok (.if_icmp .ge 19, 3) := by decide +kernel
theorem dX5_areKnown_9 : decode cX5_areKnown 9 = .ok (.aload_n 0, 1) := by decide +kernel
theorem dX5_areKnown_10 : decode cX5_areKnown 10 = .ok (.iload_n 3, 1) := by decide +kernel
theorem dX5_areKnown_11 : decode cX5_areKnown 11 = .ok (.invokevirtual 101, 3) := by decide +kernel
theorem dX5_areKnown_14 : decode cX5_areKnown 14 = .ok (.ifCond .ne 5, 3) := by decide +kernel
theorem dX5_areKnown_17 : decode cX5_areKnown 17 = .ok (.iconst 0, 1) := by decide +kernel
theorem dX5_areKnown_18 : decode cX5_areKnown 18 = .ok (.ireturn, 1) := by decide +kernel
theorem dX5_areKnown_19 : decode cX5_areKnown 19 = .ok (.iinc 3 1, 3) := by decide +kernel
theorem dX5_areKnown_22 : decode cX5_areKnown 22 = .ok (.goto (-20), 3) := by decide +kernel
theorem dX5_areKnown_25 : decode cX5_areKnown 25 = .ok (.iconst 1, 1) := by decide +kernel
theorem dX5_areKnown_26 : decode cX5_areKnown 26 = .ok (.ireturn, 1) := by decide +kernel
theorem dX5_move_0 : decode cX5_move 0 = .ok (.aload_n 0, 1) := by decide +kernel
theorem dX5_move_1 : decode cX5_move 1 = .ok (.iload_n 1, 1) := by decide +kernel
theorem dX5_move_2 : decode cX5_move 2 = .ok (.aload_n 0, 1) := by decide +kernel
theorem dX5_move_3 : decode cX5_move 3 = .ok (.getfield 11, 3) := by decide +kernel
theorem dX5_move_6 : decode cX5_move 6 = .ok (.iload_n 2, 1) := by decide +kernel
theorem dX5_move_7 : decode cX5_move 7 = .ok (.iaload, 1) := by decide +kernel
theorem dX5_move_8 : decode cX5_move 8 = .ok (.aload_n 0, 1) := by decide +kernel
theorem dX5_move_9 : decode cX5_move 9 = .ok (.getfield 15, 3) := by decide +kernel
theorem dX5_move_12 : decode cX5_move 12 = .ok (.iload_n 2, 1) := by decide +kernel
theorem dX5_move_13 : decode cX5_move 13 = .ok (.laload, 1) := by decide +kernel
theorem dX5_move_14 : decode cX5_move 14 = .ok (.aload_n 0, 1) := by decide +kernel
theorem dX5_move_15 : decode cX5_move 15 = .ok (.getfield 19, 3) := by decide +kernel
theorem dX5_move_18 : decode cX5_move 18 = .ok (.iload_n 2, 1) := by decide +kernel
theorem dX5_move_19 : decode cX5_move 19 = .ok (.laload, 1) := by decide +kernel
theorem dX5_move_20 : decode cX5_move 20 = .ok (.invokevirtual 38, 3) := by decide +kernel
theorem dX5_move_23 : decode cX5_move 23 = .ok (.return_, 1) := by decide +kernel
theorem dX5_writeAny_0 : decode cX5_writeAny 0 = .ok (.aload_n 0, 1) := by decide +kernel
theorem dX5_writeAny_1 : decode cX5_writeAny 1 = .ok (.iload_n 1, 1) := by decide +kernel
theorem dX5_writeAny_2 : decode cX5_writeAny 2 = .ok (.iconst 1, 1) := by decide +kernel
theorem dX5_writeAny_3 : decode cX5_writeAny 3 = .ok (.lconst 0, 1) := by decide +kernel
theorem dX5_writeAny_4 : decode cX5_writeAny 4 = .ok (.iload_n 2, 1) := by decide +kernel
theorem dX5_writeAny_5 : decode cX5_writeAny 5 = .ok (.bipush 8, 2) := by decide +kernel
theorem dX5_writeAny_7 : decode cX5_writeAny 7 = .ok (.if_icmp .ne 9, 3) := by decide +kernel
theorem dX5_writeAny_10 : decode cX5_writeAny 10 = .ok (.ldc2_w 46, 3) := by decide +kernel
theorem dX5_writeAny_13 : decode cX5_writeAny 13 = .ok (.goto 11, 3) := by decide +kernel
theorem dX5_writeAny_16 : decode cX5_writeAny 16 = .ok (.lconst 1, 1) := by decide +kernel
theorem dX5_writeAny_17 : decode cX5_writeAny 17 = .ok (.bipush 8, 2) := by decide +kernel
theorem dX5_writeAny_19 : decode cX5_writeAny 19 = .ok (.iload_n 2, 1) := by decide +kernel
theorem dX5_writeAny_20 : decode cX5_writeAny 20 = .ok (.imul, 1) := by decide +kernel
theorem dX5_writeAny_21 : decode cX5_writeAny 21 = .ok (.lshl, 1) := by decide +kernel
theorem dX5_writeAny_22 : decode cX5_writeAny 22 = .ok (.lconst 1, 1) := by decide +kernel
theorem dX5_writeAny_23 : decode cX5_writeAny 23 = .ok (.lsub, 1) := by decide +kernel
theorem dX5_writeAny_24 : decode cX5_writeAny 24 = .ok (.invokevirtual 38, 3) := by decide +kernel
theorem dX5_writeAny_27 : decode cX5_writeAny 27 = .ok (.return_, 1) := by decide +kernel
theorem dX5_isNumber_0 : decode cX5_isNumber 0 = .ok (.aload_n 0, 1) := by decide +kernel
theorem dX5_isNumber_1 : decode cX5_isNumber 1 = .ok (.getfield 11, 3) := by decide +kernel
theorem dX5_isNumber_4 : decode cX5_isNumber 4 = .ok (.iload_n 1, 1) := by decide +kernel
theorem dX5_isNumber_5 : decode cX5_isNumber 5 = .ok (.iaload, 1) := by decide +kernel
theorem dX5_isNumber_6 : decode cX5_isNumber 6 = .ok (.iconst 1, 1) := by decide +kernel
theorem dX5_isNumber_7 : decode cX5_isNumber 7 = .ok (.if_icmp .ne 7, 3) := by decide +kernel
theorem dX5_isNumber_10 : decode cX5_isNumber 10 = .ok (.iconst 1, 1) := by decide +kernel
theorem dX5_isNumber_11 : decode cX5_isNumber 11 = .ok (.goto 4, 3) := by decide +kernel
theorem dX5_isNumber_14 : decode cX5_isNumber 14 = .ok (.iconst 0, 1) := by decide +kernel
theorem dX5_isNumber_15 : decode cX5_isNumber 15 = .ok (.ireturn, 1) := by decide +kernel
theorem dX5_knowCell_0 : decode cX5_knowCell 0 = .ok (.ldc2_w 99, 3) := by decide +kernel
theorem dX5_knowCell_3 : decode cX5_knowCell 3 = .ok (.bipush 8, 2) := by decide +kernel
theorem dX5_knowCell_5 : decode cX5_knowCell 5 = .ok (.iload_n 1, 1) := by decide +kernel
theorem dX5_knowCell_6 : decode cX5_knowCell 6 = .ok (.bipush 7, 2) := by decide +kernel
theorem dX5_knowCell_8 : decode cX5_knowCell 8 = .ok (.iand, 1) := by decide +kernel
theorem dX5_knowCell_9 : decode cX5_knowCell 9 = .ok (.imul, 1) := by decide +kernel
theorem dX5_knowCell_10 : decode cX5_knowCell 10 = .ok (.lshl, 1) := by decide +kernel
theorem dX5_knowCell_11 : decode cX5_knowCell 11 = .ok (.lstore_n 3, 1) := by decide +kernel
theorem dX5_knowCell_12 : decode cX5_knowCell 12 = .ok (.aload_n 0, 1) := by decide +kernel
theorem dX5_knowCell_13 : decode cX5_knowCell 13 = .ok (.getfield 22, 3) := by decide +kernel
theorem dX5_knowCell_16 : decode cX5_knowCell 16 = .ok (.iload_n 1, 1) := by decide +kernel
theorem dX5_knowCell_17 : decode cX5_knowCell 17 = .ok (.iconst 3, 1) := by decide +kernel
theorem dX5_knowCell_18 : decode cX5_knowCell 18 = .ok (.ishr, 1) := by decide +kernel
theorem dX5_knowCell_19 : decode cX5_knowCell 19 = .ok (.iload_n 2, 1) := by decide +kernel
theorem dX5_knowCell_20 : decode cX5_knowCell 20 = .ok (.ifCond .eq 16, 3) := by decide +kernel
theorem dX5_knowCell_23 : decode cX5_knowCell 23 = .ok (.aload_n 0, 1) := by decide +kernel
theorem dX5_knowCell_24 : decode cX5_knowCell 24 = .ok (.getfield 22, 3) := by decide +kernel
theorem dX5_knowCell_27 : decode cX5_knowCell 27 = .ok (.iload_n 1, 1) := by decide +kernel
theorem dX5_knowCell_28 : decode cX5_knowCell 28 = .ok (.iconst 3, 1) := by decide +kernel
theorem dX5_knowCell_29 : decode cX5_knowCell 29 = .ok (.ishr, 1) := by decide +kernel
theorem dX5_knowCell_30 : decode cX5_knowCell 30 = .ok (.laload, 1) := by decide +kernel
theorem dX5_knowCell_31 : decode cX5_knowCell 31 = .ok (.lload_n 3, 1) := by decide +kernel
theorem dX5_knowCell_32 : decode cX5_knowCell 32 = .ok (.lor, 1) := by decide +kernel
theorem dX5_knowCell_33 : decode cX5_knowCell 33 = .ok (.goto 17, 3) := by decide +kernel
theorem dX5_knowCell_36 : decode cX5_knowCell 36 = .ok (.aload_n 0, 1) := by decide +kernel
theorem dX5_knowCell_37 : decode cX5_knowCell 37 = .ok (.getfield 22, 3) := by decide +kernel
theorem dX5_knowCell_40 : decode cX5_knowCell 40 = .ok (.iload_n 1, 1) := by decide +kernel
theorem dX5_knowCell_41 : decode cX5_knowCell 41 = .ok (.iconst 3, 1) := by decide +kernel
theorem dX5_knowCell_42 : decode cX5_knowCell 42 = .ok (.ishr, 1) := by decide +kernel
theorem dX5_knowCell_43 : decode cX5_knowCell 43 = .ok (.laload, 1) := by decide +kernel
theorem dX5_knowCell_44 : decode cX5_knowCell 44 = .ok (.lload_n 3, 1) := by decide +kernel
theorem dX5_knowCell_45 : decode cX5_knowCell 45 = .ok (.ldc2_w 46, 3) := by decide +kernel
theorem dX5_knowCell_48 : decode cX5_knowCell 48 = .ok (.lxor, 1) := by decide +kernel
theorem dX5_knowCell_49 : decode cX5_knowCell 49 = .ok (.land, 1) := by decide +kernel
theorem dX5_knowCell_50 : decode cX5_knowCell 50 = .ok (.lastore, 1) := by decide +kernel
theorem dX5_knowCell_51 : decode cX5_knowCell 51 = .ok (.return_, 1) := by decide +kernel
theorem dX5_hold_0 : decode cX5_hold 0 = .ok (.aload_n 0, 1) := by decide +kernel
theorem dX5_hold_1 : decode cX5_hold 1 = .ok (.dup, 1) := by decide +kernel
theorem dX5_hold_2 : decode cX5_hold 2 = .ok (.getfield 34, 3) := by decide +kernel
theorem dX5_hold_5 : decode cX5_hold 5 = .ok (.lconst 1, 1) := by decide +kernel
theorem dX5_hold_6 : decode cX5_hold 6 = .ok (.iload_n 1, 1) := by decide +kernel
theorem dX5_hold_7 : decode cX5_hold 7 = .ok (.lshl, 1) := by decide +kernel
theorem dX5_hold_8 : decode cX5_hold 8 = .ok (.lor, 1) := by decide +kernel
theorem dX5_hold_9 : decode cX5_hold 9 = .ok (.putfield 34, 3) := by decide +kernel
theorem dX5_hold_12 : decode cX5_hold 12 = .ok (.aload_n 0, 1) := by decide +kernel
theorem dX5_hold_13 : decode cX5_hold 13 = .ok (.bipush 11, 2) := by decide +kernel
theorem dX5_hold_15 : decode cX5_hold 15 = .ok (.iload_n 1, 1) := by decide +kernel
theorem dX5_hold_16 : decode cX5_hold 16 = .ok (.iadd, 1) := by decide +kernel
theorem dX5_hold_17 : decode cX5_hold 17 = .ok (.iload_n 2, 1) := by decide +kernel
theorem dX5_hold_18 : decode cX5_hold 18 = .ok (.invokevirtual 88, 3) := by decide +kernel
theorem dX5_hold_21 : decode cX5_hold 21 = .ok (.aload_n 0, 1) := by decide +kernel
theorem dX5_hold_22 : decode cX5_hold 22 = .ok (.iload_n 1, 1) := by decide +kernel
theorem dX5_hold_23 : decode cX5_hold 23 = .ok (.aload_n 0, 1) := by decide +kernel
theorem dX5_hold_24 : decode cX5_hold 24 = .ok (.iload_n 2, 1) := by decide +kernel
theorem dX5_hold_25 : decode cX5_hold 25 = .ok (.invokevirtual 92, 3) := by decide +kernel
theorem dX5_hold_28 : decode cX5_hold 28 = .ok (.invokevirtual 95, 3) := by decide +kernel
theorem dX5_hold_31 : decode cX5_hold 31 = .ok (.return_, 1) := by decide +kernel
theorem dX5_holdNothing_0 : decode cX5_holdNothing 0 = .ok (.aload_n 0, 1) := by decide +kernel
theorem dX5_holdNothing_1 : decode cX5_holdNothing 1 = .ok (.dup, 1) := by decide +kernel
theorem dX5_holdNothing_2 : decode cX5_holdNothing 2 = .ok (.getfield 34, 3) := by decide +kernel
theorem dX5_holdNothing_5 : decode cX5_holdNothing 5 = .ok (.lconst 1, 1) := by decide +kernel
theorem dX5_holdNothing_6 : decode cX5_holdNothing 6 = .ok (.iload_n 1, 1) := by decide +kernel
theorem dX5_holdNothing_7 : decode cX5_holdNothing 7 = .ok (.lshl, 1) := by decide +kernel
theorem dX5_holdNothing_8 : decode cX5_holdNothing 8 = .ok (.ldc2_w 46, 3) := by decide +kernel
theorem dX5_holdNothing_11 : decode cX5_holdNothing 11 = .ok (.lxor, 1) := by decide +kernel
theorem dX5_holdNothing_12 : decode cX5_holdNothing 12 = .ok (.land, 1) := by decide +kernel
theorem dX5_holdNothing_13 : decode cX5_holdNothing 13 = .ok (.putfield 34, 3) := by decide +kernel
theorem dX5_holdNothing_16 : decode cX5_holdNothing 16 = .ok (.return_, 1) := by decide +kernel
theorem dX5_putOctets_0 : decode cX5_putOctets 0 = .ok (.iload_n 1, 1) := by decide +kernel
theorem dX5_putOctets_1 : decode cX5_putOctets 1 = .ok (.istore_n 3, 1) := by decide +kernel
theorem dX5_putOctets_2 : decode cX5_putOctets 2 = .ok (.iload_n 3, 1) := by decide +kernel
theorem dX5_putOctets_3 : decode cX5_putOctets 3 = .ok (.iload_n 1, 1) := by decide +kernel
theorem dX5_putOctets_4 : decode cX5_putOctets 4 = .ok (.iload_n 2, 1) := by decide +kernel
theorem dX5_putOctets_5 : decode cX5_putOctets 5 = .ok (.iadd, 1) := by decide +kernel
theorem dX5_putOctets_6 : decode cX5_putOctets 6 = .ok (.if_icmp .ge 34, 3) := by decide +kernel
theorem dX5_putOctets_9 : decode cX5_putOctets 9 = .ok (.aload_n 0, 1) := by decide +kernel
theorem dX5_putOctets_10 : decode cX5_putOctets 10 = .ok (.getfield 22, 3) := by decide +kernel
theorem dX5_putOctets_13 : decode cX5_putOctets 13 = .ok (.iload_n 3, 1) := by decide +kernel
theorem dX5_putOctets_14 : decode cX5_putOctets 14 = .ok (.bipush 6, 2) := by decide +kernel
theorem dX5_putOctets_16 : decode cX5_putOctets 16 = .ok (.ishr, 1) := by decide +kernel
theorem dX5_putOctets_17 : decode cX5_putOctets 17 = .ok (.dup2, 1) := by decide +kernel
theorem dX5_putOctets_18 : decode cX5_putOctets 18 = .ok (.laload, 1) := by decide +kernel
theorem dX5_putOctets_19 : decode cX5_putOctets 19 = .ok (.lconst 1, 1) := by decide +kernel
theorem dX5_putOctets_20 : decode cX5_putOctets 20 = .ok (.iload_n 3, 1) := by decide +kernel
theorem dX5_putOctets_21 : decode cX5_putOctets 21 = .ok (.bipush 63, 2) := by decide +kernel
theorem dX5_putOctets_23 : decode cX5_putOctets 23 = .ok (.iand, 1) := by decide +kernel
theorem dX5_putOctets_24 : decode cX5_putOctets 24 = .ok (.lshl, 1) := by decide +kernel
theorem dX5_putOctets_25 : decode cX5_putOctets 25 = .ok (.lor, 1) := by decide +kernel
theorem dX5_putOctets_26 : decode cX5_putOctets 26 = .ok (.lastore, 1) := by decide +kernel
theorem dX5_putOctets_27 : decode cX5_putOctets 27 = .ok (.aload_n 0, 1) := by decide +kernel
theorem dX5_putOctets_28 : decode cX5_putOctets 28 = .ok (.iload_n 3, 1) := by decide +kernel
theorem dX5_putOctets_29 : decode cX5_putOctets 29 = .ok (.iconst 3, 1) := by decide +kernel
theorem dX5_putOctets_30 : decode cX5_putOctets 30 = .ok (.ishr, 1) := by decide +kernel
theorem dX5_putOctets_31 : decode cX5_putOctets 31 = .ok (.invokevirtual 65, 3) := by decide +kernel
theorem dX5_putOctets_34 : decode cX5_putOctets 34 = .ok (.iinc 3 1, 3) := by decide +kernel
theorem dX5_putOctets_37 : decode cX5_putOctets 37 = .ok (.goto (-35), 3) := by decide +kernel
theorem dX5_putOctets_40 : decode cX5_putOctets 40 = .ok (.return_, 1) := by decide +kernel
theorem dX5_settle_0 : decode cX5_settle 0 = .ok (.iload_n 2, 1) := by decide +kernel
theorem dX5_settle_1 : decode cX5_settle 1 = .ok (.ifCond .eq 7, 3) := by decide +kernel
theorem dX5_settle_4 : decode cX5_settle 4 = .ok (.iconst 1, 1) := by decide +kernel
theorem dX5_settle_5 : decode cX5_settle 5 = .ok (.goto 14, 3) := by decide +kernel
theorem dX5_settle_8 : decode cX5_settle 8 = .ok (.iconst 5, 1) := by decide +kernel
theorem dX5_settle_9 : decode cX5_settle 9 = .ok (.iload_n 1, 1) := by decide +kernel
theorem dX5_settle_10 : decode cX5_settle 10 = .ok (.iconst 4, 1) := by decide +kernel
theorem dX5_settle_11 : decode cX5_settle 11 = .ok (.ishr, 1) := by decide +kernel
theorem dX5_settle_12 : decode cX5_settle 12 = .ok (.bipush 15, 2) := by decide +kernel
theorem dX5_settle_14 : decode cX5_settle 14 = .ok (.iand, 1) := by decide +kernel
theorem dX5_settle_15 : decode cX5_settle 15 = .ok (.iconst 0, 1) := by decide +kernel
theorem dX5_settle_16 : decode cX5_settle 16 = .ok (.invokestatic 104, 3) := by decide +kernel
theorem dX5_settle_19 : decode cX5_settle 19 = .ok (.istore_n 3, 1) := by decide +kernel
theorem dX5_settle_20 : decode cX5_settle 20 = .ok (.iconst 0, 1) := by decide +kernel
theorem dX5_settle_21 : decode cX5_settle 21 = .ok (.istore 4, 2) := by decide +kernel
theorem dX5_settle_23 : decode cX5_settle 23 = .ok (.iload 4, 2) := by decide +kernel
theorem dX5_settle_25 : decode cX5_settle 25 = .ok (.bipush 11, 2) := by decide +kernel
theorem dX5_settle_27 : decode cX5_settle 27 = .ok (.if_icmp .ge 29, 3) := by decide +kernel
theorem dX5_settle_30 : decode cX5_settle 30 = .ok (.aload_n 0, 1) := by decide +kernel
theorem dX5_settle_31 : decode cX5_settle 31 = .ok (.getfield 11, 3) := by decide +kernel
theorem dX5_settle_34 : decode cX5_settle 34 = .ok (.iload 4, 2) := by decide +kernel
theorem dX5_settle_36 : decode cX5_settle 36 = .ok (.iaload, 1) := by decide +kernel
theorem dX5_settle_37 : decode cX5_settle 37 = .ok (.iload_n 1, 1) := by decide +kernel
theorem dX5_settle_38 : decode cX5_settle 38 = .ok (.if_icmp .ne 12, 3) := by decide +kernel
theorem dX5_settle_41 : decode cX5_settle 41 = .ok (.aload_n 0, 1) := by decide +kernel
theorem dX5_settle_42 : decode cX5_settle 42 = .ok (.iload 4, 2) := by decide +kernel
theorem dX5_settle_44 : decode cX5_settle 44 = .ok (.iload_n 3, 1) := by decide +kernel
theorem dX5_settle_45 : decode cX5_settle 45 = .ok (.lconst 0, 1) := by decide +kernel
theorem dX5_settle_46 : decode cX5_settle 46 = .ok (.lconst 0, 1) := by decide +kernel
theorem dX5_settle_47 : decode cX5_settle 47 = .ok (.invokevirtual 38, 3) := by decide +kernel
theorem dX5_settle_50 : decode cX5_settle 50 = .ok (.iinc 4 1, 3) := by decide +kernel
theorem dX5_settle_53 : decode cX5_settle 53 = .ok (.goto (-30), 3) := by decide +kernel
theorem dX5_settle_56 : decode cX5_settle 56 = .ok (.iconst 0, 1) := by decide +kernel
theorem dX5_settle_57 : decode cX5_settle 57 = .ok (.istore 4, 2) := by decide +kernel
theorem dX5_settle_59 : decode cX5_settle 59 = .ok (.iload 4, 2) := by decide +kernel
theorem dX5_settle_61 : decode cX5_settle 61 = .ok (.bipush 64, 2) := by decide +kernel
theorem dX5_settle_63 : decode cX5_settle 63 = .ok (.if_icmp .ge 60, 3) := by decide +kernel
theorem dX5_settle_66 : decode cX5_settle 66 = .ok (.aload_n 0, 1) := by decide +kernel
theorem dX5_settle_67 : decode cX5_settle 67 = .ok (.getfield 34, 3) := by decide +kernel
theorem dX5_settle_70 : decode cX5_settle 70 = .ok (.lconst 0, 1) := by decide +kernel
theorem dX5_settle_71 : decode cX5_settle 71 = .ok (.lcmp, 1) := by decide +kernel
theorem dX5_settle_72 : decode cX5_settle 72 = .ok (.ifCond .eq 51, 3) := by decide +kernel
theorem dX5_settle_75 : decode cX5_settle 75 = .ok (.aload_n 0, 1) := by decide +kernel
theorem dX5_settle_76 : decode cX5_settle 76 = .ok (.iload 4, 2) := by decide +kernel
theorem dX5_settle_78 : decode cX5_settle 78 = .ok (.invokevirtual 58, 3) := by decide +kernel
theorem dX5_settle_81 : decode cX5_settle 81 = .ok (.ifCond .eq 36, 3) := by decide +kernel
theorem dX5_settle_84 : decode cX5_settle 84 = .ok (.aload_n 0, 1) := by decide +kernel
theorem dX5_settle_85 : decode cX5_settle 85 = .ok (.getfield 11, 3) := by decide +kernel
theorem dX5_settle_88 : decode cX5_settle 88 = .ok (.bipush 11, 2) := by decide +kernel
theorem dX5_settle_90 : decode cX5_settle 90 = .ok (.iload 4, 2) := by decide +kernel
theorem dX5_settle_92 : decode cX5_settle 92 = .ok (.iadd, 1) := by decide +kernel
theorem dX5_settle_93 : decode cX5_settle 93 = .ok (.iaload, 1) := by decide +kernel
theorem dX5_settle_94 : decode cX5_settle 94 = .ok (.iload_n 1, 1) := by decide +kernel
theorem dX5_settle_95 : decode cX5_settle 95 = .ok (.if_icmp .ne 22, 3) := by decide +kernel
theorem dX5_settle_98 : decode cX5_settle 98 = .ok (.aload_n 0, 1) := by decide +kernel
theorem dX5_settle_99 : decode cX5_settle 99 = .ok (.bipush 11, 2) := by decide +kernel
theorem dX5_settle_101 : decode cX5_settle 101 = .ok (.iload 4, 2) := by decide +kernel
theorem dX5_settle_103 : decode cX5_settle 103 = .ok (.iadd, 1) := by decide +kernel
theorem dX5_settle_104 : decode cX5_settle 104 = .ok (.iload_n 3, 1) := by decide +kernel
theorem dX5_settle_105 : decode cX5_settle 105 = .ok (.lconst 0, 1) := by decide +kernel
theorem dX5_settle_106 : decode cX5_settle 106 = .ok (.lconst 0, 1) := by decide +kernel
theorem dX5_settle_107 : decode cX5_settle 107 = .ok (.invokevirtual 38, 3) := by decide +kernel
theorem dX5_settle_110 : decode cX5_settle 110 = .ok (.aload_n 0, 1) := by decide +kernel
theorem dX5_settle_111 : decode cX5_settle 111 = .ok (.iload 4, 2) := by decide +kernel
theorem dX5_settle_113 : decode cX5_settle 113 = .ok (.iload_n 2, 1) := by decide +kernel
theorem dX5_settle_114 : decode cX5_settle 114 = .ok (.invokevirtual 95, 3) := by decide +kernel
theorem dX5_settle_117 : decode cX5_settle 117 = .ok (.iinc 4 1, 3) := by decide +kernel
theorem dX5_settle_120 : decode cX5_settle 120 = .ok (.goto (-61), 3) := by decide +kernel
theorem dX5_settle_123 : decode cX5_settle 123 = .ok (.return_, 1) := by decide +kernel
theorem dX5_isOne_0 : decode cX5_isOne 0 = .ok (.aload_n 0, 1) := by decide +kernel
theorem dX5_isOne_1 : decode cX5_isOne 1 = .ok (.getfield 15, 3) := by decide +kernel
theorem dX5_isOne_4 : decode cX5_isOne 4 = .ok (.iload_n 1, 1) := by decide +kernel
theorem dX5_isOne_5 : decode cX5_isOne 5 = .ok (.laload, 1) := by decide +kernel
theorem dX5_isOne_6 : decode cX5_isOne 6 = .ok (.aload_n 0, 1) := by decide +kernel
theorem dX5_isOne_7 : decode cX5_isOne 7 = .ok (.getfield 19, 3) := by decide +kernel
theorem dX5_isOne_10 : decode cX5_isOne 10 = .ok (.iload_n 1, 1) := by decide +kernel
theorem dX5_isOne_11 : decode cX5_isOne 11 = .ok (.laload, 1) := by decide +kernel
theorem dX5_isOne_12 : decode cX5_isOne 12 = .ok (.lcmp, 1) := by decide +kernel
theorem dX5_isOne_13 : decode cX5_isOne 13 = .ok (.ifCond .ne 7, 3) := by decide +kernel
theorem dX5_isOne_16 : decode cX5_isOne 16 = .ok (.iconst 1, 1) := by decide +kernel
theorem dX5_isOne_17 : decode cX5_isOne 17 = .ok (.goto 4, 3) := by decide +kernel
theorem dX5_isOne_20 : decode cX5_isOne 20 = .ok (.iconst 0, 1) := by decide +kernel
theorem dX5_isOne_21 : decode cX5_isOne 21 = .ok (.ireturn, 1) := by decide +kernel
theorem dX5_joinPlace_0 : decode cX5_joinPlace 0 = .ok (.aload_n 2, 1) := by decide +kernel
theorem dX5_joinPlace_1 : decode cX5_joinPlace 1 = .ok (.getfield 15, 3) := by decide +kernel
theorem dX5_joinPlace_4 : decode cX5_joinPlace 4 = .ok (.iload_n 1, 1) := by decide +kernel
theorem dX5_joinPlace_5 : decode cX5_joinPlace 5 = .ok (.laload, 1) := by decide +kernel
theorem dX5_joinPlace_6 : decode cX5_joinPlace 6 = .ok (.lstore_n 3, 1) := by decide +kernel
theorem dX5_joinPlace_7 : decode cX5_joinPlace 7 = .ok (.aload_n 2, 1) := by decide +kernel
theorem dX5_joinPlace_8 : decode cX5_joinPlace 8 = .ok (.getfield 19, 3) := by decide +kernel
theorem dX5_joinPlace_11 : decode cX5_joinPlace 11 = .ok (.iload_n 1, 1) := by decide +kernel
theorem dX5_joinPlace_12 : decode cX5_joinPlace 12 = .ok (.laload, 1) := by decide +kernel
theorem dX5_joinPlace_13 : decode cX5_joinPlace 13 = .ok (.lstore 5, 2) := by decide +kernel
theorem dX5_joinPlace_15 : decode cX5_joinPlace 15 = .ok (.aload_n 0, 1) := by decide +kernel
theorem dX5_joinPlace_16 : decode cX5_joinPlace 16 = .ok (.iload_n 1, 1) := by decide +kernel
theorem dX5_joinPlace_17 : decode cX5_joinPlace 17 = .ok (.invokevirtual 69, 3) := by decide +kernel
theorem dX5_joinPlace_20 : decode cX5_joinPlace 20 = .ok (.istore 7, 2) := by decide +kernel
theorem dX5_joinPlace_22 : decode cX5_joinPlace 22 = .ok (.aload_n 0, 1) := by decide +kernel
theorem dX5_joinPlace_23 : decode cX5_joinPlace 23 = .ok (.getfield 11, 3) := by decide +kernel
theorem dX5_joinPlace_26 : decode cX5_joinPlace 26 = .ok (.iload_n 1, 1) := by decide +kernel
theorem dX5_joinPlace_27 : decode cX5_joinPlace 27 = .ok (.iaload, 1) := by decide +kernel
theorem dX5_joinPlace_28 : decode cX5_joinPlace 28 = .ok (.aload_n 2, 1) := by decide +kernel
theorem dX5_joinPlace_29 : decode cX5_joinPlace 29 = .ok (.getfield 11, 3) := by decide +kernel
theorem dX5_joinPlace_32 : decode cX5_joinPlace 32 = .ok (.iload_n 1, 1) := by decide +kernel
theorem dX5_joinPlace_33 : decode cX5_joinPlace 33 = .ok (.iaload, 1) := by decide +kernel
theorem dX5_joinPlace_34 : decode cX5_joinPlace 34 = .ok (.if_icmp .eq 14, 3) := by decide +kernel
theorem dX5_joinPlace_37 : decode cX5_joinPlace 37 = .ok (.aload_n 0, 1) := by decide +kernel
theorem dX5_joinPlace_38 : decode cX5_joinPlace 38 = .ok (.iload_n 1, 1) := by decide +kernel
theorem dX5_joinPlace_39 : decode cX5_joinPlace 39 = .ok (.iconst 0, 1) := by decide +kernel
theorem dX5_joinPlace_40 : decode cX5_joinPlace 40 = .ok (.lconst 0, 1) := by decide +kernel
theorem dX5_joinPlace_41 : decode cX5_joinPlace 41 = .ok (.lconst 0, 1) := by decide +kernel
theorem dX5_joinPlace_42 : decode cX5_joinPlace 42 = .ok (.invokevirtual 38, 3) := by decide +kernel
theorem dX5_joinPlace_45 : decode cX5_joinPlace 45 = .ok (.goto 139, 3) := by decide +kernel
theorem dX5_joinPlace_48 : decode cX5_joinPlace 48 = .ok (.iload 7, 2) := by decide +kernel
theorem dX5_joinPlace_50 : decode cX5_joinPlace 50 = .ok (.iconst 1, 1) := by decide +kernel
theorem dX5_joinPlace_51 : decode cX5_joinPlace 51 = .ok (.if_icmp .ne 66, 3) := by decide +kernel
theorem dX5_joinPlace_54 : decode cX5_joinPlace 54 = .ok (.aload_n 0, 1) := by decide +kernel
theorem dX5_joinPlace_55 : decode cX5_joinPlace 55 = .ok (.getfield 15, 3) := by decide +kernel
theorem dX5_joinPlace_58 : decode cX5_joinPlace 58 = .ok (.iload_n 1, 1) := by decide +kernel
theorem dX5_joinPlace_59 : decode cX5_joinPlace 59 = .ok (.lload_n 3, 1) := by decide +kernel
theorem dX5_joinPlace_60 : decode cX5_joinPlace 60 = .ok (.aload_n 0, 1) := by decide +kernel
theorem dX5_joinPlace_61 : decode cX5_joinPlace 61 = .ok (.getfield 15, 3) := by decide +kernel
theorem dX5_joinPlace_64 : decode cX5_joinPlace 64 = .ok (.iload_n 1, 1) := by decide +kernel
theorem dX5_joinPlace_65 : decode cX5_joinPlace 65 = .ok (.laload, 1) := by decide +kernel
theorem dX5_joinPlace_66 : decode cX5_joinPlace 66 = .ok (.invokestatic 73, 3) := by decide +kernel
theorem dX5_joinPlace_69 : decode cX5_joinPlace 69 = .ok (.ifCond .eq 7, 3) := by decide +kernel
theorem dX5_joinPlace_72 : decode cX5_joinPlace 72 = .ok (.lload_n 3, 1) := by decide +kernel
theorem dX5_joinPlace_73 : decode cX5_joinPlace 73 = .ok (.goto 9, 3) := by decide +kernel
theorem dX5_joinPlace_76 : decode cX5_joinPlace 76 = .ok (.aload_n 0, 1) := by decide +kernel
theorem dX5_joinPlace_77 : decode cX5_joinPlace 77 = .ok (.getfield 15, 3) := by decide +kernel
theorem dX5_joinPlace_80 : decode cX5_joinPlace 80 = .ok (.iload_n 1, 1) := by decide +kernel
theorem dX5_joinPlace_81 : decode cX5_joinPlace 81 = .ok (.laload, 1) := by decide +kernel
theorem dX5_joinPlace_82 : decode cX5_joinPlace 82 = .ok (.lastore, 1) := by decide +kernel
theorem dX5_joinPlace_83 : decode cX5_joinPlace 83 = .ok (.aload_n 0, 1) := by decide +kernel
theorem dX5_joinPlace_84 : decode cX5_joinPlace 84 = .ok (.getfield 19, 3) := by decide +kernel
theorem dX5_joinPlace_87 : decode cX5_joinPlace 87 = .ok (.iload_n 1, 1) := by decide +kernel
theorem dX5_joinPlace_88 : decode cX5_joinPlace 88 = .ok (.aload_n 0, 1) := by decide +kernel
theorem dX5_joinPlace_89 : decode cX5_joinPlace 89 = .ok (.getfield 19, 3) := by decide +kernel
theorem dX5_joinPlace_92 : decode cX5_joinPlace 92 = .ok (.iload_n 1, 1) := by decide +kernel
theorem dX5_joinPlace_93 : decode cX5_joinPlace 93 = .ok (.laload, 1) := by decide +kernel
theorem dX5_joinPlace_94 : decode cX5_joinPlace 94 = .ok (.lload 5, 2) := by decide +kernel
theorem dX5_joinPlace_96 : decode cX5_joinPlace 96 = .ok (.invokestatic 73, 3) := by decide +kernel
theorem dX5_joinPlace_99 : decode cX5_joinPlace 99 = .ok (.ifCond .eq 8, 3) := by decide +kernel
theorem dX5_joinPlace_102 : decode cX5_joinPlace 102 = .ok (.lload 5, 2) := by decide +kernel
theorem dX5_joinPlace_104 : decode cX5_joinPlace 104 = .ok (.goto 9, 3) := by decide +kernel
theorem dX5_joinPlace_107 : decode cX5_joinPlace 107 = .ok (.aload_n 0, 1) := by decide +kernel
theorem dX5_joinPlace_108 : decode cX5_joinPlace 108 = .ok (.getfield 19, 3) := by decide +kernel
theorem dX5_joinPlace_111 : decode cX5_joinPlace 111 = .ok (.iload_n 1, 1) := by decide +kernel
theorem dX5_joinPlace_112 : decode cX5_joinPlace 112 = .ok (.laload, 1) := by decide +kernel
theorem dX5_joinPlace_113 : decode cX5_joinPlace 113 = .ok (.lastore, 1) := by decide +kernel
theorem dX5_joinPlace_114 : decode cX5_joinPlace 114 = .ok (.goto 70, 3) := by decide +kernel
theorem dX5_joinPlace_117 : decode cX5_joinPlace 117 = .ok (.iload 7, 2) := by decide +kernel
theorem dX5_joinPlace_119 : decode cX5_joinPlace 119 = .ok (.iconst 2, 1) := by decide +kernel
theorem dX5_joinPlace_120 : decode cX5_joinPlace 120 = .ok (.if_icmp .eq 9, 3) := by decide +kernel
theorem dX5_joinPlace_123 : decode cX5_joinPlace 123 = .ok (.iload 7, 2) := by decide +kernel
theorem dX5_joinPlace_125 : decode cX5_joinPlace 125 = .ok (.iconst 5, 1) := by decide +kernel
theorem dX5_joinPlace_126 : decode cX5_joinPlace 126 = .ok (.if_icmp .ne 39, 3) := by decide +kernel
theorem dX5_joinPlace_129 : decode cX5_joinPlace 129 = .ok (.aload_n 0, 1) := by decide +kernel
theorem dX5_joinPlace_130 : decode cX5_joinPlace 130 = .ok (.getfield 15, 3) := by decide +kernel
theorem dX5_joinPlace_133 : decode cX5_joinPlace 133 = .ok (.iload_n 1, 1) := by decide +kernel
theorem dX5_joinPlace_134 : decode cX5_joinPlace 134 = .ok (.aload_n 0, 1) := by decide +kernel
theorem dX5_joinPlace_135 : decode cX5_joinPlace 135 = .ok (.getfield 15, 3) := by decide +kernel
theorem dX5_joinPlace_138 : decode cX5_joinPlace 138 = .ok (.iload_n 1, 1) := by decide +kernel
theorem dX5_joinPlace_139 : decode cX5_joinPlace 139 = .ok (.laload, 1) := by decide +kernel
theorem dX5_joinPlace_140 : decode cX5_joinPlace 140 = .ok (.lload_n 3, 1) := by decide +kernel
theorem dX5_joinPlace_141 : decode cX5_joinPlace 141 = .ok (.invokestatic 79, 3) := by decide +kernel
theorem dX5_joinPlace_144 : decode cX5_joinPlace 144 = .ok (.lastore, 1) := by decide +kernel
theorem dX5_joinPlace_145 : decode cX5_joinPlace 145 = .ok (.aload_n 0, 1) := by decide +kernel
theorem dX5_joinPlace_146 : decode cX5_joinPlace 146 = .ok (.getfield 19, 3) := by decide +kernel
theorem dX5_joinPlace_149 : decode cX5_joinPlace 149 = .ok (.iload_n 1, 1) := by decide +kernel
theorem dX5_joinPlace_150 : decode cX5_joinPlace 150 = .ok (.aload_n 0, 1) := by decide +kernel
theorem dX5_joinPlace_151 : decode cX5_joinPlace 151 = .ok (.getfield 19, 3) := by decide +kernel
theorem dX5_joinPlace_154 : decode cX5_joinPlace 154 = .ok (.iload_n 1, 1) := by decide +kernel
theorem dX5_joinPlace_155 : decode cX5_joinPlace 155 = .ok (.laload, 1) := by decide +kernel
theorem dX5_joinPlace_156 : decode cX5_joinPlace 156 = .ok (.lload 5, 2) := by decide +kernel
theorem dX5_joinPlace_158 : decode cX5_joinPlace 158 = .ok (.invokestatic 85, 3) := by decide +kernel
theorem dX5_joinPlace_161 : decode cX5_joinPlace 161 = .ok (.lastore, 1) := by decide +kernel
theorem dX5_joinPlace_162 : decode cX5_joinPlace 162 = .ok (.goto 22, 3) := by decide +kernel
theorem dX5_joinPlace_165 : decode cX5_joinPlace 165 = .ok (.aload_n 0, 1) := by decide +kernel
theorem dX5_joinPlace_166 : decode cX5_joinPlace 166 = .ok (.getfield 15, 3) := by decide +kernel
theorem dX5_joinPlace_169 : decode cX5_joinPlace 169 = .ok (.iload_n 1, 1) := by decide +kernel
theorem dX5_joinPlace_170 : decode cX5_joinPlace 170 = .ok (.laload, 1) := by decide +kernel
theorem dX5_joinPlace_171 : decode cX5_joinPlace 171 = .ok (.lload_n 3, 1) := by decide +kernel
theorem dX5_joinPlace_172 : decode cX5_joinPlace 172 = .ok (.lcmp, 1) := by decide +kernel
theorem dX5_joinPlace_173 : decode cX5_joinPlace 173 = .ok (.ifCond .eq 11, 3) := by decide +kernel
theorem dX5_joinPlace_176 : decode cX5_joinPlace 176 = .ok (.aload_n 0, 1) := by decide +kernel
theorem dX5_joinPlace_177 : decode cX5_joinPlace 177 = .ok (.iload_n 1, 1) := by decide +kernel
theorem dX5_joinPlace_178 : decode cX5_joinPlace 178 = .ok (.iconst 0, 1) := by decide +kernel
theorem dX5_joinPlace_179 : decode cX5_joinPlace 179 = .ok (.lconst 0, 1) := by decide +kernel
theorem dX5_joinPlace_180 : decode cX5_joinPlace 180 = .ok (.lconst 0, 1) := by decide +kernel
theorem dX5_joinPlace_181 : decode cX5_joinPlace 181 = .ok (.invokevirtual 38, 3) := by decide +kernel
theorem dX5_joinPlace_184 : decode cX5_joinPlace 184 = .ok (.return_, 1) := by decide +kernel
theorem dX5_joinWith_0 : decode cX5_joinWith 0 = .ok (.iconst 0, 1) := by decide +kernel
theorem dX5_joinWith_1 : decode cX5_joinWith 1 = .ok (.istore_n 2, 1) := by decide +kernel
theorem dX5_joinWith_2 : decode cX5_joinWith 2 = .ok (.iload_n 2, 1) := by decide +kernel
theorem dX5_joinWith_3 : decode cX5_joinWith 3 = .ok (.bipush 11, 2) := by decide +kernel
theorem dX5_joinWith_5 : decode cX5_joinWith 5 = .ok (.if_icmp .ge 15, 3) := by decide +kernel
theorem dX5_joinWith_8 : decode cX5_joinWith 8 = .ok (.aload_n 0, 1) := by decide +kernel
theorem dX5_joinWith_9 : decode cX5_joinWith 9 = .ok (.iload_n 2, 1) := by decide +kernel
theorem dX5_joinWith_10 : decode cX5_joinWith 10 = .ok (.aload_n 1, 1) := by decide +kernel
theorem dX5_joinWith_11 : decode cX5_joinWith 11 = .ok (.invokevirtual 54, 3) := by decide +kernel
theorem dX5_joinWith_14 : decode cX5_joinWith 14 = .ok (.iinc 2 1, 3) := by decide +kernel
theorem dX5_joinWith_17 : decode cX5_joinWith 17 = .ok (.goto (-15), 3) := by decide +kernel
theorem dX5_joinWith_20 : decode cX5_joinWith 20 = .ok (.iconst 0, 1) := by decide +kernel
theorem dX5_joinWith_21 : decode cX5_joinWith 21 = .ok (.istore_n 2, 1) := by decide +kernel
theorem dX5_joinWith_22 : decode cX5_joinWith 22 = .ok (.iload_n 2, 1) := by decide +kernel
theorem dX5_joinWith_23 : decode cX5_joinWith 23 = .ok (.bipush 8, 2) := by decide +kernel
theorem dX5_joinWith_25 : decode cX5_joinWith 25 = .ok (.if_icmp .ge 24, 3) := by decide +kernel
theorem dX5_joinWith_28 : decode cX5_joinWith 28 = .ok (.aload_n 0, 1) := by decide +kernel
theorem dX5_joinWith_29 : decode cX5_joinWith 29 = .ok (.getfield 22, 3) := by decide +kernel
theorem dX5_joinWith_32 : decode cX5_joinWith 32 = .ok (.iload_n 2, 1) := by decide +kernel
theorem dX5_joinWith_33 : decode cX5_joinWith 33 = .ok (.dup2, 1) := by decide +kernel
theorem dX5_joinWith_34 : decode cX5_joinWith 34 = .ok (.laload, 1) := by decide +kernel
theorem dX5_joinWith_35 : decode cX5_joinWith 35 = .ok (.aload_n 1, 1) := by decide +kernel
theorem dX5_joinWith_36 : decode cX5_joinWith 36 = .ok (.getfield 22, 3) := by decide +kernel
theorem dX5_joinWith_39 : decode cX5_joinWith 39 = .ok (.iload_n 2, 1) := by decide +kernel
theorem dX5_joinWith_40 : decode cX5_joinWith 40 = .ok (.laload, 1) := by decide +kernel
theorem dX5_joinWith_41 : decode cX5_joinWith 41 = .ok (.land, 1) := by decide +kernel
theorem dX5_joinWith_42 : decode cX5_joinWith 42 = .ok (.lastore, 1) := by decide +kernel
theorem dX5_joinWith_43 : decode cX5_joinWith 43 = .ok (.iinc 2 1, 3) := by decide +kernel
theorem dX5_joinWith_46 : decode cX5_joinWith 46 = .ok (.goto (-24), 3) := by decide +kernel
theorem dX5_joinWith_49 : decode cX5_joinWith 49 = .ok (.aload_n 0, 1) := by decide +kernel
theorem dX5_joinWith_50 : decode cX5_joinWith 50 = .ok (.dup, 1) := by decide +kernel
theorem dX5_joinWith_51 : decode cX5_joinWith 51 = .ok (.getfield 34, 3) := by decide +kernel
theorem dX5_joinWith_54 : decode cX5_joinWith 54 = .ok (.aload_n 1, 1) := by decide +kernel
theorem dX5_joinWith_55 : decode cX5_joinWith 55 = .ok (.getfield 34, 3) := by decide +kernel
theorem dX5_joinWith_58 : decode cX5_joinWith 58 = .ok (.land, 1) := by decide +kernel
theorem dX5_joinWith_59 : decode cX5_joinWith 59 = .ok (.putfield 34, 3) := by decide +kernel
theorem dX5_joinWith_62 : decode cX5_joinWith 62 = .ok (.iconst 0, 1) := by decide +kernel
theorem dX5_joinWith_63 : decode cX5_joinWith 63 = .ok (.istore_n 2, 1) := by decide +kernel
theorem dX5_joinWith_64 : decode cX5_joinWith 64 = .ok (.iload_n 2, 1) := by decide +kernel
theorem dX5_joinWith_65 : decode cX5_joinWith 65 = .ok (.bipush 64, 2) := by decide +kernel
theorem dX5_joinWith_67 : decode cX5_joinWith 67 = .ok (.if_icmp .ge 51, 3) := by decide +kernel
theorem dX5_joinWith_70 : decode cX5_joinWith 70 = .ok (.aload_n 0, 1) := by decide +kernel
theorem dX5_joinWith_71 : decode cX5_joinWith 71 = .ok (.getfield 34, 3) := by decide +kernel
theorem dX5_joinWith_74 : decode cX5_joinWith 74 = .ok (.lconst 0, 1) := by decide +kernel
theorem dX5_joinWith_75 : decode cX5_joinWith 75 = .ok (.lcmp, 1) := by decide +kernel
theorem dX5_joinWith_76 : decode cX5_joinWith 76 = .ok (.ifCond .eq 42, 3) := by decide +kernel
theorem dX5_joinWith_79 : decode cX5_joinWith 79 = .ok (.aload_n 0, 1) := by decide +kernel
theorem dX5_joinWith_80 : decode cX5_joinWith 80 = .ok (.iload_n 2, 1) := by decide +kernel
theorem dX5_joinWith_81 : decode cX5_joinWith 81 = .ok (.invokevirtual 58, 3) := by decide +kernel
theorem dX5_joinWith_84 : decode cX5_joinWith 84 = .ok (.ifCond .eq 28, 3) := by decide +kernel
theorem dX5_joinWith_87 : decode cX5_joinWith 87 = .ok (.aload_n 0, 1) := by decide +kernel
theorem dX5_joinWith_88 : decode cX5_joinWith 88 = .ok (.bipush 11, 2) := by decide +kernel
theorem dX5_joinWith_90 : decode cX5_joinWith 90 = .ok (.iload_n 2, 1) := by decide +kernel
theorem dX5_joinWith_91 : decode cX5_joinWith 91 = .ok (.iadd, 1) := by decide +kernel
theorem dX5_joinWith_92 : decode cX5_joinWith 92 = .ok (.aload_n 1, 1) := by decide +kernel
theorem dX5_joinWith_93 : decode cX5_joinWith 93 = .ok (.invokevirtual 54, 3) := by decide +kernel
theorem dX5_joinWith_96 : decode cX5_joinWith 96 = .ok (.aload_n 0, 1) := by decide +kernel
theorem dX5_joinWith_97 : decode cX5_joinWith 97 = .ok (.bipush 11, 2) := by decide +kernel
theorem dX5_joinWith_99 : decode cX5_joinWith 99 = .ok (.iload_n 2, 1) := by decide +kernel
theorem dX5_joinWith_100 : decode cX5_joinWith 100 = .ok (.iadd, 1) := by decide +kernel
theorem dX5_joinWith_101 : decode cX5_joinWith 101 = .ok (.invokevirtual 62, 3) := by decide +kernel
theorem dX5_joinWith_104 : decode cX5_joinWith 104 = .ok (.ifCond .eq 8, 3) := by decide +kernel
theorem dX5_joinWith_107 : decode cX5_joinWith 107 = .ok (.aload_n 0, 1) := by decide +kernel
theorem dX5_joinWith_108 : decode cX5_joinWith 108 = .ok (.iload_n 2, 1) := by decide +kernel
theorem dX5_joinWith_109 : decode cX5_joinWith 109 = .ok (.invokevirtual 65, 3) := by decide +kernel
theorem dX5_joinWith_112 : decode cX5_joinWith 112 = .ok (.iinc 2 1, 3) := by decide +kernel
theorem dX5_joinWith_115 : decode cX5_joinWith 115 = .ok (.goto (-51), 3) := by decide +kernel
theorem dX5_joinWith_118 : decode cX5_joinWith 118 = .ok (.return_, 1) := by decide +kernel
theorem dX5_tell_0 : decode cX5_tell 0 = .ok (.aload_n 0, 1) := by decide +kernel
theorem dX5_tell_1 : decode cX5_tell 1 = .ok (.iload_n 1, 1) := by decide +kernel
theorem dX5_tell_2 : decode cX5_tell 2 = .ok (.invokevirtual 69, 3) := by decide +kernel
theorem dX5_tell_5 : decode cX5_tell 5 = .ok (.istore_n 3, 1) := by decide +kernel
theorem dX5_tell_6 : decode cX5_tell 6 = .ok (.iload_n 3, 1) := by decide +kernel
theorem dX5_tell_7 : decode cX5_tell 7 = .ok (.iconst 1, 1) := by decide +kernel
theorem dX5_tell_8 : decode cX5_tell 8 = .ok (.if_icmp .eq 13, 3) := by decide +kernel
theorem dX5_tell_11 : decode cX5_tell 11 = .ok (.iload_n 3, 1) := by decide +kernel
theorem dX5_tell_12 : decode cX5_tell 12 = .ok (.iconst 2, 1) := by decide +kernel
theorem dX5_tell_13 : decode cX5_tell 13 = .ok (.if_icmp .eq 8, 3) := by decide +kernel
theorem dX5_tell_16 : decode cX5_tell 16 = .ok (.iload_n 3, 1) := by decide +kernel
theorem dX5_tell_17 : decode cX5_tell 17 = .ok (.iconst 5, 1) := by decide +kernel
theorem dX5_tell_18 : decode cX5_tell 18 = .ok (.if_icmp .ne 7, 3) := by decide +kernel
theorem dX5_tell_21 : decode cX5_tell 21 = .ok (.iconst 1, 1) := by decide +kernel
theorem dX5_tell_22 : decode cX5_tell 22 = .ok (.goto 4, 3) := by decide +kernel
theorem dX5_tell_25 : decode cX5_tell 25 = .ok (.iconst 0, 1) := by decide +kernel
theorem dX5_tell_26 : decode cX5_tell 26 = .ok (.istore 4, 2) := by decide +kernel
theorem dX5_tell_28 : decode cX5_tell 28 = .ok (.iload_n 2, 1) := by decide +kernel
theorem dX5_tell_29 : decode cX5_tell 29 = .ok (.tableswitch 78 0 3 #[31, 34, 55, 71], 31) := by decide +kernel
theorem dX5_tell_60 : decode cX5_tell 60 = .ok (.iload_n 3, 1) := by decide +kernel
theorem dX5_tell_61 : decode cX5_tell 61 = .ok (.i2l, 1) := by decide +kernel
theorem dX5_tell_62 : decode cX5_tell 62 = .ok (.lreturn, 1) := by decide +kernel
theorem dX5_tell_63 : decode cX5_tell 63 = .ok (.iload 4, 2) := by decide +kernel
theorem dX5_tell_65 : decode cX5_tell 65 = .ok (.ifCond .ne 8, 3) := by decide +kernel
theorem dX5_tell_68 : decode cX5_tell 68 = .ok (.iload_n 3, 1) := by decide +kernel
theorem dX5_tell_69 : decode cX5_tell 69 = .ok (.iconst 3, 1) := by decide +kernel
theorem dX5_tell_70 : decode cX5_tell 70 = .ok (.if_icmp .ne 12, 3) := by decide +kernel
theorem dX5_tell_73 : decode cX5_tell 73 = .ok (.aload_n 0, 1) := by decide +kernel
theorem dX5_tell_74 : decode cX5_tell 74 = .ok (.getfield 15, 3) := by decide +kernel
theorem dX5_tell_77 : decode cX5_tell 77 = .ok (.iload_n 1, 1) := by decide +kernel
theorem dX5_tell_78 : decode cX5_tell 78 = .ok (.laload, 1) := by decide +kernel
theorem dX5_tell_79 : decode cX5_tell 79 = .ok (.goto 4, 3) := by decide +kernel
theorem dX5_tell_82 : decode cX5_tell 82 = .ok (.lconst 0, 1) := by decide +kernel
theorem dX5_tell_83 : decode cX5_tell 83 = .ok (.lreturn, 1) := by decide +kernel
theorem dX5_tell_84 : decode cX5_tell 84 = .ok (.iload 4, 2) := by decide +kernel
theorem dX5_tell_86 : decode cX5_tell 86 = .ok (.ifCond .eq 12, 3) := by decide +kernel
theorem dX5_tell_89 : decode cX5_tell 89 = .ok (.aload_n 0, 1) := by decide +kernel
theorem dX5_tell_90 : decode cX5_tell 90 = .ok (.getfield 19, 3) := by decide +kernel
theorem dX5_tell_93 : decode cX5_tell 93 = .ok (.iload_n 1, 1) := by decide +kernel
theorem dX5_tell_94 : decode cX5_tell 94 = .ok (.laload, 1) := by decide +kernel
theorem dX5_tell_95 : decode cX5_tell 95 = .ok (.goto 4, 3) := by decide +kernel
theorem dX5_tell_98 : decode cX5_tell 98 = .ok (.lconst 0, 1) := by decide +kernel
theorem dX5_tell_99 : decode cX5_tell 99 = .ok (.lreturn, 1) := by decide +kernel
theorem dX5_tell_100 : decode cX5_tell 100 = .ok (.aload_n 0, 1) := by decide +kernel
theorem dX5_tell_101 : decode cX5_tell 101 = .ok (.iload_n 1, 1) := by decide +kernel
theorem dX5_tell_102 : decode cX5_tell 102 = .ok (.invokevirtual 108, 3) := by decide +kernel
theorem dX5_tell_105 : decode cX5_tell 105 = .ok (.i2l, 1) := by decide +kernel
theorem dX5_tell_106 : decode cX5_tell 106 = .ok (.lreturn, 1) := by decide +kernel
theorem dX5_tell_107 : decode cX5_tell 107 = .ok (.aload_n 0, 1) := by decide +kernel
theorem dX5_tell_108 : decode cX5_tell 108 = .ok (.getfield 11, 3) := by decide +kernel
theorem dX5_tell_111 : decode cX5_tell 111 = .ok (.iload_n 1, 1) := by decide +kernel
theorem dX5_tell_112 : decode cX5_tell 112 = .ok (.iaload, 1) := by decide +kernel
theorem dX5_tell_113 : decode cX5_tell 113 = .ok (.bipush 8, 2) := by decide +kernel
theorem dX5_tell_115 : decode cX5_tell 115 = .ok (.ishr, 1) := by decide +kernel
theorem dX5_tell_116 : decode cX5_tell 116 = .ok (.i2l, 1) := by decide +kernel
theorem dX5_tell_117 : decode cX5_tell 117 = .ok (.lreturn, 1) := by decide +kernel
theorem dX5_tellOctet_0 : decode cX5_tellOctet 0 = .ok (.iload_n 1, 1) := by decide +kernel
theorem dX5_tellOctet_1 : decode cX5_tellOctet 1 = .ok (.iconst 3, 1) := by decide +kernel
theorem dX5_tellOctet_2 : decode cX5_tellOctet 2 = .ok (.ishr, 1) := by decide +kernel
theorem dX5_tellOctet_3 : decode cX5_tellOctet 3 = .ok (.istore_n 2, 1) := by decide +kernel
theorem dX5_tellOctet_4 : decode cX5_tellOctet 4 = .ok (.aload_n 0, 1) := by decide +kernel
theorem dX5_tellOctet_5 : decode cX5_tellOctet 5 = .ok (.iload_n 2, 1) := by decide +kernel
theorem dX5_tellOctet_6 : decode cX5_tellOctet 6 = .ok (.invokevirtual 58, 3) := by decide +kernel
theorem dX5_tellOctet_9 : decode cX5_tellOctet 9 = .ok (.ifCond .eq 20, 3) := by decide +kernel
theorem dX5_tellOctet_12 : decode cX5_tellOctet 12 = .ok (.aload_n 0, 1) := by decide +kernel
theorem dX5_tellOctet_13 : decode cX5_tellOctet 13 = .ok (.bipush 11, 2) := by decide +kernel
theorem dX5_tellOctet_15 : decode cX5_tellOctet 15 = .ok (.iload_n 2, 1) := by decide +kernel
theorem dX5_tellOctet_16 : decode cX5_tellOctet 16 = .ok (.iadd, 1) := by decide +kernel
theorem dX5_tellOctet_17 : decode cX5_tellOctet 17 = .ok (.invokevirtual 92, 3) := by decide +kernel
theorem dX5_tellOctet_20 : decode cX5_tellOctet 20 = .ok (.ifCond .eq 7, 3) := by decide +kernel
theorem dX5_tellOctet_23 : decode cX5_tellOctet 23 = .ok (.iconst 2, 1) := by decide +kernel
theorem dX5_tellOctet_24 : decode cX5_tellOctet 24 = .ok (.goto 4, 3) := by decide +kernel
theorem dX5_tellOctet_27 : decode cX5_tellOctet 27 = .ok (.iconst 3, 1) := by decide +kernel
theorem dX5_tellOctet_28 : decode cX5_tellOctet 28 = .ok (.ireturn, 1) := by decide +kernel
theorem dX5_tellOctet_29 : decode cX5_tellOctet 29 = .ok (.aload_n 0, 1) := by decide +kernel
theorem dX5_tellOctet_30 : decode cX5_tellOctet 30 = .ok (.iload_n 1, 1) := by decide +kernel
theorem dX5_tellOctet_31 : decode cX5_tellOctet 31 = .ok (.invokevirtual 101, 3) := by decide +kernel
theorem dX5_tellOctet_34 : decode cX5_tellOctet 34 = .ok (.ifCond .eq 7, 3) := by decide +kernel
theorem dX5_tellOctet_37 : decode cX5_tellOctet 37 = .ok (.iconst 1, 1) := by decide +kernel
theorem dX5_tellOctet_38 : decode cX5_tellOctet 38 = .ok (.goto 4, 3) := by decide +kernel
theorem dX5_tellOctet_41 : decode cX5_tellOctet 41 = .ok (.iconst 0, 1) := by decide +kernel
theorem dX5_tellOctet_42 : decode cX5_tellOctet 42 = .ok (.ireturn, 1) := by decide +kernel
-- JudgedCode$Scene.<init>
def f_X5_init_33 (os0 : Nat) (os1 : Nat) (S : sh) (D : dt) : Option (Unit × sh × dt) := nm (pR D os0 4 (some os1)) fun D25 => some ((), S, D25)
def f_X5_init_25 (o0 : Nat) (os0 : Nat) (os1 : Nat) (S : sh) (D : dt) : Option (Unit × sh × dt) := nm (pR D os0 3 (some os1)) fun D26 => f_X5_init_33 o0 (sN S) (aS S 101 8 8) (aD S D26)
def f_X5_init_17 (o0 : Nat) (os0 : Nat) (os1 : Nat) (S : sh) (D : dt) : Option (Unit × sh × dt) := nm (pR D os0 2 (some os1)) fun D32 => f_X5_init_25 o0 o0 (sN S) (aS S 101 75 75) (aD S D32)
def f_X5_init_9 (o0 : Nat) (os0 : Nat) (os1 : Nat) (S : sh) (D : dt) : Option (Unit × sh × dt) := nm (pR D os0 1 (some os1)) fun D38 => f_X5_init_17 o0 o0 (sN S) (aS S 101 75 75) (aD S D38)
def f_X5_init (o0 : Nat) (S : sh) (D : dt) : Option (Unit × sh × dt) := f_X5_init_9 o0 o0 (sN S) (aS S 100 75 75) (aD S D)
-- JudgedCode$Scene.write
def f_X5_write (S : sh) (o0 : Nat) (x1 : Int32) (x2 : Int32) (x3 : Int64) (x5 : Int64) (D : dt) : Option (Unit × dt) := rq (gR D o0 1) fun o19 => ix x1 (sA S o19) <| nm (pI D o19 x1.toNatClampNeg x2) fun D24 => rq (gR D24 o0 2) fun o25 => ix x1 (sA S o25) <| nm (pL D24 o25 x1.toNatClampNeg x3) fun D30 => rq (gR D30 o0 3) fun o31 => ix x1 (sA S o31) <| nm (pL D30 o31 x1.toNatClampNeg x5) fun D36 => some ((), D36)
-- JudgedCode$Scene.begin
def f_X5_begin (S : sh) (o0 : Nat) (D : dt) : Option (Unit × dt) := rq (gR D o0 1) fun o31 => cq (f_J7_fill_53178 S o31 (0 : Int32) D) fun _ D36 => rq (gR D36 o0 2) fun o37 => cq (f_J7_fill_d0a16 S o37 (0 : Int64) D36) fun _ D42 => rq (gR D42 o0 3) fun o43 => cq (f_J7_fill_d0a16 S o43 (0 : Int64) D42) fun _ D48 => rq (gR D48 o0 4) fun o49 => cq (f_J7_fill_d0a16 S o49 (0 : Int64) D48) fun _ D54 => nm (pL D54 o0 5 (0 : Int64)) fun D55 => cq (f_X5_write S o0 (1 : Int32) (2 : Int32) (0 : Int64) (0 : Int64) D55) fun _ D57 => cq (f_X5_write S o0 (10 : Int32) (3 : Int32) (0 : Int64) (0 : Int64) D57) fun _ D59 => nm (pI D59 o0 0 (1 : Int32)) fun D60 => some ((), D60)
-- JudgedCode$Scene.copyFrom
def f_X5_copyFrom_16 (S : sh) (o0 : Nat) (o1 : Nat) (xs0 : Int32) (D : dt) : Option (Unit × dt) := rq (gR D o1 1) fun o44 => rq (gR D o0 1) fun o48 => ck (cpy_ok (0 : Int32) (0 : Int32) xs0 (sA S o44) (sA S o48)) <| nm (qI D o48 (va_cpy (fun i => gI D o44 i) (fun i => gI D o48 i) (0 : Int32).toNatClampNeg (0 : Int32).toNatClampNeg xs0.toNatClampNeg)) fun D53 => rq (gR D53 o1 2) fun o54 => rq (gR D53 o0 2) fun o58 => ck (cpy_ok (0 : Int32) (0 : Int32) xs0 (sA S o54) (sA S o58)) <| nm (qL D53 o58 (va_cpy (fun i => gL D53 o54 i) (fun i => gL D53 o58 i) (0 : Int32).toNatClampNeg (0 : Int32).toNatClampNeg xs0.toNatClampNeg)) fun D63 => rq (gR D63 o1 3) fun o64 => rq (gR D63 o0 3) fun o68 => ck (cpy_ok (0 : Int32) (0 : Int32) xs0 (sA S o64) (sA S o68)) <| nm (qL D63 o68 (va_cpy (fun i => gL D63 o64 i) (fun i => gL D63 o68 i) (0 : Int32).toNatClampNeg (0 : Int32).toNatClampNeg xs0.toNatClampNeg)) fun D73 => rq (gR D73 o1 4) fun o74 => rq (gR D73 o0 4) fun o78 => ck (cpy_ok (0 : Int32) (0 : Int32) (8 : Int32) (sA S o74) (sA S o78)) <| nm (qL D73 o78 (va_cpy (fun i => gL D73 o74 i) (fun i => gL D73 o78 i) (0 : Int32).toNatClampNeg (0 : Int32).toNatClampNeg (8 : Int32).toNatClampNeg)) fun D83 => nm (pL D83 o0 5 (gL D83 o1 5)) fun D84 => nm (pI D84 o0 0 (1 : Int32)) fun D85 => some ((), D85)
def f_X5_copyFrom (S : sh) (o0 : Nat) (o1 : Nat) (D : dt) : Option (Unit × dt) := if (lg_cmp (gL D o1 5) (0 : Int64)) = 0 then (f_X5_copyFrom_16 S o0 o1 (11 : Int32) D) else (f_X5_copyFrom_16 S o0 o1 (75 : Int32) D)
-- JudgedCode$Scene.tagOf
def f_X5_tagOf (x0 : Int32) (x1 : Int32) (x2 : Int32) : Option Int32 := some ((x0 ||| (x1 <<< ((4 : Int32) &&& 31))) ||| (x2 <<< ((8 : Int32) &&& 31)))
-- JudgedCode$Scene.isNone
def f_X5_isNone (S : sh) (D : dt) (o0 : Nat) (x1 : Int32) : Option Int32 := rq (gR D o0 1) fun o7 => ix x1 (sA S o7) <| if (gI D o7 x1.toNatClampNeg) = 0 then (some (1 : Int32)) else (some (0 : Int32))
-- JudgedCode$Scene.kind
def f_X5_kind (S : sh) (D : dt) (o0 : Nat) (x1 : Int32) : Option Int32 := rq (gR D o0 1) fun o6 => ix x1 (sA S o6) <| some ((gI D o6 x1.toNatClampNeg) &&& (15 : Int32))
-- JudgedCode$Scene.tableOf
def f_X5_tableOf (S : sh) (D : dt) (o0 : Nat) (x1 : Int32) : Option Int32 := rq (gR D o0 1) fun o6 => ix x1 (sA S o6) <| some (((gI D o6 x1.toNatClampNeg) >>> ((4 : Int32) &&& 31)) &&& (15 : Int32))
-- JudgedCode$Scene.holds
def f_X5_holds (S : sh) (D : dt) (o0 : Nat) (x1 : Int32) : Option Int32 := if (lg_cmp ((j_lushr (gL D o0 5) x1) &&& (1 : Int64)) (0 : Int64)) = 0 then (some (0 : Int32)) else (some (1 : Int32))
-- JudgedCode$Scene.isKnown
def f_X5_isKnown (S : sh) (D : dt) (o0 : Nat) (x1 : Int32) : Option Int32 := rq (gR D o0 4) fun o7 => ix (x1 >>> ((6 : Int32) &&& 31)) (sA S o7) <| if (lg_cmp ((j_lushr (gL D o7 (x1 >>> ((6 : Int32) &&& 31)).toNatClampNeg) (x1 &&& (63 : Int32))) &&& (1 : Int64)) (0 : Int64)) = 0 then (some (0 : Int32)) else (some (1 : Int32))
-- JudgedCode$Scene.areKnown
def f_X5_areKnown_2 (S : sh) (D : dt) : Nat → Nat → Int32 → Int32 → Int32 → Option Int32
  | 0, _, _, _, _ => none
  | n + 1, o0, x1, x2, x3 => if (x1 + x2) ≤ x3 then (some (1 : Int32)) else (pq (f_X5_isKnown S D o0 x3) fun r8 => if r8 = 0 then (some (0 : Int32)) else (nm (x3 + 1) fun y10 => f_X5_areKnown_2 S D n o0 x1 x2 y10))
def f_X5_areKnown (S : sh) (D : dt) (o0 : Nat) (x1 : Int32) (x2 : Int32) : Option Int32 := f_X5_areKnown_2 S D LF o0 x1 x2 x1
-- JudgedCode$Scene.move
def f_X5_move (S : sh) (o0 : Nat) (x1 : Int32) (x2 : Int32) (D : dt) : Option (Unit × dt) := rq (gR D o0 1) fun o18 => ix x2 (sA S o18) <| rq (gR D o0 2) fun o23 => ix x2 (sA S o23) <| rq (gR D o0 3) fun o28 => ix x2 (sA S o28) <| cq (f_X5_write S o0 x1 (gI D o18 x2.toNatClampNeg) (gL D o23 x2.toNatClampNeg) (gL D o28 x2.toNatClampNeg) D) fun _ D34 => some ((), D34)
-- JudgedCode$Scene.writeAny
def f_X5_writeAny_24 (S : sh) (os0 : Nat) (xs1 : Int32) (xs2 : Int32) (xs3 : Int64) (xs4 : Int64) (D : dt) : Option (Unit × dt) := cq (f_X5_write S os0 xs1 xs2 xs3 xs4 D) fun _ D5 => some ((), D5)
def f_X5_writeAny (S : sh) (o0 : Nat) (x1 : Int32) (x2 : Int32) (D : dt) : Option (Unit × dt) := if x2 = (8 : Int32) then (f_X5_writeAny_24 S o0 x1 (1 : Int32) (0 : Int64) (-1 : Int64) D) else (f_X5_writeAny_24 S o0 x1 (1 : Int32) (0 : Int64) ((j_lshl (1 : Int64) ((8 : Int32) * x2)) - (1 : Int64)) D)
-- JudgedCode$Scene.isNumber
def f_X5_isNumber (S : sh) (D : dt) (o0 : Nat) (x1 : Int32) : Option Int32 := rq (gR D o0 1) fun o7 => ix x1 (sA S o7) <| if (gI D o7 x1.toNatClampNeg) = (1 : Int32) then (some (1 : Int32)) else (some (0 : Int32))
-- JudgedCode$Scene.knowCell
def f_X5_knowCell_50 (S : sh) (os0 : Nat) (xs1 : Int32) (xs2 : Int64) (D : dt) : Option (Unit × dt) := ix xs1 (sA S os0) <| nm (pL D os0 xs1.toNatClampNeg xs2) fun D20 => some ((), D20)
def f_X5_knowCell (S : sh) (o0 : Nat) (x1 : Int32) (x2 : Int32) (D : dt) : Option (Unit × dt) := nm (j_lshl (255 : Int64) ((8 : Int32) * (x1 &&& (7 : Int32)))) fun y21 => rq (gR D o0 4) fun o22 => if x2 = 0 then (rq (gR D o0 4) fun o27 => ix (x1 >>> ((3 : Int32) &&& 31)) (sA S o27) <| f_X5_knowCell_50 S o22 (x1 >>> ((3 : Int32) &&& 31)) ((gL D o27 (x1 >>> ((3 : Int32) &&& 31)).toNatClampNeg) &&& (y21 ^^^ (-1 : Int64))) D) else (rq (gR D o0 4) fun o32 => ix (x1 >>> ((3 : Int32) &&& 31)) (sA S o32) <| f_X5_knowCell_50 S o22 (x1 >>> ((3 : Int32) &&& 31)) ((gL D o32 (x1 >>> ((3 : Int32) &&& 31)).toNatClampNeg) ||| y21) D)
-- JudgedCode$Scene.hold
def f_X5_hold (S : sh) (o0 : Nat) (x1 : Int32) (x2 : Int32) (D : dt) : Option (Unit × dt) := nm (pL D o0 5 ((gL D o0 5) ||| (j_lshl (1 : Int64) x1))) fun D8 => cq (f_X5_move S o0 ((11 : Int32) + x1) x2 D8) fun _ D10 => pq (f_X5_isNumber S D10 o0 x2) fun r12 => cq (f_X5_knowCell S o0 x1 r12 D10) fun _ D14 => some ((), D14)
-- JudgedCode$Scene.holdNothing
def f_X5_holdNothing (S : sh) (o0 : Nat) (x1 : Int32) (D : dt) : Option (Unit × dt) := nm (pL D o0 5 ((gL D o0 5) &&& ((j_lshl (1 : Int64) x1) ^^^ (-1 : Int64)))) fun D2 => some ((), D2)
-- JudgedCode$Scene.putOctets
def f_X5_putOctets_2 (S : sh) : Nat → Nat → Int32 → Int32 → Int32 → dt → Option (Unit × dt)
  | 0, _, _, _, _, _ => none
  | n + 1, o0, x1, x2, x3, D => if (x1 + x2) ≤ x3 then (some ((), D)) else (rq (gR D o0 4) fun o13 => ix (x3 >>> ((6 : Int32) &&& 31)) (sA S o13) <| ix (x3 >>> ((6 : Int32) &&& 31)) (sA S o13) <| nm (pL D o13 (x3 >>> ((6 : Int32) &&& 31)).toNatClampNeg ((gL D o13 (x3 >>> ((6 : Int32) &&& 31)).toNatClampNeg) ||| (j_lshl (1 : Int64) (x3 &&& (63 : Int32))))) fun D19 => cq (f_X5_holdNothing S o0 (x3 >>> ((3 : Int32) &&& 31)) D19) fun _ D21 => nm (x3 + 1) fun y22 => f_X5_putOctets_2 S n o0 x1 x2 y22 D21)
def f_X5_putOctets (S : sh) (o0 : Nat) (x1 : Int32) (x2 : Int32) (D : dt) : Option (Unit × dt) := f_X5_putOctets_2 S LF o0 x1 x2 x1 D
-- JudgedCode$Scene.settle
def f_X5_settle_117 (S : sh) (k59 : Nat → Int32 → Int32 → Int32 → Int32 → dt → Option (Unit × dt)) (o0 : Nat) (x1 : Int32) (x2 : Int32) (x3 : Int32) (x4 : Int32) (D : dt) : Option (Unit × dt) := nm (x4 + 1) fun y32 => k59 o0 x1 x2 x3 y32 D
def f_X5_settle_59 (S : sh) : Nat → Nat → Int32 → Int32 → Int32 → Int32 → dt → Option (Unit × dt)
  | 0, _, _, _, _, _, _ => none
  | n + 1, o0, x1, x2, x3, x4, D => if (64 : Int32) ≤ x4 then (some ((), D)) else (if (lg_cmp (gL D o0 5) (0 : Int64)) = 0 then (some ((), D)) else (pq (f_X5_holds S D o0 x4) fun r36 => if r36 = 0 then (f_X5_settle_117 S (f_X5_settle_59 S n) o0 x1 x2 x3 x4 D) else (rq (gR D o0 1) fun o38 => ix ((11 : Int32) + x4) (sA S o38) <| if (gI D o38 ((11 : Int32) + x4).toNatClampNeg) = x1 then (cq (f_X5_write S o0 ((11 : Int32) + x4) x3 (0 : Int64) (0 : Int64) D) fun _ D45 => cq (f_X5_knowCell S o0 x4 x2 D45) fun _ D47 => f_X5_settle_117 S (f_X5_settle_59 S n) o0 x1 x2 x3 x4 D47) else (f_X5_settle_117 S (f_X5_settle_59 S n) o0 x1 x2 x3 x4 D))))
def f_X5_settle_50 (S : sh) (k23 : Nat → Int32 → Int32 → Int32 → Int32 → dt → Option (Unit × dt)) (o0 : Nat) (x1 : Int32) (x2 : Int32) (x3 : Int32) (x4 : Int32) (D : dt) : Option (Unit × dt) := nm (x4 + 1) fun y48 => k23 o0 x1 x2 x3 y48 D
def f_X5_settle_23 (S : sh) : Nat → Nat → Int32 → Int32 → Int32 → Int32 → dt → Option (Unit × dt)
  | 0, _, _, _, _, _, _ => none
  | n + 1, o0, x1, x2, x3, x4, D => if (11 : Int32) ≤ x4 then (nm ((0 : Int32)) fun y50 => f_X5_settle_59 S LF o0 x1 x2 x3 y50 D) else (rq (gR D o0 1) fun o51 => ix x4 (sA S o51) <| if (gI D o51 x4.toNatClampNeg) = x1 then (cq (f_X5_write S o0 x4 x3 (0 : Int64) (0 : Int64) D) fun _ D58 => f_X5_settle_50 S (f_X5_settle_23 S n) o0 x1 x2 x3 x4 D58) else (f_X5_settle_50 S (f_X5_settle_23 S n) o0 x1 x2 x3 x4 D))
def f_X5_settle_19 (S : sh) (o0 : Nat) (x1 : Int32) (x2 : Int32) (xs0 : Int32) (D : dt) : Option (Unit × dt) := nm ((0 : Int32)) fun y59 => f_X5_settle_23 S LF o0 x1 x2 xs0 y59 D
def f_X5_settle (S : sh) (o0 : Nat) (x1 : Int32) (x2 : Int32) (D : dt) : Option (Unit × dt) := if x2 = 0 then (pq (f_X5_tagOf (5 : Int32) ((x1 >>> ((4 : Int32) &&& 31)) &&& (15 : Int32)) (0 : Int32)) fun r62 => f_X5_settle_19 S o0 x1 x2 r62 D) else (f_X5_settle_19 S o0 x1 x2 (1 : Int32) D)
-- JudgedCode$Scene.isOne
def f_X5_isOne (S : sh) (D : dt) (o0 : Nat) (x1 : Int32) : Option Int32 := rq (gR D o0 2) fun o12 => ix x1 (sA S o12) <| rq (gR D o0 3) fun o17 => ix x1 (sA S o17) <| if (lg_cmp (gL D o12 x1.toNatClampNeg) (gL D o17 x1.toNatClampNeg)) = 0 then (some (1 : Int32)) else (some (0 : Int32))
-- JudgedCode$Scene.joinPlace
def f_X5_joinPlace_129 (S : sh) (o0 : Nat) (x1 : Int32) (x3 : Int64) (x5 : Int64) (D : dt) : Option (Unit × dt) := rq (gR D o0 2) fun o99 => rq (gR D o0 2) fun o103 => ix x1 (sA S o103) <| ix x1 (sA S o99) <| nm (pL D o99 x1.toNatClampNeg (if x3 < (gL D o103 x1.toNatClampNeg) then x3 else (gL D o103 x1.toNatClampNeg))) fun D109 => rq (gR D109 o0 3) fun o110 => rq (gR D109 o0 3) fun o114 => ix x1 (sA S o114) <| ix x1 (sA S o110) <| nm (pL D109 o110 x1.toNatClampNeg (if x5 < (gL D109 o114 x1.toNatClampNeg) then (gL D109 o114 x1.toNatClampNeg) else x5)) fun D120 => some ((), D120)
def f_X5_joinPlace_113 (S : sh) (os0 : Nat) (xs1 : Int32) (xs2 : Int64) (D : dt) : Option (Unit × dt) := ix xs1 (sA S os0) <| nm (pL D os0 xs1.toNatClampNeg xs2) fun D122 => some ((), D122)
def f_X5_joinPlace_82 (S : sh) (o0 : Nat) (x1 : Int32) (x5 : Int64) (os0 : Nat) (xs1 : Int32) (xs2 : Int64) (D : dt) : Option (Unit × dt) := ix xs1 (sA S os0) <| nm (pL D os0 xs1.toNatClampNeg xs2) fun D124 => rq (gR D124 o0 3) fun o125 => rq (gR D124 o0 3) fun o129 => ix x1 (sA S o129) <| pq (f_X3_below (gL D124 o129 x1.toNatClampNeg) x5) fun r135 => if r135 = 0 then (rq (gR D124 o0 3) fun o137 => ix x1 (sA S o137) <| f_X5_joinPlace_113 S o125 x1 (gL D124 o137 x1.toNatClampNeg) D124) else (f_X5_joinPlace_113 S o125 x1 x5 D124)
def f_X5_joinPlace (S : sh) (o0 : Nat) (x1 : Int32) (o2 : Nat) (D : dt) : Option (Unit × dt) := rq (gR D o2 2) fun o142 => ix x1 (sA S o142) <| nm (gL D o142 x1.toNatClampNeg) fun y147 => rq (gR D o2 3) fun o148 => ix x1 (sA S o148) <| nm (gL D o148 x1.toNatClampNeg) fun y153 => pq (f_X5_kind S D o0 x1) fun r155 => rq (gR D o0 1) fun o156 => ix x1 (sA S o156) <| rq (gR D o2 1) fun o161 => ix x1 (sA S o161) <| if (gI D o156 x1.toNatClampNeg) = (gI D o161 x1.toNatClampNeg) then (if r155 = (1 : Int32) then (rq (gR D o0 2) fun o178 => rq (gR D o0 2) fun o182 => ix x1 (sA S o182) <| pq (f_X3_below y147 (gL D o182 x1.toNatClampNeg)) fun r188 => if r188 = 0 then (rq (gR D o0 2) fun o190 => ix x1 (sA S o190) <| f_X5_joinPlace_82 S o0 x1 y153 o178 x1 (gL D o190 x1.toNatClampNeg) D) else (f_X5_joinPlace_82 S o0 x1 y153 o178 x1 y147 D)) else (if r155 = (2 : Int32) then (f_X5_joinPlace_129 S o0 x1 y147 y153 D) else (if r155 = (5 : Int32) then (f_X5_joinPlace_129 S o0 x1 y147 y153 D) else (rq (gR D o0 2) fun o170 => ix x1 (sA S o170) <| if (lg_cmp (gL D o170 x1.toNatClampNeg) y147) = 0 then (some ((), D)) else (cq (f_X5_write S o0 x1 (0 : Int32) (0 : Int64) (0 : Int64) D) fun _ D177 => some ((), D177)))))) else (cq (f_X5_write S o0 x1 (0 : Int32) (0 : Int64) (0 : Int64) D) fun _ D196 => some ((), D196))
-- JudgedCode$Scene.joinWith
def f_X5_joinWith_112 (S : sh) (k64 : Nat → Nat → Int32 → dt → Option (Unit × dt)) (o0 : Nat) (o1 : Nat) (x2 : Int32) (D : dt) : Option (Unit × dt) := nm (x2 + 1) fun y36 => k64 o0 o1 y36 D
def f_X5_joinWith_64 (S : sh) : Nat → Nat → Nat → Int32 → dt → Option (Unit × dt)
  | 0, _, _, _, _ => none
  | n + 1, o0, o1, x2, D => if (64 : Int32) ≤ x2 then (some ((), D)) else (if (lg_cmp (gL D o0 5) (0 : Int64)) = 0 then (some ((), D)) else (pq (f_X5_holds S D o0 x2) fun r40 => if r40 = 0 then (f_X5_joinWith_112 S (f_X5_joinWith_64 S n) o0 o1 x2 D) else (cq (f_X5_joinPlace S o0 ((11 : Int32) + x2) o1 D) fun _ D43 => pq (f_X5_isNone S D43 o0 ((11 : Int32) + x2)) fun r45 => if r45 = 0 then (f_X5_joinWith_112 S (f_X5_joinWith_64 S n) o0 o1 x2 D43) else (cq (f_X5_holdNothing S o0 x2 D43) fun _ D48 => f_X5_joinWith_112 S (f_X5_joinWith_64 S n) o0 o1 x2 D48))))
def f_X5_joinWith_22 (S : sh) : Nat → Nat → Nat → Int32 → dt → Option (Unit × dt)
  | 0, _, _, _, _ => none
  | n + 1, o0, o1, x2, D => if (8 : Int32) ≤ x2 then (nm (pL D o0 5 ((gL D o0 5) &&& (gL D o1 5))) fun D50 => nm ((0 : Int32)) fun y51 => f_X5_joinWith_64 S LF o0 o1 y51 D50) else (rq (gR D o0 4) fun o52 => ix x2 (sA S o52) <| rq (gR D o1 4) fun o57 => ix x2 (sA S o57) <| ix x2 (sA S o52) <| nm (pL D o52 x2.toNatClampNeg ((gL D o52 x2.toNatClampNeg) &&& (gL D o57 x2.toNatClampNeg))) fun D63 => nm (x2 + 1) fun y64 => f_X5_joinWith_22 S n o0 o1 y64 D63)
def f_X5_joinWith_2 (S : sh) : Nat → Nat → Nat → Int32 → dt → Option (Unit × dt)
  | 0, _, _, _, _ => none
  | n + 1, o0, o1, x2, D => if (11 : Int32) ≤ x2 then (nm ((0 : Int32)) fun y66 => f_X5_joinWith_22 S LF o0 o1 y66 D) else (cq (f_X5_joinPlace S o0 x2 o1 D) fun _ D68 => nm (x2 + 1) fun y69 => f_X5_joinWith_2 S n o0 o1 y69 D68)
def f_X5_joinWith (S : sh) (o0 : Nat) (o1 : Nat) (D : dt) : Option (Unit × dt) := nm ((0 : Int32)) fun y70 => f_X5_joinWith_2 S LF o0 o1 y70 D
-- JudgedCode$Scene.tell
def f_X5_tell_73 (S : sh) (D : dt) (o0 : Nat) (x1 : Int32) : Option Int64 := rq (gR D o0 2) fun o30 => ix x1 (sA S o30) <| some (gL D o30 x1.toNatClampNeg)
def f_X5_tell_26 (S : sh) (D : dt) (o0 : Nat) (x1 : Int32) (x2 : Int32) (x3 : Int32) (xs0 : Int32) : Option Int64 := if x2 = 0 then (some x3.toInt64) else if x2 = 1 then (if xs0 = 0 then (if x3 = (3 : Int32) then (f_X5_tell_73 S D o0 x1) else (some (0 : Int64))) else (f_X5_tell_73 S D o0 x1)) else if x2 = 2 then (if xs0 = 0 then (some (0 : Int64)) else (rq (gR D o0 3) fun o41 => ix x1 (sA S o41) <| some (gL D o41 x1.toNatClampNeg))) else if x2 = 3 then (pq (f_X5_tableOf S D o0 x1) fun r48 => some r48.toInt64) else (rq (gR D o0 1) fun o49 => ix x1 (sA S o49) <| some (((gI D o49 x1.toNatClampNeg) >>> ((8 : Int32) &&& 31)).toInt64))
def f_X5_tell_21 (S : sh) (D : dt) (o0 : Nat) (x1 : Int32) (x2 : Int32) (x3 : Int32) : Option Int64 := f_X5_tell_26 S D o0 x1 x2 x3 (1 : Int32)
def f_X5_tell (S : sh) (D : dt) (o0 : Nat) (x1 : Int32) (x2 : Int32) : Option Int64 := pq (f_X5_kind S D o0 x1) fun r55 => if r55 = (1 : Int32) then (f_X5_tell_21 S D o0 x1 x2 r55) else (if r55 = (2 : Int32) then (f_X5_tell_21 S D o0 x1 x2 r55) else (if r55 = (5 : Int32) then (f_X5_tell_21 S D o0 x1 x2 r55) else (f_X5_tell_26 S D o0 x1 x2 r55 (0 : Int32))))
-- JudgedCode$Scene.tellOctet
def f_X5_tellOctet (S : sh) (D : dt) (o0 : Nat) (x1 : Int32) : Option Int32 := nm (x1 >>> ((3 : Int32) &&& 31)) fun y11 => pq (f_X5_holds S D o0 y11) fun r13 => if r13 = 0 then (pq (f_X5_isKnown S D o0 x1) fun r16 => if r16 = 0 then (some (0 : Int32)) else (some (1 : Int32))) else (pq (f_X5_isNumber S D o0 ((11 : Int32) + y11)) fun r19 => if r19 = 0 then (some (3 : Int32)) else (some (2 : Int32)))
theorem mk_X5_init : MkI yX5_init cX5_init 1 0 := ⟨⟨lk_260, lk_119, (tb_in (i := 261) (by decide +kernel) (by decide +kernel))⟩, rfl, by decide +kernel⟩
theorem mk_X5_write : MkV yX5_write RX5 cX5_write 7 none 4 := ⟨⟨lk_480, lk_481, lk_119, (tb_in (i := 482) (by decide +kernel) (by decide +kernel))⟩, by decide +kernel⟩
theorem mk_X5_begin : MkV yX5_begin RX5 cX5_begin 1 none 0 := ⟨⟨lk_470, lk_471, lk_119, (tb_in (i := 472) (by decide +kernel) (by decide +kernel))⟩, by decide +kernel⟩
theorem mk_X5_copyFrom : MkV yX5_copyFrom RX5 cX5_copyFrom 3 none 1 := ⟨⟨lk_484, lk_485, lk_119, (tb_in (i := 486) (by decide +kernel) (by decide +kernel))⟩, by decide +kernel⟩
theorem mk_X5_tagOf : MkS yX5_tagOf cX5_tagOf 3 (some .int) 3 := ⟨⟨lk_570, lk_119, (tb_in (i := 571) (by decide +kernel) (by decide +kernel))⟩, by decide +kernel⟩
theorem mk_X5_isNone : MkV yX5_isNone RX5 cX5_isNone 2 (some .boolean) 1 := ⟨⟨lk_580, lk_581, lk_119, (tb_in (i := 582) (by decide +kernel) (by decide +kernel))⟩, by decide +kernel⟩
theorem mk_X5_kind : MkV yX5_kind RX5 cX5_kind 2 (some .int) 1 := ⟨⟨lk_588, lk_589, lk_119, (tb_in (i := 590) (by decide +kernel) (by decide +kernel))⟩, by decide +kernel⟩
theorem mk_X5_tableOf : MkV yX5_tableOf RX5 cX5_tableOf 2 (some .int) 1 := ⟨⟨lk_601, lk_602, lk_119, (tb_in (i := 603) (by decide +kernel) (by decide +kernel))⟩, by decide +kernel⟩
theorem mk_X5_holds : MkV yX5_holds RX5 cX5_holds 2 (some .boolean) 1 := ⟨⟨lk_613, lk_614, lk_119, (tb_in (i := 615) (by decide +kernel) (by decide +kernel))⟩, by decide +kernel⟩
theorem mk_X5_isKnown : MkV yX5_isKnown RX5 cX5_isKnown 2 (some .boolean) 1 := ⟨⟨lk_622, lk_17, lk_119, (tb_in (i := 623) (by decide +kernel) (by decide +kernel))⟩, by decide +kernel⟩
theorem mk_X5_areKnown : MkV yX5_areKnown RX5 cX5_areKnown 4 (some .boolean) 2 := ⟨⟨lk_617, lk_618, lk_119, (tb_in (i := 619) (by decide +kernel) (by decide +kernel))⟩, by decide +kernel⟩
theorem mk_X5_move : MkV yX5_move RX5 cX5_move 3 none 2 := ⟨⟨lk_625, lk_626, lk_119, (tb_in (i := 627) (by decide +kernel) (by decide +kernel))⟩, by decide +kernel⟩
theorem mk_X5_writeAny : MkV yX5_writeAny RX5 cX5_writeAny 3 none 2 := ⟨⟨lk_630, lk_631, lk_119, (tb_in (i := 632) (by decide +kernel) (by decide +kernel))⟩, by decide +kernel⟩
theorem mk_X5_isNumber : MkV yX5_isNumber RX5 cX5_isNumber 2 (some .boolean) 1 := ⟨⟨lk_640, lk_641, lk_119, (tb_in (i := 642) (by decide +kernel) (by decide +kernel))⟩, by decide +kernel⟩
theorem mk_X5_knowCell : MkV yX5_knowCell RX5 cX5_knowCell 5 none 2 := ⟨⟨lk_651, lk_19, lk_119, (tb_in (i := 652) (by decide +kernel) (by decide +kernel))⟩, by decide +kernel⟩
theorem mk_X5_hold : MkV yX5_hold RX5 cX5_hold 3 none 2 := ⟨⟨lk_644, lk_645, lk_119, (tb_in (i := 646) (by decide +kernel) (by decide +kernel))⟩, by decide +kernel⟩
theorem mk_X5_holdNothing : MkV yX5_holdNothing RX5 cX5_holdNothing 2 none 1 := ⟨⟨lk_660, lk_20, lk_119, (tb_in (i := 661) (by decide +kernel) (by decide +kernel))⟩, by decide +kernel⟩
theorem mk_X5_putOctets : MkV yX5_putOctets RX5 cX5_putOctets 4 none 2 := ⟨⟨lk_655, lk_656, lk_119, (tb_in (i := 657) (by decide +kernel) (by decide +kernel))⟩, by decide +kernel⟩
theorem mk_X5_settle : MkV yX5_settle RX5 cX5_settle 5 none 2 := ⟨⟨lk_801, lk_802, lk_119, (tb_in (i := 803) (by decide +kernel) (by decide +kernel))⟩, by decide +kernel⟩
theorem mk_X5_isOne : MkV yX5_isOne RX5 cX5_isOne 2 (some .boolean) 1 := ⟨⟨lk_810, lk_811, lk_119, (tb_in (i := 812) (by decide +kernel) (by decide +kernel))⟩, by decide +kernel⟩
theorem mk_X5_joinPlace : MkV yX5_joinPlace RX5 cX5_joinPlace 8 none 2 := ⟨⟨lk_849, lk_43, lk_119, (tb_in (i := 850) (by decide +kernel) (by decide +kernel))⟩, by decide +kernel⟩
theorem mk_X5_joinWith : MkV yX5_joinWith RX5 cX5_joinWith 3 none 1 := ⟨⟨lk_844, lk_845, lk_119, (tb_in (i := 846) (by decide +kernel) (by decide +kernel))⟩, by decide +kernel⟩
theorem mk_X5_tell : MkV yX5_tell RX5 cX5_tell 5 (some .long) 2 := ⟨⟨lk_871, lk_872, lk_119, (tb_in (i := 873) (by decide +kernel) (by decide +kernel))⟩, by decide +kernel⟩
theorem mk_X5_tellOctet : MkV yX5_tellOctet RX5 cX5_tellOctet 3 (some .int) 1 := ⟨⟨lk_880, lk_881, lk_119, (tb_in (i := 882) (by decide +kernel) (by decide +kernel))⟩, by decide +kernel⟩
section
variable {p : Program} {l : Launch} {e : Env} {R : Room} {s : State} {m : MethodId} {args : Array Value} {below : List Frame} {meth : Method} {c : Code} {H : Heap} {locs : List Loc} {G : va_G} {cA : Nat → ClassId} {S : sh} {D : dt} {ad : Nat → Nat} {A : Nat → Prop}
theorem mn_X5_init_33 {r : Unit} {S' : sh} {D' : dt} {os0 : Nat} {os1 : Nat} {S : sh} {D : dt} (h : f_X5_init_33 os0 os1 S D = some (r, S', D')) : Ext S S' := by
  unfold f_X5_init_33 at h
  have h := nm_i h _ rfl
  cases h
  exact Ext.rf _
set_option maxHeartbeats 4000000 in
set_option maxRecDepth 100000 in
theorem w_X5_init_33 {r : Unit} {S' : sh} {D' : dt} {S0 : sh} {ad0 : Nat → Nat} (hC : Cx RX5 cX5_init 1 none p s m args meth c) (hin : meth.name = "<init>") (hR : 1 ≤ R.frames ∧ 20 ≤ R.locals) (ho : R.cells = sN S' - sN S0 ∧ R.slots = sZ S' - sZ S0) : ∀ (os0 as0 : Nat) (os1 as1 : Nat) (S : sh) (D : dt) (ad : Nat → Nat) (H : Heap) (locs : List Loc) (ls : Array Slot) (cells slots : Nat), Is S ad os0 as0 4 → Is S ad os1 as1 101 → Wd G cA S D ad A s H locs → Al S0 ad0 S ad cells slots → lv_has ls 1 [] → f_X5_init_33 os0 os1 S D = some (r, S', D') → W p l e R s m args below meth c H locs cells slots (MQ below (Qa (fun _ => none) (fun ad' => (∀ k, k < sN S0 → ad' k = ad0 k) ∧ True) (fun ad' => wpost G cA S' D' ad' A) A) args s (sN S' - sN S0) (sZ S' - sZ S0) A) (F0 m 33 ls [.ref as1, .ref as0]) := by
  obtain ⟨hx, hb, -⟩ := id hC
  intro os0 as0 os1 as1 S D ad H locs ls cells slots his0 his1 hw hc hl h
  have hE : Ext S S' := mn_X5_init_33  h
  unfold f_X5_init_33 at h
  refine r_pRF hC hin hw kc_4 his0 4 rfl lk_271 rfl rfl rfl rfl rfl his1 dX5_init_33 (fun D25 eD25 H locs hw => ?_)
  have h := nm_i h D25 eD25
  cases h
  exact r_vretA hC hw hc dX5_init_36
theorem mn_X5_init_25 {r : Unit} {S' : sh} {D' : dt} {o0 : Nat} {os0 : Nat} {os1 : Nat} {S : sh} {D : dt} (h : f_X5_init_25 o0 os0 os1 S D = some (r, S', D')) : Ext S S' := by
  unfold f_X5_init_25 at h
  have h := nm_i h _ rfl
  have hA := (Ext.aS S 101 8 8)
  exact hA.tr (mn_X5_init_33 h)
set_option maxHeartbeats 4000000 in
set_option maxRecDepth 100000 in
theorem w_X5_init_25 {r : Unit} {S' : sh} {D' : dt} {S0 : sh} {ad0 : Nat → Nat} (hC : Cx RX5 cX5_init 1 none p s m args meth c) (hin : meth.name = "<init>") (hR : 1 ≤ R.frames ∧ 20 ≤ R.locals) (ho : R.cells = sN S' - sN S0 ∧ R.slots = sZ S' - sZ S0) : ∀ (o0 a0 : Nat) (os0 as0 : Nat) (os1 as1 : Nat) (S : sh) (D : dt) (ad : Nat → Nat) (H : Heap) (locs : List Loc) (ls : Array Slot) (cells slots : Nat), Is S ad o0 a0 4 → Is S ad os0 as0 4 → Is S ad os1 as1 101 → Wd G cA S D ad A s H locs → Al S0 ad0 S ad cells slots → lv_has ls 1 [(0, .ref a0)] → f_X5_init_25 o0 os0 os1 S D = some (r, S', D') → W p l e R s m args below meth c H locs cells slots (MQ below (Qa (fun _ => none) (fun ad' => (∀ k, k < sN S0 → ad' k = ad0 k) ∧ True) (fun ad' => wpost G cA S' D' ad' A) A) args s (sN S' - sN S0) (sZ S' - sZ S0) A) (F0 m 25 ls [.ref as1, .ref as0]) := by
  obtain ⟨hx, hb, -⟩ := id hC
  intro o0 a0 os0 as0 os1 as1 S D ad H locs ls cells slots hi0 his0 his1 hw hc hl h
  have hE : Ext S S' := mn_X5_init_25  h
  unfold f_X5_init_25 at h
  refine r_pRF hC hin hw kc_4 his0 3 rfl lk_269 rfl rfl rfl rfl rfl his1 dX5_init_25 (fun D26 eD26 H locs hw => ?_)
  have h := nm_i h D26 eD26
  refine lv_aload_n hx hb dX5_init_28 rfl (lv_at hl 0 rfl) ?_
  refine lv_bipush (v := 8) hx hb dX5_init_29 (by decide) ?_
  have hE29 := mn_X5_init_33 h
  refine r_newL hC hw lk_249 (by decide) (by decide) (by decide) (hc.room ho hE29).1 (hc.room ho hE29).2 dX5_init_31 (fun q27 H hw hi28 => ?_)
  have hi30 := Is.up hi0 (Ext.aS S 101 8 8) (up_lt (q := q27))
  have hc := hc.new 101 8 8 q27
  exact w_X5_init_33 hC hin hR ho o0 a0 (sN S) q27 _ _ _ _ _ _ _ _ hi30 hi28 hw hc (lv_sub hl [] rfl) h --j31
theorem mn_X5_init_17 {r : Unit} {S' : sh} {D' : dt} {o0 : Nat} {os0 : Nat} {os1 : Nat} {S : sh} {D : dt} (h : f_X5_init_17 o0 os0 os1 S D = some (r, S', D')) : Ext S S' := by
  unfold f_X5_init_17 at h
  have h := nm_i h _ rfl
  have hA := (Ext.aS S 101 75 75)
  exact hA.tr (mn_X5_init_25 h)
set_option maxHeartbeats 4000000 in
set_option maxRecDepth 100000 in
theorem w_X5_init_17 {r : Unit} {S' : sh} {D' : dt} {S0 : sh} {ad0 : Nat → Nat} (hC : Cx RX5 cX5_init 1 none p s m args meth c) (hin : meth.name = "<init>") (hR : 1 ≤ R.frames ∧ 20 ≤ R.locals) (ho : R.cells = sN S' - sN S0 ∧ R.slots = sZ S' - sZ S0) : ∀ (o0 a0 : Nat) (os0 as0 : Nat) (os1 as1 : Nat) (S : sh) (D : dt) (ad : Nat → Nat) (H : Heap) (locs : List Loc) (ls : Array Slot) (cells slots : Nat), Is S ad o0 a0 4 → Is S ad os0 as0 4 → Is S ad os1 as1 101 → Wd G cA S D ad A s H locs → Al S0 ad0 S ad cells slots → lv_has ls 1 [(0, .ref a0)] → f_X5_init_17 o0 os0 os1 S D = some (r, S', D') → W p l e R s m args below meth c H locs cells slots (MQ below (Qa (fun _ => none) (fun ad' => (∀ k, k < sN S0 → ad' k = ad0 k) ∧ True) (fun ad' => wpost G cA S' D' ad' A) A) args s (sN S' - sN S0) (sZ S' - sZ S0) A) (F0 m 17 ls [.ref as1, .ref as0]) := by
  obtain ⟨hx, hb, -⟩ := id hC
  intro o0 a0 os0 as0 os1 as1 S D ad H locs ls cells slots hi0 his0 his1 hw hc hl h
  have hE : Ext S S' := mn_X5_init_17  h
  unfold f_X5_init_17 at h
  refine r_pRF hC hin hw kc_4 his0 2 rfl lk_267 rfl rfl rfl rfl rfl his1 dX5_init_17 (fun D32 eD32 H locs hw => ?_)
  have h := nm_i h D32 eD32
  refine lv_aload_n hx hb dX5_init_20 rfl (lv_at hl 0 rfl) ?_
  refine lv_bipush (v := 75) hx hb dX5_init_21 (by decide) ?_
  have hE35 := mn_X5_init_25 h
  refine r_newL hC hw lk_249 (by decide) (by decide) (by decide) (hc.room ho hE35).1 (hc.room ho hE35).2 dX5_init_23 (fun q33 H hw hi34 => ?_)
  have hi36 := Is.up hi0 (Ext.aS S 101 75 75) (up_lt (q := q33))
  have hc := hc.new 101 75 75 q33
  exact w_X5_init_25 hC hin hR ho o0 a0 o0 a0 (sN S) q33 _ _ _ _ _ _ _ _ hi36 hi36 hi34 hw hc (lv_sub hl [0] rfl) h --j37
theorem mn_X5_init_9 {r : Unit} {S' : sh} {D' : dt} {o0 : Nat} {os0 : Nat} {os1 : Nat} {S : sh} {D : dt} (h : f_X5_init_9 o0 os0 os1 S D = some (r, S', D')) : Ext S S' := by
  unfold f_X5_init_9 at h
  have h := nm_i h _ rfl
  have hA := (Ext.aS S 101 75 75)
  exact hA.tr (mn_X5_init_17 h)
set_option maxHeartbeats 4000000 in
set_option maxRecDepth 100000 in
theorem w_X5_init_9 {r : Unit} {S' : sh} {D' : dt} {S0 : sh} {ad0 : Nat → Nat} (hC : Cx RX5 cX5_init 1 none p s m args meth c) (hin : meth.name = "<init>") (hR : 1 ≤ R.frames ∧ 20 ≤ R.locals) (ho : R.cells = sN S' - sN S0 ∧ R.slots = sZ S' - sZ S0) : ∀ (o0 a0 : Nat) (os0 as0 : Nat) (os1 as1 : Nat) (S : sh) (D : dt) (ad : Nat → Nat) (H : Heap) (locs : List Loc) (ls : Array Slot) (cells slots : Nat), Is S ad o0 a0 4 → Is S ad os0 as0 4 → Is S ad os1 as1 100 → Wd G cA S D ad A s H locs → Al S0 ad0 S ad cells slots → lv_has ls 1 [(0, .ref a0)] → f_X5_init_9 o0 os0 os1 S D = some (r, S', D') → W p l e R s m args below meth c H locs cells slots (MQ below (Qa (fun _ => none) (fun ad' => (∀ k, k < sN S0 → ad' k = ad0 k) ∧ True) (fun ad' => wpost G cA S' D' ad' A) A) args s (sN S' - sN S0) (sZ S' - sZ S0) A) (F0 m 9 ls [.ref as1, .ref as0]) := by
  obtain ⟨hx, hb, -⟩ := id hC
  intro o0 a0 os0 as0 os1 as1 S D ad H locs ls cells slots hi0 his0 his1 hw hc hl h
  have hE : Ext S S' := mn_X5_init_9  h
  unfold f_X5_init_9 at h
  refine r_pRF hC hin hw kc_4 his0 1 rfl lk_265 rfl rfl rfl rfl rfl his1 dX5_init_9 (fun D38 eD38 H locs hw => ?_)
  have h := nm_i h D38 eD38
  refine lv_aload_n hx hb dX5_init_12 rfl (lv_at hl 0 rfl) ?_
  refine lv_bipush (v := 75) hx hb dX5_init_13 (by decide) ?_
  have hE41 := mn_X5_init_17 h
  refine r_newL hC hw lk_249 (by decide) (by decide) (by decide) (hc.room ho hE41).1 (hc.room ho hE41).2 dX5_init_15 (fun q39 H hw hi40 => ?_)
  have hi42 := Is.up hi0 (Ext.aS S 101 75 75) (up_lt (q := q39))
  have hc := hc.new 101 75 75 q39
  exact w_X5_init_17 hC hin hR ho o0 a0 o0 a0 (sN S) q39 _ _ _ _ _ _ _ _ hi42 hi42 hi40 hw hc (lv_sub hl [0] rfl) h --j43
theorem mn_X5_init_0 {r : Unit} {S' : sh} {D' : dt} {o0 : Nat} {S : sh} {D : dt} (h : f_X5_init o0 S D = some (r, S', D')) : Ext S S' := by
  unfold f_X5_init at h
  have hA := (Ext.aS S 100 75 75)
  exact hA.tr (mn_X5_init_9 h)
set_option maxHeartbeats 4000000 in
set_option maxRecDepth 100000 in
theorem w_X5_init_0 {r : Unit} {S' : sh} {D' : dt} {S0 : sh} {ad0 : Nat → Nat} (hC : Cx RX5 cX5_init 1 none p s m args meth c) (hin : meth.name = "<init>") (hR : 1 ≤ R.frames ∧ 20 ≤ R.locals) (ho : R.cells = sN S' - sN S0 ∧ R.slots = sZ S' - sZ S0) : ∀ (o0 a0 : Nat) (S : sh) (D : dt) (ad : Nat → Nat) (H : Heap) (locs : List Loc) (ls : Array Slot) (cells slots : Nat), Is S ad o0 a0 4 → Wd G cA S D ad A s H locs → Al S0 ad0 S ad cells slots → lv_has ls 1 [(0, .ref a0)] → f_X5_init o0 S D = some (r, S', D') → W p l e R s m args below meth c H locs cells slots (MQ below (Qa (fun _ => none) (fun ad' => (∀ k, k < sN S0 → ad' k = ad0 k) ∧ True) (fun ad' => wpost G cA S' D' ad' A) A) args s (sN S' - sN S0) (sZ S' - sZ S0) A) (F0 m 0 ls []) := by
  obtain ⟨hx, hb, -⟩ := id hC
  intro o0 a0 S D ad H locs ls cells slots hi0 hw hc hl h
  have hE : Ext S S' := mn_X5_init_0  h
  unfold f_X5_init at h
  refine lv_aload_n hx hb dX5_init_0 rfl (lv_at hl 0 rfl) ?_
  refine W.objInit hx hb hC.2.2.2.1 (hC.2.2.2.2.1 _ lk_262) (hC.2.2.2.2.1 _ lk_133) (hC.2.2.2.2.1 _ cd_obj) rfl (by rw [hC.2.2.1]; exact hl.1) rfl dX5_init_1 (Nat.le_trans (by decide) hR.1) (Nat.le_trans (Nat.le_of_ble_eq_true rfl) hR.2) ?_
  refine W.eq (g2 := F0 m 4 ls []) rfl ?_
  refine lv_aload_n hx hb dX5_init_4 rfl (lv_at hl 0 rfl) ?_
  refine lv_bipush (v := 75) hx hb dX5_init_5 (by decide) ?_
  have hE46 := mn_X5_init_9 h
  refine r_newI hC hw lk_172 (by decide) (by decide) (by decide) (hc.room ho hE46).1 (hc.room ho hE46).2 dX5_init_7 (fun q44 H hw hi45 => ?_)
  have hi47 := Is.up hi0 (Ext.aS S 100 75 75) (up_lt (q := q44))
  have hc := hc.new 100 75 75 q44
  exact w_X5_init_9 hC hin hR ho o0 a0 o0 a0 (sN S) q44 _ _ _ _ _ _ _ _ hi47 hi47 hi45 hw hc (lv_sub hl [0] rfl) h --j48
set_option maxHeartbeats 4000000 in
set_option maxRecDepth 100000 in
theorem k_X5_init {l : Launch} {G : va_G} {cA : Nat → ClassId} {S S' : sh} {D D' : dt} {ad : Nat → Nat} (sz : Nat) {o0 a0 : Nat} {r : Unit} (hi0 : Is S ad o0 a0 4) (h : f_X5_init o0 S D = some (r, S', D')) : CoA l yX5_init (Cond.code yX5_init cX5_init 1 none :: tb0) 1 20 [.ref a0] G cA S D ad sz (fun _ => none) True S' D' := by
  refine Met.ofW (cc := cX5_init) (maxL := 1) (ret := none) (by decide) rfl ?_
  intro p e s m args below meth c s₁ B hml hv
  obtain ⟨rfl, hsz, hP, hK, hD0, hT, hX⟩ := hv
  subst hsz
  have hts := atoms_spec (ws := Cond.code yX5_init cX5_init 1 none :: tb0) B.pre
  have hC : Cx RX5 cX5_init 1 none p s m _ meth c := ⟨B.exec, B.bytes, hml, findClass_of_methodNamed B.named, fun w q => hts w (List.mem_cons_of_mem _ q), B.returns, B.notSynchronized⟩
  have hin : meth.name = "<init>" := (name_of_methodNamed B.named B.method).1
  have hw := Wd.entry hP hK hD0 hT hX
  have hl := lv_entry ([.ref a0]) (n := 1) (Nat.le_of_ble_eq_true rfl)
  rw [lg_entry_eq]
  exact w_X5_init_0 hC hin ⟨Nat.le_refl _, Nat.le_refl _⟩ ⟨rfl, rfl⟩ o0 a0 S D ad _ _ _ 0 0 hi0 hw (Al.rf S ad) hl h
set_option maxHeartbeats 4000000 in
set_option maxRecDepth 100000 in
theorem w_X5_write_0 {r : Unit} {D' : dt} (hC : Cx RX5 cX5_write 7 none p s m args meth c) (hR : 0 ≤ R.frames ∧ 0 ≤ R.locals) : ∀ (o0 a0 : Nat) (x1 : Int32) (x2 : Int32) (x3 : Int64) (x5 : Int64) (D : dt) (H : Heap) (locs : List Loc) (ls : Array Slot), Is S ad o0 a0 4 → Wd G cA S D ad A s H locs → lv_has ls 7 [(0, .ref a0), (1, .int x1), (2, .int x2), (3, .long x3), (5, .long x5)] → f_X5_write S o0 x1 x2 x3 x5 D = some (r, D') → W p l e R s m args below meth c H locs 0 0 (MQ below (Qn none True (wpost G cA S D' ad A) A) args s 0 0 A) (F0 m 0 ls []) := by
  obtain ⟨hx, hb, -⟩ := id hC
  intro o0 a0 x1 x2 x3 x5 D H locs ls hi0 hw hl h
  unfold f_X5_write at h
  refine lv_aload_n hx hb dX5_write_0 rfl (lv_at hl 0 rfl) ?_
  obtain ⟨o19, ho22, h⟩ := rq_i h
  refine r_getR hC hw kc_4 hi0 1 rfl lk_265 dX5_write_1 rfl ho22 (fun a20 hi21 => ?_)
  refine lv_iload_n hx hb dX5_write_4 rfl (lv_at hl 1 rfl) ?_
  refine lv_iload_n hx hb dX5_write_5 rfl (lv_at hl 2 rfl) ?_
  obtain ⟨hn23, h⟩ := ix_i h
  refine r_ias hC hw hi21 hn23 dX5_write_6 (fun D24 eD24 H locs hw => ?_)
  have h := nm_i h D24 eD24
  refine lv_aload_n hx hb dX5_write_7 rfl (lv_at hl 0 rfl) ?_
  obtain ⟨o25, ho28, h⟩ := rq_i h
  refine r_getR hC hw kc_4 hi0 2 rfl lk_267 dX5_write_8 rfl ho28 (fun a26 hi27 => ?_)
  refine lv_iload_n hx hb dX5_write_11 rfl (lv_at hl 1 rfl) ?_
  refine lv_lload_n hx hb dX5_write_12 rfl (lv_at hl 3 rfl) ?_
  obtain ⟨hn29, h⟩ := ix_i h
  refine r_las hC hw hi27 hn29 dX5_write_13 (fun D30 eD30 H locs hw => ?_)
  have h := nm_i h D30 eD30
  refine lv_aload_n hx hb dX5_write_14 rfl (lv_at hl 0 rfl) ?_
  obtain ⟨o31, ho34, h⟩ := rq_i h
  refine r_getR hC hw kc_4 hi0 3 rfl lk_269 dX5_write_15 rfl ho34 (fun a32 hi33 => ?_)
  refine lv_iload_n hx hb dX5_write_18 rfl (lv_at hl 1 rfl) ?_
  refine lv_lload hx hb dX5_write_19 (lv_at hl 4 rfl) ?_
  obtain ⟨hn35, h⟩ := ix_i h
  refine r_las hC hw hi33 hn35 dX5_write_21 (fun D36 eD36 H locs hw => ?_)
  have h := nm_i h D36 eD36
  cases h
  exact r_vret hC hw dX5_write_22
set_option maxHeartbeats 4000000 in
set_option maxRecDepth 100000 in
theorem k_X5_write {l : Launch} {G : va_G} {cA : Nat → ClassId} {S : sh} {D D' : dt} {ad : Nat → Nat} (sz : Nat) {o0 a0 : Nat} {x1 : Int32} {x2 : Int32} {x3 : Int64} {x5 : Int64} {r : Unit} (hi0 : Is S ad o0 a0 4) (h : f_X5_write S o0 x1 x2 x3 x5 D = some (r, D')) : Co l yX5_write (Cond.code yX5_write cX5_write 7 none :: tb0) 0 0 [.ref a0, .int x1, .int x2, .long x3, .long x5] G cA S D ad sz none True D' := by
  refine Met.ofW (cc := cX5_write) (maxL := 7) (ret := none) (by decide) rfl ?_
  intro p e s m args below meth c s₁ B hml hv
  obtain ⟨rfl, hsz, hP, hK, hD0, hT, hX⟩ := hv
  subst hsz
  have hts := atoms_spec (ws := Cond.code yX5_write cX5_write 7 none :: tb0) B.pre
  have hC : Cx RX5 cX5_write 7 none p s m _ meth c := ⟨B.exec, B.bytes, hml, findClass_of_methodNamed B.named, fun w q => hts w (List.mem_cons_of_mem _ q), B.returns, B.notSynchronized⟩
  have hw := Wd.entry hP hK hD0 hT hX
  have hl := lv_entry ([.ref a0, .int x1, .int x2, .long x3, .long x5]) (n := 7) (Nat.le_of_ble_eq_true rfl)
  rw [lg_entry_eq]
  exact w_X5_write_0 hC ⟨Nat.le_refl _, Nat.le_refl _⟩ o0 a0 x1 x2 x3 x5 D _ _ _ hi0 hw hl h
set_option maxHeartbeats 4000000 in
set_option maxRecDepth 100000 in
theorem w_X5_begin_0 {r : Unit} {D' : dt} (hC : Cx RX5 cX5_begin 1 none p s m args meth c) (hR : 1 ≤ R.frames ∧ 26 ≤ R.locals) : ∀ (o0 a0 : Nat) (D : dt) (H : Heap) (locs : List Loc) (ls : Array Slot), Is S ad o0 a0 4 → Wd G cA S D ad A s H locs → lv_has ls 1 [(0, .ref a0)] → f_X5_begin S o0 D = some (r, D') → W p l e R s m args below meth c H locs 0 0 (MQ below (Qn none True (wpost G cA S D' ad A) A) args s 0 0 A) (F0 m 0 ls []) := by
  obtain ⟨hx, hb, -⟩ := id hC
  intro o0 a0 D H locs ls hi0 hw hl h
  unfold f_X5_begin at h
  refine lv_aload_n hx hb dX5_begin_0 rfl (lv_at hl 0 rfl) ?_
  obtain ⟨o31, ho34, h⟩ := rq_i h
  refine r_getR hC hw kc_4 hi0 1 rfl lk_265 dX5_begin_1 rfl ho34 (fun a32 hi33 => ?_)
  refine lv_iconst (v := 0) hx hb dX5_begin_4 (by decide) ?_
  obtain ⟨_, D36, hq35, h⟩ := cq_i h
  refine r_cS (st' := []) [.ref a32, .int (0 : Int32)] [] hC hw (k_J7_fill_53178 _ hi33 hq35) mk_J7_fill_53178 lk_473 ⟨Nat.le_trans (by decide) hR.1, Nat.le_trans (by decide) hR.2⟩ ⟨Nat.zero_le _, Nat.zero_le _⟩ rfl hl.1 rfl rfl (Nat.le_of_ble_eq_true rfl) dX5_begin_5 (fun hP H locs hw => ?_)
  refine lv_aload_n hx hb dX5_begin_8 rfl (lv_at hl 0 rfl) ?_
  obtain ⟨o37, ho40, h⟩ := rq_i h
  refine r_getR hC hw kc_4 hi0 2 rfl lk_267 dX5_begin_9 rfl ho40 (fun a38 hi39 => ?_)
  refine lv_lconst (v := 0) hx hb dX5_begin_12 (by decide) ?_
  obtain ⟨_, D42, hq41, h⟩ := cq_i h
  refine r_cS (st' := []) [.ref a38, .long (0 : Int64)] [] hC hw (k_J7_fill_d0a16 _ hi39 hq41) mk_J7_fill_d0a16 lk_476 ⟨Nat.le_trans (by decide) hR.1, Nat.le_trans (by decide) hR.2⟩ ⟨Nat.zero_le _, Nat.zero_le _⟩ rfl hl.1 rfl rfl (Nat.le_of_ble_eq_true rfl) dX5_begin_13 (fun hP H locs hw => ?_)
  refine lv_aload_n hx hb dX5_begin_16 rfl (lv_at hl 0 rfl) ?_
  obtain ⟨o43, ho46, h⟩ := rq_i h
  refine r_getR hC hw kc_4 hi0 3 rfl lk_269 dX5_begin_17 rfl ho46 (fun a44 hi45 => ?_)
  refine lv_lconst (v := 0) hx hb dX5_begin_20 (by decide) ?_
  obtain ⟨_, D48, hq47, h⟩ := cq_i h
  refine r_cS (st' := []) [.ref a44, .long (0 : Int64)] [] hC hw (k_J7_fill_d0a16 _ hi45 hq47) mk_J7_fill_d0a16 lk_476 ⟨Nat.le_trans (by decide) hR.1, Nat.le_trans (by decide) hR.2⟩ ⟨Nat.zero_le _, Nat.zero_le _⟩ rfl hl.1 rfl rfl (Nat.le_of_ble_eq_true rfl) dX5_begin_21 (fun hP H locs hw => ?_)
  refine lv_aload_n hx hb dX5_begin_24 rfl (lv_at hl 0 rfl) ?_
  obtain ⟨o49, ho52, h⟩ := rq_i h
  refine r_getR hC hw kc_4 hi0 4 rfl lk_271 dX5_begin_25 rfl ho52 (fun a50 hi51 => ?_)
  refine lv_lconst (v := 0) hx hb dX5_begin_28 (by decide) ?_
  obtain ⟨_, D54, hq53, h⟩ := cq_i h
  refine r_cS (st' := []) [.ref a50, .long (0 : Int64)] [] hC hw (k_J7_fill_d0a16 _ hi51 hq53) mk_J7_fill_d0a16 lk_476 ⟨Nat.le_trans (by decide) hR.1, Nat.le_trans (by decide) hR.2⟩ ⟨Nat.zero_le _, Nat.zero_le _⟩ rfl hl.1 rfl rfl (Nat.le_of_ble_eq_true rfl) dX5_begin_29 (fun hP H locs hw => ?_)
  refine lv_aload_n hx hb dX5_begin_32 rfl (lv_at hl 0 rfl) ?_
  refine lv_lconst (v := 0) hx hb dX5_begin_33 (by decide) ?_
  refine r_pL hC hw kc_4 hi0 5 rfl lk_272 rfl rfl rfl dX5_begin_34 (fun D55 eD55 H locs hw => ?_)
  have h := nm_i h D55 eD55
  refine lv_aload_n hx hb dX5_begin_37 rfl (lv_at hl 0 rfl) ?_
  refine lv_iconst (v := 1) hx hb dX5_begin_38 (by decide) ?_
  refine lv_iconst (v := 2) hx hb dX5_begin_39 (by decide) ?_
  refine lv_lconst (v := 0) hx hb dX5_begin_40 (by decide) ?_
  refine lv_lconst (v := 0) hx hb dX5_begin_41 (by decide) ?_
  obtain ⟨_, D57, hq56, h⟩ := cq_i h
  refine r_cV (st' := []) [.int (1 : Int32), .int (2 : Int32), .long (0 : Int64), .long (0 : Int64)] [] hC hw kc_4 hi0 (k_X5_write _ hi0 hq56) mk_X5_write lk_479 ⟨Nat.le_trans (by decide) hR.1, Nat.le_trans (by decide) hR.2⟩ ⟨Nat.zero_le _, Nat.zero_le _⟩ rfl hl.1 rfl rfl (Nat.le_of_ble_eq_true rfl) dX5_begin_42 (fun hP H locs hw => ?_)
  refine lv_aload_n hx hb dX5_begin_45 rfl (lv_at hl 0 rfl) ?_
  refine lv_bipush (v := 10) hx hb dX5_begin_46 (by decide) ?_
  refine lv_iconst (v := 3) hx hb dX5_begin_48 (by decide) ?_
  refine lv_lconst (v := 0) hx hb dX5_begin_49 (by decide) ?_
  refine lv_lconst (v := 0) hx hb dX5_begin_50 (by decide) ?_
  obtain ⟨_, D59, hq58, h⟩ := cq_i h
  refine r_cV (st' := []) [.int (10 : Int32), .int (3 : Int32), .long (0 : Int64), .long (0 : Int64)] [] hC hw kc_4 hi0 (k_X5_write _ hi0 hq58) mk_X5_write lk_479 ⟨Nat.le_trans (by decide) hR.1, Nat.le_trans (by decide) hR.2⟩ ⟨Nat.zero_le _, Nat.zero_le _⟩ rfl hl.1 rfl rfl (Nat.le_of_ble_eq_true rfl) dX5_begin_51 (fun hP H locs hw => ?_)
  refine lv_aload_n hx hb dX5_begin_54 rfl (lv_at hl 0 rfl) ?_
  refine lv_iconst (v := 1) hx hb dX5_begin_55 (by decide) ?_
  refine r_pI hC hw kc_4 hi0 0 rfl lk_264 rfl rfl rfl dX5_begin_56 (fun D60 eD60 H locs hw => ?_)
  have h := nm_i h D60 eD60
  cases h
  exact r_vret hC hw dX5_begin_59
set_option maxHeartbeats 4000000 in
set_option maxRecDepth 100000 in
theorem k_X5_begin {l : Launch} {G : va_G} {cA : Nat → ClassId} {S : sh} {D D' : dt} {ad : Nat → Nat} (sz : Nat) {o0 a0 : Nat} {r : Unit} (hi0 : Is S ad o0 a0 4) (h : f_X5_begin S o0 D = some (r, D')) : Co l yX5_begin (Cond.code yX5_begin cX5_begin 1 none :: tb0) 1 26 [.ref a0] G cA S D ad sz none True D' := by
  refine Met.ofW (cc := cX5_begin) (maxL := 1) (ret := none) (by decide) rfl ?_
  intro p e s m args below meth c s₁ B hml hv
  obtain ⟨rfl, hsz, hP, hK, hD0, hT, hX⟩ := hv
  subst hsz
  have hts := atoms_spec (ws := Cond.code yX5_begin cX5_begin 1 none :: tb0) B.pre
  have hC : Cx RX5 cX5_begin 1 none p s m _ meth c := ⟨B.exec, B.bytes, hml, findClass_of_methodNamed B.named, fun w q => hts w (List.mem_cons_of_mem _ q), B.returns, B.notSynchronized⟩
  have hw := Wd.entry hP hK hD0 hT hX
  have hl := lv_entry ([.ref a0]) (n := 1) (Nat.le_of_ble_eq_true rfl)
  rw [lg_entry_eq]
  exact w_X5_begin_0 hC ⟨Nat.le_refl _, Nat.le_refl _⟩ o0 a0 D _ _ _ hi0 hw hl h
set_option maxHeartbeats 4000000 in
set_option maxRecDepth 100000 in
theorem w_X5_copyFrom_16 {r : Unit} {D' : dt} (hC : Cx RX5 cX5_copyFrom 3 none p s m args meth c) (hR : 1 ≤ R.frames ∧ 30 ≤ R.locals) : ∀ (o0 a0 : Nat) (o1 a1 : Nat) (xs0 : Int32) (D : dt) (H : Heap) (locs : List Loc) (ls : Array Slot), Is S ad o0 a0 4 → Is S ad o1 a1 4 → Wd G cA S D ad A s H locs → lv_has ls 3 [(0, .ref a0), (1, .ref a1)] → f_X5_copyFrom_16 S o0 o1 xs0 D = some (r, D') → W p l e R s m args below meth c H locs 0 0 (MQ below (Qn none True (wpost G cA S D' ad A) A) args s 0 0 A) (F0 m 16 ls [.int xs0]) := by
  obtain ⟨hx, hb, -⟩ := id hC
  intro o0 a0 o1 a1 xs0 D H locs ls hi0 hi1 hw hl h
  unfold f_X5_copyFrom_16 at h
  refine lv_istore_n (lv' := [(2, .int xs0), (0, .ref a0), (1, .ref a1)]) hx hb dX5_copyFrom_16 rfl hl (by decide) rfl (fun ls hl => ?_)
  refine lv_aload_n hx hb dX5_copyFrom_17 rfl (lv_at hl 2 rfl) ?_
  obtain ⟨o44, ho47, h⟩ := rq_i h
  refine r_getR hC hw kc_4 hi1 1 rfl lk_265 dX5_copyFrom_18 rfl ho47 (fun a45 hi46 => ?_)
  refine lv_iconst (v := 0) hx hb dX5_copyFrom_21 (by decide) ?_
  refine lv_aload_n hx hb dX5_copyFrom_22 rfl (lv_at hl 1 rfl) ?_
  obtain ⟨o48, ho51, h⟩ := rq_i h
  refine r_getR hC hw kc_4 hi0 1 rfl lk_265 dX5_copyFrom_23 rfl ho51 (fun a49 hi50 => ?_)
  refine lv_iconst (v := 0) hx hb dX5_copyFrom_26 (by decide) ?_
  refine lv_iload_n hx hb dX5_copyFrom_27 rfl (lv_at hl 0 rfl) ?_
  obtain ⟨hz52, h⟩ := ck_i h
  refine r_cpyI hC hw hi46 hi50 hz52 (by rw [hC.2.2.1]; exact hl.1.symm) lk_487 (Nat.le_trans (by decide) hR.1) (Nat.le_trans (Nat.le_of_ble_eq_true rfl) hR.2) dX5_copyFrom_28 (fun D53 eD53 H locs hw => ?_)
  have h := nm_i h D53 eD53
  refine lv_aload_n hx hb dX5_copyFrom_31 rfl (lv_at hl 2 rfl) ?_
  obtain ⟨o54, ho57, h⟩ := rq_i h
  refine r_getR hC hw kc_4 hi1 2 rfl lk_267 dX5_copyFrom_32 rfl ho57 (fun a55 hi56 => ?_)
  refine lv_iconst (v := 0) hx hb dX5_copyFrom_35 (by decide) ?_
  refine lv_aload_n hx hb dX5_copyFrom_36 rfl (lv_at hl 1 rfl) ?_
  obtain ⟨o58, ho61, h⟩ := rq_i h
  refine r_getR hC hw kc_4 hi0 2 rfl lk_267 dX5_copyFrom_37 rfl ho61 (fun a59 hi60 => ?_)
  refine lv_iconst (v := 0) hx hb dX5_copyFrom_40 (by decide) ?_
  refine lv_iload_n hx hb dX5_copyFrom_41 rfl (lv_at hl 0 rfl) ?_
  obtain ⟨hz62, h⟩ := ck_i h
  refine r_cpyL hC hw hi56 hi60 hz62 (by rw [hC.2.2.1]; exact hl.1.symm) lk_487 (Nat.le_trans (by decide) hR.1) (Nat.le_trans (Nat.le_of_ble_eq_true rfl) hR.2) dX5_copyFrom_42 (fun D63 eD63 H locs hw => ?_)
  have h := nm_i h D63 eD63
  refine lv_aload_n hx hb dX5_copyFrom_45 rfl (lv_at hl 2 rfl) ?_
  obtain ⟨o64, ho67, h⟩ := rq_i h
  refine r_getR hC hw kc_4 hi1 3 rfl lk_269 dX5_copyFrom_46 rfl ho67 (fun a65 hi66 => ?_)
  refine lv_iconst (v := 0) hx hb dX5_copyFrom_49 (by decide) ?_
  refine lv_aload_n hx hb dX5_copyFrom_50 rfl (lv_at hl 1 rfl) ?_
  obtain ⟨o68, ho71, h⟩ := rq_i h
  refine r_getR hC hw kc_4 hi0 3 rfl lk_269 dX5_copyFrom_51 rfl ho71 (fun a69 hi70 => ?_)
  refine lv_iconst (v := 0) hx hb dX5_copyFrom_54 (by decide) ?_
  refine lv_iload_n hx hb dX5_copyFrom_55 rfl (lv_at hl 0 rfl) ?_
  obtain ⟨hz72, h⟩ := ck_i h
  refine r_cpyL hC hw hi66 hi70 hz72 (by rw [hC.2.2.1]; exact hl.1.symm) lk_487 (Nat.le_trans (by decide) hR.1) (Nat.le_trans (Nat.le_of_ble_eq_true rfl) hR.2) dX5_copyFrom_56 (fun D73 eD73 H locs hw => ?_)
  have h := nm_i h D73 eD73
  refine lv_aload_n hx hb dX5_copyFrom_59 rfl (lv_at hl 2 rfl) ?_
  obtain ⟨o74, ho77, h⟩ := rq_i h
  refine r_getR hC hw kc_4 hi1 4 rfl lk_271 dX5_copyFrom_60 rfl ho77 (fun a75 hi76 => ?_)
  refine lv_iconst (v := 0) hx hb dX5_copyFrom_63 (by decide) ?_
  refine lv_aload_n hx hb dX5_copyFrom_64 rfl (lv_at hl 1 rfl) ?_
  obtain ⟨o78, ho81, h⟩ := rq_i h
  refine r_getR hC hw kc_4 hi0 4 rfl lk_271 dX5_copyFrom_65 rfl ho81 (fun a79 hi80 => ?_)
  refine lv_iconst (v := 0) hx hb dX5_copyFrom_68 (by decide) ?_
  refine lv_bipush (v := 8) hx hb dX5_copyFrom_69 (by decide) ?_
  obtain ⟨hz82, h⟩ := ck_i h
  refine r_cpyL hC hw hi76 hi80 hz82 (by rw [hC.2.2.1]; exact hl.1.symm) lk_487 (Nat.le_trans (by decide) hR.1) (Nat.le_trans (Nat.le_of_ble_eq_true rfl) hR.2) dX5_copyFrom_71 (fun D83 eD83 H locs hw => ?_)
  have h := nm_i h D83 eD83
  refine lv_aload_n hx hb dX5_copyFrom_74 rfl (lv_at hl 1 rfl) ?_
  refine lv_aload_n hx hb dX5_copyFrom_75 rfl (lv_at hl 2 rfl) ?_
  refine r_gL hC hw kc_4 hi1 5 rfl lk_272 dX5_copyFrom_76 ?_
  refine r_pL hC hw kc_4 hi0 5 rfl lk_272 rfl rfl rfl dX5_copyFrom_79 (fun D84 eD84 H locs hw => ?_)
  have h := nm_i h D84 eD84
  refine lv_aload_n hx hb dX5_copyFrom_82 rfl (lv_at hl 1 rfl) ?_
  refine lv_iconst (v := 1) hx hb dX5_copyFrom_83 (by decide) ?_
  refine r_pI hC hw kc_4 hi0 0 rfl lk_264 rfl rfl rfl dX5_copyFrom_84 (fun D85 eD85 H locs hw => ?_)
  have h := nm_i h D85 eD85
  cases h
  exact r_vret hC hw dX5_copyFrom_87
set_option maxHeartbeats 4000000 in
set_option maxRecDepth 100000 in
theorem w_X5_copyFrom_0 {r : Unit} {D' : dt} (hC : Cx RX5 cX5_copyFrom 3 none p s m args meth c) (hR : 1 ≤ R.frames ∧ 30 ≤ R.locals) : ∀ (o0 a0 : Nat) (o1 a1 : Nat) (D : dt) (H : Heap) (locs : List Loc) (ls : Array Slot), Is S ad o0 a0 4 → Is S ad o1 a1 4 → Wd G cA S D ad A s H locs → lv_has ls 3 [(0, .ref a0), (1, .ref a1)] → f_X5_copyFrom S o0 o1 D = some (r, D') → W p l e R s m args below meth c H locs 0 0 (MQ below (Qn none True (wpost G cA S D' ad A) A) args s 0 0 A) (F0 m 0 ls []) := by
  obtain ⟨hx, hb, -⟩ := id hC
  intro o0 a0 o1 a1 D H locs ls hi0 hi1 hw hl h
  unfold f_X5_copyFrom at h
  refine lv_aload_n hx hb dX5_copyFrom_0 rfl (lv_at hl 1 rfl) ?_
  refine r_gL hC hw kc_4 hi1 5 rfl lk_272 dX5_copyFrom_1 ?_
  refine lv_lconst (v := 0) hx hb dX5_copyFrom_4 (by decide) ?_
  refine W.lcmp hx hb dX5_copyFrom_5 ?_
  refine lv_if_ne (tgt := 14) hx hb dX5_copyFrom_6 (by decide) (fun c86 => ?_) (fun c86 => ?_)
  · have h := i_no c86 h
    refine lv_bipush (v := 75) hx hb dX5_copyFrom_14 (by decide) ?_
    exact w_X5_copyFrom_16 hC hR o0 a0 o1 a1 (75 : Int32) _ _ _ _ hi0 hi1 hw (lv_sub hl [0, 1] rfl) h
  · have h := i_yes c86 h
    refine lv_bipush (v := 11) hx hb dX5_copyFrom_9 (by decide) ?_
    refine lv_goto (tgt := 16) hx hb dX5_copyFrom_11 (by decide) ?_
    exact w_X5_copyFrom_16 hC hR o0 a0 o1 a1 (11 : Int32) _ _ _ _ hi0 hi1 hw (lv_sub hl [0, 1] rfl) h
set_option maxHeartbeats 4000000 in
set_option maxRecDepth 100000 in
theorem k_X5_copyFrom {l : Launch} {G : va_G} {cA : Nat → ClassId} {S : sh} {D D' : dt} {ad : Nat → Nat} (sz : Nat) {o0 a0 : Nat} {o1 a1 : Nat} {r : Unit} (hi0 : Is S ad o0 a0 4) (hi1 : Is S ad o1 a1 4) (h : f_X5_copyFrom S o0 o1 D = some (r, D')) : Co l yX5_copyFrom (Cond.code yX5_copyFrom cX5_copyFrom 3 none :: tb0) 1 30 [.ref a0, .ref a1] G cA S D ad sz none True D' := by
  refine Met.ofW (cc := cX5_copyFrom) (maxL := 3) (ret := none) (by decide) rfl ?_
  intro p e s m args below meth c s₁ B hml hv
  obtain ⟨rfl, hsz, hP, hK, hD0, hT, hX⟩ := hv
  subst hsz
  have hts := atoms_spec (ws := Cond.code yX5_copyFrom cX5_copyFrom 3 none :: tb0) B.pre
  have hC : Cx RX5 cX5_copyFrom 3 none p s m _ meth c := ⟨B.exec, B.bytes, hml, findClass_of_methodNamed B.named, fun w q => hts w (List.mem_cons_of_mem _ q), B.returns, B.notSynchronized⟩
  have hw := Wd.entry hP hK hD0 hT hX
  have hl := lv_entry ([.ref a0, .ref a1]) (n := 3) (Nat.le_of_ble_eq_true rfl)
  rw [lg_entry_eq]
  exact w_X5_copyFrom_0 hC ⟨Nat.le_refl _, Nat.le_refl _⟩ o0 a0 o1 a1 D _ _ _ hi0 hi1 hw hl h
set_option maxHeartbeats 4000000 in
set_option maxRecDepth 100000 in
theorem w_X5_tagOf_0 {r : Int32} (hC : Cx RX5 cX5_tagOf 3 (some .int) p s m args meth c) (hR : 0 ≤ R.frames ∧ 0 ≤ R.locals) : ∀ (x0 : Int32) (x1 : Int32) (x2 : Int32) (H : Heap) (locs : List Loc) (ls : Array Slot), Wd G cA S D ad A s H locs → lv_has ls 3 [(0, .int x0), (1, .int x1), (2, .int x2)] → f_X5_tagOf x0 x1 x2 = some r → W p l e R s m args below meth c H locs 0 0 (MQ below (Qn (some (.int r)) True (wpost G cA S D ad A) A) args s 0 0 A) (F0 m 0 ls []) := by
  obtain ⟨hx, hb, -⟩ := id hC
  intro x0 x1 x2 H locs ls hw hl h
  unfold f_X5_tagOf at h
  refine lv_iload_n hx hb dX5_tagOf_0 rfl (lv_at hl 0 rfl) ?_
  refine lv_iload_n hx hb dX5_tagOf_1 rfl (lv_at hl 1 rfl) ?_
  refine lv_iconst (v := 4) hx hb dX5_tagOf_2 (by decide) ?_
  refine lv_ishl hx hb dX5_tagOf_3 ?_
  refine lv_ior hx hb dX5_tagOf_4 ?_
  refine lv_iload_n hx hb dX5_tagOf_5 rfl (lv_at hl 2 rfl) ?_
  refine lv_bipush (v := 8) hx hb dX5_tagOf_6 (by decide) ?_
  refine lv_ishl hx hb dX5_tagOf_8 ?_
  refine lv_ior hx hb dX5_tagOf_9 ?_
  cases h
  exact r_iret hC hw dX5_tagOf_10
set_option maxHeartbeats 4000000 in
set_option maxRecDepth 100000 in
theorem k_X5_tagOf {l : Launch} {G : va_G} {cA : Nat → ClassId} {S : sh} {D : dt} {ad : Nat → Nat} (sz : Nat) {x0 : Int32} {x1 : Int32} {x2 : Int32} {r : Int32}  (h : f_X5_tagOf x0 x1 x2 = some r) : Co l yX5_tagOf (Cond.code yX5_tagOf cX5_tagOf 3 (some .int) :: tb0) 0 0 [.int x0, .int x1, .int x2] G cA S D ad sz (some (.int r)) True D := by
  refine Met.ofW (cc := cX5_tagOf) (maxL := 3) (ret := (some .int)) (by decide) rfl ?_
  intro p e s m args below meth c s₁ B hml hv
  obtain ⟨rfl, hsz, hP, hK, hD0, hT, hX⟩ := hv
  subst hsz
  have hts := atoms_spec (ws := Cond.code yX5_tagOf cX5_tagOf 3 (some .int) :: tb0) B.pre
  have hC : Cx RX5 cX5_tagOf 3 (some .int) p s m _ meth c := ⟨B.exec, B.bytes, hml, findClass_of_methodNamed B.named, fun w q => hts w (List.mem_cons_of_mem _ q), B.returns, B.notSynchronized⟩
  have hw := Wd.entry hP hK hD0 hT hX
  have hl := lv_entry ([.int x0, .int x1, .int x2]) (n := 3) (Nat.le_of_ble_eq_true rfl)
  rw [lg_entry_eq]
  exact w_X5_tagOf_0 hC ⟨Nat.le_refl _, Nat.le_refl _⟩ x0 x1 x2 _ _ _ hw hl h
set_option maxHeartbeats 4000000 in
set_option maxRecDepth 100000 in
theorem w_X5_isNone_0 {r : Int32} (hC : Cx RX5 cX5_isNone 2 (some .boolean) p s m args meth c) (hR : 0 ≤ R.frames ∧ 0 ≤ R.locals) : ∀ (o0 a0 : Nat) (x1 : Int32) (H : Heap) (locs : List Loc) (ls : Array Slot), Is S ad o0 a0 4 → Wd G cA S D ad A s H locs → lv_has ls 2 [(0, .ref a0), (1, .int x1)] → f_X5_isNone S D o0 x1 = some r → W p l e R s m args below meth c H locs 0 0 (MQ below (Qn (some (.int r)) True (wpost G cA S D ad A) A) args s 0 0 A) (F0 m 0 ls []) := by
  obtain ⟨hx, hb, -⟩ := id hC
  intro o0 a0 x1 H locs ls hi0 hw hl h
  unfold f_X5_isNone at h
  refine lv_aload_n hx hb dX5_isNone_0 rfl (lv_at hl 0 rfl) ?_
  obtain ⟨o7, ho10, h⟩ := rq_i h
  refine r_getR hC hw kc_4 hi0 1 rfl lk_265 dX5_isNone_1 rfl ho10 (fun a8 hi9 => ?_)
  refine lv_iload_n hx hb dX5_isNone_4 rfl (lv_at hl 1 rfl) ?_
  obtain ⟨hn11, h⟩ := ix_i h
  refine r_iald hC hw hi9 hn11 dX5_isNone_5 ?_
  refine lv_if_ne (tgt := 13) hx hb dX5_isNone_6 (by decide) (fun c12 => ?_) (fun c12 => ?_)
  · have h := i_no c12 h
    refine lv_iconst (v := 0) hx hb dX5_isNone_13 (by decide) ?_
    cases h
    exact r_zret hC hw (Or.inl rfl) dX5_isNone_14
  · have h := i_yes c12 h
    refine lv_iconst (v := 1) hx hb dX5_isNone_9 (by decide) ?_
    refine lv_goto (tgt := 14) hx hb dX5_isNone_10 (by decide) ?_
    cases h
    exact r_zret hC hw (Or.inr rfl) dX5_isNone_14
set_option maxHeartbeats 4000000 in
set_option maxRecDepth 100000 in
theorem k_X5_isNone {l : Launch} {G : va_G} {cA : Nat → ClassId} {S : sh} {D : dt} {ad : Nat → Nat} (sz : Nat) {o0 a0 : Nat} {x1 : Int32} {r : Int32} (hi0 : Is S ad o0 a0 4) (h : f_X5_isNone S D o0 x1 = some r) : Co l yX5_isNone (Cond.code yX5_isNone cX5_isNone 2 (some .boolean) :: tb0) 0 0 [.ref a0, .int x1] G cA S D ad sz (some (.int r)) True D := by
  refine Met.ofW (cc := cX5_isNone) (maxL := 2) (ret := (some .boolean)) (by decide) rfl ?_
  intro p e s m args below meth c s₁ B hml hv
  obtain ⟨rfl, hsz, hP, hK, hD0, hT, hX⟩ := hv
  subst hsz
  have hts := atoms_spec (ws := Cond.code yX5_isNone cX5_isNone 2 (some .boolean) :: tb0) B.pre
  have hC : Cx RX5 cX5_isNone 2 (some .boolean) p s m _ meth c := ⟨B.exec, B.bytes, hml, findClass_of_methodNamed B.named, fun w q => hts w (List.mem_cons_of_mem _ q), B.returns, B.notSynchronized⟩
  have hw := Wd.entry hP hK hD0 hT hX
  have hl := lv_entry ([.ref a0, .int x1]) (n := 2) (Nat.le_of_ble_eq_true rfl)
  rw [lg_entry_eq]
  exact w_X5_isNone_0 hC ⟨Nat.le_refl _, Nat.le_refl _⟩ o0 a0 x1 _ _ _ hi0 hw hl h
set_option maxHeartbeats 4000000 in
set_option maxRecDepth 100000 in
theorem w_X5_kind_0 {r : Int32} (hC : Cx RX5 cX5_kind 2 (some .int) p s m args meth c) (hR : 0 ≤ R.frames ∧ 0 ≤ R.locals) : ∀ (o0 a0 : Nat) (x1 : Int32) (H : Heap) (locs : List Loc) (ls : Array Slot), Is S ad o0 a0 4 → Wd G cA S D ad A s H locs → lv_has ls 2 [(0, .ref a0), (1, .int x1)] → f_X5_kind S D o0 x1 = some r → W p l e R s m args below meth c H locs 0 0 (MQ below (Qn (some (.int r)) True (wpost G cA S D ad A) A) args s 0 0 A) (F0 m 0 ls []) := by
  obtain ⟨hx, hb, -⟩ := id hC
  intro o0 a0 x1 H locs ls hi0 hw hl h
  unfold f_X5_kind at h
  refine lv_aload_n hx hb dX5_kind_0 rfl (lv_at hl 0 rfl) ?_
  obtain ⟨o6, ho9, h⟩ := rq_i h
  refine r_getR hC hw kc_4 hi0 1 rfl lk_265 dX5_kind_1 rfl ho9 (fun a7 hi8 => ?_)
  refine lv_iload_n hx hb dX5_kind_4 rfl (lv_at hl 1 rfl) ?_
  obtain ⟨hn10, h⟩ := ix_i h
  refine r_iald hC hw hi8 hn10 dX5_kind_5 ?_
  refine lv_bipush (v := 15) hx hb dX5_kind_6 (by decide) ?_
  refine lv_iand hx hb dX5_kind_8 ?_
  cases h
  exact r_iret hC hw dX5_kind_9
set_option maxHeartbeats 4000000 in
set_option maxRecDepth 100000 in
theorem k_X5_kind {l : Launch} {G : va_G} {cA : Nat → ClassId} {S : sh} {D : dt} {ad : Nat → Nat} (sz : Nat) {o0 a0 : Nat} {x1 : Int32} {r : Int32} (hi0 : Is S ad o0 a0 4) (h : f_X5_kind S D o0 x1 = some r) : Co l yX5_kind (Cond.code yX5_kind cX5_kind 2 (some .int) :: tb0) 0 0 [.ref a0, .int x1] G cA S D ad sz (some (.int r)) True D := by
  refine Met.ofW (cc := cX5_kind) (maxL := 2) (ret := (some .int)) (by decide) rfl ?_
  intro p e s m args below meth c s₁ B hml hv
  obtain ⟨rfl, hsz, hP, hK, hD0, hT, hX⟩ := hv
  subst hsz
  have hts := atoms_spec (ws := Cond.code yX5_kind cX5_kind 2 (some .int) :: tb0) B.pre
  have hC : Cx RX5 cX5_kind 2 (some .int) p s m _ meth c := ⟨B.exec, B.bytes, hml, findClass_of_methodNamed B.named, fun w q => hts w (List.mem_cons_of_mem _ q), B.returns, B.notSynchronized⟩
  have hw := Wd.entry hP hK hD0 hT hX
  have hl := lv_entry ([.ref a0, .int x1]) (n := 2) (Nat.le_of_ble_eq_true rfl)
  rw [lg_entry_eq]
  exact w_X5_kind_0 hC ⟨Nat.le_refl _, Nat.le_refl _⟩ o0 a0 x1 _ _ _ hi0 hw hl h
set_option maxHeartbeats 4000000 in
set_option maxRecDepth 100000 in
theorem w_X5_tableOf_0 {r : Int32} (hC : Cx RX5 cX5_tableOf 2 (some .int) p s m args meth c) (hR : 0 ≤ R.frames ∧ 0 ≤ R.locals) : ∀ (o0 a0 : Nat) (x1 : Int32) (H : Heap) (locs : List Loc) (ls : Array Slot), Is S ad o0 a0 4 → Wd G cA S D ad A s H locs → lv_has ls 2 [(0, .ref a0), (1, .int x1)] → f_X5_tableOf S D o0 x1 = some r → W p l e R s m args below meth c H locs 0 0 (MQ below (Qn (some (.int r)) True (wpost G cA S D ad A) A) args s 0 0 A) (F0 m 0 ls []) := by
  obtain ⟨hx, hb, -⟩ := id hC
  intro o0 a0 x1 H locs ls hi0 hw hl h
  unfold f_X5_tableOf at h
  refine lv_aload_n hx hb dX5_tableOf_0 rfl (lv_at hl 0 rfl) ?_
  obtain ⟨o6, ho9, h⟩ := rq_i h
  refine r_getR hC hw kc_4 hi0 1 rfl lk_265 dX5_tableOf_1 rfl ho9 (fun a7 hi8 => ?_)
  refine lv_iload_n hx hb dX5_tableOf_4 rfl (lv_at hl 1 rfl) ?_
  obtain ⟨hn10, h⟩ := ix_i h
  refine r_iald hC hw hi8 hn10 dX5_tableOf_5 ?_
  refine lv_iconst (v := 4) hx hb dX5_tableOf_6 (by decide) ?_
  refine lv_ishr hx hb dX5_tableOf_7 ?_
  refine lv_bipush (v := 15) hx hb dX5_tableOf_8 (by decide) ?_
  refine lv_iand hx hb dX5_tableOf_10 ?_
  cases h
  exact r_iret hC hw dX5_tableOf_11
set_option maxHeartbeats 4000000 in
set_option maxRecDepth 100000 in
theorem k_X5_tableOf {l : Launch} {G : va_G} {cA : Nat → ClassId} {S : sh} {D : dt} {ad : Nat → Nat} (sz : Nat) {o0 a0 : Nat} {x1 : Int32} {r : Int32} (hi0 : Is S ad o0 a0 4) (h : f_X5_tableOf S D o0 x1 = some r) : Co l yX5_tableOf (Cond.code yX5_tableOf cX5_tableOf 2 (some .int) :: tb0) 0 0 [.ref a0, .int x1] G cA S D ad sz (some (.int r)) True D := by
  refine Met.ofW (cc := cX5_tableOf) (maxL := 2) (ret := (some .int)) (by decide) rfl ?_
  intro p e s m args below meth c s₁ B hml hv
  obtain ⟨rfl, hsz, hP, hK, hD0, hT, hX⟩ := hv
  subst hsz
  have hts := atoms_spec (ws := Cond.code yX5_tableOf cX5_tableOf 2 (some .int) :: tb0) B.pre
  have hC : Cx RX5 cX5_tableOf 2 (some .int) p s m _ meth c := ⟨B.exec, B.bytes, hml, findClass_of_methodNamed B.named, fun w q => hts w (List.mem_cons_of_mem _ q), B.returns, B.notSynchronized⟩
  have hw := Wd.entry hP hK hD0 hT hX
  have hl := lv_entry ([.ref a0, .int x1]) (n := 2) (Nat.le_of_ble_eq_true rfl)
  rw [lg_entry_eq]
  exact w_X5_tableOf_0 hC ⟨Nat.le_refl _, Nat.le_refl _⟩ o0 a0 x1 _ _ _ hi0 hw hl h
set_option maxHeartbeats 4000000 in
set_option maxRecDepth 100000 in
theorem w_X5_holds_0 {r : Int32} (hC : Cx RX5 cX5_holds 2 (some .boolean) p s m args meth c) (hR : 0 ≤ R.frames ∧ 0 ≤ R.locals) : ∀ (o0 a0 : Nat) (x1 : Int32) (H : Heap) (locs : List Loc) (ls : Array Slot), Is S ad o0 a0 4 → Wd G cA S D ad A s H locs → lv_has ls 2 [(0, .ref a0), (1, .int x1)] → f_X5_holds S D o0 x1 = some r → W p l e R s m args below meth c H locs 0 0 (MQ below (Qn (some (.int r)) True (wpost G cA S D ad A) A) args s 0 0 A) (F0 m 0 ls []) := by
  obtain ⟨hx, hb, -⟩ := id hC
  intro o0 a0 x1 H locs ls hi0 hw hl h
  unfold f_X5_holds at h
  refine lv_aload_n hx hb dX5_holds_0 rfl (lv_at hl 0 rfl) ?_
  refine r_gL hC hw kc_4 hi0 5 rfl lk_272 dX5_holds_1 ?_
  refine lv_iload_n hx hb dX5_holds_4 rfl (lv_at hl 1 rfl) ?_
  refine lv_lushr (v := j_lushr (gL D o0 5) x1) hx hb dX5_holds_5 rfl ?_
  refine lv_lconst (v := 1) hx hb dX5_holds_6 (by decide) ?_
  refine lv_land hx hb dX5_holds_7 ?_
  refine lv_lconst (v := 0) hx hb dX5_holds_8 (by decide) ?_
  refine W.lcmp hx hb dX5_holds_9 ?_
  refine lv_if_eq (tgt := 17) hx hb dX5_holds_10 (by decide) (fun c2 => ?_) (fun c2 => ?_)
  · have h := i_yes c2 h
    refine lv_iconst (v := 0) hx hb dX5_holds_17 (by decide) ?_
    cases h
    exact r_zret hC hw (Or.inl rfl) dX5_holds_18
  · have h := i_no c2 h
    refine lv_iconst (v := 1) hx hb dX5_holds_13 (by decide) ?_
    refine lv_goto (tgt := 18) hx hb dX5_holds_14 (by decide) ?_
    cases h
    exact r_zret hC hw (Or.inr rfl) dX5_holds_18
set_option maxHeartbeats 4000000 in
set_option maxRecDepth 100000 in
theorem k_X5_holds {l : Launch} {G : va_G} {cA : Nat → ClassId} {S : sh} {D : dt} {ad : Nat → Nat} (sz : Nat) {o0 a0 : Nat} {x1 : Int32} {r : Int32} (hi0 : Is S ad o0 a0 4) (h : f_X5_holds S D o0 x1 = some r) : Co l yX5_holds (Cond.code yX5_holds cX5_holds 2 (some .boolean) :: tb0) 0 0 [.ref a0, .int x1] G cA S D ad sz (some (.int r)) True D := by
  refine Met.ofW (cc := cX5_holds) (maxL := 2) (ret := (some .boolean)) (by decide) rfl ?_
  intro p e s m args below meth c s₁ B hml hv
  obtain ⟨rfl, hsz, hP, hK, hD0, hT, hX⟩ := hv
  subst hsz
  have hts := atoms_spec (ws := Cond.code yX5_holds cX5_holds 2 (some .boolean) :: tb0) B.pre
  have hC : Cx RX5 cX5_holds 2 (some .boolean) p s m _ meth c := ⟨B.exec, B.bytes, hml, findClass_of_methodNamed B.named, fun w q => hts w (List.mem_cons_of_mem _ q), B.returns, B.notSynchronized⟩
  have hw := Wd.entry hP hK hD0 hT hX
  have hl := lv_entry ([.ref a0, .int x1]) (n := 2) (Nat.le_of_ble_eq_true rfl)
  rw [lg_entry_eq]
  exact w_X5_holds_0 hC ⟨Nat.le_refl _, Nat.le_refl _⟩ o0 a0 x1 _ _ _ hi0 hw hl h
set_option maxHeartbeats 4000000 in
set_option maxRecDepth 100000 in
theorem w_X5_isKnown_0 {r : Int32} (hC : Cx RX5 cX5_isKnown 2 (some .boolean) p s m args meth c) (hR : 0 ≤ R.frames ∧ 0 ≤ R.locals) : ∀ (o0 a0 : Nat) (x1 : Int32) (H : Heap) (locs : List Loc) (ls : Array Slot), Is S ad o0 a0 4 → Wd G cA S D ad A s H locs → lv_has ls 2 [(0, .ref a0), (1, .int x1)] → f_X5_isKnown S D o0 x1 = some r → W p l e R s m args below meth c H locs 0 0 (MQ below (Qn (some (.int r)) True (wpost G cA S D ad A) A) args s 0 0 A) (F0 m 0 ls []) := by
  obtain ⟨hx, hb, -⟩ := id hC
  intro o0 a0 x1 H locs ls hi0 hw hl h
  unfold f_X5_isKnown at h
  refine lv_aload_n hx hb dX5_isKnown_0 rfl (lv_at hl 0 rfl) ?_
  obtain ⟨o7, ho10, h⟩ := rq_i h
  refine r_getR hC hw kc_4 hi0 4 rfl lk_271 dX5_isKnown_1 rfl ho10 (fun a8 hi9 => ?_)
  refine lv_iload_n hx hb dX5_isKnown_4 rfl (lv_at hl 1 rfl) ?_
  refine lv_bipush (v := 6) hx hb dX5_isKnown_5 (by decide) ?_
  refine lv_ishr hx hb dX5_isKnown_7 ?_
  obtain ⟨hn11, h⟩ := ix_i h
  refine r_lald hC hw hi9 hn11 dX5_isKnown_8 ?_
  refine lv_iload_n hx hb dX5_isKnown_9 rfl (lv_at hl 1 rfl) ?_
  refine lv_bipush (v := 63) hx hb dX5_isKnown_10 (by decide) ?_
  refine lv_iand hx hb dX5_isKnown_12 ?_
  refine lv_lushr (v := j_lushr (gL D o7 (x1 >>> ((6 : Int32) &&& 31)).toNatClampNeg) (x1 &&& (63 : Int32))) hx hb dX5_isKnown_13 rfl ?_
  refine lv_lconst (v := 1) hx hb dX5_isKnown_14 (by decide) ?_
  refine lv_land hx hb dX5_isKnown_15 ?_
  refine lv_lconst (v := 0) hx hb dX5_isKnown_16 (by decide) ?_
  refine W.lcmp hx hb dX5_isKnown_17 ?_
  refine lv_if_eq (tgt := 25) hx hb dX5_isKnown_18 (by decide) (fun c12 => ?_) (fun c12 => ?_)
  · have h := i_yes c12 h
    refine lv_iconst (v := 0) hx hb dX5_isKnown_25 (by decide) ?_
    cases h
    exact r_zret hC hw (Or.inl rfl) dX5_isKnown_26
  · have h := i_no c12 h
    refine lv_iconst (v := 1) hx hb dX5_isKnown_21 (by decide) ?_
    refine lv_goto (tgt := 26) hx hb dX5_isKnown_22 (by decide) ?_
    cases h
    exact r_zret hC hw (Or.inr rfl) dX5_isKnown_26
set_option maxHeartbeats 4000000 in
set_option maxRecDepth 100000 in
theorem k_X5_isKnown {l : Launch} {G : va_G} {cA : Nat → ClassId} {S : sh} {D : dt} {ad : Nat → Nat} (sz : Nat) {o0 a0 : Nat} {x1 : Int32} {r : Int32} (hi0 : Is S ad o0 a0 4) (h : f_X5_isKnown S D o0 x1 = some r) : Co l yX5_isKnown (Cond.code yX5_isKnown cX5_isKnown 2 (some .boolean) :: tb0) 0 0 [.ref a0, .int x1] G cA S D ad sz (some (.int r)) True D := by
  refine Met.ofW (cc := cX5_isKnown) (maxL := 2) (ret := (some .boolean)) (by decide) rfl ?_
  intro p e s m args below meth c s₁ B hml hv
  obtain ⟨rfl, hsz, hP, hK, hD0, hT, hX⟩ := hv
  subst hsz
  have hts := atoms_spec (ws := Cond.code yX5_isKnown cX5_isKnown 2 (some .boolean) :: tb0) B.pre
  have hC : Cx RX5 cX5_isKnown 2 (some .boolean) p s m _ meth c := ⟨B.exec, B.bytes, hml, findClass_of_methodNamed B.named, fun w q => hts w (List.mem_cons_of_mem _ q), B.returns, B.notSynchronized⟩
  have hw := Wd.entry hP hK hD0 hT hX
  have hl := lv_entry ([.ref a0, .int x1]) (n := 2) (Nat.le_of_ble_eq_true rfl)
  rw [lg_entry_eq]
  exact w_X5_isKnown_0 hC ⟨Nat.le_refl _, Nat.le_refl _⟩ o0 a0 x1 _ _ _ hi0 hw hl h
set_option maxHeartbeats 4000000 in
set_option maxRecDepth 100000 in
theorem w_X5_areKnown_2 {r : Int32} (hC : Cx RX5 cX5_areKnown 4 (some .boolean) p s m args meth c) (hR : 1 ≤ R.frames ∧ 21 ≤ R.locals) : ∀ (n : Nat), ∀ (o0 a0 : Nat) (x1 : Int32) (x2 : Int32) (x3 : Int32) (H : Heap) (locs : List Loc) (ls : Array Slot), Is S ad o0 a0 4 → Wd G cA S D ad A s H locs → lv_has ls 4 [(0, .ref a0), (1, .int x1), (2, .int x2), (3, .int x3)] → f_X5_areKnown_2 S D n o0 x1 x2 x3 = some r → W p l e R s m args below meth c H locs 0 0 (MQ below (Qn (some (.int r)) True (wpost G cA S D ad A) A) args s 0 0 A) (F0 m 2 ls []) := by
  obtain ⟨hx, hb, -⟩ := id hC
  intro n
  induction n with
  | zero =>
    intro o0 a0 x1 x2 x3 H locs ls hi0 hw hl h
    rw [f_X5_areKnown_2.eq_1] at h
    cases h
  | succ n ih =>
    intro o0 a0 x1 x2 x3 H locs ls hi0 hw hl h
    rw [f_X5_areKnown_2.eq_2] at h
    refine lv_iload_n hx hb dX5_areKnown_2 rfl (lv_at hl 3 rfl) ?_
    refine lv_iload_n hx hb dX5_areKnown_3 rfl (lv_at hl 1 rfl) ?_
    refine lv_iload_n hx hb dX5_areKnown_4 rfl (lv_at hl 2 rfl) ?_
    refine lv_iadd hx hb dX5_areKnown_5 ?_
    refine lv_icmp_ge (tgt := 25) hx hb dX5_areKnown_6 (by decide) (fun c6 => ?_) (fun c6 => ?_)
    · have h := i_yes c6 h
      refine lv_iconst (v := 1) hx hb dX5_areKnown_25 (by decide) ?_
      cases h
      exact r_zret hC hw (Or.inr rfl) dX5_areKnown_26
    · have h := i_no c6 h
      refine lv_aload_n hx hb dX5_areKnown_9 rfl (lv_at hl 0 rfl) ?_
      refine lv_iload_n hx hb dX5_areKnown_10 rfl (lv_at hl 3 rfl) ?_
      obtain ⟨r8, hq7, h⟩ := pq_i h
      refine r_cV (st' := [.int r8]) [.int x3] [] hC hw kc_4 hi0 (k_X5_isKnown _ hi0 hq7) mk_X5_isKnown lk_620 ⟨Nat.le_trans (by decide) hR.1, Nat.le_trans (by decide) hR.2⟩ ⟨Nat.zero_le _, Nat.zero_le _⟩ rfl hl.1 rfl rfl (Nat.le_of_ble_eq_true rfl) dX5_areKnown_11 (fun hP H locs hw => ?_)
      refine lv_if_ne (tgt := 19) hx hb dX5_areKnown_14 (by decide) (fun c9 => ?_) (fun c9 => ?_)
      · have h := i_no c9 h
        obtain ⟨y10, ey10⟩ : ∃ z : Int32, z = x3 + 1 := ⟨_, rfl⟩
        have h := nm_i h y10 ey10
        refine lv_iinc (v := y10) (lv' := [(3, .int y10), (0, .ref a0), (1, .int x1), (2, .int x2)]) hx hb dX5_areKnown_19 hl (k := 3) rfl (by rw [ey10]; rfl) (by decide) rfl (fun ls hl => ?_)
        refine lv_goto (tgt := 2) hx hb dX5_areKnown_22 (by decide) ?_
        exact ih o0 a0 x1 x2 y10 _ _ _ hi0 hw (lv_sub hl [1, 2, 3, 0] rfl) h
      · have h := i_yes c9 h
        refine lv_iconst (v := 0) hx hb dX5_areKnown_17 (by decide) ?_
        cases h
        exact r_zret hC hw (Or.inl rfl) dX5_areKnown_18
set_option maxHeartbeats 4000000 in
set_option maxRecDepth 100000 in
theorem w_X5_areKnown_0 {r : Int32} (hC : Cx RX5 cX5_areKnown 4 (some .boolean) p s m args meth c) (hR : 1 ≤ R.frames ∧ 21 ≤ R.locals) : ∀ (o0 a0 : Nat) (x1 : Int32) (x2 : Int32) (H : Heap) (locs : List Loc) (ls : Array Slot), Is S ad o0 a0 4 → Wd G cA S D ad A s H locs → lv_has ls 4 [(0, .ref a0), (1, .int x1), (2, .int x2)] → f_X5_areKnown S D o0 x1 x2 = some r → W p l e R s m args below meth c H locs 0 0 (MQ below (Qn (some (.int r)) True (wpost G cA S D ad A) A) args s 0 0 A) (F0 m 0 ls []) := by
  obtain ⟨hx, hb, -⟩ := id hC
  intro o0 a0 x1 x2 H locs ls hi0 hw hl h
  unfold f_X5_areKnown at h
  refine lv_iload_n hx hb dX5_areKnown_0 rfl (lv_at hl 1 rfl) ?_
  refine lv_istore_n (lv' := [(3, .int x1), (0, .ref a0), (1, .int x1), (2, .int x2)]) hx hb dX5_areKnown_1 rfl hl (by decide) rfl (fun ls hl => ?_)
  exact w_X5_areKnown_2 hC hR LF o0 a0 x1 x2 x1 _ _ _ hi0 hw (lv_sub hl [1, 2, 3, 0] rfl) h
set_option maxHeartbeats 4000000 in
set_option maxRecDepth 100000 in
theorem k_X5_areKnown {l : Launch} {G : va_G} {cA : Nat → ClassId} {S : sh} {D : dt} {ad : Nat → Nat} (sz : Nat) {o0 a0 : Nat} {x1 : Int32} {x2 : Int32} {r : Int32} (hi0 : Is S ad o0 a0 4) (h : f_X5_areKnown S D o0 x1 x2 = some r) : Co l yX5_areKnown (Cond.code yX5_areKnown cX5_areKnown 4 (some .boolean) :: tb0) 1 21 [.ref a0, .int x1, .int x2] G cA S D ad sz (some (.int r)) True D := by
  refine Met.ofW (cc := cX5_areKnown) (maxL := 4) (ret := (some .boolean)) (by decide) rfl ?_
  intro p e s m args below meth c s₁ B hml hv
  obtain ⟨rfl, hsz, hP, hK, hD0, hT, hX⟩ := hv
  subst hsz
  have hts := atoms_spec (ws := Cond.code yX5_areKnown cX5_areKnown 4 (some .boolean) :: tb0) B.pre
  have hC : Cx RX5 cX5_areKnown 4 (some .boolean) p s m _ meth c := ⟨B.exec, B.bytes, hml, findClass_of_methodNamed B.named, fun w q => hts w (List.mem_cons_of_mem _ q), B.returns, B.notSynchronized⟩
  have hw := Wd.entry hP hK hD0 hT hX
  have hl := lv_entry ([.ref a0, .int x1, .int x2]) (n := 4) (Nat.le_of_ble_eq_true rfl)
  rw [lg_entry_eq]
  exact w_X5_areKnown_0 hC ⟨Nat.le_refl _, Nat.le_refl _⟩ o0 a0 x1 x2 _ _ _ hi0 hw hl h
set_option maxHeartbeats 4000000 in
set_option maxRecDepth 100000 in
theorem w_X5_move_0 {r : Unit} {D' : dt} (hC : Cx RX5 cX5_move 3 none p s m args meth c) (hR : 1 ≤ R.frames ∧ 26 ≤ R.locals) : ∀ (o0 a0 : Nat) (x1 : Int32) (x2 : Int32) (D : dt) (H : Heap) (locs : List Loc) (ls : Array Slot), Is S ad o0 a0 4 → Wd G cA S D ad A s H locs → lv_has ls 3 [(0, .ref a0), (1, .int x1), (2, .int x2)] → f_X5_move S o0 x1 x2 D = some (r, D') → W p l e R s m args below meth c H locs 0 0 (MQ below (Qn none True (wpost G cA S D' ad A) A) args s 0 0 A) (F0 m 0 ls []) := by
  obtain ⟨hx, hb, -⟩ := id hC
  intro o0 a0 x1 x2 D H locs ls hi0 hw hl h
  unfold f_X5_move at h
  refine lv_aload_n hx hb dX5_move_0 rfl (lv_at hl 0 rfl) ?_
  refine lv_iload_n hx hb dX5_move_1 rfl (lv_at hl 1 rfl) ?_
  refine lv_aload_n hx hb dX5_move_2 rfl (lv_at hl 0 rfl) ?_
  obtain ⟨o18, ho21, h⟩ := rq_i h
  refine r_getR hC hw kc_4 hi0 1 rfl lk_265 dX5_move_3 rfl ho21 (fun a19 hi20 => ?_)
  refine lv_iload_n hx hb dX5_move_6 rfl (lv_at hl 2 rfl) ?_
  obtain ⟨hn22, h⟩ := ix_i h
  refine r_iald hC hw hi20 hn22 dX5_move_7 ?_
  refine lv_aload_n hx hb dX5_move_8 rfl (lv_at hl 0 rfl) ?_
  obtain ⟨o23, ho26, h⟩ := rq_i h
  refine r_getR hC hw kc_4 hi0 2 rfl lk_267 dX5_move_9 rfl ho26 (fun a24 hi25 => ?_)
  refine lv_iload_n hx hb dX5_move_12 rfl (lv_at hl 2 rfl) ?_
  obtain ⟨hn27, h⟩ := ix_i h
  refine r_lald hC hw hi25 hn27 dX5_move_13 ?_
  refine lv_aload_n hx hb dX5_move_14 rfl (lv_at hl 0 rfl) ?_
  obtain ⟨o28, ho31, h⟩ := rq_i h
  refine r_getR hC hw kc_4 hi0 3 rfl lk_269 dX5_move_15 rfl ho31 (fun a29 hi30 => ?_)
  refine lv_iload_n hx hb dX5_move_18 rfl (lv_at hl 2 rfl) ?_
  obtain ⟨hn32, h⟩ := ix_i h
  refine r_lald hC hw hi30 hn32 dX5_move_19 ?_
  obtain ⟨_, D34, hq33, h⟩ := cq_i h
  refine r_cV (st' := []) [.int x1, .int (gI D o18 x2.toNatClampNeg), .long (gL D o23 x2.toNatClampNeg), .long (gL D o28 x2.toNatClampNeg)] [] hC hw kc_4 hi0 (k_X5_write _ hi0 hq33) mk_X5_write lk_479 ⟨Nat.le_trans (by decide) hR.1, Nat.le_trans (by decide) hR.2⟩ ⟨Nat.zero_le _, Nat.zero_le _⟩ rfl hl.1 rfl rfl (Nat.le_of_ble_eq_true rfl) dX5_move_20 (fun hP H locs hw => ?_)
  cases h
  exact r_vret hC hw dX5_move_23
set_option maxHeartbeats 4000000 in
set_option maxRecDepth 100000 in
theorem k_X5_move {l : Launch} {G : va_G} {cA : Nat → ClassId} {S : sh} {D D' : dt} {ad : Nat → Nat} (sz : Nat) {o0 a0 : Nat} {x1 : Int32} {x2 : Int32} {r : Unit} (hi0 : Is S ad o0 a0 4) (h : f_X5_move S o0 x1 x2 D = some (r, D')) : Co l yX5_move (Cond.code yX5_move cX5_move 3 none :: tb0) 1 26 [.ref a0, .int x1, .int x2] G cA S D ad sz none True D' := by
  refine Met.ofW (cc := cX5_move) (maxL := 3) (ret := none) (by decide) rfl ?_
  intro p e s m args below meth c s₁ B hml hv
  obtain ⟨rfl, hsz, hP, hK, hD0, hT, hX⟩ := hv
  subst hsz
  have hts := atoms_spec (ws := Cond.code yX5_move cX5_move 3 none :: tb0) B.pre
  have hC : Cx RX5 cX5_move 3 none p s m _ meth c := ⟨B.exec, B.bytes, hml, findClass_of_methodNamed B.named, fun w q => hts w (List.mem_cons_of_mem _ q), B.returns, B.notSynchronized⟩
  have hw := Wd.entry hP hK hD0 hT hX
  have hl := lv_entry ([.ref a0, .int x1, .int x2]) (n := 3) (Nat.le_of_ble_eq_true rfl)
  rw [lg_entry_eq]
  exact w_X5_move_0 hC ⟨Nat.le_refl _, Nat.le_refl _⟩ o0 a0 x1 x2 D _ _ _ hi0 hw hl h
set_option maxHeartbeats 4000000 in
set_option maxRecDepth 100000 in
theorem w_X5_writeAny_24 {r : Unit} {D' : dt} (hC : Cx RX5 cX5_writeAny 3 none p s m args meth c) (hR : 1 ≤ R.frames ∧ 26 ≤ R.locals) : ∀ (os0 as0 : Nat) (xs1 : Int32) (xs2 : Int32) (xs3 : Int64) (xs4 : Int64) (D : dt) (H : Heap) (locs : List Loc) (ls : Array Slot), Is S ad os0 as0 4 → Wd G cA S D ad A s H locs → lv_has ls 3 [] → f_X5_writeAny_24 S os0 xs1 xs2 xs3 xs4 D = some (r, D') → W p l e R s m args below meth c H locs 0 0 (MQ below (Qn none True (wpost G cA S D' ad A) A) args s 0 0 A) (F0 m 24 ls [.long xs4, .long xs3, .int xs2, .int xs1, .ref as0]) := by
  obtain ⟨hx, hb, -⟩ := id hC
  intro os0 as0 xs1 xs2 xs3 xs4 D H locs ls his0 hw hl h
  unfold f_X5_writeAny_24 at h
  obtain ⟨_, D5, hq4, h⟩ := cq_i h
  refine r_cV (st' := []) [.int xs1, .int xs2, .long xs3, .long xs4] [] hC hw kc_4 his0 (k_X5_write _ his0 hq4) mk_X5_write lk_479 ⟨Nat.le_trans (by decide) hR.1, Nat.le_trans (by decide) hR.2⟩ ⟨Nat.zero_le _, Nat.zero_le _⟩ rfl hl.1 rfl rfl (Nat.le_of_ble_eq_true rfl) dX5_writeAny_24 (fun hP H locs hw => ?_)
  cases h
  exact r_vret hC hw dX5_writeAny_27
set_option maxHeartbeats 4000000 in
set_option maxRecDepth 100000 in
theorem w_X5_writeAny_0 {r : Unit} {D' : dt} (hC : Cx RX5 cX5_writeAny 3 none p s m args meth c) (hR : 1 ≤ R.frames ∧ 26 ≤ R.locals) : ∀ (o0 a0 : Nat) (x1 : Int32) (x2 : Int32) (D : dt) (H : Heap) (locs : List Loc) (ls : Array Slot), Is S ad o0 a0 4 → Wd G cA S D ad A s H locs → lv_has ls 3 [(0, .ref a0), (1, .int x1), (2, .int x2)] → f_X5_writeAny S o0 x1 x2 D = some (r, D') → W p l e R s m args below meth c H locs 0 0 (MQ below (Qn none True (wpost G cA S D' ad A) A) args s 0 0 A) (F0 m 0 ls []) := by
  obtain ⟨hx, hb, -⟩ := id hC
  intro o0 a0 x1 x2 D H locs ls hi0 hw hl h
  unfold f_X5_writeAny at h
  refine lv_aload_n hx hb dX5_writeAny_0 rfl (lv_at hl 0 rfl) ?_
  refine lv_iload_n hx hb dX5_writeAny_1 rfl (lv_at hl 1 rfl) ?_
  refine lv_iconst (v := 1) hx hb dX5_writeAny_2 (by decide) ?_
  refine lv_lconst (v := 0) hx hb dX5_writeAny_3 (by decide) ?_
  refine lv_iload_n hx hb dX5_writeAny_4 rfl (lv_at hl 2 rfl) ?_
  refine lv_bipush (v := 8) hx hb dX5_writeAny_5 (by decide) ?_
  refine lv_icmp_ne (tgt := 16) hx hb dX5_writeAny_7 (by decide) (fun c6 => ?_) (fun c6 => ?_)
  · have h := i_no c6 h
    refine lv_lconst (v := 1) hx hb dX5_writeAny_16 (by decide) ?_
    refine lv_bipush (v := 8) hx hb dX5_writeAny_17 (by decide) ?_
    refine lv_iload_n hx hb dX5_writeAny_19 rfl (lv_at hl 2 rfl) ?_
    refine lv_imul hx hb dX5_writeAny_20 ?_
    refine lv_lshl (v := j_lshl (1 : Int64) ((8 : Int32) * x2)) hx hb dX5_writeAny_21 rfl ?_
    refine lv_lconst (v := 1) hx hb dX5_writeAny_22 (by decide) ?_
    refine lv_lsub hx hb dX5_writeAny_23 ?_
    exact w_X5_writeAny_24 hC hR o0 a0 x1 (1 : Int32) (0 : Int64) ((j_lshl (1 : Int64) ((8 : Int32) * x2)) - (1 : Int64)) _ _ _ _ hi0 hw (lv_sub hl [] rfl) h
  · have h := i_yes c6 h
    refine lv_ldc2 (v := (-1)) hx hb hC.2.2.2.1 (hC.2.2.2.2.1 _ lk_633) dX5_writeAny_10 ?_
    refine lv_goto (tgt := 24) hx hb dX5_writeAny_13 (by decide) ?_
    exact w_X5_writeAny_24 hC hR o0 a0 x1 (1 : Int32) (0 : Int64) (-1 : Int64) _ _ _ _ hi0 hw (lv_sub hl [] rfl) h
set_option maxHeartbeats 4000000 in
set_option maxRecDepth 100000 in
theorem k_X5_writeAny {l : Launch} {G : va_G} {cA : Nat → ClassId} {S : sh} {D D' : dt} {ad : Nat → Nat} (sz : Nat) {o0 a0 : Nat} {x1 : Int32} {x2 : Int32} {r : Unit} (hi0 : Is S ad o0 a0 4) (h : f_X5_writeAny S o0 x1 x2 D = some (r, D')) : Co l yX5_writeAny (Cond.code yX5_writeAny cX5_writeAny 3 none :: tb0) 1 26 [.ref a0, .int x1, .int x2] G cA S D ad sz none True D' := by
  refine Met.ofW (cc := cX5_writeAny) (maxL := 3) (ret := none) (by decide) rfl ?_
  intro p e s m args below meth c s₁ B hml hv
  obtain ⟨rfl, hsz, hP, hK, hD0, hT, hX⟩ := hv
  subst hsz
  have hts := atoms_spec (ws := Cond.code yX5_writeAny cX5_writeAny 3 none :: tb0) B.pre
  have hC : Cx RX5 cX5_writeAny 3 none p s m _ meth c := ⟨B.exec, B.bytes, hml, findClass_of_methodNamed B.named, fun w q => hts w (List.mem_cons_of_mem _ q), B.returns, B.notSynchronized⟩
  have hw := Wd.entry hP hK hD0 hT hX
  have hl := lv_entry ([.ref a0, .int x1, .int x2]) (n := 3) (Nat.le_of_ble_eq_true rfl)
  rw [lg_entry_eq]
  exact w_X5_writeAny_0 hC ⟨Nat.le_refl _, Nat.le_refl _⟩ o0 a0 x1 x2 D _ _ _ hi0 hw hl h
set_option maxHeartbeats 4000000 in
set_option maxRecDepth 100000 in
theorem w_X5_isNumber_0 {r : Int32} (hC : Cx RX5 cX5_isNumber 2 (some .boolean) p s m args meth c) (hR : 0 ≤ R.frames ∧ 0 ≤ R.locals) : ∀ (o0 a0 : Nat) (x1 : Int32) (H : Heap) (locs : List Loc) (ls : Array Slot), Is S ad o0 a0 4 → Wd G cA S D ad A s H locs → lv_has ls 2 [(0, .ref a0), (1, .int x1)] → f_X5_isNumber S D o0 x1 = some r → W p l e R s m args below meth c H locs 0 0 (MQ below (Qn (some (.int r)) True (wpost G cA S D ad A) A) args s 0 0 A) (F0 m 0 ls []) := by
  obtain ⟨hx, hb, -⟩ := id hC
  intro o0 a0 x1 H locs ls hi0 hw hl h
  unfold f_X5_isNumber at h
  refine lv_aload_n hx hb dX5_isNumber_0 rfl (lv_at hl 0 rfl) ?_
  obtain ⟨o7, ho10, h⟩ := rq_i h
  refine r_getR hC hw kc_4 hi0 1 rfl lk_265 dX5_isNumber_1 rfl ho10 (fun a8 hi9 => ?_)
  refine lv_iload_n hx hb dX5_isNumber_4 rfl (lv_at hl 1 rfl) ?_
  obtain ⟨hn11, h⟩ := ix_i h
  refine r_iald hC hw hi9 hn11 dX5_isNumber_5 ?_
  refine lv_iconst (v := 1) hx hb dX5_isNumber_6 (by decide) ?_
  refine lv_icmp_ne (tgt := 14) hx hb dX5_isNumber_7 (by decide) (fun c12 => ?_) (fun c12 => ?_)
  · have h := i_no c12 h
    refine lv_iconst (v := 0) hx hb dX5_isNumber_14 (by decide) ?_
    cases h
    exact r_zret hC hw (Or.inl rfl) dX5_isNumber_15
  · have h := i_yes c12 h
    refine lv_iconst (v := 1) hx hb dX5_isNumber_10 (by decide) ?_
    refine lv_goto (tgt := 15) hx hb dX5_isNumber_11 (by decide) ?_
    cases h
    exact r_zret hC hw (Or.inr rfl) dX5_isNumber_15
set_option maxHeartbeats 4000000 in
set_option maxRecDepth 100000 in
theorem k_X5_isNumber {l : Launch} {G : va_G} {cA : Nat → ClassId} {S : sh} {D : dt} {ad : Nat → Nat} (sz : Nat) {o0 a0 : Nat} {x1 : Int32} {r : Int32} (hi0 : Is S ad o0 a0 4) (h : f_X5_isNumber S D o0 x1 = some r) : Co l yX5_isNumber (Cond.code yX5_isNumber cX5_isNumber 2 (some .boolean) :: tb0) 0 0 [.ref a0, .int x1] G cA S D ad sz (some (.int r)) True D := by
  refine Met.ofW (cc := cX5_isNumber) (maxL := 2) (ret := (some .boolean)) (by decide) rfl ?_
  intro p e s m args below meth c s₁ B hml hv
  obtain ⟨rfl, hsz, hP, hK, hD0, hT, hX⟩ := hv
  subst hsz
  have hts := atoms_spec (ws := Cond.code yX5_isNumber cX5_isNumber 2 (some .boolean) :: tb0) B.pre
  have hC : Cx RX5 cX5_isNumber 2 (some .boolean) p s m _ meth c := ⟨B.exec, B.bytes, hml, findClass_of_methodNamed B.named, fun w q => hts w (List.mem_cons_of_mem _ q), B.returns, B.notSynchronized⟩
  have hw := Wd.entry hP hK hD0 hT hX
  have hl := lv_entry ([.ref a0, .int x1]) (n := 2) (Nat.le_of_ble_eq_true rfl)
  rw [lg_entry_eq]
  exact w_X5_isNumber_0 hC ⟨Nat.le_refl _, Nat.le_refl _⟩ o0 a0 x1 _ _ _ hi0 hw hl h
set_option maxHeartbeats 4000000 in
set_option maxRecDepth 100000 in
theorem w_X5_knowCell_50 {r : Unit} {D' : dt} (hC : Cx RX5 cX5_knowCell 5 none p s m args meth c) (hR : 0 ≤ R.frames ∧ 0 ≤ R.locals) : ∀ (os0 as0 : Nat) (xs1 : Int32) (xs2 : Int64) (D : dt) (H : Heap) (locs : List Loc) (ls : Array Slot), Is S ad os0 as0 101 → Wd G cA S D ad A s H locs → lv_has ls 5 [] → f_X5_knowCell_50 S os0 xs1 xs2 D = some (r, D') → W p l e R s m args below meth c H locs 0 0 (MQ below (Qn none True (wpost G cA S D' ad A) A) args s 0 0 A) (F0 m 50 ls [.long xs2, .int xs1, .ref as0]) := by
  obtain ⟨hx, hb, -⟩ := id hC
  intro os0 as0 xs1 xs2 D H locs ls his0 hw hl h
  unfold f_X5_knowCell_50 at h
  obtain ⟨hn19, h⟩ := ix_i h
  refine r_las hC hw his0 hn19 dX5_knowCell_50 (fun D20 eD20 H locs hw => ?_)
  have h := nm_i h D20 eD20
  cases h
  exact r_vret hC hw dX5_knowCell_51
set_option maxHeartbeats 4000000 in
set_option maxRecDepth 100000 in
theorem w_X5_knowCell_0 {r : Unit} {D' : dt} (hC : Cx RX5 cX5_knowCell 5 none p s m args meth c) (hR : 0 ≤ R.frames ∧ 0 ≤ R.locals) : ∀ (o0 a0 : Nat) (x1 : Int32) (x2 : Int32) (D : dt) (H : Heap) (locs : List Loc) (ls : Array Slot), Is S ad o0 a0 4 → Wd G cA S D ad A s H locs → lv_has ls 5 [(0, .ref a0), (1, .int x1), (2, .int x2)] → f_X5_knowCell S o0 x1 x2 D = some (r, D') → W p l e R s m args below meth c H locs 0 0 (MQ below (Qn none True (wpost G cA S D' ad A) A) args s 0 0 A) (F0 m 0 ls []) := by
  obtain ⟨hx, hb, -⟩ := id hC
  intro o0 a0 x1 x2 D H locs ls hi0 hw hl h
  unfold f_X5_knowCell at h
  refine lv_ldc2 (v := 255) hx hb hC.2.2.2.1 (hC.2.2.2.2.1 _ lk_653) dX5_knowCell_0 ?_
  refine lv_bipush (v := 8) hx hb dX5_knowCell_3 (by decide) ?_
  refine lv_iload_n hx hb dX5_knowCell_5 rfl (lv_at hl 1 rfl) ?_
  refine lv_bipush (v := 7) hx hb dX5_knowCell_6 (by decide) ?_
  refine lv_iand hx hb dX5_knowCell_8 ?_
  refine lv_imul hx hb dX5_knowCell_9 ?_
  refine lv_lshl (v := j_lshl (255 : Int64) ((8 : Int32) * (x1 &&& (7 : Int32)))) hx hb dX5_knowCell_10 rfl ?_
  refine lv_topl (fun y21 ey21 => ?_)
  have h := nm_i h y21 ey21
  refine lv_lstore_n (lv' := [(3, .long y21), (0, .ref a0), (1, .int x1), (2, .int x2)]) hx hb dX5_knowCell_11 rfl hl (by decide) rfl (fun ls hl => ?_)
  refine lv_aload_n hx hb dX5_knowCell_12 rfl (lv_at hl 1 rfl) ?_
  obtain ⟨o22, ho25, h⟩ := rq_i h
  refine r_getR hC hw kc_4 hi0 4 rfl lk_271 dX5_knowCell_13 rfl ho25 (fun a23 hi24 => ?_)
  refine lv_iload_n hx hb dX5_knowCell_16 rfl (lv_at hl 2 rfl) ?_
  refine lv_iconst (v := 3) hx hb dX5_knowCell_17 (by decide) ?_
  refine lv_ishr hx hb dX5_knowCell_18 ?_
  refine lv_iload_n hx hb dX5_knowCell_19 rfl (lv_at hl 3 rfl) ?_
  refine lv_if_eq (tgt := 36) hx hb dX5_knowCell_20 (by decide) (fun c26 => ?_) (fun c26 => ?_)
  · have h := i_yes c26 h
    refine lv_aload_n hx hb dX5_knowCell_36 rfl (lv_at hl 1 rfl) ?_
    obtain ⟨o27, ho30, h⟩ := rq_i h
    refine r_getR hC hw kc_4 hi0 4 rfl lk_271 dX5_knowCell_37 rfl ho30 (fun a28 hi29 => ?_)
    refine lv_iload_n hx hb dX5_knowCell_40 rfl (lv_at hl 2 rfl) ?_
    refine lv_iconst (v := 3) hx hb dX5_knowCell_41 (by decide) ?_
    refine lv_ishr hx hb dX5_knowCell_42 ?_
    obtain ⟨hn31, h⟩ := ix_i h
    refine r_lald hC hw hi29 hn31 dX5_knowCell_43 ?_
    refine lv_lload_n hx hb dX5_knowCell_44 rfl (lv_at hl 0 rfl) ?_
    refine lv_ldc2 (v := (-1)) hx hb hC.2.2.2.1 (hC.2.2.2.2.1 _ lk_633) dX5_knowCell_45 ?_
    refine lv_lxor hx hb dX5_knowCell_48 ?_
    refine lv_land hx hb dX5_knowCell_49 ?_
    exact w_X5_knowCell_50 hC hR o22 a23 (x1 >>> ((3 : Int32) &&& 31)) ((gL D o27 (x1 >>> ((3 : Int32) &&& 31)).toNatClampNeg) &&& (y21 ^^^ (-1 : Int64))) _ _ _ _ hi24 hw (lv_sub hl [] rfl) h
  · have h := i_no c26 h
    refine lv_aload_n hx hb dX5_knowCell_23 rfl (lv_at hl 1 rfl) ?_
    obtain ⟨o32, ho35, h⟩ := rq_i h
    refine r_getR hC hw kc_4 hi0 4 rfl lk_271 dX5_knowCell_24 rfl ho35 (fun a33 hi34 => ?_)
    refine lv_iload_n hx hb dX5_knowCell_27 rfl (lv_at hl 2 rfl) ?_
    refine lv_iconst (v := 3) hx hb dX5_knowCell_28 (by decide) ?_
    refine lv_ishr hx hb dX5_knowCell_29 ?_
    obtain ⟨hn36, h⟩ := ix_i h
    refine r_lald hC hw hi34 hn36 dX5_knowCell_30 ?_
    refine lv_lload_n hx hb dX5_knowCell_31 rfl (lv_at hl 0 rfl) ?_
    refine lv_lor hx hb dX5_knowCell_32 ?_
    refine lv_goto (tgt := 50) hx hb dX5_knowCell_33 (by decide) ?_
    exact w_X5_knowCell_50 hC hR o22 a23 (x1 >>> ((3 : Int32) &&& 31)) ((gL D o32 (x1 >>> ((3 : Int32) &&& 31)).toNatClampNeg) ||| y21) _ _ _ _ hi24 hw (lv_sub hl [] rfl) h
set_option maxHeartbeats 4000000 in
set_option maxRecDepth 100000 in
theorem k_X5_knowCell {l : Launch} {G : va_G} {cA : Nat → ClassId} {S : sh} {D D' : dt} {ad : Nat → Nat} (sz : Nat) {o0 a0 : Nat} {x1 : Int32} {x2 : Int32} {r : Unit} (hi0 : Is S ad o0 a0 4) (h : f_X5_knowCell S o0 x1 x2 D = some (r, D')) : Co l yX5_knowCell (Cond.code yX5_knowCell cX5_knowCell 5 none :: tb0) 0 0 [.ref a0, .int x1, .int x2] G cA S D ad sz none True D' := by
  refine Met.ofW (cc := cX5_knowCell) (maxL := 5) (ret := none) (by decide) rfl ?_
  intro p e s m args below meth c s₁ B hml hv
  obtain ⟨rfl, hsz, hP, hK, hD0, hT, hX⟩ := hv
  subst hsz
  have hts := atoms_spec (ws := Cond.code yX5_knowCell cX5_knowCell 5 none :: tb0) B.pre
  have hC : Cx RX5 cX5_knowCell 5 none p s m _ meth c := ⟨B.exec, B.bytes, hml, findClass_of_methodNamed B.named, fun w q => hts w (List.mem_cons_of_mem _ q), B.returns, B.notSynchronized⟩
  have hw := Wd.entry hP hK hD0 hT hX
  have hl := lv_entry ([.ref a0, .int x1, .int x2]) (n := 5) (Nat.le_of_ble_eq_true rfl)
  rw [lg_entry_eq]
  exact w_X5_knowCell_0 hC ⟨Nat.le_refl _, Nat.le_refl _⟩ o0 a0 x1 x2 D _ _ _ hi0 hw hl h
set_option maxHeartbeats 4000000 in
set_option maxRecDepth 100000 in
theorem w_X5_hold_0 {r : Unit} {D' : dt} (hC : Cx RX5 cX5_hold 3 none p s m args meth c) (hR : 2 ≤ R.frames ∧ 48 ≤ R.locals) : ∀ (o0 a0 : Nat) (x1 : Int32) (x2 : Int32) (D : dt) (H : Heap) (locs : List Loc) (ls : Array Slot), Is S ad o0 a0 4 → Wd G cA S D ad A s H locs → lv_has ls 3 [(0, .ref a0), (1, .int x1), (2, .int x2)] → f_X5_hold S o0 x1 x2 D = some (r, D') → W p l e R s m args below meth c H locs 0 0 (MQ below (Qn none True (wpost G cA S D' ad A) A) args s 0 0 A) (F0 m 0 ls []) := by
  obtain ⟨hx, hb, -⟩ := id hC
  intro o0 a0 x1 x2 D H locs ls hi0 hw hl h
  unfold f_X5_hold at h
  refine lv_aload_n hx hb dX5_hold_0 rfl (lv_at hl 0 rfl) ?_
  refine lv_dup hx hb dX5_hold_1 rfl ?_
  refine r_gL hC hw kc_4 hi0 5 rfl lk_272 dX5_hold_2 ?_
  refine lv_lconst (v := 1) hx hb dX5_hold_5 (by decide) ?_
  refine lv_iload_n hx hb dX5_hold_6 rfl (lv_at hl 1 rfl) ?_
  refine lv_lshl (v := j_lshl (1 : Int64) x1) hx hb dX5_hold_7 rfl ?_
  refine lv_lor hx hb dX5_hold_8 ?_
  refine r_pL hC hw kc_4 hi0 5 rfl lk_272 rfl rfl rfl dX5_hold_9 (fun D8 eD8 H locs hw => ?_)
  have h := nm_i h D8 eD8
  refine lv_aload_n hx hb dX5_hold_12 rfl (lv_at hl 0 rfl) ?_
  refine lv_bipush (v := 11) hx hb dX5_hold_13 (by decide) ?_
  refine lv_iload_n hx hb dX5_hold_15 rfl (lv_at hl 1 rfl) ?_
  refine lv_iadd hx hb dX5_hold_16 ?_
  refine lv_iload_n hx hb dX5_hold_17 rfl (lv_at hl 2 rfl) ?_
  obtain ⟨_, D10, hq9, h⟩ := cq_i h
  refine r_cV (st' := []) [.int ((11 : Int32) + x1), .int x2] [] hC hw kc_4 hi0 (k_X5_move _ hi0 hq9) mk_X5_move lk_647 ⟨Nat.le_trans (by decide) hR.1, Nat.le_trans (by decide) hR.2⟩ ⟨Nat.zero_le _, Nat.zero_le _⟩ rfl hl.1 rfl rfl (Nat.le_of_ble_eq_true rfl) dX5_hold_18 (fun hP H locs hw => ?_)
  refine lv_aload_n hx hb dX5_hold_21 rfl (lv_at hl 0 rfl) ?_
  refine lv_iload_n hx hb dX5_hold_22 rfl (lv_at hl 1 rfl) ?_
  refine lv_aload_n hx hb dX5_hold_23 rfl (lv_at hl 0 rfl) ?_
  refine lv_iload_n hx hb dX5_hold_24 rfl (lv_at hl 2 rfl) ?_
  obtain ⟨r12, hq11, h⟩ := pq_i h
  refine r_cV (st' := [.int r12, .int x1, .ref a0]) [.int x2] [.int x1, .ref a0] hC hw kc_4 hi0 (k_X5_isNumber _ hi0 hq11) mk_X5_isNumber lk_648 ⟨Nat.le_trans (by decide) hR.1, Nat.le_trans (by decide) hR.2⟩ ⟨Nat.zero_le _, Nat.zero_le _⟩ rfl hl.1 rfl rfl (Nat.le_of_ble_eq_true rfl) dX5_hold_25 (fun hP H locs hw => ?_)
  obtain ⟨_, D14, hq13, h⟩ := cq_i h
  refine r_cV (st' := []) [.int x1, .int r12] [] hC hw kc_4 hi0 (k_X5_knowCell _ hi0 hq13) mk_X5_knowCell lk_649 ⟨Nat.le_trans (by decide) hR.1, Nat.le_trans (by decide) hR.2⟩ ⟨Nat.zero_le _, Nat.zero_le _⟩ rfl hl.1 rfl rfl (Nat.le_of_ble_eq_true rfl) dX5_hold_28 (fun hP H locs hw => ?_)
  cases h
  exact r_vret hC hw dX5_hold_31
set_option maxHeartbeats 4000000 in
set_option maxRecDepth 100000 in
theorem k_X5_hold {l : Launch} {G : va_G} {cA : Nat → ClassId} {S : sh} {D D' : dt} {ad : Nat → Nat} (sz : Nat) {o0 a0 : Nat} {x1 : Int32} {x2 : Int32} {r : Unit} (hi0 : Is S ad o0 a0 4) (h : f_X5_hold S o0 x1 x2 D = some (r, D')) : Co l yX5_hold (Cond.code yX5_hold cX5_hold 3 none :: tb0) 2 48 [.ref a0, .int x1, .int x2] G cA S D ad sz none True D' := by
  refine Met.ofW (cc := cX5_hold) (maxL := 3) (ret := none) (by decide) rfl ?_
  intro p e s m args below meth c s₁ B hml hv
  obtain ⟨rfl, hsz, hP, hK, hD0, hT, hX⟩ := hv
  subst hsz
  have hts := atoms_spec (ws := Cond.code yX5_hold cX5_hold 3 none :: tb0) B.pre
  have hC : Cx RX5 cX5_hold 3 none p s m _ meth c := ⟨B.exec, B.bytes, hml, findClass_of_methodNamed B.named, fun w q => hts w (List.mem_cons_of_mem _ q), B.returns, B.notSynchronized⟩
  have hw := Wd.entry hP hK hD0 hT hX
  have hl := lv_entry ([.ref a0, .int x1, .int x2]) (n := 3) (Nat.le_of_ble_eq_true rfl)
  rw [lg_entry_eq]
  exact w_X5_hold_0 hC ⟨Nat.le_refl _, Nat.le_refl _⟩ o0 a0 x1 x2 D _ _ _ hi0 hw hl h
set_option maxHeartbeats 4000000 in
set_option maxRecDepth 100000 in
theorem w_X5_holdNothing_0 {r : Unit} {D' : dt} (hC : Cx RX5 cX5_holdNothing 2 none p s m args meth c) (hR : 0 ≤ R.frames ∧ 0 ≤ R.locals) : ∀ (o0 a0 : Nat) (x1 : Int32) (D : dt) (H : Heap) (locs : List Loc) (ls : Array Slot), Is S ad o0 a0 4 → Wd G cA S D ad A s H locs → lv_has ls 2 [(0, .ref a0), (1, .int x1)] → f_X5_holdNothing S o0 x1 D = some (r, D') → W p l e R s m args below meth c H locs 0 0 (MQ below (Qn none True (wpost G cA S D' ad A) A) args s 0 0 A) (F0 m 0 ls []) := by
  obtain ⟨hx, hb, -⟩ := id hC
  intro o0 a0 x1 D H locs ls hi0 hw hl h
  unfold f_X5_holdNothing at h
  refine lv_aload_n hx hb dX5_holdNothing_0 rfl (lv_at hl 0 rfl) ?_
  refine lv_dup hx hb dX5_holdNothing_1 rfl ?_
  refine r_gL hC hw kc_4 hi0 5 rfl lk_272 dX5_holdNothing_2 ?_
  refine lv_lconst (v := 1) hx hb dX5_holdNothing_5 (by decide) ?_
  refine lv_iload_n hx hb dX5_holdNothing_6 rfl (lv_at hl 1 rfl) ?_
  refine lv_lshl (v := j_lshl (1 : Int64) x1) hx hb dX5_holdNothing_7 rfl ?_
  refine lv_ldc2 (v := (-1)) hx hb hC.2.2.2.1 (hC.2.2.2.2.1 _ lk_633) dX5_holdNothing_8 ?_
  refine lv_lxor hx hb dX5_holdNothing_11 ?_
  refine lv_land hx hb dX5_holdNothing_12 ?_
  refine r_pL hC hw kc_4 hi0 5 rfl lk_272 rfl rfl rfl dX5_holdNothing_13 (fun D2 eD2 H locs hw => ?_)
  have h := nm_i h D2 eD2
  cases h
  exact r_vret hC hw dX5_holdNothing_16
set_option maxHeartbeats 4000000 in
set_option maxRecDepth 100000 in
theorem k_X5_holdNothing {l : Launch} {G : va_G} {cA : Nat → ClassId} {S : sh} {D D' : dt} {ad : Nat → Nat} (sz : Nat) {o0 a0 : Nat} {x1 : Int32} {r : Unit} (hi0 : Is S ad o0 a0 4) (h : f_X5_holdNothing S o0 x1 D = some (r, D')) : Co l yX5_holdNothing (Cond.code yX5_holdNothing cX5_holdNothing 2 none :: tb0) 0 0 [.ref a0, .int x1] G cA S D ad sz none True D' := by
  refine Met.ofW (cc := cX5_holdNothing) (maxL := 2) (ret := none) (by decide) rfl ?_
  intro p e s m args below meth c s₁ B hml hv
  obtain ⟨rfl, hsz, hP, hK, hD0, hT, hX⟩ := hv
  subst hsz
  have hts := atoms_spec (ws := Cond.code yX5_holdNothing cX5_holdNothing 2 none :: tb0) B.pre
  have hC : Cx RX5 cX5_holdNothing 2 none p s m _ meth c := ⟨B.exec, B.bytes, hml, findClass_of_methodNamed B.named, fun w q => hts w (List.mem_cons_of_mem _ q), B.returns, B.notSynchronized⟩
  have hw := Wd.entry hP hK hD0 hT hX
  have hl := lv_entry ([.ref a0, .int x1]) (n := 2) (Nat.le_of_ble_eq_true rfl)
  rw [lg_entry_eq]
  exact w_X5_holdNothing_0 hC ⟨Nat.le_refl _, Nat.le_refl _⟩ o0 a0 x1 D _ _ _ hi0 hw hl h
set_option maxHeartbeats 4000000 in
set_option maxRecDepth 100000 in
theorem w_X5_putOctets_2 {r : Unit} {D' : dt} (hC : Cx RX5 cX5_putOctets 4 none p s m args meth c) (hR : 1 ≤ R.frames ∧ 21 ≤ R.locals) : ∀ (n : Nat), ∀ (o0 a0 : Nat) (x1 : Int32) (x2 : Int32) (x3 : Int32) (D : dt) (H : Heap) (locs : List Loc) (ls : Array Slot), Is S ad o0 a0 4 → Wd G cA S D ad A s H locs → lv_has ls 4 [(0, .ref a0), (1, .int x1), (2, .int x2), (3, .int x3)] → f_X5_putOctets_2 S n o0 x1 x2 x3 D = some (r, D') → W p l e R s m args below meth c H locs 0 0 (MQ below (Qn none True (wpost G cA S D' ad A) A) args s 0 0 A) (F0 m 2 ls []) := by
  obtain ⟨hx, hb, -⟩ := id hC
  intro n
  induction n with
  | zero =>
    intro o0 a0 x1 x2 x3 D H locs ls hi0 hw hl h
    rw [f_X5_putOctets_2.eq_1] at h
    cases h
  | succ n ih =>
    intro o0 a0 x1 x2 x3 D H locs ls hi0 hw hl h
    rw [f_X5_putOctets_2.eq_2] at h
    refine lv_iload_n hx hb dX5_putOctets_2 rfl (lv_at hl 3 rfl) ?_
    refine lv_iload_n hx hb dX5_putOctets_3 rfl (lv_at hl 1 rfl) ?_
    refine lv_iload_n hx hb dX5_putOctets_4 rfl (lv_at hl 2 rfl) ?_
    refine lv_iadd hx hb dX5_putOctets_5 ?_
    refine lv_icmp_ge (tgt := 40) hx hb dX5_putOctets_6 (by decide) (fun c12 => ?_) (fun c12 => ?_)
    · have h := i_yes c12 h
      cases h
      exact r_vret hC hw dX5_putOctets_40
    · have h := i_no c12 h
      refine lv_aload_n hx hb dX5_putOctets_9 rfl (lv_at hl 0 rfl) ?_
      obtain ⟨o13, ho16, h⟩ := rq_i h
      refine r_getR hC hw kc_4 hi0 4 rfl lk_271 dX5_putOctets_10 rfl ho16 (fun a14 hi15 => ?_)
      refine lv_iload_n hx hb dX5_putOctets_13 rfl (lv_at hl 3 rfl) ?_
      refine lv_bipush (v := 6) hx hb dX5_putOctets_14 (by decide) ?_
      refine lv_ishr hx hb dX5_putOctets_16 ?_
      refine lv_dup2_11 hx hb dX5_putOctets_17 rfl rfl ?_
      obtain ⟨hn17, h⟩ := ix_i h
      refine r_lald hC hw hi15 hn17 dX5_putOctets_18 ?_
      refine lv_lconst (v := 1) hx hb dX5_putOctets_19 (by decide) ?_
      refine lv_iload_n hx hb dX5_putOctets_20 rfl (lv_at hl 3 rfl) ?_
      refine lv_bipush (v := 63) hx hb dX5_putOctets_21 (by decide) ?_
      refine lv_iand hx hb dX5_putOctets_23 ?_
      refine lv_lshl (v := j_lshl (1 : Int64) (x3 &&& (63 : Int32))) hx hb dX5_putOctets_24 rfl ?_
      refine lv_lor hx hb dX5_putOctets_25 ?_
      obtain ⟨hn18, h⟩ := ix_i h
      refine r_las hC hw hi15 hn18 dX5_putOctets_26 (fun D19 eD19 H locs hw => ?_)
      have h := nm_i h D19 eD19
      refine lv_aload_n hx hb dX5_putOctets_27 rfl (lv_at hl 0 rfl) ?_
      refine lv_iload_n hx hb dX5_putOctets_28 rfl (lv_at hl 3 rfl) ?_
      refine lv_iconst (v := 3) hx hb dX5_putOctets_29 (by decide) ?_
      refine lv_ishr hx hb dX5_putOctets_30 ?_
      obtain ⟨_, D21, hq20, h⟩ := cq_i h
      refine r_cV (st' := []) [.int (x3 >>> ((3 : Int32) &&& 31))] [] hC hw kc_4 hi0 (k_X5_holdNothing _ hi0 hq20) mk_X5_holdNothing lk_658 ⟨Nat.le_trans (by decide) hR.1, Nat.le_trans (by decide) hR.2⟩ ⟨Nat.zero_le _, Nat.zero_le _⟩ rfl hl.1 rfl rfl (Nat.le_of_ble_eq_true rfl) dX5_putOctets_31 (fun hP H locs hw => ?_)
      obtain ⟨y22, ey22⟩ : ∃ z : Int32, z = x3 + 1 := ⟨_, rfl⟩
      have h := nm_i h y22 ey22
      refine lv_iinc (v := y22) (lv' := [(3, .int y22), (0, .ref a0), (1, .int x1), (2, .int x2)]) hx hb dX5_putOctets_34 hl (k := 3) rfl (by rw [ey22]; rfl) (by decide) rfl (fun ls hl => ?_)
      refine lv_goto (tgt := 2) hx hb dX5_putOctets_37 (by decide) ?_
      exact ih o0 a0 x1 x2 y22 _ _ _ _ hi0 hw (lv_sub hl [1, 2, 3, 0] rfl) h
set_option maxHeartbeats 4000000 in
set_option maxRecDepth 100000 in
theorem w_X5_putOctets_0 {r : Unit} {D' : dt} (hC : Cx RX5 cX5_putOctets 4 none p s m args meth c) (hR : 1 ≤ R.frames ∧ 21 ≤ R.locals) : ∀ (o0 a0 : Nat) (x1 : Int32) (x2 : Int32) (D : dt) (H : Heap) (locs : List Loc) (ls : Array Slot), Is S ad o0 a0 4 → Wd G cA S D ad A s H locs → lv_has ls 4 [(0, .ref a0), (1, .int x1), (2, .int x2)] → f_X5_putOctets S o0 x1 x2 D = some (r, D') → W p l e R s m args below meth c H locs 0 0 (MQ below (Qn none True (wpost G cA S D' ad A) A) args s 0 0 A) (F0 m 0 ls []) := by
  obtain ⟨hx, hb, -⟩ := id hC
  intro o0 a0 x1 x2 D H locs ls hi0 hw hl h
  unfold f_X5_putOctets at h
  refine lv_iload_n hx hb dX5_putOctets_0 rfl (lv_at hl 1 rfl) ?_
  refine lv_istore_n (lv' := [(3, .int x1), (0, .ref a0), (1, .int x1), (2, .int x2)]) hx hb dX5_putOctets_1 rfl hl (by decide) rfl (fun ls hl => ?_)
  exact w_X5_putOctets_2 hC hR LF o0 a0 x1 x2 x1 _ _ _ _ hi0 hw (lv_sub hl [1, 2, 3, 0] rfl) h
set_option maxHeartbeats 4000000 in
set_option maxRecDepth 100000 in
theorem k_X5_putOctets {l : Launch} {G : va_G} {cA : Nat → ClassId} {S : sh} {D D' : dt} {ad : Nat → Nat} (sz : Nat) {o0 a0 : Nat} {x1 : Int32} {x2 : Int32} {r : Unit} (hi0 : Is S ad o0 a0 4) (h : f_X5_putOctets S o0 x1 x2 D = some (r, D')) : Co l yX5_putOctets (Cond.code yX5_putOctets cX5_putOctets 4 none :: tb0) 1 21 [.ref a0, .int x1, .int x2] G cA S D ad sz none True D' := by
  refine Met.ofW (cc := cX5_putOctets) (maxL := 4) (ret := none) (by decide) rfl ?_
  intro p e s m args below meth c s₁ B hml hv
  obtain ⟨rfl, hsz, hP, hK, hD0, hT, hX⟩ := hv
  subst hsz
  have hts := atoms_spec (ws := Cond.code yX5_putOctets cX5_putOctets 4 none :: tb0) B.pre
  have hC : Cx RX5 cX5_putOctets 4 none p s m _ meth c := ⟨B.exec, B.bytes, hml, findClass_of_methodNamed B.named, fun w q => hts w (List.mem_cons_of_mem _ q), B.returns, B.notSynchronized⟩
  have hw := Wd.entry hP hK hD0 hT hX
  have hl := lv_entry ([.ref a0, .int x1, .int x2]) (n := 4) (Nat.le_of_ble_eq_true rfl)
  rw [lg_entry_eq]
  exact w_X5_putOctets_0 hC ⟨Nat.le_refl _, Nat.le_refl _⟩ o0 a0 x1 x2 D _ _ _ hi0 hw hl h
set_option maxHeartbeats 4000000 in
set_option maxRecDepth 100000 in
theorem w_X5_settle_117 {r : Unit} {D' : dt} (hC : Cx RX5 cX5_settle 5 none p s m args meth c) (hR : 1 ≤ R.frames ∧ 26 ≤ R.locals) {k59 : Nat → Int32 → Int32 → Int32 → Int32 → dt → Option (Unit × dt)} (hk59 : ∀ (o0 a0 : Nat) (x1 : Int32) (x2 : Int32) (x3 : Int32) (x4 : Int32) (D : dt) (H : Heap) (locs : List Loc) (ls : Array Slot), Is S ad o0 a0 4 → Wd G cA S D ad A s H locs → lv_has ls 5 [(0, .ref a0), (1, .int x1), (2, .int x2), (3, .int x3), (4, .int x4)] → k59 o0 x1 x2 x3 x4 D = some (r, D') → W p l e R s m args below meth c H locs 0 0 (MQ below (Qn none True (wpost G cA S D' ad A) A) args s 0 0 A) (F0 m 59 ls [])) : ∀ (o0 a0 : Nat) (x1 : Int32) (x2 : Int32) (x3 : Int32) (x4 : Int32) (D : dt) (H : Heap) (locs : List Loc) (ls : Array Slot), Is S ad o0 a0 4 → Wd G cA S D ad A s H locs → lv_has ls 5 [(0, .ref a0), (1, .int x1), (2, .int x2), (3, .int x3), (4, .int x4)] → f_X5_settle_117 S k59 o0 x1 x2 x3 x4 D = some (r, D') → W p l e R s m args below meth c H locs 0 0 (MQ below (Qn none True (wpost G cA S D' ad A) A) args s 0 0 A) (F0 m 117 ls []) := by
  obtain ⟨hx, hb, -⟩ := id hC
  intro o0 a0 x1 x2 x3 x4 D H locs ls hi0 hw hl h
  unfold f_X5_settle_117 at h
  obtain ⟨y32, ey32⟩ : ∃ z : Int32, z = x4 + 1 := ⟨_, rfl⟩
  have h := nm_i h y32 ey32
  refine lv_iinc (v := y32) (lv' := [(4, .int y32), (0, .ref a0), (1, .int x1), (2, .int x2), (3, .int x3)]) hx hb dX5_settle_117 hl (k := 4) rfl (by rw [ey32]; rfl) (by decide) rfl (fun ls hl => ?_)
  refine lv_goto (tgt := 59) hx hb dX5_settle_120 (by decide) ?_
  exact hk59 o0 a0 x1 x2 x3 y32 _ _ _ _ hi0 hw (lv_sub hl [1, 2, 3, 4, 0] rfl) h
set_option maxHeartbeats 4000000 in
set_option maxRecDepth 100000 in
theorem w_X5_settle_59 {r : Unit} {D' : dt} (hC : Cx RX5 cX5_settle 5 none p s m args meth c) (hR : 1 ≤ R.frames ∧ 26 ≤ R.locals) : ∀ (n : Nat), ∀ (o0 a0 : Nat) (x1 : Int32) (x2 : Int32) (x3 : Int32) (x4 : Int32) (D : dt) (H : Heap) (locs : List Loc) (ls : Array Slot), Is S ad o0 a0 4 → Wd G cA S D ad A s H locs → lv_has ls 5 [(0, .ref a0), (1, .int x1), (2, .int x2), (3, .int x3), (4, .int x4)] → f_X5_settle_59 S n o0 x1 x2 x3 x4 D = some (r, D') → W p l e R s m args below meth c H locs 0 0 (MQ below (Qn none True (wpost G cA S D' ad A) A) args s 0 0 A) (F0 m 59 ls []) := by
  obtain ⟨hx, hb, -⟩ := id hC
  intro n
  induction n with
  | zero =>
    intro o0 a0 x1 x2 x3 x4 D H locs ls hi0 hw hl h
    rw [f_X5_settle_59.eq_1] at h
    cases h
  | succ n ih =>
    intro o0 a0 x1 x2 x3 x4 D H locs ls hi0 hw hl h
    rw [f_X5_settle_59.eq_2] at h
    refine lv_iload hx hb dX5_settle_59 (lv_at hl 4 rfl) ?_
    refine lv_bipush (v := 64) hx hb dX5_settle_61 (by decide) ?_
    refine lv_icmp_ge (tgt := 123) hx hb dX5_settle_63 (by decide) (fun c33 => ?_) (fun c33 => ?_)
    · have h := i_yes c33 h
      cases h
      exact r_vret hC hw dX5_settle_123
    · have h := i_no c33 h
      refine lv_aload_n hx hb dX5_settle_66 rfl (lv_at hl 0 rfl) ?_
      refine r_gL hC hw kc_4 hi0 5 rfl lk_272 dX5_settle_67 ?_
      refine lv_lconst (v := 0) hx hb dX5_settle_70 (by decide) ?_
      refine W.lcmp hx hb dX5_settle_71 ?_
      refine lv_if_eq (tgt := 123) hx hb dX5_settle_72 (by decide) (fun c34 => ?_) (fun c34 => ?_)
      · have h := i_yes c34 h
        cases h
        exact r_vret hC hw dX5_settle_123
      · have h := i_no c34 h
        refine lv_aload_n hx hb dX5_settle_75 rfl (lv_at hl 0 rfl) ?_
        refine lv_iload hx hb dX5_settle_76 (lv_at hl 4 rfl) ?_
        obtain ⟨r36, hq35, h⟩ := pq_i h
        refine r_cV (st' := [.int r36]) [.int x4] [] hC hw kc_4 hi0 (k_X5_holds _ hi0 hq35) mk_X5_holds lk_805 ⟨Nat.le_trans (by decide) hR.1, Nat.le_trans (by decide) hR.2⟩ ⟨Nat.zero_le _, Nat.zero_le _⟩ rfl hl.1 rfl rfl (Nat.le_of_ble_eq_true rfl) dX5_settle_78 (fun hP H locs hw => ?_)
        refine lv_if_eq (tgt := 117) hx hb dX5_settle_81 (by decide) (fun c37 => ?_) (fun c37 => ?_)
        · have h := i_yes c37 h
          exact w_X5_settle_117 hC hR ih o0 a0 x1 x2 x3 x4 _ _ _ _ hi0 hw (lv_sub hl [0, 1, 2, 3, 4] rfl) h
        · have h := i_no c37 h
          refine lv_aload_n hx hb dX5_settle_84 rfl (lv_at hl 0 rfl) ?_
          obtain ⟨o38, ho41, h⟩ := rq_i h
          refine r_getR hC hw kc_4 hi0 1 rfl lk_265 dX5_settle_85 rfl ho41 (fun a39 hi40 => ?_)
          refine lv_bipush (v := 11) hx hb dX5_settle_88 (by decide) ?_
          refine lv_iload hx hb dX5_settle_90 (lv_at hl 4 rfl) ?_
          refine lv_iadd hx hb dX5_settle_92 ?_
          obtain ⟨hn42, h⟩ := ix_i h
          refine r_iald hC hw hi40 hn42 dX5_settle_93 ?_
          refine lv_iload_n hx hb dX5_settle_94 rfl (lv_at hl 1 rfl) ?_
          refine lv_icmp_ne (tgt := 117) hx hb dX5_settle_95 (by decide) (fun c43 => ?_) (fun c43 => ?_)
          · have h := i_no c43 h
            exact w_X5_settle_117 hC hR ih o0 a0 x1 x2 x3 x4 _ _ _ _ hi0 hw (lv_sub hl [0, 1, 2, 3, 4] rfl) h
          · have h := i_yes c43 h
            refine lv_aload_n hx hb dX5_settle_98 rfl (lv_at hl 0 rfl) ?_
            refine lv_bipush (v := 11) hx hb dX5_settle_99 (by decide) ?_
            refine lv_iload hx hb dX5_settle_101 (lv_at hl 4 rfl) ?_
            refine lv_iadd hx hb dX5_settle_103 ?_
            refine lv_iload_n hx hb dX5_settle_104 rfl (lv_at hl 3 rfl) ?_
            refine lv_lconst (v := 0) hx hb dX5_settle_105 (by decide) ?_
            refine lv_lconst (v := 0) hx hb dX5_settle_106 (by decide) ?_
            obtain ⟨_, D45, hq44, h⟩ := cq_i h
            refine r_cV (st' := []) [.int ((11 : Int32) + x4), .int x3, .long (0 : Int64), .long (0 : Int64)] [] hC hw kc_4 hi0 (k_X5_write _ hi0 hq44) mk_X5_write lk_479 ⟨Nat.le_trans (by decide) hR.1, Nat.le_trans (by decide) hR.2⟩ ⟨Nat.zero_le _, Nat.zero_le _⟩ rfl hl.1 rfl rfl (Nat.le_of_ble_eq_true rfl) dX5_settle_107 (fun hP H locs hw => ?_)
            refine lv_aload_n hx hb dX5_settle_110 rfl (lv_at hl 0 rfl) ?_
            refine lv_iload hx hb dX5_settle_111 (lv_at hl 4 rfl) ?_
            refine lv_iload_n hx hb dX5_settle_113 rfl (lv_at hl 2 rfl) ?_
            obtain ⟨_, D47, hq46, h⟩ := cq_i h
            refine r_cV (st' := []) [.int x4, .int x2] [] hC hw kc_4 hi0 (k_X5_knowCell _ hi0 hq46) mk_X5_knowCell lk_649 ⟨Nat.le_trans (by decide) hR.1, Nat.le_trans (by decide) hR.2⟩ ⟨Nat.zero_le _, Nat.zero_le _⟩ rfl hl.1 rfl rfl (Nat.le_of_ble_eq_true rfl) dX5_settle_114 (fun hP H locs hw => ?_)
            exact w_X5_settle_117 hC hR ih o0 a0 x1 x2 x3 x4 _ _ _ _ hi0 hw (lv_sub hl [0, 1, 2, 3, 4] rfl) h
set_option maxHeartbeats 4000000 in
set_option maxRecDepth 100000 in
theorem w_X5_settle_50 {r : Unit} {D' : dt} (hC : Cx RX5 cX5_settle 5 none p s m args meth c) (hR : 1 ≤ R.frames ∧ 26 ≤ R.locals) {k23 : Nat → Int32 → Int32 → Int32 → Int32 → dt → Option (Unit × dt)} (hk23 : ∀ (o0 a0 : Nat) (x1 : Int32) (x2 : Int32) (x3 : Int32) (x4 : Int32) (D : dt) (H : Heap) (locs : List Loc) (ls : Array Slot), Is S ad o0 a0 4 → Wd G cA S D ad A s H locs → lv_has ls 5 [(0, .ref a0), (1, .int x1), (2, .int x2), (3, .int x3), (4, .int x4)] → k23 o0 x1 x2 x3 x4 D = some (r, D') → W p l e R s m args below meth c H locs 0 0 (MQ below (Qn none True (wpost G cA S D' ad A) A) args s 0 0 A) (F0 m 23 ls [])) : ∀ (o0 a0 : Nat) (x1 : Int32) (x2 : Int32) (x3 : Int32) (x4 : Int32) (D : dt) (H : Heap) (locs : List Loc) (ls : Array Slot), Is S ad o0 a0 4 → Wd G cA S D ad A s H locs → lv_has ls 5 [(0, .ref a0), (1, .int x1), (2, .int x2), (3, .int x3), (4, .int x4)] → f_X5_settle_50 S k23 o0 x1 x2 x3 x4 D = some (r, D') → W p l e R s m args below meth c H locs 0 0 (MQ below (Qn none True (wpost G cA S D' ad A) A) args s 0 0 A) (F0 m 50 ls []) := by
  obtain ⟨hx, hb, -⟩ := id hC
  intro o0 a0 x1 x2 x3 x4 D H locs ls hi0 hw hl h
  unfold f_X5_settle_50 at h
  obtain ⟨y48, ey48⟩ : ∃ z : Int32, z = x4 + 1 := ⟨_, rfl⟩
  have h := nm_i h y48 ey48
  refine lv_iinc (v := y48) (lv' := [(4, .int y48), (0, .ref a0), (1, .int x1), (2, .int x2), (3, .int x3)]) hx hb dX5_settle_50 hl (k := 4) rfl (by rw [ey48]; rfl) (by decide) rfl (fun ls hl => ?_)
  refine lv_goto (tgt := 23) hx hb dX5_settle_53 (by decide) ?_
  exact hk23 o0 a0 x1 x2 x3 y48 _ _ _ _ hi0 hw (lv_sub hl [1, 2, 3, 4, 0] rfl) h
set_option maxHeartbeats 4000000 in
set_option maxRecDepth 100000 in
theorem w_X5_settle_23 {r : Unit} {D' : dt} (hC : Cx RX5 cX5_settle 5 none p s m args meth c) (hR : 1 ≤ R.frames ∧ 26 ≤ R.locals) : ∀ (n : Nat), ∀ (o0 a0 : Nat) (x1 : Int32) (x2 : Int32) (x3 : Int32) (x4 : Int32) (D : dt) (H : Heap) (locs : List Loc) (ls : Array Slot), Is S ad o0 a0 4 → Wd G cA S D ad A s H locs → lv_has ls 5 [(0, .ref a0), (1, .int x1), (2, .int x2), (3, .int x3), (4, .int x4)] → f_X5_settle_23 S n o0 x1 x2 x3 x4 D = some (r, D') → W p l e R s m args below meth c H locs 0 0 (MQ below (Qn none True (wpost G cA S D' ad A) A) args s 0 0 A) (F0 m 23 ls []) := by
  obtain ⟨hx, hb, -⟩ := id hC
  intro n
  induction n with
  | zero =>
    intro o0 a0 x1 x2 x3 x4 D H locs ls hi0 hw hl h
    rw [f_X5_settle_23.eq_1] at h
    cases h
  | succ n ih =>
    intro o0 a0 x1 x2 x3 x4 D H locs ls hi0 hw hl h
    rw [f_X5_settle_23.eq_2] at h
    refine lv_iload hx hb dX5_settle_23 (lv_at hl 4 rfl) ?_
    refine lv_bipush (v := 11) hx hb dX5_settle_25 (by decide) ?_
    refine lv_icmp_ge (tgt := 56) hx hb dX5_settle_27 (by decide) (fun c49 => ?_) (fun c49 => ?_)
    · have h := i_yes c49 h
      refine lv_iconst (v := 0) hx hb dX5_settle_56 (by decide) ?_
      refine lv_topi (fun y50 ey50 => ?_)
      have h := nm_i h y50 ey50
      refine lv_istore (lv' := [(4, .int y50), (0, .ref a0), (1, .int x1), (2, .int x2), (3, .int x3)]) hx hb dX5_settle_57 hl (by decide) rfl (fun ls hl => ?_)
      exact w_X5_settle_59 hC hR LF o0 a0 x1 x2 x3 y50 _ _ _ _ hi0 hw (lv_sub hl [1, 2, 3, 4, 0] rfl) h
    · have h := i_no c49 h
      refine lv_aload_n hx hb dX5_settle_30 rfl (lv_at hl 0 rfl) ?_
      obtain ⟨o51, ho54, h⟩ := rq_i h
      refine r_getR hC hw kc_4 hi0 1 rfl lk_265 dX5_settle_31 rfl ho54 (fun a52 hi53 => ?_)
      refine lv_iload hx hb dX5_settle_34 (lv_at hl 4 rfl) ?_
      obtain ⟨hn55, h⟩ := ix_i h
      refine r_iald hC hw hi53 hn55 dX5_settle_36 ?_
      refine lv_iload_n hx hb dX5_settle_37 rfl (lv_at hl 1 rfl) ?_
      refine lv_icmp_ne (tgt := 50) hx hb dX5_settle_38 (by decide) (fun c56 => ?_) (fun c56 => ?_)
      · have h := i_no c56 h
        exact w_X5_settle_50 hC hR ih o0 a0 x1 x2 x3 x4 _ _ _ _ hi0 hw (lv_sub hl [0, 1, 2, 3, 4] rfl) h
      · have h := i_yes c56 h
        refine lv_aload_n hx hb dX5_settle_41 rfl (lv_at hl 0 rfl) ?_
        refine lv_iload hx hb dX5_settle_42 (lv_at hl 4 rfl) ?_
        refine lv_iload_n hx hb dX5_settle_44 rfl (lv_at hl 3 rfl) ?_
        refine lv_lconst (v := 0) hx hb dX5_settle_45 (by decide) ?_
        refine lv_lconst (v := 0) hx hb dX5_settle_46 (by decide) ?_
        obtain ⟨_, D58, hq57, h⟩ := cq_i h
        refine r_cV (st' := []) [.int x4, .int x3, .long (0 : Int64), .long (0 : Int64)] [] hC hw kc_4 hi0 (k_X5_write _ hi0 hq57) mk_X5_write lk_479 ⟨Nat.le_trans (by decide) hR.1, Nat.le_trans (by decide) hR.2⟩ ⟨Nat.zero_le _, Nat.zero_le _⟩ rfl hl.1 rfl rfl (Nat.le_of_ble_eq_true rfl) dX5_settle_47 (fun hP H locs hw => ?_)
        exact w_X5_settle_50 hC hR ih o0 a0 x1 x2 x3 x4 _ _ _ _ hi0 hw (lv_sub hl [0, 1, 2, 3, 4] rfl) h
set_option maxHeartbeats 4000000 in
set_option maxRecDepth 100000 in
theorem w_X5_settle_19 {r : Unit} {D' : dt} (hC : Cx RX5 cX5_settle 5 none p s m args meth c) (hR : 1 ≤ R.frames ∧ 26 ≤ R.locals) : ∀ (o0 a0 : Nat) (x1 : Int32) (x2 : Int32) (xs0 : Int32) (D : dt) (H : Heap) (locs : List Loc) (ls : Array Slot), Is S ad o0 a0 4 → Wd G cA S D ad A s H locs → lv_has ls 5 [(0, .ref a0), (1, .int x1), (2, .int x2)] → f_X5_settle_19 S o0 x1 x2 xs0 D = some (r, D') → W p l e R s m args below meth c H locs 0 0 (MQ below (Qn none True (wpost G cA S D' ad A) A) args s 0 0 A) (F0 m 19 ls [.int xs0]) := by
  obtain ⟨hx, hb, -⟩ := id hC
  intro o0 a0 x1 x2 xs0 D H locs ls hi0 hw hl h
  unfold f_X5_settle_19 at h
  refine lv_istore_n (lv' := [(3, .int xs0), (0, .ref a0), (1, .int x1), (2, .int x2)]) hx hb dX5_settle_19 rfl hl (by decide) rfl (fun ls hl => ?_)
  refine lv_iconst (v := 0) hx hb dX5_settle_20 (by decide) ?_
  refine lv_topi (fun y59 ey59 => ?_)
  have h := nm_i h y59 ey59
  refine lv_istore (lv' := [(4, .int y59), (3, .int xs0), (0, .ref a0), (1, .int x1), (2, .int x2)]) hx hb dX5_settle_21 hl (by decide) rfl (fun ls hl => ?_)
  exact w_X5_settle_23 hC hR LF o0 a0 x1 x2 xs0 y59 _ _ _ _ hi0 hw (lv_sub hl [2, 3, 4, 1, 0] rfl) h
set_option maxHeartbeats 4000000 in
set_option maxRecDepth 100000 in
theorem w_X5_settle_0 {r : Unit} {D' : dt} (hC : Cx RX5 cX5_settle 5 none p s m args meth c) (hR : 1 ≤ R.frames ∧ 26 ≤ R.locals) : ∀ (o0 a0 : Nat) (x1 : Int32) (x2 : Int32) (D : dt) (H : Heap) (locs : List Loc) (ls : Array Slot), Is S ad o0 a0 4 → Wd G cA S D ad A s H locs → lv_has ls 5 [(0, .ref a0), (1, .int x1), (2, .int x2)] → f_X5_settle S o0 x1 x2 D = some (r, D') → W p l e R s m args below meth c H locs 0 0 (MQ below (Qn none True (wpost G cA S D' ad A) A) args s 0 0 A) (F0 m 0 ls []) := by
  obtain ⟨hx, hb, -⟩ := id hC
  intro o0 a0 x1 x2 D H locs ls hi0 hw hl h
  unfold f_X5_settle at h
  refine lv_iload_n hx hb dX5_settle_0 rfl (lv_at hl 2 rfl) ?_
  refine lv_if_eq (tgt := 8) hx hb dX5_settle_1 (by decide) (fun c60 => ?_) (fun c60 => ?_)
  · have h := i_yes c60 h
    refine lv_iconst (v := 5) hx hb dX5_settle_8 (by decide) ?_
    refine lv_iload_n hx hb dX5_settle_9 rfl (lv_at hl 1 rfl) ?_
    refine lv_iconst (v := 4) hx hb dX5_settle_10 (by decide) ?_
    refine lv_ishr hx hb dX5_settle_11 ?_
    refine lv_bipush (v := 15) hx hb dX5_settle_12 (by decide) ?_
    refine lv_iand hx hb dX5_settle_14 ?_
    refine lv_iconst (v := 0) hx hb dX5_settle_15 (by decide) ?_
    obtain ⟨r62, hq61, h⟩ := pq_i h
    refine r_cS (st' := [.int r62]) [.int (5 : Int32), .int ((x1 >>> ((4 : Int32) &&& 31)) &&& (15 : Int32)), .int (0 : Int32)] [] hC hw (k_X5_tagOf _ hq61) mk_X5_tagOf lk_804 ⟨Nat.le_trans (by decide) hR.1, Nat.le_trans (by decide) hR.2⟩ ⟨Nat.zero_le _, Nat.zero_le _⟩ rfl hl.1 rfl rfl (Nat.le_of_ble_eq_true rfl) dX5_settle_16 (fun hP H locs hw => ?_)
    exact w_X5_settle_19 hC hR o0 a0 x1 x2 r62 _ _ _ _ hi0 hw (lv_sub hl [0, 1, 2] rfl) h
  · have h := i_no c60 h
    refine lv_iconst (v := 1) hx hb dX5_settle_4 (by decide) ?_
    refine lv_goto (tgt := 19) hx hb dX5_settle_5 (by decide) ?_
    exact w_X5_settle_19 hC hR o0 a0 x1 x2 (1 : Int32) _ _ _ _ hi0 hw (lv_sub hl [0, 1, 2] rfl) h
set_option maxHeartbeats 4000000 in
set_option maxRecDepth 100000 in
theorem k_X5_settle {l : Launch} {G : va_G} {cA : Nat → ClassId} {S : sh} {D D' : dt} {ad : Nat → Nat} (sz : Nat) {o0 a0 : Nat} {x1 : Int32} {x2 : Int32} {r : Unit} (hi0 : Is S ad o0 a0 4) (h : f_X5_settle S o0 x1 x2 D = some (r, D')) : Co l yX5_settle (Cond.code yX5_settle cX5_settle 5 none :: tb0) 1 26 [.ref a0, .int x1, .int x2] G cA S D ad sz none True D' := by
  refine Met.ofW (cc := cX5_settle) (maxL := 5) (ret := none) (by decide) rfl ?_
  intro p e s m args below meth c s₁ B hml hv
  obtain ⟨rfl, hsz, hP, hK, hD0, hT, hX⟩ := hv
  subst hsz
  have hts := atoms_spec (ws := Cond.code yX5_settle cX5_settle 5 none :: tb0) B.pre
  have hC : Cx RX5 cX5_settle 5 none p s m _ meth c := ⟨B.exec, B.bytes, hml, findClass_of_methodNamed B.named, fun w q => hts w (List.mem_cons_of_mem _ q), B.returns, B.notSynchronized⟩
  have hw := Wd.entry hP hK hD0 hT hX
  have hl := lv_entry ([.ref a0, .int x1, .int x2]) (n := 5) (Nat.le_of_ble_eq_true rfl)
  rw [lg_entry_eq]
  exact w_X5_settle_0 hC ⟨Nat.le_refl _, Nat.le_refl _⟩ o0 a0 x1 x2 D _ _ _ hi0 hw hl h
set_option maxHeartbeats 4000000 in
set_option maxRecDepth 100000 in
theorem w_X5_isOne_0 {r : Int32} (hC : Cx RX5 cX5_isOne 2 (some .boolean) p s m args meth c) (hR : 0 ≤ R.frames ∧ 0 ≤ R.locals) : ∀ (o0 a0 : Nat) (x1 : Int32) (H : Heap) (locs : List Loc) (ls : Array Slot), Is S ad o0 a0 4 → Wd G cA S D ad A s H locs → lv_has ls 2 [(0, .ref a0), (1, .int x1)] → f_X5_isOne S D o0 x1 = some r → W p l e R s m args below meth c H locs 0 0 (MQ below (Qn (some (.int r)) True (wpost G cA S D ad A) A) args s 0 0 A) (F0 m 0 ls []) := by
  obtain ⟨hx, hb, -⟩ := id hC
  intro o0 a0 x1 H locs ls hi0 hw hl h
  unfold f_X5_isOne at h
  refine lv_aload_n hx hb dX5_isOne_0 rfl (lv_at hl 0 rfl) ?_
  obtain ⟨o12, ho15, h⟩ := rq_i h
  refine r_getR hC hw kc_4 hi0 2 rfl lk_267 dX5_isOne_1 rfl ho15 (fun a13 hi14 => ?_)
  refine lv_iload_n hx hb dX5_isOne_4 rfl (lv_at hl 1 rfl) ?_
  obtain ⟨hn16, h⟩ := ix_i h
  refine r_lald hC hw hi14 hn16 dX5_isOne_5 ?_
  refine lv_aload_n hx hb dX5_isOne_6 rfl (lv_at hl 0 rfl) ?_
  obtain ⟨o17, ho20, h⟩ := rq_i h
  refine r_getR hC hw kc_4 hi0 3 rfl lk_269 dX5_isOne_7 rfl ho20 (fun a18 hi19 => ?_)
  refine lv_iload_n hx hb dX5_isOne_10 rfl (lv_at hl 1 rfl) ?_
  obtain ⟨hn21, h⟩ := ix_i h
  refine r_lald hC hw hi19 hn21 dX5_isOne_11 ?_
  refine W.lcmp hx hb dX5_isOne_12 ?_
  refine lv_if_ne (tgt := 20) hx hb dX5_isOne_13 (by decide) (fun c22 => ?_) (fun c22 => ?_)
  · have h := i_no c22 h
    refine lv_iconst (v := 0) hx hb dX5_isOne_20 (by decide) ?_
    cases h
    exact r_zret hC hw (Or.inl rfl) dX5_isOne_21
  · have h := i_yes c22 h
    refine lv_iconst (v := 1) hx hb dX5_isOne_16 (by decide) ?_
    refine lv_goto (tgt := 21) hx hb dX5_isOne_17 (by decide) ?_
    cases h
    exact r_zret hC hw (Or.inr rfl) dX5_isOne_21
set_option maxHeartbeats 4000000 in
set_option maxRecDepth 100000 in
theorem k_X5_isOne {l : Launch} {G : va_G} {cA : Nat → ClassId} {S : sh} {D : dt} {ad : Nat → Nat} (sz : Nat) {o0 a0 : Nat} {x1 : Int32} {r : Int32} (hi0 : Is S ad o0 a0 4) (h : f_X5_isOne S D o0 x1 = some r) : Co l yX5_isOne (Cond.code yX5_isOne cX5_isOne 2 (some .boolean) :: tb0) 0 0 [.ref a0, .int x1] G cA S D ad sz (some (.int r)) True D := by
  refine Met.ofW (cc := cX5_isOne) (maxL := 2) (ret := (some .boolean)) (by decide) rfl ?_
  intro p e s m args below meth c s₁ B hml hv
  obtain ⟨rfl, hsz, hP, hK, hD0, hT, hX⟩ := hv
  subst hsz
  have hts := atoms_spec (ws := Cond.code yX5_isOne cX5_isOne 2 (some .boolean) :: tb0) B.pre
  have hC : Cx RX5 cX5_isOne 2 (some .boolean) p s m _ meth c := ⟨B.exec, B.bytes, hml, findClass_of_methodNamed B.named, fun w q => hts w (List.mem_cons_of_mem _ q), B.returns, B.notSynchronized⟩
  have hw := Wd.entry hP hK hD0 hT hX
  have hl := lv_entry ([.ref a0, .int x1]) (n := 2) (Nat.le_of_ble_eq_true rfl)
  rw [lg_entry_eq]
  exact w_X5_isOne_0 hC ⟨Nat.le_refl _, Nat.le_refl _⟩ o0 a0 x1 _ _ _ hi0 hw hl h
set_option maxHeartbeats 4000000 in
set_option maxRecDepth 100000 in
theorem w_X5_joinPlace_129 {r : Unit} {D' : dt} (hC : Cx RX5 cX5_joinPlace 8 none p s m args meth c) (hR : 1 ≤ R.frames ∧ 30 ≤ R.locals) : ∀ (o0 a0 : Nat) (x1 : Int32) (x3 : Int64) (x5 : Int64) (D : dt) (H : Heap) (locs : List Loc) (ls : Array Slot), Is S ad o0 a0 4 → Wd G cA S D ad A s H locs → lv_has ls 8 [(0, .ref a0), (1, .int x1), (3, .long x3), (5, .long x5)] → f_X5_joinPlace_129 S o0 x1 x3 x5 D = some (r, D') → W p l e R s m args below meth c H locs 0 0 (MQ below (Qn none True (wpost G cA S D' ad A) A) args s 0 0 A) (F0 m 129 ls []) := by
  obtain ⟨hx, hb, -⟩ := id hC
  intro o0 a0 x1 x3 x5 D H locs ls hi0 hw hl h
  unfold f_X5_joinPlace_129 at h
  refine lv_aload_n hx hb dX5_joinPlace_129 rfl (lv_at hl 0 rfl) ?_
  obtain ⟨o99, ho102, h⟩ := rq_i h
  refine r_getR hC hw kc_4 hi0 2 rfl lk_267 dX5_joinPlace_130 rfl ho102 (fun a100 hi101 => ?_)
  refine lv_iload_n hx hb dX5_joinPlace_133 rfl (lv_at hl 1 rfl) ?_
  refine lv_aload_n hx hb dX5_joinPlace_134 rfl (lv_at hl 0 rfl) ?_
  obtain ⟨o103, ho106, h⟩ := rq_i h
  refine r_getR hC hw kc_4 hi0 2 rfl lk_267 dX5_joinPlace_135 rfl ho106 (fun a104 hi105 => ?_)
  refine lv_iload_n hx hb dX5_joinPlace_138 rfl (lv_at hl 1 rfl) ?_
  obtain ⟨hn107, h⟩ := ix_i h
  refine r_lald hC hw hi105 hn107 dX5_joinPlace_139 ?_
  refine lv_lload_n hx hb dX5_joinPlace_140 rfl (lv_at hl 2 rfl) ?_
  refine va_mmin_long hx hb (by rw [hC.2.2.1]; exact hl.1.symm) hC.2.2.2.1 (hC.2.2.2.2.1 _ lk_853) (hC.2.2.2.2.1 _ ms_min_l) (hC.2.2.2.2.1 _ ms_ini) (hC.2.2.2.2.1 _ mc_min_l) (Nat.le_trans (by decide) hR.1) (Nat.le_trans (Nat.le_of_ble_eq_true rfl) hR.2) (Nat.zero_le _) (Nat.zero_le _) dX5_joinPlace_141 ?_
  obtain ⟨hn108, h⟩ := ix_i h
  refine r_las hC hw hi101 hn108 dX5_joinPlace_144 (fun D109 eD109 H locs hw => ?_)
  have h := nm_i h D109 eD109
  refine lv_aload_n hx hb dX5_joinPlace_145 rfl (lv_at hl 0 rfl) ?_
  obtain ⟨o110, ho113, h⟩ := rq_i h
  refine r_getR hC hw kc_4 hi0 3 rfl lk_269 dX5_joinPlace_146 rfl ho113 (fun a111 hi112 => ?_)
  refine lv_iload_n hx hb dX5_joinPlace_149 rfl (lv_at hl 1 rfl) ?_
  refine lv_aload_n hx hb dX5_joinPlace_150 rfl (lv_at hl 0 rfl) ?_
  obtain ⟨o114, ho117, h⟩ := rq_i h
  refine r_getR hC hw kc_4 hi0 3 rfl lk_269 dX5_joinPlace_151 rfl ho117 (fun a115 hi116 => ?_)
  refine lv_iload_n hx hb dX5_joinPlace_154 rfl (lv_at hl 1 rfl) ?_
  obtain ⟨hn118, h⟩ := ix_i h
  refine r_lald hC hw hi116 hn118 dX5_joinPlace_155 ?_
  refine lv_lload hx hb dX5_joinPlace_156 (lv_at hl 3 rfl) ?_
  refine va_mmax_long hx hb (by rw [hC.2.2.1]; exact hl.1.symm) hC.2.2.2.1 (hC.2.2.2.2.1 _ lk_856) (hC.2.2.2.2.1 _ ms_max_l) (hC.2.2.2.2.1 _ ms_ini) (hC.2.2.2.2.1 _ mc_max_l) (Nat.le_trans (by decide) hR.1) (Nat.le_trans (Nat.le_of_ble_eq_true rfl) hR.2) (Nat.zero_le _) (Nat.zero_le _) dX5_joinPlace_158 ?_
  obtain ⟨hn119, h⟩ := ix_i h
  refine r_las hC hw hi112 hn119 dX5_joinPlace_161 (fun D120 eD120 H locs hw => ?_)
  have h := nm_i h D120 eD120
  refine lv_goto (tgt := 184) hx hb dX5_joinPlace_162 (by decide) ?_
  cases h
  exact r_vret hC hw dX5_joinPlace_184
set_option maxHeartbeats 4000000 in
set_option maxRecDepth 100000 in
theorem w_X5_joinPlace_113 {r : Unit} {D' : dt} (hC : Cx RX5 cX5_joinPlace 8 none p s m args meth c) (hR : 1 ≤ R.frames ∧ 30 ≤ R.locals) : ∀ (os0 as0 : Nat) (xs1 : Int32) (xs2 : Int64) (D : dt) (H : Heap) (locs : List Loc) (ls : Array Slot), Is S ad os0 as0 101 → Wd G cA S D ad A s H locs → lv_has ls 8 [] → f_X5_joinPlace_113 S os0 xs1 xs2 D = some (r, D') → W p l e R s m args below meth c H locs 0 0 (MQ below (Qn none True (wpost G cA S D' ad A) A) args s 0 0 A) (F0 m 113 ls [.long xs2, .int xs1, .ref as0]) := by
  obtain ⟨hx, hb, -⟩ := id hC
  intro os0 as0 xs1 xs2 D H locs ls his0 hw hl h
  unfold f_X5_joinPlace_113 at h
  obtain ⟨hn121, h⟩ := ix_i h
  refine r_las hC hw his0 hn121 dX5_joinPlace_113 (fun D122 eD122 H locs hw => ?_)
  have h := nm_i h D122 eD122
  refine lv_goto (tgt := 184) hx hb dX5_joinPlace_114 (by decide) ?_
  cases h
  exact r_vret hC hw dX5_joinPlace_184
set_option maxHeartbeats 4000000 in
set_option maxRecDepth 100000 in
theorem w_X5_joinPlace_82 {r : Unit} {D' : dt} (hC : Cx RX5 cX5_joinPlace 8 none p s m args meth c) (hR : 1 ≤ R.frames ∧ 30 ≤ R.locals) : ∀ (o0 a0 : Nat) (x1 : Int32) (x5 : Int64) (os0 as0 : Nat) (xs1 : Int32) (xs2 : Int64) (D : dt) (H : Heap) (locs : List Loc) (ls : Array Slot), Is S ad o0 a0 4 → Is S ad os0 as0 101 → Wd G cA S D ad A s H locs → lv_has ls 8 [(0, .ref a0), (1, .int x1), (5, .long x5)] → f_X5_joinPlace_82 S o0 x1 x5 os0 xs1 xs2 D = some (r, D') → W p l e R s m args below meth c H locs 0 0 (MQ below (Qn none True (wpost G cA S D' ad A) A) args s 0 0 A) (F0 m 82 ls [.long xs2, .int xs1, .ref as0]) := by
  obtain ⟨hx, hb, -⟩ := id hC
  intro o0 a0 x1 x5 os0 as0 xs1 xs2 D H locs ls hi0 his0 hw hl h
  unfold f_X5_joinPlace_82 at h
  obtain ⟨hn123, h⟩ := ix_i h
  refine r_las hC hw his0 hn123 dX5_joinPlace_82 (fun D124 eD124 H locs hw => ?_)
  have h := nm_i h D124 eD124
  refine lv_aload_n hx hb dX5_joinPlace_83 rfl (lv_at hl 0 rfl) ?_
  obtain ⟨o125, ho128, h⟩ := rq_i h
  refine r_getR hC hw kc_4 hi0 3 rfl lk_269 dX5_joinPlace_84 rfl ho128 (fun a126 hi127 => ?_)
  refine lv_iload_n hx hb dX5_joinPlace_87 rfl (lv_at hl 1 rfl) ?_
  refine lv_aload_n hx hb dX5_joinPlace_88 rfl (lv_at hl 0 rfl) ?_
  obtain ⟨o129, ho132, h⟩ := rq_i h
  refine r_getR hC hw kc_4 hi0 3 rfl lk_269 dX5_joinPlace_89 rfl ho132 (fun a130 hi131 => ?_)
  refine lv_iload_n hx hb dX5_joinPlace_92 rfl (lv_at hl 1 rfl) ?_
  obtain ⟨hn133, h⟩ := ix_i h
  refine r_lald hC hw hi131 hn133 dX5_joinPlace_93 ?_
  refine lv_lload hx hb dX5_joinPlace_94 (lv_at hl 2 rfl) ?_
  obtain ⟨r135, hq134, h⟩ := pq_i h
  refine r_cS (st' := [.int r135, .int x1, .ref a126]) [.long (gL D124 o129 x1.toNatClampNeg), .long x5] [.int x1, .ref a126] hC hw (k_X3_below _ hq134) mk_X3_below lk_852 ⟨Nat.le_trans (by decide) hR.1, Nat.le_trans (by decide) hR.2⟩ ⟨Nat.zero_le _, Nat.zero_le _⟩ rfl hl.1 rfl rfl (Nat.le_of_ble_eq_true rfl) dX5_joinPlace_96 (fun hP H locs hw => ?_)
  refine lv_if_eq (tgt := 107) hx hb dX5_joinPlace_99 (by decide) (fun c136 => ?_) (fun c136 => ?_)
  · have h := i_yes c136 h
    refine lv_aload_n hx hb dX5_joinPlace_107 rfl (lv_at hl 0 rfl) ?_
    obtain ⟨o137, ho140, h⟩ := rq_i h
    refine r_getR hC hw kc_4 hi0 3 rfl lk_269 dX5_joinPlace_108 rfl ho140 (fun a138 hi139 => ?_)
    refine lv_iload_n hx hb dX5_joinPlace_111 rfl (lv_at hl 1 rfl) ?_
    obtain ⟨hn141, h⟩ := ix_i h
    refine r_lald hC hw hi139 hn141 dX5_joinPlace_112 ?_
    exact w_X5_joinPlace_113 hC hR o125 a126 x1 (gL D124 o137 x1.toNatClampNeg) _ _ _ _ hi127 hw (lv_sub hl [] rfl) h
  · have h := i_no c136 h
    refine lv_lload hx hb dX5_joinPlace_102 (lv_at hl 2 rfl) ?_
    refine lv_goto (tgt := 113) hx hb dX5_joinPlace_104 (by decide) ?_
    exact w_X5_joinPlace_113 hC hR o125 a126 x1 x5 _ _ _ _ hi127 hw (lv_sub hl [] rfl) h
set_option maxHeartbeats 4000000 in
set_option maxRecDepth 100000 in
theorem w_X5_joinPlace_0 {r : Unit} {D' : dt} (hC : Cx RX5 cX5_joinPlace 8 none p s m args meth c) (hR : 1 ≤ R.frames ∧ 30 ≤ R.locals) : ∀ (o0 a0 : Nat) (x1 : Int32) (o2 a2 : Nat) (D : dt) (H : Heap) (locs : List Loc) (ls : Array Slot), Is S ad o0 a0 4 → Is S ad o2 a2 4 → Wd G cA S D ad A s H locs → lv_has ls 8 [(0, .ref a0), (1, .int x1), (2, .ref a2)] → f_X5_joinPlace S o0 x1 o2 D = some (r, D') → W p l e R s m args below meth c H locs 0 0 (MQ below (Qn none True (wpost G cA S D' ad A) A) args s 0 0 A) (F0 m 0 ls []) := by
  obtain ⟨hx, hb, -⟩ := id hC
  intro o0 a0 x1 o2 a2 D H locs ls hi0 hi2 hw hl h
  unfold f_X5_joinPlace at h
  refine lv_aload_n hx hb dX5_joinPlace_0 rfl (lv_at hl 2 rfl) ?_
  obtain ⟨o142, ho145, h⟩ := rq_i h
  refine r_getR hC hw kc_4 hi2 2 rfl lk_267 dX5_joinPlace_1 rfl ho145 (fun a143 hi144 => ?_)
  refine lv_iload_n hx hb dX5_joinPlace_4 rfl (lv_at hl 1 rfl) ?_
  obtain ⟨hn146, h⟩ := ix_i h
  refine r_lald hC hw hi144 hn146 dX5_joinPlace_5 ?_
  refine lv_topl (fun y147 ey147 => ?_)
  have h := nm_i h y147 ey147
  refine lv_lstore_n (lv' := [(3, .long y147), (0, .ref a0), (1, .int x1), (2, .ref a2)]) hx hb dX5_joinPlace_6 rfl hl (by decide) rfl (fun ls hl => ?_)
  refine lv_aload_n hx hb dX5_joinPlace_7 rfl (lv_at hl 3 rfl) ?_
  obtain ⟨o148, ho151, h⟩ := rq_i h
  refine r_getR hC hw kc_4 hi2 3 rfl lk_269 dX5_joinPlace_8 rfl ho151 (fun a149 hi150 => ?_)
  refine lv_iload_n hx hb dX5_joinPlace_11 rfl (lv_at hl 2 rfl) ?_
  obtain ⟨hn152, h⟩ := ix_i h
  refine r_lald hC hw hi150 hn152 dX5_joinPlace_12 ?_
  refine lv_topl (fun y153 ey153 => ?_)
  have h := nm_i h y153 ey153
  refine lv_lstore (lv' := [(5, .long y153), (3, .long y147), (0, .ref a0), (1, .int x1), (2, .ref a2)]) hx hb dX5_joinPlace_13 hl (by decide) rfl (fun ls hl => ?_)
  refine lv_aload_n hx hb dX5_joinPlace_15 rfl (lv_at hl 2 rfl) ?_
  refine lv_iload_n hx hb dX5_joinPlace_16 rfl (lv_at hl 3 rfl) ?_
  obtain ⟨r155, hq154, h⟩ := pq_i h
  refine r_cV (st' := [.int r155]) [.int x1] [] hC hw kc_4 hi0 (k_X5_kind _ hi0 hq154) mk_X5_kind lk_851 ⟨Nat.le_trans (by decide) hR.1, Nat.le_trans (by decide) hR.2⟩ ⟨Nat.zero_le _, Nat.zero_le _⟩ rfl hl.1 rfl rfl (Nat.le_of_ble_eq_true rfl) dX5_joinPlace_17 (fun hP H locs hw => ?_)
  refine lv_istore (lv' := [(7, .int r155), (5, .long y153), (3, .long y147), (0, .ref a0), (1, .int x1), (2, .ref a2)]) hx hb dX5_joinPlace_20 hl (by decide) rfl (fun ls hl => ?_)
  refine lv_aload_n hx hb dX5_joinPlace_22 rfl (lv_at hl 3 rfl) ?_
  obtain ⟨o156, ho159, h⟩ := rq_i h
  refine r_getR hC hw kc_4 hi0 1 rfl lk_265 dX5_joinPlace_23 rfl ho159 (fun a157 hi158 => ?_)
  refine lv_iload_n hx hb dX5_joinPlace_26 rfl (lv_at hl 4 rfl) ?_
  obtain ⟨hn160, h⟩ := ix_i h
  refine r_iald hC hw hi158 hn160 dX5_joinPlace_27 ?_
  refine lv_aload_n hx hb dX5_joinPlace_28 rfl (lv_at hl 5 rfl) ?_
  obtain ⟨o161, ho164, h⟩ := rq_i h
  refine r_getR hC hw kc_4 hi2 1 rfl lk_265 dX5_joinPlace_29 rfl ho164 (fun a162 hi163 => ?_)
  refine lv_iload_n hx hb dX5_joinPlace_32 rfl (lv_at hl 4 rfl) ?_
  obtain ⟨hn165, h⟩ := ix_i h
  refine r_iald hC hw hi163 hn165 dX5_joinPlace_33 ?_
  refine lv_icmp_eq (tgt := 48) hx hb dX5_joinPlace_34 (by decide) (fun c166 => ?_) (fun c166 => ?_)
  · have h := i_yes c166 h
    refine lv_iload hx hb dX5_joinPlace_48 (lv_at hl 0 rfl) ?_
    refine lv_iconst (v := 1) hx hb dX5_joinPlace_50 (by decide) ?_
    refine lv_icmp_ne (tgt := 117) hx hb dX5_joinPlace_51 (by decide) (fun c167 => ?_) (fun c167 => ?_)
    · have h := i_no c167 h
      refine lv_iload hx hb dX5_joinPlace_117 (lv_at hl 0 rfl) ?_
      refine lv_iconst (v := 2) hx hb dX5_joinPlace_119 (by decide) ?_
      refine lv_icmp_eq (tgt := 129) hx hb dX5_joinPlace_120 (by decide) (fun c168 => ?_) (fun c168 => ?_)
      · have h := i_yes c168 h
        exact w_X5_joinPlace_129 hC hR o0 a0 x1 y147 y153 _ _ _ _ hi0 hw (lv_sub hl [3, 4, 2, 1] rfl) h
      · have h := i_no c168 h
        refine lv_iload hx hb dX5_joinPlace_123 (lv_at hl 0 rfl) ?_
        refine lv_iconst (v := 5) hx hb dX5_joinPlace_125 (by decide) ?_
        refine lv_icmp_ne (tgt := 165) hx hb dX5_joinPlace_126 (by decide) (fun c169 => ?_) (fun c169 => ?_)
        · have h := i_no c169 h
          refine lv_aload_n hx hb dX5_joinPlace_165 rfl (lv_at hl 3 rfl) ?_
          obtain ⟨o170, ho173, h⟩ := rq_i h
          refine r_getR hC hw kc_4 hi0 2 rfl lk_267 dX5_joinPlace_166 rfl ho173 (fun a171 hi172 => ?_)
          refine lv_iload_n hx hb dX5_joinPlace_169 rfl (lv_at hl 4 rfl) ?_
          obtain ⟨hn174, h⟩ := ix_i h
          refine r_lald hC hw hi172 hn174 dX5_joinPlace_170 ?_
          refine lv_lload_n hx hb dX5_joinPlace_171 rfl (lv_at hl 2 rfl) ?_
          refine W.lcmp hx hb dX5_joinPlace_172 ?_
          refine lv_if_eq (tgt := 184) hx hb dX5_joinPlace_173 (by decide) (fun c175 => ?_) (fun c175 => ?_)
          · have h := i_yes c175 h
            cases h
            exact r_vret hC hw dX5_joinPlace_184
          · have h := i_no c175 h
            refine lv_aload_n hx hb dX5_joinPlace_176 rfl (lv_at hl 3 rfl) ?_
            refine lv_iload_n hx hb dX5_joinPlace_177 rfl (lv_at hl 4 rfl) ?_
            refine lv_iconst (v := 0) hx hb dX5_joinPlace_178 (by decide) ?_
            refine lv_lconst (v := 0) hx hb dX5_joinPlace_179 (by decide) ?_
            refine lv_lconst (v := 0) hx hb dX5_joinPlace_180 (by decide) ?_
            obtain ⟨_, D177, hq176, h⟩ := cq_i h
            refine r_cV (st' := []) [.int x1, .int (0 : Int32), .long (0 : Int64), .long (0 : Int64)] [] hC hw kc_4 hi0 (k_X5_write _ hi0 hq176) mk_X5_write lk_479 ⟨Nat.le_trans (by decide) hR.1, Nat.le_trans (by decide) hR.2⟩ ⟨Nat.zero_le _, Nat.zero_le _⟩ rfl hl.1 rfl rfl (Nat.le_of_ble_eq_true rfl) dX5_joinPlace_181 (fun hP H locs hw => ?_)
            cases h
            exact r_vret hC hw dX5_joinPlace_184
        · have h := i_yes c169 h
          exact w_X5_joinPlace_129 hC hR o0 a0 x1 y147 y153 _ _ _ _ hi0 hw (lv_sub hl [3, 4, 2, 1] rfl) h
    · have h := i_yes c167 h
      refine lv_aload_n hx hb dX5_joinPlace_54 rfl (lv_at hl 3 rfl) ?_
      obtain ⟨o178, ho181, h⟩ := rq_i h
      refine r_getR hC hw kc_4 hi0 2 rfl lk_267 dX5_joinPlace_55 rfl ho181 (fun a179 hi180 => ?_)
      refine lv_iload_n hx hb dX5_joinPlace_58 rfl (lv_at hl 4 rfl) ?_
      refine lv_lload_n hx hb dX5_joinPlace_59 rfl (lv_at hl 2 rfl) ?_
      refine lv_aload_n hx hb dX5_joinPlace_60 rfl (lv_at hl 3 rfl) ?_
      obtain ⟨o182, ho185, h⟩ := rq_i h
      refine r_getR hC hw kc_4 hi0 2 rfl lk_267 dX5_joinPlace_61 rfl ho185 (fun a183 hi184 => ?_)
      refine lv_iload_n hx hb dX5_joinPlace_64 rfl (lv_at hl 4 rfl) ?_
      obtain ⟨hn186, h⟩ := ix_i h
      refine r_lald hC hw hi184 hn186 dX5_joinPlace_65 ?_
      obtain ⟨r188, hq187, h⟩ := pq_i h
      refine r_cS (st' := [.int r188, .int x1, .ref a179]) [.long y147, .long (gL D o182 x1.toNatClampNeg)] [.int x1, .ref a179] hC hw (k_X3_below _ hq187) mk_X3_below lk_852 ⟨Nat.le_trans (by decide) hR.1, Nat.le_trans (by decide) hR.2⟩ ⟨Nat.zero_le _, Nat.zero_le _⟩ rfl hl.1 rfl rfl (Nat.le_of_ble_eq_true rfl) dX5_joinPlace_66 (fun hP H locs hw => ?_)
      refine lv_if_eq (tgt := 76) hx hb dX5_joinPlace_69 (by decide) (fun c189 => ?_) (fun c189 => ?_)
      · have h := i_yes c189 h
        refine lv_aload_n hx hb dX5_joinPlace_76 rfl (lv_at hl 3 rfl) ?_
        obtain ⟨o190, ho193, h⟩ := rq_i h
        refine r_getR hC hw kc_4 hi0 2 rfl lk_267 dX5_joinPlace_77 rfl ho193 (fun a191 hi192 => ?_)
        refine lv_iload_n hx hb dX5_joinPlace_80 rfl (lv_at hl 4 rfl) ?_
        obtain ⟨hn194, h⟩ := ix_i h
        refine r_lald hC hw hi192 hn194 dX5_joinPlace_81 ?_
        exact w_X5_joinPlace_82 hC hR o0 a0 x1 y153 o178 a179 x1 (gL D o190 x1.toNatClampNeg) _ _ _ _ hi0 hi180 hw (lv_sub hl [3, 4, 1] rfl) h
      · have h := i_no c189 h
        refine lv_lload_n hx hb dX5_joinPlace_72 rfl (lv_at hl 2 rfl) ?_
        refine lv_goto (tgt := 82) hx hb dX5_joinPlace_73 (by decide) ?_
        exact w_X5_joinPlace_82 hC hR o0 a0 x1 y153 o178 a179 x1 y147 _ _ _ _ hi0 hi180 hw (lv_sub hl [3, 4, 1] rfl) h
  · have h := i_no c166 h
    refine lv_aload_n hx hb dX5_joinPlace_37 rfl (lv_at hl 3 rfl) ?_
    refine lv_iload_n hx hb dX5_joinPlace_38 rfl (lv_at hl 4 rfl) ?_
    refine lv_iconst (v := 0) hx hb dX5_joinPlace_39 (by decide) ?_
    refine lv_lconst (v := 0) hx hb dX5_joinPlace_40 (by decide) ?_
    refine lv_lconst (v := 0) hx hb dX5_joinPlace_41 (by decide) ?_
    obtain ⟨_, D196, hq195, h⟩ := cq_i h
    refine r_cV (st' := []) [.int x1, .int (0 : Int32), .long (0 : Int64), .long (0 : Int64)] [] hC hw kc_4 hi0 (k_X5_write _ hi0 hq195) mk_X5_write lk_479 ⟨Nat.le_trans (by decide) hR.1, Nat.le_trans (by decide) hR.2⟩ ⟨Nat.zero_le _, Nat.zero_le _⟩ rfl hl.1 rfl rfl (Nat.le_of_ble_eq_true rfl) dX5_joinPlace_42 (fun hP H locs hw => ?_)
    refine lv_goto (tgt := 184) hx hb dX5_joinPlace_45 (by decide) ?_
    cases h
    exact r_vret hC hw dX5_joinPlace_184
set_option maxHeartbeats 4000000 in
set_option maxRecDepth 100000 in
theorem k_X5_joinPlace {l : Launch} {G : va_G} {cA : Nat → ClassId} {S : sh} {D D' : dt} {ad : Nat → Nat} (sz : Nat) {o0 a0 : Nat} {x1 : Int32} {o2 a2 : Nat} {r : Unit} (hi0 : Is S ad o0 a0 4) (hi2 : Is S ad o2 a2 4) (h : f_X5_joinPlace S o0 x1 o2 D = some (r, D')) : Co l yX5_joinPlace (Cond.code yX5_joinPlace cX5_joinPlace 8 none :: tb0) 1 30 [.ref a0, .int x1, .ref a2] G cA S D ad sz none True D' := by
  refine Met.ofW (cc := cX5_joinPlace) (maxL := 8) (ret := none) (by decide) rfl ?_
  intro p e s m args below meth c s₁ B hml hv
  obtain ⟨rfl, hsz, hP, hK, hD0, hT, hX⟩ := hv
  subst hsz
  have hts := atoms_spec (ws := Cond.code yX5_joinPlace cX5_joinPlace 8 none :: tb0) B.pre
  have hC : Cx RX5 cX5_joinPlace 8 none p s m _ meth c := ⟨B.exec, B.bytes, hml, findClass_of_methodNamed B.named, fun w q => hts w (List.mem_cons_of_mem _ q), B.returns, B.notSynchronized⟩
  have hw := Wd.entry hP hK hD0 hT hX
  have hl := lv_entry ([.ref a0, .int x1, .ref a2]) (n := 8) (Nat.le_of_ble_eq_true rfl)
  rw [lg_entry_eq]
  exact w_X5_joinPlace_0 hC ⟨Nat.le_refl _, Nat.le_refl _⟩ o0 a0 x1 o2 a2 D _ _ _ hi0 hi2 hw hl h
set_option maxHeartbeats 4000000 in
set_option maxRecDepth 100000 in
theorem w_X5_joinWith_112 {r : Unit} {D' : dt} (hC : Cx RX5 cX5_joinWith 3 none p s m args meth c) (hR : 2 ≤ R.frames ∧ 57 ≤ R.locals) {k64 : Nat → Nat → Int32 → dt → Option (Unit × dt)} (hk64 : ∀ (o0 a0 : Nat) (o1 a1 : Nat) (x2 : Int32) (D : dt) (H : Heap) (locs : List Loc) (ls : Array Slot), Is S ad o0 a0 4 → Is S ad o1 a1 4 → Wd G cA S D ad A s H locs → lv_has ls 3 [(0, .ref a0), (1, .ref a1), (2, .int x2)] → k64 o0 o1 x2 D = some (r, D') → W p l e R s m args below meth c H locs 0 0 (MQ below (Qn none True (wpost G cA S D' ad A) A) args s 0 0 A) (F0 m 64 ls [])) : ∀ (o0 a0 : Nat) (o1 a1 : Nat) (x2 : Int32) (D : dt) (H : Heap) (locs : List Loc) (ls : Array Slot), Is S ad o0 a0 4 → Is S ad o1 a1 4 → Wd G cA S D ad A s H locs → lv_has ls 3 [(0, .ref a0), (1, .ref a1), (2, .int x2)] → f_X5_joinWith_112 S k64 o0 o1 x2 D = some (r, D') → W p l e R s m args below meth c H locs 0 0 (MQ below (Qn none True (wpost G cA S D' ad A) A) args s 0 0 A) (F0 m 112 ls []) := by
  obtain ⟨hx, hb, -⟩ := id hC
  intro o0 a0 o1 a1 x2 D H locs ls hi0 hi1 hw hl h
  unfold f_X5_joinWith_112 at h
  obtain ⟨y36, ey36⟩ : ∃ z : Int32, z = x2 + 1 := ⟨_, rfl⟩
  have h := nm_i h y36 ey36
  refine lv_iinc (v := y36) (lv' := [(2, .int y36), (0, .ref a0), (1, .ref a1)]) hx hb dX5_joinWith_112 hl (k := 2) rfl (by rw [ey36]; rfl) (by decide) rfl (fun ls hl => ?_)
  refine lv_goto (tgt := 64) hx hb dX5_joinWith_115 (by decide) ?_
  exact hk64 o0 a0 o1 a1 y36 _ _ _ _ hi0 hi1 hw (lv_sub hl [1, 2, 0] rfl) h
set_option maxHeartbeats 4000000 in
set_option maxRecDepth 100000 in
theorem w_X5_joinWith_64 {r : Unit} {D' : dt} (hC : Cx RX5 cX5_joinWith 3 none p s m args meth c) (hR : 2 ≤ R.frames ∧ 57 ≤ R.locals) : ∀ (n : Nat), ∀ (o0 a0 : Nat) (o1 a1 : Nat) (x2 : Int32) (D : dt) (H : Heap) (locs : List Loc) (ls : Array Slot), Is S ad o0 a0 4 → Is S ad o1 a1 4 → Wd G cA S D ad A s H locs → lv_has ls 3 [(0, .ref a0), (1, .ref a1), (2, .int x2)] → f_X5_joinWith_64 S n o0 o1 x2 D = some (r, D') → W p l e R s m args below meth c H locs 0 0 (MQ below (Qn none True (wpost G cA S D' ad A) A) args s 0 0 A) (F0 m 64 ls []) := by
  obtain ⟨hx, hb, -⟩ := id hC
  intro n
  induction n with
  | zero =>
    intro o0 a0 o1 a1 x2 D H locs ls hi0 hi1 hw hl h
    rw [f_X5_joinWith_64.eq_1] at h
    cases h
  | succ n ih =>
    intro o0 a0 o1 a1 x2 D H locs ls hi0 hi1 hw hl h
    rw [f_X5_joinWith_64.eq_2] at h
    refine lv_iload_n hx hb dX5_joinWith_64 rfl (lv_at hl 2 rfl) ?_
    refine lv_bipush (v := 64) hx hb dX5_joinWith_65 (by decide) ?_
    refine lv_icmp_ge (tgt := 118) hx hb dX5_joinWith_67 (by decide) (fun c37 => ?_) (fun c37 => ?_)
    · have h := i_yes c37 h
      cases h
      exact r_vret hC hw dX5_joinWith_118
    · have h := i_no c37 h
      refine lv_aload_n hx hb dX5_joinWith_70 rfl (lv_at hl 0 rfl) ?_
      refine r_gL hC hw kc_4 hi0 5 rfl lk_272 dX5_joinWith_71 ?_
      refine lv_lconst (v := 0) hx hb dX5_joinWith_74 (by decide) ?_
      refine W.lcmp hx hb dX5_joinWith_75 ?_
      refine lv_if_eq (tgt := 118) hx hb dX5_joinWith_76 (by decide) (fun c38 => ?_) (fun c38 => ?_)
      · have h := i_yes c38 h
        cases h
        exact r_vret hC hw dX5_joinWith_118
      · have h := i_no c38 h
        refine lv_aload_n hx hb dX5_joinWith_79 rfl (lv_at hl 0 rfl) ?_
        refine lv_iload_n hx hb dX5_joinWith_80 rfl (lv_at hl 2 rfl) ?_
        obtain ⟨r40, hq39, h⟩ := pq_i h
        refine r_cV (st' := [.int r40]) [.int x2] [] hC hw kc_4 hi0 (k_X5_holds _ hi0 hq39) mk_X5_holds lk_805 ⟨Nat.le_trans (by decide) hR.1, Nat.le_trans (by decide) hR.2⟩ ⟨Nat.zero_le _, Nat.zero_le _⟩ rfl hl.1 rfl rfl (Nat.le_of_ble_eq_true rfl) dX5_joinWith_81 (fun hP H locs hw => ?_)
        refine lv_if_eq (tgt := 112) hx hb dX5_joinWith_84 (by decide) (fun c41 => ?_) (fun c41 => ?_)
        · have h := i_yes c41 h
          exact w_X5_joinWith_112 hC hR ih o0 a0 o1 a1 x2 _ _ _ _ hi0 hi1 hw (lv_sub hl [0, 1, 2] rfl) h
        · have h := i_no c41 h
          refine lv_aload_n hx hb dX5_joinWith_87 rfl (lv_at hl 0 rfl) ?_
          refine lv_bipush (v := 11) hx hb dX5_joinWith_88 (by decide) ?_
          refine lv_iload_n hx hb dX5_joinWith_90 rfl (lv_at hl 2 rfl) ?_
          refine lv_iadd hx hb dX5_joinWith_91 ?_
          refine lv_aload_n hx hb dX5_joinWith_92 rfl (lv_at hl 1 rfl) ?_
          obtain ⟨_, D43, hq42, h⟩ := cq_i h
          refine r_cV (st' := []) [.int ((11 : Int32) + x2), .ref a1] [] hC hw kc_4 hi0 (k_X5_joinPlace _ hi0 hi1 hq42) mk_X5_joinPlace lk_847 ⟨Nat.le_trans (by decide) hR.1, Nat.le_trans (by decide) hR.2⟩ ⟨Nat.zero_le _, Nat.zero_le _⟩ rfl hl.1 rfl rfl (Nat.le_of_ble_eq_true rfl) dX5_joinWith_93 (fun hP H locs hw => ?_)
          refine lv_aload_n hx hb dX5_joinWith_96 rfl (lv_at hl 0 rfl) ?_
          refine lv_bipush (v := 11) hx hb dX5_joinWith_97 (by decide) ?_
          refine lv_iload_n hx hb dX5_joinWith_99 rfl (lv_at hl 2 rfl) ?_
          refine lv_iadd hx hb dX5_joinWith_100 ?_
          obtain ⟨r45, hq44, h⟩ := pq_i h
          refine r_cV (st' := [.int r45]) [.int ((11 : Int32) + x2)] [] hC hw kc_4 hi0 (k_X5_isNone _ hi0 hq44) mk_X5_isNone lk_859 ⟨Nat.le_trans (by decide) hR.1, Nat.le_trans (by decide) hR.2⟩ ⟨Nat.zero_le _, Nat.zero_le _⟩ rfl hl.1 rfl rfl (Nat.le_of_ble_eq_true rfl) dX5_joinWith_101 (fun hP H locs hw => ?_)
          refine lv_if_eq (tgt := 112) hx hb dX5_joinWith_104 (by decide) (fun c46 => ?_) (fun c46 => ?_)
          · have h := i_yes c46 h
            exact w_X5_joinWith_112 hC hR ih o0 a0 o1 a1 x2 _ _ _ _ hi0 hi1 hw (lv_sub hl [0, 1, 2] rfl) h
          · have h := i_no c46 h
            refine lv_aload_n hx hb dX5_joinWith_107 rfl (lv_at hl 0 rfl) ?_
            refine lv_iload_n hx hb dX5_joinWith_108 rfl (lv_at hl 2 rfl) ?_
            obtain ⟨_, D48, hq47, h⟩ := cq_i h
            refine r_cV (st' := []) [.int x2] [] hC hw kc_4 hi0 (k_X5_holdNothing _ hi0 hq47) mk_X5_holdNothing lk_658 ⟨Nat.le_trans (by decide) hR.1, Nat.le_trans (by decide) hR.2⟩ ⟨Nat.zero_le _, Nat.zero_le _⟩ rfl hl.1 rfl rfl (Nat.le_of_ble_eq_true rfl) dX5_joinWith_109 (fun hP H locs hw => ?_)
            exact w_X5_joinWith_112 hC hR ih o0 a0 o1 a1 x2 _ _ _ _ hi0 hi1 hw (lv_sub hl [0, 1, 2] rfl) h
set_option maxHeartbeats 4000000 in
set_option maxRecDepth 100000 in
theorem w_X5_joinWith_22 {r : Unit} {D' : dt} (hC : Cx RX5 cX5_joinWith 3 none p s m args meth c) (hR : 2 ≤ R.frames ∧ 57 ≤ R.locals) : ∀ (n : Nat), ∀ (o0 a0 : Nat) (o1 a1 : Nat) (x2 : Int32) (D : dt) (H : Heap) (locs : List Loc) (ls : Array Slot), Is S ad o0 a0 4 → Is S ad o1 a1 4 → Wd G cA S D ad A s H locs → lv_has ls 3 [(0, .ref a0), (1, .ref a1), (2, .int x2)] → f_X5_joinWith_22 S n o0 o1 x2 D = some (r, D') → W p l e R s m args below meth c H locs 0 0 (MQ below (Qn none True (wpost G cA S D' ad A) A) args s 0 0 A) (F0 m 22 ls []) := by
  obtain ⟨hx, hb, -⟩ := id hC
  intro n
  induction n with
  | zero =>
    intro o0 a0 o1 a1 x2 D H locs ls hi0 hi1 hw hl h
    rw [f_X5_joinWith_22.eq_1] at h
    cases h
  | succ n ih =>
    intro o0 a0 o1 a1 x2 D H locs ls hi0 hi1 hw hl h
    rw [f_X5_joinWith_22.eq_2] at h
    refine lv_iload_n hx hb dX5_joinWith_22 rfl (lv_at hl 2 rfl) ?_
    refine lv_bipush (v := 8) hx hb dX5_joinWith_23 (by decide) ?_
    refine lv_icmp_ge (tgt := 49) hx hb dX5_joinWith_25 (by decide) (fun c49 => ?_) (fun c49 => ?_)
    · have h := i_yes c49 h
      refine lv_aload_n hx hb dX5_joinWith_49 rfl (lv_at hl 0 rfl) ?_
      refine lv_dup hx hb dX5_joinWith_50 rfl ?_
      refine r_gL hC hw kc_4 hi0 5 rfl lk_272 dX5_joinWith_51 ?_
      refine lv_aload_n hx hb dX5_joinWith_54 rfl (lv_at hl 1 rfl) ?_
      refine r_gL hC hw kc_4 hi1 5 rfl lk_272 dX5_joinWith_55 ?_
      refine lv_land hx hb dX5_joinWith_58 ?_
      refine r_pL hC hw kc_4 hi0 5 rfl lk_272 rfl rfl rfl dX5_joinWith_59 (fun D50 eD50 H locs hw => ?_)
      have h := nm_i h D50 eD50
      refine lv_iconst (v := 0) hx hb dX5_joinWith_62 (by decide) ?_
      refine lv_topi (fun y51 ey51 => ?_)
      have h := nm_i h y51 ey51
      refine lv_istore_n (lv' := [(2, .int y51), (0, .ref a0), (1, .ref a1)]) hx hb dX5_joinWith_63 rfl hl (by decide) rfl (fun ls hl => ?_)
      exact w_X5_joinWith_64 hC hR LF o0 a0 o1 a1 y51 _ _ _ _ hi0 hi1 hw (lv_sub hl [1, 2, 0] rfl) h
    · have h := i_no c49 h
      refine lv_aload_n hx hb dX5_joinWith_28 rfl (lv_at hl 0 rfl) ?_
      obtain ⟨o52, ho55, h⟩ := rq_i h
      refine r_getR hC hw kc_4 hi0 4 rfl lk_271 dX5_joinWith_29 rfl ho55 (fun a53 hi54 => ?_)
      refine lv_iload_n hx hb dX5_joinWith_32 rfl (lv_at hl 2 rfl) ?_
      refine lv_dup2_11 hx hb dX5_joinWith_33 rfl rfl ?_
      obtain ⟨hn56, h⟩ := ix_i h
      refine r_lald hC hw hi54 hn56 dX5_joinWith_34 ?_
      refine lv_aload_n hx hb dX5_joinWith_35 rfl (lv_at hl 1 rfl) ?_
      obtain ⟨o57, ho60, h⟩ := rq_i h
      refine r_getR hC hw kc_4 hi1 4 rfl lk_271 dX5_joinWith_36 rfl ho60 (fun a58 hi59 => ?_)
      refine lv_iload_n hx hb dX5_joinWith_39 rfl (lv_at hl 2 rfl) ?_
      obtain ⟨hn61, h⟩ := ix_i h
      refine r_lald hC hw hi59 hn61 dX5_joinWith_40 ?_
      refine lv_land hx hb dX5_joinWith_41 ?_
      obtain ⟨hn62, h⟩ := ix_i h
      refine r_las hC hw hi54 hn62 dX5_joinWith_42 (fun D63 eD63 H locs hw => ?_)
      have h := nm_i h D63 eD63
      obtain ⟨y64, ey64⟩ : ∃ z : Int32, z = x2 + 1 := ⟨_, rfl⟩
      have h := nm_i h y64 ey64
      refine lv_iinc (v := y64) (lv' := [(2, .int y64), (0, .ref a0), (1, .ref a1)]) hx hb dX5_joinWith_43 hl (k := 2) rfl (by rw [ey64]; rfl) (by decide) rfl (fun ls hl => ?_)
      refine lv_goto (tgt := 22) hx hb dX5_joinWith_46 (by decide) ?_
      exact ih o0 a0 o1 a1 y64 _ _ _ _ hi0 hi1 hw (lv_sub hl [1, 2, 0] rfl) h
set_option maxHeartbeats 4000000 in
set_option maxRecDepth 100000 in
theorem w_X5_joinWith_2 {r : Unit} {D' : dt} (hC : Cx RX5 cX5_joinWith 3 none p s m args meth c) (hR : 2 ≤ R.frames ∧ 57 ≤ R.locals) : ∀ (n : Nat), ∀ (o0 a0 : Nat) (o1 a1 : Nat) (x2 : Int32) (D : dt) (H : Heap) (locs : List Loc) (ls : Array Slot), Is S ad o0 a0 4 → Is S ad o1 a1 4 → Wd G cA S D ad A s H locs → lv_has ls 3 [(0, .ref a0), (1, .ref a1), (2, .int x2)] → f_X5_joinWith_2 S n o0 o1 x2 D = some (r, D') → W p l e R s m args below meth c H locs 0 0 (MQ below (Qn none True (wpost G cA S D' ad A) A) args s 0 0 A) (F0 m 2 ls []) := by
  obtain ⟨hx, hb, -⟩ := id hC
  intro n
  induction n with
  | zero =>
    intro o0 a0 o1 a1 x2 D H locs ls hi0 hi1 hw hl h
    rw [f_X5_joinWith_2.eq_1] at h
    cases h
  | succ n ih =>
    intro o0 a0 o1 a1 x2 D H locs ls hi0 hi1 hw hl h
    rw [f_X5_joinWith_2.eq_2] at h
    refine lv_iload_n hx hb dX5_joinWith_2 rfl (lv_at hl 2 rfl) ?_
    refine lv_bipush (v := 11) hx hb dX5_joinWith_3 (by decide) ?_
    refine lv_icmp_ge (tgt := 20) hx hb dX5_joinWith_5 (by decide) (fun c65 => ?_) (fun c65 => ?_)
    · have h := i_yes c65 h
      refine lv_iconst (v := 0) hx hb dX5_joinWith_20 (by decide) ?_
      refine lv_topi (fun y66 ey66 => ?_)
      have h := nm_i h y66 ey66
      refine lv_istore_n (lv' := [(2, .int y66), (0, .ref a0), (1, .ref a1)]) hx hb dX5_joinWith_21 rfl hl (by decide) rfl (fun ls hl => ?_)
      exact w_X5_joinWith_22 hC hR LF o0 a0 o1 a1 y66 _ _ _ _ hi0 hi1 hw (lv_sub hl [1, 2, 0] rfl) h
    · have h := i_no c65 h
      refine lv_aload_n hx hb dX5_joinWith_8 rfl (lv_at hl 0 rfl) ?_
      refine lv_iload_n hx hb dX5_joinWith_9 rfl (lv_at hl 2 rfl) ?_
      refine lv_aload_n hx hb dX5_joinWith_10 rfl (lv_at hl 1 rfl) ?_
      obtain ⟨_, D68, hq67, h⟩ := cq_i h
      refine r_cV (st' := []) [.int x2, .ref a1] [] hC hw kc_4 hi0 (k_X5_joinPlace _ hi0 hi1 hq67) mk_X5_joinPlace lk_847 ⟨Nat.le_trans (by decide) hR.1, Nat.le_trans (by decide) hR.2⟩ ⟨Nat.zero_le _, Nat.zero_le _⟩ rfl hl.1 rfl rfl (Nat.le_of_ble_eq_true rfl) dX5_joinWith_11 (fun hP H locs hw => ?_)
      obtain ⟨y69, ey69⟩ : ∃ z : Int32, z = x2 + 1 := ⟨_, rfl⟩
      have h := nm_i h y69 ey69
      refine lv_iinc (v := y69) (lv' := [(2, .int y69), (0, .ref a0), (1, .ref a1)]) hx hb dX5_joinWith_14 hl (k := 2) rfl (by rw [ey69]; rfl) (by decide) rfl (fun ls hl => ?_)
      refine lv_goto (tgt := 2) hx hb dX5_joinWith_17 (by decide) ?_
      exact ih o0 a0 o1 a1 y69 _ _ _ _ hi0 hi1 hw (lv_sub hl [1, 2, 0] rfl) h
set_option maxHeartbeats 4000000 in
set_option maxRecDepth 100000 in
theorem w_X5_joinWith_0 {r : Unit} {D' : dt} (hC : Cx RX5 cX5_joinWith 3 none p s m args meth c) (hR : 2 ≤ R.frames ∧ 57 ≤ R.locals) : ∀ (o0 a0 : Nat) (o1 a1 : Nat) (D : dt) (H : Heap) (locs : List Loc) (ls : Array Slot), Is S ad o0 a0 4 → Is S ad o1 a1 4 → Wd G cA S D ad A s H locs → lv_has ls 3 [(0, .ref a0), (1, .ref a1)] → f_X5_joinWith S o0 o1 D = some (r, D') → W p l e R s m args below meth c H locs 0 0 (MQ below (Qn none True (wpost G cA S D' ad A) A) args s 0 0 A) (F0 m 0 ls []) := by
  obtain ⟨hx, hb, -⟩ := id hC
  intro o0 a0 o1 a1 D H locs ls hi0 hi1 hw hl h
  unfold f_X5_joinWith at h
  refine lv_iconst (v := 0) hx hb dX5_joinWith_0 (by decide) ?_
  refine lv_topi (fun y70 ey70 => ?_)
  have h := nm_i h y70 ey70
  refine lv_istore_n (lv' := [(2, .int y70), (0, .ref a0), (1, .ref a1)]) hx hb dX5_joinWith_1 rfl hl (by decide) rfl (fun ls hl => ?_)
  exact w_X5_joinWith_2 hC hR LF o0 a0 o1 a1 y70 _ _ _ _ hi0 hi1 hw (lv_sub hl [1, 2, 0] rfl) h
set_option maxHeartbeats 4000000 in
set_option maxRecDepth 100000 in
theorem k_X5_joinWith {l : Launch} {G : va_G} {cA : Nat → ClassId} {S : sh} {D D' : dt} {ad : Nat → Nat} (sz : Nat) {o0 a0 : Nat} {o1 a1 : Nat} {r : Unit} (hi0 : Is S ad o0 a0 4) (hi1 : Is S ad o1 a1 4) (h : f_X5_joinWith S o0 o1 D = some (r, D')) : Co l yX5_joinWith (Cond.code yX5_joinWith cX5_joinWith 3 none :: tb0) 2 57 [.ref a0, .ref a1] G cA S D ad sz none True D' := by
  refine Met.ofW (cc := cX5_joinWith) (maxL := 3) (ret := none) (by decide) rfl ?_
  intro p e s m args below meth c s₁ B hml hv
  obtain ⟨rfl, hsz, hP, hK, hD0, hT, hX⟩ := hv
  subst hsz
  have hts := atoms_spec (ws := Cond.code yX5_joinWith cX5_joinWith 3 none :: tb0) B.pre
  have hC : Cx RX5 cX5_joinWith 3 none p s m _ meth c := ⟨B.exec, B.bytes, hml, findClass_of_methodNamed B.named, fun w q => hts w (List.mem_cons_of_mem _ q), B.returns, B.notSynchronized⟩
  have hw := Wd.entry hP hK hD0 hT hX
  have hl := lv_entry ([.ref a0, .ref a1]) (n := 3) (Nat.le_of_ble_eq_true rfl)
  rw [lg_entry_eq]
  exact w_X5_joinWith_0 hC ⟨Nat.le_refl _, Nat.le_refl _⟩ o0 a0 o1 a1 D _ _ _ hi0 hi1 hw hl h
set_option maxHeartbeats 4000000 in
set_option maxRecDepth 100000 in
theorem w_X5_tell_73 {r : Int64} (hC : Cx RX5 cX5_tell 5 (some .long) p s m args meth c) (hR : 1 ≤ R.frames ∧ 21 ≤ R.locals) : ∀ (o0 a0 : Nat) (x1 : Int32) (H : Heap) (locs : List Loc) (ls : Array Slot), Is S ad o0 a0 4 → Wd G cA S D ad A s H locs → lv_has ls 5 [(0, .ref a0), (1, .int x1)] → f_X5_tell_73 S D o0 x1 = some r → W p l e R s m args below meth c H locs 0 0 (MQ below (Qn (some (.long r)) True (wpost G cA S D ad A) A) args s 0 0 A) (F0 m 73 ls []) := by
  obtain ⟨hx, hb, -⟩ := id hC
  intro o0 a0 x1 H locs ls hi0 hw hl h
  unfold f_X5_tell_73 at h
  refine lv_aload_n hx hb dX5_tell_73 rfl (lv_at hl 0 rfl) ?_
  obtain ⟨o30, ho33, h⟩ := rq_i h
  refine r_getR hC hw kc_4 hi0 2 rfl lk_267 dX5_tell_74 rfl ho33 (fun a31 hi32 => ?_)
  refine lv_iload_n hx hb dX5_tell_77 rfl (lv_at hl 1 rfl) ?_
  obtain ⟨hn34, h⟩ := ix_i h
  refine r_lald hC hw hi32 hn34 dX5_tell_78 ?_
  refine lv_goto (tgt := 83) hx hb dX5_tell_79 (by decide) ?_
  cases h
  exact r_lret hC hw dX5_tell_83
set_option maxHeartbeats 4000000 in
set_option maxRecDepth 100000 in
theorem w_X5_tell_26 {r : Int64} (hC : Cx RX5 cX5_tell 5 (some .long) p s m args meth c) (hR : 1 ≤ R.frames ∧ 21 ≤ R.locals) : ∀ (o0 a0 : Nat) (x1 : Int32) (x2 : Int32) (x3 : Int32) (xs0 : Int32) (H : Heap) (locs : List Loc) (ls : Array Slot), Is S ad o0 a0 4 → Wd G cA S D ad A s H locs → lv_has ls 5 [(0, .ref a0), (1, .int x1), (2, .int x2), (3, .int x3)] → f_X5_tell_26 S D o0 x1 x2 x3 xs0 = some r → W p l e R s m args below meth c H locs 0 0 (MQ below (Qn (some (.long r)) True (wpost G cA S D ad A) A) args s 0 0 A) (F0 m 26 ls [.int xs0]) := by
  obtain ⟨hx, hb, -⟩ := id hC
  intro o0 a0 x1 x2 x3 xs0 H locs ls hi0 hw hl h
  unfold f_X5_tell_26 at h
  refine lv_istore (lv' := [(4, .int xs0), (0, .ref a0), (1, .int x1), (2, .int x2), (3, .int x3)]) hx hb dX5_tell_26 hl (by decide) rfl (fun ls hl => ?_)
  refine lv_iload_n hx hb dX5_tell_28 rfl (lv_at hl 3 rfl) ?_
  by_cases c35 : x2 = 0
  · have h := i_yes c35 h
    refine lv_tableIn (off := 31) (tgt := 60) hx hb dX5_tell_29 (by rw [c35]; decide) (by rw [c35]; decide) (by rw [c35] <;> rfl) (by decide) ?_
    refine lv_iload_n hx hb dX5_tell_60 rfl (lv_at hl 4 rfl) ?_
    refine lv_i2l (v := x3.toInt64) hx hb dX5_tell_61 rfl ?_
    cases h
    exact r_lret hC hw dX5_tell_62
  have h := i_no c35 h
  by_cases c36 : x2 = 1
  · have h := i_yes c36 h
    refine lv_tableIn (off := 34) (tgt := 63) hx hb dX5_tell_29 (by rw [c36]; decide) (by rw [c36]; decide) (by rw [c36] <;> rfl) (by decide) ?_
    refine lv_iload hx hb dX5_tell_63 (lv_at hl 0 rfl) ?_
    refine lv_if_ne (tgt := 73) hx hb dX5_tell_65 (by decide) (fun c37 => ?_) (fun c37 => ?_)
    · have h := i_no c37 h
      exact w_X5_tell_73 hC hR o0 a0 x1 _ _ _ hi0 hw (lv_sub hl [1, 2] rfl) h
    · have h := i_yes c37 h
      refine lv_iload_n hx hb dX5_tell_68 rfl (lv_at hl 4 rfl) ?_
      refine lv_iconst (v := 3) hx hb dX5_tell_69 (by decide) ?_
      refine lv_icmp_ne (tgt := 82) hx hb dX5_tell_70 (by decide) (fun c38 => ?_) (fun c38 => ?_)
      · have h := i_no c38 h
        refine lv_lconst (v := 0) hx hb dX5_tell_82 (by decide) ?_
        cases h
        exact r_lret hC hw dX5_tell_83
      · have h := i_yes c38 h
        exact w_X5_tell_73 hC hR o0 a0 x1 _ _ _ hi0 hw (lv_sub hl [1, 2] rfl) h
  have h := i_no c36 h
  by_cases c39 : x2 = 2
  · have h := i_yes c39 h
    refine lv_tableIn (off := 55) (tgt := 84) hx hb dX5_tell_29 (by rw [c39]; decide) (by rw [c39]; decide) (by rw [c39] <;> rfl) (by decide) ?_
    refine lv_iload hx hb dX5_tell_84 (lv_at hl 0 rfl) ?_
    refine lv_if_eq (tgt := 98) hx hb dX5_tell_86 (by decide) (fun c40 => ?_) (fun c40 => ?_)
    · have h := i_yes c40 h
      refine lv_lconst (v := 0) hx hb dX5_tell_98 (by decide) ?_
      cases h
      exact r_lret hC hw dX5_tell_99
    · have h := i_no c40 h
      refine lv_aload_n hx hb dX5_tell_89 rfl (lv_at hl 1 rfl) ?_
      obtain ⟨o41, ho44, h⟩ := rq_i h
      refine r_getR hC hw kc_4 hi0 3 rfl lk_269 dX5_tell_90 rfl ho44 (fun a42 hi43 => ?_)
      refine lv_iload_n hx hb dX5_tell_93 rfl (lv_at hl 2 rfl) ?_
      obtain ⟨hn45, h⟩ := ix_i h
      refine r_lald hC hw hi43 hn45 dX5_tell_94 ?_
      refine lv_goto (tgt := 99) hx hb dX5_tell_95 (by decide) ?_
      cases h
      exact r_lret hC hw dX5_tell_99
  have h := i_no c39 h
  by_cases c46 : x2 = 3
  · have h := i_yes c46 h
    refine lv_tableIn (off := 71) (tgt := 100) hx hb dX5_tell_29 (by rw [c46]; decide) (by rw [c46]; decide) (by rw [c46] <;> rfl) (by decide) ?_
    refine lv_aload_n hx hb dX5_tell_100 rfl (lv_at hl 1 rfl) ?_
    refine lv_iload_n hx hb dX5_tell_101 rfl (lv_at hl 2 rfl) ?_
    obtain ⟨r48, hq47, h⟩ := pq_i h
    refine r_cV (st' := [.int r48]) [.int x1] [] hC hw kc_4 hi0 (k_X5_tableOf _ hi0 hq47) mk_X5_tableOf lk_874 ⟨Nat.le_trans (by decide) hR.1, Nat.le_trans (by decide) hR.2⟩ ⟨Nat.zero_le _, Nat.zero_le _⟩ rfl hl.1 rfl rfl (Nat.le_of_ble_eq_true rfl) dX5_tell_102 (fun hP H locs hw => ?_)
    refine lv_i2l (v := r48.toInt64) hx hb dX5_tell_105 rfl ?_
    cases h
    exact r_lret hC hw dX5_tell_106
  have h := i_no c46 h
  refine lv_tableOut (tgt := 107) hx hb dX5_tell_29 (by have nc35 := lv_neT c35 (a := 0) rfl; have nc36 := lv_neT c36 (a := 1) rfl; have nc39 := lv_neT c39 (a := 2) rfl; have nc46 := lv_neT c46 (a := 3) rfl; omega) (by decide) ?_
  refine lv_aload_n hx hb dX5_tell_107 rfl (lv_at hl 1 rfl) ?_
  obtain ⟨o49, ho52, h⟩ := rq_i h
  refine r_getR hC hw kc_4 hi0 1 rfl lk_265 dX5_tell_108 rfl ho52 (fun a50 hi51 => ?_)
  refine lv_iload_n hx hb dX5_tell_111 rfl (lv_at hl 2 rfl) ?_
  obtain ⟨hn53, h⟩ := ix_i h
  refine r_iald hC hw hi51 hn53 dX5_tell_112 ?_
  refine lv_bipush (v := 8) hx hb dX5_tell_113 (by decide) ?_
  refine lv_ishr hx hb dX5_tell_115 ?_
  refine lv_i2l (v := ((gI D o49 x1.toNatClampNeg) >>> ((8 : Int32) &&& 31)).toInt64) hx hb dX5_tell_116 rfl ?_
  cases h
  exact r_lret hC hw dX5_tell_117
set_option maxHeartbeats 4000000 in
set_option maxRecDepth 100000 in
theorem w_X5_tell_21 {r : Int64} (hC : Cx RX5 cX5_tell 5 (some .long) p s m args meth c) (hR : 1 ≤ R.frames ∧ 21 ≤ R.locals) : ∀ (o0 a0 : Nat) (x1 : Int32) (x2 : Int32) (x3 : Int32) (H : Heap) (locs : List Loc) (ls : Array Slot), Is S ad o0 a0 4 → Wd G cA S D ad A s H locs → lv_has ls 5 [(0, .ref a0), (1, .int x1), (2, .int x2), (3, .int x3)] → f_X5_tell_21 S D o0 x1 x2 x3 = some r → W p l e R s m args below meth c H locs 0 0 (MQ below (Qn (some (.long r)) True (wpost G cA S D ad A) A) args s 0 0 A) (F0 m 21 ls []) := by
  obtain ⟨hx, hb, -⟩ := id hC
  intro o0 a0 x1 x2 x3 H locs ls hi0 hw hl h
  unfold f_X5_tell_21 at h
  refine lv_iconst (v := 1) hx hb dX5_tell_21 (by decide) ?_
  refine lv_goto (tgt := 26) hx hb dX5_tell_22 (by decide) ?_
  exact w_X5_tell_26 hC hR o0 a0 x1 x2 x3 (1 : Int32) _ _ _ hi0 hw (lv_sub hl [0, 1, 2, 3] rfl) h
set_option maxHeartbeats 4000000 in
set_option maxRecDepth 100000 in
theorem w_X5_tell_0 {r : Int64} (hC : Cx RX5 cX5_tell 5 (some .long) p s m args meth c) (hR : 1 ≤ R.frames ∧ 21 ≤ R.locals) : ∀ (o0 a0 : Nat) (x1 : Int32) (x2 : Int32) (H : Heap) (locs : List Loc) (ls : Array Slot), Is S ad o0 a0 4 → Wd G cA S D ad A s H locs → lv_has ls 5 [(0, .ref a0), (1, .int x1), (2, .int x2)] → f_X5_tell S D o0 x1 x2 = some r → W p l e R s m args below meth c H locs 0 0 (MQ below (Qn (some (.long r)) True (wpost G cA S D ad A) A) args s 0 0 A) (F0 m 0 ls []) := by
  obtain ⟨hx, hb, -⟩ := id hC
  intro o0 a0 x1 x2 H locs ls hi0 hw hl h
  unfold f_X5_tell at h
  refine lv_aload_n hx hb dX5_tell_0 rfl (lv_at hl 0 rfl) ?_
  refine lv_iload_n hx hb dX5_tell_1 rfl (lv_at hl 1 rfl) ?_
  obtain ⟨r55, hq54, h⟩ := pq_i h
  refine r_cV (st' := [.int r55]) [.int x1] [] hC hw kc_4 hi0 (k_X5_kind _ hi0 hq54) mk_X5_kind lk_851 ⟨Nat.le_trans (by decide) hR.1, Nat.le_trans (by decide) hR.2⟩ ⟨Nat.zero_le _, Nat.zero_le _⟩ rfl hl.1 rfl rfl (Nat.le_of_ble_eq_true rfl) dX5_tell_2 (fun hP H locs hw => ?_)
  refine lv_istore_n (lv' := [(3, .int r55), (0, .ref a0), (1, .int x1), (2, .int x2)]) hx hb dX5_tell_5 rfl hl (by decide) rfl (fun ls hl => ?_)
  refine lv_iload_n hx hb dX5_tell_6 rfl (lv_at hl 0 rfl) ?_
  refine lv_iconst (v := 1) hx hb dX5_tell_7 (by decide) ?_
  refine lv_icmp_eq (tgt := 21) hx hb dX5_tell_8 (by decide) (fun c56 => ?_) (fun c56 => ?_)
  · have h := i_yes c56 h
    exact w_X5_tell_21 hC hR o0 a0 x1 x2 r55 _ _ _ hi0 hw (lv_sub hl [1, 2, 3, 0] rfl) h
  · have h := i_no c56 h
    refine lv_iload_n hx hb dX5_tell_11 rfl (lv_at hl 0 rfl) ?_
    refine lv_iconst (v := 2) hx hb dX5_tell_12 (by decide) ?_
    refine lv_icmp_eq (tgt := 21) hx hb dX5_tell_13 (by decide) (fun c57 => ?_) (fun c57 => ?_)
    · have h := i_yes c57 h
      exact w_X5_tell_21 hC hR o0 a0 x1 x2 r55 _ _ _ hi0 hw (lv_sub hl [1, 2, 3, 0] rfl) h
    · have h := i_no c57 h
      refine lv_iload_n hx hb dX5_tell_16 rfl (lv_at hl 0 rfl) ?_
      refine lv_iconst (v := 5) hx hb dX5_tell_17 (by decide) ?_
      refine lv_icmp_ne (tgt := 25) hx hb dX5_tell_18 (by decide) (fun c58 => ?_) (fun c58 => ?_)
      · have h := i_no c58 h
        refine lv_iconst (v := 0) hx hb dX5_tell_25 (by decide) ?_
        exact w_X5_tell_26 hC hR o0 a0 x1 x2 r55 (0 : Int32) _ _ _ hi0 hw (lv_sub hl [1, 2, 3, 0] rfl) h
      · have h := i_yes c58 h
        exact w_X5_tell_21 hC hR o0 a0 x1 x2 r55 _ _ _ hi0 hw (lv_sub hl [1, 2, 3, 0] rfl) h
set_option maxHeartbeats 4000000 in
set_option maxRecDepth 100000 in
theorem k_X5_tell {l : Launch} {G : va_G} {cA : Nat → ClassId} {S : sh} {D : dt} {ad : Nat → Nat} (sz : Nat) {o0 a0 : Nat} {x1 : Int32} {x2 : Int32} {r : Int64} (hi0 : Is S ad o0 a0 4) (h : f_X5_tell S D o0 x1 x2 = some r) : Co l yX5_tell (Cond.code yX5_tell cX5_tell 5 (some .long) :: tb0) 1 21 [.ref a0, .int x1, .int x2] G cA S D ad sz (some (.long r)) True D := by
  refine Met.ofW (cc := cX5_tell) (maxL := 5) (ret := (some .long)) (by decide) rfl ?_
  intro p e s m args below meth c s₁ B hml hv
  obtain ⟨rfl, hsz, hP, hK, hD0, hT, hX⟩ := hv
  subst hsz
  have hts := atoms_spec (ws := Cond.code yX5_tell cX5_tell 5 (some .long) :: tb0) B.pre
  have hC : Cx RX5 cX5_tell 5 (some .long) p s m _ meth c := ⟨B.exec, B.bytes, hml, findClass_of_methodNamed B.named, fun w q => hts w (List.mem_cons_of_mem _ q), B.returns, B.notSynchronized⟩
  have hw := Wd.entry hP hK hD0 hT hX
  have hl := lv_entry ([.ref a0, .int x1, .int x2]) (n := 5) (Nat.le_of_ble_eq_true rfl)
  rw [lg_entry_eq]
  exact w_X5_tell_0 hC ⟨Nat.le_refl _, Nat.le_refl _⟩ o0 a0 x1 x2 _ _ _ hi0 hw hl h
set_option maxHeartbeats 4000000 in
set_option maxRecDepth 100000 in
theorem w_X5_tellOctet_0 {r : Int32} (hC : Cx RX5 cX5_tellOctet 3 (some .int) p s m args meth c) (hR : 1 ≤ R.frames ∧ 21 ≤ R.locals) : ∀ (o0 a0 : Nat) (x1 : Int32) (H : Heap) (locs : List Loc) (ls : Array Slot), Is S ad o0 a0 4 → Wd G cA S D ad A s H locs → lv_has ls 3 [(0, .ref a0), (1, .int x1)] → f_X5_tellOctet S D o0 x1 = some r → W p l e R s m args below meth c H locs 0 0 (MQ below (Qn (some (.int r)) True (wpost G cA S D ad A) A) args s 0 0 A) (F0 m 0 ls []) := by
  obtain ⟨hx, hb, -⟩ := id hC
  intro o0 a0 x1 H locs ls hi0 hw hl h
  unfold f_X5_tellOctet at h
  refine lv_iload_n hx hb dX5_tellOctet_0 rfl (lv_at hl 1 rfl) ?_
  refine lv_iconst (v := 3) hx hb dX5_tellOctet_1 (by decide) ?_
  refine lv_ishr hx hb dX5_tellOctet_2 ?_
  refine lv_topi (fun y11 ey11 => ?_)
  have h := nm_i h y11 ey11
  refine lv_istore_n (lv' := [(2, .int y11), (0, .ref a0), (1, .int x1)]) hx hb dX5_tellOctet_3 rfl hl (by decide) rfl (fun ls hl => ?_)
  refine lv_aload_n hx hb dX5_tellOctet_4 rfl (lv_at hl 1 rfl) ?_
  refine lv_iload_n hx hb dX5_tellOctet_5 rfl (lv_at hl 0 rfl) ?_
  obtain ⟨r13, hq12, h⟩ := pq_i h
  refine r_cV (st' := [.int r13]) [.int y11] [] hC hw kc_4 hi0 (k_X5_holds _ hi0 hq12) mk_X5_holds lk_805 ⟨Nat.le_trans (by decide) hR.1, Nat.le_trans (by decide) hR.2⟩ ⟨Nat.zero_le _, Nat.zero_le _⟩ rfl hl.1 rfl rfl (Nat.le_of_ble_eq_true rfl) dX5_tellOctet_6 (fun hP H locs hw => ?_)
  refine lv_if_eq (tgt := 29) hx hb dX5_tellOctet_9 (by decide) (fun c14 => ?_) (fun c14 => ?_)
  · have h := i_yes c14 h
    refine lv_aload_n hx hb dX5_tellOctet_29 rfl (lv_at hl 1 rfl) ?_
    refine lv_iload_n hx hb dX5_tellOctet_30 rfl (lv_at hl 2 rfl) ?_
    obtain ⟨r16, hq15, h⟩ := pq_i h
    refine r_cV (st' := [.int r16]) [.int x1] [] hC hw kc_4 hi0 (k_X5_isKnown _ hi0 hq15) mk_X5_isKnown lk_620 ⟨Nat.le_trans (by decide) hR.1, Nat.le_trans (by decide) hR.2⟩ ⟨Nat.zero_le _, Nat.zero_le _⟩ rfl hl.1 rfl rfl (Nat.le_of_ble_eq_true rfl) dX5_tellOctet_31 (fun hP H locs hw => ?_)
    refine lv_if_eq (tgt := 41) hx hb dX5_tellOctet_34 (by decide) (fun c17 => ?_) (fun c17 => ?_)
    · have h := i_yes c17 h
      refine lv_iconst (v := 0) hx hb dX5_tellOctet_41 (by decide) ?_
      cases h
      exact r_iret hC hw dX5_tellOctet_42
    · have h := i_no c17 h
      refine lv_iconst (v := 1) hx hb dX5_tellOctet_37 (by decide) ?_
      refine lv_goto (tgt := 42) hx hb dX5_tellOctet_38 (by decide) ?_
      cases h
      exact r_iret hC hw dX5_tellOctet_42
  · have h := i_no c14 h
    refine lv_aload_n hx hb dX5_tellOctet_12 rfl (lv_at hl 1 rfl) ?_
    refine lv_bipush (v := 11) hx hb dX5_tellOctet_13 (by decide) ?_
    refine lv_iload_n hx hb dX5_tellOctet_15 rfl (lv_at hl 0 rfl) ?_
    refine lv_iadd hx hb dX5_tellOctet_16 ?_
    obtain ⟨r19, hq18, h⟩ := pq_i h
    refine r_cV (st' := [.int r19]) [.int ((11 : Int32) + y11)] [] hC hw kc_4 hi0 (k_X5_isNumber _ hi0 hq18) mk_X5_isNumber lk_648 ⟨Nat.le_trans (by decide) hR.1, Nat.le_trans (by decide) hR.2⟩ ⟨Nat.zero_le _, Nat.zero_le _⟩ rfl hl.1 rfl rfl (Nat.le_of_ble_eq_true rfl) dX5_tellOctet_17 (fun hP H locs hw => ?_)
    refine lv_if_eq (tgt := 27) hx hb dX5_tellOctet_20 (by decide) (fun c20 => ?_) (fun c20 => ?_)
    · have h := i_yes c20 h
      refine lv_iconst (v := 3) hx hb dX5_tellOctet_27 (by decide) ?_
      cases h
      exact r_iret hC hw dX5_tellOctet_28
    · have h := i_no c20 h
      refine lv_iconst (v := 2) hx hb dX5_tellOctet_23 (by decide) ?_
      refine lv_goto (tgt := 28) hx hb dX5_tellOctet_24 (by decide) ?_
      cases h
      exact r_iret hC hw dX5_tellOctet_28
set_option maxHeartbeats 4000000 in
set_option maxRecDepth 100000 in
theorem k_X5_tellOctet {l : Launch} {G : va_G} {cA : Nat → ClassId} {S : sh} {D : dt} {ad : Nat → Nat} (sz : Nat) {o0 a0 : Nat} {x1 : Int32} {r : Int32} (hi0 : Is S ad o0 a0 4) (h : f_X5_tellOctet S D o0 x1 = some r) : Co l yX5_tellOctet (Cond.code yX5_tellOctet cX5_tellOctet 3 (some .int) :: tb0) 1 21 [.ref a0, .int x1] G cA S D ad sz (some (.int r)) True D := by
  refine Met.ofW (cc := cX5_tellOctet) (maxL := 3) (ret := (some .int)) (by decide) rfl ?_
  intro p e s m args below meth c s₁ B hml hv
  obtain ⟨rfl, hsz, hP, hK, hD0, hT, hX⟩ := hv
  subst hsz
  have hts := atoms_spec (ws := Cond.code yX5_tellOctet cX5_tellOctet 3 (some .int) :: tb0) B.pre
  have hC : Cx RX5 cX5_tellOctet 3 (some .int) p s m _ meth c := ⟨B.exec, B.bytes, hml, findClass_of_methodNamed B.named, fun w q => hts w (List.mem_cons_of_mem _ q), B.returns, B.notSynchronized⟩
  have hw := Wd.entry hP hK hD0 hT hX
  have hl := lv_entry ([.ref a0, .int x1]) (n := 3) (Nat.le_of_ble_eq_true rfl)
  rw [lg_entry_eq]
  exact w_X5_tellOctet_0 hC ⟨Nat.le_refl _, Nat.le_refl _⟩ o0 a0 x1 _ _ _ hi0 hw hl h
end
