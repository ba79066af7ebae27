theorem dJ7_fill_53178_0 : decode cJ7_fill_53178 0 = .ok (.iconst 0, 1) := by decide +kernel
theorem dJ7_fill_53178_1 : decode cJ7_fill_53178 1 = .ok (.istore_n 2, 1) := by decide +kernel
theorem dJ7_fill_53178_2 : decode cJ7_fill_53178 2 = .ok (.aload_n 0, 1) := by decide +kernel
theorem dJ7_fill_53178_3 : decode cJ7_fill_53178 3 = .ok (.arraylength, 1) := by decide +kernel
theorem dJ7_fill_53178_4 : decode cJ7_fill_53178 4 = .ok (.istore_n 3, 1) := by decide +kernel
theorem dJ7_fill_53178_5 : decode cJ7_fill_53178 5 = .ok (.iload_n 2, 1) := by decide +kernel
theorem dJ7_fill_53178_6 : decode cJ7_fill_53178 6 = .ok (.iload_n 3, 1) := by decide +kernel
theorem dJ7_fill_53178_7 : decode cJ7_fill_53178 7 = .ok (.if_icmp .ge 13, 3) := by decide +kernel
theorem dJ7_fill_53178_10 : decode cJ7_fill_53178 10 = .ok (.aload_n 0, 1) := by decide +kernel
theorem dJ7_fill_53178_11 : decode cJ7_fill_53178 11 = .ok (.iload_n 2, 1) := by decide +kernel
theorem dJ7_fill_53178_12 : decode cJ7_fill_53178 12 = .ok (.iload_n 1, 1) := by decide +kernel
theorem dJ7_fill_53178_13 : decode cJ7_fill_53178 13 = .ok (.iastore, 1) := by decide +kernel
theorem dJ7_fill_53178_14 : decode cJ7_fill_53178 14 = .ok (.iinc 2 1, 3) := by decide +kernel
theorem dJ7_fill_53178_17 : decode cJ7_fill_53178 17 = .ok (.goto (-12), 3) := by decide +kernel
theorem dJ7_fill_53178_20 : decode cJ7_fill_53178 20 = .ok (.return_, 1) := by decide +kernel
theorem dJ7_fill_d0a16_0 : decode cJ7_fill_d0a16 0 = .ok (.iconst 0, 1) := by decide +kernel
theorem dJ7_fill_d0a16_1 : decode cJ7_fill_d0a16 1 = .ok (.istore_n 3, 1) := by decide +kernel
theorem dJ7_fill_d0a16_2 : decode cJ7_fill_d0a16 2 = .ok (.aload_n 0, 1) := by decide +kernel
theorem dJ7_fill_d0a16_3 : decode cJ7_fill_d0a16 3 = .ok (.arraylength, 1) := by decide +kernel
theorem dJ7_fill_d0a16_4 : decode cJ7_fill_d0a16 4 = .ok (.istore 4, 2) := by decide +kernel
theorem dJ7_fill_d0a16_6 : decode cJ7_fill_d0a16 6 = .ok (.iload_n 3, 1) := by decide +kernel
theorem dJ7_fill_d0a16_7 : decode cJ7_fill_d0a16 7 = .ok (.iload 4, 2) := by decide +kernel
theorem dJ7_fill_d0a16_9 : decode cJ7_fill_d0a16 9 = .ok (.if_icmp .ge 13, 3) := by decide +kernel
theorem dJ7_fill_d0a16_12 : decode cJ7_fill_d0a16 12 = .ok (.aload_n 0, 1) := by decide +kernel
theorem dJ7_fill_d0a16_13 : decode cJ7_fill_d0a16 13 = .ok (.iload_n 3, 1) := by decide +kernel
theorem dJ7_fill_d0a16_14 : decode cJ7_fill_d0a16 14 = .ok (.lload_n 1, 1) := by decide +kernel
theorem dJ7_fill_d0a16_15 : decode cJ7_fill_d0a16 15 = .ok (.lastore, 1) := by decide +kernel
theorem dJ7_fill_d0a16_16 : decode cJ7_fill_d0a16 16 = .ok (.iinc 3 1, 3) := by decide +kernel
theorem dJ7_fill_d0a16_19 : decode cJ7_fill_d0a16 19 = .ok (.goto (-13), 3) := by decide +kernel
theorem dJ7_fill_d0a16_22 : decode cJ7_fill_d0a16 22 = .ok (.return_, 1) := by decide +kernel
theorem dX3_turn_0 : decode cX3_turn 0 = .ok (.iload_n 3, 1) := by decide +kernel
theorem dX3_turn_1 : decode cX3_turn 1 = .ok (.ifCond .ne 21, 3) := by decide +kernel
theorem dX3_turn_4 : decode cX3_turn 4 = .ok (.iload_n 2, 1) := by decide +kernel
theorem dX3_turn_5 : decode cX3_turn 5 = .ok (.bipush 64, 2) := by decide +kernel
theorem dX3_turn_7 : decode cX3_turn 7 = .ok (.if_icmp .ne 7, 3) := by decide +kernel
theorem dX3_turn_10 : decode cX3_turn 10 = .ok (.lload_n 0, 1) := by decide +kernel
theorem dX3_turn_11 : decode cX3_turn 11 = .ok (.goto 10, 3) := by decide +kernel
theorem dX3_turn_14 : decode cX3_turn 14 = .ok (.lload_n 0, 1) := by decide +kernel
theorem dX3_turn_15 : decode cX3_turn 15 = .ok (.lconst 1, 1) := by decide +kernel
theorem dX3_turn_16 : decode cX3_turn 16 = .ok (.iload_n 2, 1) := by decide +kernel
theorem dX3_turn_17 : decode cX3_turn 17 = .ok (.lshl, 1) := by decide +kernel
theorem dX3_turn_18 : decode cX3_turn 18 = .ok (.lconst 1, 1) := by decide +kernel
theorem dX3_turn_19 : decode cX3_turn 19 = .ok (.lsub, 1) := by decide +kernel
theorem dX3_turn_20 : decode cX3_turn 20 = .ok (.land, 1) := by decide +kernel
theorem dX3_turn_21 : decode cX3_turn 21 = .ok (.lreturn, 1) := by decide +kernel
theorem dX3_turn_22 : decode cX3_turn 22 = .ok (.lconst 0, 1) := by decide +kernel
theorem dX3_turn_23 : decode cX3_turn 23 = .ok (.lstore 4, 2) := by decide +kernel
theorem dX3_turn_25 : decode cX3_turn 25 = .ok (.iconst 0, 1) := by decide +kernel
theorem dX3_turn_26 : decode cX3_turn 26 = .ok (.istore 6, 2) := by decide +kernel
theorem dX3_turn_28 : decode cX3_turn 28 = .ok (.iload 6, 2) := by decide +kernel
theorem dX3_turn_30 : decode cX3_turn 30 = .ok (.iload_n 2, 1) := by decide +kernel
theorem dX3_turn_31 : decode cX3_turn 31 = .ok (.if_icmp .ge 25, 3) := by decide +kernel
theorem dX3_turn_34 : decode cX3_turn 34 = .ok (.lload 4, 2) := by decide +kernel
theorem dX3_turn_36 : decode cX3_turn 36 = .ok (.bipush 8, 2) := by decide +kernel
theorem dX3_turn_38 : decode cX3_turn 38 = .ok (.lshl, 1) := by decide +kernel
theorem dX3_turn_39 : decode cX3_turn 39 = .ok (.lload_n 0, 1) := by decide +kernel
theorem dX3_turn_40 : decode cX3_turn 40 = .ok (.iload 6, 2) := by decide +kernel
theorem dX3_turn_42 : decode cX3_turn 42 = .ok (.lushr, 1) := by decide +kernel
theorem dX3_turn_43 : decode cX3_turn 43 = .ok (.ldc2_w 36, 3) := by decide +kernel
theorem dX3_turn_46 : decode cX3_turn 46 = .ok (.land, 1) := by decide +kernel
theorem dX3_turn_47 : decode cX3_turn 47 = .ok (.lor, 1) := by decide +kernel
theorem dX3_turn_48 : decode cX3_turn 48 = .ok (.lstore 4, 2) := by decide +kernel
theorem dX3_turn_50 : decode cX3_turn 50 = .ok (.iinc 6 8, 3) := by decide +kernel
theorem dX3_turn_53 : decode cX3_turn 53 = .ok (.goto (-25), 3) := by decide +kernel
theorem dX3_turn_56 : decode cX3_turn 56 = .ok (.lload 4, 2) := by decide +kernel
theorem dX3_turn_58 : decode cX3_turn 58 = .ok (.lreturn, 1) := by decide +kernel
theorem dX3_below_0 : decode cX3_below 0 = .ok (.lload_n 0, 1) := by decide +kernel
theorem dX3_below_1 : decode cX3_below 1 = .ok (.ldc2_w 9, 3) := by decide +kernel
theorem dX3_below_4 : decode cX3_below 4 = .ok (.lxor, 1) := by decide +kernel
theorem dX3_below_5 : decode cX3_below 5 = .ok (.lload_n 2, 1) := by decide +kernel
theorem dX3_below_6 : decode cX3_below 6 = .ok (.ldc2_w 9, 3) := by decide +kernel
theorem dX3_below_9 : decode cX3_below 9 = .ok (.lxor, 1) := by decide +kernel
theorem dX3_below_10 : decode cX3_below 10 = .ok (.lcmp, 1) := by decide +kernel
theorem dX3_below_11 : decode cX3_below 11 = .ok (.ifCond .ge 7, 3) := by decide +kernel
theorem dX3_below_14 : decode cX3_below 14 = .ok (.iconst 1, 1) := by decide +kernel
theorem dX3_below_15 : decode cX3_below 15 = .ok (.goto 4, 3) := by decide +kernel
theorem dX3_below_18 : decode cX3_below 18 = .ok (.iconst 0, 1) := by decide +kernel
theorem dX3_below_19 : decode cX3_below 19 = .ok (.ireturn, 1) := by decide +kernel
theorem dX3_half_0 : decode cX3_half 0 = .ok (.iload_n 2, 1) := by decide +kernel
theorem dX3_half_1 : decode cX3_half 1 = .ok (.ifCond .eq 9, 3) := by decide +kernel
theorem dX3_half_4 : decode cX3_half 4 = .ok (.lload_n 0, 1) := by decide +kernel
theorem dX3_half_5 : decode cX3_half 5 = .ok (.l2i, 1) := by decide +kernel
theorem dX3_half_6 : decode cX3_half 6 = .ok (.i2l, 1) := by decide +kernel
theorem dX3_half_7 : decode cX3_half 7 = .ok (.goto 8, 3) := by decide +kernel
theorem dX3_half_10 : decode cX3_half 10 = .ok (.lload_n 0, 1) := by decide +kernel
theorem dX3_half_11 : decode cX3_half 11 = .ok (.ldc2_w 13, 3) := by decide +kernel
theorem dX3_half_14 : decode cX3_half 14 = .ok (.land, 1) := by decide +kernel
theorem dX3_half_15 : decode cX3_half 15 = .ok (.lreturn, 1) := by decide +kernel
theorem dX3_signedQuotient_0 : decode cX3_signedQuotient 0 = .ok (.lload_n 2, 1) := by decide +kernel
theorem dX3_signedQuotient_1 : decode cX3_signedQuotient 1 = .ok (.lconst 0, 1) := by decide +kernel
theorem dX3_signedQuotient_2 : decode cX3_signedQuotient 2 = .ok (.lcmp, 1) := by decide +kernel
theorem dX3_signedQuotient_3 : decode cX3_signedQuotient 3 = .ok (.ifCond .ne 5, 3) := by decide +kernel
theorem dX3_signedQuotient_6 : decode cX3_signedQuotient 6 = .ok (.lconst 0, 1) := by decide +kernel
theorem dX3_signedQuotient_7 : decode cX3_signedQuotient 7 = .ok (.lreturn, 1) := by decide +kernel
theorem dX3_signedQuotient_8 : decode cX3_signedQuotient 8 = .ok (.lload_n 2, 1) := by decide +kernel
theorem dX3_signedQuotient_9 : decode cX3_signedQuotient 9 = .ok (.ldc2_w 11, 3) := by decide +kernel
theorem dX3_signedQuotient_12 : decode cX3_signedQuotient 12 = .ok (.lcmp, 1) := by decide +kernel
theorem dX3_signedQuotient_13 : decode cX3_signedQuotient 13 = .ok (.ifCond .ne 8, 3) := by decide +kernel
theorem dX3_signedQuotient_16 : decode cX3_signedQuotient 16 = .ok (.lload_n 0, 1) := by decide +kernel
theorem dX3_signedQuotient_17 : decode cX3_signedQuotient 17 = .ok (.lneg, 1) := by decide +kernel
theorem dX3_signedQuotient_18 : decode cX3_signedQuotient 18 = .ok (.goto 6, 3) := by decide +kernel
theorem dX3_signedQuotient_21 : decode cX3_signedQuotient 21 = .ok (.lload_n 0, 1) := by decide +kernel
theorem dX3_signedQuotient_22 : decode cX3_signedQuotient 22 = .ok (.lload_n 2, 1) := by decide +kernel
theorem dX3_signedQuotient_23 : decode cX3_signedQuotient 23 = .ok (.ldiv, 1) := by decide +kernel
theorem dX3_signedQuotient_24 : decode cX3_signedQuotient 24 = .ok (.lreturn, 1) := by decide +kernel
theorem dX3_quotient_0 : decode cX3_quotient 0 = .ok (.lload_n 2, 1) := by decide +kernel
theorem dX3_quotient_1 : decode cX3_quotient 1 = .ok (.lconst 0, 1) := by decide +kernel
theorem dX3_quotient_2 : decode cX3_quotient 2 = .ok (.lcmp, 1) := by decide +kernel
theorem dX3_quotient_3 : decode cX3_quotient 3 = .ok (.ifCond .ne 5, 3) := by decide +kernel
theorem dX3_quotient_6 : decode cX3_quotient 6 = .ok (.lconst 0, 1) := by decide +kernel
theorem dX3_quotient_7 : decode cX3_quotient 7 = .ok (.lreturn, 1) := by decide +kernel
theorem dX3_quotient_8 : decode cX3_quotient 8 = .ok (.lload_n 2, 1) := by decide +kernel
theorem dX3_quotient_9 : decode cX3_quotient 9 = .ok (.lconst 0, 1) := by decide +kernel
theorem dX3_quotient_10 : decode cX3_quotient 10 = .ok (.lcmp, 1) := by decide +kernel
theorem dX3_quotient_11 : decode cX3_quotient 11 = .ok (.ifCond .ge 21, 3) := by decide +kernel
theorem dX3_quotient_14 : decode cX3_quotient 14 = .ok (.lload_n 0, 1) := by decide +kernel
theorem dX3_quotient_15 : decode cX3_quotient 15 = .ok (.lconst 0, 1) := by decide +kernel
theorem dX3_quotient_16 : decode cX3_quotient 16 = .ok (.lcmp, 1) := by decide +kernel
theorem dX3_quotient_17 : decode cX3_quotient 17 = .ok (.ifCond .ge 9, 3) := by decide +kernel
theorem dX3_quotient_20 : decode cX3_quotient 20 = .ok (.lload_n 0, 1) := by decide +kernel
theorem dX3_quotient_21 : decode cX3_quotient 21 = .ok (.lload_n 2, 1) := by decide +kernel
theorem dX3_quotient_22 : decode cX3_quotient 22 = .ok (.lcmp, 1) := by decide +kernel
theorem dX3_quotient_23 : decode cX3_quotient 23 = .ok (.ifCond .ge 7, 3) := by decide +kernel
theorem dX3_quotient_26 : decode cX3_quotient 26 = .ok (.lconst 0, 1) := by decide +kernel
theorem dX3_quotient_27 : decode cX3_quotient 27 = .ok (.goto 4, 3) := by decide +kernel
theorem dX3_quotient_30 : decode cX3_quotient 30 = .ok (.lconst 1, 1) := by decide +kernel
theorem dX3_quotient_31 : decode cX3_quotient 31 = .ok (.lreturn, 1) := by decide +kernel
theorem dX3_quotient_32 : decode cX3_quotient 32 = .ok (.lload_n 0, 1) := by decide +kernel
theorem dX3_quotient_33 : decode cX3_quotient 33 = .ok (.lconst 0, 1) := by decide +kernel
theorem dX3_quotient_34 : decode cX3_quotient 34 = .ok (.lcmp, 1) := by decide +kernel
theorem dX3_quotient_35 : decode cX3_quotient 35 = .ok (.ifCond .lt 7, 3) := by decide +kernel
theorem dX3_quotient_38 : decode cX3_quotient 38 = .ok (.lload_n 0, 1) := by decide +kernel
theorem dX3_quotient_39 : decode cX3_quotient 39 = .ok (.lload_n 2, 1) := by decide +kernel
theorem dX3_quotient_40 : decode cX3_quotient 40 = .ok (.ldiv, 1) := by decide +kernel
theorem dX3_quotient_41 : decode cX3_quotient 41 = .ok (.lreturn, 1) := by decide +kernel
theorem dX3_quotient_42 : decode cX3_quotient 42 = .ok (.lload_n 0, 1) := by decide +kernel
theorem dX3_quotient_43 : decode cX3_quotient 43 = .ok (.iconst 1, 1) := by decide +kernel
theorem dX3_quotient_44 : decode cX3_quotient 44 = .ok (.lushr, 1) := by decide +kernel
theorem dX3_quotient_45 : decode cX3_quotient 45 = .ok (.lload_n 2, 1) := by decide +kernel
theorem dX3_quotient_46 : decode cX3_quotient 46 = .ok (.ldiv, 1) := by decide +kernel
theorem dX3_quotient_47 : decode cX3_quotient 47 = .ok (.iconst 1, 1) := by decide +kernel
theorem dX3_quotient_48 : decode cX3_quotient 48 = .ok (.lshl, 1) := by decide +kernel
theorem dX3_quotient_49 : decode cX3_quotient 49 = .ok (.lstore 4, 2) := by decide +kernel
theorem dX3_quotient_51 : decode cX3_quotient 51 = .ok (.lload_n 0, 1) := by decide +kernel
theorem dX3_quotient_52 : decode cX3_quotient 52 = .ok (.lload 4, 2) := by decide +kernel
theorem dX3_quotient_54 : decode cX3_quotient 54 = .ok (.lload_n 2, 1) := by decide +kernel
theorem dX3_quotient_55 : decode cX3_quotient 55 = .ok (.lmul, 1) := by decide +kernel
theorem dX3_quotient_56 : decode cX3_quotient 56 = .ok (.lsub, 1) := by decide +kernel
theorem dX3_quotient_57 : decode cX3_quotient 57 = .ok (.lstore 6, 2) := by decide +kernel
theorem dX3_quotient_59 : decode cX3_quotient 59 = .ok (.lload 6, 2) := by decide +kernel
theorem dX3_quotient_61 : decode cX3_quotient 61 = .ok (.lconst 0, 1) := by decide +kernel
theorem dX3_quotient_62 : decode cX3_quotient 62 = .ok (.lcmp, 1) := by decide +kernel
theorem dX3_quotient_63 : decode cX3_quotient 63 = .ok (.ifCond .lt 15, 3) := by decide +kernel
theorem dX3_quotient_66 : decode cX3_quotient 66 = .ok (.lload 6, 2) := by decide +kernel
theorem dX3_quotient_68 : decode cX3_quotient 68 = .ok (.lload_n 2, 1) := by decide +kernel
theorem dX3_quotient_69 : decode cX3_quotient 69 = .ok (.lcmp, 1) := by decide +kernel
theorem dX3_quotient_70 : decode cX3_quotient 70 = .ok (.ifCond .ge 8, 3) := by decide +kernel
theorem dX3_quotient_73 : decode cX3_quotient 73 = .ok (.lload 4, 2) := by decide +kernel
theorem dX3_quotient_75 : decode cX3_quotient 75 = .ok (.goto 7, 3) := by decide +kernel
theorem dX3_quotient_78 : decode cX3_quotient 78 = .ok (.lload 4, 2) := by decide +kernel
theorem dX3_quotient_80 : decode cX3_quotient 80 = .ok (.lconst 1, 1) := by decide +kernel
theorem dX3_quotient_81 : decode cX3_quotient 81 = .ok (.ladd, 1) := by decide +kernel
theorem dX3_quotient_82 : decode cX3_quotient 82 = .ok (.lreturn, 1) := by decide +kernel
theorem dX3_withSign_0 : decode cX3_withSign 0 = .ok (.bipush 64, 2) := by decide +kernel
theorem dX3_withSign_2 : decode cX3_withSign 2 = .ok (.iload_n 2, 1) := by decide +kernel
theorem dX3_withSign_3 : decode cX3_withSign 3 = .ok (.isub, 1) := by decide +kernel
theorem dX3_withSign_4 : decode cX3_withSign 4 = .ok (.istore_n 3, 1) := by decide +kernel
theorem dX3_withSign_5 : decode cX3_withSign 5 = .ok (.lload_n 0, 1) := by decide +kernel
theorem dX3_withSign_6 : decode cX3_withSign 6 = .ok (.iload_n 3, 1) := by decide +kernel
theorem dX3_withSign_7 : decode cX3_withSign 7 = .ok (.lshl, 1) := by decide +kernel
theorem dX3_withSign_8 : decode cX3_withSign 8 = .ok (.iload_n 3, 1) := by decide +kernel
theorem dX3_withSign_9 : decode cX3_withSign 9 = .ok (.lshr, 1) := by decide +kernel
theorem dX3_withSign_10 : decode cX3_withSign 10 = .ok (.lreturn, 1) := by decide +kernel
theorem dX3_makeOther_0 : decode cX3_makeOther 0 = .ok (.iload_n 0, 1) := by decide +kernel
theorem dX3_makeOther_1 : decode cX3_makeOther 1 = .ok (.tableswitch 121 0 12 #[67, 71, 75, 121, 79, 83, 91, 100, 118, 121, 87, 121, 109], 67) := by decide +kernel
theorem dX3_makeOther_68 : decode cX3_makeOther 68 = .ok (.lload_n 1, 1) := by decide +kernel
theorem dX3_makeOther_69 : decode cX3_makeOther 69 = .ok (.lload_n 3, 1) := by decide +kernel
theorem dX3_makeOther_70 : decode cX3_makeOther 70 = .ok (.ladd, 1) := by decide +kernel
theorem dX3_makeOther_71 : decode cX3_makeOther 71 = .ok (.lreturn, 1) := by decide +kernel
theorem dX3_makeOther_72 : decode cX3_makeOther 72 = .ok (.lload_n 1, 1) := by decide +kernel
theorem dX3_makeOther_73 : decode cX3_makeOther 73 = .ok (.lload_n 3, 1) := by decide +kernel
theorem dX3_makeOther_74 : decode cX3_makeOther 74 = .ok (.lsub, 1) := by decide +kernel
theorem dX3_makeOther_75 : decode cX3_makeOther 75 = .ok (.lreturn, 1) := by decide +kernel
theorem dX3_makeOther_76 : decode cX3_makeOther 76 = .ok (.lload_n 1, 1) := by decide +kernel
theorem dX3_makeOther_77 : decode cX3_makeOther 77 = .ok (.lload_n 3, 1) := by decide +kernel
theorem dX3_makeOther_78 : decode cX3_makeOther 78 = .ok (.lmul, 1) := by decide +kernel
theorem dX3_makeOther_79 : decode cX3_makeOther 79 = .ok (.lreturn, 1) := by decide +kernel
theorem dX3_makeOther_80 : decode cX3_makeOther 80 = .ok (.lload_n 1, 1) := by decide +kernel
theorem dX3_makeOther_81 : decode cX3_makeOther 81 = .ok (.lload_n 3, 1) := by decide +kernel
theorem dX3_makeOther_82 : decode cX3_makeOther 82 = .ok (.lor, 1) := by decide +kernel
theorem dX3_makeOther_83 : decode cX3_makeOther 83 = .ok (.lreturn, 1) := by decide +kernel
theorem dX3_makeOther_84 : decode cX3_makeOther 84 = .ok (.lload_n 1, 1) := by decide +kernel
theorem dX3_makeOther_85 : decode cX3_makeOther 85 = .ok (.lload_n 3, 1) := by decide +kernel
theorem dX3_makeOther_86 : decode cX3_makeOther 86 = .ok (.land, 1) := by decide +kernel
theorem dX3_makeOther_87 : decode cX3_makeOther 87 = .ok (.lreturn, 1) := by decide +kernel
theorem dX3_makeOther_88 : decode cX3_makeOther 88 = .ok (.lload_n 1, 1) := by decide +kernel
theorem dX3_makeOther_89 : decode cX3_makeOther 89 = .ok (.lload_n 3, 1) := by decide +kernel
theorem dX3_makeOther_90 : decode cX3_makeOther 90 = .ok (.lxor, 1) := by decide +kernel
theorem dX3_makeOther_91 : decode cX3_makeOther 91 = .ok (.lreturn, 1) := by decide +kernel
theorem dX3_makeOther_92 : decode cX3_makeOther 92 = .ok (.lload_n 1, 1) := by decide +kernel
theorem dX3_makeOther_93 : decode cX3_makeOther 93 = .ok (.lload_n 3, 1) := by decide +kernel
theorem dX3_makeOther_94 : decode cX3_makeOther 94 = .ok (.iload 5, 2) := by decide +kernel
theorem dX3_makeOther_96 : decode cX3_makeOther 96 = .ok (.i2l, 1) := by decide +kernel
theorem dX3_makeOther_97 : decode cX3_makeOther 97 = .ok (.land, 1) := by decide +kernel
theorem dX3_makeOther_98 : decode cX3_makeOther 98 = .ok (.l2i, 1) := by decide +kernel
theorem dX3_makeOther_99 : decode cX3_makeOther 99 = .ok (.lshl, 1) := by decide +kernel
theorem dX3_makeOther_100 : decode cX3_makeOther 100 = .ok (.lreturn, 1) := by decide +kernel
theorem dX3_makeOther_101 : decode cX3_makeOther 101 = .ok (.lload_n 1, 1) := by decide +kernel
theorem dX3_makeOther_102 : decode cX3_makeOther 102 = .ok (.lload_n 3, 1) := by decide +kernel
theorem dX3_makeOther_103 : decode cX3_makeOther 103 = .ok (.iload 5, 2) := by decide +kernel
theorem dX3_makeOther_105 : decode cX3_makeOther 105 = .ok (.i2l, 1) := by decide +kernel
theorem dX3_makeOther_106 : decode cX3_makeOther 106 = .ok (.land, 1) := by decide +kernel
theorem dX3_makeOther_107 : decode cX3_makeOther 107 = .ok (.l2i, 1) := by decide +kernel
theorem dX3_makeOther_108 : decode cX3_makeOther 108 = .ok (.lushr, 1) := by decide +kernel
theorem dX3_makeOther_109 : decode cX3_makeOther 109 = .ok (.lreturn, 1) := by decide +kernel
theorem dX3_makeOther_110 : decode cX3_makeOther 110 = .ok (.lload_n 1, 1) := by decide +kernel
theorem dX3_makeOther_111 : decode cX3_makeOther 111 = .ok (.lload_n 3, 1) := by decide +kernel
theorem dX3_makeOther_112 : decode cX3_makeOther 112 = .ok (.iload 5, 2) := by decide +kernel
theorem dX3_makeOther_114 : decode cX3_makeOther 114 = .ok (.i2l, 1) := by decide +kernel
theorem dX3_makeOther_115 : decode cX3_makeOther 115 = .ok (.land, 1) := by decide +kernel
theorem dX3_makeOther_116 : decode cX3_makeOther 116 = .ok (.l2i, 1) := by decide +kernel
theorem dX3_makeOther_117 : decode cX3_makeOther 117 = .ok (.lshr, 1) := by decide +kernel
theorem dX3_makeOther_118 : decode cX3_makeOther 118 = .ok (.lreturn, 1) := by decide +kernel
theorem dX3_makeOther_119 : decode cX3_makeOther 119 = .ok (.lload_n 1, 1) := by decide +kernel
theorem dX3_makeOther_120 : decode cX3_makeOther 120 = .ok (.lneg, 1) := by decide +kernel
theorem dX3_makeOther_121 : decode cX3_makeOther 121 = .ok (.lreturn, 1) := by decide +kernel
theorem dX3_makeOther_122 : decode cX3_makeOther 122 = .ok (.lload_n 3, 1) := by decide +kernel
theorem dX3_makeOther_123 : decode cX3_makeOther 123 = .ok (.lreturn, 1) := by decide +kernel
theorem dX3_make_0 : decode cX3_make 0 = .ok (.iload_n 0, 1) := by decide +kernel
theorem dX3_make_1 : decode cX3_make 1 = .ok (.iconst 3, 1) := by decide +kernel
theorem dX3_make_2 : decode cX3_make 2 = .ok (.if_icmp .eq 9, 3) := by decide +kernel
theorem dX3_make_5 : decode cX3_make 5 = .ok (.iload_n 0, 1) := by decide +kernel
theorem dX3_make_6 : decode cX3_make 6 = .ok (.bipush 9, 2) := by decide +kernel
theorem dX3_make_8 : decode cX3_make 8 = .ok (.if_icmp .ne 7, 3) := by decide +kernel
theorem dX3_make_11 : decode cX3_make 11 = .ok (.iconst 1, 1) := by decide +kernel
theorem dX3_make_12 : decode cX3_make 12 = .ok (.goto 4, 3) := by decide +kernel
theorem dX3_make_15 : decode cX3_make 15 = .ok (.iconst 0, 1) := by decide +kernel
theorem dX3_make_16 : decode cX3_make 16 = .ok (.istore 7, 2) := by decide +kernel
theorem dX3_make_18 : decode cX3_make 18 = .ok (.iload_n 0, 1) := by decide +kernel
theorem dX3_make_19 : decode cX3_make 19 = .ok (.bipush 12, 2) := by decide +kernel
theorem dX3_make_21 : decode cX3_make 21 = .ok (.if_icmp .eq 13, 3) := by decide +kernel
theorem dX3_make_24 : decode cX3_make 24 = .ok (.iload 7, 2) := by decide +kernel
theorem dX3_make_26 : decode cX3_make 26 = .ok (.ifCond .eq 12, 3) := by decide +kernel
theorem dX3_make_29 : decode cX3_make 29 = .ok (.iload_n 2, 1) := by decide +kernel
theorem dX3_make_30 : decode cX3_make 30 = .ok (.iconst 1, 1) := by decide +kernel
theorem dX3_make_31 : decode cX3_make 31 = .ok (.if_icmp .ne 7, 3) := by decide +kernel
theorem dX3_make_34 : decode cX3_make 34 = .ok (.iconst 1, 1) := by decide +kernel
theorem dX3_make_35 : decode cX3_make 35 = .ok (.goto 4, 3) := by decide +kernel
theorem dX3_make_38 : decode cX3_make 38 = .ok (.iconst 0, 1) := by decide +kernel
theorem dX3_make_39 : decode cX3_make 39 = .ok (.istore 8, 2) := by decide +kernel
theorem dX3_make_41 : decode cX3_make 41 = .ok (.iload_n 1, 1) := by decide +kernel
theorem dX3_make_42 : decode cX3_make 42 = .ok (.ifCond .eq 7, 3) := by decide +kernel
theorem dX3_make_45 : decode cX3_make 45 = .ok (.lload_n 3, 1) := by decide +kernel
theorem dX3_make_46 : decode cX3_make 46 = .ok (.goto 9, 3) := by decide +kernel
theorem dX3_make_49 : decode cX3_make 49 = .ok (.lload_n 3, 1) := by decide +kernel
theorem dX3_make_50 : decode cX3_make 50 = .ok (.iload 8, 2) := by decide +kernel
theorem dX3_make_52 : decode cX3_make 52 = .ok (.invokestatic 15, 3) := by decide +kernel
theorem dX3_make_55 : decode cX3_make 55 = .ok (.lstore 9, 2) := by decide +kernel
theorem dX3_make_57 : decode cX3_make 57 = .ok (.iload_n 1, 1) := by decide +kernel
theorem dX3_make_58 : decode cX3_make 58 = .ok (.ifCond .eq 8, 3) := by decide +kernel
theorem dX3_make_61 : decode cX3_make 61 = .ok (.lload 5, 2) := by decide +kernel
theorem dX3_make_63 : decode cX3_make 63 = .ok (.goto 10, 3) := by decide +kernel
theorem dX3_make_66 : decode cX3_make 66 = .ok (.lload 5, 2) := by decide +kernel
theorem dX3_make_68 : decode cX3_make 68 = .ok (.iload 8, 2) := by decide +kernel
theorem dX3_make_70 : decode cX3_make 70 = .ok (.invokestatic 15, 3) := by decide +kernel
theorem dX3_make_73 : decode cX3_make 73 = .ok (.lstore 11, 2) := by decide +kernel
theorem dX3_make_75 : decode cX3_make 75 = .ok (.iload 7, 2) := by decide +kernel
theorem dX3_make_77 : decode cX3_make 77 = .ok (.ifCond .eq 50, 3) := by decide +kernel
theorem dX3_make_80 : decode cX3_make 80 = .ok (.iload 8, 2) := by decide +kernel
theorem dX3_make_82 : decode cX3_make 82 = .ok (.ifCond .eq 13, 3) := by decide +kernel
theorem dX3_make_85 : decode cX3_make 85 = .ok (.lload 9, 2) := by decide +kernel
theorem dX3_make_87 : decode cX3_make 87 = .ok (.lload 11, 2) := by decide +kernel
theorem dX3_make_89 : decode cX3_make 89 = .ok (.invokestatic 21, 3) := by decide +kernel
theorem dX3_make_92 : decode cX3_make 92 = .ok (.goto 10, 3) := by decide +kernel
theorem dX3_make_95 : decode cX3_make 95 = .ok (.lload 9, 2) := by decide +kernel
theorem dX3_make_97 : decode cX3_make 97 = .ok (.lload 11, 2) := by decide +kernel
theorem dX3_make_99 : decode cX3_make 99 = .ok (.invokestatic 25, 3) := by decide +kernel
theorem dX3_make_102 : decode cX3_make 102 = .ok (.lstore 15, 2) := by decide +kernel
theorem dX3_make_104 : decode cX3_make 104 = .ok (.iload_n 0, 1) := by decide +kernel
theorem dX3_make_105 : decode cX3_make 105 = .ok (.iconst 3, 1) := by decide +kernel
theorem dX3_make_106 : decode cX3_make 106 = .ok (.if_icmp .ne 8, 3) := by decide +kernel
theorem dX3_make_109 : decode cX3_make 109 = .ok (.lload 15, 2) := by decide +kernel
theorem dX3_make_111 : decode cX3_make 111 = .ok (.goto 11, 3) := by decide +kernel
theorem dX3_make_114 : decode cX3_make 114 = .ok (.lload 9, 2) := by decide +kernel
theorem dX3_make_116 : decode cX3_make 116 = .ok (.lload 15, 2) := by decide +kernel
theorem dX3_make_118 : decode cX3_make 118 = .ok (.lload 11, 2) := by decide +kernel
theorem dX3_make_120 : decode cX3_make 120 = .ok (.lmul, 1) := by decide +kernel
theorem dX3_make_121 : decode cX3_make 121 = .ok (.lsub, 1) := by decide +kernel
theorem dX3_make_122 : decode cX3_make 122 = .ok (.lstore 13, 2) := by decide +kernel
theorem dX3_make_124 : decode cX3_make 124 = .ok (.goto 45, 3) := by decide +kernel
theorem dX3_make_127 : decode cX3_make 127 = .ok (.iload_n 0, 1) := by decide +kernel
theorem dX3_make_128 : decode cX3_make 128 = .ok (.bipush 11, 2) := by decide +kernel
theorem dX3_make_130 : decode cX3_make 130 = .ok (.if_icmp .ne 18, 3) := by decide +kernel
theorem dX3_make_133 : decode cX3_make 133 = .ok (.iload_n 2, 1) := by decide +kernel
theorem dX3_make_134 : decode cX3_make 134 = .ok (.ifCond .eq 14, 3) := by decide +kernel
theorem dX3_make_137 : decode cX3_make 137 = .ok (.lload 11, 2) := by decide +kernel
theorem dX3_make_139 : decode cX3_make 139 = .ok (.iload_n 2, 1) := by decide +kernel
theorem dX3_make_140 : decode cX3_make 140 = .ok (.invokestatic 28, 3) := by decide +kernel
theorem dX3_make_143 : decode cX3_make 143 = .ok (.lstore 13, 2) := by decide +kernel
theorem dX3_make_145 : decode cX3_make 145 = .ok (.goto 24, 3) := by decide +kernel
theorem dX3_make_148 : decode cX3_make 148 = .ok (.iload_n 0, 1) := by decide +kernel
theorem dX3_make_149 : decode cX3_make 149 = .ok (.lload 9, 2) := by decide +kernel
theorem dX3_make_151 : decode cX3_make 151 = .ok (.lload 11, 2) := by decide +kernel
theorem dX3_make_153 : decode cX3_make 153 = .ok (.iload_n 1, 1) := by decide +kernel
theorem dX3_make_154 : decode cX3_make 154 = .ok (.ifCond .eq 8, 3) := by decide +kernel
theorem dX3_make_157 : decode cX3_make 157 = .ok (.bipush 63, 2) := by decide +kernel
theorem dX3_make_159 : decode cX3_make 159 = .ok (.goto 5, 3) := by decide +kernel
theorem dX3_make_162 : decode cX3_make 162 = .ok (.bipush 31, 2) := by decide +kernel
theorem dX3_make_164 : decode cX3_make 164 = .ok (.invokestatic 32, 3) := by decide +kernel
theorem dX3_make_167 : decode cX3_make 167 = .ok (.lstore 13, 2) := by decide +kernel
theorem dX3_make_169 : decode cX3_make 169 = .ok (.iload_n 1, 1) := by decide +kernel
theorem dX3_make_170 : decode cX3_make 170 = .ok (.ifCond .eq 8, 3) := by decide +kernel
theorem dX3_make_173 : decode cX3_make 173 = .ok (.lload 13, 2) := by decide +kernel
theorem dX3_make_175 : decode cX3_make 175 = .ok (.goto 9, 3) := by decide +kernel
theorem dX3_make_178 : decode cX3_make 178 = .ok (.lload 13, 2) := by decide +kernel
theorem dX3_make_180 : decode cX3_make 180 = .ok (.ldc2_w 13, 3) := by decide +kernel
theorem dX3_make_183 : decode cX3_make 183 = .ok (.land, 1) := by decide +kernel
theorem dX3_make_184 : decode cX3_make 184 = .ok (.lreturn, 1) := by decide +kernel
theorem dJ7_fill_031fb_0 : decode cJ7_fill_031fb 0 = .ok (.iconst 0, 1) := by decide +kernel
theorem dJ7_fill_031fb_1 : decode cJ7_fill_031fb 1 = .ok (.istore_n 2, 1) := by decide +kernel
theorem dJ7_fill_031fb_2 : decode cJ7_fill_031fb 2 = .ok (.aload_n 0, 1) := by decide +kernel
theorem dJ7_fill_031fb_3 : decode cJ7_fill_031fb 3 = .ok (.arraylength, 1) := by decide +kernel
theorem dJ7_fill_031fb_4 : decode cJ7_fill_031fb 4 = .ok (.istore_n 3, 1) := by decide +kernel
theorem dJ7_fill_031fb_5 : decode cJ7_fill_031fb 5 = .ok (.iload_n 2, 1) := by decide +kernel
theorem dJ7_fill_031fb_6 : decode cJ7_fill_031fb 6 = .ok (.iload_n 3, 1) := by decide +kernel
theorem dJ7_fill_031fb_7 : decode cJ7_fill_031fb 7 = .ok (.if_icmp .ge 13, 3) := by decide +kernel
theorem dJ7_fill_031fb_10 : decode cJ7_fill_031fb 10 = .ok (.aload_n 0, 1) := by decide +kernel
theorem dJ7_fill_031fb_11 : decode cJ7_fill_031fb 11 = .ok (.iload_n 2, 1) := by decide +kernel
theorem dJ7_fill_031fb_12 : decode cJ7_fill_031fb 12 = .ok (.iload_n 1, 1) := by decide +kernel
theorem dJ7_fill_031fb_13 : decode cJ7_fill_031fb 13 = .ok (.bastore, 1) := by decide +kernel
theorem dJ7_fill_031fb_14 : decode cJ7_fill_031fb 14 = .ok (.iinc 2 1, 3) := by decide +kernel
theorem dJ7_fill_031fb_17 : decode cJ7_fill_031fb 17 = .ok (.goto (-12), 3) := by decide +kernel
theorem dJ7_fill_031fb_20 : decode cJ7_fill_031fb 20 = .ok (.return_, 1) := by decide +kernel
theorem dJ9_floorMod_7cf53_0 : decode cJ9_floorMod_7cf53 0 = .ok (.iload_n 0, 1) := by decide +kernel
theorem dJ9_floorMod_7cf53_1 : decode cJ9_floorMod_7cf53 1 = .ok (.iload_n 1, 1) := by decide +kernel
theorem dJ9_floorMod_7cf53_2 : decode cJ9_floorMod_7cf53 2 = .ok (.irem, 1) := by decide +kernel
theorem dJ9_floorMod_7cf53_3 : decode cJ9_floorMod_7cf53 3 = .ok (.istore_n 2, 1) := by decide +kernel
theorem dJ9_floorMod_7cf53_4 : decode cJ9_floorMod_7cf53 4 = .ok (.iload_n 0, 1) := by decide +kernel
theorem dJ9_floorMod_7cf53_5 : decode cJ9_floorMod_7cf53 5 = .ok (.iload_n 1, 1) := by decide +kernel
theorem dJ9_floorMod_7cf53_6 : decode cJ9_floorMod_7cf53 6 = .ok (.ixor, 1) := by decide +kernel
theorem dJ9_floorMod_7cf53_7 : decode cJ9_floorMod_7cf53 7 = .ok (.ifCond .ge 11, 3) := by decide +kernel
theorem dJ9_floorMod_7cf53_10 : decode cJ9_floorMod_7cf53 10 = .ok (.iload_n 2, 1) := by decide +kernel
theorem dJ9_floorMod_7cf53_11 : decode cJ9_floorMod_7cf53 11 = .ok (.ifCond .eq 7, 3) := by decide +kernel
theorem dJ9_floorMod_7cf53_14 : decode cJ9_floorMod_7cf53 14 = .ok (.iload_n 2, 1) := by decide +kernel
theorem dJ9_floorMod_7cf53_15 : decode cJ9_floorMod_7cf53 15 = .ok (.iload_n 1, 1) := by decide +kernel
theorem dJ9_floorMod_7cf53_16 : decode cJ9_floorMod_7cf53 16 = .ok (.iadd, 1) := by decide +kernel
theorem dJ9_floorMod_7cf53_17 : decode cJ9_floorMod_7cf53 17 = .ok (.ireturn, 1) := by decide +kernel
theorem dJ9_floorMod_7cf53_18 : decode cJ9_floorMod_7cf53 18 = .ok (.iload_n 2, 1) := by decide +kernel
theorem dJ9_floorMod_7cf53_19 : decode cJ9_floorMod_7cf53 19 = .ok (.ireturn, 1) := by decide +kernel
theorem dX3_holdsSigned_0 : decode cX3_holdsSigned 0 = .ok (.iload_n 0, 1) := by decide +kernel
theorem dX3_holdsSigned_1 : decode cX3_holdsSigned 1 = .ok (.lookupswitch 71 #[(6, 35), (7, 47), (12, 59)], 35) := by decide +kernel
theorem dX3_holdsSigned_36 : decode cX3_holdsSigned 36 = .ok (.lload_n 1, 1) := by decide +kernel
theorem dX3_holdsSigned_37 : decode cX3_holdsSigned 37 = .ok (.lload_n 3, 1) := by decide +kernel
theorem dX3_holdsSigned_38 : decode cX3_holdsSigned 38 = .ok (.lcmp, 1) := by decide +kernel
theorem dX3_holdsSigned_39 : decode cX3_holdsSigned 39 = .ok (.ifCond .le 7, 3) := by decide +kernel
theorem dX3_holdsSigned_42 : decode cX3_holdsSigned 42 = .ok (.iconst 1, 1) := by decide +kernel
theorem dX3_holdsSigned_43 : decode cX3_holdsSigned 43 = .ok (.goto 4, 3) := by decide +kernel
theorem dX3_holdsSigned_46 : decode cX3_holdsSigned 46 = .ok (.iconst 0, 1) := by decide +kernel
theorem dX3_holdsSigned_47 : decode cX3_holdsSigned 47 = .ok (.ireturn, 1) := by decide +kernel
theorem dX3_holdsSigned_48 : decode cX3_holdsSigned 48 = .ok (.lload_n 1, 1) := by decide +kernel
theorem dX3_holdsSigned_49 : decode cX3_holdsSigned 49 = .ok (.lload_n 3, 1) := by decide +kernel
theorem dX3_holdsSigned_50 : decode cX3_holdsSigned 50 = .ok (.lcmp, 1) := by decide +kernel
theorem dX3_holdsSigned_51 : decode cX3_holdsSigned 51 = .ok (.ifCond .lt 7, 3) := by decide +kernel
theorem dX3_holdsSigned_54 : decode cX3_holdsSigned 54 = .ok (.iconst 1, 1) := by decide +kernel
theorem dX3_holdsSigned_55 : decode cX3_holdsSigned 55 = .ok (.goto 4, 3) := by decide +kernel
theorem dX3_holdsSigned_58 : decode cX3_holdsSigned 58 = .ok (.iconst 0, 1) := by decide +kernel
theorem dX3_holdsSigned_59 : decode cX3_holdsSigned 59 = .ok (.ireturn, 1) := by decide +kernel
theorem dX3_holdsSigned_60 : decode cX3_holdsSigned 60 = .ok (.lload_n 1, 1) := by decide +kernel
theorem dX3_holdsSigned_61 : decode cX3_holdsSigned 61 = .ok (.lload_n 3, 1) := by decide +kernel
theorem dX3_holdsSigned_62 : decode cX3_holdsSigned 62 = .ok (.lcmp, 1) := by decide +kernel
theorem dX3_holdsSigned_63 : decode cX3_holdsSigned 63 = .ok (.ifCond .ge 7, 3) := by decide +kernel
theorem dX3_holdsSigned_66 : decode cX3_holdsSigned 66 = .ok (.iconst 1, 1) := by decide +kernel
theorem dX3_holdsSigned_67 : decode cX3_holdsSigned 67 = .ok (.goto 4, 3) := by decide +kernel
theorem dX3_holdsSigned_70 : decode cX3_holdsSigned 70 = .ok (.iconst 0, 1) := by decide +kernel
theorem dX3_holdsSigned_71 : decode cX3_holdsSigned 71 = .ok (.ireturn, 1) := by decide +kernel
theorem dX3_holdsSigned_72 : decode cX3_holdsSigned 72 = .ok (.lload_n 1, 1) := by decide +kernel
theorem dX3_holdsSigned_73 : decode cX3_holdsSigned 73 = .ok (.lload_n 3, 1) := by decide +kernel
theorem dX3_holdsSigned_74 : decode cX3_holdsSigned 74 = .ok (.lcmp, 1) := by decide +kernel
theorem dX3_holdsSigned_75 : decode cX3_holdsSigned 75 = .ok (.ifCond .gt 7, 3) := by decide +kernel
theorem dX3_holdsSigned_78 : decode cX3_holdsSigned 78 = .ok (.iconst 1, 1) := by decide +kernel
theorem dX3_holdsSigned_79 : decode cX3_holdsSigned 79 = .ok (.goto 4, 3) := by decide +kernel
theorem dX3_holdsSigned_82 : decode cX3_holdsSigned 82 = .ok (.iconst 0, 1) := by decide +kernel
theorem dX3_holdsSigned_83 : decode cX3_holdsSigned 83 = .ok (.ireturn, 1) := by decide +kernel
theorem dX3_holds_0 : decode cX3_holds 0 = .ok (.iload_n 1, 1) := by decide +kernel
theorem dX3_holds_1 : decode cX3_holds 1 = .ok (.ifCond .eq 7, 3) := by decide +kernel
theorem dX3_holds_4 : decode cX3_holds 4 = .ok (.lload_n 2, 1) := by decide +kernel
theorem dX3_holds_5 : decode cX3_holds 5 = .ok (.goto 8, 3) := by decide +kernel
theorem dX3_holds_8 : decode cX3_holds 8 = .ok (.lload_n 2, 1) := by decide +kernel
theorem dX3_holds_9 : decode cX3_holds 9 = .ok (.ldc2_w 13, 3) := by decide +kernel
theorem dX3_holds_12 : decode cX3_holds 12 = .ok (.land, 1) := by decide +kernel
theorem dX3_holds_13 : decode cX3_holds 13 = .ok (.lstore 6, 2) := by decide +kernel
theorem dX3_holds_15 : decode cX3_holds 15 = .ok (.iload_n 1, 1) := by decide +kernel
theorem dX3_holds_16 : decode cX3_holds 16 = .ok (.ifCond .eq 8, 3) := by decide +kernel
theorem dX3_holds_19 : decode cX3_holds 19 = .ok (.lload 4, 2) := by decide +kernel
theorem dX3_holds_21 : decode cX3_holds 21 = .ok (.goto 9, 3) := by decide +kernel
theorem dX3_holds_24 : decode cX3_holds 24 = .ok (.lload 4, 2) := by decide +kernel
theorem dX3_holds_26 : decode cX3_holds 26 = .ok (.ldc2_w 13, 3) := by decide +kernel
theorem dX3_holds_29 : decode cX3_holds 29 = .ok (.land, 1) := by decide +kernel
theorem dX3_holds_30 : decode cX3_holds 30 = .ok (.lstore 8, 2) := by decide +kernel
theorem dX3_holds_32 : decode cX3_holds 32 = .ok (.iload_n 0, 1) := by decide +kernel
theorem dX3_holds_33 : decode cX3_holds 33 = .ok (.tableswitch 151 1 11 #[59, 87, 95, 135, 73, 151, 151, 151, 151, 111, 119], 59) := by decide +kernel
theorem dX3_holds_92 : decode cX3_holds 92 = .ok (.lload 6, 2) := by decide +kernel
theorem dX3_holds_94 : decode cX3_holds 94 = .ok (.lload 8, 2) := by decide +kernel
theorem dX3_holds_96 : decode cX3_holds 96 = .ok (.lcmp, 1) := by decide +kernel
theorem dX3_holds_97 : decode cX3_holds 97 = .ok (.ifCond .ne 7, 3) := by decide +kernel
theorem dX3_holds_100 : decode cX3_holds 100 = .ok (.iconst 1, 1) := by decide +kernel
theorem dX3_holds_101 : decode cX3_holds 101 = .ok (.goto 4, 3) := by decide +kernel
theorem dX3_holds_104 : decode cX3_holds 104 = .ok (.iconst 0, 1) := by decide +kernel
theorem dX3_holds_105 : decode cX3_holds 105 = .ok (.ireturn, 1) := by decide +kernel
theorem dX3_holds_106 : decode cX3_holds 106 = .ok (.lload 6, 2) := by decide +kernel
theorem dX3_holds_108 : decode cX3_holds 108 = .ok (.lload 8, 2) := by decide +kernel
theorem dX3_holds_110 : decode cX3_holds 110 = .ok (.lcmp, 1) := by decide +kernel
theorem dX3_holds_111 : decode cX3_holds 111 = .ok (.ifCond .eq 7, 3) := by decide +kernel
theorem dX3_holds_114 : decode cX3_holds 114 = .ok (.iconst 1, 1) := by decide +kernel
theorem dX3_holds_115 : decode cX3_holds 115 = .ok (.goto 4, 3) := by decide +kernel
theorem dX3_holds_118 : decode cX3_holds 118 = .ok (.iconst 0, 1) := by decide +kernel
theorem dX3_holds_119 : decode cX3_holds 119 = .ok (.ireturn, 1) := by decide +kernel
theorem dX3_holds_120 : decode cX3_holds 120 = .ok (.lload 8, 2) := by decide +kernel
theorem dX3_holds_122 : decode cX3_holds 122 = .ok (.lload 6, 2) := by decide +kernel
theorem dX3_holds_124 : decode cX3_holds 124 = .ok (.invokestatic 38, 3) := by decide +kernel
theorem dX3_holds_127 : decode cX3_holds 127 = .ok (.ireturn, 1) := by decide +kernel
theorem dX3_holds_128 : decode cX3_holds 128 = .ok (.lload 6, 2) := by decide +kernel
theorem dX3_holds_130 : decode cX3_holds 130 = .ok (.lload 8, 2) := by decide +kernel
theorem dX3_holds_132 : decode cX3_holds 132 = .ok (.invokestatic 38, 3) := by decide +kernel
theorem dX3_holds_135 : decode cX3_holds 135 = .ok (.ifCond .ne 7, 3) := by decide +kernel
theorem dX3_holds_138 : decode cX3_holds 138 = .ok (.iconst 1, 1) := by decide +kernel
theorem dX3_holds_139 : decode cX3_holds 139 = .ok (.goto 4, 3) := by decide +kernel
theorem dX3_holds_142 : decode cX3_holds 142 = .ok (.iconst 0, 1) := by decide +kernel
theorem dX3_holds_143 : decode cX3_holds 143 = .ok (.ireturn, 1) := by decide +kernel
theorem dX3_holds_144 : decode cX3_holds 144 = .ok (.lload 6, 2) := by decide +kernel
theorem dX3_holds_146 : decode cX3_holds 146 = .ok (.lload 8, 2) := by decide +kernel
theorem dX3_holds_148 : decode cX3_holds 148 = .ok (.invokestatic 38, 3) := by decide +kernel
theorem dX3_holds_151 : decode cX3_holds 151 = .ok (.ireturn, 1) := by decide +kernel
theorem dX3_holds_152 : decode cX3_holds 152 = .ok (.lload 8, 2) := by decide +kernel
theorem dX3_holds_154 : decode cX3_holds 154 = .ok (.lload 6, 2) := by decide +kernel
theorem dX3_holds_156 : decode cX3_holds 156 = .ok (.invokestatic 38, 3) := by decide +kernel
theorem dX3_holds_159 : decode cX3_holds 159 = .ok (.ifCond .ne 7, 3) := by decide +kernel
theorem dX3_holds_162 : decode cX3_holds 162 = .ok (.iconst 1, 1) := by decide +kernel
theorem dX3_holds_163 : decode cX3_holds 163 = .ok (.goto 4, 3) := by decide +kernel
theorem dX3_holds_166 : decode cX3_holds 166 = .ok (.iconst 0, 1) := by decide +kernel
theorem dX3_holds_167 : decode cX3_holds 167 = .ok (.ireturn, 1) := by decide +kernel
theorem dX3_holds_168 : decode cX3_holds 168 = .ok (.lload 6, 2) := by decide +kernel
theorem dX3_holds_170 : decode cX3_holds 170 = .ok (.lload 8, 2) := by decide +kernel
theorem dX3_holds_172 : decode cX3_holds 172 = .ok (.land, 1) := by decide +kernel
theorem dX3_holds_173 : decode cX3_holds 173 = .ok (.lconst 0, 1) := by decide +kernel
theorem dX3_holds_174 : decode cX3_holds 174 = .ok (.lcmp, 1) := by decide +kernel
theorem dX3_holds_175 : decode cX3_holds 175 = .ok (.ifCond .eq 7, 3) := by decide +kernel
theorem dX3_holds_178 : decode cX3_holds 178 = .ok (.iconst 1, 1) := by decide +kernel
theorem dX3_holds_179 : decode cX3_holds 179 = .ok (.goto 4, 3) := by decide +kernel
theorem dX3_holds_182 : decode cX3_holds 182 = .ok (.iconst 0, 1) := by decide +kernel
theorem dX3_holds_183 : decode cX3_holds 183 = .ok (.ireturn, 1) := by decide +kernel
theorem dX3_holds_184 : decode cX3_holds 184 = .ok (.iload_n 1, 1) := by decide +kernel
theorem dX3_holds_185 : decode cX3_holds 185 = .ok (.ifCond .eq 14, 3) := by decide +kernel
theorem dX3_holds_188 : decode cX3_holds 188 = .ok (.iload_n 0, 1) := by decide +kernel
theorem dX3_holds_189 : decode cX3_holds 189 = .ok (.lload 6, 2) := by decide +kernel
theorem dX3_holds_191 : decode cX3_holds 191 = .ok (.lload 8, 2) := by decide +kernel
theorem dX3_holds_193 : decode cX3_holds 193 = .ok (.invokestatic 42, 3) := by decide +kernel
theorem dX3_holds_196 : decode cX3_holds 196 = .ok (.goto 15, 3) := by decide +kernel
theorem dX3_holds_199 : decode cX3_holds 199 = .ok (.iload_n 0, 1) := by decide +kernel
theorem dX3_holds_200 : decode cX3_holds 200 = .ok (.lload 6, 2) := by decide +kernel
theorem dX3_holds_202 : decode cX3_holds 202 = .ok (.l2i, 1) := by decide +kernel
theorem dX3_holds_203 : decode cX3_holds 203 = .ok (.i2l, 1) := by decide +kernel
theorem dX3_holds_204 : decode cX3_holds 204 = .ok (.lload 8, 2) := by decide +kernel
theorem dX3_holds_206 : decode cX3_holds 206 = .ok (.l2i, 1) := by decide +kernel
theorem dX3_holds_207 : decode cX3_holds 207 = .ok (.i2l, 1) := by decide +kernel
theorem dX3_holds_208 : decode cX3_holds 208 = .ok (.invokestatic 42, 3) := by decide +kernel
theorem dX3_holds_211 : decode cX3_holds 211 = .ok (.ireturn, 1) := by decide +kernel
-- java/util/Arrays.fill
def f_J7_fill_53178_5 (S : sh) : Nat → Nat → Int32 → Int32 → Int32 → dt → Option (Unit × dt)
  | 0, _, _, _, _, _ => none
  | n + 1, o0, x1, x2, x3, D => if x3 ≤ x2 then (some ((), D)) else (ix x2 (sA S o0) <| nm (pI D o0 x2.toNatClampNeg x1) fun D9 => nm (x2 + 1) fun y10 => f_J7_fill_53178_5 S n o0 x1 y10 x3 D9)
def f_J7_fill_53178 (S : sh) (o0 : Nat) (x1 : Int32) (D : dt) : Option (Unit × dt) := nm ((0 : Int32)) fun y11 => nm (Int32.ofNat (sA S o0)) fun y12 => f_J7_fill_53178_5 S LF o0 x1 y11 y12 D
-- java/util/Arrays.fill
def f_J7_fill_d0a16_6 (S : sh) : Nat → Nat → Int64 → Int32 → Int32 → dt → Option (Unit × dt)
  | 0, _, _, _, _, _ => none
  | n + 1, o0, x1, x3, x4, D => if x4 ≤ x3 then (some ((), D)) else (ix x3 (sA S o0) <| nm (pL D o0 x3.toNatClampNeg x1) fun D9 => nm (x3 + 1) fun y10 => f_J7_fill_d0a16_6 S n o0 x1 y10 x4 D9)
def f_J7_fill_d0a16 (S : sh) (o0 : Nat) (x1 : Int64) (D : dt) : Option (Unit × dt) := nm ((0 : Int32)) fun y11 => nm (Int32.ofNat (sA S o0)) fun y12 => f_J7_fill_d0a16_6 S LF o0 x1 y11 y12 D
-- JudgedCode$Numbers.turn
def f_X3_turn_28 : Nat → Int64 → Int32 → Int64 → Int32 → Option Int64
  | 0, _, _, _, _ => none
  | n + 1, x0, x2, x4, x6 => if x2 ≤ x6 then (some x4) else (nm ((j_lshl x4 (8 : Int32)) ||| ((j_lushr x0 x6) &&& (255 : Int64))) fun y9 => nm (x6 + 8) fun y10 => f_X3_turn_28 n x0 x2 y9 y10)
def f_X3_turn (x0 : Int64) (x2 : Int32) (x3 : Int32) : Option Int64 := if x3 = 0 then (if x2 = (64 : Int32) then (some x0) else (some (x0 &&& ((j_lshl (1 : Int64) x2) - (1 : Int64))))) else (nm ((0 : Int64)) fun y12 => nm ((0 : Int32)) fun y13 => f_X3_turn_28 LF x0 x2 y12 y13)
-- JudgedCode$Numbers.below
def f_X3_below (x0 : Int64) (x2 : Int64) : Option Int32 := if 0 ≤ (lg_cmp (x0 ^^^ (-9223372036854775808 : Int64)) (x2 ^^^ (-9223372036854775808 : Int64))) then (some (0 : Int32)) else (some (1 : Int32))
-- JudgedCode$Numbers.half
def f_X3_half (x0 : Int64) (x2 : Int32) : Option Int64 := if x2 = 0 then (some (x0 &&& (4294967295 : Int64))) else (some x0.toInt32.toInt64)
-- JudgedCode$Numbers.signedQuotient
def f_X3_signedQuotient (x0 : Int64) (x2 : Int64) : Option Int64 := if (lg_cmp x2 (0 : Int64)) = 0 then (some (0 : Int64)) else (if (lg_cmp x2 (-1 : Int64)) = 0 then (some (-x0)) else (ck (¬ x2 = 0) <| some (x0 / x2)))
-- JudgedCode$Numbers.quotient
def f_X3_quotient_26 : Option Int64 := some (0 : Int64)
def f_X3_quotient_78 (x4 : Int64) : Option Int64 := some (x4 + (1 : Int64))
def f_X3_quotient (x0 : Int64) (x2 : Int64) : Option Int64 := if (lg_cmp x2 (0 : Int64)) = 0 then (some (0 : Int64)) else (if 0 ≤ (lg_cmp x2 (0 : Int64)) then (if (lg_cmp x0 (0 : Int64)) < 0 then (ck (¬ x2 = 0) <| nm (j_lshl ((j_lushr x0 (1 : Int32)) / x2) (1 : Int32)) fun y16 => nm (x0 - (y16 * x2)) fun y17 => if (lg_cmp y17 (0 : Int64)) < 0 then (f_X3_quotient_78 y16) else (if 0 ≤ (lg_cmp y17 x2) then (f_X3_quotient_78 y16) else (some y16))) else (ck (¬ x2 = 0) <| some (x0 / x2))) else (if 0 ≤ (lg_cmp x0 (0 : Int64)) then (f_X3_quotient_26) else (if 0 ≤ (lg_cmp x0 x2) then (some (1 : Int64)) else (f_X3_quotient_26))))
-- JudgedCode$Numbers.withSign
def f_X3_withSign (x0 : Int64) (x2 : Int32) : Option Int64 := nm ((64 : Int32) - x2) fun y2 => some (j_lshr (j_lshl x0 y2) y2)
-- JudgedCode$Numbers.makeOther
def f_X3_makeOther (x0 : Int32) (x1 : Int64) (x3 : Int64) (x5 : Int32) : Option Int64 := if x0 = 0 then (some (x1 + x3)) else if x0 = 1 then (some (x1 - x3)) else if x0 = 2 then (some (x1 * x3)) else if x0 = 3 then (some x3) else if x0 = 4 then (some (x1 ||| x3)) else if x0 = 5 then (some (x1 &&& x3)) else if x0 = 6 then (some (j_lshl x1 ((x3 &&& x5.toInt64).toInt32))) else if x0 = 7 then (some (j_lushr x1 ((x3 &&& x5.toInt64).toInt32))) else if x0 = 8 then (some (-x1)) else if x0 = 9 then (some x3) else if x0 = 10 then (some (x1 ^^^ x3)) else if x0 = 11 then (some x3) else if x0 = 12 then (some (j_lshr x1 ((x3 &&& x5.toInt64).toInt32))) else (some x3)
-- JudgedCode$Numbers.make
def f_X3_make_169 (x1 : Int32) (x13 : Int64) : Option Int64 := if x1 = 0 then (some (x13 &&& (4294967295 : Int64))) else (some x13)
def f_X3_make_164 (x1 : Int32) (xs0 : Int32) (xs1 : Int64) (xs2 : Int64) (xs3 : Int32) : Option Int64 := pq (f_X3_makeOther xs0 xs1 xs2 xs3) fun r29 => f_X3_make_169 x1 r29
def f_X3_make_148 (x0 : Int32) (x1 : Int32) (x9 : Int64) (x11 : Int64) : Option Int64 := if x1 = 0 then (f_X3_make_164 x1 x0 x9 x11 (31 : Int32)) else (f_X3_make_164 x1 x0 x9 x11 (63 : Int32))
def f_X3_make_122 (x1 : Int32) (xs0 : Int64) : Option Int64 := f_X3_make_169 x1 xs0
def f_X3_make_102 (x0 : Int32) (x1 : Int32) (x9 : Int64) (x11 : Int64) (xs0 : Int64) : Option Int64 := if x0 = (3 : Int32) then (f_X3_make_122 x1 xs0) else (f_X3_make_122 x1 (x9 - (xs0 * x11)))
def f_X3_make_73 (x0 : Int32) (x1 : Int32) (x2 : Int32) (x7 : Int32) (x8 : Int32) (x9 : Int64) (xs0 : Int64) : Option Int64 := if x7 = 0 then (if x0 = (11 : Int32) then (if x2 = 0 then (f_X3_make_148 x0 x1 x9 xs0) else (pq (f_X3_withSign xs0 x2) fun r36 => f_X3_make_169 x1 r36)) else (f_X3_make_148 x0 x1 x9 xs0)) else (if x8 = 0 then (pq (f_X3_quotient x9 xs0) fun r39 => f_X3_make_102 x0 x1 x9 xs0 r39) else (pq (f_X3_signedQuotient x9 xs0) fun r41 => f_X3_make_102 x0 x1 x9 xs0 r41))
def f_X3_make_55 (x0 : Int32) (x1 : Int32) (x2 : Int32) (x5 : Int64) (x7 : Int32) (x8 : Int32) (xs0 : Int64) : Option Int64 := if x1 = 0 then (pq (f_X3_half x5 x8) fun r44 => f_X3_make_73 x0 x1 x2 x7 x8 xs0 r44) else (f_X3_make_73 x0 x1 x2 x7 x8 xs0 x5)
def f_X3_make_39 (x0 : Int32) (x1 : Int32) (x2 : Int32) (x3 : Int64) (x5 : Int64) (x7 : Int32) (xs0 : Int32) : Option Int64 := if x1 = 0 then (pq (f_X3_half x3 xs0) fun r47 => f_X3_make_55 x0 x1 x2 x5 x7 xs0 r47) else (f_X3_make_55 x0 x1 x2 x5 x7 xs0 x3)
def f_X3_make_34 (x0 : Int32) (x1 : Int32) (x2 : Int32) (x3 : Int64) (x5 : Int64) (x7 : Int32) : Option Int64 := f_X3_make_39 x0 x1 x2 x3 x5 x7 (1 : Int32)
def f_X3_make_38 (x0 : Int32) (x1 : Int32) (x2 : Int32) (x3 : Int64) (x5 : Int64) (x7 : Int32) : Option Int64 := f_X3_make_39 x0 x1 x2 x3 x5 x7 (0 : Int32)
def f_X3_make_16 (x0 : Int32) (x1 : Int32) (x2 : Int32) (x3 : Int64) (x5 : Int64) (xs0 : Int32) : Option Int64 := if x0 = (12 : Int32) then (f_X3_make_34 x0 x1 x2 x3 x5 xs0) else (if xs0 = 0 then (f_X3_make_38 x0 x1 x2 x3 x5 xs0) else (if x2 = (1 : Int32) then (f_X3_make_34 x0 x1 x2 x3 x5 xs0) else (f_X3_make_38 x0 x1 x2 x3 x5 xs0)))
def f_X3_make_11 (x0 : Int32) (x1 : Int32) (x2 : Int32) (x3 : Int64) (x5 : Int64) : Option Int64 := f_X3_make_16 x0 x1 x2 x3 x5 (1 : Int32)
def f_X3_make (x0 : Int32) (x1 : Int32) (x2 : Int32) (x3 : Int64) (x5 : Int64) : Option Int64 := if x0 = (3 : Int32) then (f_X3_make_11 x0 x1 x2 x3 x5) else (if x0 = (9 : Int32) then (f_X3_make_11 x0 x1 x2 x3 x5) else (f_X3_make_16 x0 x1 x2 x3 x5 (0 : Int32)))
-- java/util/Arrays.fill
def f_J7_fill_031fb_5 (S : sh) : Nat → Nat → Int32 → Int32 → Int32 → dt → Option (Unit × dt)
  | 0, _, _, _, _, _ => none
  | n + 1, o0, x1, x2, x3, D => if x3 ≤ x2 then (some ((), D)) else (ix x2 (sA S o0) <| nm (pI D o0 x2.toNatClampNeg (vp_nar .byte x1)) fun D9 => nm (x2 + 1) fun y10 => f_J7_fill_031fb_5 S n o0 x1 y10 x3 D9)
def f_J7_fill_031fb (S : sh) (o0 : Nat) (x1 : Int32) (D : dt) : Option (Unit × dt) := nm ((0 : Int32)) fun y11 => nm (Int32.ofNat (sA S o0)) fun y12 => f_J7_fill_031fb_5 S LF o0 x1 y11 y12 D
-- java/lang/Math.floorMod
def f_J9_floorMod_7cf53 (x0 : Int32) (x1 : Int32) : Option Int32 := ck (¬ x1 = 0) <| nm (x0 - x0 / x1 * x1) fun y6 => if 0 ≤ (x0 ^^^ x1) then (some y6) else (if y6 = 0 then (some y6) else (some (y6 + x1)))
-- JudgedCode$Numbers.holdsSigned
def f_X3_holdsSigned (x0 : Int32) (x1 : Int64) (x3 : Int64) : Option Int32 := if x0 = 6 then (if (lg_cmp x1 x3) ≤ 0 then (some (0 : Int32)) else (some (1 : Int32))) else if x0 = 7 then (if (lg_cmp x1 x3) < 0 then (some (0 : Int32)) else (some (1 : Int32))) else if x0 = 12 then (if 0 ≤ (lg_cmp x1 x3) then (some (0 : Int32)) else (some (1 : Int32))) else (if 0 < (lg_cmp x1 x3) then (some (0 : Int32)) else (some (1 : Int32)))
-- JudgedCode$Numbers.holds
def f_X3_holds_184 (x0 : Int32) (x1 : Int32) (x6 : Int64) (x8 : Int64) : Option Int32 := if x1 = 0 then (pq (f_X3_holdsSigned x0 x6.toInt32.toInt64 x8.toInt32.toInt64) fun r38 => ck (r38 = 0 ∨ r38 = 1) <| some r38) else (pq (f_X3_holdsSigned x0 x6 x8) fun r41 => ck (r41 = 0 ∨ r41 = 1) <| some r41)
def f_X3_holds_30 (x0 : Int32) (x1 : Int32) (x6 : Int64) (xs0 : Int64) : Option Int32 := if x0 = 1 then (if (lg_cmp x6 xs0) = 0 then (some (1 : Int32)) else (some (0 : Int32))) else if x0 = 2 then (pq (f_X3_below xs0 x6) fun r47 => ck (r47 = 0 ∨ r47 = 1) <| some r47) else if x0 = 3 then (pq (f_X3_below x6 xs0) fun r51 => if r51 = 0 then (some (1 : Int32)) else (some (0 : Int32))) else if x0 = 4 then (if (lg_cmp (x6 &&& xs0) (0 : Int64)) = 0 then (some (0 : Int32)) else (some (1 : Int32))) else if x0 = 5 then (if (lg_cmp x6 xs0) = 0 then (some (0 : Int32)) else (some (1 : Int32))) else if x0 = 6 then (f_X3_holds_184 x0 x1 x6 xs0) else if x0 = 7 then (f_X3_holds_184 x0 x1 x6 xs0) else if x0 = 8 then (f_X3_holds_184 x0 x1 x6 xs0) else if x0 = 9 then (f_X3_holds_184 x0 x1 x6 xs0) else if x0 = 10 then (pq (f_X3_below x6 xs0) fun r63 => ck (r63 = 0 ∨ r63 = 1) <| some r63) else if x0 = 11 then (pq (f_X3_below xs0 x6) fun r67 => if r67 = 0 then (some (1 : Int32)) else (some (0 : Int32))) else (f_X3_holds_184 x0 x1 x6 xs0)
def f_X3_holds_13 (x0 : Int32) (x1 : Int32) (x4 : Int64) (xs0 : Int64) : Option Int32 := if x1 = 0 then (f_X3_holds_30 x0 x1 xs0 (x4 &&& (4294967295 : Int64))) else (f_X3_holds_30 x0 x1 xs0 x4)
def f_X3_holds (x0 : Int32) (x1 : Int32) (x2 : Int64) (x4 : Int64) : Option Int32 := if x1 = 0 then (f_X3_holds_13 x0 x1 x4 (x2 &&& (4294967295 : Int64))) else (f_X3_holds_13 x0 x1 x4 x2)
theorem mk_J7_fill_53178 : MkS yJ7_fill_53178 cJ7_fill_53178 4 none 2 := ⟨⟨lk_474, lk_123, (tb_in (i := 475) (by decide +kernel) (by decide +kernel))⟩, by decide +kernel⟩
theorem mk_J7_fill_d0a16 : MkS yJ7_fill_d0a16 cJ7_fill_d0a16 5 none 2 := ⟨⟨lk_477, lk_123, (tb_in (i := 478) (by decide +kernel) (by decide +kernel))⟩, by decide +kernel⟩
theorem mk_X3_turn : MkS yX3_turn cX3_turn 7 (some .long) 3 := ⟨⟨lk_691, lk_125, (tb_in (i := 692) (by decide +kernel) (by decide +kernel))⟩, by decide +kernel⟩
theorem mk_X3_below : MkS yX3_below cX3_below 4 (some .boolean) 2 := ⟨⟨lk_710, lk_125, (tb_in (i := 711) (by decide +kernel) (by decide +kernel))⟩, by decide +kernel⟩
theorem mk_X3_half : MkS yX3_half cX3_half 3 (some .long) 2 := ⟨⟨lk_718, lk_125, (tb_in (i := 719) (by decide +kernel) (by decide +kernel))⟩, by decide +kernel⟩
theorem mk_X3_signedQuotient : MkS yX3_signedQuotient cX3_signedQuotient 4 (some .long) 2 := ⟨⟨lk_722, lk_125, (tb_in (i := 723) (by decide +kernel) (by decide +kernel))⟩, by decide +kernel⟩
theorem mk_X3_quotient : MkS yX3_quotient cX3_quotient 8 (some .long) 2 := ⟨⟨lk_726, lk_125, (tb_in (i := 727) (by decide +kernel) (by decide +kernel))⟩, by decide +kernel⟩
theorem mk_X3_withSign : MkS yX3_withSign cX3_withSign 4 (some .long) 2 := ⟨⟨lk_729, lk_125, (tb_in (i := 730) (by decide +kernel) (by decide +kernel))⟩, by decide +kernel⟩
theorem mk_X3_makeOther : MkS yX3_makeOther cX3_makeOther 6 (some .long) 4 := ⟨⟨lk_732, lk_125, (tb_in (i := 733) (by decide +kernel) (by decide +kernel))⟩, by decide +kernel⟩
theorem mk_X3_make : MkS yX3_make cX3_make 17 (some .long) 5 := ⟨⟨lk_715, lk_125, (tb_in (i := 716) (by decide +kernel) (by decide +kernel))⟩, by decide +kernel⟩
theorem mk_J7_fill_031fb : MkS yJ7_fill_031fb cJ7_fill_031fb 4 none 2 := ⟨⟨lk_895, lk_123, (tb_in (i := 896) (by decide +kernel) (by decide +kernel))⟩, by decide +kernel⟩
theorem mk_J9_floorMod_7cf53 : MkS yJ9_floorMod_7cf53 cJ9_floorMod_7cf53 3 (some .int) 2 := ⟨⟨lk_984, lk_126, (tb_in (i := 985) (by decide +kernel) (by decide +kernel))⟩, by decide +kernel⟩
theorem mk_X3_holdsSigned : MkS yX3_holdsSigned cX3_holdsSigned 5 (some .boolean) 3 := ⟨⟨lk_1024, lk_125, (tb_in (i := 1025) (by decide +kernel) (by decide +kernel))⟩, by decide +kernel⟩
theorem mk_X3_holds : MkS yX3_holds cX3_holds 10 (some .boolean) 4 := ⟨⟨lk_1020, lk_125, (tb_in (i := 1021) (by decide +kernel) (by decide +kernel))⟩, by decide +kernel⟩
section
variable {p : Program} {l : Launch} {e : Env} {R : Room} {s : State} {m : MethodId} {args : Array Value} {below : List Frame} {meth : Method} {c : Code} {H : Heap} {locs : List Loc} {G : va_G} {cA : Nat → ClassId} {S : sh} {D : dt} {ad : Nat → Nat} {A : Nat → Prop}
set_option maxHeartbeats 4000000 in
set_option maxRecDepth 100000 in
theorem w_J7_fill_53178_5 {r : Unit} {D' : dt} (hC : Cx RJ7 cJ7_fill_53178 4 none p s m args meth c) (hR : 0 ≤ R.frames ∧ 0 ≤ R.locals) : ∀ (n : Nat), ∀ (o0 a0 : Nat) (x1 : Int32) (x2 : Int32) (x3 : Int32) (D : dt) (H : Heap) (locs : List Loc) (ls : Array Slot), Is S ad o0 a0 100 → Wd G cA S D ad A s H locs → lv_has ls 4 [(0, .ref a0), (1, .int x1), (2, .int x2), (3, .int x3)] → f_J7_fill_53178_5 S n o0 x1 x2 x3 D = some (r, D') → W p l e R s m args below meth c H locs 0 0 (MQ below (Qn none True (wpost G cA S D' ad A) A) args s 0 0 A) (F0 m 5 ls []) := by
  obtain ⟨hx, hb, -⟩ := id hC
  intro n
  induction n with
  | zero =>
    intro o0 a0 x1 x2 x3 D H locs ls hi0 hw hl h
    rw [f_J7_fill_53178_5.eq_1] at h
    cases h
  | succ n ih =>
    intro o0 a0 x1 x2 x3 D H locs ls hi0 hw hl h
    rw [f_J7_fill_53178_5.eq_2] at h
    refine lv_iload_n hx hb dJ7_fill_53178_5 rfl (lv_at hl 2 rfl) ?_
    refine lv_iload_n hx hb dJ7_fill_53178_6 rfl (lv_at hl 3 rfl) ?_
    refine lv_icmp_ge (tgt := 20) hx hb dJ7_fill_53178_7 (by decide) (fun c7 => ?_) (fun c7 => ?_)
    · have h := i_yes c7 h
      cases h
      exact r_vret hC hw dJ7_fill_53178_20
    · have h := i_no c7 h
      refine lv_aload_n hx hb dJ7_fill_53178_10 rfl (lv_at hl 0 rfl) ?_
      refine lv_iload_n hx hb dJ7_fill_53178_11 rfl (lv_at hl 2 rfl) ?_
      refine lv_iload_n hx hb dJ7_fill_53178_12 rfl (lv_at hl 1 rfl) ?_
      obtain ⟨hn8, h⟩ := ix_i h
      refine r_ias hC hw hi0 hn8 dJ7_fill_53178_13 (fun D9 eD9 H locs hw => ?_)
      have h := nm_i h D9 eD9
      obtain ⟨y10, ey10⟩ : ∃ z : Int32, z = x2 + 1 := ⟨_, rfl⟩
      have h := nm_i h y10 ey10
      refine lv_iinc (v := y10) (lv' := [(2, .int y10), (0, .ref a0), (1, .int x1), (3, .int x3)]) hx hb dJ7_fill_53178_14 hl (k := 2) rfl (by rw [ey10]; rfl) (by decide) rfl (fun ls hl => ?_)
      refine lv_goto (tgt := 5) hx hb dJ7_fill_53178_17 (by decide) ?_
      exact ih o0 a0 x1 y10 x3 _ _ _ _ hi0 hw (lv_sub hl [1, 2, 0, 3] rfl) h
set_option maxHeartbeats 4000000 in
set_option maxRecDepth 100000 in
theorem w_J7_fill_53178_0 {r : Unit} {D' : dt} (hC : Cx RJ7 cJ7_fill_53178 4 none p s m args meth c) (hR : 0 ≤ R.frames ∧ 0 ≤ R.locals) : ∀ (o0 a0 : Nat) (x1 : Int32) (D : dt) (H : Heap) (locs : List Loc) (ls : Array Slot), Is S ad o0 a0 100 → Wd G cA S D ad A s H locs → lv_has ls 4 [(0, .ref a0), (1, .int x1)] → f_J7_fill_53178 S o0 x1 D = some (r, D') → W p l e R s m args below meth c H locs 0 0 (MQ below (Qn none True (wpost G cA S D' ad A) A) args s 0 0 A) (F0 m 0 ls []) := by
  obtain ⟨hx, hb, -⟩ := id hC
  intro o0 a0 x1 D H locs ls hi0 hw hl h
  unfold f_J7_fill_53178 at h
  refine lv_iconst (v := 0) hx hb dJ7_fill_53178_0 (by decide) ?_
  refine lv_topi (fun y11 ey11 => ?_)
  have h := nm_i h y11 ey11
  refine lv_istore_n (lv' := [(2, .int y11), (0, .ref a0), (1, .int x1)]) hx hb dJ7_fill_53178_1 rfl hl (by decide) rfl (fun ls hl => ?_)
  refine lv_aload_n hx hb dJ7_fill_53178_2 rfl (lv_at hl 1 rfl) ?_
  refine r_alen hC hw hi0 (by decide) 0 rfl dJ7_fill_53178_3 ?_
  refine lv_topi (fun y12 ey12 => ?_)
  have h := nm_i h y12 ey12
  refine lv_istore_n (lv' := [(3, .int y12), (2, .int y11), (0, .ref a0), (1, .int x1)]) hx hb dJ7_fill_53178_4 rfl hl (by decide) rfl (fun ls hl => ?_)
  exact w_J7_fill_53178_5 hC hR LF o0 a0 x1 y11 y12 _ _ _ _ hi0 hw (lv_sub hl [2, 3, 1, 0] rfl) h
set_option maxHeartbeats 4000000 in
set_option maxRecDepth 100000 in
theorem k_J7_fill_53178 {l : Launch} {G : va_G} {cA : Nat → ClassId} {S : sh} {D D' : dt} {ad : Nat → Nat} (sz : Nat) {o0 a0 : Nat} {x1 : Int32} {r : Unit} (hi0 : Is S ad o0 a0 100) (h : f_J7_fill_53178 S o0 x1 D = some (r, D')) : Co l yJ7_fill_53178 (Cond.code yJ7_fill_53178 cJ7_fill_53178 4 none :: tb0) 0 0 [.ref a0, .int x1] G cA S D ad sz none True D' := by
  refine Met.ofW (cc := cJ7_fill_53178) (maxL := 4) (ret := none) (by decide) rfl ?_
  intro p e s m args below meth c s₁ B hml hv
  obtain ⟨rfl, hsz, hP, hK, hD0, hT, hX⟩ := hv
  subst hsz
  have hts := atoms_spec (ws := Cond.code yJ7_fill_53178 cJ7_fill_53178 4 none :: tb0) B.pre
  have hC : Cx RJ7 cJ7_fill_53178 4 none p s m _ meth c := ⟨B.exec, B.bytes, hml, findClass_of_methodNamed B.named, fun w q => hts w (List.mem_cons_of_mem _ q), B.returns, B.notSynchronized⟩
  have hw := Wd.entry hP hK hD0 hT hX
  have hl := lv_entry ([.ref a0, .int x1]) (n := 4) (Nat.le_of_ble_eq_true rfl)
  rw [lg_entry_eq]
  exact w_J7_fill_53178_0 hC ⟨Nat.le_refl _, Nat.le_refl _⟩ o0 a0 x1 D _ _ _ hi0 hw hl h
set_option maxHeartbeats 4000000 in
set_option maxRecDepth 100000 in
theorem w_J7_fill_d0a16_6 {r : Unit} {D' : dt} (hC : Cx RJ7 cJ7_fill_d0a16 5 none p s m args meth c) (hR : 0 ≤ R.frames ∧ 0 ≤ R.locals) : ∀ (n : Nat), ∀ (o0 a0 : Nat) (x1 : Int64) (x3 : Int32) (x4 : Int32) (D : dt) (H : Heap) (locs : List Loc) (ls : Array Slot), Is S ad o0 a0 101 → Wd G cA S D ad A s H locs → lv_has ls 5 [(0, .ref a0), (1, .long x1), (3, .int x3), (4, .int x4)] → f_J7_fill_d0a16_6 S n o0 x1 x3 x4 D = some (r, D') → W p l e R s m args below meth c H locs 0 0 (MQ below (Qn none True (wpost G cA S D' ad A) A) args s 0 0 A) (F0 m 6 ls []) := by
  obtain ⟨hx, hb, -⟩ := id hC
  intro n
  induction n with
  | zero =>
    intro o0 a0 x1 x3 x4 D H locs ls hi0 hw hl h
    rw [f_J7_fill_d0a16_6.eq_1] at h
    cases h
  | succ n ih =>
    intro o0 a0 x1 x3 x4 D H locs ls hi0 hw hl h
    rw [f_J7_fill_d0a16_6.eq_2] at h
    refine lv_iload_n hx hb dJ7_fill_d0a16_6 rfl (lv_at hl 2 rfl) ?_
    refine lv_iload hx hb dJ7_fill_d0a16_7 (lv_at hl 3 rfl) ?_
    refine lv_icmp_ge (tgt := 22) hx hb dJ7_fill_d0a16_9 (by decide) (fun c7 => ?_) (fun c7 => ?_)
    · have h := i_yes c7 h
      cases h
      exact r_vret hC hw dJ7_fill_d0a16_22
    · have h := i_no c7 h
      refine lv_aload_n hx hb dJ7_fill_d0a16_12 rfl (lv_at hl 0 rfl) ?_
      refine lv_iload_n hx hb dJ7_fill_d0a16_13 rfl (lv_at hl 2 rfl) ?_
      refine lv_lload_n hx hb dJ7_fill_d0a16_14 rfl (lv_at hl 1 rfl) ?_
      obtain ⟨hn8, h⟩ := ix_i h
      refine r_las hC hw hi0 hn8 dJ7_fill_d0a16_15 (fun D9 eD9 H locs hw => ?_)
      have h := nm_i h D9 eD9
      obtain ⟨y10, ey10⟩ : ∃ z : Int32, z = x3 + 1 := ⟨_, rfl⟩
      have h := nm_i h y10 ey10
      refine lv_iinc (v := y10) (lv' := [(3, .int y10), (0, .ref a0), (1, .long x1), (4, .int x4)]) hx hb dJ7_fill_d0a16_16 hl (k := 2) rfl (by rw [ey10]; rfl) (by decide) rfl (fun ls hl => ?_)
      refine lv_goto (tgt := 6) hx hb dJ7_fill_d0a16_19 (by decide) ?_
      exact ih o0 a0 x1 y10 x4 _ _ _ _ hi0 hw (lv_sub hl [1, 2, 0, 3] rfl) h
set_option maxHeartbeats 4000000 in
set_option maxRecDepth 100000 in
theorem w_J7_fill_d0a16_0 {r : Unit} {D' : dt} (hC : Cx RJ7 cJ7_fill_d0a16 5 none p s m args meth c) (hR : 0 ≤ R.frames ∧ 0 ≤ R.locals) : ∀ (o0 a0 : Nat) (x1 : Int64) (D : dt) (H : Heap) (locs : List Loc) (ls : Array Slot), Is S ad o0 a0 101 → Wd G cA S D ad A s H locs → lv_has ls 5 [(0, .ref a0), (1, .long x1)] → f_J7_fill_d0a16 S o0 x1 D = some (r, D') → W p l e R s m args below meth c H locs 0 0 (MQ below (Qn none True (wpost G cA S D' ad A) A) args s 0 0 A) (F0 m 0 ls []) := by
  obtain ⟨hx, hb, -⟩ := id hC
  intro o0 a0 x1 D H locs ls hi0 hw hl h
  unfold f_J7_fill_d0a16 at h
  refine lv_iconst (v := 0) hx hb dJ7_fill_d0a16_0 (by decide) ?_
  refine lv_topi (fun y11 ey11 => ?_)
  have h := nm_i h y11 ey11
  refine lv_istore_n (lv' := [(3, .int y11), (0, .ref a0), (1, .long x1)]) hx hb dJ7_fill_d0a16_1 rfl hl (by decide) rfl (fun ls hl => ?_)
  refine lv_aload_n hx hb dJ7_fill_d0a16_2 rfl (lv_at hl 1 rfl) ?_
  refine r_alen hC hw hi0 (by decide) 1 rfl dJ7_fill_d0a16_3 ?_
  refine lv_topi (fun y12 ey12 => ?_)
  have h := nm_i h y12 ey12
  refine lv_istore (lv' := [(4, .int y12), (3, .int y11), (0, .ref a0), (1, .long x1)]) hx hb dJ7_fill_d0a16_4 hl (by decide) rfl (fun ls hl => ?_)
  exact w_J7_fill_d0a16_6 hC hR LF o0 a0 x1 y11 y12 _ _ _ _ hi0 hw (lv_sub hl [2, 3, 1, 0] rfl) h
set_option maxHeartbeats 4000000 in
set_option maxRecDepth 100000 in
theorem k_J7_fill_d0a16 {l : Launch} {G : va_G} {cA : Nat → ClassId} {S : sh} {D D' : dt} {ad : Nat → Nat} (sz : Nat) {o0 a0 : Nat} {x1 : Int64} {r : Unit} (hi0 : Is S ad o0 a0 101) (h : f_J7_fill_d0a16 S o0 x1 D = some (r, D')) : Co l yJ7_fill_d0a16 (Cond.code yJ7_fill_d0a16 cJ7_fill_d0a16 5 none :: tb0) 0 0 [.ref a0, .long x1] G cA S D ad sz none True D' := by
  refine Met.ofW (cc := cJ7_fill_d0a16) (maxL := 5) (ret := none) (by decide) rfl ?_
  intro p e s m args below meth c s₁ B hml hv
  obtain ⟨rfl, hsz, hP, hK, hD0, hT, hX⟩ := hv
  subst hsz
  have hts := atoms_spec (ws := Cond.code yJ7_fill_d0a16 cJ7_fill_d0a16 5 none :: tb0) B.pre
  have hC : Cx RJ7 cJ7_fill_d0a16 5 none p s m _ meth c := ⟨B.exec, B.bytes, hml, findClass_of_methodNamed B.named, fun w q => hts w (List.mem_cons_of_mem _ q), B.returns, B.notSynchronized⟩
  have hw := Wd.entry hP hK hD0 hT hX
  have hl := lv_entry ([.ref a0, .long x1]) (n := 5) (Nat.le_of_ble_eq_true rfl)
  rw [lg_entry_eq]
  exact w_J7_fill_d0a16_0 hC ⟨Nat.le_refl _, Nat.le_refl _⟩ o0 a0 x1 D _ _ _ hi0 hw hl h
set_option maxHeartbeats 4000000 in
set_option maxRecDepth 100000 in
theorem w_X3_turn_28 {r : Int64} (hC : Cx RX3 cX3_turn 7 (some .long) p s m args meth c) (hR : 0 ≤ R.frames ∧ 0 ≤ R.locals) : ∀ (n : Nat), ∀ (x0 : Int64) (x2 : Int32) (x4 : Int64) (x6 : Int32) (H : Heap) (locs : List Loc) (ls : Array Slot), Wd G cA S D ad A s H locs → lv_has ls 7 [(0, .long x0), (2, .int x2), (4, .long x4), (6, .int x6)] → f_X3_turn_28 n x0 x2 x4 x6 = some r → W p l e R s m args below meth c H locs 0 0 (MQ below (Qn (some (.long r)) True (wpost G cA S D ad A) A) args s 0 0 A) (F0 m 28 ls []) := by
  obtain ⟨hx, hb, -⟩ := id hC
  intro n
  induction n with
  | zero =>
    intro x0 x2 x4 x6 H locs ls hw hl h
    rw [f_X3_turn_28.eq_1] at h
    cases h
  | succ n ih =>
    intro x0 x2 x4 x6 H locs ls hw hl h
    rw [f_X3_turn_28.eq_2] at h
    refine lv_iload hx hb dX3_turn_28 (lv_at hl 3 rfl) ?_
    refine lv_iload_n hx hb dX3_turn_30 rfl (lv_at hl 1 rfl) ?_
    refine lv_icmp_ge (tgt := 56) hx hb dX3_turn_31 (by decide) (fun c8 => ?_) (fun c8 => ?_)
    · have h := i_yes c8 h
      refine lv_lload hx hb dX3_turn_56 (lv_at hl 2 rfl) ?_
      cases h
      exact r_lret hC hw dX3_turn_58
    · have h := i_no c8 h
      refine lv_lload hx hb dX3_turn_34 (lv_at hl 2 rfl) ?_
      refine lv_bipush (v := 8) hx hb dX3_turn_36 (by decide) ?_
      refine lv_lshl (v := j_lshl x4 (8 : Int32)) hx hb dX3_turn_38 rfl ?_
      refine lv_lload_n hx hb dX3_turn_39 rfl (lv_at hl 0 rfl) ?_
      refine lv_iload hx hb dX3_turn_40 (lv_at hl 3 rfl) ?_
      refine lv_lushr (v := j_lushr x0 x6) hx hb dX3_turn_42 rfl ?_
      refine lv_ldc2 (v := 255) hx hb hC.2.2.2.1 (hC.2.2.2.2.1 _ lk_693) dX3_turn_43 ?_
      refine lv_land hx hb dX3_turn_46 ?_
      refine lv_lor hx hb dX3_turn_47 ?_
      refine lv_topl (fun y9 ey9 => ?_)
      have h := nm_i h y9 ey9
      refine lv_lstore (lv' := [(4, .long y9), (0, .long x0), (2, .int x2), (6, .int x6)]) hx hb dX3_turn_48 hl (by decide) rfl (fun ls hl => ?_)
      obtain ⟨y10, ey10⟩ : ∃ z : Int32, z = x6 + 8 := ⟨_, rfl⟩
      have h := nm_i h y10 ey10
      refine lv_iinc (v := y10) (lv' := [(6, .int y10), (4, .long y9), (0, .long x0), (2, .int x2)]) hx hb dX3_turn_50 hl (k := 3) rfl (by rw [ey10]; rfl) (by decide) rfl (fun ls hl => ?_)
      refine lv_goto (tgt := 28) hx hb dX3_turn_53 (by decide) ?_
      exact ih x0 x2 y9 y10 _ _ _ hw (lv_sub hl [2, 3, 1, 0] rfl) h
set_option maxHeartbeats 4000000 in
set_option maxRecDepth 100000 in
theorem w_X3_turn_0 {r : Int64} (hC : Cx RX3 cX3_turn 7 (some .long) p s m args meth c) (hR : 0 ≤ R.frames ∧ 0 ≤ R.locals) : ∀ (x0 : Int64) (x2 : Int32) (x3 : Int32) (H : Heap) (locs : List Loc) (ls : Array Slot), Wd G cA S D ad A s H locs → lv_has ls 7 [(0, .long x0), (2, .int x2), (3, .int x3)] → f_X3_turn x0 x2 x3 = some r → W p l e R s m args below meth c H locs 0 0 (MQ below (Qn (some (.long r)) True (wpost G cA S D ad A) A) args s 0 0 A) (F0 m 0 ls []) := by
  obtain ⟨hx, hb, -⟩ := id hC
  intro x0 x2 x3 H locs ls hw hl h
  unfold f_X3_turn at h
  refine lv_iload_n hx hb dX3_turn_0 rfl (lv_at hl 2 rfl) ?_
  refine lv_if_ne (tgt := 22) hx hb dX3_turn_1 (by decide) (fun c11 => ?_) (fun c11 => ?_)
  · have h := i_no c11 h
    refine lv_lconst (v := 0) hx hb dX3_turn_22 (by decide) ?_
    refine lv_topl (fun y12 ey12 => ?_)
    have h := nm_i h y12 ey12
    refine lv_lstore (lv' := [(4, .long y12), (0, .long x0), (2, .int x2), (3, .int x3)]) hx hb dX3_turn_23 hl (by decide) rfl (fun ls hl => ?_)
    refine lv_iconst (v := 0) hx hb dX3_turn_25 (by decide) ?_
    refine lv_topi (fun y13 ey13 => ?_)
    have h := nm_i h y13 ey13
    refine lv_istore (lv' := [(6, .int y13), (4, .long y12), (0, .long x0), (2, .int x2), (3, .int x3)]) hx hb dX3_turn_26 hl (by decide) rfl (fun ls hl => ?_)
    exact w_X3_turn_28 hC hR LF x0 x2 y12 y13 _ _ _ hw (lv_sub hl [2, 3, 1, 0] rfl) h
  · have h := i_yes c11 h
    refine lv_iload_n hx hb dX3_turn_4 rfl (lv_at hl 1 rfl) ?_
    refine lv_bipush (v := 64) hx hb dX3_turn_5 (by decide) ?_
    refine lv_icmp_ne (tgt := 14) hx hb dX3_turn_7 (by decide) (fun c14 => ?_) (fun c14 => ?_)
    · have h := i_no c14 h
      refine lv_lload_n hx hb dX3_turn_14 rfl (lv_at hl 0 rfl) ?_
      refine lv_lconst (v := 1) hx hb dX3_turn_15 (by decide) ?_
      refine lv_iload_n hx hb dX3_turn_16 rfl (lv_at hl 1 rfl) ?_
      refine lv_lshl (v := j_lshl (1 : Int64) x2) hx hb dX3_turn_17 rfl ?_
      refine lv_lconst (v := 1) hx hb dX3_turn_18 (by decide) ?_
      refine lv_lsub hx hb dX3_turn_19 ?_
      refine lv_land hx hb dX3_turn_20 ?_
      cases h
      exact r_lret hC hw dX3_turn_21
    · have h := i_yes c14 h
      refine lv_lload_n hx hb dX3_turn_10 rfl (lv_at hl 0 rfl) ?_
      refine lv_goto (tgt := 21) hx hb dX3_turn_11 (by decide) ?_
      cases h
      exact r_lret hC hw dX3_turn_21
set_option maxHeartbeats 4000000 in
set_option maxRecDepth 100000 in
theorem k_X3_turn {l : Launch} {G : va_G} {cA : Nat → ClassId} {S : sh} {D : dt} {ad : Nat → Nat} (sz : Nat) {x0 : Int64} {x2 : Int32} {x3 : Int32} {r : Int64}  (h : f_X3_turn x0 x2 x3 = some r) : Co l yX3_turn (Cond.code yX3_turn cX3_turn 7 (some .long) :: tb0) 0 0 [.long x0, .int x2, .int x3] G cA S D ad sz (some (.long r)) True D := by
  refine Met.ofW (cc := cX3_turn) (maxL := 7) (ret := (some .long)) (by decide) rfl ?_
  intro p e s m args below meth c s₁ B hml hv
  obtain ⟨rfl, hsz, hP, hK, hD0, hT, hX⟩ := hv
  subst hsz
  have hts := atoms_spec (ws := Cond.code yX3_turn cX3_turn 7 (some .long) :: tb0) B.pre
  have hC : Cx RX3 cX3_turn 7 (some .long) p s m _ meth c := ⟨B.exec, B.bytes, hml, findClass_of_methodNamed B.named, fun w q => hts w (List.mem_cons_of_mem _ q), B.returns, B.notSynchronized⟩
  have hw := Wd.entry hP hK hD0 hT hX
  have hl := lv_entry ([.long x0, .int x2, .int x3]) (n := 7) (Nat.le_of_ble_eq_true rfl)
  rw [lg_entry_eq]
  exact w_X3_turn_0 hC ⟨Nat.le_refl _, Nat.le_refl _⟩ x0 x2 x3 _ _ _ hw hl h
set_option maxHeartbeats 4000000 in
set_option maxRecDepth 100000 in
theorem w_X3_below_0 {r : Int32} (hC : Cx RX3 cX3_below 4 (some .boolean) p s m args meth c) (hR : 0 ≤ R.frames ∧ 0 ≤ R.locals) : ∀ (x0 : Int64) (x2 : Int64) (H : Heap) (locs : List Loc) (ls : Array Slot), Wd G cA S D ad A s H locs → lv_has ls 4 [(0, .long x0), (2, .long x2)] → f_X3_below x0 x2 = some r → W p l e R s m args below meth c H locs 0 0 (MQ below (Qn (some (.int r)) True (wpost G cA S D ad A) A) args s 0 0 A) (F0 m 0 ls []) := by
  obtain ⟨hx, hb, -⟩ := id hC
  intro x0 x2 H locs ls hw hl h
  unfold f_X3_below at h
  refine lv_lload_n hx hb dX3_below_0 rfl (lv_at hl 0 rfl) ?_
  refine lv_ldc2 (v := (-9223372036854775808)) hx hb hC.2.2.2.1 (hC.2.2.2.2.1 _ lk_712) dX3_below_1 ?_
  refine lv_lxor hx hb dX3_below_4 ?_
  refine lv_lload_n hx hb dX3_below_5 rfl (lv_at hl 1 rfl) ?_
  refine lv_ldc2 (v := (-9223372036854775808)) hx hb hC.2.2.2.1 (hC.2.2.2.2.1 _ lk_712) dX3_below_6 ?_
  refine lv_lxor hx hb dX3_below_9 ?_
  refine W.lcmp hx hb dX3_below_10 ?_
  refine lv_if_ge (tgt := 18) hx hb dX3_below_11 (by decide) (fun c2 => ?_) (fun c2 => ?_)
  · have h := i_yes c2 h
    refine lv_iconst (v := 0) hx hb dX3_below_18 (by decide) ?_
    cases h
    exact r_zret hC hw (Or.inl rfl) dX3_below_19
  · have h := i_no c2 h
    refine lv_iconst (v := 1) hx hb dX3_below_14 (by decide) ?_
    refine lv_goto (tgt := 19) hx hb dX3_below_15 (by decide) ?_
    cases h
    exact r_zret hC hw (Or.inr rfl) dX3_below_19
set_option maxHeartbeats 4000000 in
set_option maxRecDepth 100000 in
theorem k_X3_below {l : Launch} {G : va_G} {cA : Nat → ClassId} {S : sh} {D : dt} {ad : Nat → Nat} (sz : Nat) {x0 : Int64} {x2 : Int64} {r : Int32}  (h : f_X3_below x0 x2 = some r) : Co l yX3_below (Cond.code yX3_below cX3_below 4 (some .boolean) :: tb0) 0 0 [.long x0, .long x2] G cA S D ad sz (some (.int r)) True D := by
  refine Met.ofW (cc := cX3_below) (maxL := 4) (ret := (some .boolean)) (by decide) rfl ?_
  intro p e s m args below meth c s₁ B hml hv
  obtain ⟨rfl, hsz, hP, hK, hD0, hT, hX⟩ := hv
  subst hsz
  have hts := atoms_spec (ws := Cond.code yX3_below cX3_below 4 (some .boolean) :: tb0) B.pre
  have hC : Cx RX3 cX3_below 4 (some .boolean) p s m _ meth c := ⟨B.exec, B.bytes, hml, findClass_of_methodNamed B.named, fun w q => hts w (List.mem_cons_of_mem _ q), B.returns, B.notSynchronized⟩
  have hw := Wd.entry hP hK hD0 hT hX
  have hl := lv_entry ([.long x0, .long x2]) (n := 4) (Nat.le_of_ble_eq_true rfl)
  rw [lg_entry_eq]
  exact w_X3_below_0 hC ⟨Nat.le_refl _, Nat.le_refl _⟩ x0 x2 _ _ _ hw hl h
set_option maxHeartbeats 4000000 in
set_option maxRecDepth 100000 in
theorem w_X3_half_0 {r : Int64} (hC : Cx RX3 cX3_half 3 (some .long) p s m args meth c) (hR : 0 ≤ R.frames ∧ 0 ≤ R.locals) : ∀ (x0 : Int64) (x2 : Int32) (H : Heap) (locs : List Loc) (ls : Array Slot), Wd G cA S D ad A s H locs → lv_has ls 3 [(0, .long x0), (2, .int x2)] → f_X3_half x0 x2 = some r → W p l e R s m args below meth c H locs 0 0 (MQ below (Qn (some (.long r)) True (wpost G cA S D ad A) A) args s 0 0 A) (F0 m 0 ls []) := by
  obtain ⟨hx, hb, -⟩ := id hC
  intro x0 x2 H locs ls hw hl h
  unfold f_X3_half at h
  refine lv_iload_n hx hb dX3_half_0 rfl (lv_at hl 1 rfl) ?_
  refine lv_if_eq (tgt := 10) hx hb dX3_half_1 (by decide) (fun c2 => ?_) (fun c2 => ?_)
  · have h := i_yes c2 h
    refine lv_lload_n hx hb dX3_half_10 rfl (lv_at hl 0 rfl) ?_
    refine lv_ldc2 (v := 4294967295) hx hb hC.2.2.2.1 (hC.2.2.2.2.1 _ lk_720) dX3_half_11 ?_
    refine lv_land hx hb dX3_half_14 ?_
    cases h
    exact r_lret hC hw dX3_half_15
  · have h := i_no c2 h
    refine lv_lload_n hx hb dX3_half_4 rfl (lv_at hl 0 rfl) ?_
    refine lv_l2i (v := x0.toInt32) hx hb dX3_half_5 rfl ?_
    refine lv_i2l (v := x0.toInt32.toInt64) hx hb dX3_half_6 rfl ?_
    refine lv_goto (tgt := 15) hx hb dX3_half_7 (by decide) ?_
    cases h
    exact r_lret hC hw dX3_half_15
set_option maxHeartbeats 4000000 in
set_option maxRecDepth 100000 in
theorem k_X3_half {l : Launch} {G : va_G} {cA : Nat → ClassId} {S : sh} {D : dt} {ad : Nat → Nat} (sz : Nat) {x0 : Int64} {x2 : Int32} {r : Int64}  (h : f_X3_half x0 x2 = some r) : Co l yX3_half (Cond.code yX3_half cX3_half 3 (some .long) :: tb0) 0 0 [.long x0, .int x2] G cA S D ad sz (some (.long r)) True D := by
  refine Met.ofW (cc := cX3_half) (maxL := 3) (ret := (some .long)) (by decide) rfl ?_
  intro p e s m args below meth c s₁ B hml hv
  obtain ⟨rfl, hsz, hP, hK, hD0, hT, hX⟩ := hv
  subst hsz
  have hts := atoms_spec (ws := Cond.code yX3_half cX3_half 3 (some .long) :: tb0) B.pre
  have hC : Cx RX3 cX3_half 3 (some .long) p s m _ meth c := ⟨B.exec, B.bytes, hml, findClass_of_methodNamed B.named, fun w q => hts w (List.mem_cons_of_mem _ q), B.returns, B.notSynchronized⟩
  have hw := Wd.entry hP hK hD0 hT hX
  have hl := lv_entry ([.long x0, .int x2]) (n := 3) (Nat.le_of_ble_eq_true rfl)
  rw [lg_entry_eq]
  exact w_X3_half_0 hC ⟨Nat.le_refl _, Nat.le_refl _⟩ x0 x2 _ _ _ hw hl h
set_option maxHeartbeats 4000000 in
set_option maxRecDepth 100000 in
theorem w_X3_signedQuotient_0 {r : Int64} (hC : Cx RX3 cX3_signedQuotient 4 (some .long) p s m args meth c) (hR : 0 ≤ R.frames ∧ 0 ≤ R.locals) : ∀ (x0 : Int64) (x2 : Int64) (H : Heap) (locs : List Loc) (ls : Array Slot), Wd G cA S D ad A s H locs → lv_has ls 4 [(0, .long x0), (2, .long x2)] → f_X3_signedQuotient x0 x2 = some r → W p l e R s m args below meth c H locs 0 0 (MQ below (Qn (some (.long r)) True (wpost G cA S D ad A) A) args s 0 0 A) (F0 m 0 ls []) := by
  obtain ⟨hx, hb, -⟩ := id hC
  intro x0 x2 H locs ls hw hl h
  unfold f_X3_signedQuotient at h
  refine lv_lload_n hx hb dX3_signedQuotient_0 rfl (lv_at hl 1 rfl) ?_
  refine lv_lconst (v := 0) hx hb dX3_signedQuotient_1 (by decide) ?_
  refine W.lcmp hx hb dX3_signedQuotient_2 ?_
  refine lv_if_ne (tgt := 8) hx hb dX3_signedQuotient_3 (by decide) (fun c4 => ?_) (fun c4 => ?_)
  · have h := i_no c4 h
    refine lv_lload_n hx hb dX3_signedQuotient_8 rfl (lv_at hl 1 rfl) ?_
    refine lv_ldc2 (v := (-1)) hx hb hC.2.2.2.1 (hC.2.2.2.2.1 _ lk_724) dX3_signedQuotient_9 ?_
    refine W.lcmp hx hb dX3_signedQuotient_12 ?_
    refine lv_if_ne (tgt := 21) hx hb dX3_signedQuotient_13 (by decide) (fun c5 => ?_) (fun c5 => ?_)
    · have h := i_no c5 h
      refine lv_lload_n hx hb dX3_signedQuotient_21 rfl (lv_at hl 0 rfl) ?_
      refine lv_lload_n hx hb dX3_signedQuotient_22 rfl (lv_at hl 1 rfl) ?_
      obtain ⟨hz6, h⟩ := ck_i h
      refine lv_ldiv hx hb dX3_signedQuotient_23 hz6 ?_
      cases h
      exact r_lret hC hw dX3_signedQuotient_24
    · have h := i_yes c5 h
      refine lv_lload_n hx hb dX3_signedQuotient_16 rfl (lv_at hl 0 rfl) ?_
      refine lv_lneg hx hb dX3_signedQuotient_17 ?_
      refine lv_goto (tgt := 24) hx hb dX3_signedQuotient_18 (by decide) ?_
      cases h
      exact r_lret hC hw dX3_signedQuotient_24
  · have h := i_yes c4 h
    refine lv_lconst (v := 0) hx hb dX3_signedQuotient_6 (by decide) ?_
    cases h
    exact r_lret hC hw dX3_signedQuotient_7
set_option maxHeartbeats 4000000 in
set_option maxRecDepth 100000 in
theorem k_X3_signedQuotient {l : Launch} {G : va_G} {cA : Nat → ClassId} {S : sh} {D : dt} {ad : Nat → Nat} (sz : Nat) {x0 : Int64} {x2 : Int64} {r : Int64}  (h : f_X3_signedQuotient x0 x2 = some r) : Co l yX3_signedQuotient (Cond.code yX3_signedQuotient cX3_signedQuotient 4 (some .long) :: tb0) 0 0 [.long x0, .long x2] G cA S D ad sz (some (.long r)) True D := by
  refine Met.ofW (cc := cX3_signedQuotient) (maxL := 4) (ret := (some .long)) (by decide) rfl ?_
  intro p e s m args below meth c s₁ B hml hv
  obtain ⟨rfl, hsz, hP, hK, hD0, hT, hX⟩ := hv
  subst hsz
  have hts := atoms_spec (ws := Cond.code yX3_signedQuotient cX3_signedQuotient 4 (some .long) :: tb0) B.pre
  have hC : Cx RX3 cX3_signedQuotient 4 (some .long) p s m _ meth c := ⟨B.exec, B.bytes, hml, findClass_of_methodNamed B.named, fun w q => hts w (List.mem_cons_of_mem _ q), B.returns, B.notSynchronized⟩
  have hw := Wd.entry hP hK hD0 hT hX
  have hl := lv_entry ([.long x0, .long x2]) (n := 4) (Nat.le_of_ble_eq_true rfl)
  rw [lg_entry_eq]
  exact w_X3_signedQuotient_0 hC ⟨Nat.le_refl _, Nat.le_refl _⟩ x0 x2 _ _ _ hw hl h
set_option maxHeartbeats 4000000 in
set_option maxRecDepth 100000 in
theorem w_X3_quotient_26 {r : Int64} (hC : Cx RX3 cX3_quotient 8 (some .long) p s m args meth c) (hR : 0 ≤ R.frames ∧ 0 ≤ R.locals) : ∀  (H : Heap) (locs : List Loc) (ls : Array Slot), Wd G cA S D ad A s H locs → lv_has ls 8 [] → f_X3_quotient_26 = some r → W p l e R s m args below meth c H locs 0 0 (MQ below (Qn (some (.long r)) True (wpost G cA S D ad A) A) args s 0 0 A) (F0 m 26 ls []) := by
  obtain ⟨hx, hb, -⟩ := id hC
  intro H locs ls hw hl h
  unfold f_X3_quotient_26 at h
  refine lv_lconst (v := 0) hx hb dX3_quotient_26 (by decide) ?_
  refine lv_goto (tgt := 31) hx hb dX3_quotient_27 (by decide) ?_
  cases h
  exact r_lret hC hw dX3_quotient_31
set_option maxHeartbeats 4000000 in
set_option maxRecDepth 100000 in
theorem w_X3_quotient_78 {r : Int64} (hC : Cx RX3 cX3_quotient 8 (some .long) p s m args meth c) (hR : 0 ≤ R.frames ∧ 0 ≤ R.locals) : ∀ (x4 : Int64) (H : Heap) (locs : List Loc) (ls : Array Slot), Wd G cA S D ad A s H locs → lv_has ls 8 [(4, .long x4)] → f_X3_quotient_78 x4 = some r → W p l e R s m args below meth c H locs 0 0 (MQ below (Qn (some (.long r)) True (wpost G cA S D ad A) A) args s 0 0 A) (F0 m 78 ls []) := by
  obtain ⟨hx, hb, -⟩ := id hC
  intro x4 H locs ls hw hl h
  unfold f_X3_quotient_78 at h
  refine lv_lload hx hb dX3_quotient_78 (lv_at hl 0 rfl) ?_
  refine lv_lconst (v := 1) hx hb dX3_quotient_80 (by decide) ?_
  refine lv_ladd hx hb dX3_quotient_81 ?_
  cases h
  exact r_lret hC hw dX3_quotient_82
set_option maxHeartbeats 4000000 in
set_option maxRecDepth 100000 in
theorem w_X3_quotient_0 {r : Int64} (hC : Cx RX3 cX3_quotient 8 (some .long) p s m args meth c) (hR : 0 ≤ R.frames ∧ 0 ≤ R.locals) : ∀ (x0 : Int64) (x2 : Int64) (H : Heap) (locs : List Loc) (ls : Array Slot), Wd G cA S D ad A s H locs → lv_has ls 8 [(0, .long x0), (2, .long x2)] → f_X3_quotient x0 x2 = some r → W p l e R s m args below meth c H locs 0 0 (MQ below (Qn (some (.long r)) True (wpost G cA S D ad A) A) args s 0 0 A) (F0 m 0 ls []) := by
  obtain ⟨hx, hb, -⟩ := id hC
  intro x0 x2 H locs ls hw hl h
  unfold f_X3_quotient at h
  refine lv_lload_n hx hb dX3_quotient_0 rfl (lv_at hl 1 rfl) ?_
  refine lv_lconst (v := 0) hx hb dX3_quotient_1 (by decide) ?_
  refine W.lcmp hx hb dX3_quotient_2 ?_
  refine lv_if_ne (tgt := 8) hx hb dX3_quotient_3 (by decide) (fun c12 => ?_) (fun c12 => ?_)
  · have h := i_no c12 h
    refine lv_lload_n hx hb dX3_quotient_8 rfl (lv_at hl 1 rfl) ?_
    refine lv_lconst (v := 0) hx hb dX3_quotient_9 (by decide) ?_
    refine W.lcmp hx hb dX3_quotient_10 ?_
    refine lv_if_ge (tgt := 32) hx hb dX3_quotient_11 (by decide) (fun c13 => ?_) (fun c13 => ?_)
    · have h := i_yes c13 h
      refine lv_lload_n hx hb dX3_quotient_32 rfl (lv_at hl 0 rfl) ?_
      refine lv_lconst (v := 0) hx hb dX3_quotient_33 (by decide) ?_
      refine W.lcmp hx hb dX3_quotient_34 ?_
      refine lv_if_lt (tgt := 42) hx hb dX3_quotient_35 (by decide) (fun c14 => ?_) (fun c14 => ?_)
      · have h := i_yes c14 h
        refine lv_lload_n hx hb dX3_quotient_42 rfl (lv_at hl 0 rfl) ?_
        refine lv_iconst (v := 1) hx hb dX3_quotient_43 (by decide) ?_
        refine lv_lushr (v := j_lushr x0 (1 : Int32)) hx hb dX3_quotient_44 rfl ?_
        refine lv_lload_n hx hb dX3_quotient_45 rfl (lv_at hl 1 rfl) ?_
        obtain ⟨hz15, h⟩ := ck_i h
        refine lv_ldiv hx hb dX3_quotient_46 hz15 ?_
        refine lv_iconst (v := 1) hx hb dX3_quotient_47 (by decide) ?_
        refine lv_lshl (v := j_lshl ((j_lushr x0 (1 : Int32)) / x2) (1 : Int32)) hx hb dX3_quotient_48 rfl ?_
        refine lv_topl (fun y16 ey16 => ?_)
        have h := nm_i h y16 ey16
        refine lv_lstore (lv' := [(4, .long y16), (0, .long x0), (2, .long x2)]) hx hb dX3_quotient_49 hl (by decide) rfl (fun ls hl => ?_)
        refine lv_lload_n hx hb dX3_quotient_51 rfl (lv_at hl 1 rfl) ?_
        refine lv_lload hx hb dX3_quotient_52 (lv_at hl 0 rfl) ?_
        refine lv_lload_n hx hb dX3_quotient_54 rfl (lv_at hl 2 rfl) ?_
        refine lv_lmul hx hb dX3_quotient_55 ?_
        refine lv_lsub hx hb dX3_quotient_56 ?_
        refine lv_topl (fun y17 ey17 => ?_)
        have h := nm_i h y17 ey17
        refine lv_lstore (lv' := [(6, .long y17), (4, .long y16), (0, .long x0), (2, .long x2)]) hx hb dX3_quotient_57 hl (by decide) rfl (fun ls hl => ?_)
        refine lv_lload hx hb dX3_quotient_59 (lv_at hl 0 rfl) ?_
        refine lv_lconst (v := 0) hx hb dX3_quotient_61 (by decide) ?_
        refine W.lcmp hx hb dX3_quotient_62 ?_
        refine lv_if_lt (tgt := 78) hx hb dX3_quotient_63 (by decide) (fun c18 => ?_) (fun c18 => ?_)
        · have h := i_yes c18 h
          exact w_X3_quotient_78 hC hR y16 _ _ _ hw (lv_sub hl [1] rfl) h
        · have h := i_no c18 h
          refine lv_lload hx hb dX3_quotient_66 (lv_at hl 0 rfl) ?_
          refine lv_lload_n hx hb dX3_quotient_68 rfl (lv_at hl 3 rfl) ?_
          refine W.lcmp hx hb dX3_quotient_69 ?_
          refine lv_if_ge (tgt := 78) hx hb dX3_quotient_70 (by decide) (fun c19 => ?_) (fun c19 => ?_)
          · have h := i_yes c19 h
            exact w_X3_quotient_78 hC hR y16 _ _ _ hw (lv_sub hl [1] rfl) h
          · have h := i_no c19 h
            refine lv_lload hx hb dX3_quotient_73 (lv_at hl 1 rfl) ?_
            refine lv_goto (tgt := 82) hx hb dX3_quotient_75 (by decide) ?_
            cases h
            exact r_lret hC hw dX3_quotient_82
      · have h := i_no c14 h
        refine lv_lload_n hx hb dX3_quotient_38 rfl (lv_at hl 0 rfl) ?_
        refine lv_lload_n hx hb dX3_quotient_39 rfl (lv_at hl 1 rfl) ?_
        obtain ⟨hz20, h⟩ := ck_i h
        refine lv_ldiv hx hb dX3_quotient_40 hz20 ?_
        cases h
        exact r_lret hC hw dX3_quotient_41
    · have h := i_no c13 h
      refine lv_lload_n hx hb dX3_quotient_14 rfl (lv_at hl 0 rfl) ?_
      refine lv_lconst (v := 0) hx hb dX3_quotient_15 (by decide) ?_
      refine W.lcmp hx hb dX3_quotient_16 ?_
      refine lv_if_ge (tgt := 26) hx hb dX3_quotient_17 (by decide) (fun c21 => ?_) (fun c21 => ?_)
      · have h := i_yes c21 h
        exact w_X3_quotient_26 hC hR _ _ _ hw (lv_sub hl [] rfl) h
      · have h := i_no c21 h
        refine lv_lload_n hx hb dX3_quotient_20 rfl (lv_at hl 0 rfl) ?_
        refine lv_lload_n hx hb dX3_quotient_21 rfl (lv_at hl 1 rfl) ?_
        refine W.lcmp hx hb dX3_quotient_22 ?_
        refine lv_if_ge (tgt := 30) hx hb dX3_quotient_23 (by decide) (fun c22 => ?_) (fun c22 => ?_)
        · have h := i_yes c22 h
          refine lv_lconst (v := 1) hx hb dX3_quotient_30 (by decide) ?_
          cases h
          exact r_lret hC hw dX3_quotient_31
        · have h := i_no c22 h
          exact w_X3_quotient_26 hC hR _ _ _ hw (lv_sub hl [] rfl) h
  · have h := i_yes c12 h
    refine lv_lconst (v := 0) hx hb dX3_quotient_6 (by decide) ?_
    cases h
    exact r_lret hC hw dX3_quotient_7
set_option maxHeartbeats 4000000 in
set_option maxRecDepth 100000 in
theorem k_X3_quotient {l : Launch} {G : va_G} {cA : Nat → ClassId} {S : sh} {D : dt} {ad : Nat → Nat} (sz : Nat) {x0 : Int64} {x2 : Int64} {r : Int64}  (h : f_X3_quotient x0 x2 = some r) : Co l yX3_quotient (Cond.code yX3_quotient cX3_quotient 8 (some .long) :: tb0) 0 0 [.long x0, .long x2] G cA S D ad sz (some (.long r)) True D := by
  refine Met.ofW (cc := cX3_quotient) (maxL := 8) (ret := (some .long)) (by decide) rfl ?_
  intro p e s m args below meth c s₁ B hml hv
  obtain ⟨rfl, hsz, hP, hK, hD0, hT, hX⟩ := hv
  subst hsz
  have hts := atoms_spec (ws := Cond.code yX3_quotient cX3_quotient 8 (some .long) :: tb0) B.pre
  have hC : Cx RX3 cX3_quotient 8 (some .long) p s m _ meth c := ⟨B.exec, B.bytes, hml, findClass_of_methodNamed B.named, fun w q => hts w (List.mem_cons_of_mem _ q), B.returns, B.notSynchronized⟩
  have hw := Wd.entry hP hK hD0 hT hX
  have hl := lv_entry ([.long x0, .long x2]) (n := 8) (Nat.le_of_ble_eq_true rfl)
  rw [lg_entry_eq]
  exact w_X3_quotient_0 hC ⟨Nat.le_refl _, Nat.le_refl _⟩ x0 x2 _ _ _ hw hl h
set_option maxHeartbeats 4000000 in
set_option maxRecDepth 100000 in
theorem w_X3_withSign_0 {r : Int64} (hC : Cx RX3 cX3_withSign 4 (some .long) p s m args meth c) (hR : 0 ≤ R.frames ∧ 0 ≤ R.locals) : ∀ (x0 : Int64) (x2 : Int32) (H : Heap) (locs : List Loc) (ls : Array Slot), Wd G cA S D ad A s H locs → lv_has ls 4 [(0, .long x0), (2, .int x2)] → f_X3_withSign x0 x2 = some r → W p l e R s m args below meth c H locs 0 0 (MQ below (Qn (some (.long r)) True (wpost G cA S D ad A) A) args s 0 0 A) (F0 m 0 ls []) := by
  obtain ⟨hx, hb, -⟩ := id hC
  intro x0 x2 H locs ls hw hl h
  unfold f_X3_withSign at h
  refine lv_bipush (v := 64) hx hb dX3_withSign_0 (by decide) ?_
  refine lv_iload_n hx hb dX3_withSign_2 rfl (lv_at hl 1 rfl) ?_
  refine lv_isub hx hb dX3_withSign_3 ?_
  refine lv_topi (fun y2 ey2 => ?_)
  have h := nm_i h y2 ey2
  refine lv_istore_n (lv' := [(3, .int y2), (0, .long x0), (2, .int x2)]) hx hb dX3_withSign_4 rfl hl (by decide) rfl (fun ls hl => ?_)
  refine lv_lload_n hx hb dX3_withSign_5 rfl (lv_at hl 1 rfl) ?_
  refine lv_iload_n hx hb dX3_withSign_6 rfl (lv_at hl 0 rfl) ?_
  refine lv_lshl (v := j_lshl x0 y2) hx hb dX3_withSign_7 rfl ?_
  refine lv_iload_n hx hb dX3_withSign_8 rfl (lv_at hl 0 rfl) ?_
  refine lv_lshr (v := j_lshr (j_lshl x0 y2) y2) hx hb dX3_withSign_9 rfl ?_
  cases h
  exact r_lret hC hw dX3_withSign_10
set_option maxHeartbeats 4000000 in
set_option maxRecDepth 100000 in
theorem k_X3_withSign {l : Launch} {G : va_G} {cA : Nat → ClassId} {S : sh} {D : dt} {ad : Nat → Nat} (sz : Nat) {x0 : Int64} {x2 : Int32} {r : Int64}  (h : f_X3_withSign x0 x2 = some r) : Co l yX3_withSign (Cond.code yX3_withSign cX3_withSign 4 (some .long) :: tb0) 0 0 [.long x0, .int x2] G cA S D ad sz (some (.long r)) True D := by
  refine Met.ofW (cc := cX3_withSign) (maxL := 4) (ret := (some .long)) (by decide) rfl ?_
  intro p e s m args below meth c s₁ B hml hv
  obtain ⟨rfl, hsz, hP, hK, hD0, hT, hX⟩ := hv
  subst hsz
  have hts := atoms_spec (ws := Cond.code yX3_withSign cX3_withSign 4 (some .long) :: tb0) B.pre
  have hC : Cx RX3 cX3_withSign 4 (some .long) p s m _ meth c := ⟨B.exec, B.bytes, hml, findClass_of_methodNamed B.named, fun w q => hts w (List.mem_cons_of_mem _ q), B.returns, B.notSynchronized⟩
  have hw := Wd.entry hP hK hD0 hT hX
  have hl := lv_entry ([.long x0, .int x2]) (n := 4) (Nat.le_of_ble_eq_true rfl)
  rw [lg_entry_eq]
  exact w_X3_withSign_0 hC ⟨Nat.le_refl _, Nat.le_refl _⟩ x0 x2 _ _ _ hw hl h
set_option maxHeartbeats 4000000 in
set_option maxRecDepth 100000 in
theorem w_X3_makeOther_0 {r : Int64} (hC : Cx RX3 cX3_makeOther 6 (some .long) p s m args meth c) (hR : 0 ≤ R.frames ∧ 0 ≤ R.locals) : ∀ (x0 : Int32) (x1 : Int64) (x3 : Int64) (x5 : Int32) (H : Heap) (locs : List Loc) (ls : Array Slot), Wd G cA S D ad A s H locs → lv_has ls 6 [(0, .int x0), (1, .long x1), (3, .long x3), (5, .int x5)] → f_X3_makeOther x0 x1 x3 x5 = some r → W p l e R s m args below meth c H locs 0 0 (MQ below (Qn (some (.long r)) True (wpost G cA S D ad A) A) args s 0 0 A) (F0 m 0 ls []) := by
  obtain ⟨hx, hb, -⟩ := id hC
  intro x0 x1 x3 x5 H locs ls hw hl h
  unfold f_X3_makeOther at h
  refine lv_iload_n hx hb dX3_makeOther_0 rfl (lv_at hl 0 rfl) ?_
  by_cases c14 : x0 = 0
  · have h := i_yes c14 h
    refine lv_tableIn (off := 67) (tgt := 68) hx hb dX3_makeOther_1 (by rw [c14]; decide) (by rw [c14]; decide) (by rw [c14] <;> rfl) (by decide) ?_
    refine lv_lload_n hx hb dX3_makeOther_68 rfl (lv_at hl 1 rfl) ?_
    refine lv_lload_n hx hb dX3_makeOther_69 rfl (lv_at hl 2 rfl) ?_
    refine lv_ladd hx hb dX3_makeOther_70 ?_
    cases h
    exact r_lret hC hw dX3_makeOther_71
  have h := i_no c14 h
  by_cases c15 : x0 = 1
  · have h := i_yes c15 h
    refine lv_tableIn (off := 71) (tgt := 72) hx hb dX3_makeOther_1 (by rw [c15]; decide) (by rw [c15]; decide) (by rw [c15] <;> rfl) (by decide) ?_
    refine lv_lload_n hx hb dX3_makeOther_72 rfl (lv_at hl 1 rfl) ?_
    refine lv_lload_n hx hb dX3_makeOther_73 rfl (lv_at hl 2 rfl) ?_
    refine lv_lsub hx hb dX3_makeOther_74 ?_
    cases h
    exact r_lret hC hw dX3_makeOther_75
  have h := i_no c15 h
  by_cases c16 : x0 = 2
  · have h := i_yes c16 h
    refine lv_tableIn (off := 75) (tgt := 76) hx hb dX3_makeOther_1 (by rw [c16]; decide) (by rw [c16]; decide) (by rw [c16] <;> rfl) (by decide) ?_
    refine lv_lload_n hx hb dX3_makeOther_76 rfl (lv_at hl 1 rfl) ?_
    refine lv_lload_n hx hb dX3_makeOther_77 rfl (lv_at hl 2 rfl) ?_
    refine lv_lmul hx hb dX3_makeOther_78 ?_
    cases h
    exact r_lret hC hw dX3_makeOther_79
  have h := i_no c16 h
  by_cases c17 : x0 = 3
  · have h := i_yes c17 h
    refine lv_tableIn (off := 121) (tgt := 122) hx hb dX3_makeOther_1 (by rw [c17]; decide) (by rw [c17]; decide) (by rw [c17] <;> rfl) (by decide) ?_
    refine lv_lload_n hx hb dX3_makeOther_122 rfl (lv_at hl 2 rfl) ?_
    cases h
    exact r_lret hC hw dX3_makeOther_123
  have h := i_no c17 h
  by_cases c18 : x0 = 4
  · have h := i_yes c18 h
    refine lv_tableIn (off := 79) (tgt := 80) hx hb dX3_makeOther_1 (by rw [c18]; decide) (by rw [c18]; decide) (by rw [c18] <;> rfl) (by decide) ?_
    refine lv_lload_n hx hb dX3_makeOther_80 rfl (lv_at hl 1 rfl) ?_
    refine lv_lload_n hx hb dX3_makeOther_81 rfl (lv_at hl 2 rfl) ?_
    refine lv_lor hx hb dX3_makeOther_82 ?_
    cases h
    exact r_lret hC hw dX3_makeOther_83
  have h := i_no c18 h
  by_cases c19 : x0 = 5
  · have h := i_yes c19 h
    refine lv_tableIn (off := 83) (tgt := 84) hx hb dX3_makeOther_1 (by rw [c19]; decide) (by rw [c19]; decide) (by rw [c19] <;> rfl) (by decide) ?_
    refine lv_lload_n hx hb dX3_makeOther_84 rfl (lv_at hl 1 rfl) ?_
    refine lv_lload_n hx hb dX3_makeOther_85 rfl (lv_at hl 2 rfl) ?_
    refine lv_land hx hb dX3_makeOther_86 ?_
    cases h
    exact r_lret hC hw dX3_makeOther_87
  have h := i_no c19 h
  by_cases c20 : x0 = 6
  · have h := i_yes c20 h
    refine lv_tableIn (off := 91) (tgt := 92) hx hb dX3_makeOther_1 (by rw [c20]; decide) (by rw [c20]; decide) (by rw [c20] <;> rfl) (by decide) ?_
    refine lv_lload_n hx hb dX3_makeOther_92 rfl (lv_at hl 1 rfl) ?_
    refine lv_lload_n hx hb dX3_makeOther_93 rfl (lv_at hl 2 rfl) ?_
    refine lv_iload hx hb dX3_makeOther_94 (lv_at hl 3 rfl) ?_
    refine lv_i2l (v := x5.toInt64) hx hb dX3_makeOther_96 rfl ?_
    refine lv_land hx hb dX3_makeOther_97 ?_
    refine lv_l2i (v := (x3 &&& x5.toInt64).toInt32) hx hb dX3_makeOther_98 rfl ?_
    refine lv_lshl (v := j_lshl x1 ((x3 &&& x5.toInt64).toInt32)) hx hb dX3_makeOther_99 rfl ?_
    cases h
    exact r_lret hC hw dX3_makeOther_100
  have h := i_no c20 h
  by_cases c21 : x0 = 7
  · have h := i_yes c21 h
    refine lv_tableIn (off := 100) (tgt := 101) hx hb dX3_makeOther_1 (by rw [c21]; decide) (by rw [c21]; decide) (by rw [c21] <;> rfl) (by decide) ?_
    refine lv_lload_n hx hb dX3_makeOther_101 rfl (lv_at hl 1 rfl) ?_
    refine lv_lload_n hx hb dX3_makeOther_102 rfl (lv_at hl 2 rfl) ?_
    refine lv_iload hx hb dX3_makeOther_103 (lv_at hl 3 rfl) ?_
    refine lv_i2l (v := x5.toInt64) hx hb dX3_makeOther_105 rfl ?_
    refine lv_land hx hb dX3_makeOther_106 ?_
    refine lv_l2i (v := (x3 &&& x5.toInt64).toInt32) hx hb dX3_makeOther_107 rfl ?_
    refine lv_lushr (v := j_lushr x1 ((x3 &&& x5.toInt64).toInt32)) hx hb dX3_makeOther_108 rfl ?_
    cases h
    exact r_lret hC hw dX3_makeOther_109
  have h := i_no c21 h
  by_cases c22 : x0 = 8
  · have h := i_yes c22 h
    refine lv_tableIn (off := 118) (tgt := 119) hx hb dX3_makeOther_1 (by rw [c22]; decide) (by rw [c22]; decide) (by rw [c22] <;> rfl) (by decide) ?_
    refine lv_lload_n hx hb dX3_makeOther_119 rfl (lv_at hl 1 rfl) ?_
    refine lv_lneg hx hb dX3_makeOther_120 ?_
    cases h
    exact r_lret hC hw dX3_makeOther_121
  have h := i_no c22 h
  by_cases c23 : x0 = 9
  · have h := i_yes c23 h
    refine lv_tableIn (off := 121) (tgt := 122) hx hb dX3_makeOther_1 (by rw [c23]; decide) (by rw [c23]; decide) (by rw [c23] <;> rfl) (by decide) ?_
    refine lv_lload_n hx hb dX3_makeOther_122 rfl (lv_at hl 2 rfl) ?_
    cases h
    exact r_lret hC hw dX3_makeOther_123
  have h := i_no c23 h
  by_cases c24 : x0 = 10
  · have h := i_yes c24 h
    refine lv_tableIn (off := 87) (tgt := 88) hx hb dX3_makeOther_1 (by rw [c24]; decide) (by rw [c24]; decide) (by rw [c24] <;> rfl) (by decide) ?_
    refine lv_lload_n hx hb dX3_makeOther_88 rfl (lv_at hl 1 rfl) ?_
    refine lv_lload_n hx hb dX3_makeOther_89 rfl (lv_at hl 2 rfl) ?_
    refine lv_lxor hx hb dX3_makeOther_90 ?_
    cases h
    exact r_lret hC hw dX3_makeOther_91
  have h := i_no c24 h
  by_cases c25 : x0 = 11
  · have h := i_yes c25 h
    refine lv_tableIn (off := 121) (tgt := 122) hx hb dX3_makeOther_1 (by rw [c25]; decide) (by rw [c25]; decide) (by rw [c25] <;> rfl) (by decide) ?_
    refine lv_lload_n hx hb dX3_makeOther_122 rfl (lv_at hl 2 rfl) ?_
    cases h
    exact r_lret hC hw dX3_makeOther_123
  have h := i_no c25 h
  by_cases c26 : x0 = 12
  · have h := i_yes c26 h
    refine lv_tableIn (off := 109) (tgt := 110) hx hb dX3_makeOther_1 (by rw [c26]; decide) (by rw [c26]; decide) (by rw [c26] <;> rfl) (by decide) ?_
    refine lv_lload_n hx hb dX3_makeOther_110 rfl (lv_at hl 1 rfl) ?_
    refine lv_lload_n hx hb dX3_makeOther_111 rfl (lv_at hl 2 rfl) ?_
    refine lv_iload hx hb dX3_makeOther_112 (lv_at hl 3 rfl) ?_
    refine lv_i2l (v := x5.toInt64) hx hb dX3_makeOther_114 rfl ?_
    refine lv_land hx hb dX3_makeOther_115 ?_
    refine lv_l2i (v := (x3 &&& x5.toInt64).toInt32) hx hb dX3_makeOther_116 rfl ?_
    refine lv_lshr (v := j_lshr x1 ((x3 &&& x5.toInt64).toInt32)) hx hb dX3_makeOther_117 rfl ?_
    cases h
    exact r_lret hC hw dX3_makeOther_118
  have h := i_no c26 h
  refine lv_tableOut (tgt := 122) hx hb dX3_makeOther_1 (by have nc14 := lv_neT c14 (a := 0) rfl; have nc15 := lv_neT c15 (a := 1) rfl; have nc16 := lv_neT c16 (a := 2) rfl; have nc17 := lv_neT c17 (a := 3) rfl; have nc18 := lv_neT c18 (a := 4) rfl; have nc19 := lv_neT c19 (a := 5) rfl; have nc20 := lv_neT c20 (a := 6) rfl; have nc21 := lv_neT c21 (a := 7) rfl; have nc22 := lv_neT c22 (a := 8) rfl; have nc23 := lv_neT c23 (a := 9) rfl; have nc24 := lv_neT c24 (a := 10) rfl; have nc25 := lv_neT c25 (a := 11) rfl; have nc26 := lv_neT c26 (a := 12) rfl; omega) (by decide) ?_
  refine lv_lload_n hx hb dX3_makeOther_122 rfl (lv_at hl 2 rfl) ?_
  cases h
  exact r_lret hC hw dX3_makeOther_123
set_option maxHeartbeats 4000000 in
set_option maxRecDepth 100000 in
theorem k_X3_makeOther {l : Launch} {G : va_G} {cA : Nat → ClassId} {S : sh} {D : dt} {ad : Nat → Nat} (sz : Nat) {x0 : Int32} {x1 : Int64} {x3 : Int64} {x5 : Int32} {r : Int64}  (h : f_X3_makeOther x0 x1 x3 x5 = some r) : Co l yX3_makeOther (Cond.code yX3_makeOther cX3_makeOther 6 (some .long) :: tb0) 0 0 [.int x0, .long x1, .long x3, .int x5] G cA S D ad sz (some (.long r)) True D := by
  refine Met.ofW (cc := cX3_makeOther) (maxL := 6) (ret := (some .long)) (by decide) rfl ?_
  intro p e s m args below meth c s₁ B hml hv
  obtain ⟨rfl, hsz, hP, hK, hD0, hT, hX⟩ := hv
  subst hsz
  have hts := atoms_spec (ws := Cond.code yX3_makeOther cX3_makeOther 6 (some .long) :: tb0) B.pre
  have hC : Cx RX3 cX3_makeOther 6 (some .long) p s m _ meth c := ⟨B.exec, B.bytes, hml, findClass_of_methodNamed B.named, fun w q => hts w (List.mem_cons_of_mem _ q), B.returns, B.notSynchronized⟩
  have hw := Wd.entry hP hK hD0 hT hX
  have hl := lv_entry ([.int x0, .long x1, .long x3, .int x5]) (n := 6) (Nat.le_of_ble_eq_true rfl)
  rw [lg_entry_eq]
  exact w_X3_makeOther_0 hC ⟨Nat.le_refl _, Nat.le_refl _⟩ x0 x1 x3 x5 _ _ _ hw hl h
set_option maxHeartbeats 4000000 in
set_option maxRecDepth 100000 in
theorem w_X3_make_169 {r : Int64} (hC : Cx RX3 cX3_make 17 (some .long) p s m args meth c) (hR : 1 ≤ R.frames ∧ 27 ≤ R.locals) : ∀ (x1 : Int32) (x13 : Int64) (H : Heap) (locs : List Loc) (ls : Array Slot), Wd G cA S D ad A s H locs → lv_has ls 17 [(1, .int x1), (13, .long x13)] → f_X3_make_169 x1 x13 = some r → W p l e R s m args below meth c H locs 0 0 (MQ below (Qn (some (.long r)) True (wpost G cA S D ad A) A) args s 0 0 A) (F0 m 169 ls []) := by
  obtain ⟨hx, hb, -⟩ := id hC
  intro x1 x13 H locs ls hw hl h
  unfold f_X3_make_169 at h
  refine lv_iload_n hx hb dX3_make_169 rfl (lv_at hl 0 rfl) ?_
  refine lv_if_eq (tgt := 178) hx hb dX3_make_170 (by decide) (fun c27 => ?_) (fun c27 => ?_)
  · have h := i_yes c27 h
    refine lv_lload hx hb dX3_make_178 (lv_at hl 1 rfl) ?_
    refine lv_ldc2 (v := 4294967295) hx hb hC.2.2.2.1 (hC.2.2.2.2.1 _ lk_720) dX3_make_180 ?_
    refine lv_land hx hb dX3_make_183 ?_
    cases h
    exact r_lret hC hw dX3_make_184
  · have h := i_no c27 h
    refine lv_lload hx hb dX3_make_173 (lv_at hl 1 rfl) ?_
    refine lv_goto (tgt := 184) hx hb dX3_make_175 (by decide) ?_
    cases h
    exact r_lret hC hw dX3_make_184
set_option maxHeartbeats 4000000 in
set_option maxRecDepth 100000 in
theorem w_X3_make_164 {r : Int64} (hC : Cx RX3 cX3_make 17 (some .long) p s m args meth c) (hR : 1 ≤ R.frames ∧ 27 ≤ R.locals) : ∀ (x1 : Int32) (xs0 : Int32) (xs1 : Int64) (xs2 : Int64) (xs3 : Int32) (H : Heap) (locs : List Loc) (ls : Array Slot), Wd G cA S D ad A s H locs → lv_has ls 17 [(1, .int x1)] → f_X3_make_164 x1 xs0 xs1 xs2 xs3 = some r → W p l e R s m args below meth c H locs 0 0 (MQ below (Qn (some (.long r)) True (wpost G cA S D ad A) A) args s 0 0 A) (F0 m 164 ls [.int xs3, .long xs2, .long xs1, .int xs0]) := by
  obtain ⟨hx, hb, -⟩ := id hC
  intro x1 xs0 xs1 xs2 xs3 H locs ls hw hl h
  unfold f_X3_make_164 at h
  obtain ⟨r29, hq28, h⟩ := pq_i h
  refine r_cS (st' := [.long r29]) [.int xs0, .long xs1, .long xs2, .int xs3] [] hC hw (k_X3_makeOther _ hq28) mk_X3_makeOther lk_731 ⟨Nat.le_trans (by decide) hR.1, Nat.le_trans (by decide) hR.2⟩ ⟨Nat.zero_le _, Nat.zero_le _⟩ rfl hl.1 rfl rfl (Nat.le_of_ble_eq_true rfl) dX3_make_164 (fun hP H locs hw => ?_)
  refine lv_lstore (lv' := [(13, .long r29), (1, .int x1)]) hx hb dX3_make_167 hl (by decide) rfl (fun ls hl => ?_)
  exact w_X3_make_169 hC hR x1 r29 _ _ _ hw (lv_sub hl [1, 0] rfl) h
set_option maxHeartbeats 4000000 in
set_option maxRecDepth 100000 in
theorem w_X3_make_148 {r : Int64} (hC : Cx RX3 cX3_make 17 (some .long) p s m args meth c) (hR : 1 ≤ R.frames ∧ 27 ≤ R.locals) : ∀ (x0 : Int32) (x1 : Int32) (x9 : Int64) (x11 : Int64) (H : Heap) (locs : List Loc) (ls : Array Slot), Wd G cA S D ad A s H locs → lv_has ls 17 [(0, .int x0), (1, .int x1), (9, .long x9), (11, .long x11)] → f_X3_make_148 x0 x1 x9 x11 = some r → W p l e R s m args below meth c H locs 0 0 (MQ below (Qn (some (.long r)) True (wpost G cA S D ad A) A) args s 0 0 A) (F0 m 148 ls []) := by
  obtain ⟨hx, hb, -⟩ := id hC
  intro x0 x1 x9 x11 H locs ls hw hl h
  unfold f_X3_make_148 at h
  refine lv_iload_n hx hb dX3_make_148 rfl (lv_at hl 0 rfl) ?_
  refine lv_lload hx hb dX3_make_149 (lv_at hl 2 rfl) ?_
  refine lv_lload hx hb dX3_make_151 (lv_at hl 3 rfl) ?_
  refine lv_iload_n hx hb dX3_make_153 rfl (lv_at hl 1 rfl) ?_
  refine lv_if_eq (tgt := 162) hx hb dX3_make_154 (by decide) (fun c30 => ?_) (fun c30 => ?_)
  · have h := i_yes c30 h
    refine lv_bipush (v := 31) hx hb dX3_make_162 (by decide) ?_
    exact w_X3_make_164 hC hR x1 x0 x9 x11 (31 : Int32) _ _ _ hw (lv_sub hl [1] rfl) h
  · have h := i_no c30 h
    refine lv_bipush (v := 63) hx hb dX3_make_157 (by decide) ?_
    refine lv_goto (tgt := 164) hx hb dX3_make_159 (by decide) ?_
    exact w_X3_make_164 hC hR x1 x0 x9 x11 (63 : Int32) _ _ _ hw (lv_sub hl [1] rfl) h
set_option maxHeartbeats 4000000 in
set_option maxRecDepth 100000 in
theorem w_X3_make_122 {r : Int64} (hC : Cx RX3 cX3_make 17 (some .long) p s m args meth c) (hR : 1 ≤ R.frames ∧ 27 ≤ R.locals) : ∀ (x1 : Int32) (xs0 : Int64) (H : Heap) (locs : List Loc) (ls : Array Slot), Wd G cA S D ad A s H locs → lv_has ls 17 [(1, .int x1)] → f_X3_make_122 x1 xs0 = some r → W p l e R s m args below meth c H locs 0 0 (MQ below (Qn (some (.long r)) True (wpost G cA S D ad A) A) args s 0 0 A) (F0 m 122 ls [.long xs0]) := by
  obtain ⟨hx, hb, -⟩ := id hC
  intro x1 xs0 H locs ls hw hl h
  unfold f_X3_make_122 at h
  refine lv_lstore (lv' := [(13, .long xs0), (1, .int x1)]) hx hb dX3_make_122 hl (by decide) rfl (fun ls hl => ?_)
  refine lv_goto (tgt := 169) hx hb dX3_make_124 (by decide) ?_
  exact w_X3_make_169 hC hR x1 xs0 _ _ _ hw (lv_sub hl [1, 0] rfl) h
set_option maxHeartbeats 4000000 in
set_option maxRecDepth 100000 in
theorem w_X3_make_102 {r : Int64} (hC : Cx RX3 cX3_make 17 (some .long) p s m args meth c) (hR : 1 ≤ R.frames ∧ 27 ≤ R.locals) : ∀ (x0 : Int32) (x1 : Int32) (x9 : Int64) (x11 : Int64) (xs0 : Int64) (H : Heap) (locs : List Loc) (ls : Array Slot), Wd G cA S D ad A s H locs → lv_has ls 17 [(0, .int x0), (1, .int x1), (9, .long x9), (11, .long x11)] → f_X3_make_102 x0 x1 x9 x11 xs0 = some r → W p l e R s m args below meth c H locs 0 0 (MQ below (Qn (some (.long r)) True (wpost G cA S D ad A) A) args s 0 0 A) (F0 m 102 ls [.long xs0]) := by
  obtain ⟨hx, hb, -⟩ := id hC
  intro x0 x1 x9 x11 xs0 H locs ls hw hl h
  unfold f_X3_make_102 at h
  refine lv_lstore (lv' := [(15, .long xs0), (0, .int x0), (1, .int x1), (9, .long x9), (11, .long x11)]) hx hb dX3_make_102 hl (by decide) rfl (fun ls hl => ?_)
  refine lv_iload_n hx hb dX3_make_104 rfl (lv_at hl 1 rfl) ?_
  refine lv_iconst (v := 3) hx hb dX3_make_105 (by decide) ?_
  refine lv_icmp_ne (tgt := 114) hx hb dX3_make_106 (by decide) (fun c31 => ?_) (fun c31 => ?_)
  · have h := i_no c31 h
    refine lv_lload hx hb dX3_make_114 (lv_at hl 3 rfl) ?_
    refine lv_lload hx hb dX3_make_116 (lv_at hl 0 rfl) ?_
    refine lv_lload hx hb dX3_make_118 (lv_at hl 4 rfl) ?_
    refine lv_lmul hx hb dX3_make_120 ?_
    refine lv_lsub hx hb dX3_make_121 ?_
    exact w_X3_make_122 hC hR x1 (x9 - (xs0 * x11)) _ _ _ hw (lv_sub hl [2] rfl) h
  · have h := i_yes c31 h
    refine lv_lload hx hb dX3_make_109 (lv_at hl 0 rfl) ?_
    refine lv_goto (tgt := 122) hx hb dX3_make_111 (by decide) ?_
    exact w_X3_make_122 hC hR x1 xs0 _ _ _ hw (lv_sub hl [2] rfl) h
set_option maxHeartbeats 4000000 in
set_option maxRecDepth 100000 in
theorem w_X3_make_73 {r : Int64} (hC : Cx RX3 cX3_make 17 (some .long) p s m args meth c) (hR : 1 ≤ R.frames ∧ 27 ≤ R.locals) : ∀ (x0 : Int32) (x1 : Int32) (x2 : Int32) (x7 : Int32) (x8 : Int32) (x9 : Int64) (xs0 : Int64) (H : Heap) (locs : List Loc) (ls : Array Slot), Wd G cA S D ad A s H locs → lv_has ls 17 [(0, .int x0), (1, .int x1), (2, .int x2), (7, .int x7), (8, .int x8), (9, .long x9)] → f_X3_make_73 x0 x1 x2 x7 x8 x9 xs0 = some r → W p l e R s m args below meth c H locs 0 0 (MQ below (Qn (some (.long r)) True (wpost G cA S D ad A) A) args s 0 0 A) (F0 m 73 ls [.long xs0]) := by
  obtain ⟨hx, hb, -⟩ := id hC
  intro x0 x1 x2 x7 x8 x9 xs0 H locs ls hw hl h
  unfold f_X3_make_73 at h
  refine lv_lstore (lv' := [(11, .long xs0), (0, .int x0), (1, .int x1), (2, .int x2), (7, .int x7), (8, .int x8), (9, .long x9)]) hx hb dX3_make_73 hl (by decide) rfl (fun ls hl => ?_)
  refine lv_iload hx hb dX3_make_75 (lv_at hl 4 rfl) ?_
  refine lv_if_eq (tgt := 127) hx hb dX3_make_77 (by decide) (fun c32 => ?_) (fun c32 => ?_)
  · have h := i_yes c32 h
    refine lv_iload_n hx hb dX3_make_127 rfl (lv_at hl 1 rfl) ?_
    refine lv_bipush (v := 11) hx hb dX3_make_128 (by decide) ?_
    refine lv_icmp_ne (tgt := 148) hx hb dX3_make_130 (by decide) (fun c33 => ?_) (fun c33 => ?_)
    · have h := i_no c33 h
      exact w_X3_make_148 hC hR x0 x1 x9 xs0 _ _ _ hw (lv_sub hl [1, 2, 6, 0] rfl) h
    · have h := i_yes c33 h
      refine lv_iload_n hx hb dX3_make_133 rfl (lv_at hl 3 rfl) ?_
      refine lv_if_eq (tgt := 148) hx hb dX3_make_134 (by decide) (fun c34 => ?_) (fun c34 => ?_)
      · have h := i_yes c34 h
        exact w_X3_make_148 hC hR x0 x1 x9 xs0 _ _ _ hw (lv_sub hl [1, 2, 6, 0] rfl) h
      · have h := i_no c34 h
        refine lv_lload hx hb dX3_make_137 (lv_at hl 0 rfl) ?_
        refine lv_iload_n hx hb dX3_make_139 rfl (lv_at hl 3 rfl) ?_
        obtain ⟨r36, hq35, h⟩ := pq_i h
        refine r_cS (st' := [.long r36]) [.long xs0, .int x2] [] hC hw (k_X3_withSign _ hq35) mk_X3_withSign lk_728 ⟨Nat.le_trans (by decide) hR.1, Nat.le_trans (by decide) hR.2⟩ ⟨Nat.zero_le _, Nat.zero_le _⟩ rfl hl.1 rfl rfl (Nat.le_of_ble_eq_true rfl) dX3_make_140 (fun hP H locs hw => ?_)
        refine lv_lstore (lv' := [(13, .long r36), (11, .long xs0), (0, .int x0), (1, .int x1), (2, .int x2), (7, .int x7), (8, .int x8), (9, .long x9)]) hx hb dX3_make_143 hl (by decide) rfl (fun ls hl => ?_)
        refine lv_goto (tgt := 169) hx hb dX3_make_145 (by decide) ?_
        exact w_X3_make_169 hC hR x1 r36 _ _ _ hw (lv_sub hl [3, 0] rfl) h
  · have h := i_no c32 h
    refine lv_iload hx hb dX3_make_80 (lv_at hl 5 rfl) ?_
    refine lv_if_eq (tgt := 95) hx hb dX3_make_82 (by decide) (fun c37 => ?_) (fun c37 => ?_)
    · have h := i_yes c37 h
      refine lv_lload hx hb dX3_make_95 (lv_at hl 6 rfl) ?_
      refine lv_lload hx hb dX3_make_97 (lv_at hl 0 rfl) ?_
      obtain ⟨r39, hq38, h⟩ := pq_i h
      refine r_cS (st' := [.long r39]) [.long x9, .long xs0] [] hC hw (k_X3_quotient _ hq38) mk_X3_quotient lk_725 ⟨Nat.le_trans (by decide) hR.1, Nat.le_trans (by decide) hR.2⟩ ⟨Nat.zero_le _, Nat.zero_le _⟩ rfl hl.1 rfl rfl (Nat.le_of_ble_eq_true rfl) dX3_make_99 (fun hP H locs hw => ?_)
      exact w_X3_make_102 hC hR x0 x1 x9 xs0 r39 _ _ _ hw (lv_sub hl [1, 2, 6, 0] rfl) h
    · have h := i_no c37 h
      refine lv_lload hx hb dX3_make_85 (lv_at hl 6 rfl) ?_
      refine lv_lload hx hb dX3_make_87 (lv_at hl 0 rfl) ?_
      obtain ⟨r41, hq40, h⟩ := pq_i h
      refine r_cS (st' := [.long r41]) [.long x9, .long xs0] [] hC hw (k_X3_signedQuotient _ hq40) mk_X3_signedQuotient lk_721 ⟨Nat.le_trans (by decide) hR.1, Nat.le_trans (by decide) hR.2⟩ ⟨Nat.zero_le _, Nat.zero_le _⟩ rfl hl.1 rfl rfl (Nat.le_of_ble_eq_true rfl) dX3_make_89 (fun hP H locs hw => ?_)
      refine lv_goto (tgt := 102) hx hb dX3_make_92 (by decide) ?_
      exact w_X3_make_102 hC hR x0 x1 x9 xs0 r41 _ _ _ hw (lv_sub hl [1, 2, 6, 0] rfl) h
set_option maxHeartbeats 4000000 in
set_option maxRecDepth 100000 in
theorem w_X3_make_55 {r : Int64} (hC : Cx RX3 cX3_make 17 (some .long) p s m args meth c) (hR : 1 ≤ R.frames ∧ 27 ≤ R.locals) : ∀ (x0 : Int32) (x1 : Int32) (x2 : Int32) (x5 : Int64) (x7 : Int32) (x8 : Int32) (xs0 : Int64) (H : Heap) (locs : List Loc) (ls : Array Slot), Wd G cA S D ad A s H locs → lv_has ls 17 [(0, .int x0), (1, .int x1), (2, .int x2), (5, .long x5), (7, .int x7), (8, .int x8)] → f_X3_make_55 x0 x1 x2 x5 x7 x8 xs0 = some r → W p l e R s m args below meth c H locs 0 0 (MQ below (Qn (some (.long r)) True (wpost G cA S D ad A) A) args s 0 0 A) (F0 m 55 ls [.long xs0]) := by
  obtain ⟨hx, hb, -⟩ := id hC
  intro x0 x1 x2 x5 x7 x8 xs0 H locs ls hw hl h
  unfold f_X3_make_55 at h
  refine lv_lstore (lv' := [(9, .long xs0), (0, .int x0), (1, .int x1), (2, .int x2), (5, .long x5), (7, .int x7), (8, .int x8)]) hx hb dX3_make_55 hl (by decide) rfl (fun ls hl => ?_)
  refine lv_iload_n hx hb dX3_make_57 rfl (lv_at hl 2 rfl) ?_
  refine lv_if_eq (tgt := 66) hx hb dX3_make_58 (by decide) (fun c42 => ?_) (fun c42 => ?_)
  · have h := i_yes c42 h
    refine lv_lload hx hb dX3_make_66 (lv_at hl 4 rfl) ?_
    refine lv_iload hx hb dX3_make_68 (lv_at hl 6 rfl) ?_
    obtain ⟨r44, hq43, h⟩ := pq_i h
    refine r_cS (st' := [.long r44]) [.long x5, .int x8] [] hC hw (k_X3_half _ hq43) mk_X3_half lk_717 ⟨Nat.le_trans (by decide) hR.1, Nat.le_trans (by decide) hR.2⟩ ⟨Nat.zero_le _, Nat.zero_le _⟩ rfl hl.1 rfl rfl (Nat.le_of_ble_eq_true rfl) dX3_make_70 (fun hP H locs hw => ?_)
    exact w_X3_make_73 hC hR x0 x1 x2 x7 x8 xs0 r44 _ _ _ hw (lv_sub hl [1, 2, 3, 5, 6, 0] rfl) h
  · have h := i_no c42 h
    refine lv_lload hx hb dX3_make_61 (lv_at hl 4 rfl) ?_
    refine lv_goto (tgt := 73) hx hb dX3_make_63 (by decide) ?_
    exact w_X3_make_73 hC hR x0 x1 x2 x7 x8 xs0 x5 _ _ _ hw (lv_sub hl [1, 2, 3, 5, 6, 0] rfl) h
set_option maxHeartbeats 4000000 in
set_option maxRecDepth 100000 in
theorem w_X3_make_39 {r : Int64} (hC : Cx RX3 cX3_make 17 (some .long) p s m args meth c) (hR : 1 ≤ R.frames ∧ 27 ≤ R.locals) : ∀ (x0 : Int32) (x1 : Int32) (x2 : Int32) (x3 : Int64) (x5 : Int64) (x7 : Int32) (xs0 : Int32) (H : Heap) (locs : List Loc) (ls : Array Slot), Wd G cA S D ad A s H locs → lv_has ls 17 [(0, .int x0), (1, .int x1), (2, .int x2), (3, .long x3), (5, .long x5), (7, .int x7)] → f_X3_make_39 x0 x1 x2 x3 x5 x7 xs0 = some r → W p l e R s m args below meth c H locs 0 0 (MQ below (Qn (some (.long r)) True (wpost G cA S D ad A) A) args s 0 0 A) (F0 m 39 ls [.int xs0]) := by
  obtain ⟨hx, hb, -⟩ := id hC
  intro x0 x1 x2 x3 x5 x7 xs0 H locs ls hw hl h
  unfold f_X3_make_39 at h
  refine lv_istore (lv' := [(8, .int xs0), (0, .int x0), (1, .int x1), (2, .int x2), (3, .long x3), (5, .long x5), (7, .int x7)]) hx hb dX3_make_39 hl (by decide) rfl (fun ls hl => ?_)
  refine lv_iload_n hx hb dX3_make_41 rfl (lv_at hl 2 rfl) ?_
  refine lv_if_eq (tgt := 49) hx hb dX3_make_42 (by decide) (fun c45 => ?_) (fun c45 => ?_)
  · have h := i_yes c45 h
    refine lv_lload_n hx hb dX3_make_49 rfl (lv_at hl 4 rfl) ?_
    refine lv_iload hx hb dX3_make_50 (lv_at hl 0 rfl) ?_
    obtain ⟨r47, hq46, h⟩ := pq_i h
    refine r_cS (st' := [.long r47]) [.long x3, .int xs0] [] hC hw (k_X3_half _ hq46) mk_X3_half lk_717 ⟨Nat.le_trans (by decide) hR.1, Nat.le_trans (by decide) hR.2⟩ ⟨Nat.zero_le _, Nat.zero_le _⟩ rfl hl.1 rfl rfl (Nat.le_of_ble_eq_true rfl) dX3_make_52 (fun hP H locs hw => ?_)
    exact w_X3_make_55 hC hR x0 x1 x2 x5 x7 xs0 r47 _ _ _ hw (lv_sub hl [1, 2, 3, 5, 6, 0] rfl) h
  · have h := i_no c45 h
    refine lv_lload_n hx hb dX3_make_45 rfl (lv_at hl 4 rfl) ?_
    refine lv_goto (tgt := 55) hx hb dX3_make_46 (by decide) ?_
    exact w_X3_make_55 hC hR x0 x1 x2 x5 x7 xs0 x3 _ _ _ hw (lv_sub hl [1, 2, 3, 5, 6, 0] rfl) h
set_option maxHeartbeats 4000000 in
set_option maxRecDepth 100000 in
theorem w_X3_make_34 {r : Int64} (hC : Cx RX3 cX3_make 17 (some .long) p s m args meth c) (hR : 1 ≤ R.frames ∧ 27 ≤ R.locals) : ∀ (x0 : Int32) (x1 : Int32) (x2 : Int32) (x3 : Int64) (x5 : Int64) (x7 : Int32) (H : Heap) (locs : List Loc) (ls : Array Slot), Wd G cA S D ad A s H locs → lv_has ls 17 [(0, .int x0), (1, .int x1), (2, .int x2), (3, .long x3), (5, .long x5), (7, .int x7)] → f_X3_make_34 x0 x1 x2 x3 x5 x7 = some r → W p l e R s m args below meth c H locs 0 0 (MQ below (Qn (some (.long r)) True (wpost G cA S D ad A) A) args s 0 0 A) (F0 m 34 ls []) := by
  obtain ⟨hx, hb, -⟩ := id hC
  intro x0 x1 x2 x3 x5 x7 H locs ls hw hl h
  unfold f_X3_make_34 at h
  refine lv_iconst (v := 1) hx hb dX3_make_34 (by decide) ?_
  refine lv_goto (tgt := 39) hx hb dX3_make_35 (by decide) ?_
  exact w_X3_make_39 hC hR x0 x1 x2 x3 x5 x7 (1 : Int32) _ _ _ hw (lv_sub hl [0, 1, 2, 3, 4, 5] rfl) h
set_option maxHeartbeats 4000000 in
set_option maxRecDepth 100000 in
theorem w_X3_make_38 {r : Int64} (hC : Cx RX3 cX3_make 17 (some .long) p s m args meth c) (hR : 1 ≤ R.frames ∧ 27 ≤ R.locals) : ∀ (x0 : Int32) (x1 : Int32) (x2 : Int32) (x3 : Int64) (x5 : Int64) (x7 : Int32) (H : Heap) (locs : List Loc) (ls : Array Slot), Wd G cA S D ad A s H locs → lv_has ls 17 [(0, .int x0), (1, .int x1), (2, .int x2), (3, .long x3), (5, .long x5), (7, .int x7)] → f_X3_make_38 x0 x1 x2 x3 x5 x7 = some r → W p l e R s m args below meth c H locs 0 0 (MQ below (Qn (some (.long r)) True (wpost G cA S D ad A) A) args s 0 0 A) (F0 m 38 ls []) := by
  obtain ⟨hx, hb, -⟩ := id hC
  intro x0 x1 x2 x3 x5 x7 H locs ls hw hl h
  unfold f_X3_make_38 at h
  refine lv_iconst (v := 0) hx hb dX3_make_38 (by decide) ?_
  exact w_X3_make_39 hC hR x0 x1 x2 x3 x5 x7 (0 : Int32) _ _ _ hw (lv_sub hl [0, 1, 2, 3, 4, 5] rfl) h
set_option maxHeartbeats 4000000 in
set_option maxRecDepth 100000 in
theorem w_X3_make_16 {r : Int64} (hC : Cx RX3 cX3_make 17 (some .long) p s m args meth c) (hR : 1 ≤ R.frames ∧ 27 ≤ R.locals) : ∀ (x0 : Int32) (x1 : Int32) (x2 : Int32) (x3 : Int64) (x5 : Int64) (xs0 : Int32) (H : Heap) (locs : List Loc) (ls : Array Slot), Wd G cA S D ad A s H locs → lv_has ls 17 [(0, .int x0), (1, .int x1), (2, .int x2), (3, .long x3), (5, .long x5)] → f_X3_make_16 x0 x1 x2 x3 x5 xs0 = some r → W p l e R s m args below meth c H locs 0 0 (MQ below (Qn (some (.long r)) True (wpost G cA S D ad A) A) args s 0 0 A) (F0 m 16 ls [.int xs0]) := by
  obtain ⟨hx, hb, -⟩ := id hC
  intro x0 x1 x2 x3 x5 xs0 H locs ls hw hl h
  unfold f_X3_make_16 at h
  refine lv_istore (lv' := [(7, .int xs0), (0, .int x0), (1, .int x1), (2, .int x2), (3, .long x3), (5, .long x5)]) hx hb dX3_make_16 hl (by decide) rfl (fun ls hl => ?_)
  refine lv_iload_n hx hb dX3_make_18 rfl (lv_at hl 1 rfl) ?_
  refine lv_bipush (v := 12) hx hb dX3_make_19 (by decide) ?_
  refine lv_icmp_eq (tgt := 34) hx hb dX3_make_21 (by decide) (fun c48 => ?_) (fun c48 => ?_)
  · have h := i_yes c48 h
    exact w_X3_make_34 hC hR x0 x1 x2 x3 x5 xs0 _ _ _ hw (lv_sub hl [1, 2, 3, 4, 5, 0] rfl) h
  · have h := i_no c48 h
    refine lv_iload hx hb dX3_make_24 (lv_at hl 0 rfl) ?_
    refine lv_if_eq (tgt := 38) hx hb dX3_make_26 (by decide) (fun c49 => ?_) (fun c49 => ?_)
    · have h := i_yes c49 h
      exact w_X3_make_38 hC hR x0 x1 x2 x3 x5 xs0 _ _ _ hw (lv_sub hl [1, 2, 3, 4, 5, 0] rfl) h
    · have h := i_no c49 h
      refine lv_iload_n hx hb dX3_make_29 rfl (lv_at hl 3 rfl) ?_
      refine lv_iconst (v := 1) hx hb dX3_make_30 (by decide) ?_
      refine lv_icmp_ne (tgt := 38) hx hb dX3_make_31 (by decide) (fun c50 => ?_) (fun c50 => ?_)
      · have h := i_no c50 h
        exact w_X3_make_38 hC hR x0 x1 x2 x3 x5 xs0 _ _ _ hw (lv_sub hl [1, 2, 3, 4, 5, 0] rfl) h
      · have h := i_yes c50 h
        exact w_X3_make_34 hC hR x0 x1 x2 x3 x5 xs0 _ _ _ hw (lv_sub hl [1, 2, 3, 4, 5, 0] rfl) h
set_option maxHeartbeats 4000000 in
set_option maxRecDepth 100000 in
theorem w_X3_make_11 {r : Int64} (hC : Cx RX3 cX3_make 17 (some .long) p s m args meth c) (hR : 1 ≤ R.frames ∧ 27 ≤ R.locals) : ∀ (x0 : Int32) (x1 : Int32) (x2 : Int32) (x3 : Int64) (x5 : Int64) (H : Heap) (locs : List Loc) (ls : Array Slot), Wd G cA S D ad A s H locs → lv_has ls 17 [(0, .int x0), (1, .int x1), (2, .int x2), (3, .long x3), (5, .long x5)] → f_X3_make_11 x0 x1 x2 x3 x5 = some r → W p l e R s m args below meth c H locs 0 0 (MQ below (Qn (some (.long r)) True (wpost G cA S D ad A) A) args s 0 0 A) (F0 m 11 ls []) := by
  obtain ⟨hx, hb, -⟩ := id hC
  intro x0 x1 x2 x3 x5 H locs ls hw hl h
  unfold f_X3_make_11 at h
  refine lv_iconst (v := 1) hx hb dX3_make_11 (by decide) ?_
  refine lv_goto (tgt := 16) hx hb dX3_make_12 (by decide) ?_
  exact w_X3_make_16 hC hR x0 x1 x2 x3 x5 (1 : Int32) _ _ _ hw (lv_sub hl [0, 1, 2, 3, 4] rfl) h
set_option maxHeartbeats 4000000 in
set_option maxRecDepth 100000 in
theorem w_X3_make_0 {r : Int64} (hC : Cx RX3 cX3_make 17 (some .long) p s m args meth c) (hR : 1 ≤ R.frames ∧ 27 ≤ R.locals) : ∀ (x0 : Int32) (x1 : Int32) (x2 : Int32) (x3 : Int64) (x5 : Int64) (H : Heap) (locs : List Loc) (ls : Array Slot), Wd G cA S D ad A s H locs → lv_has ls 17 [(0, .int x0), (1, .int x1), (2, .int x2), (3, .long x3), (5, .long x5)] → f_X3_make x0 x1 x2 x3 x5 = some r → W p l e R s m args below meth c H locs 0 0 (MQ below (Qn (some (.long r)) True (wpost G cA S D ad A) A) args s 0 0 A) (F0 m 0 ls []) := by
  obtain ⟨hx, hb, -⟩ := id hC
  intro x0 x1 x2 x3 x5 H locs ls hw hl h
  unfold f_X3_make at h
  refine lv_iload_n hx hb dX3_make_0 rfl (lv_at hl 0 rfl) ?_
  refine lv_iconst (v := 3) hx hb dX3_make_1 (by decide) ?_
  refine lv_icmp_eq (tgt := 11) hx hb dX3_make_2 (by decide) (fun c51 => ?_) (fun c51 => ?_)
  · have h := i_yes c51 h
    exact w_X3_make_11 hC hR x0 x1 x2 x3 x5 _ _ _ hw (lv_sub hl [0, 1, 2, 3, 4] rfl) h
  · have h := i_no c51 h
    refine lv_iload_n hx hb dX3_make_5 rfl (lv_at hl 0 rfl) ?_
    refine lv_bipush (v := 9) hx hb dX3_make_6 (by decide) ?_
    refine lv_icmp_ne (tgt := 15) hx hb dX3_make_8 (by decide) (fun c52 => ?_) (fun c52 => ?_)
    · have h := i_no c52 h
      refine lv_iconst (v := 0) hx hb dX3_make_15 (by decide) ?_
      exact w_X3_make_16 hC hR x0 x1 x2 x3 x5 (0 : Int32) _ _ _ hw (lv_sub hl [0, 1, 2, 3, 4] rfl) h
    · have h := i_yes c52 h
      exact w_X3_make_11 hC hR x0 x1 x2 x3 x5 _ _ _ hw (lv_sub hl [0, 1, 2, 3, 4] rfl) h
set_option maxHeartbeats 4000000 in
set_option maxRecDepth 100000 in
theorem k_X3_make {l : Launch} {G : va_G} {cA : Nat → ClassId} {S : sh} {D : dt} {ad : Nat → Nat} (sz : Nat) {x0 : Int32} {x1 : Int32} {x2 : Int32} {x3 : Int64} {x5 : Int64} {r : Int64}  (h : f_X3_make x0 x1 x2 x3 x5 = some r) : Co l yX3_make (Cond.code yX3_make cX3_make 17 (some .long) :: tb0) 1 27 [.int x0, .int x1, .int x2, .long x3, .long x5] G cA S D ad sz (some (.long r)) True D := by
  refine Met.ofW (cc := cX3_make) (maxL := 17) (ret := (some .long)) (by decide) rfl ?_
  intro p e s m args below meth c s₁ B hml hv
  obtain ⟨rfl, hsz, hP, hK, hD0, hT, hX⟩ := hv
  subst hsz
  have hts := atoms_spec (ws := Cond.code yX3_make cX3_make 17 (some .long) :: tb0) B.pre
  have hC : Cx RX3 cX3_make 17 (some .long) p s m _ meth c := ⟨B.exec, B.bytes, hml, findClass_of_methodNamed B.named, fun w q => hts w (List.mem_cons_of_mem _ q), B.returns, B.notSynchronized⟩
  have hw := Wd.entry hP hK hD0 hT hX
  have hl := lv_entry ([.int x0, .int x1, .int x2, .long x3, .long x5]) (n := 17) (Nat.le_of_ble_eq_true rfl)
  rw [lg_entry_eq]
  exact w_X3_make_0 hC ⟨Nat.le_refl _, Nat.le_refl _⟩ x0 x1 x2 x3 x5 _ _ _ hw hl h
set_option maxHeartbeats 4000000 in
set_option maxRecDepth 100000 in
theorem w_J7_fill_031fb_5 {r : Unit} {D' : dt} (hC : Cx RJ7 cJ7_fill_031fb 4 none p s m args meth c) (hR : 0 ≤ R.frames ∧ 0 ≤ R.locals) : ∀ (n : Nat), ∀ (o0 a0 : Nat) (x1 : Int32) (x2 : Int32) (x3 : Int32) (D : dt) (H : Heap) (locs : List Loc) (ls : Array Slot), Is S ad o0 a0 102 → Wd G cA S D ad A s H locs → lv_has ls 4 [(0, .ref a0), (1, .int x1), (2, .int x2), (3, .int x3)] → f_J7_fill_031fb_5 S n o0 x1 x2 x3 D = some (r, D') → W p l e R s m args below meth c H locs 0 0 (MQ below (Qn none True (wpost G cA S D' ad A) A) args s 0 0 A) (F0 m 5 ls []) := by
  obtain ⟨hx, hb, -⟩ := id hC
  intro n
  induction n with
  | zero =>
    intro o0 a0 x1 x2 x3 D H locs ls hi0 hw hl h
    rw [f_J7_fill_031fb_5.eq_1] at h
    cases h
  | succ n ih =>
    intro o0 a0 x1 x2 x3 D H locs ls hi0 hw hl h
    rw [f_J7_fill_031fb_5.eq_2] at h
    refine lv_iload_n hx hb dJ7_fill_031fb_5 rfl (lv_at hl 2 rfl) ?_
    refine lv_iload_n hx hb dJ7_fill_031fb_6 rfl (lv_at hl 3 rfl) ?_
    refine lv_icmp_ge (tgt := 20) hx hb dJ7_fill_031fb_7 (by decide) (fun c7 => ?_) (fun c7 => ?_)
    · have h := i_yes c7 h
      cases h
      exact r_vret hC hw dJ7_fill_031fb_20
    · have h := i_no c7 h
      refine lv_aload_n hx hb dJ7_fill_031fb_10 rfl (lv_at hl 0 rfl) ?_
      refine lv_iload_n hx hb dJ7_fill_031fb_11 rfl (lv_at hl 2 rfl) ?_
      refine lv_iload_n hx hb dJ7_fill_031fb_12 rfl (lv_at hl 1 rfl) ?_
      obtain ⟨hn8, h⟩ := ix_i h
      refine r_bas hC hw hi0 hn8 dJ7_fill_031fb_13 (fun D9 eD9 H locs hw => ?_)
      have h := nm_i h D9 eD9
      obtain ⟨y10, ey10⟩ : ∃ z : Int32, z = x2 + 1 := ⟨_, rfl⟩
      have h := nm_i h y10 ey10
      refine lv_iinc (v := y10) (lv' := [(2, .int y10), (0, .ref a0), (1, .int x1), (3, .int x3)]) hx hb dJ7_fill_031fb_14 hl (k := 2) rfl (by rw [ey10]; rfl) (by decide) rfl (fun ls hl => ?_)
      refine lv_goto (tgt := 5) hx hb dJ7_fill_031fb_17 (by decide) ?_
      exact ih o0 a0 x1 y10 x3 _ _ _ _ hi0 hw (lv_sub hl [1, 2, 0, 3] rfl) h
set_option maxHeartbeats 4000000 in
set_option maxRecDepth 100000 in
theorem w_J7_fill_031fb_0 {r : Unit} {D' : dt} (hC : Cx RJ7 cJ7_fill_031fb 4 none p s m args meth c) (hR : 0 ≤ R.frames ∧ 0 ≤ R.locals) : ∀ (o0 a0 : Nat) (x1 : Int32) (D : dt) (H : Heap) (locs : List Loc) (ls : Array Slot), Is S ad o0 a0 102 → Wd G cA S D ad A s H locs → lv_has ls 4 [(0, .ref a0), (1, .int x1)] → f_J7_fill_031fb S o0 x1 D = some (r, D') → W p l e R s m args below meth c H locs 0 0 (MQ below (Qn none True (wpost G cA S D' ad A) A) args s 0 0 A) (F0 m 0 ls []) := by
  obtain ⟨hx, hb, -⟩ := id hC
  intro o0 a0 x1 D H locs ls hi0 hw hl h
  unfold f_J7_fill_031fb at h
  refine lv_iconst (v := 0) hx hb dJ7_fill_031fb_0 (by decide) ?_
  refine lv_topi (fun y11 ey11 => ?_)
  have h := nm_i h y11 ey11
  refine lv_istore_n (lv' := [(2, .int y11), (0, .ref a0), (1, .int x1)]) hx hb dJ7_fill_031fb_1 rfl hl (by decide) rfl (fun ls hl => ?_)
  refine lv_aload_n hx hb dJ7_fill_031fb_2 rfl (lv_at hl 1 rfl) ?_
  refine r_alen hC hw hi0 (by decide) 2 rfl dJ7_fill_031fb_3 ?_
  refine lv_topi (fun y12 ey12 => ?_)
  have h := nm_i h y12 ey12
  refine lv_istore_n (lv' := [(3, .int y12), (2, .int y11), (0, .ref a0), (1, .int x1)]) hx hb dJ7_fill_031fb_4 rfl hl (by decide) rfl (fun ls hl => ?_)
  exact w_J7_fill_031fb_5 hC hR LF o0 a0 x1 y11 y12 _ _ _ _ hi0 hw (lv_sub hl [2, 3, 1, 0] rfl) h
set_option maxHeartbeats 4000000 in
set_option maxRecDepth 100000 in
theorem k_J7_fill_031fb {l : Launch} {G : va_G} {cA : Nat → ClassId} {S : sh} {D D' : dt} {ad : Nat → Nat} (sz : Nat) {o0 a0 : Nat} {x1 : Int32} {r : Unit} (hi0 : Is S ad o0 a0 102) (h : f_J7_fill_031fb S o0 x1 D = some (r, D')) : Co l yJ7_fill_031fb (Cond.code yJ7_fill_031fb cJ7_fill_031fb 4 none :: tb0) 0 0 [.ref a0, .int x1] G cA S D ad sz none True D' := by
  refine Met.ofW (cc := cJ7_fill_031fb) (maxL := 4) (ret := none) (by decide) rfl ?_
  intro p e s m args below meth c s₁ B hml hv
  obtain ⟨rfl, hsz, hP, hK, hD0, hT, hX⟩ := hv
  subst hsz
  have hts := atoms_spec (ws := Cond.code yJ7_fill_031fb cJ7_fill_031fb 4 none :: tb0) B.pre
  have hC : Cx RJ7 cJ7_fill_031fb 4 none p s m _ meth c := ⟨B.exec, B.bytes, hml, findClass_of_methodNamed B.named, fun w q => hts w (List.mem_cons_of_mem _ q), B.returns, B.notSynchronized⟩
  have hw := Wd.entry hP hK hD0 hT hX
  have hl := lv_entry ([.ref a0, .int x1]) (n := 4) (Nat.le_of_ble_eq_true rfl)
  rw [lg_entry_eq]
  exact w_J7_fill_031fb_0 hC ⟨Nat.le_refl _, Nat.le_refl _⟩ o0 a0 x1 D _ _ _ hi0 hw hl h
set_option maxHeartbeats 4000000 in
set_option maxRecDepth 100000 in
theorem w_J9_floorMod_7cf53_0 {r : Int32} (hC : Cx RJ9 cJ9_floorMod_7cf53 3 (some .int) p s m args meth c) (hR : 0 ≤ R.frames ∧ 0 ≤ R.locals) : ∀ (x0 : Int32) (x1 : Int32) (H : Heap) (locs : List Loc) (ls : Array Slot), Wd G cA S D ad A s H locs → lv_has ls 3 [(0, .int x0), (1, .int x1)] → f_J9_floorMod_7cf53 x0 x1 = some r → W p l e R s m args below meth c H locs 0 0 (MQ below (Qn (some (.int r)) True (wpost G cA S D ad A) A) args s 0 0 A) (F0 m 0 ls []) := by
  obtain ⟨hx, hb, -⟩ := id hC
  intro x0 x1 H locs ls hw hl h
  unfold f_J9_floorMod_7cf53 at h
  refine lv_iload_n hx hb dJ9_floorMod_7cf53_0 rfl (lv_at hl 0 rfl) ?_
  refine lv_iload_n hx hb dJ9_floorMod_7cf53_1 rfl (lv_at hl 1 rfl) ?_
  obtain ⟨hz5, h⟩ := ck_i h
  refine lv_irem hx hb dJ9_floorMod_7cf53_2 hz5 ?_
  refine lv_topi (fun y6 ey6 => ?_)
  have h := nm_i h y6 ey6
  refine lv_istore_n (lv' := [(2, .int y6), (0, .int x0), (1, .int x1)]) hx hb dJ9_floorMod_7cf53_3 rfl hl (by decide) rfl (fun ls hl => ?_)
  refine lv_iload_n hx hb dJ9_floorMod_7cf53_4 rfl (lv_at hl 1 rfl) ?_
  refine lv_iload_n hx hb dJ9_floorMod_7cf53_5 rfl (lv_at hl 2 rfl) ?_
  refine lv_ixor hx hb dJ9_floorMod_7cf53_6 ?_
  refine lv_if_ge (tgt := 18) hx hb dJ9_floorMod_7cf53_7 (by decide) (fun c7 => ?_) (fun c7 => ?_)
  · have h := i_yes c7 h
    refine lv_iload_n hx hb dJ9_floorMod_7cf53_18 rfl (lv_at hl 0 rfl) ?_
    cases h
    exact r_iret hC hw dJ9_floorMod_7cf53_19
  · have h := i_no c7 h
    refine lv_iload_n hx hb dJ9_floorMod_7cf53_10 rfl (lv_at hl 0 rfl) ?_
    refine lv_if_eq (tgt := 18) hx hb dJ9_floorMod_7cf53_11 (by decide) (fun c8 => ?_) (fun c8 => ?_)
    · have h := i_yes c8 h
      refine lv_iload_n hx hb dJ9_floorMod_7cf53_18 rfl (lv_at hl 0 rfl) ?_
      cases h
      exact r_iret hC hw dJ9_floorMod_7cf53_19
    · have h := i_no c8 h
      refine lv_iload_n hx hb dJ9_floorMod_7cf53_14 rfl (lv_at hl 0 rfl) ?_
      refine lv_iload_n hx hb dJ9_floorMod_7cf53_15 rfl (lv_at hl 2 rfl) ?_
      refine lv_iadd hx hb dJ9_floorMod_7cf53_16 ?_
      cases h
      exact r_iret hC hw dJ9_floorMod_7cf53_17
set_option maxHeartbeats 4000000 in
set_option maxRecDepth 100000 in
theorem k_J9_floorMod_7cf53 {l : Launch} {G : va_G} {cA : Nat → ClassId} {S : sh} {D : dt} {ad : Nat → Nat} (sz : Nat) {x0 : Int32} {x1 : Int32} {r : Int32}  (h : f_J9_floorMod_7cf53 x0 x1 = some r) : Co l yJ9_floorMod_7cf53 (Cond.code yJ9_floorMod_7cf53 cJ9_floorMod_7cf53 3 (some .int) :: tb0) 0 0 [.int x0, .int x1] G cA S D ad sz (some (.int r)) True D := by
  refine Met.ofWF (cc := cJ9_floorMod_7cf53) (maxL := 3) (ret := (some .int)) (by decide +kernel) rfl ?_
  intro p e s m args below meth c s₁ B hml hv
  obtain ⟨rfl, hsz, hP, hK, hD0, hT, hX⟩ := hv
  subst hsz
  have hts := atoms_spec (ws := Cond.code yJ9_floorMod_7cf53 cJ9_floorMod_7cf53 3 (some .int) :: tb0) B.pre
  have hC : Cx RJ9 cJ9_floorMod_7cf53 3 (some .int) p s m _ meth c := ⟨B.exec, B.bytes, hml, findClass_of_methodNamed B.named, fun w q => hts w (List.mem_cons_of_mem _ q), B.returns, B.notSynchronized⟩
  have hw := Wd.entry hP hK hD0 hT hX
  have hl := lv_entry ([.int x0, .int x1]) (n := 3) (Nat.le_of_ble_eq_true rfl)
  rw [lg_entry_eq]
  exact w_J9_floorMod_7cf53_0 hC ⟨Nat.le_refl _, Nat.le_refl _⟩ x0 x1 _ _ _ hw hl h
set_option maxHeartbeats 4000000 in
set_option maxRecDepth 100000 in
theorem w_X3_holdsSigned_0 {r : Int32} (hC : Cx RX3 cX3_holdsSigned 5 (some .boolean) p s m args meth c) (hR : 0 ≤ R.frames ∧ 0 ≤ R.locals) : ∀ (x0 : Int32) (x1 : Int64) (x3 : Int64) (H : Heap) (locs : List Loc) (ls : Array Slot), Wd G cA S D ad A s H locs → lv_has ls 5 [(0, .int x0), (1, .long x1), (3, .long x3)] → f_X3_holdsSigned x0 x1 x3 = some r → W p l e R s m args below meth c H locs 0 0 (MQ below (Qn (some (.int r)) True (wpost G cA S D ad A) A) args s 0 0 A) (F0 m 0 ls []) := by
  obtain ⟨hx, hb, -⟩ := id hC
  intro x0 x1 x3 H locs ls hw hl h
  unfold f_X3_holdsSigned at h
  refine lv_iload_n hx hb dX3_holdsSigned_0 rfl (lv_at hl 0 rfl) ?_
  by_cases c8 : x0 = 6
  · have h := i_yes c8 h
    refine lv_lookup (off := 35) (tgt := 36) hx hb dX3_holdsSigned_1 (by decide) (by rw [c8] <;> rfl) (by decide) ?_
    refine lv_lload_n hx hb dX3_holdsSigned_36 rfl (lv_at hl 1 rfl) ?_
    refine lv_lload_n hx hb dX3_holdsSigned_37 rfl (lv_at hl 2 rfl) ?_
    refine W.lcmp hx hb dX3_holdsSigned_38 ?_
    refine lv_if_le (tgt := 46) hx hb dX3_holdsSigned_39 (by decide) (fun c9 => ?_) (fun c9 => ?_)
    · have h := i_yes c9 h
      refine lv_iconst (v := 0) hx hb dX3_holdsSigned_46 (by decide) ?_
      cases h
      exact r_zret hC hw (Or.inl rfl) dX3_holdsSigned_47
    · have h := i_no c9 h
      refine lv_iconst (v := 1) hx hb dX3_holdsSigned_42 (by decide) ?_
      refine lv_goto (tgt := 47) hx hb dX3_holdsSigned_43 (by decide) ?_
      cases h
      exact r_zret hC hw (Or.inr rfl) dX3_holdsSigned_47
  have h := i_no c8 h
  by_cases c10 : x0 = 7
  · have h := i_yes c10 h
    refine lv_lookup (off := 47) (tgt := 48) hx hb dX3_holdsSigned_1 (by decide) (by rw [c10] <;> rfl) (by decide) ?_
    refine lv_lload_n hx hb dX3_holdsSigned_48 rfl (lv_at hl 1 rfl) ?_
    refine lv_lload_n hx hb dX3_holdsSigned_49 rfl (lv_at hl 2 rfl) ?_
    refine W.lcmp hx hb dX3_holdsSigned_50 ?_
    refine lv_if_lt (tgt := 58) hx hb dX3_holdsSigned_51 (by decide) (fun c11 => ?_) (fun c11 => ?_)
    · have h := i_yes c11 h
      refine lv_iconst (v := 0) hx hb dX3_holdsSigned_58 (by decide) ?_
      cases h
      exact r_zret hC hw (Or.inl rfl) dX3_holdsSigned_59
    · have h := i_no c11 h
      refine lv_iconst (v := 1) hx hb dX3_holdsSigned_54 (by decide) ?_
      refine lv_goto (tgt := 59) hx hb dX3_holdsSigned_55 (by decide) ?_
      cases h
      exact r_zret hC hw (Or.inr rfl) dX3_holdsSigned_59
  have h := i_no c10 h
  by_cases c12 : x0 = 12
  · have h := i_yes c12 h
    refine lv_lookup (off := 59) (tgt := 60) hx hb dX3_holdsSigned_1 (by decide) (by rw [c12] <;> rfl) (by decide) ?_
    refine lv_lload_n hx hb dX3_holdsSigned_60 rfl (lv_at hl 1 rfl) ?_
    refine lv_lload_n hx hb dX3_holdsSigned_61 rfl (lv_at hl 2 rfl) ?_
    refine W.lcmp hx hb dX3_holdsSigned_62 ?_
    refine lv_if_ge (tgt := 70) hx hb dX3_holdsSigned_63 (by decide) (fun c13 => ?_) (fun c13 => ?_)
    · have h := i_yes c13 h
      refine lv_iconst (v := 0) hx hb dX3_holdsSigned_70 (by decide) ?_
      cases h
      exact r_zret hC hw (Or.inl rfl) dX3_holdsSigned_71
    · have h := i_no c13 h
      refine lv_iconst (v := 1) hx hb dX3_holdsSigned_66 (by decide) ?_
      refine lv_goto (tgt := 71) hx hb dX3_holdsSigned_67 (by decide) ?_
      cases h
      exact r_zret hC hw (Or.inr rfl) dX3_holdsSigned_71
  have h := i_no c12 h
  refine lv_lookup (off := 71) (tgt := 72) hx hb dX3_holdsSigned_1 (by decide) ((lv_osw c8 rfl).trans ((lv_osw c10 rfl).trans ((lv_osw c12 rfl).trans (rfl)))) (by decide) ?_
  refine lv_lload_n hx hb dX3_holdsSigned_72 rfl (lv_at hl 1 rfl) ?_
  refine lv_lload_n hx hb dX3_holdsSigned_73 rfl (lv_at hl 2 rfl) ?_
  refine W.lcmp hx hb dX3_holdsSigned_74 ?_
  refine lv_if_gt (tgt := 82) hx hb dX3_holdsSigned_75 (by decide) (fun c14 => ?_) (fun c14 => ?_)
  · have h := i_yes c14 h
    refine lv_iconst (v := 0) hx hb dX3_holdsSigned_82 (by decide) ?_
    cases h
    exact r_zret hC hw (Or.inl rfl) dX3_holdsSigned_83
  · have h := i_no c14 h
    refine lv_iconst (v := 1) hx hb dX3_holdsSigned_78 (by decide) ?_
    refine lv_goto (tgt := 83) hx hb dX3_holdsSigned_79 (by decide) ?_
    cases h
    exact r_zret hC hw (Or.inr rfl) dX3_holdsSigned_83
set_option maxHeartbeats 4000000 in
set_option maxRecDepth 100000 in
theorem k_X3_holdsSigned {l : Launch} {G : va_G} {cA : Nat → ClassId} {S : sh} {D : dt} {ad : Nat → Nat} (sz : Nat) {x0 : Int32} {x1 : Int64} {x3 : Int64} {r : Int32}  (h : f_X3_holdsSigned x0 x1 x3 = some r) : Co l yX3_holdsSigned (Cond.code yX3_holdsSigned cX3_holdsSigned 5 (some .boolean) :: tb0) 0 0 [.int x0, .long x1, .long x3] G cA S D ad sz (some (.int r)) True D := by
  refine Met.ofW (cc := cX3_holdsSigned) (maxL := 5) (ret := (some .boolean)) (by decide) rfl ?_
  intro p e s m args below meth c s₁ B hml hv
  obtain ⟨rfl, hsz, hP, hK, hD0, hT, hX⟩ := hv
  subst hsz
  have hts := atoms_spec (ws := Cond.code yX3_holdsSigned cX3_holdsSigned 5 (some .boolean) :: tb0) B.pre
  have hC : Cx RX3 cX3_holdsSigned 5 (some .boolean) p s m _ meth c := ⟨B.exec, B.bytes, hml, findClass_of_methodNamed B.named, fun w q => hts w (List.mem_cons_of_mem _ q), B.returns, B.notSynchronized⟩
  have hw := Wd.entry hP hK hD0 hT hX
  have hl := lv_entry ([.int x0, .long x1, .long x3]) (n := 5) (Nat.le_of_ble_eq_true rfl)
  rw [lg_entry_eq]
  exact w_X3_holdsSigned_0 hC ⟨Nat.le_refl _, Nat.le_refl _⟩ x0 x1 x3 _ _ _ hw hl h
set_option maxHeartbeats 4000000 in
set_option maxRecDepth 100000 in
theorem w_X3_holds_184 {r : Int32} (hC : Cx RX3 cX3_holds 10 (some .boolean) p s m args meth c) (hR : 1 ≤ R.frames ∧ 24 ≤ R.locals) : ∀ (x0 : Int32) (x1 : Int32) (x6 : Int64) (x8 : Int64) (H : Heap) (locs : List Loc) (ls : Array Slot), Wd G cA S D ad A s H locs → lv_has ls 10 [(0, .int x0), (1, .int x1), (6, .long x6), (8, .long x8)] → f_X3_holds_184 x0 x1 x6 x8 = some r → W p l e R s m args below meth c H locs 0 0 (MQ below (Qn (some (.int r)) True (wpost G cA S D ad A) A) args s 0 0 A) (F0 m 184 ls []) := by
  obtain ⟨hx, hb, -⟩ := id hC
  intro x0 x1 x6 x8 H locs ls hw hl h
  unfold f_X3_holds_184 at h
  refine lv_iload_n hx hb dX3_holds_184 rfl (lv_at hl 1 rfl) ?_
  refine lv_if_eq (tgt := 199) hx hb dX3_holds_185 (by decide) (fun c36 => ?_) (fun c36 => ?_)
  · have h := i_yes c36 h
    refine lv_iload_n hx hb dX3_holds_199 rfl (lv_at hl 0 rfl) ?_
    refine lv_lload hx hb dX3_holds_200 (lv_at hl 2 rfl) ?_
    refine lv_l2i (v := x6.toInt32) hx hb dX3_holds_202 rfl ?_
    refine lv_i2l (v := x6.toInt32.toInt64) hx hb dX3_holds_203 rfl ?_
    refine lv_lload hx hb dX3_holds_204 (lv_at hl 3 rfl) ?_
    refine lv_l2i (v := x8.toInt32) hx hb dX3_holds_206 rfl ?_
    refine lv_i2l (v := x8.toInt32.toInt64) hx hb dX3_holds_207 rfl ?_
    obtain ⟨r38, hq37, h⟩ := pq_i h
    refine r_cS (st' := [.int r38]) [.int x0, .long x6.toInt32.toInt64, .long x8.toInt32.toInt64] [] hC hw (k_X3_holdsSigned _ hq37) mk_X3_holdsSigned lk_1023 ⟨Nat.le_trans (by decide) hR.1, Nat.le_trans (by decide) hR.2⟩ ⟨Nat.zero_le _, Nat.zero_le _⟩ rfl hl.1 rfl rfl (Nat.le_of_ble_eq_true rfl) dX3_holds_208 (fun hP H locs hw => ?_)
    obtain ⟨hz39, h⟩ := ck_i h
    cases h
    exact r_zret hC hw hz39 dX3_holds_211
  · have h := i_no c36 h
    refine lv_iload_n hx hb dX3_holds_188 rfl (lv_at hl 0 rfl) ?_
    refine lv_lload hx hb dX3_holds_189 (lv_at hl 2 rfl) ?_
    refine lv_lload hx hb dX3_holds_191 (lv_at hl 3 rfl) ?_
    obtain ⟨r41, hq40, h⟩ := pq_i h
    refine r_cS (st' := [.int r41]) [.int x0, .long x6, .long x8] [] hC hw (k_X3_holdsSigned _ hq40) mk_X3_holdsSigned lk_1023 ⟨Nat.le_trans (by decide) hR.1, Nat.le_trans (by decide) hR.2⟩ ⟨Nat.zero_le _, Nat.zero_le _⟩ rfl hl.1 rfl rfl (Nat.le_of_ble_eq_true rfl) dX3_holds_193 (fun hP H locs hw => ?_)
    refine lv_goto (tgt := 211) hx hb dX3_holds_196 (by decide) ?_
    obtain ⟨hz42, h⟩ := ck_i h
    cases h
    exact r_zret hC hw hz42 dX3_holds_211
set_option maxHeartbeats 4000000 in
set_option maxRecDepth 100000 in
theorem w_X3_holds_30 {r : Int32} (hC : Cx RX3 cX3_holds 10 (some .boolean) p s m args meth c) (hR : 1 ≤ R.frames ∧ 24 ≤ R.locals) : ∀ (x0 : Int32) (x1 : Int32) (x6 : Int64) (xs0 : Int64) (H : Heap) (locs : List Loc) (ls : Array Slot), Wd G cA S D ad A s H locs → lv_has ls 10 [(0, .int x0), (1, .int x1), (6, .long x6)] → f_X3_holds_30 x0 x1 x6 xs0 = some r → W p l e R s m args below meth c H locs 0 0 (MQ below (Qn (some (.int r)) True (wpost G cA S D ad A) A) args s 0 0 A) (F0 m 30 ls [.long xs0]) := by
  obtain ⟨hx, hb, -⟩ := id hC
  intro x0 x1 x6 xs0 H locs ls hw hl h
  unfold f_X3_holds_30 at h
  refine lv_lstore (lv' := [(8, .long xs0), (0, .int x0), (1, .int x1), (6, .long x6)]) hx hb dX3_holds_30 hl (by decide) rfl (fun ls hl => ?_)
  refine lv_iload_n hx hb dX3_holds_32 rfl (lv_at hl 1 rfl) ?_
  by_cases c43 : x0 = 1
  · have h := i_yes c43 h
    refine lv_tableIn (off := 59) (tgt := 92) hx hb dX3_holds_33 (by rw [c43]; decide) (by rw [c43]; decide) (by rw [c43] <;> rfl) (by decide) ?_
    refine lv_lload hx hb dX3_holds_92 (lv_at hl 3 rfl) ?_
    refine lv_lload hx hb dX3_holds_94 (lv_at hl 0 rfl) ?_
    refine W.lcmp hx hb dX3_holds_96 ?_
    refine lv_if_ne (tgt := 104) hx hb dX3_holds_97 (by decide) (fun c44 => ?_) (fun c44 => ?_)
    · have h := i_no c44 h
      refine lv_iconst (v := 0) hx hb dX3_holds_104 (by decide) ?_
      cases h
      exact r_zret hC hw (Or.inl rfl) dX3_holds_105
    · have h := i_yes c44 h
      refine lv_iconst (v := 1) hx hb dX3_holds_100 (by decide) ?_
      refine lv_goto (tgt := 105) hx hb dX3_holds_101 (by decide) ?_
      cases h
      exact r_zret hC hw (Or.inr rfl) dX3_holds_105
  have h := i_no c43 h
  by_cases c45 : x0 = 2
  · have h := i_yes c45 h
    refine lv_tableIn (off := 87) (tgt := 120) hx hb dX3_holds_33 (by rw [c45]; decide) (by rw [c45]; decide) (by rw [c45] <;> rfl) (by decide) ?_
    refine lv_lload hx hb dX3_holds_120 (lv_at hl 0 rfl) ?_
    refine lv_lload hx hb dX3_holds_122 (lv_at hl 3 rfl) ?_
    obtain ⟨r47, hq46, h⟩ := pq_i h
    refine r_cS (st' := [.int r47]) [.long xs0, .long x6] [] hC hw (k_X3_below _ hq46) mk_X3_below lk_1022 ⟨Nat.le_trans (by decide) hR.1, Nat.le_trans (by decide) hR.2⟩ ⟨Nat.zero_le _, Nat.zero_le _⟩ rfl hl.1 rfl rfl (Nat.le_of_ble_eq_true rfl) dX3_holds_124 (fun hP H locs hw => ?_)
    obtain ⟨hz48, h⟩ := ck_i h
    cases h
    exact r_zret hC hw hz48 dX3_holds_127
  have h := i_no c45 h
  by_cases c49 : x0 = 3
  · have h := i_yes c49 h
    refine lv_tableIn (off := 95) (tgt := 128) hx hb dX3_holds_33 (by rw [c49]; decide) (by rw [c49]; decide) (by rw [c49] <;> rfl) (by decide) ?_
    refine lv_lload hx hb dX3_holds_128 (lv_at hl 3 rfl) ?_
    refine lv_lload hx hb dX3_holds_130 (lv_at hl 0 rfl) ?_
    obtain ⟨r51, hq50, h⟩ := pq_i h
    refine r_cS (st' := [.int r51]) [.long x6, .long xs0] [] hC hw (k_X3_below _ hq50) mk_X3_below lk_1022 ⟨Nat.le_trans (by decide) hR.1, Nat.le_trans (by decide) hR.2⟩ ⟨Nat.zero_le _, Nat.zero_le _⟩ rfl hl.1 rfl rfl (Nat.le_of_ble_eq_true rfl) dX3_holds_132 (fun hP H locs hw => ?_)
    refine lv_if_ne (tgt := 142) hx hb dX3_holds_135 (by decide) (fun c52 => ?_) (fun c52 => ?_)
    · have h := i_no c52 h
      refine lv_iconst (v := 0) hx hb dX3_holds_142 (by decide) ?_
      cases h
      exact r_zret hC hw (Or.inl rfl) dX3_holds_143
    · have h := i_yes c52 h
      refine lv_iconst (v := 1) hx hb dX3_holds_138 (by decide) ?_
      refine lv_goto (tgt := 143) hx hb dX3_holds_139 (by decide) ?_
      cases h
      exact r_zret hC hw (Or.inr rfl) dX3_holds_143
  have h := i_no c49 h
  by_cases c53 : x0 = 4
  · have h := i_yes c53 h
    refine lv_tableIn (off := 135) (tgt := 168) hx hb dX3_holds_33 (by rw [c53]; decide) (by rw [c53]; decide) (by rw [c53] <;> rfl) (by decide) ?_
    refine lv_lload hx hb dX3_holds_168 (lv_at hl 3 rfl) ?_
    refine lv_lload hx hb dX3_holds_170 (lv_at hl 0 rfl) ?_
    refine lv_land hx hb dX3_holds_172 ?_
    refine lv_lconst (v := 0) hx hb dX3_holds_173 (by decide) ?_
    refine W.lcmp hx hb dX3_holds_174 ?_
    refine lv_if_eq (tgt := 182) hx hb dX3_holds_175 (by decide) (fun c54 => ?_) (fun c54 => ?_)
    · have h := i_yes c54 h
      refine lv_iconst (v := 0) hx hb dX3_holds_182 (by decide) ?_
      cases h
      exact r_zret hC hw (Or.inl rfl) dX3_holds_183
    · have h := i_no c54 h
      refine lv_iconst (v := 1) hx hb dX3_holds_178 (by decide) ?_
      refine lv_goto (tgt := 183) hx hb dX3_holds_179 (by decide) ?_
      cases h
      exact r_zret hC hw (Or.inr rfl) dX3_holds_183
  have h := i_no c53 h
  by_cases c55 : x0 = 5
  · have h := i_yes c55 h
    refine lv_tableIn (off := 73) (tgt := 106) hx hb dX3_holds_33 (by rw [c55]; decide) (by rw [c55]; decide) (by rw [c55] <;> rfl) (by decide) ?_
    refine lv_lload hx hb dX3_holds_106 (lv_at hl 3 rfl) ?_
    refine lv_lload hx hb dX3_holds_108 (lv_at hl 0 rfl) ?_
    refine W.lcmp hx hb dX3_holds_110 ?_
    refine lv_if_eq (tgt := 118) hx hb dX3_holds_111 (by decide) (fun c56 => ?_) (fun c56 => ?_)
    · have h := i_yes c56 h
      refine lv_iconst (v := 0) hx hb dX3_holds_118 (by decide) ?_
      cases h
      exact r_zret hC hw (Or.inl rfl) dX3_holds_119
    · have h := i_no c56 h
      refine lv_iconst (v := 1) hx hb dX3_holds_114 (by decide) ?_
      refine lv_goto (tgt := 119) hx hb dX3_holds_115 (by decide) ?_
      cases h
      exact r_zret hC hw (Or.inr rfl) dX3_holds_119
  have h := i_no c55 h
  by_cases c57 : x0 = 6
  · have h := i_yes c57 h
    refine lv_tableIn (off := 151) (tgt := 184) hx hb dX3_holds_33 (by rw [c57]; decide) (by rw [c57]; decide) (by rw [c57] <;> rfl) (by decide) ?_
    exact w_X3_holds_184 hC hR x0 x1 x6 xs0 _ _ _ hw (lv_sub hl [1, 2, 3, 0] rfl) h
  have h := i_no c57 h
  by_cases c58 : x0 = 7
  · have h := i_yes c58 h
    refine lv_tableIn (off := 151) (tgt := 184) hx hb dX3_holds_33 (by rw [c58]; decide) (by rw [c58]; decide) (by rw [c58] <;> rfl) (by decide) ?_
    exact w_X3_holds_184 hC hR x0 x1 x6 xs0 _ _ _ hw (lv_sub hl [1, 2, 3, 0] rfl) h
  have h := i_no c58 h
  by_cases c59 : x0 = 8
  · have h := i_yes c59 h
    refine lv_tableIn (off := 151) (tgt := 184) hx hb dX3_holds_33 (by rw [c59]; decide) (by rw [c59]; decide) (by rw [c59] <;> rfl) (by decide) ?_
    exact w_X3_holds_184 hC hR x0 x1 x6 xs0 _ _ _ hw (lv_sub hl [1, 2, 3, 0] rfl) h
  have h := i_no c59 h
  by_cases c60 : x0 = 9
  · have h := i_yes c60 h
    refine lv_tableIn (off := 151) (tgt := 184) hx hb dX3_holds_33 (by rw [c60]; decide) (by rw [c60]; decide) (by rw [c60] <;> rfl) (by decide) ?_
    exact w_X3_holds_184 hC hR x0 x1 x6 xs0 _ _ _ hw (lv_sub hl [1, 2, 3, 0] rfl) h
  have h := i_no c60 h
  by_cases c61 : x0 = 10
  · have h := i_yes c61 h
    refine lv_tableIn (off := 111) (tgt := 144) hx hb dX3_holds_33 (by rw [c61]; decide) (by rw [c61]; decide) (by rw [c61] <;> rfl) (by decide) ?_
    refine lv_lload hx hb dX3_holds_144 (lv_at hl 3 rfl) ?_
    refine lv_lload hx hb dX3_holds_146 (lv_at hl 0 rfl) ?_
    obtain ⟨r63, hq62, h⟩ := pq_i h
    refine r_cS (st' := [.int r63]) [.long x6, .long xs0] [] hC hw (k_X3_below _ hq62) mk_X3_below lk_1022 ⟨Nat.le_trans (by decide) hR.1, Nat.le_trans (by decide) hR.2⟩ ⟨Nat.zero_le _, Nat.zero_le _⟩ rfl hl.1 rfl rfl (Nat.le_of_ble_eq_true rfl) dX3_holds_148 (fun hP H locs hw => ?_)
    obtain ⟨hz64, h⟩ := ck_i h
    cases h
    exact r_zret hC hw hz64 dX3_holds_151
  have h := i_no c61 h
  by_cases c65 : x0 = 11
  · have h := i_yes c65 h
    refine lv_tableIn (off := 119) (tgt := 152) hx hb dX3_holds_33 (by rw [c65]; decide) (by rw [c65]; decide) (by rw [c65] <;> rfl) (by decide) ?_
    refine lv_lload hx hb dX3_holds_152 (lv_at hl 0 rfl) ?_
    refine lv_lload hx hb dX3_holds_154 (lv_at hl 3 rfl) ?_
    obtain ⟨r67, hq66, h⟩ := pq_i h
    refine r_cS (st' := [.int r67]) [.long xs0, .long x6] [] hC hw (k_X3_below _ hq66) mk_X3_below lk_1022 ⟨Nat.le_trans (by decide) hR.1, Nat.le_trans (by decide) hR.2⟩ ⟨Nat.zero_le _, Nat.zero_le _⟩ rfl hl.1 rfl rfl (Nat.le_of_ble_eq_true rfl) dX3_holds_156 (fun hP H locs hw => ?_)
    refine lv_if_ne (tgt := 166) hx hb dX3_holds_159 (by decide) (fun c68 => ?_) (fun c68 => ?_)
    · have h := i_no c68 h
      refine lv_iconst (v := 0) hx hb dX3_holds_166 (by decide) ?_
      cases h
      exact r_zret hC hw (Or.inl rfl) dX3_holds_167
    · have h := i_yes c68 h
      refine lv_iconst (v := 1) hx hb dX3_holds_162 (by decide) ?_
      refine lv_goto (tgt := 167) hx hb dX3_holds_163 (by decide) ?_
      cases h
      exact r_zret hC hw (Or.inr rfl) dX3_holds_167
  have h := i_no c65 h
  refine lv_tableOut (tgt := 184) hx hb dX3_holds_33 (by have nc43 := lv_neT c43 (a := 1) rfl; have nc45 := lv_neT c45 (a := 2) rfl; have nc49 := lv_neT c49 (a := 3) rfl; have nc53 := lv_neT c53 (a := 4) rfl; have nc55 := lv_neT c55 (a := 5) rfl; have nc57 := lv_neT c57 (a := 6) rfl; have nc58 := lv_neT c58 (a := 7) rfl; have nc59 := lv_neT c59 (a := 8) rfl; have nc60 := lv_neT c60 (a := 9) rfl; have nc61 := lv_neT c61 (a := 10) rfl; have nc65 := lv_neT c65 (a := 11) rfl; omega) (by decide) ?_
  exact w_X3_holds_184 hC hR x0 x1 x6 xs0 _ _ _ hw (lv_sub hl [1, 2, 3, 0] rfl) h
set_option maxHeartbeats 4000000 in
set_option maxRecDepth 100000 in
theorem w_X3_holds_13 {r : Int32} (hC : Cx RX3 cX3_holds 10 (some .boolean) p s m args meth c) (hR : 1 ≤ R.frames ∧ 24 ≤ R.locals) : ∀ (x0 : Int32) (x1 : Int32) (x4 : Int64) (xs0 : Int64) (H : Heap) (locs : List Loc) (ls : Array Slot), Wd G cA S D ad A s H locs → lv_has ls 10 [(0, .int x0), (1, .int x1), (4, .long x4)] → f_X3_holds_13 x0 x1 x4 xs0 = some r → W p l e R s m args below meth c H locs 0 0 (MQ below (Qn (some (.int r)) True (wpost G cA S D ad A) A) args s 0 0 A) (F0 m 13 ls [.long xs0]) := by
  obtain ⟨hx, hb, -⟩ := id hC
  intro x0 x1 x4 xs0 H locs ls hw hl h
  unfold f_X3_holds_13 at h
  refine lv_lstore (lv' := [(6, .long xs0), (0, .int x0), (1, .int x1), (4, .long x4)]) hx hb dX3_holds_13 hl (by decide) rfl (fun ls hl => ?_)
  refine lv_iload_n hx hb dX3_holds_15 rfl (lv_at hl 2 rfl) ?_
  refine lv_if_eq (tgt := 24) hx hb dX3_holds_16 (by decide) (fun c69 => ?_) (fun c69 => ?_)
  · have h := i_yes c69 h
    refine lv_lload hx hb dX3_holds_24 (lv_at hl 3 rfl) ?_
    refine lv_ldc2 (v := 4294967295) hx hb hC.2.2.2.1 (hC.2.2.2.2.1 _ lk_720) dX3_holds_26 ?_
    refine lv_land hx hb dX3_holds_29 ?_
    exact w_X3_holds_30 hC hR x0 x1 xs0 (x4 &&& (4294967295 : Int64)) _ _ _ hw (lv_sub hl [1, 2, 0] rfl) h
  · have h := i_no c69 h
    refine lv_lload hx hb dX3_holds_19 (lv_at hl 3 rfl) ?_
    refine lv_goto (tgt := 30) hx hb dX3_holds_21 (by decide) ?_
    exact w_X3_holds_30 hC hR x0 x1 xs0 x4 _ _ _ hw (lv_sub hl [1, 2, 0] rfl) h
set_option maxHeartbeats 4000000 in
set_option maxRecDepth 100000 in
theorem w_X3_holds_0 {r : Int32} (hC : Cx RX3 cX3_holds 10 (some .boolean) p s m args meth c) (hR : 1 ≤ R.frames ∧ 24 ≤ R.locals) : ∀ (x0 : Int32) (x1 : Int32) (x2 : Int64) (x4 : Int64) (H : Heap) (locs : List Loc) (ls : Array Slot), Wd G cA S D ad A s H locs → lv_has ls 10 [(0, .int x0), (1, .int x1), (2, .long x2), (4, .long x4)] → f_X3_holds x0 x1 x2 x4 = some r → W p l e R s m args below meth c H locs 0 0 (MQ below (Qn (some (.int r)) True (wpost G cA S D ad A) A) args s 0 0 A) (F0 m 0 ls []) := by
  obtain ⟨hx, hb, -⟩ := id hC
  intro x0 x1 x2 x4 H locs ls hw hl h
  unfold f_X3_holds at h
  refine lv_iload_n hx hb dX3_holds_0 rfl (lv_at hl 1 rfl) ?_
  refine lv_if_eq (tgt := 8) hx hb dX3_holds_1 (by decide) (fun c70 => ?_) (fun c70 => ?_)
  · have h := i_yes c70 h
    refine lv_lload_n hx hb dX3_holds_8 rfl (lv_at hl 2 rfl) ?_
    refine lv_ldc2 (v := 4294967295) hx hb hC.2.2.2.1 (hC.2.2.2.2.1 _ lk_720) dX3_holds_9 ?_
    refine lv_land hx hb dX3_holds_12 ?_
    exact w_X3_holds_13 hC hR x0 x1 x4 (x2 &&& (4294967295 : Int64)) _ _ _ hw (lv_sub hl [0, 1, 3] rfl) h
  · have h := i_no c70 h
    refine lv_lload_n hx hb dX3_holds_4 rfl (lv_at hl 2 rfl) ?_
    refine lv_goto (tgt := 13) hx hb dX3_holds_5 (by decide) ?_
    exact w_X3_holds_13 hC hR x0 x1 x4 x2 _ _ _ hw (lv_sub hl [0, 1, 3] rfl) h
set_option maxHeartbeats 4000000 in
set_option maxRecDepth 100000 in
theorem k_X3_holds {l : Launch} {G : va_G} {cA : Nat → ClassId} {S : sh} {D : dt} {ad : Nat → Nat} (sz : Nat) {x0 : Int32} {x1 : Int32} {x2 : Int64} {x4 : Int64} {r : Int32}  (h : f_X3_holds x0 x1 x2 x4 = some r) : Co l yX3_holds (Cond.code yX3_holds cX3_holds 10 (some .boolean) :: tb0) 1 24 [.int x0, .int x1, .long x2, .long x4] G cA S D ad sz (some (.int r)) True D := by
  refine Met.ofW (cc := cX3_holds) (maxL := 10) (ret := (some .boolean)) (by decide) rfl ?_
  intro p e s m args below meth c s₁ B hml hv
  obtain ⟨rfl, hsz, hP, hK, hD0, hT, hX⟩ := hv
  subst hsz
  have hts := atoms_spec (ws := Cond.code yX3_holds cX3_holds 10 (some .boolean) :: tb0) B.pre
  have hC : Cx RX3 cX3_holds 10 (some .boolean) p s m _ meth c := ⟨B.exec, B.bytes, hml, findClass_of_methodNamed B.named, fun w q => hts w (List.mem_cons_of_mem _ q), B.returns, B.notSynchronized⟩
  have hw := Wd.entry hP hK hD0 hT hX
  have hl := lv_entry ([.int x0, .int x1, .long x2, .long x4]) (n := 10) (Nat.le_of_ble_eq_true rfl)
  rw [lg_entry_eq]
  exact w_X3_holds_0 hC ⟨Nat.le_refl _, Nat.le_refl _⟩ x0 x1 x2 x4 _ _ _ hw hl h
end
