theorem dX7_init_0 : decode cX7_init 0 = .ok (.aload_n 0, 1) := by decide +kernel
theorem dX7_init_1 : decode cX7_init 1 = .ok (.invokespecial 1, 3) := by decide +kernel
theorem dX7_init_4 : decode cX7_init 4 = .ok (.aload_n 0, 1) := by decide +kernel
theorem dX7_init_5 : decode cX7_init 5 = .ok (.iload_n 1, 1) := by decide +kernel
theorem dX7_init_6 : decode cX7_init 6 = .ok (.putfield 7, 3) := by decide +kernel
theorem dX7_init_9 : decode cX7_init 9 = .ok (.aload_n 0, 1) := by decide +kernel
theorem dX7_init_10 : decode cX7_init 10 = .ok (.iload_n 2, 1) := by decide +kernel
theorem dX7_init_11 : decode cX7_init 11 = .ok (.putfield 13, 3) := by decide +kernel
theorem dX7_init_14 : decode cX7_init 14 = .ok (.aload_n 0, 1) := by decide +kernel
theorem dX7_init_15 : decode cX7_init 15 = .ok (.iload_n 3, 1) := by decide +kernel
theorem dX7_init_16 : decode cX7_init 16 = .ok (.putfield 17, 3) := by decide +kernel
theorem dX7_init_19 : decode cX7_init 19 = .ok (.aload_n 0, 1) := by decide +kernel
theorem dX7_init_20 : decode cX7_init 20 = .ok (.iload 4, 2) := by decide +kernel
theorem dX7_init_22 : decode cX7_init 22 = .ok (.putfield 20, 3) := by decide +kernel
theorem dX7_init_25 : decode cX7_init 25 = .ok (.aload_n 0, 1) := by decide +kernel
theorem dX7_init_26 : decode cX7_init 26 = .ok (.iload_n 1, 1) := by decide +kernel
theorem dX7_init_27 : decode cX7_init 27 = .ok (.ifCond .eq 7, 3) := by decide +kernel
theorem dX7_init_30 : decode cX7_init 30 = .ok (.iconst 0, 1) := by decide +kernel
theorem dX7_init_31 : decode cX7_init 31 = .ok (.goto 5, 3) := by decide +kernel
theorem dX7_init_34 : decode cX7_init 34 = .ok (.iload 4, 2) := by decide +kernel
theorem dX7_init_36 : decode cX7_init 36 = .ok (.newarray .long, 2) := by decide +kernel
theorem dX7_init_38 : decode cX7_init 38 = .ok (.putfield 23, 3) := by decide +kernel
theorem dX7_init_41 : decode cX7_init 41 = .ok (.aload_n 0, 1) := by decide +kernel
theorem dX7_init_42 : decode cX7_init 42 = .ok (.iload_n 1, 1) := by decide +kernel
theorem dX7_init_43 : decode cX7_init 43 = .ok (.ifCond .eq 7, 3) := by decide +kernel
theorem dX7_init_46 : decode cX7_init 46 = .ok (.iconst 0, 1) := by decide +kernel
theorem dX7_init_47 : decode cX7_init 47 = .ok (.goto 5, 3) := by decide +kernel
theorem dX7_init_50 : decode cX7_init 50 = .ok (.iload 4, 2) := by decide +kernel
theorem dX7_init_52 : decode cX7_init 52 = .ok (.newarray .boolean, 2) := by decide +kernel
theorem dX7_init_54 : decode cX7_init 54 = .ok (.putfield 27, 3) := by decide +kernel
theorem dX7_init_57 : decode cX7_init 57 = .ok (.aload_n 0, 1) := by decide +kernel
theorem dX7_init_58 : decode cX7_init 58 = .ok (.iload_n 3, 1) := by decide +kernel
theorem dX7_init_59 : decode cX7_init 59 = .ok (.iload 4, 2) := by decide +kernel
theorem dX7_init_61 : decode cX7_init 61 = .ok (.imul, 1) := by decide +kernel
theorem dX7_init_62 : decode cX7_init 62 = .ok (.newarray .byte, 2) := by decide +kernel
theorem dX7_init_64 : decode cX7_init 64 = .ok (.putfield 31, 3) := by decide +kernel
theorem dX7_init_67 : decode cX7_init 67 = .ok (.return_, 1) := by decide +kernel
theorem dX7_numberOf_0 : decode cX7_numberOf 0 = .ok (.aload_n 0, 1) := by decide +kernel
theorem dX7_numberOf_1 : decode cX7_numberOf 1 = .ok (.getfield 7, 3) := by decide +kernel
theorem dX7_numberOf_4 : decode cX7_numberOf 4 = .ok (.ifCond .eq 26, 3) := by decide +kernel
theorem dX7_numberOf_7 : decode cX7_numberOf 7 = .ok (.lload_n 1, 1) := by decide +kernel
theorem dX7_numberOf_8 : decode cX7_numberOf 8 = .ok (.lconst 0, 1) := by decide +kernel
theorem dX7_numberOf_9 : decode cX7_numberOf 9 = .ok (.lcmp, 1) := by decide +kernel
theorem dX7_numberOf_10 : decode cX7_numberOf 10 = .ok (.ifCond .lt 18, 3) := by decide +kernel
theorem dX7_numberOf_13 : decode cX7_numberOf 13 = .ok (.lload_n 1, 1) := by decide +kernel
theorem dX7_numberOf_14 : decode cX7_numberOf 14 = .ok (.aload_n 0, 1) := by decide +kernel
theorem dX7_numberOf_15 : decode cX7_numberOf 15 = .ok (.getfield 20, 3) := by decide +kernel
theorem dX7_numberOf_18 : decode cX7_numberOf 18 = .ok (.i2l, 1) := by decide +kernel
theorem dX7_numberOf_19 : decode cX7_numberOf 19 = .ok (.lcmp, 1) := by decide +kernel
theorem dX7_numberOf_20 : decode cX7_numberOf 20 = .ok (.ifCond .ge 8, 3) := by decide +kernel
theorem dX7_numberOf_23 : decode cX7_numberOf 23 = .ok (.lload_n 1, 1) := by decide +kernel
theorem dX7_numberOf_24 : decode cX7_numberOf 24 = .ok (.l2i, 1) := by decide +kernel
theorem dX7_numberOf_25 : decode cX7_numberOf 25 = .ok (.goto 4, 3) := by decide +kernel
theorem dX7_numberOf_28 : decode cX7_numberOf 28 = .ok (.iconst (-1), 1) := by decide +kernel
theorem dX7_numberOf_29 : decode cX7_numberOf 29 = .ok (.ireturn, 1) := by decide +kernel
theorem dX7_numberOf_30 : decode cX7_numberOf 30 = .ok (.iconst 0, 1) := by decide +kernel
theorem dX7_numberOf_31 : decode cX7_numberOf 31 = .ok (.istore_n 3, 1) := by decide +kernel
theorem dX7_numberOf_32 : decode cX7_numberOf 32 = .ok (.iload_n 3, 1) := by decide +kernel
theorem dX7_numberOf_33 : decode cX7_numberOf 33 = .ok (.aload_n 0, 1) := by decide +kernel
theorem dX7_numberOf_34 : decode cX7_numberOf 34 = .ok (.getfield 27, 3) := by decide +kernel
theorem dX7_numberOf_37 : decode cX7_numberOf 37 = .ok (.arraylength, 1) := by decide +kernel
theorem dX7_numberOf_38 : decode cX7_numberOf 38 = .ok (.if_icmp .ge 31, 3) := by decide +kernel
theorem dX7_numberOf_41 : decode cX7_numberOf 41 = .ok (.aload_n 0, 1) := by decide +kernel
theorem dX7_numberOf_42 : decode cX7_numberOf 42 = .ok (.getfield 27, 3) := by decide +kernel
theorem dX7_numberOf_45 : decode cX7_numberOf 45 = .ok (.iload_n 3, 1) := by decide +kernel
theorem dX7_numberOf_46 : decode cX7_numberOf 46 = .ok (.baload, 1) := by decide +kernel
theorem dX7_numberOf_47 : decode cX7_numberOf 47 = .ok (.ifCond .eq 16, 3) := by decide +kernel
theorem dX7_numberOf_50 : decode cX7_numberOf 50 = .ok (.aload_n 0, 1) := by decide +kernel
theorem dX7_numberOf_51 : decode cX7_numberOf 51 = .ok (.getfield 23, 3) := by decide +kernel
theorem dX7_numberOf_54 : decode cX7_numberOf 54 = .ok (.iload_n 3, 1) := by decide +kernel
theorem dX7_numberOf_55 : decode cX7_numberOf 55 = .ok (.laload, 1) := by decide +kernel
theorem dX7_numberOf_56 : decode cX7_numberOf 56 = .ok (.lload_n 1, 1) := by decide +kernel
theorem dX7_numberOf_57 : decode cX7_numberOf 57 = .ok (.lcmp, 1) := by decide +kernel
theorem dX7_numberOf_58 : decode cX7_numberOf 58 = .ok (.ifCond .ne 5, 3) := by decide +kernel
theorem dX7_numberOf_61 : decode cX7_numberOf 61 = .ok (.iload_n 3, 1) := by decide +kernel
theorem dX7_numberOf_62 : decode cX7_numberOf 62 = .ok (.ireturn, 1) := by decide +kernel
theorem dX7_numberOf_63 : decode cX7_numberOf 63 = .ok (.iinc 3 1, 3) := by decide +kernel
theorem dX7_numberOf_66 : decode cX7_numberOf 66 = .ok (.goto (-34), 3) := by decide +kernel
theorem dX7_numberOf_69 : decode cX7_numberOf 69 = .ok (.iconst (-1), 1) := by decide +kernel
theorem dX7_numberOf_70 : decode cX7_numberOf 70 = .ok (.ireturn, 1) := by decide +kernel
theorem dX7_removeKey_0 : decode cX7_removeKey 0 = .ok (.aload_n 0, 1) := by decide +kernel
theorem dX7_removeKey_1 : decode cX7_removeKey 1 = .ok (.getfield 7, 3) := by decide +kernel
theorem dX7_removeKey_4 : decode cX7_removeKey 4 = .ok (.ifCond .eq 7, 3) := by decide +kernel
theorem dX7_removeKey_7 : decode cX7_removeKey 7 = .ok (.iconst (-1), 1) := by decide +kernel
theorem dX7_removeKey_8 : decode cX7_removeKey 8 = .ok (.goto 8, 3) := by decide +kernel
theorem dX7_removeKey_11 : decode cX7_removeKey 11 = .ok (.aload_n 0, 1) := by decide +kernel
theorem dX7_removeKey_12 : decode cX7_removeKey 12 = .ok (.lload_n 1, 1) := by decide +kernel
theorem dX7_removeKey_13 : decode cX7_removeKey 13 = .ok (.invokevirtual 37, 3) := by decide +kernel
theorem dX7_removeKey_16 : decode cX7_removeKey 16 = .ok (.istore_n 3, 1) := by decide +kernel
theorem dX7_removeKey_17 : decode cX7_removeKey 17 = .ok (.iload_n 3, 1) := by decide +kernel
theorem dX7_removeKey_18 : decode cX7_removeKey 18 = .ok (.ifCond .ge 5, 3) := by decide +kernel
theorem dX7_removeKey_21 : decode cX7_removeKey 21 = .ok (.iconst 0, 1) := by decide +kernel
theorem dX7_removeKey_22 : decode cX7_removeKey 22 = .ok (.ireturn, 1) := by decide +kernel
theorem dX7_removeKey_23 : decode cX7_removeKey 23 = .ok (.aload_n 0, 1) := by decide +kernel
theorem dX7_removeKey_24 : decode cX7_removeKey 24 = .ok (.getfield 27, 3) := by decide +kernel
theorem dX7_removeKey_27 : decode cX7_removeKey 27 = .ok (.iload_n 3, 1) := by decide +kernel
theorem dX7_removeKey_28 : decode cX7_removeKey 28 = .ok (.iconst 0, 1) := by decide +kernel
theorem dX7_removeKey_29 : decode cX7_removeKey 29 = .ok (.bastore, 1) := by decide +kernel
theorem dX7_removeKey_30 : decode cX7_removeKey 30 = .ok (.iconst 1, 1) := by decide +kernel
theorem dX7_removeKey_31 : decode cX7_removeKey 31 = .ok (.ireturn, 1) := by decide +kernel
theorem dX7_addKey_0 : decode cX7_addKey 0 = .ok (.iconst 0, 1) := by decide +kernel
theorem dX7_addKey_1 : decode cX7_addKey 1 = .ok (.istore_n 3, 1) := by decide +kernel
theorem dX7_addKey_2 : decode cX7_addKey 2 = .ok (.iload_n 3, 1) := by decide +kernel
theorem dX7_addKey_3 : decode cX7_addKey 3 = .ok (.aload_n 0, 1) := by decide +kernel
theorem dX7_addKey_4 : decode cX7_addKey 4 = .ok (.getfield 27, 3) := by decide +kernel
theorem dX7_addKey_7 : decode cX7_addKey 7 = .ok (.arraylength, 1) := by decide +kernel
theorem dX7_addKey_8 : decode cX7_addKey 8 = .ok (.if_icmp .ge 34, 3) := by decide +kernel
theorem dX7_addKey_11 : decode cX7_addKey 11 = .ok (.aload_n 0, 1) := by decide +kernel
theorem dX7_addKey_12 : decode cX7_addKey 12 = .ok (.getfield 27, 3) := by decide +kernel
theorem dX7_addKey_15 : decode cX7_addKey 15 = .ok (.iload_n 3, 1) := by decide +kernel
theorem dX7_addKey_16 : decode cX7_addKey 16 = .ok (.baload, 1) := by decide +kernel
theorem dX7_addKey_17 : decode cX7_addKey 17 = .ok (.ifCond .ne 19, 3) := by decide +kernel
theorem dX7_addKey_20 : decode cX7_addKey 20 = .ok (.aload_n 0, 1) := by decide +kernel
theorem dX7_addKey_21 : decode cX7_addKey 21 = .ok (.getfield 27, 3) := by decide +kernel
theorem dX7_addKey_24 : decode cX7_addKey 24 = .ok (.iload_n 3, 1) := by decide +kernel
theorem dX7_addKey_25 : decode cX7_addKey 25 = .ok (.iconst 1, 1) := by decide +kernel
theorem dX7_addKey_26 : decode cX7_addKey 26 = .ok (.bastore, 1) := by decide +kernel
theorem dX7_addKey_27 : decode cX7_addKey 27 = .ok (.aload_n 0, 1) := by decide +kernel
theorem dX7_addKey_28 : decode cX7_addKey 28 = .ok (.getfield 23, 3) := by decide +kernel
theorem dX7_addKey_31 : decode cX7_addKey 31 = .ok (.iload_n 3, 1) := by decide +kernel
theorem dX7_addKey_32 : decode cX7_addKey 32 = .ok (.lload_n 1, 1) := by decide +kernel
theorem dX7_addKey_33 : decode cX7_addKey 33 = .ok (.lastore, 1) := by decide +kernel
theorem dX7_addKey_34 : decode cX7_addKey 34 = .ok (.iload_n 3, 1) := by decide +kernel
theorem dX7_addKey_35 : decode cX7_addKey 35 = .ok (.ireturn, 1) := by decide +kernel
theorem dX7_addKey_36 : decode cX7_addKey 36 = .ok (.iinc 3 1, 3) := by decide +kernel
theorem dX7_addKey_39 : decode cX7_addKey 39 = .ok (.goto (-37), 3) := by decide +kernel
theorem dX7_addKey_42 : decode cX7_addKey 42 = .ok (.iconst (-1), 1) := by decide +kernel
theorem dX7_addKey_43 : decode cX7_addKey 43 = .ok (.ireturn, 1) := by decide +kernel
theorem dX7_numberToPut_0 : decode cX7_numberToPut 0 = .ok (.lload_n 3, 1) := by decide +kernel
theorem dX7_numberToPut_1 : decode cX7_numberToPut 1 = .ok (.lconst 0, 1) := by decide +kernel
theorem dX7_numberToPut_2 : decode cX7_numberToPut 2 = .ok (.lcmp, 1) := by decide +kernel
theorem dX7_numberToPut_3 : decode cX7_numberToPut 3 = .ok (.ifCond .lt 24, 3) := by decide +kernel
theorem dX7_numberToPut_6 : decode cX7_numberToPut 6 = .ok (.lload_n 3, 1) := by decide +kernel
theorem dX7_numberToPut_7 : decode cX7_numberToPut 7 = .ok (.ldc2_w 35, 3) := by decide +kernel
theorem dX7_numberToPut_10 : decode cX7_numberToPut 10 = .ok (.lcmp, 1) := by decide +kernel
theorem dX7_numberToPut_11 : decode cX7_numberToPut 11 = .ok (.ifCond .gt 16, 3) := by decide +kernel
theorem dX7_numberToPut_14 : decode cX7_numberToPut 14 = .ok (.aload_n 0, 1) := by decide +kernel
theorem dX7_numberToPut_15 : decode cX7_numberToPut 15 = .ok (.getfield 7, 3) := by decide +kernel
theorem dX7_numberToPut_18 : decode cX7_numberToPut 18 = .ok (.ifCond .eq 11, 3) := by decide +kernel
theorem dX7_numberToPut_21 : decode cX7_numberToPut 21 = .ok (.lload_n 3, 1) := by decide +kernel
theorem dX7_numberToPut_22 : decode cX7_numberToPut 22 = .ok (.lconst 1, 1) := by decide +kernel
theorem dX7_numberToPut_23 : decode cX7_numberToPut 23 = .ok (.lcmp, 1) := by decide +kernel
theorem dX7_numberToPut_24 : decode cX7_numberToPut 24 = .ok (.ifCond .ne 5, 3) := by decide +kernel
theorem dX7_numberToPut_27 : decode cX7_numberToPut 27 = .ok (.iconst (-1), 1) := by decide +kernel
theorem dX7_numberToPut_28 : decode cX7_numberToPut 28 = .ok (.ireturn, 1) := by decide +kernel
theorem dX7_numberToPut_29 : decode cX7_numberToPut 29 = .ok (.aload_n 0, 1) := by decide +kernel
theorem dX7_numberToPut_30 : decode cX7_numberToPut 30 = .ok (.lload_n 1, 1) := by decide +kernel
theorem dX7_numberToPut_31 : decode cX7_numberToPut 31 = .ok (.invokevirtual 37, 3) := by decide +kernel
theorem dX7_numberToPut_34 : decode cX7_numberToPut 34 = .ok (.istore 5, 2) := by decide +kernel
theorem dX7_numberToPut_36 : decode cX7_numberToPut 36 = .ok (.iload 5, 2) := by decide +kernel
theorem dX7_numberToPut_38 : decode cX7_numberToPut 38 = .ok (.ifCond .lt 16, 3) := by decide +kernel
theorem dX7_numberToPut_41 : decode cX7_numberToPut 41 = .ok (.lload_n 3, 1) := by decide +kernel
theorem dX7_numberToPut_42 : decode cX7_numberToPut 42 = .ok (.lconst 1, 1) := by decide +kernel
theorem dX7_numberToPut_43 : decode cX7_numberToPut 43 = .ok (.lcmp, 1) := by decide +kernel
theorem dX7_numberToPut_44 : decode cX7_numberToPut 44 = .ok (.ifCond .ne 7, 3) := by decide +kernel
theorem dX7_numberToPut_47 : decode cX7_numberToPut 47 = .ok (.iconst (-1), 1) := by decide +kernel
theorem dX7_numberToPut_48 : decode cX7_numberToPut 48 = .ok (.goto 5, 3) := by decide +kernel
theorem dX7_numberToPut_51 : decode cX7_numberToPut 51 = .ok (.iload 5, 2) := by decide +kernel
theorem dX7_numberToPut_53 : decode cX7_numberToPut 53 = .ok (.ireturn, 1) := by decide +kernel
theorem dX7_numberToPut_54 : decode cX7_numberToPut 54 = .ok (.lload_n 3, 1) := by decide +kernel
theorem dX7_numberToPut_55 : decode cX7_numberToPut 55 = .ok (.ldc2_w 35, 3) := by decide +kernel
theorem dX7_numberToPut_58 : decode cX7_numberToPut 58 = .ok (.lcmp, 1) := by decide +kernel
theorem dX7_numberToPut_59 : decode cX7_numberToPut 59 = .ok (.ifCond .ne 7, 3) := by decide +kernel
theorem dX7_numberToPut_62 : decode cX7_numberToPut 62 = .ok (.iconst (-1), 1) := by decide +kernel
theorem dX7_numberToPut_63 : decode cX7_numberToPut 63 = .ok (.goto 8, 3) := by decide +kernel
theorem dX7_numberToPut_66 : decode cX7_numberToPut 66 = .ok (.aload_n 0, 1) := by decide +kernel
theorem dX7_numberToPut_67 : decode cX7_numberToPut 67 = .ok (.lload_n 1, 1) := by decide +kernel
theorem dX7_numberToPut_68 : decode cX7_numberToPut 68 = .ok (.invokevirtual 41, 3) := by decide +kernel
theorem dX7_numberToPut_71 : decode cX7_numberToPut 71 = .ok (.ireturn, 1) := by decide +kernel
theorem dX7_keyCount_0 : decode cX7_keyCount 0 = .ok (.iconst 0, 1) := by decide +kernel
theorem dX7_keyCount_1 : decode cX7_keyCount 1 = .ok (.istore_n 1, 1) := by decide +kernel
theorem dX7_keyCount_2 : decode cX7_keyCount 2 = .ok (.iconst 0, 1) := by decide +kernel
theorem dX7_keyCount_3 : decode cX7_keyCount 3 = .ok (.istore_n 2, 1) := by decide +kernel
theorem dX7_keyCount_4 : decode cX7_keyCount 4 = .ok (.iload_n 2, 1) := by decide +kernel
theorem dX7_keyCount_5 : decode cX7_keyCount 5 = .ok (.aload_n 0, 1) := by decide +kernel
theorem dX7_keyCount_6 : decode cX7_keyCount 6 = .ok (.getfield 27, 3) := by decide +kernel
theorem dX7_keyCount_9 : decode cX7_keyCount 9 = .ok (.arraylength, 1) := by decide +kernel
theorem dX7_keyCount_10 : decode cX7_keyCount 10 = .ok (.if_icmp .ge 26, 3) := by decide +kernel
theorem dX7_keyCount_13 : decode cX7_keyCount 13 = .ok (.iload_n 1, 1) := by decide +kernel
theorem dX7_keyCount_14 : decode cX7_keyCount 14 = .ok (.aload_n 0, 1) := by decide +kernel
theorem dX7_keyCount_15 : decode cX7_keyCount 15 = .ok (.getfield 27, 3) := by decide +kernel
theorem dX7_keyCount_18 : decode cX7_keyCount 18 = .ok (.iload_n 2, 1) := by decide +kernel
theorem dX7_keyCount_19 : decode cX7_keyCount 19 = .ok (.baload, 1) := by decide +kernel
theorem dX7_keyCount_20 : decode cX7_keyCount 20 = .ok (.ifCond .eq 7, 3) := by decide +kernel
theorem dX7_keyCount_23 : decode cX7_keyCount 23 = .ok (.iconst 1, 1) := by decide +kernel
theorem dX7_keyCount_24 : decode cX7_keyCount 24 = .ok (.goto 4, 3) := by decide +kernel
theorem dX7_keyCount_27 : decode cX7_keyCount 27 = .ok (.iconst 0, 1) := by decide +kernel
theorem dX7_keyCount_28 : decode cX7_keyCount 28 = .ok (.iadd, 1) := by decide +kernel
theorem dX7_keyCount_29 : decode cX7_keyCount 29 = .ok (.istore_n 1, 1) := by decide +kernel
theorem dX7_keyCount_30 : decode cX7_keyCount 30 = .ok (.iinc 2 1, 3) := by decide +kernel
theorem dX7_keyCount_33 : decode cX7_keyCount 33 = .ok (.goto (-29), 3) := by decide +kernel
theorem dX7_keyCount_36 : decode cX7_keyCount 36 = .ok (.aload_n 0, 1) := by decide +kernel
theorem dX7_keyCount_37 : decode cX7_keyCount 37 = .ok (.getfield 7, 3) := by decide +kernel
theorem dX7_keyCount_40 : decode cX7_keyCount 40 = .ok (.ifCond .eq 10, 3) := by decide +kernel
theorem dX7_keyCount_43 : decode cX7_keyCount 43 = .ok (.aload_n 0, 1) := by decide +kernel
theorem dX7_keyCount_44 : decode cX7_keyCount 44 = .ok (.getfield 20, 3) := by decide +kernel
theorem dX7_keyCount_47 : decode cX7_keyCount 47 = .ok (.goto 4, 3) := by decide +kernel
theorem dX7_keyCount_50 : decode cX7_keyCount 50 = .ok (.iload_n 1, 1) := by decide +kernel
theorem dX7_keyCount_51 : decode cX7_keyCount 51 = .ok (.ireturn, 1) := by decide +kernel
-- JudgedCode$Table.<init>
def f_X7_init_64 (os0 : Nat) (os1 : Nat) (S : sh) (D : dt) : Option (Unit × sh × dt) := nm (pR D os0 6 (some os1)) fun D35 => some ((), S, D35)
def f_X7_init_54 (o0 : Nat) (x3 : Int32) (x4 : Int32) (os0 : Nat) (os1 : Nat) (S : sh) (D : dt) : Option (Unit × sh × dt) := nm (pR D os0 5 (some os1)) fun D36 => ck (¬ (x3 * x4) < 0 ∧ (x3 * x4).toNatClampNeg ≤ 10000) <| f_X7_init_64 o0 (sN S) (aS S 102 (x3 * x4).toNatClampNeg (x3 * x4).toNatClampNeg) (aD S D36)
def f_X7_init_52 (o0 : Nat) (x3 : Int32) (x4 : Int32) (os0 : Nat) (xs1 : Int32) (S : sh) (D : dt) : Option (Unit × sh × dt) := ck (¬ xs1 < 0 ∧ xs1.toNatClampNeg ≤ 10000) <| f_X7_init_54 o0 x3 x4 os0 (sN S) (aS S 103 xs1.toNatClampNeg xs1.toNatClampNeg) (aD S D)
def f_X7_init_38 (o0 : Nat) (x1 : Int32) (x3 : Int32) (x4 : Int32) (os0 : Nat) (os1 : Nat) (S : sh) (D : dt) : Option (Unit × sh × dt) := nm (pR D os0 4 (some os1)) fun D50 => if x1 = 0 then (f_X7_init_52 o0 x3 x4 o0 x4 S D50) else (f_X7_init_52 o0 x3 x4 o0 (0 : Int32) S D50)
def f_X7_init_36 (o0 : Nat) (x1 : Int32) (x3 : Int32) (x4 : Int32) (os0 : Nat) (xs1 : Int32) (S : sh) (D : dt) : Option (Unit × sh × dt) := ck (¬ xs1 < 0 ∧ xs1.toNatClampNeg ≤ 10000) <| f_X7_init_38 o0 x1 x3 x4 os0 (sN S) (aS S 101 xs1.toNatClampNeg xs1.toNatClampNeg) (aD S D)
def f_X7_init (o0 : Nat) (x1 : Int32) (x2 : Int32) (x3 : Int32) (x4 : Int32) (S : sh) (D : dt) : Option (Unit × sh × dt) := ck (x1 = 0 ∨ x1 = 1) <| nm (pI D o0 0 x1) fun D61 => nm (pI D61 o0 1 x2) fun D63 => nm (pI D63 o0 2 x3) fun D64 => nm (pI D64 o0 3 x4) fun D65 => if x1 = 0 then (f_X7_init_36 o0 x1 x3 x4 o0 x4 S D65) else (f_X7_init_36 o0 x1 x3 x4 o0 (0 : Int32) S D65)
-- JudgedCode$Table.numberOf
def f_X7_numberOf_63 (S : sh) (D : dt) (k32 : Nat → Int64 → Int32 → Option Int32) (o0 : Nat) (x1 : Int64) (x3 : Int32) : Option Int32 := nm (x3 + 1) fun y23 => k32 o0 x1 y23
def f_X7_numberOf_32 (S : sh) (D : dt) : Nat → Nat → Int64 → Int32 → Option Int32
  | 0, _, _, _ => none
  | n + 1, o0, x1, x3 => rq (gR D o0 5) fun o24 => if (Int32.ofNat (sA S o24)) ≤ x3 then (some (-1 : Int32)) else (rq (gR D o0 5) fun o29 => ix x3 (sA S o29) <| if (gI D o29 x3.toNatClampNeg) = 0 then (f_X7_numberOf_63 S D (f_X7_numberOf_32 S D n) o0 x1 x3) else (rq (gR D o0 4) fun o35 => ix x3 (sA S o35) <| if (lg_cmp (gL D o35 x3.toNatClampNeg) x1) = 0 then (some x3) else (f_X7_numberOf_63 S D (f_X7_numberOf_32 S D n) o0 x1 x3)))
def f_X7_numberOf (S : sh) (D : dt) (o0 : Nat) (x1 : Int64) : Option Int32 := if (gI D o0 0) = 0 then (nm ((0 : Int32)) fun y42 => f_X7_numberOf_32 S D LF o0 x1 y42) else (if (lg_cmp x1 (0 : Int64)) < 0 then (some (-1 : Int32)) else (if 0 ≤ (lg_cmp x1 ((gI D o0 3).toInt64)) then (some (-1 : Int32)) else (some x1.toInt32)))
-- JudgedCode$Table.removeKey
def f_X7_removeKey_16 (S : sh) (o0 : Nat) (xs0 : Int32) (D : dt) : Option (Int32 × dt) := if 0 ≤ xs0 then (rq (gR D o0 5) fun o12 => ix xs0 (sA S o12) <| nm (pI D o12 xs0.toNatClampNeg (vp_nar .boolean (0 : Int32))) fun D17 => some ((1 : Int32), D17)) else (some ((0 : Int32), D))
def f_X7_removeKey (S : sh) (o0 : Nat) (x1 : Int64) (D : dt) : Option (Int32 × dt) := if (gI D o0 0) = 0 then (pq (f_X7_numberOf S D o0 x1) fun r20 => f_X7_removeKey_16 S o0 r20 D) else (f_X7_removeKey_16 S o0 (-1 : Int32) D)
-- JudgedCode$Table.addKey
def f_X7_addKey_2 (S : sh) : Nat → Nat → Int64 → Int32 → dt → Option (Int32 × dt)
  | 0, _, _, _, _ => none
  | n + 1, o0, x1, x3, D => rq (gR D o0 5) fun o26 => if (Int32.ofNat (sA S o26)) ≤ x3 then (some ((-1 : Int32), D)) else (rq (gR D o0 5) fun o31 => ix x3 (sA S o31) <| if (gI D o31 x3.toNatClampNeg) = 0 then (rq (gR D o0 5) fun o38 => ix x3 (sA S o38) <| nm (pI D o38 x3.toNatClampNeg (vp_nar .boolean (1 : Int32))) fun D43 => rq (gR D43 o0 4) fun o44 => ix x3 (sA S o44) <| nm (pL D43 o44 x3.toNatClampNeg x1) fun D49 => some (x3, D49)) else (nm (x3 + 1) fun y37 => f_X7_addKey_2 S n o0 x1 y37 D))
def f_X7_addKey (S : sh) (o0 : Nat) (x1 : Int64) (D : dt) : Option (Int32 × dt) := nm ((0 : Int32)) fun y50 => f_X7_addKey_2 S LF o0 x1 y50 D
-- JudgedCode$Table.numberToPut
def f_X7_numberToPut_29 (S : sh) (o0 : Nat) (x1 : Int64) (x3 : Int64) (D : dt) : Option (Int32 × dt) := pq (f_X7_numberOf S D o0 x1) fun r14 => if r14 < 0 then (if (lg_cmp x3 (2 : Int64)) = 0 then (some ((-1 : Int32), D)) else (cq (f_X7_addKey S o0 x1 D) fun r18 D19 => some (r18, D19))) else (if (lg_cmp x3 (1 : Int64)) = 0 then (some ((-1 : Int32), D)) else (some (r14, D)))
def f_X7_numberToPut (S : sh) (o0 : Nat) (x1 : Int64) (x3 : Int64) (D : dt) : Option (Int32 × dt) := if (lg_cmp x3 (0 : Int64)) < 0 then (some ((-1 : Int32), D)) else (if 0 < (lg_cmp x3 (2 : Int64)) then (some ((-1 : Int32), D)) else (if (gI D o0 0) = 0 then (f_X7_numberToPut_29 S o0 x1 x3 D) else (if (lg_cmp x3 (1 : Int64)) = 0 then (some ((-1 : Int32), D)) else (f_X7_numberToPut_29 S o0 x1 x3 D))))
-- JudgedCode$Table.keyCount
def f_X7_keyCount_28 (S : sh) (D : dt) (k4 : Nat → Int32 → Int32 → Option Int32) (o0 : Nat) (x2 : Int32) (xs0 : Int32) (xs1 : Int32) : Option Int32 := nm (xs0 + xs1) fun y17 => nm (x2 + 1) fun y18 => k4 o0 y17 y18
def f_X7_keyCount_4 (S : sh) (D : dt) : Nat → Nat → Int32 → Int32 → Option Int32
  | 0, _, _, _ => none
  | n + 1, o0, x1, x2 => rq (gR D o0 5) fun o19 => if (Int32.ofNat (sA S o19)) ≤ x2 then (if (gI D o0 0) = 0 then (some x1) else (some (gI D o0 3))) else (rq (gR D o0 5) fun o25 => ix x2 (sA S o25) <| if (gI D o25 x2.toNatClampNeg) = 0 then (f_X7_keyCount_28 S D (f_X7_keyCount_4 S D n) o0 x2 x1 (0 : Int32)) else (f_X7_keyCount_28 S D (f_X7_keyCount_4 S D n) o0 x2 x1 (1 : Int32)))
def f_X7_keyCount (S : sh) (D : dt) (o0 : Nat) : Option Int32 := nm ((0 : Int32)) fun y31 => nm ((0 : Int32)) fun y32 => f_X7_keyCount_4 S D LF o0 y31 y32
theorem mk_X7_init : MkI yX7_init cX7_init 5 4 := ⟨⟨lk_399, lk_122, (tb_in (i := 400) (by decide +kernel) (by decide +kernel))⟩, rfl, by decide +kernel⟩
theorem mk_X7_numberOf : MkV yX7_numberOf RX7 cX7_numberOf 4 (some .int) 1 := ⟨⟨lk_992, lk_993, lk_122, (tb_in (i := 994) (by decide +kernel) (by decide +kernel))⟩, by decide +kernel⟩
theorem mk_X7_removeKey : MkV yX7_removeKey RX7 cX7_removeKey 4 (some .boolean) 1 := ⟨⟨lk_997, lk_998, lk_122, (tb_in (i := 999) (by decide +kernel) (by decide +kernel))⟩, by decide +kernel⟩
theorem mk_X7_addKey : MkV yX7_addKey RX7 cX7_addKey 4 (some .int) 1 := ⟨⟨lk_1009, lk_56, lk_122, (tb_in (i := 1010) (by decide +kernel) (by decide +kernel))⟩, by decide +kernel⟩
theorem mk_X7_numberToPut : MkV yX7_numberToPut RX7 cX7_numberToPut 6 (some .int) 2 := ⟨⟨lk_1003, lk_1004, lk_122, (tb_in (i := 1005) (by decide +kernel) (by decide +kernel))⟩, by decide +kernel⟩
theorem mk_X7_keyCount : MkV yX7_keyCount RX7 cX7_keyCount 3 (some .int) 0 := ⟨⟨lk_1062, lk_1063, lk_122, (tb_in (i := 1064) (by decide +kernel) (by decide +kernel))⟩, by decide +kernel⟩
section
variable {p : Program} {l : Launch} {e : Env} {R : Room} {s : State} {m : MethodId} {args : Array Value} {below : List Frame} {meth : Method} {c : Code} {H : Heap} {locs : List Loc} {G : va_G} {cA : Nat → ClassId} {S : sh} {D : dt} {ad : Nat → Nat} {A : Nat → Prop}
theorem mn_X7_init_64 {r : Unit} {S' : sh} {D' : dt} {os0 : Nat} {os1 : Nat} {S : sh} {D : dt} (h : f_X7_init_64 os0 os1 S D = some (r, S', D')) : Ext S S' := by
  unfold f_X7_init_64 at h
  have h := nm_i h _ rfl
  cases h
  exact Ext.rf _
set_option maxHeartbeats 4000000 in
set_option maxRecDepth 100000 in
theorem w_X7_init_64 {r : Unit} {S' : sh} {D' : dt} {S0 : sh} {ad0 : Nat → Nat} (hC : Cx RX7 cX7_init 5 none p s m args meth c) (hin : meth.name = "<init>") (hR : 1 ≤ R.frames ∧ 20 ≤ R.locals) (ho : R.cells = sN S' - sN S0 ∧ R.slots = sZ S' - sZ S0) : ∀ (os0 as0 : Nat) (os1 as1 : Nat) (S : sh) (D : dt) (ad : Nat → Nat) (H : Heap) (locs : List Loc) (ls : Array Slot) (cells slots : Nat), Is S ad os0 as0 6 → Is S ad os1 as1 102 → Wd G cA S D ad A s H locs → Al S0 ad0 S ad cells slots → lv_has ls 5 [] → f_X7_init_64 os0 os1 S D = some (r, S', D') → W p l e R s m args below meth c H locs cells slots (MQ below (Qa (fun _ => none) (fun ad' => (∀ k, k < sN S0 → ad' k = ad0 k) ∧ True) (fun ad' => wpost G cA S' D' ad' A) A) args s (sN S' - sN S0) (sZ S' - sZ S0) A) (F0 m 64 ls [.ref as1, .ref as0]) := by
  obtain ⟨hx, hb, -⟩ := id hC
  intro os0 as0 os1 as1 S D ad H locs ls cells slots his0 his1 hw hc hl h
  have hE : Ext S S' := mn_X7_init_64  h
  unfold f_X7_init_64 at h
  refine r_pRF hC hin hw kc_6 his0 6 rfl lk_414 rfl rfl rfl rfl rfl his1 dX7_init_64 (fun D35 eD35 H locs hw => ?_)
  have h := nm_i h D35 eD35
  cases h
  exact r_vretA hC hw hc dX7_init_67
theorem mn_X7_init_54 {r : Unit} {S' : sh} {D' : dt} {o0 : Nat} {x3 : Int32} {x4 : Int32} {os0 : Nat} {os1 : Nat} {S : sh} {D : dt} (h : f_X7_init_54 o0 x3 x4 os0 os1 S D = some (r, S', D')) : Ext S S' := by
  unfold f_X7_init_54 at h
  have h := nm_i h _ rfl
  obtain ⟨hz40, h⟩ := ck_i h
  have hA := (Ext.aS S 102 (x3 * x4).toNatClampNeg (x3 * x4).toNatClampNeg)
  exact hA.tr (mn_X7_init_64 h)
set_option maxHeartbeats 4000000 in
set_option maxRecDepth 100000 in
theorem w_X7_init_54 {r : Unit} {S' : sh} {D' : dt} {S0 : sh} {ad0 : Nat → Nat} (hC : Cx RX7 cX7_init 5 none p s m args meth c) (hin : meth.name = "<init>") (hR : 1 ≤ R.frames ∧ 20 ≤ R.locals) (ho : R.cells = sN S' - sN S0 ∧ R.slots = sZ S' - sZ S0) : ∀ (o0 a0 : Nat) (x3 : Int32) (x4 : Int32) (os0 as0 : Nat) (os1 as1 : Nat) (S : sh) (D : dt) (ad : Nat → Nat) (H : Heap) (locs : List Loc) (ls : Array Slot) (cells slots : Nat), Is S ad o0 a0 6 → Is S ad os0 as0 6 → Is S ad os1 as1 103 → Wd G cA S D ad A s H locs → Al S0 ad0 S ad cells slots → lv_has ls 5 [(0, .ref a0), (3, .int x3), (4, .int x4)] → f_X7_init_54 o0 x3 x4 os0 os1 S D = some (r, S', D') → W p l e R s m args below meth c H locs cells slots (MQ below (Qa (fun _ => none) (fun ad' => (∀ k, k < sN S0 → ad' k = ad0 k) ∧ True) (fun ad' => wpost G cA S' D' ad' A) A) args s (sN S' - sN S0) (sZ S' - sZ S0) A) (F0 m 54 ls [.ref as1, .ref as0]) := by
  obtain ⟨hx, hb, -⟩ := id hC
  intro o0 a0 x3 x4 os0 as0 os1 as1 S D ad H locs ls cells slots hi0 his0 his1 hw hc hl h
  have hE : Ext S S' := mn_X7_init_54  h
  unfold f_X7_init_54 at h
  refine r_pRF hC hin hw kc_6 his0 5 rfl lk_413 rfl rfl rfl rfl rfl his1 dX7_init_54 (fun D36 eD36 H locs hw => ?_)
  have h := nm_i h D36 eD36
  refine lv_aload_n hx hb dX7_init_57 rfl (lv_at hl 0 rfl) ?_
  refine lv_iload_n hx hb dX7_init_58 rfl (lv_at hl 1 rfl) ?_
  refine lv_iload hx hb dX7_init_59 (lv_at hl 2 rfl) ?_
  refine lv_imul hx hb dX7_init_61 ?_
  obtain ⟨hz40, h⟩ := ck_i h
  have hE39 := mn_X7_init_64 h
  refine r_newB hC hw lk_212 hz40.1 rfl (by have := hz40.2; omega) (hc.room ho hE39).1 (hc.room ho hE39).2 dX7_init_62 (fun q37 H hw hi38 => ?_)
  have hi41 := Is.up hi0 (Ext.aS S 102 (x3 * x4).toNatClampNeg (x3 * x4).toNatClampNeg) (up_lt (q := q37))
  have hc := hc.new 102 (x3 * x4).toNatClampNeg (x3 * x4).toNatClampNeg q37
  exact w_X7_init_64 hC hin hR ho o0 a0 (sN S) q37 _ _ _ _ _ _ _ _ hi41 hi38 hw hc (lv_sub hl [] rfl) h --j42
theorem mn_X7_init_52 {r : Unit} {S' : sh} {D' : dt} {o0 : Nat} {x3 : Int32} {x4 : Int32} {os0 : Nat} {xs1 : Int32} {S : sh} {D : dt} (h : f_X7_init_52 o0 x3 x4 os0 xs1 S D = some (r, S', D')) : Ext S S' := by
  unfold f_X7_init_52 at h
  obtain ⟨hz46, h⟩ := ck_i h
  have hA := (Ext.aS S 103 xs1.toNatClampNeg xs1.toNatClampNeg)
  exact hA.tr (mn_X7_init_54 h)
set_option maxHeartbeats 4000000 in
set_option maxRecDepth 100000 in
theorem w_X7_init_52 {r : Unit} {S' : sh} {D' : dt} {S0 : sh} {ad0 : Nat → Nat} (hC : Cx RX7 cX7_init 5 none p s m args meth c) (hin : meth.name = "<init>") (hR : 1 ≤ R.frames ∧ 20 ≤ R.locals) (ho : R.cells = sN S' - sN S0 ∧ R.slots = sZ S' - sZ S0) : ∀ (o0 a0 : Nat) (x3 : Int32) (x4 : Int32) (os0 as0 : Nat) (xs1 : Int32) (S : sh) (D : dt) (ad : Nat → Nat) (H : Heap) (locs : List Loc) (ls : Array Slot) (cells slots : Nat), Is S ad o0 a0 6 → Is S ad os0 as0 6 → Wd G cA S D ad A s H locs → Al S0 ad0 S ad cells slots → lv_has ls 5 [(0, .ref a0), (3, .int x3), (4, .int x4)] → f_X7_init_52 o0 x3 x4 os0 xs1 S D = some (r, S', D') → W p l e R s m args below meth c H locs cells slots (MQ below (Qa (fun _ => none) (fun ad' => (∀ k, k < sN S0 → ad' k = ad0 k) ∧ True) (fun ad' => wpost G cA S' D' ad' A) A) args s (sN S' - sN S0) (sZ S' - sZ S0) A) (F0 m 52 ls [.int xs1, .ref as0]) := by
  obtain ⟨hx, hb, -⟩ := id hC
  intro o0 a0 x3 x4 os0 as0 xs1 S D ad H locs ls cells slots hi0 his0 hw hc hl h
  have hE : Ext S S' := mn_X7_init_52  h
  unfold f_X7_init_52 at h
  obtain ⟨hz46, h⟩ := ck_i h
  have hE45 := mn_X7_init_54 h
  refine r_newZ hC hw lk_286 hz46.1 rfl (by have := hz46.2; omega) (hc.room ho hE45).1 (hc.room ho hE45).2 dX7_init_52 (fun q43 H hw hi44 => ?_)
  have hi47 := Is.up his0 (Ext.aS S 103 xs1.toNatClampNeg xs1.toNatClampNeg) (up_lt (q := q43))
  have hi48 := Is.up hi0 (Ext.aS S 103 xs1.toNatClampNeg xs1.toNatClampNeg) (up_lt (q := q43))
  have hc := hc.new 103 xs1.toNatClampNeg xs1.toNatClampNeg q43
  exact w_X7_init_54 hC hin hR ho o0 a0 x3 x4 os0 as0 (sN S) q43 _ _ _ _ _ _ _ _ hi48 hi47 hi44 hw hc (lv_sub hl [0, 1, 2] rfl) h --j49
theorem mn_X7_init_38 {r : Unit} {S' : sh} {D' : dt} {o0 : Nat} {x1 : Int32} {x3 : Int32} {x4 : Int32} {os0 : Nat} {os1 : Nat} {S : sh} {D : dt} (h : f_X7_init_38 o0 x1 x3 x4 os0 os1 S D = some (r, S', D')) : Ext S S' := by
  unfold f_X7_init_38 at h
  have h := nm_i h _ rfl
  rcases (Decidable.em (x1 = 0)) with c51 | c51
  · have h := i_yes c51 h
    exact (mn_X7_init_52 h)
  · have h := i_no c51 h
    exact (mn_X7_init_52 h)
set_option maxHeartbeats 4000000 in
set_option maxRecDepth 100000 in
theorem w_X7_init_38 {r : Unit} {S' : sh} {D' : dt} {S0 : sh} {ad0 : Nat → Nat} (hC : Cx RX7 cX7_init 5 none p s m args meth c) (hin : meth.name = "<init>") (hR : 1 ≤ R.frames ∧ 20 ≤ R.locals) (ho : R.cells = sN S' - sN S0 ∧ R.slots = sZ S' - sZ S0) : ∀ (o0 a0 : Nat) (x1 : Int32) (x3 : Int32) (x4 : Int32) (os0 as0 : Nat) (os1 as1 : Nat) (S : sh) (D : dt) (ad : Nat → Nat) (H : Heap) (locs : List Loc) (ls : Array Slot) (cells slots : Nat), Is S ad o0 a0 6 → Is S ad os0 as0 6 → Is S ad os1 as1 101 → Wd G cA S D ad A s H locs → Al S0 ad0 S ad cells slots → lv_has ls 5 [(0, .ref a0), (1, .int x1), (3, .int x3), (4, .int x4)] → f_X7_init_38 o0 x1 x3 x4 os0 os1 S D = some (r, S', D') → W p l e R s m args below meth c H locs cells slots (MQ below (Qa (fun _ => none) (fun ad' => (∀ k, k < sN S0 → ad' k = ad0 k) ∧ True) (fun ad' => wpost G cA S' D' ad' A) A) args s (sN S' - sN S0) (sZ S' - sZ S0) A) (F0 m 38 ls [.ref as1, .ref as0]) := by
  obtain ⟨hx, hb, -⟩ := id hC
  intro o0 a0 x1 x3 x4 os0 as0 os1 as1 S D ad H locs ls cells slots hi0 his0 his1 hw hc hl h
  have hE : Ext S S' := mn_X7_init_38  h
  unfold f_X7_init_38 at h
  refine r_pRF hC hin hw kc_6 his0 4 rfl lk_412 rfl rfl rfl rfl rfl his1 dX7_init_38 (fun D50 eD50 H locs hw => ?_)
  have h := nm_i h D50 eD50
  refine lv_aload_n hx hb dX7_init_41 rfl (lv_at hl 0 rfl) ?_
  refine lv_iload_n hx hb dX7_init_42 rfl (lv_at hl 1 rfl) ?_
  refine lv_if_eq (tgt := 50) hx hb dX7_init_43 (by decide) (fun c51 => ?_) (fun c51 => ?_)
  · have h := i_yes c51 h
    refine lv_iload hx hb dX7_init_50 (lv_at hl 3 rfl) ?_
    exact w_X7_init_52 hC hin hR ho o0 a0 x3 x4 o0 a0 x4 _ _ _ _ _ _ _ _ hi0 hi0 hw hc (lv_sub hl [0, 2, 3] rfl) h --j52
  · have h := i_no c51 h
    refine lv_iconst (v := 0) hx hb dX7_init_46 (by decide) ?_
    refine lv_goto (tgt := 52) hx hb dX7_init_47 (by decide) ?_
    exact w_X7_init_52 hC hin hR ho o0 a0 x3 x4 o0 a0 (0 : Int32) _ _ _ _ _ _ _ _ hi0 hi0 hw hc (lv_sub hl [0, 2, 3] rfl) h --j53
theorem mn_X7_init_36 {r : Unit} {S' : sh} {D' : dt} {o0 : Nat} {x1 : Int32} {x3 : Int32} {x4 : Int32} {os0 : Nat} {xs1 : Int32} {S : sh} {D : dt} (h : f_X7_init_36 o0 x1 x3 x4 os0 xs1 S D = some (r, S', D')) : Ext S S' := by
  unfold f_X7_init_36 at h
  obtain ⟨hz57, h⟩ := ck_i h
  have hA := (Ext.aS S 101 xs1.toNatClampNeg xs1.toNatClampNeg)
  exact hA.tr (mn_X7_init_38 h)
set_option maxHeartbeats 4000000 in
set_option maxRecDepth 100000 in
theorem w_X7_init_36 {r : Unit} {S' : sh} {D' : dt} {S0 : sh} {ad0 : Nat → Nat} (hC : Cx RX7 cX7_init 5 none p s m args meth c) (hin : meth.name = "<init>") (hR : 1 ≤ R.frames ∧ 20 ≤ R.locals) (ho : R.cells = sN S' - sN S0 ∧ R.slots = sZ S' - sZ S0) : ∀ (o0 a0 : Nat) (x1 : Int32) (x3 : Int32) (x4 : Int32) (os0 as0 : Nat) (xs1 : Int32) (S : sh) (D : dt) (ad : Nat → Nat) (H : Heap) (locs : List Loc) (ls : Array Slot) (cells slots : Nat), Is S ad o0 a0 6 → Is S ad os0 as0 6 → Wd G cA S D ad A s H locs → Al S0 ad0 S ad cells slots → lv_has ls 5 [(0, .ref a0), (1, .int x1), (3, .int x3), (4, .int x4)] → f_X7_init_36 o0 x1 x3 x4 os0 xs1 S D = some (r, S', D') → W p l e R s m args below meth c H locs cells slots (MQ below (Qa (fun _ => none) (fun ad' => (∀ k, k < sN S0 → ad' k = ad0 k) ∧ True) (fun ad' => wpost G cA S' D' ad' A) A) args s (sN S' - sN S0) (sZ S' - sZ S0) A) (F0 m 36 ls [.int xs1, .ref as0]) := by
  obtain ⟨hx, hb, -⟩ := id hC
  intro o0 a0 x1 x3 x4 os0 as0 xs1 S D ad H locs ls cells slots hi0 his0 hw hc hl h
  have hE : Ext S S' := mn_X7_init_36  h
  unfold f_X7_init_36 at h
  obtain ⟨hz57, h⟩ := ck_i h
  have hE56 := mn_X7_init_38 h
  refine r_newL hC hw lk_249 hz57.1 rfl (by have := hz57.2; omega) (hc.room ho hE56).1 (hc.room ho hE56).2 dX7_init_36 (fun q54 H hw hi55 => ?_)
  have hi58 := Is.up his0 (Ext.aS S 101 xs1.toNatClampNeg xs1.toNatClampNeg) (up_lt (q := q54))
  have hi59 := Is.up hi0 (Ext.aS S 101 xs1.toNatClampNeg xs1.toNatClampNeg) (up_lt (q := q54))
  have hc := hc.new 101 xs1.toNatClampNeg xs1.toNatClampNeg q54
  exact w_X7_init_38 hC hin hR ho o0 a0 x1 x3 x4 os0 as0 (sN S) q54 _ _ _ _ _ _ _ _ hi59 hi58 hi55 hw hc (lv_sub hl [0, 1, 2, 3] rfl) h --j60
theorem mn_X7_init_0 {r : Unit} {S' : sh} {D' : dt} {o0 : Nat} {x1 : Int32} {x2 : Int32} {x3 : Int32} {x4 : Int32} {S : sh} {D : dt} (h : f_X7_init o0 x1 x2 x3 x4 S D = some (r, S', D')) : Ext S S' := by
  unfold f_X7_init at h
  obtain ⟨hz62, h⟩ := ck_i h
  have h := nm_i h _ rfl
  have h := nm_i h _ rfl
  have h := nm_i h _ rfl
  have h := nm_i h _ rfl
  rcases (Decidable.em (x1 = 0)) with c66 | c66
  · have h := i_yes c66 h
    exact (mn_X7_init_36 h)
  · have h := i_no c66 h
    exact (mn_X7_init_36 h)
set_option maxHeartbeats 4000000 in
set_option maxRecDepth 100000 in
theorem w_X7_init_0 {r : Unit} {S' : sh} {D' : dt} {S0 : sh} {ad0 : Nat → Nat} (hC : Cx RX7 cX7_init 5 none p s m args meth c) (hin : meth.name = "<init>") (hR : 1 ≤ R.frames ∧ 20 ≤ R.locals) (ho : R.cells = sN S' - sN S0 ∧ R.slots = sZ S' - sZ S0) : ∀ (o0 a0 : Nat) (x1 : Int32) (x2 : Int32) (x3 : Int32) (x4 : Int32) (S : sh) (D : dt) (ad : Nat → Nat) (H : Heap) (locs : List Loc) (ls : Array Slot) (cells slots : Nat), Is S ad o0 a0 6 → Wd G cA S D ad A s H locs → Al S0 ad0 S ad cells slots → lv_has ls 5 [(0, .ref a0), (1, .int x1), (2, .int x2), (3, .int x3), (4, .int x4)] → f_X7_init o0 x1 x2 x3 x4 S D = some (r, S', D') → W p l e R s m args below meth c H locs cells slots (MQ below (Qa (fun _ => none) (fun ad' => (∀ k, k < sN S0 → ad' k = ad0 k) ∧ True) (fun ad' => wpost G cA S' D' ad' A) A) args s (sN S' - sN S0) (sZ S' - sZ S0) A) (F0 m 0 ls []) := by
  obtain ⟨hx, hb, -⟩ := id hC
  intro o0 a0 x1 x2 x3 x4 S D ad H locs ls cells slots hi0 hw hc hl h
  have hE : Ext S S' := mn_X7_init_0  h
  unfold f_X7_init at h
  refine lv_aload_n hx hb dX7_init_0 rfl (lv_at hl 0 rfl) ?_
  refine W.objInit hx hb hC.2.2.2.1 (hC.2.2.2.2.1 _ lk_401) (hC.2.2.2.2.1 _ lk_133) (hC.2.2.2.2.1 _ cd_obj) rfl (by rw [hC.2.2.1]; exact hl.1) rfl dX7_init_1 (Nat.le_trans (by decide) hR.1) (Nat.le_trans (Nat.le_of_ble_eq_true rfl) hR.2) ?_
  refine W.eq (g2 := F0 m 4 ls []) rfl ?_
  refine lv_aload_n hx hb dX7_init_4 rfl (lv_at hl 0 rfl) ?_
  refine lv_iload_n hx hb dX7_init_5 rfl (lv_at hl 1 rfl) ?_
  obtain ⟨hz62, h⟩ := ck_i h
  refine r_pIF hC hin hw kc_6 hi0 0 rfl lk_402 rfl rfl (nar_z hz62) (fit_z hz62) dX7_init_6 (fun D61 eD61 H locs hw => ?_)
  have h := nm_i h D61 eD61
  refine lv_aload_n hx hb dX7_init_9 rfl (lv_at hl 0 rfl) ?_
  refine lv_iload_n hx hb dX7_init_10 rfl (lv_at hl 2 rfl) ?_
  refine r_pIF hC hin hw kc_6 hi0 1 rfl lk_403 rfl rfl rfl rfl dX7_init_11 (fun D63 eD63 H locs hw => ?_)
  have h := nm_i h D63 eD63
  refine lv_aload_n hx hb dX7_init_14 rfl (lv_at hl 0 rfl) ?_
  refine lv_iload_n hx hb dX7_init_15 rfl (lv_at hl 3 rfl) ?_
  refine r_pIF hC hin hw kc_6 hi0 2 rfl lk_406 rfl rfl rfl rfl dX7_init_16 (fun D64 eD64 H locs hw => ?_)
  have h := nm_i h D64 eD64
  refine lv_aload_n hx hb dX7_init_19 rfl (lv_at hl 0 rfl) ?_
  refine lv_iload hx hb dX7_init_20 (lv_at hl 4 rfl) ?_
  refine r_pIF hC hin hw kc_6 hi0 3 rfl lk_410 rfl rfl rfl rfl dX7_init_22 (fun D65 eD65 H locs hw => ?_)
  have h := nm_i h D65 eD65
  refine lv_aload_n hx hb dX7_init_25 rfl (lv_at hl 0 rfl) ?_
  refine lv_iload_n hx hb dX7_init_26 rfl (lv_at hl 1 rfl) ?_
  refine lv_if_eq (tgt := 34) hx hb dX7_init_27 (by decide) (fun c66 => ?_) (fun c66 => ?_)
  · have h := i_yes c66 h
    refine lv_iload hx hb dX7_init_34 (lv_at hl 4 rfl) ?_
    exact w_X7_init_36 hC hin hR ho o0 a0 x1 x3 x4 o0 a0 x4 _ _ _ _ _ _ _ _ hi0 hi0 hw hc (lv_sub hl [0, 1, 3, 4] rfl) h --j67
  · have h := i_no c66 h
    refine lv_iconst (v := 0) hx hb dX7_init_30 (by decide) ?_
    refine lv_goto (tgt := 36) hx hb dX7_init_31 (by decide) ?_
    exact w_X7_init_36 hC hin hR ho o0 a0 x1 x3 x4 o0 a0 (0 : Int32) _ _ _ _ _ _ _ _ hi0 hi0 hw hc (lv_sub hl [0, 1, 3, 4] rfl) h --j68
set_option maxHeartbeats 4000000 in
set_option maxRecDepth 100000 in
theorem k_X7_init {l : Launch} {G : va_G} {cA : Nat → ClassId} {S S' : sh} {D D' : dt} {ad : Nat → Nat} (sz : Nat) {o0 a0 : Nat} {x1 : Int32} {x2 : Int32} {x3 : Int32} {x4 : Int32} {r : Unit} (hi0 : Is S ad o0 a0 6) (h : f_X7_init o0 x1 x2 x3 x4 S D = some (r, S', D')) : CoA l yX7_init (Cond.code yX7_init cX7_init 5 none :: tb0) 1 20 [.ref a0, .int x1, .int x2, .int x3, .int x4] G cA S D ad sz (fun _ => none) True S' D' := by
  refine Met.ofW (cc := cX7_init) (maxL := 5) (ret := none) (by decide) rfl ?_
  intro p e s m args below meth c s₁ B hml hv
  obtain ⟨rfl, hsz, hP, hK, hD0, hT, hX⟩ := hv
  subst hsz
  have hts := atoms_spec (ws := Cond.code yX7_init cX7_init 5 none :: tb0) B.pre
  have hC : Cx RX7 cX7_init 5 none p s m _ meth c := ⟨B.exec, B.bytes, hml, findClass_of_methodNamed B.named, fun w q => hts w (List.mem_cons_of_mem _ q), B.returns, B.notSynchronized⟩
  have hin : meth.name = "<init>" := (name_of_methodNamed B.named B.method).1
  have hw := Wd.entry hP hK hD0 hT hX
  have hl := lv_entry ([.ref a0, .int x1, .int x2, .int x3, .int x4]) (n := 5) (Nat.le_of_ble_eq_true rfl)
  rw [lg_entry_eq]
  exact w_X7_init_0 hC hin ⟨Nat.le_refl _, Nat.le_refl _⟩ ⟨rfl, rfl⟩ o0 a0 x1 x2 x3 x4 S D ad _ _ _ 0 0 hi0 hw (Al.rf S ad) hl h
set_option maxHeartbeats 4000000 in
set_option maxRecDepth 100000 in
theorem w_X7_numberOf_63 {r : Int32} (hC : Cx RX7 cX7_numberOf 4 (some .int) p s m args meth c) (hR : 0 ≤ R.frames ∧ 0 ≤ R.locals) {k32 : Nat → Int64 → Int32 → Option Int32} (hk32 : ∀ (o0 a0 : Nat) (x1 : Int64) (x3 : Int32) (H : Heap) (locs : List Loc) (ls : Array Slot), Is S ad o0 a0 6 → Wd G cA S D ad A s H locs → lv_has ls 4 [(0, .ref a0), (1, .long x1), (3, .int x3)] → k32 o0 x1 x3 = some r → W p l e R s m args below meth c H locs 0 0 (MQ below (Qn (some (.int r)) True (wpost G cA S D ad A) A) args s 0 0 A) (F0 m 32 ls [])) : ∀ (o0 a0 : Nat) (x1 : Int64) (x3 : Int32) (H : Heap) (locs : List Loc) (ls : Array Slot), Is S ad o0 a0 6 → Wd G cA S D ad A s H locs → lv_has ls 4 [(0, .ref a0), (1, .long x1), (3, .int x3)] → f_X7_numberOf_63 S D k32 o0 x1 x3 = some r → W p l e R s m args below meth c H locs 0 0 (MQ below (Qn (some (.int r)) True (wpost G cA S D ad A) A) args s 0 0 A) (F0 m 63 ls []) := by
  obtain ⟨hx, hb, -⟩ := id hC
  intro o0 a0 x1 x3 H locs ls hi0 hw hl h
  unfold f_X7_numberOf_63 at h
  obtain ⟨y23, ey23⟩ : ∃ z : Int32, z = x3 + 1 := ⟨_, rfl⟩
  have h := nm_i h y23 ey23
  refine lv_iinc (v := y23) (lv' := [(3, .int y23), (0, .ref a0), (1, .long x1)]) hx hb dX7_numberOf_63 hl (k := 2) rfl (by rw [ey23]; rfl) (by decide) rfl (fun ls hl => ?_)
  refine lv_goto (tgt := 32) hx hb dX7_numberOf_66 (by decide) ?_
  exact hk32 o0 a0 x1 y23 _ _ _ hi0 hw (lv_sub hl [1, 2, 0] rfl) h
set_option maxHeartbeats 4000000 in
set_option maxRecDepth 100000 in
theorem w_X7_numberOf_32 {r : Int32} (hC : Cx RX7 cX7_numberOf 4 (some .int) p s m args meth c) (hR : 0 ≤ R.frames ∧ 0 ≤ R.locals) : ∀ (n : Nat), ∀ (o0 a0 : Nat) (x1 : Int64) (x3 : Int32) (H : Heap) (locs : List Loc) (ls : Array Slot), Is S ad o0 a0 6 → Wd G cA S D ad A s H locs → lv_has ls 4 [(0, .ref a0), (1, .long x1), (3, .int x3)] → f_X7_numberOf_32 S D n o0 x1 x3 = some r → W p l e R s m args below meth c H locs 0 0 (MQ below (Qn (some (.int r)) True (wpost G cA S D ad A) A) args s 0 0 A) (F0 m 32 ls []) := by
  obtain ⟨hx, hb, -⟩ := id hC
  intro n
  induction n with
  | zero =>
    intro o0 a0 x1 x3 H locs ls hi0 hw hl h
    rw [f_X7_numberOf_32.eq_1] at h
    cases h
  | succ n ih =>
    intro o0 a0 x1 x3 H locs ls hi0 hw hl h
    rw [f_X7_numberOf_32.eq_2] at h
    refine lv_iload_n hx hb dX7_numberOf_32 rfl (lv_at hl 2 rfl) ?_
    refine lv_aload_n hx hb dX7_numberOf_33 rfl (lv_at hl 0 rfl) ?_
    obtain ⟨o24, ho27, h⟩ := rq_i h
    refine r_getR hC hw kc_6 hi0 5 rfl lk_413 dX7_numberOf_34 rfl ho27 (fun a25 hi26 => ?_)
    refine r_alen hC hw hi26 (by decide) 3 rfl dX7_numberOf_37 ?_
    refine lv_icmp_ge (tgt := 69) hx hb dX7_numberOf_38 (by decide) (fun c28 => ?_) (fun c28 => ?_)
    · have h := i_yes c28 h
      refine lv_iconst (v := (-1)) hx hb dX7_numberOf_69 (by decide) ?_
      cases h
      exact r_iret hC hw dX7_numberOf_70
    · have h := i_no c28 h
      refine lv_aload_n hx hb dX7_numberOf_41 rfl (lv_at hl 0 rfl) ?_
      obtain ⟨o29, ho32, h⟩ := rq_i h
      refine r_getR hC hw kc_6 hi0 5 rfl lk_413 dX7_numberOf_42 rfl ho32 (fun a30 hi31 => ?_)
      refine lv_iload_n hx hb dX7_numberOf_45 rfl (lv_at hl 2 rfl) ?_
      obtain ⟨hn33, h⟩ := ix_i h
      refine r_zald hC hw hi31 hn33 dX7_numberOf_46 ?_
      refine lv_if_eq (tgt := 63) hx hb dX7_numberOf_47 (by decide) (fun c34 => ?_) (fun c34 => ?_)
      · have h := i_yes c34 h
        exact w_X7_numberOf_63 hC hR ih o0 a0 x1 x3 _ _ _ hi0 hw (lv_sub hl [0, 1, 2] rfl) h
      · have h := i_no c34 h
        refine lv_aload_n hx hb dX7_numberOf_50 rfl (lv_at hl 0 rfl) ?_
        obtain ⟨o35, ho38, h⟩ := rq_i h
        refine r_getR hC hw kc_6 hi0 4 rfl lk_412 dX7_numberOf_51 rfl ho38 (fun a36 hi37 => ?_)
        refine lv_iload_n hx hb dX7_numberOf_54 rfl (lv_at hl 2 rfl) ?_
        obtain ⟨hn39, h⟩ := ix_i h
        refine r_lald hC hw hi37 hn39 dX7_numberOf_55 ?_
        refine lv_lload_n hx hb dX7_numberOf_56 rfl (lv_at hl 1 rfl) ?_
        refine W.lcmp hx hb dX7_numberOf_57 ?_
        refine lv_if_ne (tgt := 63) hx hb dX7_numberOf_58 (by decide) (fun c40 => ?_) (fun c40 => ?_)
        · have h := i_no c40 h
          exact w_X7_numberOf_63 hC hR ih o0 a0 x1 x3 _ _ _ hi0 hw (lv_sub hl [0, 1, 2] rfl) h
        · have h := i_yes c40 h
          refine lv_iload_n hx hb dX7_numberOf_61 rfl (lv_at hl 2 rfl) ?_
          cases h
          exact r_iret hC hw dX7_numberOf_62
set_option maxHeartbeats 4000000 in
set_option maxRecDepth 100000 in
theorem w_X7_numberOf_0 {r : Int32} (hC : Cx RX7 cX7_numberOf 4 (some .int) p s m args meth c) (hR : 0 ≤ R.frames ∧ 0 ≤ R.locals) : ∀ (o0 a0 : Nat) (x1 : Int64) (H : Heap) (locs : List Loc) (ls : Array Slot), Is S ad o0 a0 6 → Wd G cA S D ad A s H locs → lv_has ls 4 [(0, .ref a0), (1, .long x1)] → f_X7_numberOf S D o0 x1 = some r → W p l e R s m args below meth c H locs 0 0 (MQ below (Qn (some (.int r)) True (wpost G cA S D ad A) A) args s 0 0 A) (F0 m 0 ls []) := by
  obtain ⟨hx, hb, -⟩ := id hC
  intro o0 a0 x1 H locs ls hi0 hw hl h
  unfold f_X7_numberOf at h
  refine lv_aload_n hx hb dX7_numberOf_0 rfl (lv_at hl 0 rfl) ?_
  refine r_gI hC hw kc_6 hi0 0 rfl lk_402 dX7_numberOf_1 ?_
  refine lv_if_eq (tgt := 30) hx hb dX7_numberOf_4 (by decide) (fun c41 => ?_) (fun c41 => ?_)
  · have h := i_yes c41 h
    refine lv_iconst (v := 0) hx hb dX7_numberOf_30 (by decide) ?_
    refine lv_topi (fun y42 ey42 => ?_)
    have h := nm_i h y42 ey42
    refine lv_istore_n (lv' := [(3, .int y42), (0, .ref a0), (1, .long x1)]) hx hb dX7_numberOf_31 rfl hl (by decide) rfl (fun ls hl => ?_)
    exact w_X7_numberOf_32 hC hR LF o0 a0 x1 y42 _ _ _ hi0 hw (lv_sub hl [1, 2, 0] rfl) h
  · have h := i_no c41 h
    refine lv_lload_n hx hb dX7_numberOf_7 rfl (lv_at hl 1 rfl) ?_
    refine lv_lconst (v := 0) hx hb dX7_numberOf_8 (by decide) ?_
    refine W.lcmp hx hb dX7_numberOf_9 ?_
    refine lv_if_lt (tgt := 28) hx hb dX7_numberOf_10 (by decide) (fun c43 => ?_) (fun c43 => ?_)
    · have h := i_yes c43 h
      refine lv_iconst (v := (-1)) hx hb dX7_numberOf_28 (by decide) ?_
      cases h
      exact r_iret hC hw dX7_numberOf_29
    · have h := i_no c43 h
      refine lv_lload_n hx hb dX7_numberOf_13 rfl (lv_at hl 1 rfl) ?_
      refine lv_aload_n hx hb dX7_numberOf_14 rfl (lv_at hl 0 rfl) ?_
      refine r_gI hC hw kc_6 hi0 3 rfl lk_410 dX7_numberOf_15 ?_
      refine lv_i2l (v := (gI D o0 3).toInt64) hx hb dX7_numberOf_18 rfl ?_
      refine W.lcmp hx hb dX7_numberOf_19 ?_
      refine lv_if_ge (tgt := 28) hx hb dX7_numberOf_20 (by decide) (fun c44 => ?_) (fun c44 => ?_)
      · have h := i_yes c44 h
        refine lv_iconst (v := (-1)) hx hb dX7_numberOf_28 (by decide) ?_
        cases h
        exact r_iret hC hw dX7_numberOf_29
      · have h := i_no c44 h
        refine lv_lload_n hx hb dX7_numberOf_23 rfl (lv_at hl 1 rfl) ?_
        refine lv_l2i (v := x1.toInt32) hx hb dX7_numberOf_24 rfl ?_
        refine lv_goto (tgt := 29) hx hb dX7_numberOf_25 (by decide) ?_
        cases h
        exact r_iret hC hw dX7_numberOf_29
set_option maxHeartbeats 4000000 in
set_option maxRecDepth 100000 in
theorem k_X7_numberOf {l : Launch} {G : va_G} {cA : Nat → ClassId} {S : sh} {D : dt} {ad : Nat → Nat} (sz : Nat) {o0 a0 : Nat} {x1 : Int64} {r : Int32} (hi0 : Is S ad o0 a0 6) (h : f_X7_numberOf S D o0 x1 = some r) : Co l yX7_numberOf (Cond.code yX7_numberOf cX7_numberOf 4 (some .int) :: tb0) 0 0 [.ref a0, .long x1] G cA S D ad sz (some (.int r)) True D := by
  refine Met.ofW (cc := cX7_numberOf) (maxL := 4) (ret := (some .int)) (by decide) rfl ?_
  intro p e s m args below meth c s₁ B hml hv
  obtain ⟨rfl, hsz, hP, hK, hD0, hT, hX⟩ := hv
  subst hsz
  have hts := atoms_spec (ws := Cond.code yX7_numberOf cX7_numberOf 4 (some .int) :: tb0) B.pre
  have hC : Cx RX7 cX7_numberOf 4 (some .int) p s m _ meth c := ⟨B.exec, B.bytes, hml, findClass_of_methodNamed B.named, fun w q => hts w (List.mem_cons_of_mem _ q), B.returns, B.notSynchronized⟩
  have hw := Wd.entry hP hK hD0 hT hX
  have hl := lv_entry ([.ref a0, .long x1]) (n := 4) (Nat.le_of_ble_eq_true rfl)
  rw [lg_entry_eq]
  exact w_X7_numberOf_0 hC ⟨Nat.le_refl _, Nat.le_refl _⟩ o0 a0 x1 _ _ _ hi0 hw hl h
set_option maxHeartbeats 4000000 in
set_option maxRecDepth 100000 in
theorem w_X7_removeKey_16 {r : Int32} {D' : dt} (hC : Cx RX7 cX7_removeKey 4 (some .boolean) p s m args meth c) (hR : 1 ≤ R.frames ∧ 23 ≤ R.locals) : ∀ (o0 a0 : Nat) (xs0 : Int32) (D : dt) (H : Heap) (locs : List Loc) (ls : Array Slot), Is S ad o0 a0 6 → Wd G cA S D ad A s H locs → lv_has ls 4 [(0, .ref a0)] → f_X7_removeKey_16 S o0 xs0 D = some (r, D') → W p l e R s m args below meth c H locs 0 0 (MQ below (Qn (some (.int r)) True (wpost G cA S D' ad A) A) args s 0 0 A) (F0 m 16 ls [.int xs0]) := by
  obtain ⟨hx, hb, -⟩ := id hC
  intro o0 a0 xs0 D H locs ls hi0 hw hl h
  unfold f_X7_removeKey_16 at h
  refine lv_istore_n (lv' := [(3, .int xs0), (0, .ref a0)]) hx hb dX7_removeKey_16 rfl hl (by decide) rfl (fun ls hl => ?_)
  refine lv_iload_n hx hb dX7_removeKey_17 rfl (lv_at hl 0 rfl) ?_
  refine lv_if_ge (tgt := 23) hx hb dX7_removeKey_18 (by decide) (fun c11 => ?_) (fun c11 => ?_)
  · have h := i_yes c11 h
    refine lv_aload_n hx hb dX7_removeKey_23 rfl (lv_at hl 1 rfl) ?_
    obtain ⟨o12, ho15, h⟩ := rq_i h
    refine r_getR hC hw kc_6 hi0 5 rfl lk_413 dX7_removeKey_24 rfl ho15 (fun a13 hi14 => ?_)
    refine lv_iload_n hx hb dX7_removeKey_27 rfl (lv_at hl 0 rfl) ?_
    refine lv_iconst (v := 0) hx hb dX7_removeKey_28 (by decide) ?_
    obtain ⟨hn16, h⟩ := ix_i h
    refine r_zas hC hw hi14 hn16 dX7_removeKey_29 (fun D17 eD17 H locs hw => ?_)
    have h := nm_i h D17 eD17
    refine lv_iconst (v := 1) hx hb dX7_removeKey_30 (by decide) ?_
    cases h
    exact r_zret hC hw (Or.inr rfl) dX7_removeKey_31
  · have h := i_no c11 h
    refine lv_iconst (v := 0) hx hb dX7_removeKey_21 (by decide) ?_
    cases h
    exact r_zret hC hw (Or.inl rfl) dX7_removeKey_22
set_option maxHeartbeats 4000000 in
set_option maxRecDepth 100000 in
theorem w_X7_removeKey_0 {r : Int32} {D' : dt} (hC : Cx RX7 cX7_removeKey 4 (some .boolean) p s m args meth c) (hR : 1 ≤ R.frames ∧ 23 ≤ R.locals) : ∀ (o0 a0 : Nat) (x1 : Int64) (D : dt) (H : Heap) (locs : List Loc) (ls : Array Slot), Is S ad o0 a0 6 → Wd G cA S D ad A s H locs → lv_has ls 4 [(0, .ref a0), (1, .long x1)] → f_X7_removeKey S o0 x1 D = some (r, D') → W p l e R s m args below meth c H locs 0 0 (MQ below (Qn (some (.int r)) True (wpost G cA S D' ad A) A) args s 0 0 A) (F0 m 0 ls []) := by
  obtain ⟨hx, hb, -⟩ := id hC
  intro o0 a0 x1 D H locs ls hi0 hw hl h
  unfold f_X7_removeKey at h
  refine lv_aload_n hx hb dX7_removeKey_0 rfl (lv_at hl 0 rfl) ?_
  refine r_gI hC hw kc_6 hi0 0 rfl lk_402 dX7_removeKey_1 ?_
  refine lv_if_eq (tgt := 11) hx hb dX7_removeKey_4 (by decide) (fun c18 => ?_) (fun c18 => ?_)
  · have h := i_yes c18 h
    refine lv_aload_n hx hb dX7_removeKey_11 rfl (lv_at hl 0 rfl) ?_
    refine lv_lload_n hx hb dX7_removeKey_12 rfl (lv_at hl 1 rfl) ?_
    obtain ⟨r20, hq19, h⟩ := pq_i h
    refine r_cV (st' := [.int r20]) [.long x1] [] hC hw kc_6 hi0 (k_X7_numberOf _ hi0 hq19) mk_X7_numberOf lk_1000 ⟨Nat.le_trans (by decide) hR.1, Nat.le_trans (by decide) hR.2⟩ ⟨Nat.zero_le _, Nat.zero_le _⟩ rfl hl.1 rfl rfl (Nat.le_of_ble_eq_true rfl) dX7_removeKey_13 (fun hP H locs hw => ?_)
    exact w_X7_removeKey_16 hC hR o0 a0 r20 _ _ _ _ hi0 hw (lv_sub hl [0] rfl) h
  · have h := i_no c18 h
    refine lv_iconst (v := (-1)) hx hb dX7_removeKey_7 (by decide) ?_
    refine lv_goto (tgt := 16) hx hb dX7_removeKey_8 (by decide) ?_
    exact w_X7_removeKey_16 hC hR o0 a0 (-1 : Int32) _ _ _ _ hi0 hw (lv_sub hl [0] rfl) h
set_option maxHeartbeats 4000000 in
set_option maxRecDepth 100000 in
theorem k_X7_removeKey {l : Launch} {G : va_G} {cA : Nat → ClassId} {S : sh} {D D' : dt} {ad : Nat → Nat} (sz : Nat) {o0 a0 : Nat} {x1 : Int64} {r : Int32} (hi0 : Is S ad o0 a0 6) (h : f_X7_removeKey S o0 x1 D = some (r, D')) : Co l yX7_removeKey (Cond.code yX7_removeKey cX7_removeKey 4 (some .boolean) :: tb0) 1 23 [.ref a0, .long x1] G cA S D ad sz (some (.int r)) True D' := by
  refine Met.ofW (cc := cX7_removeKey) (maxL := 4) (ret := (some .boolean)) (by decide) rfl ?_
  intro p e s m args below meth c s₁ B hml hv
  obtain ⟨rfl, hsz, hP, hK, hD0, hT, hX⟩ := hv
  subst hsz
  have hts := atoms_spec (ws := Cond.code yX7_removeKey cX7_removeKey 4 (some .boolean) :: tb0) B.pre
  have hC : Cx RX7 cX7_removeKey 4 (some .boolean) p s m _ meth c := ⟨B.exec, B.bytes, hml, findClass_of_methodNamed B.named, fun w q => hts w (List.mem_cons_of_mem _ q), B.returns, B.notSynchronized⟩
  have hw := Wd.entry hP hK hD0 hT hX
  have hl := lv_entry ([.ref a0, .long x1]) (n := 4) (Nat.le_of_ble_eq_true rfl)
  rw [lg_entry_eq]
  exact w_X7_removeKey_0 hC ⟨Nat.le_refl _, Nat.le_refl _⟩ o0 a0 x1 D _ _ _ hi0 hw hl h
set_option maxHeartbeats 4000000 in
set_option maxRecDepth 100000 in
theorem w_X7_addKey_2 {r : Int32} {D' : dt} (hC : Cx RX7 cX7_addKey 4 (some .int) p s m args meth c) (hR : 0 ≤ R.frames ∧ 0 ≤ R.locals) : ∀ (n : Nat), ∀ (o0 a0 : Nat) (x1 : Int64) (x3 : Int32) (D : dt) (H : Heap) (locs : List Loc) (ls : Array Slot), Is S ad o0 a0 6 → Wd G cA S D ad A s H locs → lv_has ls 4 [(0, .ref a0), (1, .long x1), (3, .int x3)] → f_X7_addKey_2 S n o0 x1 x3 D = some (r, D') → W p l e R s m args below meth c H locs 0 0 (MQ below (Qn (some (.int r)) True (wpost G cA S D' ad A) A) args s 0 0 A) (F0 m 2 ls []) := by
  obtain ⟨hx, hb, -⟩ := id hC
  intro n
  induction n with
  | zero =>
    intro o0 a0 x1 x3 D H locs ls hi0 hw hl h
    rw [f_X7_addKey_2.eq_1] at h
    cases h
  | succ n ih =>
    intro o0 a0 x1 x3 D H locs ls hi0 hw hl h
    rw [f_X7_addKey_2.eq_2] at h
    refine lv_iload_n hx hb dX7_addKey_2 rfl (lv_at hl 2 rfl) ?_
    refine lv_aload_n hx hb dX7_addKey_3 rfl (lv_at hl 0 rfl) ?_
    obtain ⟨o26, ho29, h⟩ := rq_i h
    refine r_getR hC hw kc_6 hi0 5 rfl lk_413 dX7_addKey_4 rfl ho29 (fun a27 hi28 => ?_)
    refine r_alen hC hw hi28 (by decide) 3 rfl dX7_addKey_7 ?_
    refine lv_icmp_ge (tgt := 42) hx hb dX7_addKey_8 (by decide) (fun c30 => ?_) (fun c30 => ?_)
    · have h := i_yes c30 h
      refine lv_iconst (v := (-1)) hx hb dX7_addKey_42 (by decide) ?_
      cases h
      exact r_iret hC hw dX7_addKey_43
    · have h := i_no c30 h
      refine lv_aload_n hx hb dX7_addKey_11 rfl (lv_at hl 0 rfl) ?_
      obtain ⟨o31, ho34, h⟩ := rq_i h
      refine r_getR hC hw kc_6 hi0 5 rfl lk_413 dX7_addKey_12 rfl ho34 (fun a32 hi33 => ?_)
      refine lv_iload_n hx hb dX7_addKey_15 rfl (lv_at hl 2 rfl) ?_
      obtain ⟨hn35, h⟩ := ix_i h
      refine r_zald hC hw hi33 hn35 dX7_addKey_16 ?_
      refine lv_if_ne (tgt := 36) hx hb dX7_addKey_17 (by decide) (fun c36 => ?_) (fun c36 => ?_)
      · have h := i_no c36 h
        obtain ⟨y37, ey37⟩ : ∃ z : Int32, z = x3 + 1 := ⟨_, rfl⟩
        have h := nm_i h y37 ey37
        refine lv_iinc (v := y37) (lv' := [(3, .int y37), (0, .ref a0), (1, .long x1)]) hx hb dX7_addKey_36 hl (k := 2) rfl (by rw [ey37]; rfl) (by decide) rfl (fun ls hl => ?_)
        refine lv_goto (tgt := 2) hx hb dX7_addKey_39 (by decide) ?_
        exact ih o0 a0 x1 y37 _ _ _ _ hi0 hw (lv_sub hl [1, 2, 0] rfl) h
      · have h := i_yes c36 h
        refine lv_aload_n hx hb dX7_addKey_20 rfl (lv_at hl 0 rfl) ?_
        obtain ⟨o38, ho41, h⟩ := rq_i h
        refine r_getR hC hw kc_6 hi0 5 rfl lk_413 dX7_addKey_21 rfl ho41 (fun a39 hi40 => ?_)
        refine lv_iload_n hx hb dX7_addKey_24 rfl (lv_at hl 2 rfl) ?_
        refine lv_iconst (v := 1) hx hb dX7_addKey_25 (by decide) ?_
        obtain ⟨hn42, h⟩ := ix_i h
        refine r_zas hC hw hi40 hn42 dX7_addKey_26 (fun D43 eD43 H locs hw => ?_)
        have h := nm_i h D43 eD43
        refine lv_aload_n hx hb dX7_addKey_27 rfl (lv_at hl 0 rfl) ?_
        obtain ⟨o44, ho47, h⟩ := rq_i h
        refine r_getR hC hw kc_6 hi0 4 rfl lk_412 dX7_addKey_28 rfl ho47 (fun a45 hi46 => ?_)
        refine lv_iload_n hx hb dX7_addKey_31 rfl (lv_at hl 2 rfl) ?_
        refine lv_lload_n hx hb dX7_addKey_32 rfl (lv_at hl 1 rfl) ?_
        obtain ⟨hn48, h⟩ := ix_i h
        refine r_las hC hw hi46 hn48 dX7_addKey_33 (fun D49 eD49 H locs hw => ?_)
        have h := nm_i h D49 eD49
        refine lv_iload_n hx hb dX7_addKey_34 rfl (lv_at hl 2 rfl) ?_
        cases h
        exact r_iret hC hw dX7_addKey_35
set_option maxHeartbeats 4000000 in
set_option maxRecDepth 100000 in
theorem w_X7_addKey_0 {r : Int32} {D' : dt} (hC : Cx RX7 cX7_addKey 4 (some .int) p s m args meth c) (hR : 0 ≤ R.frames ∧ 0 ≤ R.locals) : ∀ (o0 a0 : Nat) (x1 : Int64) (D : dt) (H : Heap) (locs : List Loc) (ls : Array Slot), Is S ad o0 a0 6 → Wd G cA S D ad A s H locs → lv_has ls 4 [(0, .ref a0), (1, .long x1)] → f_X7_addKey S o0 x1 D = some (r, D') → W p l e R s m args below meth c H locs 0 0 (MQ below (Qn (some (.int r)) True (wpost G cA S D' ad A) A) args s 0 0 A) (F0 m 0 ls []) := by
  obtain ⟨hx, hb, -⟩ := id hC
  intro o0 a0 x1 D H locs ls hi0 hw hl h
  unfold f_X7_addKey at h
  refine lv_iconst (v := 0) hx hb dX7_addKey_0 (by decide) ?_
  refine lv_topi (fun y50 ey50 => ?_)
  have h := nm_i h y50 ey50
  refine lv_istore_n (lv' := [(3, .int y50), (0, .ref a0), (1, .long x1)]) hx hb dX7_addKey_1 rfl hl (by decide) rfl (fun ls hl => ?_)
  exact w_X7_addKey_2 hC hR LF o0 a0 x1 y50 _ _ _ _ hi0 hw (lv_sub hl [1, 2, 0] rfl) h
set_option maxHeartbeats 4000000 in
set_option maxRecDepth 100000 in
theorem k_X7_addKey {l : Launch} {G : va_G} {cA : Nat → ClassId} {S : sh} {D D' : dt} {ad : Nat → Nat} (sz : Nat) {o0 a0 : Nat} {x1 : Int64} {r : Int32} (hi0 : Is S ad o0 a0 6) (h : f_X7_addKey S o0 x1 D = some (r, D')) : Co l yX7_addKey (Cond.code yX7_addKey cX7_addKey 4 (some .int) :: tb0) 0 0 [.ref a0, .long x1] G cA S D ad sz (some (.int r)) True D' := by
  refine Met.ofW (cc := cX7_addKey) (maxL := 4) (ret := (some .int)) (by decide) rfl ?_
  intro p e s m args below meth c s₁ B hml hv
  obtain ⟨rfl, hsz, hP, hK, hD0, hT, hX⟩ := hv
  subst hsz
  have hts := atoms_spec (ws := Cond.code yX7_addKey cX7_addKey 4 (some .int) :: tb0) B.pre
  have hC : Cx RX7 cX7_addKey 4 (some .int) p s m _ meth c := ⟨B.exec, B.bytes, hml, findClass_of_methodNamed B.named, fun w q => hts w (List.mem_cons_of_mem _ q), B.returns, B.notSynchronized⟩
  have hw := Wd.entry hP hK hD0 hT hX
  have hl := lv_entry ([.ref a0, .long x1]) (n := 4) (Nat.le_of_ble_eq_true rfl)
  rw [lg_entry_eq]
  exact w_X7_addKey_0 hC ⟨Nat.le_refl _, Nat.le_refl _⟩ o0 a0 x1 D _ _ _ hi0 hw hl h
set_option maxHeartbeats 4000000 in
set_option maxRecDepth 100000 in
theorem w_X7_numberToPut_29 {r : Int32} {D' : dt} (hC : Cx RX7 cX7_numberToPut 6 (some .int) p s m args meth c) (hR : 1 ≤ R.frames ∧ 23 ≤ R.locals) : ∀ (o0 a0 : Nat) (x1 : Int64) (x3 : Int64) (D : dt) (H : Heap) (locs : List Loc) (ls : Array Slot), Is S ad o0 a0 6 → Wd G cA S D ad A s H locs → lv_has ls 6 [(0, .ref a0), (1, .long x1), (3, .long x3)] → f_X7_numberToPut_29 S o0 x1 x3 D = some (r, D') → W p l e R s m args below meth c H locs 0 0 (MQ below (Qn (some (.int r)) True (wpost G cA S D' ad A) A) args s 0 0 A) (F0 m 29 ls []) := by
  obtain ⟨hx, hb, -⟩ := id hC
  intro o0 a0 x1 x3 D H locs ls hi0 hw hl h
  unfold f_X7_numberToPut_29 at h
  refine lv_aload_n hx hb dX7_numberToPut_29 rfl (lv_at hl 0 rfl) ?_
  refine lv_lload_n hx hb dX7_numberToPut_30 rfl (lv_at hl 1 rfl) ?_
  obtain ⟨r14, hq13, h⟩ := pq_i h
  refine r_cV (st' := [.int r14]) [.long x1] [] hC hw kc_6 hi0 (k_X7_numberOf _ hi0 hq13) mk_X7_numberOf lk_1000 ⟨Nat.le_trans (by decide) hR.1, Nat.le_trans (by decide) hR.2⟩ ⟨Nat.zero_le _, Nat.zero_le _⟩ rfl hl.1 rfl rfl (Nat.le_of_ble_eq_true rfl) dX7_numberToPut_31 (fun hP H locs hw => ?_)
  refine lv_istore (lv' := [(5, .int r14), (0, .ref a0), (1, .long x1), (3, .long x3)]) hx hb dX7_numberToPut_34 hl (by decide) rfl (fun ls hl => ?_)
  refine lv_iload hx hb dX7_numberToPut_36 (lv_at hl 0 rfl) ?_
  refine lv_if_lt (tgt := 54) hx hb dX7_numberToPut_38 (by decide) (fun c15 => ?_) (fun c15 => ?_)
  · have h := i_yes c15 h
    refine lv_lload_n hx hb dX7_numberToPut_54 rfl (lv_at hl 3 rfl) ?_
    refine lv_ldc2 (v := 2) hx hb hC.2.2.2.1 (hC.2.2.2.2.1 _ lk_1006) dX7_numberToPut_55 ?_
    refine W.lcmp hx hb dX7_numberToPut_58 ?_
    refine lv_if_ne (tgt := 66) hx hb dX7_numberToPut_59 (by decide) (fun c16 => ?_) (fun c16 => ?_)
    · have h := i_no c16 h
      refine lv_aload_n hx hb dX7_numberToPut_66 rfl (lv_at hl 1 rfl) ?_
      refine lv_lload_n hx hb dX7_numberToPut_67 rfl (lv_at hl 2 rfl) ?_
      obtain ⟨r18, D19, hq17, h⟩ := cq_i h
      refine r_cV (st' := [.int r18]) [.long x1] [] hC hw kc_6 hi0 (k_X7_addKey _ hi0 hq17) mk_X7_addKey lk_1007 ⟨Nat.le_trans (by decide) hR.1, Nat.le_trans (by decide) hR.2⟩ ⟨Nat.zero_le _, Nat.zero_le _⟩ rfl hl.1 rfl rfl (Nat.le_of_ble_eq_true rfl) dX7_numberToPut_68 (fun hP H locs hw => ?_)
      cases h
      exact r_iret hC hw dX7_numberToPut_71
    · have h := i_yes c16 h
      refine lv_iconst (v := (-1)) hx hb dX7_numberToPut_62 (by decide) ?_
      refine lv_goto (tgt := 71) hx hb dX7_numberToPut_63 (by decide) ?_
      cases h
      exact r_iret hC hw dX7_numberToPut_71
  · have h := i_no c15 h
    refine lv_lload_n hx hb dX7_numberToPut_41 rfl (lv_at hl 3 rfl) ?_
    refine lv_lconst (v := 1) hx hb dX7_numberToPut_42 (by decide) ?_
    refine W.lcmp hx hb dX7_numberToPut_43 ?_
    refine lv_if_ne (tgt := 51) hx hb dX7_numberToPut_44 (by decide) (fun c20 => ?_) (fun c20 => ?_)
    · have h := i_no c20 h
      refine lv_iload hx hb dX7_numberToPut_51 (lv_at hl 0 rfl) ?_
      cases h
      exact r_iret hC hw dX7_numberToPut_53
    · have h := i_yes c20 h
      refine lv_iconst (v := (-1)) hx hb dX7_numberToPut_47 (by decide) ?_
      refine lv_goto (tgt := 53) hx hb dX7_numberToPut_48 (by decide) ?_
      cases h
      exact r_iret hC hw dX7_numberToPut_53
set_option maxHeartbeats 4000000 in
set_option maxRecDepth 100000 in
theorem w_X7_numberToPut_0 {r : Int32} {D' : dt} (hC : Cx RX7 cX7_numberToPut 6 (some .int) p s m args meth c) (hR : 1 ≤ R.frames ∧ 23 ≤ R.locals) : ∀ (o0 a0 : Nat) (x1 : Int64) (x3 : Int64) (D : dt) (H : Heap) (locs : List Loc) (ls : Array Slot), Is S ad o0 a0 6 → Wd G cA S D ad A s H locs → lv_has ls 6 [(0, .ref a0), (1, .long x1), (3, .long x3)] → f_X7_numberToPut S o0 x1 x3 D = some (r, D') → W p l e R s m args below meth c H locs 0 0 (MQ below (Qn (some (.int r)) True (wpost G cA S D' ad A) A) args s 0 0 A) (F0 m 0 ls []) := by
  obtain ⟨hx, hb, -⟩ := id hC
  intro o0 a0 x1 x3 D H locs ls hi0 hw hl h
  unfold f_X7_numberToPut at h
  refine lv_lload_n hx hb dX7_numberToPut_0 rfl (lv_at hl 2 rfl) ?_
  refine lv_lconst (v := 0) hx hb dX7_numberToPut_1 (by decide) ?_
  refine W.lcmp hx hb dX7_numberToPut_2 ?_
  refine lv_if_lt (tgt := 27) hx hb dX7_numberToPut_3 (by decide) (fun c21 => ?_) (fun c21 => ?_)
  · have h := i_yes c21 h
    refine lv_iconst (v := (-1)) hx hb dX7_numberToPut_27 (by decide) ?_
    cases h
    exact r_iret hC hw dX7_numberToPut_28
  · have h := i_no c21 h
    refine lv_lload_n hx hb dX7_numberToPut_6 rfl (lv_at hl 2 rfl) ?_
    refine lv_ldc2 (v := 2) hx hb hC.2.2.2.1 (hC.2.2.2.2.1 _ lk_1006) dX7_numberToPut_7 ?_
    refine W.lcmp hx hb dX7_numberToPut_10 ?_
    refine lv_if_gt (tgt := 27) hx hb dX7_numberToPut_11 (by decide) (fun c22 => ?_) (fun c22 => ?_)
    · have h := i_yes c22 h
      refine lv_iconst (v := (-1)) hx hb dX7_numberToPut_27 (by decide) ?_
      cases h
      exact r_iret hC hw dX7_numberToPut_28
    · have h := i_no c22 h
      refine lv_aload_n hx hb dX7_numberToPut_14 rfl (lv_at hl 0 rfl) ?_
      refine r_gI hC hw kc_6 hi0 0 rfl lk_402 dX7_numberToPut_15 ?_
      refine lv_if_eq (tgt := 29) hx hb dX7_numberToPut_18 (by decide) (fun c23 => ?_) (fun c23 => ?_)
      · have h := i_yes c23 h
        exact w_X7_numberToPut_29 hC hR o0 a0 x1 x3 _ _ _ _ hi0 hw (lv_sub hl [0, 1, 2] rfl) h
      · have h := i_no c23 h
        refine lv_lload_n hx hb dX7_numberToPut_21 rfl (lv_at hl 2 rfl) ?_
        refine lv_lconst (v := 1) hx hb dX7_numberToPut_22 (by decide) ?_
        refine W.lcmp hx hb dX7_numberToPut_23 ?_
        refine lv_if_ne (tgt := 29) hx hb dX7_numberToPut_24 (by decide) (fun c24 => ?_) (fun c24 => ?_)
        · have h := i_no c24 h
          exact w_X7_numberToPut_29 hC hR o0 a0 x1 x3 _ _ _ _ hi0 hw (lv_sub hl [0, 1, 2] rfl) h
        · have h := i_yes c24 h
          refine lv_iconst (v := (-1)) hx hb dX7_numberToPut_27 (by decide) ?_
          cases h
          exact r_iret hC hw dX7_numberToPut_28
set_option maxHeartbeats 4000000 in
set_option maxRecDepth 100000 in
theorem k_X7_numberToPut {l : Launch} {G : va_G} {cA : Nat → ClassId} {S : sh} {D D' : dt} {ad : Nat → Nat} (sz : Nat) {o0 a0 : Nat} {x1 : Int64} {x3 : Int64} {r : Int32} (hi0 : Is S ad o0 a0 6) (h : f_X7_numberToPut S o0 x1 x3 D = some (r, D')) : Co l yX7_numberToPut (Cond.code yX7_numberToPut cX7_numberToPut 6 (some .int) :: tb0) 1 23 [.ref a0, .long x1, .long x3] G cA S D ad sz (some (.int r)) True D' := by
  refine Met.ofW (cc := cX7_numberToPut) (maxL := 6) (ret := (some .int)) (by decide) rfl ?_
  intro p e s m args below meth c s₁ B hml hv
  obtain ⟨rfl, hsz, hP, hK, hD0, hT, hX⟩ := hv
  subst hsz
  have hts := atoms_spec (ws := Cond.code yX7_numberToPut cX7_numberToPut 6 (some .int) :: tb0) B.pre
  have hC : Cx RX7 cX7_numberToPut 6 (some .int) p s m _ meth c := ⟨B.exec, B.bytes, hml, findClass_of_methodNamed B.named, fun w q => hts w (List.mem_cons_of_mem _ q), B.returns, B.notSynchronized⟩
  have hw := Wd.entry hP hK hD0 hT hX
  have hl := lv_entry ([.ref a0, .long x1, .long x3]) (n := 6) (Nat.le_of_ble_eq_true rfl)
  rw [lg_entry_eq]
  exact w_X7_numberToPut_0 hC ⟨Nat.le_refl _, Nat.le_refl _⟩ o0 a0 x1 x3 D _ _ _ hi0 hw hl h
set_option maxHeartbeats 4000000 in
set_option maxRecDepth 100000 in
theorem w_X7_keyCount_28 {r : Int32} (hC : Cx RX7 cX7_keyCount 3 (some .int) p s m args meth c) (hR : 0 ≤ R.frames ∧ 0 ≤ R.locals) {k4 : Nat → Int32 → Int32 → Option Int32} (hk4 : ∀ (o0 a0 : Nat) (x1 : Int32) (x2 : Int32) (H : Heap) (locs : List Loc) (ls : Array Slot), Is S ad o0 a0 6 → Wd G cA S D ad A s H locs → lv_has ls 3 [(0, .ref a0), (1, .int x1), (2, .int x2)] → k4 o0 x1 x2 = some r → W p l e R s m args below meth c H locs 0 0 (MQ below (Qn (some (.int r)) True (wpost G cA S D ad A) A) args s 0 0 A) (F0 m 4 ls [])) : ∀ (o0 a0 : Nat) (x2 : Int32) (xs0 : Int32) (xs1 : Int32) (H : Heap) (locs : List Loc) (ls : Array Slot), Is S ad o0 a0 6 → Wd G cA S D ad A s H locs → lv_has ls 3 [(0, .ref a0), (2, .int x2)] → f_X7_keyCount_28 S D k4 o0 x2 xs0 xs1 = some r → W p l e R s m args below meth c H locs 0 0 (MQ below (Qn (some (.int r)) True (wpost G cA S D ad A) A) args s 0 0 A) (F0 m 28 ls [.int xs1, .int xs0]) := by
  obtain ⟨hx, hb, -⟩ := id hC
  intro o0 a0 x2 xs0 xs1 H locs ls hi0 hw hl h
  unfold f_X7_keyCount_28 at h
  refine lv_iadd hx hb dX7_keyCount_28 ?_
  refine lv_topi (fun y17 ey17 => ?_)
  have h := nm_i h y17 ey17
  refine lv_istore_n (lv' := [(1, .int y17), (0, .ref a0), (2, .int x2)]) hx hb dX7_keyCount_29 rfl hl (by decide) rfl (fun ls hl => ?_)
  obtain ⟨y18, ey18⟩ : ∃ z : Int32, z = x2 + 1 := ⟨_, rfl⟩
  have h := nm_i h y18 ey18
  refine lv_iinc (v := y18) (lv' := [(2, .int y18), (1, .int y17), (0, .ref a0)]) hx hb dX7_keyCount_30 hl (k := 2) rfl (by rw [ey18]; rfl) (by decide) rfl (fun ls hl => ?_)
  refine lv_goto (tgt := 4) hx hb dX7_keyCount_33 (by decide) ?_
  exact hk4 o0 a0 y17 y18 _ _ _ hi0 hw (lv_sub hl [2, 1, 0] rfl) h
set_option maxHeartbeats 4000000 in
set_option maxRecDepth 100000 in
theorem w_X7_keyCount_4 {r : Int32} (hC : Cx RX7 cX7_keyCount 3 (some .int) p s m args meth c) (hR : 0 ≤ R.frames ∧ 0 ≤ R.locals) : ∀ (n : Nat), ∀ (o0 a0 : Nat) (x1 : Int32) (x2 : Int32) (H : Heap) (locs : List Loc) (ls : Array Slot), Is S ad o0 a0 6 → Wd G cA S D ad A s H locs → lv_has ls 3 [(0, .ref a0), (1, .int x1), (2, .int x2)] → f_X7_keyCount_4 S D n o0 x1 x2 = some r → W p l e R s m args below meth c H locs 0 0 (MQ below (Qn (some (.int r)) True (wpost G cA S D ad A) A) args s 0 0 A) (F0 m 4 ls []) := by
  obtain ⟨hx, hb, -⟩ := id hC
  intro n
  induction n with
  | zero =>
    intro o0 a0 x1 x2 H locs ls hi0 hw hl h
    rw [f_X7_keyCount_4.eq_1] at h
    cases h
  | succ n ih =>
    intro o0 a0 x1 x2 H locs ls hi0 hw hl h
    rw [f_X7_keyCount_4.eq_2] at h
    refine lv_iload_n hx hb dX7_keyCount_4 rfl (lv_at hl 2 rfl) ?_
    refine lv_aload_n hx hb dX7_keyCount_5 rfl (lv_at hl 0 rfl) ?_
    obtain ⟨o19, ho22, h⟩ := rq_i h
    refine r_getR hC hw kc_6 hi0 5 rfl lk_413 dX7_keyCount_6 rfl ho22 (fun a20 hi21 => ?_)
    refine r_alen hC hw hi21 (by decide) 3 rfl dX7_keyCount_9 ?_
    refine lv_icmp_ge (tgt := 36) hx hb dX7_keyCount_10 (by decide) (fun c23 => ?_) (fun c23 => ?_)
    · have h := i_yes c23 h
      refine lv_aload_n hx hb dX7_keyCount_36 rfl (lv_at hl 0 rfl) ?_
      refine r_gI hC hw kc_6 hi0 0 rfl lk_402 dX7_keyCount_37 ?_
      refine lv_if_eq (tgt := 50) hx hb dX7_keyCount_40 (by decide) (fun c24 => ?_) (fun c24 => ?_)
      · have h := i_yes c24 h
        refine lv_iload_n hx hb dX7_keyCount_50 rfl (lv_at hl 1 rfl) ?_
        cases h
        exact r_iret hC hw dX7_keyCount_51
      · have h := i_no c24 h
        refine lv_aload_n hx hb dX7_keyCount_43 rfl (lv_at hl 0 rfl) ?_
        refine r_gI hC hw kc_6 hi0 3 rfl lk_410 dX7_keyCount_44 ?_
        refine lv_goto (tgt := 51) hx hb dX7_keyCount_47 (by decide) ?_
        cases h
        exact r_iret hC hw dX7_keyCount_51
    · have h := i_no c23 h
      refine lv_iload_n hx hb dX7_keyCount_13 rfl (lv_at hl 1 rfl) ?_
      refine lv_aload_n hx hb dX7_keyCount_14 rfl (lv_at hl 0 rfl) ?_
      obtain ⟨o25, ho28, h⟩ := rq_i h
      refine r_getR hC hw kc_6 hi0 5 rfl lk_413 dX7_keyCount_15 rfl ho28 (fun a26 hi27 => ?_)
      refine lv_iload_n hx hb dX7_keyCount_18 rfl (lv_at hl 2 rfl) ?_
      obtain ⟨hn29, h⟩ := ix_i h
      refine r_zald hC hw hi27 hn29 dX7_keyCount_19 ?_
      refine lv_if_eq (tgt := 27) hx hb dX7_keyCount_20 (by decide) (fun c30 => ?_) (fun c30 => ?_)
      · have h := i_yes c30 h
        refine lv_iconst (v := 0) hx hb dX7_keyCount_27 (by decide) ?_
        exact w_X7_keyCount_28 hC hR ih o0 a0 x2 x1 (0 : Int32) _ _ _ hi0 hw (lv_sub hl [0, 2] rfl) h
      · have h := i_no c30 h
        refine lv_iconst (v := 1) hx hb dX7_keyCount_23 (by decide) ?_
        refine lv_goto (tgt := 28) hx hb dX7_keyCount_24 (by decide) ?_
        exact w_X7_keyCount_28 hC hR ih o0 a0 x2 x1 (1 : Int32) _ _ _ hi0 hw (lv_sub hl [0, 2] rfl) h
set_option maxHeartbeats 4000000 in
set_option maxRecDepth 100000 in
theorem w_X7_keyCount_0 {r : Int32} (hC : Cx RX7 cX7_keyCount 3 (some .int) p s m args meth c) (hR : 0 ≤ R.frames ∧ 0 ≤ R.locals) : ∀ (o0 a0 : Nat) (H : Heap) (locs : List Loc) (ls : Array Slot), Is S ad o0 a0 6 → Wd G cA S D ad A s H locs → lv_has ls 3 [(0, .ref a0)] → f_X7_keyCount S D o0 = some r → W p l e R s m args below meth c H locs 0 0 (MQ below (Qn (some (.int r)) True (wpost G cA S D ad A) A) args s 0 0 A) (F0 m 0 ls []) := by
  obtain ⟨hx, hb, -⟩ := id hC
  intro o0 a0 H locs ls hi0 hw hl h
  unfold f_X7_keyCount at h
  refine lv_iconst (v := 0) hx hb dX7_keyCount_0 (by decide) ?_
  refine lv_topi (fun y31 ey31 => ?_)
  have h := nm_i h y31 ey31
  refine lv_istore_n (lv' := [(1, .int y31), (0, .ref a0)]) hx hb dX7_keyCount_1 rfl hl (by decide) rfl (fun ls hl => ?_)
  refine lv_iconst (v := 0) hx hb dX7_keyCount_2 (by decide) ?_
  refine lv_topi (fun y32 ey32 => ?_)
  have h := nm_i h y32 ey32
  refine lv_istore_n (lv' := [(2, .int y32), (1, .int y31), (0, .ref a0)]) hx hb dX7_keyCount_3 rfl hl (by decide) rfl (fun ls hl => ?_)
  exact w_X7_keyCount_4 hC hR LF o0 a0 y31 y32 _ _ _ hi0 hw (lv_sub hl [2, 1, 0] rfl) h
set_option maxHeartbeats 4000000 in
set_option maxRecDepth 100000 in
theorem k_X7_keyCount {l : Launch} {G : va_G} {cA : Nat → ClassId} {S : sh} {D : dt} {ad : Nat → Nat} (sz : Nat) {o0 a0 : Nat} {r : Int32} (hi0 : Is S ad o0 a0 6) (h : f_X7_keyCount S D o0 = some r) : Co l yX7_keyCount (Cond.code yX7_keyCount cX7_keyCount 3 (some .int) :: tb0) 0 0 [.ref a0] G cA S D ad sz (some (.int r)) True D := by
  refine Met.ofW (cc := cX7_keyCount) (maxL := 3) (ret := (some .int)) (by decide) rfl ?_
  intro p e s m args below meth c s₁ B hml hv
  obtain ⟨rfl, hsz, hP, hK, hD0, hT, hX⟩ := hv
  subst hsz
  have hts := atoms_spec (ws := Cond.code yX7_keyCount cX7_keyCount 3 (some .int) :: tb0) B.pre
  have hC : Cx RX7 cX7_keyCount 3 (some .int) p s m _ meth c := ⟨B.exec, B.bytes, hml, findClass_of_methodNamed B.named, fun w q => hts w (List.mem_cons_of_mem _ q), B.returns, B.notSynchronized⟩
  have hw := Wd.entry hP hK hD0 hT hX
  have hl := lv_entry ([.ref a0]) (n := 3) (Nat.le_of_ble_eq_true rfl)
  rw [lg_entry_eq]
  exact w_X7_keyCount_0 hC ⟨Nat.le_refl _, Nat.le_refl _⟩ o0 a0 _ _ _ hi0 hw hl h
end
