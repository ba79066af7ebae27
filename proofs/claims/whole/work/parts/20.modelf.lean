theorem dX9_same_0 : decode cX9_same 0 = .ok (.aload_n 0, 1) := by decide +kernel
theorem dX9_same_1 : decode cX9_same 1 = .ok (.getfield 106, 3) := by decide +kernel
theorem dX9_same_4 : decode cX9_same 4 = .ok (.iload_n 2, 1) := by decide +kernel
theorem dX9_same_5 : decode cX9_same 5 = .ok (.aload_n 0, 1) := by decide +kernel
theorem dX9_same_6 : decode cX9_same 6 = .ok (.getfield 106, 3) := by decide +kernel
theorem dX9_same_9 : decode cX9_same 9 = .ok (.iload_n 1, 1) := by decide +kernel
theorem dX9_same_10 : decode cX9_same 10 = .ok (.iaload, 1) := by decide +kernel
theorem dX9_same_11 : decode cX9_same 11 = .ok (.iastore, 1) := by decide +kernel
theorem dX9_same_12 : decode cX9_same 12 = .ok (.aload_n 0, 1) := by decide +kernel
theorem dX9_same_13 : decode cX9_same 13 = .ok (.getfield 109, 3) := by decide +kernel
theorem dX9_same_16 : decode cX9_same 16 = .ok (.iload_n 2, 1) := by decide +kernel
theorem dX9_same_17 : decode cX9_same 17 = .ok (.aload_n 0, 1) := by decide +kernel
theorem dX9_same_18 : decode cX9_same 18 = .ok (.getfield 109, 3) := by decide +kernel
theorem dX9_same_21 : decode cX9_same 21 = .ok (.iload_n 1, 1) := by decide +kernel
theorem dX9_same_22 : decode cX9_same 22 = .ok (.laload, 1) := by decide +kernel
theorem dX9_same_23 : decode cX9_same 23 = .ok (.lastore, 1) := by decide +kernel
theorem dX9_same_24 : decode cX9_same 24 = .ok (.aload_n 0, 1) := by decide +kernel
theorem dX9_same_25 : decode cX9_same 25 = .ok (.getfield 112, 3) := by decide +kernel
theorem dX9_same_28 : decode cX9_same 28 = .ok (.iload_n 2, 1) := by decide +kernel
theorem dX9_same_29 : decode cX9_same 29 = .ok (.aload_n 0, 1) := by decide +kernel
theorem dX9_same_30 : decode cX9_same 30 = .ok (.getfield 112, 3) := by decide +kernel
theorem dX9_same_33 : decode cX9_same 33 = .ok (.iload_n 1, 1) := by decide +kernel
theorem dX9_same_34 : decode cX9_same 34 = .ok (.laload, 1) := by decide +kernel
theorem dX9_same_35 : decode cX9_same 35 = .ok (.lastore, 1) := by decide +kernel
theorem dX9_same_36 : decode cX9_same 36 = .ok (.aload_n 0, 1) := by decide +kernel
theorem dX9_same_37 : decode cX9_same 37 = .ok (.getfield 115, 3) := by decide +kernel
theorem dX9_same_40 : decode cX9_same 40 = .ok (.iload_n 2, 1) := by decide +kernel
theorem dX9_same_41 : decode cX9_same 41 = .ok (.aload_n 0, 1) := by decide +kernel
theorem dX9_same_42 : decode cX9_same 42 = .ok (.getfield 115, 3) := by decide +kernel
theorem dX9_same_45 : decode cX9_same 45 = .ok (.iload_n 1, 1) := by decide +kernel
theorem dX9_same_46 : decode cX9_same 46 = .ok (.iaload, 1) := by decide +kernel
theorem dX9_same_47 : decode cX9_same 47 = .ok (.iastore, 1) := by decide +kernel
theorem dX9_same_48 : decode cX9_same 48 = .ok (.aload_n 0, 1) := by decide +kernel
theorem dX9_same_49 : decode cX9_same 49 = .ok (.getfield 118, 3) := by decide +kernel
theorem dX9_same_52 : decode cX9_same 52 = .ok (.iload_n 2, 1) := by decide +kernel
theorem dX9_same_53 : decode cX9_same 53 = .ok (.aload_n 0, 1) := by decide +kernel
theorem dX9_same_54 : decode cX9_same 54 = .ok (.getfield 118, 3) := by decide +kernel
theorem dX9_same_57 : decode cX9_same 57 = .ok (.iload_n 1, 1) := by decide +kernel
theorem dX9_same_58 : decode cX9_same 58 = .ok (.iaload, 1) := by decide +kernel
theorem dX9_same_59 : decode cX9_same 59 = .ok (.iastore, 1) := by decide +kernel
theorem dX9_same_60 : decode cX9_same 60 = .ok (.return_, 1) := by decide +kernel
theorem dX9_lesser_0 : decode cX9_lesser 0 = .ok (.lload_n 0, 1) := by decide +kernel
theorem dX9_lesser_1 : decode cX9_lesser 1 = .ok (.lload_n 2, 1) := by decide +kernel
theorem dX9_lesser_2 : decode cX9_lesser 2 = .ok (.invokestatic 175, 3) := by decide +kernel
theorem dX9_lesser_5 : decode cX9_lesser 5 = .ok (.ifCond .eq 7, 3) := by decide +kernel
theorem dX9_lesser_8 : decode cX9_lesser 8 = .ok (.lload_n 0, 1) := by decide +kernel
theorem dX9_lesser_9 : decode cX9_lesser 9 = .ok (.goto 4, 3) := by decide +kernel
theorem dX9_lesser_12 : decode cX9_lesser 12 = .ok (.lload_n 2, 1) := by decide +kernel
theorem dX9_lesser_13 : decode cX9_lesser 13 = .ok (.lreturn, 1) := by decide +kernel
theorem dX9_greater_0 : decode cX9_greater 0 = .ok (.lload_n 0, 1) := by decide +kernel
theorem dX9_greater_1 : decode cX9_greater 1 = .ok (.lload_n 2, 1) := by decide +kernel
theorem dX9_greater_2 : decode cX9_greater 2 = .ok (.invokestatic 175, 3) := by decide +kernel
theorem dX9_greater_5 : decode cX9_greater 5 = .ok (.ifCond .eq 7, 3) := by decide +kernel
theorem dX9_greater_8 : decode cX9_greater 8 = .ok (.lload_n 2, 1) := by decide +kernel
theorem dX9_greater_9 : decode cX9_greater 9 = .ok (.goto 4, 3) := by decide +kernel
theorem dX9_greater_12 : decode cX9_greater 12 = .ok (.lload_n 0, 1) := by decide +kernel
theorem dX9_greater_13 : decode cX9_greater 13 = .ok (.lreturn, 1) := by decide +kernel
theorem dX9_join_0 : decode cX9_join 0 = .ok (.aload_n 0, 1) := by decide +kernel
theorem dX9_join_1 : decode cX9_join 1 = .ok (.iconst 0, 1) := by decide +kernel
theorem dX9_join_2 : decode cX9_join 2 = .ok (.putfield 329, 3) := by decide +kernel
theorem dX9_join_5 : decode cX9_join 5 = .ok (.aload_n 0, 1) := by decide +kernel
theorem dX9_join_6 : decode cX9_join 6 = .ok (.lconst 0, 1) := by decide +kernel
theorem dX9_join_7 : decode cX9_join 7 = .ok (.putfield 332, 3) := by decide +kernel
theorem dX9_join_10 : decode cX9_join 10 = .ok (.aload_n 0, 1) := by decide +kernel
theorem dX9_join_11 : decode cX9_join 11 = .ok (.lconst 0, 1) := by decide +kernel
theorem dX9_join_12 : decode cX9_join 12 = .ok (.putfield 335, 3) := by decide +kernel
theorem dX9_join_15 : decode cX9_join 15 = .ok (.iload_n 2, 1) := by decide +kernel
theorem dX9_join_16 : decode cX9_join 16 = .ok (.aload_n 0, 1) := by decide +kernel
theorem dX9_join_17 : decode cX9_join 17 = .ok (.getfield 106, 3) := by decide +kernel
theorem dX9_join_20 : decode cX9_join 20 = .ok (.iload_n 1, 1) := by decide +kernel
theorem dX9_join_21 : decode cX9_join 21 = .ok (.iaload, 1) := by decide +kernel
theorem dX9_join_22 : decode cX9_join 22 = .ok (.if_icmp .eq 4, 3) := by decide +kernel
theorem dX9_join_25 : decode cX9_join 25 = .ok (.return_, 1) := by decide +kernel
theorem dX9_join_26 : decode cX9_join 26 = .ok (.iload_n 2, 1) := by decide +kernel
theorem dX9_join_27 : decode cX9_join 27 = .ok (.iconst 1, 1) := by decide +kernel
theorem dX9_join_28 : decode cX9_join 28 = .ok (.if_icmp .ne 40, 3) := by decide +kernel
theorem dX9_join_31 : decode cX9_join 31 = .ok (.aload_n 0, 1) := by decide +kernel
theorem dX9_join_32 : decode cX9_join 32 = .ok (.iconst 1, 1) := by decide +kernel
theorem dX9_join_33 : decode cX9_join 33 = .ok (.putfield 329, 3) := by decide +kernel
theorem dX9_join_36 : decode cX9_join 36 = .ok (.aload_n 0, 1) := by decide +kernel
theorem dX9_join_37 : decode cX9_join 37 = .ok (.lload_n 3, 1) := by decide +kernel
theorem dX9_join_38 : decode cX9_join 38 = .ok (.aload_n 0, 1) := by decide +kernel
theorem dX9_join_39 : decode cX9_join 39 = .ok (.getfield 109, 3) := by decide +kernel
theorem dX9_join_42 : decode cX9_join 42 = .ok (.iload_n 1, 1) := by decide +kernel
theorem dX9_join_43 : decode cX9_join 43 = .ok (.laload, 1) := by decide +kernel
theorem dX9_join_44 : decode cX9_join 44 = .ok (.invokestatic 338, 3) := by decide +kernel
theorem dX9_join_47 : decode cX9_join 47 = .ok (.putfield 332, 3) := by decide +kernel
theorem dX9_join_50 : decode cX9_join 50 = .ok (.aload_n 0, 1) := by decide +kernel
theorem dX9_join_51 : decode cX9_join 51 = .ok (.lload 5, 2) := by decide +kernel
theorem dX9_join_53 : decode cX9_join 53 = .ok (.aload_n 0, 1) := by decide +kernel
theorem dX9_join_54 : decode cX9_join 54 = .ok (.getfield 112, 3) := by decide +kernel
theorem dX9_join_57 : decode cX9_join 57 = .ok (.iload_n 1, 1) := by decide +kernel
theorem dX9_join_58 : decode cX9_join 58 = .ok (.laload, 1) := by decide +kernel
theorem dX9_join_59 : decode cX9_join 59 = .ok (.invokestatic 341, 3) := by decide +kernel
theorem dX9_join_62 : decode cX9_join 62 = .ok (.putfield 335, 3) := by decide +kernel
theorem dX9_join_65 : decode cX9_join 65 = .ok (.goto 138, 3) := by decide +kernel
theorem dX9_join_68 : decode cX9_join 68 = .ok (.iload_n 2, 1) := by decide +kernel
theorem dX9_join_69 : decode cX9_join 69 = .ok (.iconst 2, 1) := by decide +kernel
theorem dX9_join_70 : decode cX9_join 70 = .ok (.if_icmp .eq 19, 3) := by decide +kernel
theorem dX9_join_73 : decode cX9_join 73 = .ok (.iload_n 2, 1) := by decide +kernel
theorem dX9_join_74 : decode cX9_join 74 = .ok (.iconst 5, 1) := by decide +kernel
theorem dX9_join_75 : decode cX9_join 75 = .ok (.if_icmp .ne 74, 3) := by decide +kernel
theorem dX9_join_78 : decode cX9_join 78 = .ok (.iload 7, 2) := by decide +kernel
theorem dX9_join_80 : decode cX9_join 80 = .ok (.aload_n 0, 1) := by decide +kernel
theorem dX9_join_81 : decode cX9_join 81 = .ok (.getfield 115, 3) := by decide +kernel
theorem dX9_join_84 : decode cX9_join 84 = .ok (.iload_n 1, 1) := by decide +kernel
theorem dX9_join_85 : decode cX9_join 85 = .ok (.iaload, 1) := by decide +kernel
theorem dX9_join_86 : decode cX9_join 86 = .ok (.if_icmp .ne 63, 3) := by decide +kernel
theorem dX9_join_89 : decode cX9_join 89 = .ok (.aload_n 0, 1) := by decide +kernel
theorem dX9_join_90 : decode cX9_join 90 = .ok (.iload_n 2, 1) := by decide +kernel
theorem dX9_join_91 : decode cX9_join 91 = .ok (.putfield 329, 3) := by decide +kernel
theorem dX9_join_94 : decode cX9_join 94 = .ok (.aload_n 0, 1) := by decide +kernel
theorem dX9_join_95 : decode cX9_join 95 = .ok (.lload_n 3, 1) := by decide +kernel
theorem dX9_join_96 : decode cX9_join 96 = .ok (.aload_n 0, 1) := by decide +kernel
theorem dX9_join_97 : decode cX9_join 97 = .ok (.getfield 109, 3) := by decide +kernel
theorem dX9_join_100 : decode cX9_join 100 = .ok (.iload_n 1, 1) := by decide +kernel
theorem dX9_join_101 : decode cX9_join 101 = .ok (.laload, 1) := by decide +kernel
theorem dX9_join_102 : decode cX9_join 102 = .ok (.lcmp, 1) := by decide +kernel
theorem dX9_join_103 : decode cX9_join 103 = .ok (.ifCond .ge 7, 3) := by decide +kernel
theorem dX9_join_106 : decode cX9_join 106 = .ok (.lload_n 3, 1) := by decide +kernel
theorem dX9_join_107 : decode cX9_join 107 = .ok (.goto 9, 3) := by decide +kernel
theorem dX9_join_110 : decode cX9_join 110 = .ok (.aload_n 0, 1) := by decide +kernel
theorem dX9_join_111 : decode cX9_join 111 = .ok (.getfield 109, 3) := by decide +kernel
theorem dX9_join_114 : decode cX9_join 114 = .ok (.iload_n 1, 1) := by decide +kernel
theorem dX9_join_115 : decode cX9_join 115 = .ok (.laload, 1) := by decide +kernel
theorem dX9_join_116 : decode cX9_join 116 = .ok (.putfield 332, 3) := by decide +kernel
theorem dX9_join_119 : decode cX9_join 119 = .ok (.aload_n 0, 1) := by decide +kernel
theorem dX9_join_120 : decode cX9_join 120 = .ok (.lload 5, 2) := by decide +kernel
theorem dX9_join_122 : decode cX9_join 122 = .ok (.aload_n 0, 1) := by decide +kernel
theorem dX9_join_123 : decode cX9_join 123 = .ok (.getfield 112, 3) := by decide +kernel
theorem dX9_join_126 : decode cX9_join 126 = .ok (.iload_n 1, 1) := by decide +kernel
theorem dX9_join_127 : decode cX9_join 127 = .ok (.laload, 1) := by decide +kernel
theorem dX9_join_128 : decode cX9_join 128 = .ok (.lcmp, 1) := by decide +kernel
theorem dX9_join_129 : decode cX9_join 129 = .ok (.ifCond .le 8, 3) := by decide +kernel
theorem dX9_join_132 : decode cX9_join 132 = .ok (.lload 5, 2) := by decide +kernel
theorem dX9_join_134 : decode cX9_join 134 = .ok (.goto 9, 3) := by decide +kernel
theorem dX9_join_137 : decode cX9_join 137 = .ok (.aload_n 0, 1) := by decide +kernel
theorem dX9_join_138 : decode cX9_join 138 = .ok (.getfield 112, 3) := by decide +kernel
theorem dX9_join_141 : decode cX9_join 141 = .ok (.iload_n 1, 1) := by decide +kernel
theorem dX9_join_142 : decode cX9_join 142 = .ok (.laload, 1) := by decide +kernel
theorem dX9_join_143 : decode cX9_join 143 = .ok (.putfield 335, 3) := by decide +kernel
theorem dX9_join_146 : decode cX9_join 146 = .ok (.goto 57, 3) := by decide +kernel
theorem dX9_join_149 : decode cX9_join 149 = .ok (.lload_n 3, 1) := by decide +kernel
theorem dX9_join_150 : decode cX9_join 150 = .ok (.aload_n 0, 1) := by decide +kernel
theorem dX9_join_151 : decode cX9_join 151 = .ok (.getfield 109, 3) := by decide +kernel
theorem dX9_join_154 : decode cX9_join 154 = .ok (.iload_n 1, 1) := by decide +kernel
theorem dX9_join_155 : decode cX9_join 155 = .ok (.laload, 1) := by decide +kernel
theorem dX9_join_156 : decode cX9_join 156 = .ok (.lcmp, 1) := by decide +kernel
theorem dX9_join_157 : decode cX9_join 157 = .ok (.ifCond .ne 46, 3) := by decide +kernel
theorem dX9_join_160 : decode cX9_join 160 = .ok (.iload 7, 2) := by decide +kernel
theorem dX9_join_162 : decode cX9_join 162 = .ok (.aload_n 0, 1) := by decide +kernel
theorem dX9_join_163 : decode cX9_join 163 = .ok (.getfield 115, 3) := by decide +kernel
theorem dX9_join_166 : decode cX9_join 166 = .ok (.iload_n 1, 1) := by decide +kernel
theorem dX9_join_167 : decode cX9_join 167 = .ok (.iaload, 1) := by decide +kernel
theorem dX9_join_168 : decode cX9_join 168 = .ok (.if_icmp .ne 35, 3) := by decide +kernel
theorem dX9_join_171 : decode cX9_join 171 = .ok (.iload 8, 2) := by decide +kernel
theorem dX9_join_173 : decode cX9_join 173 = .ok (.aload_n 0, 1) := by decide +kernel
theorem dX9_join_174 : decode cX9_join 174 = .ok (.getfield 118, 3) := by decide +kernel
theorem dX9_join_177 : decode cX9_join 177 = .ok (.iload_n 1, 1) := by decide +kernel
theorem dX9_join_178 : decode cX9_join 178 = .ok (.iaload, 1) := by decide +kernel
theorem dX9_join_179 : decode cX9_join 179 = .ok (.if_icmp .ne 24, 3) := by decide +kernel
theorem dX9_join_182 : decode cX9_join 182 = .ok (.iload_n 2, 1) := by decide +kernel
theorem dX9_join_183 : decode cX9_join 183 = .ok (.iconst 5, 1) := by decide +kernel
theorem dX9_join_184 : decode cX9_join 184 = .ok (.if_icmp .eq 19, 3) := by decide +kernel
theorem dX9_join_187 : decode cX9_join 187 = .ok (.aload_n 0, 1) := by decide +kernel
theorem dX9_join_188 : decode cX9_join 188 = .ok (.iload_n 2, 1) := by decide +kernel
theorem dX9_join_189 : decode cX9_join 189 = .ok (.putfield 329, 3) := by decide +kernel
theorem dX9_join_192 : decode cX9_join 192 = .ok (.aload_n 0, 1) := by decide +kernel
theorem dX9_join_193 : decode cX9_join 193 = .ok (.lload_n 3, 1) := by decide +kernel
theorem dX9_join_194 : decode cX9_join 194 = .ok (.putfield 332, 3) := by decide +kernel
theorem dX9_join_197 : decode cX9_join 197 = .ok (.aload_n 0, 1) := by decide +kernel
theorem dX9_join_198 : decode cX9_join 198 = .ok (.lload 5, 2) := by decide +kernel
theorem dX9_join_200 : decode cX9_join 200 = .ok (.putfield 335, 3) := by decide +kernel
theorem dX9_join_203 : decode cX9_join 203 = .ok (.return_, 1) := by decide +kernel
theorem dX9_goTo_0 : decode cX9_goTo 0 = .ok (.aload_n 0, 1) := by decide +kernel
theorem dX9_goTo_1 : decode cX9_goTo 1 = .ok (.getfield 66, 3) := by decide +kernel
theorem dX9_goTo_4 : decode cX9_goTo 4 = .ok (.iload_n 1, 1) := by decide +kernel
theorem dX9_goTo_5 : decode cX9_goTo 5 = .ok (.baload, 1) := by decide +kernel
theorem dX9_goTo_6 : decode cX9_goTo 6 = .ok (.ifCond .ne 7, 3) := by decide +kernel
theorem dX9_goTo_9 : decode cX9_goTo 9 = .ok (.iconst 1, 1) := by decide +kernel
theorem dX9_goTo_10 : decode cX9_goTo 10 = .ok (.goto 4, 3) := by decide +kernel
theorem dX9_goTo_13 : decode cX9_goTo 13 = .ok (.iconst 0, 1) := by decide +kernel
theorem dX9_goTo_14 : decode cX9_goTo 14 = .ok (.istore_n 2, 1) := by decide +kernel
theorem dX9_goTo_15 : decode cX9_goTo 15 = .ok (.aload_n 0, 1) := by decide +kernel
theorem dX9_goTo_16 : decode cX9_goTo 16 = .ok (.getfield 66, 3) := by decide +kernel
theorem dX9_goTo_19 : decode cX9_goTo 19 = .ok (.iload_n 1, 1) := by decide +kernel
theorem dX9_goTo_20 : decode cX9_goTo 20 = .ok (.iconst 1, 1) := by decide +kernel
theorem dX9_goTo_21 : decode cX9_goTo 21 = .ok (.bastore, 1) := by decide +kernel
theorem dX9_goTo_22 : decode cX9_goTo 22 = .ok (.iconst 0, 1) := by decide +kernel
theorem dX9_goTo_23 : decode cX9_goTo 23 = .ok (.istore_n 3, 1) := by decide +kernel
theorem dX9_goTo_24 : decode cX9_goTo 24 = .ok (.iload_n 3, 1) := by decide +kernel
theorem dX9_goTo_25 : decode cX9_goTo 25 = .ok (.bipush 11, 2) := by decide +kernel
theorem dX9_goTo_27 : decode cX9_goTo 27 = .ok (.if_icmp .ge 248, 3) := by decide +kernel
theorem dX9_goTo_30 : decode cX9_goTo 30 = .ok (.bipush 11, 2) := by decide +kernel
theorem dX9_goTo_32 : decode cX9_goTo 32 = .ok (.iload_n 1, 1) := by decide +kernel
theorem dX9_goTo_33 : decode cX9_goTo 33 = .ok (.imul, 1) := by decide +kernel
theorem dX9_goTo_34 : decode cX9_goTo 34 = .ok (.iload_n 3, 1) := by decide +kernel
theorem dX9_goTo_35 : decode cX9_goTo 35 = .ok (.iadd, 1) := by decide +kernel
theorem dX9_goTo_36 : decode cX9_goTo 36 = .ok (.istore 4, 2) := by decide +kernel
theorem dX9_goTo_38 : decode cX9_goTo 38 = .ok (.aload_n 0, 1) := by decide +kernel
theorem dX9_goTo_39 : decode cX9_goTo 39 = .ok (.iload_n 3, 1) := by decide +kernel
theorem dX9_goTo_40 : decode cX9_goTo 40 = .ok (.iload_n 2, 1) := by decide +kernel
theorem dX9_goTo_41 : decode cX9_goTo 41 = .ok (.ifCond .eq 12, 3) := by decide +kernel
theorem dX9_goTo_44 : decode cX9_goTo 44 = .ok (.aload_n 0, 1) := by decide +kernel
theorem dX9_goTo_45 : decode cX9_goTo 45 = .ok (.getfield 106, 3) := by decide +kernel
theorem dX9_goTo_48 : decode cX9_goTo 48 = .ok (.iload_n 3, 1) := by decide +kernel
theorem dX9_goTo_49 : decode cX9_goTo 49 = .ok (.iaload, 1) := by decide +kernel
theorem dX9_goTo_50 : decode cX9_goTo 50 = .ok (.goto 10, 3) := by decide +kernel
theorem dX9_goTo_53 : decode cX9_goTo 53 = .ok (.aload_n 0, 1) := by decide +kernel
theorem dX9_goTo_54 : decode cX9_goTo 54 = .ok (.getfield 72, 3) := by decide +kernel
theorem dX9_goTo_57 : decode cX9_goTo 57 = .ok (.iload 4, 2) := by decide +kernel
theorem dX9_goTo_59 : decode cX9_goTo 59 = .ok (.iaload, 1) := by decide +kernel
theorem dX9_goTo_60 : decode cX9_goTo 60 = .ok (.iload_n 2, 1) := by decide +kernel
theorem dX9_goTo_61 : decode cX9_goTo 61 = .ok (.ifCond .eq 12, 3) := by decide +kernel
theorem dX9_goTo_64 : decode cX9_goTo 64 = .ok (.aload_n 0, 1) := by decide +kernel
theorem dX9_goTo_65 : decode cX9_goTo 65 = .ok (.getfield 109, 3) := by decide +kernel
theorem dX9_goTo_68 : decode cX9_goTo 68 = .ok (.iload_n 3, 1) := by decide +kernel
theorem dX9_goTo_69 : decode cX9_goTo 69 = .ok (.laload, 1) := by decide +kernel
theorem dX9_goTo_70 : decode cX9_goTo 70 = .ok (.goto 10, 3) := by decide +kernel
theorem dX9_goTo_73 : decode cX9_goTo 73 = .ok (.aload_n 0, 1) := by decide +kernel
theorem dX9_goTo_74 : decode cX9_goTo 74 = .ok (.getfield 75, 3) := by decide +kernel
theorem dX9_goTo_77 : decode cX9_goTo 77 = .ok (.iload 4, 2) := by decide +kernel
theorem dX9_goTo_79 : decode cX9_goTo 79 = .ok (.laload, 1) := by decide +kernel
theorem dX9_goTo_80 : decode cX9_goTo 80 = .ok (.iload_n 2, 1) := by decide +kernel
theorem dX9_goTo_81 : decode cX9_goTo 81 = .ok (.ifCond .eq 12, 3) := by decide +kernel
theorem dX9_goTo_84 : decode cX9_goTo 84 = .ok (.aload_n 0, 1) := by decide +kernel
theorem dX9_goTo_85 : decode cX9_goTo 85 = .ok (.getfield 112, 3) := by decide +kernel
theorem dX9_goTo_88 : decode cX9_goTo 88 = .ok (.iload_n 3, 1) := by decide +kernel
theorem dX9_goTo_89 : decode cX9_goTo 89 = .ok (.laload, 1) := by decide +kernel
theorem dX9_goTo_90 : decode cX9_goTo 90 = .ok (.goto 10, 3) := by decide +kernel
theorem dX9_goTo_93 : decode cX9_goTo 93 = .ok (.aload_n 0, 1) := by decide +kernel
theorem dX9_goTo_94 : decode cX9_goTo 94 = .ok (.getfield 78, 3) := by decide +kernel
theorem dX9_goTo_97 : decode cX9_goTo 97 = .ok (.iload 4, 2) := by decide +kernel
theorem dX9_goTo_99 : decode cX9_goTo 99 = .ok (.laload, 1) := by decide +kernel
theorem dX9_goTo_100 : decode cX9_goTo 100 = .ok (.iload_n 2, 1) := by decide +kernel
theorem dX9_goTo_101 : decode cX9_goTo 101 = .ok (.ifCond .eq 12, 3) := by decide +kernel
theorem dX9_goTo_104 : decode cX9_goTo 104 = .ok (.aload_n 0, 1) := by decide +kernel
theorem dX9_goTo_105 : decode cX9_goTo 105 = .ok (.getfield 115, 3) := by decide +kernel
theorem dX9_goTo_108 : decode cX9_goTo 108 = .ok (.iload_n 3, 1) := by decide +kernel
theorem dX9_goTo_109 : decode cX9_goTo 109 = .ok (.iaload, 1) := by decide +kernel
theorem dX9_goTo_110 : decode cX9_goTo 110 = .ok (.goto 10, 3) := by decide +kernel
theorem dX9_goTo_113 : decode cX9_goTo 113 = .ok (.aload_n 0, 1) := by decide +kernel
theorem dX9_goTo_114 : decode cX9_goTo 114 = .ok (.getfield 81, 3) := by decide +kernel
theorem dX9_goTo_117 : decode cX9_goTo 117 = .ok (.iload 4, 2) := by decide +kernel
theorem dX9_goTo_119 : decode cX9_goTo 119 = .ok (.iaload, 1) := by decide +kernel
theorem dX9_goTo_120 : decode cX9_goTo 120 = .ok (.iload_n 2, 1) := by decide +kernel
theorem dX9_goTo_121 : decode cX9_goTo 121 = .ok (.ifCond .eq 12, 3) := by decide +kernel
theorem dX9_goTo_124 : decode cX9_goTo 124 = .ok (.aload_n 0, 1) := by decide +kernel
theorem dX9_goTo_125 : decode cX9_goTo 125 = .ok (.getfield 118, 3) := by decide +kernel
theorem dX9_goTo_128 : decode cX9_goTo 128 = .ok (.iload_n 3, 1) := by decide +kernel
theorem dX9_goTo_129 : decode cX9_goTo 129 = .ok (.iaload, 1) := by decide +kernel
theorem dX9_goTo_130 : decode cX9_goTo 130 = .ok (.goto 10, 3) := by decide +kernel
theorem dX9_goTo_133 : decode cX9_goTo 133 = .ok (.aload_n 0, 1) := by decide +kernel
theorem dX9_goTo_134 : decode cX9_goTo 134 = .ok (.getfield 84, 3) := by decide +kernel
theorem dX9_goTo_137 : decode cX9_goTo 137 = .ok (.iload 4, 2) := by decide +kernel
theorem dX9_goTo_139 : decode cX9_goTo 139 = .ok (.iaload, 1) := by decide +kernel
theorem dX9_goTo_140 : decode cX9_goTo 140 = .ok (.invokevirtual 344, 3) := by decide +kernel
theorem dX9_goTo_143 : decode cX9_goTo 143 = .ok (.aload_n 0, 1) := by decide +kernel
theorem dX9_goTo_144 : decode cX9_goTo 144 = .ok (.getfield 72, 3) := by decide +kernel
theorem dX9_goTo_147 : decode cX9_goTo 147 = .ok (.iload 4, 2) := by decide +kernel
theorem dX9_goTo_149 : decode cX9_goTo 149 = .ok (.iload_n 2, 1) := by decide +kernel
theorem dX9_goTo_150 : decode cX9_goTo 150 = .ok (.ifCond .eq 12, 3) := by decide +kernel
theorem dX9_goTo_153 : decode cX9_goTo 153 = .ok (.aload_n 0, 1) := by decide +kernel
theorem dX9_goTo_154 : decode cX9_goTo 154 = .ok (.getfield 106, 3) := by decide +kernel
theorem dX9_goTo_157 : decode cX9_goTo 157 = .ok (.iload_n 3, 1) := by decide +kernel
theorem dX9_goTo_158 : decode cX9_goTo 158 = .ok (.iaload, 1) := by decide +kernel
theorem dX9_goTo_159 : decode cX9_goTo 159 = .ok (.goto 7, 3) := by decide +kernel
theorem dX9_goTo_162 : decode cX9_goTo 162 = .ok (.aload_n 0, 1) := by decide +kernel
theorem dX9_goTo_163 : decode cX9_goTo 163 = .ok (.getfield 329, 3) := by decide +kernel
theorem dX9_goTo_166 : decode cX9_goTo 166 = .ok (.iastore, 1) := by decide +kernel
theorem dX9_goTo_167 : decode cX9_goTo 167 = .ok (.aload_n 0, 1) := by decide +kernel
theorem dX9_goTo_168 : decode cX9_goTo 168 = .ok (.getfield 75, 3) := by decide +kernel
theorem dX9_goTo_171 : decode cX9_goTo 171 = .ok (.iload 4, 2) := by decide +kernel
theorem dX9_goTo_173 : decode cX9_goTo 173 = .ok (.iload_n 2, 1) := by decide +kernel
theorem dX9_goTo_174 : decode cX9_goTo 174 = .ok (.ifCond .eq 12, 3) := by decide +kernel
theorem dX9_goTo_177 : decode cX9_goTo 177 = .ok (.aload_n 0, 1) := by decide +kernel
theorem dX9_goTo_178 : decode cX9_goTo 178 = .ok (.getfield 109, 3) := by decide +kernel
theorem dX9_goTo_181 : decode cX9_goTo 181 = .ok (.iload_n 3, 1) := by decide +kernel
theorem dX9_goTo_182 : decode cX9_goTo 182 = .ok (.laload, 1) := by decide +kernel
theorem dX9_goTo_183 : decode cX9_goTo 183 = .ok (.goto 7, 3) := by decide +kernel
theorem dX9_goTo_186 : decode cX9_goTo 186 = .ok (.aload_n 0, 1) := by decide +kernel
theorem dX9_goTo_187 : decode cX9_goTo 187 = .ok (.getfield 332, 3) := by decide +kernel
theorem dX9_goTo_190 : decode cX9_goTo 190 = .ok (.lastore, 1) := by decide +kernel
theorem dX9_goTo_191 : decode cX9_goTo 191 = .ok (.aload_n 0, 1) := by decide +kernel
theorem dX9_goTo_192 : decode cX9_goTo 192 = .ok (.getfield 78, 3) := by decide +kernel
theorem dX9_goTo_195 : decode cX9_goTo 195 = .ok (.iload 4, 2) := by decide +kernel
theorem dX9_goTo_197 : decode cX9_goTo 197 = .ok (.iload_n 2, 1) := by decide +kernel
theorem dX9_goTo_198 : decode cX9_goTo 198 = .ok (.ifCond .eq 12, 3) := by decide +kernel
theorem dX9_goTo_201 : decode cX9_goTo 201 = .ok (.aload_n 0, 1) := by decide +kernel
theorem dX9_goTo_202 : decode cX9_goTo 202 = .ok (.getfield 112, 3) := by decide +kernel
theorem dX9_goTo_205 : decode cX9_goTo 205 = .ok (.iload_n 3, 1) := by decide +kernel
theorem dX9_goTo_206 : decode cX9_goTo 206 = .ok (.laload, 1) := by decide +kernel
theorem dX9_goTo_207 : decode cX9_goTo 207 = .ok (.goto 7, 3) := by decide +kernel
theorem dX9_goTo_210 : decode cX9_goTo 210 = .ok (.aload_n 0, 1) := by decide +kernel
theorem dX9_goTo_211 : decode cX9_goTo 211 = .ok (.getfield 335, 3) := by decide +kernel
theorem dX9_goTo_214 : decode cX9_goTo 214 = .ok (.lastore, 1) := by decide +kernel
theorem dX9_goTo_215 : decode cX9_goTo 215 = .ok (.aload_n 0, 1) := by decide +kernel
theorem dX9_goTo_216 : decode cX9_goTo 216 = .ok (.getfield 81, 3) := by decide +kernel
theorem dX9_goTo_219 : decode cX9_goTo 219 = .ok (.iload 4, 2) := by decide +kernel
theorem dX9_goTo_221 : decode cX9_goTo 221 = .ok (.aload_n 0, 1) := by decide +kernel
theorem dX9_goTo_222 : decode cX9_goTo 222 = .ok (.getfield 72, 3) := by decide +kernel
theorem dX9_goTo_225 : decode cX9_goTo 225 = .ok (.iload 4, 2) := by decide +kernel
theorem dX9_goTo_227 : decode cX9_goTo 227 = .ok (.iaload, 1) := by decide +kernel
theorem dX9_goTo_228 : decode cX9_goTo 228 = .ok (.ifCond .ne 7, 3) := by decide +kernel
theorem dX9_goTo_231 : decode cX9_goTo 231 = .ok (.iconst 0, 1) := by decide +kernel
theorem dX9_goTo_232 : decode cX9_goTo 232 = .ok (.goto 9, 3) := by decide +kernel
theorem dX9_goTo_235 : decode cX9_goTo 235 = .ok (.aload_n 0, 1) := by decide +kernel
theorem dX9_goTo_236 : decode cX9_goTo 236 = .ok (.getfield 115, 3) := by decide +kernel
theorem dX9_goTo_239 : decode cX9_goTo 239 = .ok (.iload_n 3, 1) := by decide +kernel
theorem dX9_goTo_240 : decode cX9_goTo 240 = .ok (.iaload, 1) := by decide +kernel
theorem dX9_goTo_241 : decode cX9_goTo 241 = .ok (.iastore, 1) := by decide +kernel
theorem dX9_goTo_242 : decode cX9_goTo 242 = .ok (.aload_n 0, 1) := by decide +kernel
theorem dX9_goTo_243 : decode cX9_goTo 243 = .ok (.getfield 84, 3) := by decide +kernel
theorem dX9_goTo_246 : decode cX9_goTo 246 = .ok (.iload 4, 2) := by decide +kernel
theorem dX9_goTo_248 : decode cX9_goTo 248 = .ok (.aload_n 0, 1) := by decide +kernel
theorem dX9_goTo_249 : decode cX9_goTo 249 = .ok (.getfield 72, 3) := by decide +kernel
theorem dX9_goTo_252 : decode cX9_goTo 252 = .ok (.iload 4, 2) := by decide +kernel
theorem dX9_goTo_254 : decode cX9_goTo 254 = .ok (.iaload, 1) := by decide +kernel
theorem dX9_goTo_255 : decode cX9_goTo 255 = .ok (.ifCond .ne 7, 3) := by decide +kernel
theorem dX9_goTo_258 : decode cX9_goTo 258 = .ok (.iconst 0, 1) := by decide +kernel
theorem dX9_goTo_259 : decode cX9_goTo 259 = .ok (.goto 9, 3) := by decide +kernel
theorem dX9_goTo_262 : decode cX9_goTo 262 = .ok (.aload_n 0, 1) := by decide +kernel
theorem dX9_goTo_263 : decode cX9_goTo 263 = .ok (.getfield 118, 3) := by decide +kernel
theorem dX9_goTo_266 : decode cX9_goTo 266 = .ok (.iload_n 3, 1) := by decide +kernel
theorem dX9_goTo_267 : decode cX9_goTo 267 = .ok (.iaload, 1) := by decide +kernel
theorem dX9_goTo_268 : decode cX9_goTo 268 = .ok (.iastore, 1) := by decide +kernel
theorem dX9_goTo_269 : decode cX9_goTo 269 = .ok (.iinc 3 1, 3) := by decide +kernel
theorem dX9_goTo_272 : decode cX9_goTo 272 = .ok (.goto (-248), 3) := by decide +kernel
theorem dX9_goTo_275 : decode cX9_goTo 275 = .ok (.iconst 0, 1) := by decide +kernel
theorem dX9_goTo_276 : decode cX9_goTo 276 = .ok (.istore_n 3, 1) := by decide +kernel
theorem dX9_goTo_277 : decode cX9_goTo 277 = .ok (.iload_n 3, 1) := by decide +kernel
theorem dX9_goTo_278 : decode cX9_goTo 278 = .ok (.bipush 64, 2) := by decide +kernel
theorem dX9_goTo_280 : decode cX9_goTo 280 = .ok (.if_icmp .ge 237, 3) := by decide +kernel
theorem dX9_goTo_283 : decode cX9_goTo 283 = .ok (.bipush 64, 2) := by decide +kernel
theorem dX9_goTo_285 : decode cX9_goTo 285 = .ok (.iload_n 1, 1) := by decide +kernel
theorem dX9_goTo_286 : decode cX9_goTo 286 = .ok (.imul, 1) := by decide +kernel
theorem dX9_goTo_287 : decode cX9_goTo 287 = .ok (.iload_n 3, 1) := by decide +kernel
theorem dX9_goTo_288 : decode cX9_goTo 288 = .ok (.iadd, 1) := by decide +kernel
theorem dX9_goTo_289 : decode cX9_goTo 289 = .ok (.istore 4, 2) := by decide +kernel
theorem dX9_goTo_291 : decode cX9_goTo 291 = .ok (.bipush 11, 2) := by decide +kernel
theorem dX9_goTo_293 : decode cX9_goTo 293 = .ok (.iload_n 3, 1) := by decide +kernel
theorem dX9_goTo_294 : decode cX9_goTo 294 = .ok (.iadd, 1) := by decide +kernel
theorem dX9_goTo_295 : decode cX9_goTo 295 = .ok (.istore 5, 2) := by decide +kernel
theorem dX9_goTo_297 : decode cX9_goTo 297 = .ok (.aload_n 0, 1) := by decide +kernel
theorem dX9_goTo_298 : decode cX9_goTo 298 = .ok (.iload 5, 2) := by decide +kernel
theorem dX9_goTo_300 : decode cX9_goTo 300 = .ok (.iload_n 2, 1) := by decide +kernel
theorem dX9_goTo_301 : decode cX9_goTo 301 = .ok (.ifCond .eq 13, 3) := by decide +kernel
theorem dX9_goTo_304 : decode cX9_goTo 304 = .ok (.aload_n 0, 1) := by decide +kernel
theorem dX9_goTo_305 : decode cX9_goTo 305 = .ok (.getfield 106, 3) := by decide +kernel
theorem dX9_goTo_308 : decode cX9_goTo 308 = .ok (.iload 5, 2) := by decide +kernel
theorem dX9_goTo_310 : decode cX9_goTo 310 = .ok (.iaload, 1) := by decide +kernel
theorem dX9_goTo_311 : decode cX9_goTo 311 = .ok (.goto 10, 3) := by decide +kernel
theorem dX9_goTo_314 : decode cX9_goTo 314 = .ok (.aload_n 0, 1) := by decide +kernel
theorem dX9_goTo_315 : decode cX9_goTo 315 = .ok (.getfield 91, 3) := by decide +kernel
theorem dX9_goTo_318 : decode cX9_goTo 318 = .ok (.iload 4, 2) := by decide +kernel
theorem dX9_goTo_320 : decode cX9_goTo 320 = .ok (.iaload, 1) := by decide +kernel
theorem dX9_goTo_321 : decode cX9_goTo 321 = .ok (.iload_n 2, 1) := by decide +kernel
theorem dX9_goTo_322 : decode cX9_goTo 322 = .ok (.ifCond .eq 13, 3) := by decide +kernel
theorem dX9_goTo_325 : decode cX9_goTo 325 = .ok (.aload_n 0, 1) := by decide +kernel
theorem dX9_goTo_326 : decode cX9_goTo 326 = .ok (.getfield 109, 3) := by decide +kernel
theorem dX9_goTo_329 : decode cX9_goTo 329 = .ok (.iload 5, 2) := by decide +kernel
theorem dX9_goTo_331 : decode cX9_goTo 331 = .ok (.laload, 1) := by decide +kernel
theorem dX9_goTo_332 : decode cX9_goTo 332 = .ok (.goto 10, 3) := by decide +kernel
theorem dX9_goTo_335 : decode cX9_goTo 335 = .ok (.aload_n 0, 1) := by decide +kernel
theorem dX9_goTo_336 : decode cX9_goTo 336 = .ok (.getfield 94, 3) := by decide +kernel
theorem dX9_goTo_339 : decode cX9_goTo 339 = .ok (.iload 4, 2) := by decide +kernel
theorem dX9_goTo_341 : decode cX9_goTo 341 = .ok (.laload, 1) := by decide +kernel
theorem dX9_goTo_342 : decode cX9_goTo 342 = .ok (.iload_n 2, 1) := by decide +kernel
theorem dX9_goTo_343 : decode cX9_goTo 343 = .ok (.ifCond .eq 13, 3) := by decide +kernel
theorem dX9_goTo_346 : decode cX9_goTo 346 = .ok (.aload_n 0, 1) := by decide +kernel
theorem dX9_goTo_347 : decode cX9_goTo 347 = .ok (.getfield 112, 3) := by decide +kernel
theorem dX9_goTo_350 : decode cX9_goTo 350 = .ok (.iload 5, 2) := by decide +kernel
theorem dX9_goTo_352 : decode cX9_goTo 352 = .ok (.laload, 1) := by decide +kernel
theorem dX9_goTo_353 : decode cX9_goTo 353 = .ok (.goto 10, 3) := by decide +kernel
theorem dX9_goTo_356 : decode cX9_goTo 356 = .ok (.aload_n 0, 1) := by decide +kernel
theorem dX9_goTo_357 : decode cX9_goTo 357 = .ok (.getfield 97, 3) := by decide +kernel
theorem dX9_goTo_360 : decode cX9_goTo 360 = .ok (.iload 4, 2) := by decide +kernel
theorem dX9_goTo_362 : decode cX9_goTo 362 = .ok (.laload, 1) := by decide +kernel
theorem dX9_goTo_363 : decode cX9_goTo 363 = .ok (.iload_n 2, 1) := by decide +kernel
theorem dX9_goTo_364 : decode cX9_goTo 364 = .ok (.ifCond .eq 13, 3) := by decide +kernel
theorem dX9_goTo_367 : decode cX9_goTo 367 = .ok (.aload_n 0, 1) := by decide +kernel
theorem dX9_goTo_368 : decode cX9_goTo 368 = .ok (.getfield 115, 3) := by decide +kernel
theorem dX9_goTo_371 : decode cX9_goTo 371 = .ok (.iload 5, 2) := by decide +kernel
theorem dX9_goTo_373 : decode cX9_goTo 373 = .ok (.iaload, 1) := by decide +kernel
theorem dX9_goTo_374 : decode cX9_goTo 374 = .ok (.goto 10, 3) := by decide +kernel
theorem dX9_goTo_377 : decode cX9_goTo 377 = .ok (.aload_n 0, 1) := by decide +kernel
theorem dX9_goTo_378 : decode cX9_goTo 378 = .ok (.getfield 100, 3) := by decide +kernel
theorem dX9_goTo_381 : decode cX9_goTo 381 = .ok (.iload 4, 2) := by decide +kernel
theorem dX9_goTo_383 : decode cX9_goTo 383 = .ok (.iaload, 1) := by decide +kernel
theorem dX9_goTo_384 : decode cX9_goTo 384 = .ok (.iload_n 2, 1) := by decide +kernel
theorem dX9_goTo_385 : decode cX9_goTo 385 = .ok (.ifCond .eq 13, 3) := by decide +kernel
theorem dX9_goTo_388 : decode cX9_goTo 388 = .ok (.aload_n 0, 1) := by decide +kernel
theorem dX9_goTo_389 : decode cX9_goTo 389 = .ok (.getfield 118, 3) := by decide +kernel
theorem dX9_goTo_392 : decode cX9_goTo 392 = .ok (.iload 5, 2) := by decide +kernel
theorem dX9_goTo_394 : decode cX9_goTo 394 = .ok (.iaload, 1) := by decide +kernel
theorem dX9_goTo_395 : decode cX9_goTo 395 = .ok (.goto 10, 3) := by decide +kernel
theorem dX9_goTo_398 : decode cX9_goTo 398 = .ok (.aload_n 0, 1) := by decide +kernel
theorem dX9_goTo_399 : decode cX9_goTo 399 = .ok (.getfield 103, 3) := by decide +kernel
theorem dX9_goTo_402 : decode cX9_goTo 402 = .ok (.iload 4, 2) := by decide +kernel
theorem dX9_goTo_404 : decode cX9_goTo 404 = .ok (.iaload, 1) := by decide +kernel
theorem dX9_goTo_405 : decode cX9_goTo 405 = .ok (.invokevirtual 344, 3) := by decide +kernel
theorem dX9_goTo_408 : decode cX9_goTo 408 = .ok (.aload_n 0, 1) := by decide +kernel
theorem dX9_goTo_409 : decode cX9_goTo 409 = .ok (.getfield 91, 3) := by decide +kernel
theorem dX9_goTo_412 : decode cX9_goTo 412 = .ok (.iload 4, 2) := by decide +kernel
theorem dX9_goTo_414 : decode cX9_goTo 414 = .ok (.iload_n 2, 1) := by decide +kernel
theorem dX9_goTo_415 : decode cX9_goTo 415 = .ok (.ifCond .eq 13, 3) := by decide +kernel
theorem dX9_goTo_418 : decode cX9_goTo 418 = .ok (.aload_n 0, 1) := by decide +kernel
theorem dX9_goTo_419 : decode cX9_goTo 419 = .ok (.getfield 106, 3) := by decide +kernel
theorem dX9_goTo_422 : decode cX9_goTo 422 = .ok (.iload 5, 2) := by decide +kernel
theorem dX9_goTo_424 : decode cX9_goTo 424 = .ok (.iaload, 1) := by decide +kernel
theorem dX9_goTo_425 : decode cX9_goTo 425 = .ok (.goto 7, 3) := by decide +kernel
theorem dX9_goTo_428 : decode cX9_goTo 428 = .ok (.aload_n 0, 1) := by decide +kernel
theorem dX9_goTo_429 : decode cX9_goTo 429 = .ok (.getfield 329, 3) := by decide +kernel
theorem dX9_goTo_432 : decode cX9_goTo 432 = .ok (.iastore, 1) := by decide +kernel
theorem dX9_goTo_433 : decode cX9_goTo 433 = .ok (.aload_n 0, 1) := by decide +kernel
theorem dX9_goTo_434 : decode cX9_goTo 434 = .ok (.getfield 94, 3) := by decide +kernel
theorem dX9_goTo_437 : decode cX9_goTo 437 = .ok (.iload 4, 2) := by decide +kernel
theorem dX9_goTo_439 : decode cX9_goTo 439 = .ok (.iload_n 2, 1) := by decide +kernel
theorem dX9_goTo_440 : decode cX9_goTo 440 = .ok (.ifCond .eq 13, 3) := by decide +kernel
theorem dX9_goTo_443 : decode cX9_goTo 443 = .ok (.aload_n 0, 1) := by decide +kernel
theorem dX9_goTo_444 : decode cX9_goTo 444 = .ok (.getfield 109, 3) := by decide +kernel
theorem dX9_goTo_447 : decode cX9_goTo 447 = .ok (.iload 5, 2) := by decide +kernel
theorem dX9_goTo_449 : decode cX9_goTo 449 = .ok (.laload, 1) := by decide +kernel
theorem dX9_goTo_450 : decode cX9_goTo 450 = .ok (.goto 7, 3) := by decide +kernel
theorem dX9_goTo_453 : decode cX9_goTo 453 = .ok (.aload_n 0, 1) := by decide +kernel
theorem dX9_goTo_454 : decode cX9_goTo 454 = .ok (.getfield 332, 3) := by decide +kernel
theorem dX9_goTo_457 : decode cX9_goTo 457 = .ok (.lastore, 1) := by decide +kernel
theorem dX9_goTo_458 : decode cX9_goTo 458 = .ok (.aload_n 0, 1) := by decide +kernel
theorem dX9_goTo_459 : decode cX9_goTo 459 = .ok (.getfield 97, 3) := by decide +kernel
theorem dX9_goTo_462 : decode cX9_goTo 462 = .ok (.iload 4, 2) := by decide +kernel
theorem dX9_goTo_464 : decode cX9_goTo 464 = .ok (.iload_n 2, 1) := by decide +kernel
theorem dX9_goTo_465 : decode cX9_goTo 465 = .ok (.ifCond .eq 13, 3) := by decide +kernel
theorem dX9_goTo_468 : decode cX9_goTo 468 = .ok (.aload_n 0, 1) := by decide +kernel
theorem dX9_goTo_469 : decode cX9_goTo 469 = .ok (.getfield 112, 3) := by decide +kernel
theorem dX9_goTo_472 : decode cX9_goTo 472 = .ok (.iload 5, 2) := by decide +kernel
theorem dX9_goTo_474 : decode cX9_goTo 474 = .ok (.laload, 1) := by decide +kernel
theorem dX9_goTo_475 : decode cX9_goTo 475 = .ok (.goto 7, 3) := by decide +kernel
theorem dX9_goTo_478 : decode cX9_goTo 478 = .ok (.aload_n 0, 1) := by decide +kernel
theorem dX9_goTo_479 : decode cX9_goTo 479 = .ok (.getfield 335, 3) := by decide +kernel
theorem dX9_goTo_482 : decode cX9_goTo 482 = .ok (.lastore, 1) := by decide +kernel
theorem dX9_goTo_483 : decode cX9_goTo 483 = .ok (.aload_n 0, 1) := by decide +kernel
theorem dX9_goTo_484 : decode cX9_goTo 484 = .ok (.getfield 100, 3) := by decide +kernel
theorem dX9_goTo_487 : decode cX9_goTo 487 = .ok (.iload 4, 2) := by decide +kernel
theorem dX9_goTo_489 : decode cX9_goTo 489 = .ok (.aload_n 0, 1) := by decide +kernel
theorem dX9_goTo_490 : decode cX9_goTo 490 = .ok (.getfield 115, 3) := by decide +kernel
theorem dX9_goTo_493 : decode cX9_goTo 493 = .ok (.iload 5, 2) := by decide +kernel
theorem dX9_goTo_495 : decode cX9_goTo 495 = .ok (.iaload, 1) := by decide +kernel
theorem dX9_goTo_496 : decode cX9_goTo 496 = .ok (.iastore, 1) := by decide +kernel
theorem dX9_goTo_497 : decode cX9_goTo 497 = .ok (.aload_n 0, 1) := by decide +kernel
theorem dX9_goTo_498 : decode cX9_goTo 498 = .ok (.getfield 103, 3) := by decide +kernel
theorem dX9_goTo_501 : decode cX9_goTo 501 = .ok (.iload 4, 2) := by decide +kernel
theorem dX9_goTo_503 : decode cX9_goTo 503 = .ok (.aload_n 0, 1) := by decide +kernel
theorem dX9_goTo_504 : decode cX9_goTo 504 = .ok (.getfield 118, 3) := by decide +kernel
theorem dX9_goTo_507 : decode cX9_goTo 507 = .ok (.iload 5, 2) := by decide +kernel
theorem dX9_goTo_509 : decode cX9_goTo 509 = .ok (.iaload, 1) := by decide +kernel
theorem dX9_goTo_510 : decode cX9_goTo 510 = .ok (.iastore, 1) := by decide +kernel
theorem dX9_goTo_511 : decode cX9_goTo 511 = .ok (.iinc 3 1, 3) := by decide +kernel
theorem dX9_goTo_514 : decode cX9_goTo 514 = .ok (.goto (-237), 3) := by decide +kernel
theorem dX9_goTo_517 : decode cX9_goTo 517 = .ok (.iconst 0, 1) := by decide +kernel
theorem dX9_goTo_518 : decode cX9_goTo 518 = .ok (.istore_n 3, 1) := by decide +kernel
theorem dX9_goTo_519 : decode cX9_goTo 519 = .ok (.iload_n 3, 1) := by decide +kernel
theorem dX9_goTo_520 : decode cX9_goTo 520 = .ok (.sipush 512, 3) := by decide +kernel
theorem dX9_goTo_523 : decode cX9_goTo 523 = .ok (.if_icmp .ge 53, 3) := by decide +kernel
theorem dX9_goTo_526 : decode cX9_goTo 526 = .ok (.sipush 512, 3) := by decide +kernel
theorem dX9_goTo_529 : decode cX9_goTo 529 = .ok (.iload_n 1, 1) := by decide +kernel
theorem dX9_goTo_530 : decode cX9_goTo 530 = .ok (.imul, 1) := by decide +kernel
theorem dX9_goTo_531 : decode cX9_goTo 531 = .ok (.iload_n 3, 1) := by decide +kernel
theorem dX9_goTo_532 : decode cX9_goTo 532 = .ok (.iadd, 1) := by decide +kernel
theorem dX9_goTo_533 : decode cX9_goTo 533 = .ok (.istore 4, 2) := by decide +kernel
theorem dX9_goTo_535 : decode cX9_goTo 535 = .ok (.aload_n 0, 1) := by decide +kernel
theorem dX9_goTo_536 : decode cX9_goTo 536 = .ok (.getfield 88, 3) := by decide +kernel
theorem dX9_goTo_539 : decode cX9_goTo 539 = .ok (.iload 4, 2) := by decide +kernel
theorem dX9_goTo_541 : decode cX9_goTo 541 = .ok (.aload_n 0, 1) := by decide +kernel
theorem dX9_goTo_542 : decode cX9_goTo 542 = .ok (.getfield 121, 3) := by decide +kernel
theorem dX9_goTo_545 : decode cX9_goTo 545 = .ok (.iload_n 3, 1) := by decide +kernel
theorem dX9_goTo_546 : decode cX9_goTo 546 = .ok (.baload, 1) := by decide +kernel
theorem dX9_goTo_547 : decode cX9_goTo 547 = .ok (.ifCond .eq 21, 3) := by decide +kernel
theorem dX9_goTo_550 : decode cX9_goTo 550 = .ok (.iload_n 2, 1) := by decide +kernel
theorem dX9_goTo_551 : decode cX9_goTo 551 = .ok (.ifCond .ne 13, 3) := by decide +kernel
theorem dX9_goTo_554 : decode cX9_goTo 554 = .ok (.aload_n 0, 1) := by decide +kernel
theorem dX9_goTo_555 : decode cX9_goTo 555 = .ok (.getfield 88, 3) := by decide +kernel
theorem dX9_goTo_558 : decode cX9_goTo 558 = .ok (.iload 4, 2) := by decide +kernel
theorem dX9_goTo_560 : decode cX9_goTo 560 = .ok (.baload, 1) := by decide +kernel
theorem dX9_goTo_561 : decode cX9_goTo 561 = .ok (.ifCond .eq 7, 3) := by decide +kernel
theorem dX9_goTo_564 : decode cX9_goTo 564 = .ok (.iconst 1, 1) := by decide +kernel
theorem dX9_goTo_565 : decode cX9_goTo 565 = .ok (.goto 4, 3) := by decide +kernel
theorem dX9_goTo_568 : decode cX9_goTo 568 = .ok (.iconst 0, 1) := by decide +kernel
theorem dX9_goTo_569 : decode cX9_goTo 569 = .ok (.bastore, 1) := by decide +kernel
theorem dX9_goTo_570 : decode cX9_goTo 570 = .ok (.iinc 3 1, 3) := by decide +kernel
theorem dX9_goTo_573 : decode cX9_goTo 573 = .ok (.goto (-54), 3) := by decide +kernel
theorem dX9_goTo_576 : decode cX9_goTo 576 = .ok (.return_, 1) := by decide +kernel
theorem dX9_isWay_0 : decode cX9_isWay 0 = .ok (.iload_n 1, 1) := by decide +kernel
theorem dX9_isWay_1 : decode cX9_isWay 1 = .ok (.aload_n 0, 1) := by decide +kernel
theorem dX9_isWay_2 : decode cX9_isWay 2 = .ok (.getfield 348, 3) := by decide +kernel
theorem dX9_isWay_5 : decode cX9_isWay 5 = .ok (.if_icmp .le 24, 3) := by decide +kernel
theorem dX9_isWay_8 : decode cX9_isWay 8 = .ok (.iload_n 1, 1) := by decide +kernel
theorem dX9_isWay_9 : decode cX9_isWay 9 = .ok (.aload_n 0, 1) := by decide +kernel
theorem dX9_isWay_10 : decode cX9_isWay 10 = .ok (.getfield 147, 3) := by decide +kernel
theorem dX9_isWay_13 : decode cX9_isWay 13 = .ok (.if_icmp .ge 16, 3) := by decide +kernel
theorem dX9_isWay_16 : decode cX9_isWay 16 = .ok (.aload_n 0, 1) := by decide +kernel
theorem dX9_isWay_17 : decode cX9_isWay 17 = .ok (.getfield 69, 3) := by decide +kernel
theorem dX9_isWay_20 : decode cX9_isWay 20 = .ok (.iload_n 1, 1) := by decide +kernel
theorem dX9_isWay_21 : decode cX9_isWay 21 = .ok (.baload, 1) := by decide +kernel
theorem dX9_isWay_22 : decode cX9_isWay 22 = .ok (.ifCond .ne 7, 3) := by decide +kernel
theorem dX9_isWay_25 : decode cX9_isWay 25 = .ok (.iconst 1, 1) := by decide +kernel
theorem dX9_isWay_26 : decode cX9_isWay 26 = .ok (.goto 4, 3) := by decide +kernel
theorem dX9_isWay_29 : decode cX9_isWay 29 = .ok (.iconst 0, 1) := by decide +kernel
theorem dX9_isWay_30 : decode cX9_isWay 30 = .ok (.ireturn, 1) := by decide +kernel
theorem dX9_takeSecond_0 : decode cX9_takeSecond 0 = .ok (.aload_n 0, 1) := by decide +kernel
theorem dX9_takeSecond_1 : decode cX9_takeSecond 1 = .ok (.getfield 7, 3) := by decide +kernel
theorem dX9_takeSecond_4 : decode cX9_takeSecond 4 = .ok (.iload_n 1, 1) := by decide +kernel
theorem dX9_takeSecond_5 : decode cX9_takeSecond 5 = .ok (.iaload, 1) := by decide +kernel
theorem dX9_takeSecond_6 : decode cX9_takeSecond 6 = .ok (.bipush 8, 2) := by decide +kernel
theorem dX9_takeSecond_8 : decode cX9_takeSecond 8 = .ok (.iand, 1) := by decide +kernel
theorem dX9_takeSecond_9 : decode cX9_takeSecond 9 = .ok (.ifCond .eq 47, 3) := by decide +kernel
theorem dX9_takeSecond_12 : decode cX9_takeSecond 12 = .ok (.aload_n 0, 1) := by decide +kernel
theorem dX9_takeSecond_13 : decode cX9_takeSecond 13 = .ok (.getfield 7, 3) := by decide +kernel
theorem dX9_takeSecond_16 : decode cX9_takeSecond 16 = .ok (.iload_n 1, 1) := by decide +kernel
theorem dX9_takeSecond_17 : decode cX9_takeSecond 17 = .ok (.iaload, 1) := by decide +kernel
theorem dX9_takeSecond_18 : decode cX9_takeSecond 18 = .ok (.bipush 7, 2) := by decide +kernel
theorem dX9_takeSecond_20 : decode cX9_takeSecond 20 = .ok (.iand, 1) := by decide +kernel
theorem dX9_takeSecond_21 : decode cX9_takeSecond 21 = .ok (.iconst 5, 1) := by decide +kernel
theorem dX9_takeSecond_22 : decode cX9_takeSecond 22 = .ok (.if_icmp .eq 30, 3) := by decide +kernel
theorem dX9_takeSecond_25 : decode cX9_takeSecond 25 = .ok (.aload_n 0, 1) := by decide +kernel
theorem dX9_takeSecond_26 : decode cX9_takeSecond 26 = .ok (.getfield 7, 3) := by decide +kernel
theorem dX9_takeSecond_29 : decode cX9_takeSecond 29 = .ok (.iload_n 1, 1) := by decide +kernel
theorem dX9_takeSecond_30 : decode cX9_takeSecond 30 = .ok (.iaload, 1) := by decide +kernel
theorem dX9_takeSecond_31 : decode cX9_takeSecond 31 = .ok (.bipush 7, 2) := by decide +kernel
theorem dX9_takeSecond_33 : decode cX9_takeSecond 33 = .ok (.iand, 1) := by decide +kernel
theorem dX9_takeSecond_34 : decode cX9_takeSecond 34 = .ok (.bipush 6, 2) := by decide +kernel
theorem dX9_takeSecond_36 : decode cX9_takeSecond 36 = .ok (.if_icmp .eq 16, 3) := by decide +kernel
theorem dX9_takeSecond_39 : decode cX9_takeSecond 39 = .ok (.aload_n 0, 1) := by decide +kernel
theorem dX9_takeSecond_40 : decode cX9_takeSecond 40 = .ok (.getfield 7, 3) := by decide +kernel
theorem dX9_takeSecond_43 : decode cX9_takeSecond 43 = .ok (.iload_n 1, 1) := by decide +kernel
theorem dX9_takeSecond_44 : decode cX9_takeSecond 44 = .ok (.iaload, 1) := by decide +kernel
theorem dX9_takeSecond_45 : decode cX9_takeSecond 45 = .ok (.iconst 4, 1) := by decide +kernel
theorem dX9_takeSecond_46 : decode cX9_takeSecond 46 = .ok (.ishr, 1) := by decide +kernel
theorem dX9_takeSecond_47 : decode cX9_takeSecond 47 = .ok (.bipush 13, 2) := by decide +kernel
theorem dX9_takeSecond_49 : decode cX9_takeSecond 49 = .ok (.if_icmp .eq 7, 3) := by decide +kernel
theorem dX9_takeSecond_52 : decode cX9_takeSecond 52 = .ok (.iconst 1, 1) := by decide +kernel
theorem dX9_takeSecond_53 : decode cX9_takeSecond 53 = .ok (.goto 4, 3) := by decide +kernel
theorem dX9_takeSecond_56 : decode cX9_takeSecond 56 = .ok (.iconst 0, 1) := by decide +kernel
theorem dX9_takeSecond_57 : decode cX9_takeSecond 57 = .ok (.istore_n 2, 1) := by decide +kernel
theorem dX9_takeSecond_58 : decode cX9_takeSecond 58 = .ok (.aload_n 0, 1) := by decide +kernel
theorem dX9_takeSecond_59 : decode cX9_takeSecond 59 = .ok (.iload_n 2, 1) := by decide +kernel
theorem dX9_takeSecond_60 : decode cX9_takeSecond 60 = .ok (.ifCond .eq 17, 3) := by decide +kernel
theorem dX9_takeSecond_63 : decode cX9_takeSecond 63 = .ok (.aload_n 0, 1) := by decide +kernel
theorem dX9_takeSecond_64 : decode cX9_takeSecond 64 = .ok (.getfield 106, 3) := by decide +kernel
theorem dX9_takeSecond_67 : decode cX9_takeSecond 67 = .ok (.aload_n 0, 1) := by decide +kernel
theorem dX9_takeSecond_68 : decode cX9_takeSecond 68 = .ok (.getfield 16, 3) := by decide +kernel
theorem dX9_takeSecond_71 : decode cX9_takeSecond 71 = .ok (.iload_n 1, 1) := by decide +kernel
theorem dX9_takeSecond_72 : decode cX9_takeSecond 72 = .ok (.iaload, 1) := by decide +kernel
theorem dX9_takeSecond_73 : decode cX9_takeSecond 73 = .ok (.iaload, 1) := by decide +kernel
theorem dX9_takeSecond_74 : decode cX9_takeSecond 74 = .ok (.goto 4, 3) := by decide +kernel
theorem dX9_takeSecond_77 : decode cX9_takeSecond 77 = .ok (.iconst 1, 1) := by decide +kernel
theorem dX9_takeSecond_78 : decode cX9_takeSecond 78 = .ok (.putfield 397, 3) := by decide +kernel
theorem dX9_takeSecond_81 : decode cX9_takeSecond 81 = .ok (.aload_n 0, 1) := by decide +kernel
theorem dX9_takeSecond_82 : decode cX9_takeSecond 82 = .ok (.iload_n 2, 1) := by decide +kernel
theorem dX9_takeSecond_83 : decode cX9_takeSecond 83 = .ok (.ifCond .eq 17, 3) := by decide +kernel
theorem dX9_takeSecond_86 : decode cX9_takeSecond 86 = .ok (.aload_n 0, 1) := by decide +kernel
theorem dX9_takeSecond_87 : decode cX9_takeSecond 87 = .ok (.getfield 109, 3) := by decide +kernel
theorem dX9_takeSecond_90 : decode cX9_takeSecond 90 = .ok (.aload_n 0, 1) := by decide +kernel
theorem dX9_takeSecond_91 : decode cX9_takeSecond 91 = .ok (.getfield 16, 3) := by decide +kernel
theorem dX9_takeSecond_94 : decode cX9_takeSecond 94 = .ok (.iload_n 1, 1) := by decide +kernel
theorem dX9_takeSecond_95 : decode cX9_takeSecond 95 = .ok (.iaload, 1) := by decide +kernel
theorem dX9_takeSecond_96 : decode cX9_takeSecond 96 = .ok (.laload, 1) := by decide +kernel
theorem dX9_takeSecond_97 : decode cX9_takeSecond 97 = .ok (.goto 10, 3) := by decide +kernel
theorem dX9_takeSecond_100 : decode cX9_takeSecond 100 = .ok (.aload_n 0, 1) := by decide +kernel
theorem dX9_takeSecond_101 : decode cX9_takeSecond 101 = .ok (.getfield 22, 3) := by decide +kernel
theorem dX9_takeSecond_104 : decode cX9_takeSecond 104 = .ok (.iload_n 1, 1) := by decide +kernel
theorem dX9_takeSecond_105 : decode cX9_takeSecond 105 = .ok (.iaload, 1) := by decide +kernel
theorem dX9_takeSecond_106 : decode cX9_takeSecond 106 = .ok (.i2l, 1) := by decide +kernel
theorem dX9_takeSecond_107 : decode cX9_takeSecond 107 = .ok (.putfield 400, 3) := by decide +kernel
theorem dX9_takeSecond_110 : decode cX9_takeSecond 110 = .ok (.aload_n 0, 1) := by decide +kernel
theorem dX9_takeSecond_111 : decode cX9_takeSecond 111 = .ok (.iload_n 2, 1) := by decide +kernel
theorem dX9_takeSecond_112 : decode cX9_takeSecond 112 = .ok (.ifCond .eq 17, 3) := by decide +kernel
theorem dX9_takeSecond_115 : decode cX9_takeSecond 115 = .ok (.aload_n 0, 1) := by decide +kernel
theorem dX9_takeSecond_116 : decode cX9_takeSecond 116 = .ok (.getfield 112, 3) := by decide +kernel
theorem dX9_takeSecond_119 : decode cX9_takeSecond 119 = .ok (.aload_n 0, 1) := by decide +kernel
theorem dX9_takeSecond_120 : decode cX9_takeSecond 120 = .ok (.getfield 16, 3) := by decide +kernel
theorem dX9_takeSecond_123 : decode cX9_takeSecond 123 = .ok (.iload_n 1, 1) := by decide +kernel
theorem dX9_takeSecond_124 : decode cX9_takeSecond 124 = .ok (.iaload, 1) := by decide +kernel
theorem dX9_takeSecond_125 : decode cX9_takeSecond 125 = .ok (.laload, 1) := by decide +kernel
theorem dX9_takeSecond_126 : decode cX9_takeSecond 126 = .ok (.goto 10, 3) := by decide +kernel
theorem dX9_takeSecond_129 : decode cX9_takeSecond 129 = .ok (.aload_n 0, 1) := by decide +kernel
theorem dX9_takeSecond_130 : decode cX9_takeSecond 130 = .ok (.getfield 22, 3) := by decide +kernel
theorem dX9_takeSecond_133 : decode cX9_takeSecond 133 = .ok (.iload_n 1, 1) := by decide +kernel
theorem dX9_takeSecond_134 : decode cX9_takeSecond 134 = .ok (.iaload, 1) := by decide +kernel
theorem dX9_takeSecond_135 : decode cX9_takeSecond 135 = .ok (.i2l, 1) := by decide +kernel
theorem dX9_takeSecond_136 : decode cX9_takeSecond 136 = .ok (.putfield 403, 3) := by decide +kernel
theorem dX9_takeSecond_139 : decode cX9_takeSecond 139 = .ok (.return_, 1) := by decide +kernel
theorem dX9_mask_0 : decode cX9_mask 0 = .ok (.lconst 0, 1) := by decide +kernel
theorem dX9_mask_1 : decode cX9_mask 1 = .ok (.lstore_n 2, 1) := by decide +kernel
theorem dX9_mask_2 : decode cX9_mask 2 = .ok (.lload_n 2, 1) := by decide +kernel
theorem dX9_mask_3 : decode cX9_mask 3 = .ok (.lload_n 0, 1) := by decide +kernel
theorem dX9_mask_4 : decode cX9_mask 4 = .ok (.invokestatic 175, 3) := by decide +kernel
theorem dX9_mask_7 : decode cX9_mask 7 = .ok (.ifCond .eq 12, 3) := by decide +kernel
theorem dX9_mask_10 : decode cX9_mask 10 = .ok (.lload_n 2, 1) := by decide +kernel
theorem dX9_mask_11 : decode cX9_mask 11 = .ok (.iconst 1, 1) := by decide +kernel
theorem dX9_mask_12 : decode cX9_mask 12 = .ok (.lshl, 1) := by decide +kernel
theorem dX9_mask_13 : decode cX9_mask 13 = .ok (.lconst 1, 1) := by decide +kernel
theorem dX9_mask_14 : decode cX9_mask 14 = .ok (.lor, 1) := by decide +kernel
theorem dX9_mask_15 : decode cX9_mask 15 = .ok (.lstore_n 2, 1) := by decide +kernel
theorem dX9_mask_16 : decode cX9_mask 16 = .ok (.goto (-14), 3) := by decide +kernel
theorem dX9_mask_19 : decode cX9_mask 19 = .ok (.lload_n 2, 1) := by decide +kernel
theorem dX9_mask_20 : decode cX9_mask 20 = .ok (.lreturn, 1) := by decide +kernel
-- JudgedCodeModel.same
def f_X9_same (S : sh) (o0 : Nat) (x1 : Int32) (x2 : Int32) (D : dt) : Option (Unit × dt) := rq (gR D o0 40) fun o56 => rq (gR D o0 40) fun o60 => ix x1 (sA S o60) <| ix x2 (sA S o56) <| nm (pI D o56 x2.toNatClampNeg (gI D o60 x1.toNatClampNeg)) fun D66 => rq (gR D66 o0 41) fun o67 => rq (gR D66 o0 41) fun o71 => ix x1 (sA S o71) <| ix x2 (sA S o67) <| nm (pL D66 o67 x2.toNatClampNeg (gL D66 o71 x1.toNatClampNeg)) fun D77 => rq (gR D77 o0 42) fun o78 => rq (gR D77 o0 42) fun o82 => ix x1 (sA S o82) <| ix x2 (sA S o78) <| nm (pL D77 o78 x2.toNatClampNeg (gL D77 o82 x1.toNatClampNeg)) fun D88 => rq (gR D88 o0 43) fun o89 => rq (gR D88 o0 43) fun o93 => ix x1 (sA S o93) <| ix x2 (sA S o89) <| nm (pI D88 o89 x2.toNatClampNeg (gI D88 o93 x1.toNatClampNeg)) fun D99 => rq (gR D99 o0 44) fun o100 => rq (gR D99 o0 44) fun o104 => ix x1 (sA S o104) <| ix x2 (sA S o100) <| nm (pI D99 o100 x2.toNatClampNeg (gI D99 o104 x1.toNatClampNeg)) fun D110 => some ((), D110)
-- JudgedCodeModel.lesser
def f_X9_lesser (x0 : Int64) (x2 : Int64) : Option Int64 := pq (f_X9_isBelow x0 x2) fun r5 => if r5 = 0 then (some x2) else (some x0)
-- JudgedCodeModel.greater
def f_X9_greater (x0 : Int64) (x2 : Int64) : Option Int64 := pq (f_X9_isBelow x0 x2) fun r5 => if r5 = 0 then (some x0) else (some x2)
-- JudgedCodeModel.join
def f_X9_join_143 (S : sh) (os0 : Nat) (xs1 : Int64) (D : dt) : Option (Unit × dt) := nm (pL D os0 49 xs1) fun D83 => some ((), D83)
def f_X9_join_116 (S : sh) (o0 : Nat) (x1 : Int32) (x5 : Int64) (os0 : Nat) (xs1 : Int64) (D : dt) : Option (Unit × dt) := nm (pL D os0 48 xs1) fun D84 => rq (gR D84 o0 42) fun o85 => ix x1 (sA S o85) <| if (lg_cmp x5 (gL D84 o85 x1.toNatClampNeg)) ≤ 0 then (rq (gR D84 o0 42) fun o91 => ix x1 (sA S o91) <| f_X9_join_143 S o0 (gL D84 o91 x1.toNatClampNeg) D84) else (f_X9_join_143 S o0 x5 D84)
def f_X9_join_89 (S : sh) (o0 : Nat) (x1 : Int32) (x2 : Int32) (x3 : Int64) (x5 : Int64) (D : dt) : Option (Unit × dt) := nm (pI D o0 47 x2) fun D96 => rq (gR D96 o0 41) fun o97 => ix x1 (sA S o97) <| if 0 ≤ (lg_cmp x3 (gL D96 o97 x1.toNatClampNeg)) then (rq (gR D96 o0 41) fun o103 => ix x1 (sA S o103) <| f_X9_join_116 S o0 x1 x5 o0 (gL D96 o103 x1.toNatClampNeg) D96) else (f_X9_join_116 S o0 x1 x5 o0 x3 D96)
def f_X9_join_149 (S : sh) (o0 : Nat) (x1 : Int32) (x2 : Int32) (x3 : Int64) (x5 : Int64) (x7 : Int32) (x8 : Int32) (D : dt) : Option (Unit × dt) := rq (gR D o0 41) fun o108 => ix x1 (sA S o108) <| if (lg_cmp x3 (gL D o108 x1.toNatClampNeg)) = 0 then (rq (gR D o0 43) fun o114 => ix x1 (sA S o114) <| if x7 = (gI D o114 x1.toNatClampNeg) then (rq (gR D o0 44) fun o120 => ix x1 (sA S o120) <| if x8 = (gI D o120 x1.toNatClampNeg) then (if x2 = (5 : Int32) then (some ((), D)) else (nm (pI D o0 47 x2) fun D127 => nm (pL D127 o0 48 x3) fun D128 => nm (pL D128 o0 49 x5) fun D129 => some ((), D129))) else (some ((), D))) else (some ((), D))) else (some ((), D))
def f_X9_join (S : sh) (o0 : Nat) (x1 : Int32) (x2 : Int32) (x3 : Int64) (x5 : Int64) (x7 : Int32) (x8 : Int32) (D : dt) : Option (Unit × dt) := nm (pI D o0 47 (0 : Int32)) fun D130 => nm (pL D130 o0 48 (0 : Int64)) fun D131 => nm (pL D131 o0 49 (0 : Int64)) fun D132 => rq (gR D132 o0 40) fun o133 => ix x1 (sA S o133) <| if x2 = (gI D132 o133 x1.toNatClampNeg) then (if x2 = (1 : Int32) then (nm (pI D132 o0 47 (1 : Int32)) fun D148 => rq (gR D148 o0 41) fun o149 => ix x1 (sA S o149) <| pq (f_X9_lesser x3 (gL D148 o149 x1.toNatClampNeg)) fun r155 => nm (pL D148 o0 48 r155) fun D156 => rq (gR D156 o0 42) fun o157 => ix x1 (sA S o157) <| pq (f_X9_greater x5 (gL D156 o157 x1.toNatClampNeg)) fun r163 => nm (pL D156 o0 49 r163) fun D164 => some ((), D164)) else (if x2 = (2 : Int32) then (f_X9_join_89 S o0 x1 x2 x3 x5 D132) else (if x2 = (5 : Int32) then (rq (gR D132 o0 43) fun o142 => ix x1 (sA S o142) <| if x7 = (gI D132 o142 x1.toNatClampNeg) then (f_X9_join_89 S o0 x1 x2 x3 x5 D132) else (f_X9_join_149 S o0 x1 x2 x3 x5 x7 x8 D132)) else (f_X9_join_149 S o0 x1 x2 x3 x5 x7 x8 D132)))) else (some ((), D132))
-- JudgedCodeModel.goTo
def f_X9_goTo_569 (S : sh) (k519 : Nat → Int32 → Int32 → Int32 → dt → Option (Unit × dt)) (o0 : Nat) (x1 : Int32) (x2 : Int32) (x3 : Int32) (os0 : Nat) (xs1 : Int32) (xs2 : Int32) (D : dt) : Option (Unit × dt) := ix xs1 (sA S os0) <| nm (pI D os0 xs1.toNatClampNeg (vp_nar .boolean xs2)) fun D288 => nm (x3 + 1) fun y289 => k519 o0 x1 x2 y289 D288
def f_X9_goTo_564 (S : sh) (k519 : Nat → Int32 → Int32 → Int32 → dt → Option (Unit × dt)) (o0 : Nat) (x1 : Int32) (x2 : Int32) (x3 : Int32) (os0 : Nat) (xs1 : Int32) (D : dt) : Option (Unit × dt) := f_X9_goTo_569 S k519 o0 x1 x2 x3 os0 xs1 (1 : Int32) D
def f_X9_goTo_568 (S : sh) (k519 : Nat → Int32 → Int32 → Int32 → dt → Option (Unit × dt)) (o0 : Nat) (x1 : Int32) (x2 : Int32) (x3 : Int32) (os0 : Nat) (xs1 : Int32) (D : dt) : Option (Unit × dt) := f_X9_goTo_569 S k519 o0 x1 x2 x3 os0 xs1 (0 : Int32) D
def f_X9_goTo_519 (S : sh) : Nat → Nat → Int32 → Int32 → Int32 → dt → Option (Unit × dt)
  | 0, _, _, _, _, _ => none
  | n + 1, o0, x1, x2, x3, D => if (512 : Int32) ≤ x3 then (some ((), D)) else (nm (((512 : Int32) * x1) + x3) fun y291 => rq (gR D o0 34) fun o292 => rq (gR D o0 45) fun o296 => ix x3 (sA S o296) <| if (gI D o296 x3.toNatClampNeg) = 0 then (f_X9_goTo_568 S (f_X9_goTo_519 S n) o0 x1 x2 x3 o292 y291 D) else (if x2 = 0 then (rq (gR D o0 34) fun o303 => ix y291 (sA S o303) <| if (gI D o303 y291.toNatClampNeg) = 0 then (f_X9_goTo_568 S (f_X9_goTo_519 S n) o0 x1 x2 x3 o292 y291 D) else (f_X9_goTo_564 S (f_X9_goTo_519 S n) o0 x1 x2 x3 o292 y291 D)) else (f_X9_goTo_564 S (f_X9_goTo_519 S n) o0 x1 x2 x3 o292 y291 D)))
def f_X9_goTo_482 (S : sh) (k277 : Nat → Int32 → Int32 → Int32 → dt → Option (Unit × dt)) (o0 : Nat) (x1 : Int32) (x2 : Int32) (x3 : Int32) (x4 : Int32) (x5 : Int32) (os0 : Nat) (xs1 : Int32) (xs2 : Int64) (D : dt) : Option (Unit × dt) := ix xs1 (sA S os0) <| nm (pL D os0 xs1.toNatClampNeg xs2) fun D310 => rq (gR D310 o0 38) fun o311 => rq (gR D310 o0 43) fun o315 => ix x5 (sA S o315) <| ix x4 (sA S o311) <| nm (pI D310 o311 x4.toNatClampNeg (gI D310 o315 x5.toNatClampNeg)) fun D321 => rq (gR D321 o0 39) fun o322 => rq (gR D321 o0 44) fun o326 => ix x5 (sA S o326) <| ix x4 (sA S o322) <| nm (pI D321 o322 x4.toNatClampNeg (gI D321 o326 x5.toNatClampNeg)) fun D332 => nm (x3 + 1) fun y333 => k277 o0 x1 x2 y333 D332
def f_X9_goTo_457 (S : sh) (k277 : Nat → Int32 → Int32 → Int32 → dt → Option (Unit × dt)) (o0 : Nat) (x1 : Int32) (x2 : Int32) (x3 : Int32) (x4 : Int32) (x5 : Int32) (os0 : Nat) (xs1 : Int32) (xs2 : Int64) (D : dt) : Option (Unit × dt) := ix xs1 (sA S os0) <| nm (pL D os0 xs1.toNatClampNeg xs2) fun D335 => rq (gR D335 o0 37) fun o336 => if x2 = 0 then (f_X9_goTo_482 S k277 o0 x1 x2 x3 x4 x5 o336 x4 (gL D335 o0 49) D335) else (rq (gR D335 o0 42) fun o341 => ix x5 (sA S o341) <| f_X9_goTo_482 S k277 o0 x1 x2 x3 x4 x5 o336 x4 (gL D335 o341 x5.toNatClampNeg) D335)
def f_X9_goTo_432 (S : sh) (k277 : Nat → Int32 → Int32 → Int32 → dt → Option (Unit × dt)) (o0 : Nat) (x1 : Int32) (x2 : Int32) (x3 : Int32) (x4 : Int32) (x5 : Int32) (os0 : Nat) (xs1 : Int32) (xs2 : Int32) (D : dt) : Option (Unit × dt) := ix xs1 (sA S os0) <| nm (pI D os0 xs1.toNatClampNeg xs2) fun D347 => rq (gR D347 o0 36) fun o348 => if x2 = 0 then (f_X9_goTo_457 S k277 o0 x1 x2 x3 x4 x5 o348 x4 (gL D347 o0 48) D347) else (rq (gR D347 o0 41) fun o353 => ix x5 (sA S o353) <| f_X9_goTo_457 S k277 o0 x1 x2 x3 x4 x5 o348 x4 (gL D347 o353 x5.toNatClampNeg) D347)
def f_X9_goTo_405 (S : sh) (k277 : Nat → Int32 → Int32 → Int32 → dt → Option (Unit × dt)) (o0 : Nat) (x1 : Int32) (x2 : Int32) (x3 : Int32) (x4 : Int32) (x5 : Int32) (os0 : Nat) (xs1 : Int32) (xs2 : Int32) (xs3 : Int64) (xs4 : Int64) (xs5 : Int32) (xs6 : Int32) (D : dt) : Option (Unit × dt) := cq (f_X9_join S os0 xs1 xs2 xs3 xs4 xs5 xs6 D) fun _ D359 => rq (gR D359 o0 35) fun o360 => if x2 = 0 then (f_X9_goTo_432 S k277 o0 x1 x2 x3 x4 x5 o360 x4 (gI D359 o0 47) D359) else (rq (gR D359 o0 40) fun o365 => ix x5 (sA S o365) <| f_X9_goTo_432 S k277 o0 x1 x2 x3 x4 x5 o360 x4 (gI D359 o365 x5.toNatClampNeg) D359)
def f_X9_goTo_384 (S : sh) (k277 : Nat → Int32 → Int32 → Int32 → dt → Option (Unit × dt)) (o0 : Nat) (x1 : Int32) (x2 : Int32) (x3 : Int32) (x4 : Int32) (x5 : Int32) (os0 : Nat) (xs1 : Int32) (xs2 : Int32) (xs3 : Int64) (xs4 : Int64) (xs5 : Int32) (D : dt) : Option (Unit × dt) := if x2 = 0 then (rq (gR D o0 39) fun o371 => ix x4 (sA S o371) <| f_X9_goTo_405 S k277 o0 x1 x2 x3 x4 x5 os0 xs1 xs2 xs3 xs4 xs5 (gI D o371 x4.toNatClampNeg) D) else (rq (gR D o0 44) fun o376 => ix x5 (sA S o376) <| f_X9_goTo_405 S k277 o0 x1 x2 x3 x4 x5 os0 xs1 xs2 xs3 xs4 xs5 (gI D o376 x5.toNatClampNeg) D)
def f_X9_goTo_363 (S : sh) (k277 : Nat → Int32 → Int32 → Int32 → dt → Option (Unit × dt)) (o0 : Nat) (x1 : Int32) (x2 : Int32) (x3 : Int32) (x4 : Int32) (x5 : Int32) (os0 : Nat) (xs1 : Int32) (xs2 : Int32) (xs3 : Int64) (xs4 : Int64) (D : dt) : Option (Unit × dt) := if x2 = 0 then (rq (gR D o0 38) fun o382 => ix x4 (sA S o382) <| f_X9_goTo_384 S k277 o0 x1 x2 x3 x4 x5 os0 xs1 xs2 xs3 xs4 (gI D o382 x4.toNatClampNeg) D) else (rq (gR D o0 43) fun o387 => ix x5 (sA S o387) <| f_X9_goTo_384 S k277 o0 x1 x2 x3 x4 x5 os0 xs1 xs2 xs3 xs4 (gI D o387 x5.toNatClampNeg) D)
def f_X9_goTo_342 (S : sh) (k277 : Nat → Int32 → Int32 → Int32 → dt → Option (Unit × dt)) (o0 : Nat) (x1 : Int32) (x2 : Int32) (x3 : Int32) (x4 : Int32) (x5 : Int32) (os0 : Nat) (xs1 : Int32) (xs2 : Int32) (xs3 : Int64) (D : dt) : Option (Unit × dt) := if x2 = 0 then (rq (gR D o0 37) fun o393 => ix x4 (sA S o393) <| f_X9_goTo_363 S k277 o0 x1 x2 x3 x4 x5 os0 xs1 xs2 xs3 (gL D o393 x4.toNatClampNeg) D) else (rq (gR D o0 42) fun o398 => ix x5 (sA S o398) <| f_X9_goTo_363 S k277 o0 x1 x2 x3 x4 x5 os0 xs1 xs2 xs3 (gL D o398 x5.toNatClampNeg) D)
def f_X9_goTo_321 (S : sh) (k277 : Nat → Int32 → Int32 → Int32 → dt → Option (Unit × dt)) (o0 : Nat) (x1 : Int32) (x2 : Int32) (x3 : Int32) (x4 : Int32) (x5 : Int32) (os0 : Nat) (xs1 : Int32) (xs2 : Int32) (D : dt) : Option (Unit × dt) := if x2 = 0 then (rq (gR D o0 36) fun o404 => ix x4 (sA S o404) <| f_X9_goTo_342 S k277 o0 x1 x2 x3 x4 x5 os0 xs1 xs2 (gL D o404 x4.toNatClampNeg) D) else (rq (gR D o0 41) fun o409 => ix x5 (sA S o409) <| f_X9_goTo_342 S k277 o0 x1 x2 x3 x4 x5 os0 xs1 xs2 (gL D o409 x5.toNatClampNeg) D)
def f_X9_goTo_277 (S : sh) : Nat → Nat → Int32 → Int32 → Int32 → dt → Option (Unit × dt)
  | 0, _, _, _, _, _ => none
  | n + 1, o0, x1, x2, x3, D => if (64 : Int32) ≤ x3 then (nm ((0 : Int32)) fun y415 => f_X9_goTo_519 S LF o0 x1 x2 y415 D) else (nm (((64 : Int32) * x1) + x3) fun y416 => nm ((11 : Int32) + x3) fun y417 => if x2 = 0 then (rq (gR D o0 35) fun o419 => ix y416 (sA S o419) <| f_X9_goTo_321 S (f_X9_goTo_277 S n) o0 x1 x2 x3 y416 y417 o0 y417 (gI D o419 y416.toNatClampNeg) D) else (rq (gR D o0 40) fun o424 => ix y417 (sA S o424) <| f_X9_goTo_321 S (f_X9_goTo_277 S n) o0 x1 x2 x3 y416 y417 o0 y417 (gI D o424 y417.toNatClampNeg) D))
def f_X9_goTo_268 (S : sh) (k24 : Nat → Int32 → Int32 → Int32 → dt → Option (Unit × dt)) (o0 : Nat) (x1 : Int32) (x2 : Int32) (x3 : Int32) (os0 : Nat) (xs1 : Int32) (xs2 : Int32) (D : dt) : Option (Unit × dt) := ix xs1 (sA S os0) <| nm (pI D os0 xs1.toNatClampNeg xs2) fun D430 => nm (x3 + 1) fun y431 => k24 o0 x1 x2 y431 D430
def f_X9_goTo_241 (S : sh) (k24 : Nat → Int32 → Int32 → Int32 → dt → Option (Unit × dt)) (o0 : Nat) (x1 : Int32) (x2 : Int32) (x3 : Int32) (x4 : Int32) (os0 : Nat) (xs1 : Int32) (xs2 : Int32) (D : dt) : Option (Unit × dt) := ix xs1 (sA S os0) <| nm (pI D os0 xs1.toNatClampNeg xs2) fun D433 => rq (gR D433 o0 33) fun o434 => rq (gR D433 o0 29) fun o438 => ix x4 (sA S o438) <| if (gI D433 o438 x4.toNatClampNeg) = 0 then (f_X9_goTo_268 S k24 o0 x1 x2 x3 o434 x4 (0 : Int32) D433) else (rq (gR D433 o0 44) fun o444 => ix x3 (sA S o444) <| f_X9_goTo_268 S k24 o0 x1 x2 x3 o434 x4 (gI D433 o444 x3.toNatClampNeg) D433)
def f_X9_goTo_214 (S : sh) (k24 : Nat → Int32 → Int32 → Int32 → dt → Option (Unit × dt)) (o0 : Nat) (x1 : Int32) (x2 : Int32) (x3 : Int32) (x4 : Int32) (os0 : Nat) (xs1 : Int32) (xs2 : Int64) (D : dt) : Option (Unit × dt) := ix xs1 (sA S os0) <| nm (pL D os0 xs1.toNatClampNeg xs2) fun D450 => rq (gR D450 o0 32) fun o451 => rq (gR D450 o0 29) fun o455 => ix x4 (sA S o455) <| if (gI D450 o455 x4.toNatClampNeg) = 0 then (f_X9_goTo_241 S k24 o0 x1 x2 x3 x4 o451 x4 (0 : Int32) D450) else (rq (gR D450 o0 43) fun o461 => ix x3 (sA S o461) <| f_X9_goTo_241 S k24 o0 x1 x2 x3 x4 o451 x4 (gI D450 o461 x3.toNatClampNeg) D450)
def f_X9_goTo_190 (S : sh) (k24 : Nat → Int32 → Int32 → Int32 → dt → Option (Unit × dt)) (o0 : Nat) (x1 : Int32) (x2 : Int32) (x3 : Int32) (x4 : Int32) (os0 : Nat) (xs1 : Int32) (xs2 : Int64) (D : dt) : Option (Unit × dt) := ix xs1 (sA S os0) <| nm (pL D os0 xs1.toNatClampNeg xs2) fun D467 => rq (gR D467 o0 31) fun o468 => if x2 = 0 then (f_X9_goTo_214 S k24 o0 x1 x2 x3 x4 o468 x4 (gL D467 o0 49) D467) else (rq (gR D467 o0 42) fun o473 => ix x3 (sA S o473) <| f_X9_goTo_214 S k24 o0 x1 x2 x3 x4 o468 x4 (gL D467 o473 x3.toNatClampNeg) D467)
def f_X9_goTo_166 (S : sh) (k24 : Nat → Int32 → Int32 → Int32 → dt → Option (Unit × dt)) (o0 : Nat) (x1 : Int32) (x2 : Int32) (x3 : Int32) (x4 : Int32) (os0 : Nat) (xs1 : Int32) (xs2 : Int32) (D : dt) : Option (Unit × dt) := ix xs1 (sA S os0) <| nm (pI D os0 xs1.toNatClampNeg xs2) fun D479 => rq (gR D479 o0 30) fun o480 => if x2 = 0 then (f_X9_goTo_190 S k24 o0 x1 x2 x3 x4 o480 x4 (gL D479 o0 48) D479) else (rq (gR D479 o0 41) fun o485 => ix x3 (sA S o485) <| f_X9_goTo_190 S k24 o0 x1 x2 x3 x4 o480 x4 (gL D479 o485 x3.toNatClampNeg) D479)
def f_X9_goTo_140 (S : sh) (k24 : Nat → Int32 → Int32 → Int32 → dt → Option (Unit × dt)) (o0 : Nat) (x1 : Int32) (x2 : Int32) (x3 : Int32) (x4 : Int32) (os0 : Nat) (xs1 : Int32) (xs2 : Int32) (xs3 : Int64) (xs4 : Int64) (xs5 : Int32) (xs6 : Int32) (D : dt) : Option (Unit × dt) := cq (f_X9_join S os0 xs1 xs2 xs3 xs4 xs5 xs6 D) fun _ D491 => rq (gR D491 o0 29) fun o492 => if x2 = 0 then (f_X9_goTo_166 S k24 o0 x1 x2 x3 x4 o492 x4 (gI D491 o0 47) D491) else (rq (gR D491 o0 40) fun o497 => ix x3 (sA S o497) <| f_X9_goTo_166 S k24 o0 x1 x2 x3 x4 o492 x4 (gI D491 o497 x3.toNatClampNeg) D491)
def f_X9_goTo_120 (S : sh) (k24 : Nat → Int32 → Int32 → Int32 → dt → Option (Unit × dt)) (o0 : Nat) (x1 : Int32) (x2 : Int32) (x3 : Int32) (x4 : Int32) (os0 : Nat) (xs1 : Int32) (xs2 : Int32) (xs3 : Int64) (xs4 : Int64) (xs5 : Int32) (D : dt) : Option (Unit × dt) := if x2 = 0 then (rq (gR D o0 33) fun o503 => ix x4 (sA S o503) <| f_X9_goTo_140 S k24 o0 x1 x2 x3 x4 os0 xs1 xs2 xs3 xs4 xs5 (gI D o503 x4.toNatClampNeg) D) else (rq (gR D o0 44) fun o508 => ix x3 (sA S o508) <| f_X9_goTo_140 S k24 o0 x1 x2 x3 x4 os0 xs1 xs2 xs3 xs4 xs5 (gI D o508 x3.toNatClampNeg) D)
def f_X9_goTo_100 (S : sh) (k24 : Nat → Int32 → Int32 → Int32 → dt → Option (Unit × dt)) (o0 : Nat) (x1 : Int32) (x2 : Int32) (x3 : Int32) (x4 : Int32) (os0 : Nat) (xs1 : Int32) (xs2 : Int32) (xs3 : Int64) (xs4 : Int64) (D : dt) : Option (Unit × dt) := if x2 = 0 then (rq (gR D o0 32) fun o514 => ix x4 (sA S o514) <| f_X9_goTo_120 S k24 o0 x1 x2 x3 x4 os0 xs1 xs2 xs3 xs4 (gI D o514 x4.toNatClampNeg) D) else (rq (gR D o0 43) fun o519 => ix x3 (sA S o519) <| f_X9_goTo_120 S k24 o0 x1 x2 x3 x4 os0 xs1 xs2 xs3 xs4 (gI D o519 x3.toNatClampNeg) D)
def f_X9_goTo_80 (S : sh) (k24 : Nat → Int32 → Int32 → Int32 → dt → Option (Unit × dt)) (o0 : Nat) (x1 : Int32) (x2 : Int32) (x3 : Int32) (x4 : Int32) (os0 : Nat) (xs1 : Int32) (xs2 : Int32) (xs3 : Int64) (D : dt) : Option (Unit × dt) := if x2 = 0 then (rq (gR D o0 31) fun o525 => ix x4 (sA S o525) <| f_X9_goTo_100 S k24 o0 x1 x2 x3 x4 os0 xs1 xs2 xs3 (gL D o525 x4.toNatClampNeg) D) else (rq (gR D o0 42) fun o530 => ix x3 (sA S o530) <| f_X9_goTo_100 S k24 o0 x1 x2 x3 x4 os0 xs1 xs2 xs3 (gL D o530 x3.toNatClampNeg) D)
def f_X9_goTo_60 (S : sh) (k24 : Nat → Int32 → Int32 → Int32 → dt → Option (Unit × dt)) (o0 : Nat) (x1 : Int32) (x2 : Int32) (x3 : Int32) (x4 : Int32) (os0 : Nat) (xs1 : Int32) (xs2 : Int32) (D : dt) : Option (Unit × dt) := if x2 = 0 then (rq (gR D o0 30) fun o536 => ix x4 (sA S o536) <| f_X9_goTo_80 S k24 o0 x1 x2 x3 x4 os0 xs1 xs2 (gL D o536 x4.toNatClampNeg) D) else (rq (gR D o0 41) fun o541 => ix x3 (sA S o541) <| f_X9_goTo_80 S k24 o0 x1 x2 x3 x4 os0 xs1 xs2 (gL D o541 x3.toNatClampNeg) D)
def f_X9_goTo_24 (S : sh) : Nat → Nat → Int32 → Int32 → Int32 → dt → Option (Unit × dt)
  | 0, _, _, _, _, _ => none
  | n + 1, o0, x1, x2, x3, D => if (11 : Int32) ≤ x3 then (nm ((0 : Int32)) fun y547 => f_X9_goTo_277 S LF o0 x1 x2 y547 D) else (nm (((11 : Int32) * x1) + x3) fun y548 => if x2 = 0 then (rq (gR D o0 29) fun o550 => ix y548 (sA S o550) <| f_X9_goTo_60 S (f_X9_goTo_24 S n) o0 x1 x2 x3 y548 o0 x3 (gI D o550 y548.toNatClampNeg) D) else (rq (gR D o0 40) fun o555 => ix x3 (sA S o555) <| f_X9_goTo_60 S (f_X9_goTo_24 S n) o0 x1 x2 x3 y548 o0 x3 (gI D o555 x3.toNatClampNeg) D))
def f_X9_goTo_14 (S : sh) (o0 : Nat) (x1 : Int32) (xs0 : Int32) (D : dt) : Option (Unit × dt) := rq (gR D o0 27) fun o560 => ix x1 (sA S o560) <| nm (pI D o560 x1.toNatClampNeg (vp_nar .boolean (1 : Int32))) fun D565 => nm ((0 : Int32)) fun y566 => f_X9_goTo_24 S LF o0 x1 xs0 y566 D565
def f_X9_goTo (S : sh) (o0 : Nat) (x1 : Int32) (D : dt) : Option (Unit × dt) := rq (gR D o0 27) fun o567 => ix x1 (sA S o567) <| if (gI D o567 x1.toNatClampNeg) = 0 then (f_X9_goTo_14 S o0 x1 (1 : Int32) D) else (f_X9_goTo_14 S o0 x1 (0 : Int32) D)
-- JudgedCodeModel.isWay
def f_X9_isWay (S : sh) (o0 : Nat) (x1 : Int32) (D : dt) : Option (Int32 × dt) := if x1 ≤ (gI D o0 46) then (some ((0 : Int32), D)) else (if (gI D o0 0) ≤ x1 then (some ((0 : Int32), D)) else (rq (gR D o0 28) fun o11 => ix x1 (sA S o11) <| if (gI D o11 x1.toNatClampNeg) = 0 then (some ((1 : Int32), D)) else (some ((0 : Int32), D))))
-- JudgedCodeModel.takeSecond
def f_X9_takeSecond_136 (S : sh) (os0 : Nat) (xs1 : Int64) (D : dt) : Option (Unit × dt) := nm (pL D os0 52 xs1) fun D71 => some ((), D71)
def f_X9_takeSecond_107 (S : sh) (o0 : Nat) (x1 : Int32) (x2 : Int32) (os0 : Nat) (xs1 : Int64) (D : dt) : Option (Unit × dt) := nm (pL D os0 51 xs1) fun D72 => if x2 = 0 then (rq (gR D72 o0 5) fun o74 => ix x1 (sA S o74) <| f_X9_takeSecond_136 S o0 ((gI D72 o74 x1.toNatClampNeg).toInt64) D72) else (rq (gR D72 o0 42) fun o79 => rq (gR D72 o0 3) fun o83 => ix x1 (sA S o83) <| ix (gI D72 o83 x1.toNatClampNeg) (sA S o79) <| f_X9_takeSecond_136 S o0 (gL D72 o79 (gI D72 o83 x1.toNatClampNeg).toNatClampNeg) D72)
def f_X9_takeSecond_78 (S : sh) (o0 : Nat) (x1 : Int32) (x2 : Int32) (os0 : Nat) (xs1 : Int32) (D : dt) : Option (Unit × dt) := nm (pI D os0 50 xs1) fun D89 => if x2 = 0 then (rq (gR D89 o0 5) fun o91 => ix x1 (sA S o91) <| f_X9_takeSecond_107 S o0 x1 x2 o0 ((gI D89 o91 x1.toNatClampNeg).toInt64) D89) else (rq (gR D89 o0 41) fun o96 => rq (gR D89 o0 3) fun o100 => ix x1 (sA S o100) <| ix (gI D89 o100 x1.toNatClampNeg) (sA S o96) <| f_X9_takeSecond_107 S o0 x1 x2 o0 (gL D89 o96 (gI D89 o100 x1.toNatClampNeg).toNatClampNeg) D89)
def f_X9_takeSecond_57 (S : sh) (o0 : Nat) (x1 : Int32) (xs0 : Int32) (D : dt) : Option (Unit × dt) := if xs0 = 0 then (f_X9_takeSecond_78 S o0 x1 xs0 o0 (1 : Int32) D) else (rq (gR D o0 40) fun o107 => rq (gR D o0 3) fun o111 => ix x1 (sA S o111) <| ix (gI D o111 x1.toNatClampNeg) (sA S o107) <| f_X9_takeSecond_78 S o0 x1 xs0 o0 (gI D o107 (gI D o111 x1.toNatClampNeg).toNatClampNeg) D)
def f_X9_takeSecond_56 (S : sh) (o0 : Nat) (x1 : Int32) (D : dt) : Option (Unit × dt) := f_X9_takeSecond_57 S o0 x1 (0 : Int32) D
def f_X9_takeSecond_52 (S : sh) (o0 : Nat) (x1 : Int32) (D : dt) : Option (Unit × dt) := f_X9_takeSecond_57 S o0 x1 (1 : Int32) D
def f_X9_takeSecond (S : sh) (o0 : Nat) (x1 : Int32) (D : dt) : Option (Unit × dt) := rq (gR D o0 1) fun o117 => ix x1 (sA S o117) <| if ((gI D o117 x1.toNatClampNeg) &&& (8 : Int32)) = 0 then (f_X9_takeSecond_56 S o0 x1 D) else (rq (gR D o0 1) fun o123 => ix x1 (sA S o123) <| if ((gI D o123 x1.toNatClampNeg) &&& (7 : Int32)) = (5 : Int32) then (f_X9_takeSecond_52 S o0 x1 D) else (rq (gR D o0 1) fun o129 => ix x1 (sA S o129) <| if ((gI D o129 x1.toNatClampNeg) &&& (7 : Int32)) = (6 : Int32) then (f_X9_takeSecond_52 S o0 x1 D) else (rq (gR D o0 1) fun o135 => ix x1 (sA S o135) <| if ((gI D o135 x1.toNatClampNeg) >>> ((4 : Int32) &&& 31)) = (13 : Int32) then (f_X9_takeSecond_56 S o0 x1 D) else (f_X9_takeSecond_52 S o0 x1 D))))
-- JudgedCodeModel.mask
def f_X9_mask_2 : Nat → Int64 → Int64 → Option Int64
  | 0, _, _ => none
  | n + 1, x0, x2 => pq (f_X9_isBelow x2 x0) fun r7 => if r7 = 0 then (some x2) else (nm ((j_lshl x2 (1 : Int32)) ||| (1 : Int64)) fun y9 => f_X9_mask_2 n x0 y9)
def f_X9_mask (x0 : Int64) : Option Int64 := nm ((0 : Int64)) fun y10 => f_X9_mask_2 LF x0 y10
theorem mk_X9_same : MkV yX9_same RX9 cX9_same 3 none 2 := ⟨⟨lk_1487, lk_92, lk_121, (tb_in (i := 1488) (by decide +kernel) (by decide +kernel))⟩, by decide +kernel⟩
theorem mk_X9_lesser : MkS yX9_lesser cX9_lesser 4 (some .long) 2 := ⟨⟨lk_1464, lk_121, (tb_in (i := 1465) (by decide +kernel) (by decide +kernel))⟩, by decide +kernel⟩
theorem mk_X9_greater : MkS yX9_greater cX9_greater 4 (some .long) 2 := ⟨⟨lk_1467, lk_121, (tb_in (i := 1468) (by decide +kernel) (by decide +kernel))⟩, by decide +kernel⟩
theorem mk_X9_join : MkV yX9_join RX9 cX9_join 9 none 6 := ⟨⟨lk_1461, lk_87, lk_121, (tb_in (i := 1462) (by decide +kernel) (by decide +kernel))⟩, by decide +kernel⟩
theorem mk_X9_goTo : MkV yX9_goTo RX9 cX9_goTo 6 none 1 := ⟨⟨lk_1457, lk_86, lk_121, (tb_in (i := 1458) (by decide +kernel) (by decide +kernel))⟩, by decide +kernel⟩
theorem mk_X9_isWay : MkV yX9_isWay RX9 cX9_isWay 2 (some .boolean) 1 := ⟨⟨lk_1522, lk_98, lk_121, (tb_in (i := 1523) (by decide +kernel) (by decide +kernel))⟩, by decide +kernel⟩
theorem mk_X9_takeSecond : MkV yX9_takeSecond RX9 cX9_takeSecond 3 none 1 := ⟨⟨lk_1483, lk_91, lk_121, (tb_in (i := 1484) (by decide +kernel) (by decide +kernel))⟩, by decide +kernel⟩
theorem mk_X9_mask : MkS yX9_mask cX9_mask 4 (some .long) 1 := ⟨⟨lk_1498, lk_121, (tb_in (i := 1499) (by decide +kernel) (by decide +kernel))⟩, by decide +kernel⟩
section
variable {p : Program} {l : Launch} {e : Env} {R : Room} {s : State} {m : MethodId} {args : Array Value} {below : List Frame} {meth : Method} {c : Code} {H : Heap} {locs : List Loc} {G : va_G} {cA : Nat → ClassId} {S : sh} {D : dt} {ad : Nat → Nat} {A : Nat → Prop}
set_option maxHeartbeats 4000000 in
set_option maxRecDepth 100000 in
theorem w_X9_same_0 {r : Unit} {D' : dt} (hC : Cx RX9 cX9_same 3 none p s m args meth c) (hR : 0 ≤ R.frames ∧ 0 ≤ R.locals) : ∀ (o0 a0 : Nat) (x1 : Int32) (x2 : Int32) (D : dt) (H : Heap) (locs : List Loc) (ls : Array Slot), Is S ad o0 a0 8 → Wd G cA S D ad A s H locs → lv_has ls 3 [(0, .ref a0), (1, .int x1), (2, .int x2)] → f_X9_same S o0 x1 x2 D = some (r, D') → W p l e R s m args below meth c H locs 0 0 (MQ below (Qn none True (wpost G cA S D' ad A) A) args s 0 0 A) (F0 m 0 ls []) := by
  obtain ⟨hx, hb, -⟩ := id hC
  intro o0 a0 x1 x2 D H locs ls hi0 hw hl h
  unfold f_X9_same at h
  refine lv_aload_n hx hb dX9_same_0 rfl (lv_at hl 0 rfl) ?_
  obtain ⟨o56, ho59, h⟩ := rq_i h
  refine r_getR hC hw kc_8 hi0 40 rfl lk_1109 dX9_same_1 rfl ho59 (fun a57 hi58 => ?_)
  refine lv_iload_n hx hb dX9_same_4 rfl (lv_at hl 2 rfl) ?_
  refine lv_aload_n hx hb dX9_same_5 rfl (lv_at hl 0 rfl) ?_
  obtain ⟨o60, ho63, h⟩ := rq_i h
  refine r_getR hC hw kc_8 hi0 40 rfl lk_1109 dX9_same_6 rfl ho63 (fun a61 hi62 => ?_)
  refine lv_iload_n hx hb dX9_same_9 rfl (lv_at hl 1 rfl) ?_
  obtain ⟨hn64, h⟩ := ix_i h
  refine r_iald hC hw hi62 hn64 dX9_same_10 ?_
  obtain ⟨hn65, h⟩ := ix_i h
  refine r_ias hC hw hi58 hn65 dX9_same_11 (fun D66 eD66 H locs hw => ?_)
  have h := nm_i h D66 eD66
  refine lv_aload_n hx hb dX9_same_12 rfl (lv_at hl 0 rfl) ?_
  obtain ⟨o67, ho70, h⟩ := rq_i h
  refine r_getR hC hw kc_8 hi0 41 rfl lk_1110 dX9_same_13 rfl ho70 (fun a68 hi69 => ?_)
  refine lv_iload_n hx hb dX9_same_16 rfl (lv_at hl 2 rfl) ?_
  refine lv_aload_n hx hb dX9_same_17 rfl (lv_at hl 0 rfl) ?_
  obtain ⟨o71, ho74, h⟩ := rq_i h
  refine r_getR hC hw kc_8 hi0 41 rfl lk_1110 dX9_same_18 rfl ho74 (fun a72 hi73 => ?_)
  refine lv_iload_n hx hb dX9_same_21 rfl (lv_at hl 1 rfl) ?_
  obtain ⟨hn75, h⟩ := ix_i h
  refine r_lald hC hw hi73 hn75 dX9_same_22 ?_
  obtain ⟨hn76, h⟩ := ix_i h
  refine r_las hC hw hi69 hn76 dX9_same_23 (fun D77 eD77 H locs hw => ?_)
  have h := nm_i h D77 eD77
  refine lv_aload_n hx hb dX9_same_24 rfl (lv_at hl 0 rfl) ?_
  obtain ⟨o78, ho81, h⟩ := rq_i h
  refine r_getR hC hw kc_8 hi0 42 rfl lk_1111 dX9_same_25 rfl ho81 (fun a79 hi80 => ?_)
  refine lv_iload_n hx hb dX9_same_28 rfl (lv_at hl 2 rfl) ?_
  refine lv_aload_n hx hb dX9_same_29 rfl (lv_at hl 0 rfl) ?_
  obtain ⟨o82, ho85, h⟩ := rq_i h
  refine r_getR hC hw kc_8 hi0 42 rfl lk_1111 dX9_same_30 rfl ho85 (fun a83 hi84 => ?_)
  refine lv_iload_n hx hb dX9_same_33 rfl (lv_at hl 1 rfl) ?_
  obtain ⟨hn86, h⟩ := ix_i h
  refine r_lald hC hw hi84 hn86 dX9_same_34 ?_
  obtain ⟨hn87, h⟩ := ix_i h
  refine r_las hC hw hi80 hn87 dX9_same_35 (fun D88 eD88 H locs hw => ?_)
  have h := nm_i h D88 eD88
  refine lv_aload_n hx hb dX9_same_36 rfl (lv_at hl 0 rfl) ?_
  obtain ⟨o89, ho92, h⟩ := rq_i h
  refine r_getR hC hw kc_8 hi0 43 rfl lk_1112 dX9_same_37 rfl ho92 (fun a90 hi91 => ?_)
  refine lv_iload_n hx hb dX9_same_40 rfl (lv_at hl 2 rfl) ?_
  refine lv_aload_n hx hb dX9_same_41 rfl (lv_at hl 0 rfl) ?_
  obtain ⟨o93, ho96, h⟩ := rq_i h
  refine r_getR hC hw kc_8 hi0 43 rfl lk_1112 dX9_same_42 rfl ho96 (fun a94 hi95 => ?_)
  refine lv_iload_n hx hb dX9_same_45 rfl (lv_at hl 1 rfl) ?_
  obtain ⟨hn97, h⟩ := ix_i h
  refine r_iald hC hw hi95 hn97 dX9_same_46 ?_
  obtain ⟨hn98, h⟩ := ix_i h
  refine r_ias hC hw hi91 hn98 dX9_same_47 (fun D99 eD99 H locs hw => ?_)
  have h := nm_i h D99 eD99
  refine lv_aload_n hx hb dX9_same_48 rfl (lv_at hl 0 rfl) ?_
  obtain ⟨o100, ho103, h⟩ := rq_i h
  refine r_getR hC hw kc_8 hi0 44 rfl lk_1113 dX9_same_49 rfl ho103 (fun a101 hi102 => ?_)
  refine lv_iload_n hx hb dX9_same_52 rfl (lv_at hl 2 rfl) ?_
  refine lv_aload_n hx hb dX9_same_53 rfl (lv_at hl 0 rfl) ?_
  obtain ⟨o104, ho107, h⟩ := rq_i h
  refine r_getR hC hw kc_8 hi0 44 rfl lk_1113 dX9_same_54 rfl ho107 (fun a105 hi106 => ?_)
  refine lv_iload_n hx hb dX9_same_57 rfl (lv_at hl 1 rfl) ?_
  obtain ⟨hn108, h⟩ := ix_i h
  refine r_iald hC hw hi106 hn108 dX9_same_58 ?_
  obtain ⟨hn109, h⟩ := ix_i h
  refine r_ias hC hw hi102 hn109 dX9_same_59 (fun D110 eD110 H locs hw => ?_)
  have h := nm_i h D110 eD110
  cases h
  exact r_vret hC hw dX9_same_60
set_option maxHeartbeats 4000000 in
set_option maxRecDepth 100000 in
theorem k_X9_same {l : Launch} {G : va_G} {cA : Nat → ClassId} {S : sh} {D D' : dt} {ad : Nat → Nat} (sz : Nat) {o0 a0 : Nat} {x1 : Int32} {x2 : Int32} {r : Unit} (hi0 : Is S ad o0 a0 8) (h : f_X9_same S o0 x1 x2 D = some (r, D')) : Co l yX9_same (Cond.code yX9_same cX9_same 3 none :: tb0) 0 0 [.ref a0, .int x1, .int x2] G cA S D ad sz none True D' := by
  refine Met.ofW (cc := cX9_same) (maxL := 3) (ret := none) (by decide) rfl ?_
  intro p e s m args below meth c s₁ B hml hv
  obtain ⟨rfl, hsz, hP, hK, hD0, hT, hX⟩ := hv
  subst hsz
  have hts := atoms_spec (ws := Cond.code yX9_same cX9_same 3 none :: tb0) B.pre
  have hC : Cx RX9 cX9_same 3 none p s m _ meth c := ⟨B.exec, B.bytes, hml, findClass_of_methodNamed B.named, fun w q => hts w (List.mem_cons_of_mem _ q), B.returns, B.notSynchronized⟩
  have hw := Wd.entry hP hK hD0 hT hX
  have hl := lv_entry ([.ref a0, .int x1, .int x2]) (n := 3) (Nat.le_of_ble_eq_true rfl)
  rw [lg_entry_eq]
  exact w_X9_same_0 hC ⟨Nat.le_refl _, Nat.le_refl _⟩ o0 a0 x1 x2 D _ _ _ hi0 hw hl h
set_option maxHeartbeats 4000000 in
set_option maxRecDepth 100000 in
theorem w_X9_lesser_0 {r : Int64} (hC : Cx RX9 cX9_lesser 4 (some .long) p s m args meth c) (hR : 1 ≤ R.frames ∧ 23 ≤ R.locals) : ∀ (x0 : Int64) (x2 : Int64) (H : Heap) (locs : List Loc) (ls : Array Slot), Wd G cA S D ad A s H locs → lv_has ls 4 [(0, .long x0), (2, .long x2)] → f_X9_lesser x0 x2 = some r → W p l e R s m args below meth c H locs 0 0 (MQ below (Qn (some (.long r)) True (wpost G cA S D ad A) A) args s 0 0 A) (F0 m 0 ls []) := by
  obtain ⟨hx, hb, -⟩ := id hC
  intro x0 x2 H locs ls hw hl h
  unfold f_X9_lesser at h
  refine lv_lload_n hx hb dX9_lesser_0 rfl (lv_at hl 0 rfl) ?_
  refine lv_lload_n hx hb dX9_lesser_1 rfl (lv_at hl 1 rfl) ?_
  obtain ⟨r5, hq4, h⟩ := pq_i h
  refine r_cS (st' := [.int r5]) [.long x0, .long x2] [] hC hw (k_X9_isBelow _ hq4) mk_X9_isBelow lk_1355 ⟨Nat.le_trans (by decide) hR.1, Nat.le_trans (by decide) hR.2⟩ ⟨Nat.zero_le _, Nat.zero_le _⟩ rfl hl.1 rfl rfl (Nat.le_of_ble_eq_true rfl) dX9_lesser_2 (fun hP H locs hw => ?_)
  refine lv_if_eq (tgt := 12) hx hb dX9_lesser_5 (by decide) (fun c6 => ?_) (fun c6 => ?_)
  · have h := i_yes c6 h
    refine lv_lload_n hx hb dX9_lesser_12 rfl (lv_at hl 1 rfl) ?_
    cases h
    exact r_lret hC hw dX9_lesser_13
  · have h := i_no c6 h
    refine lv_lload_n hx hb dX9_lesser_8 rfl (lv_at hl 0 rfl) ?_
    refine lv_goto (tgt := 13) hx hb dX9_lesser_9 (by decide) ?_
    cases h
    exact r_lret hC hw dX9_lesser_13
set_option maxHeartbeats 4000000 in
set_option maxRecDepth 100000 in
theorem k_X9_lesser {l : Launch} {G : va_G} {cA : Nat → ClassId} {S : sh} {D : dt} {ad : Nat → Nat} (sz : Nat) {x0 : Int64} {x2 : Int64} {r : Int64}  (h : f_X9_lesser x0 x2 = some r) : Co l yX9_lesser (Cond.code yX9_lesser cX9_lesser 4 (some .long) :: tb0) 1 23 [.long x0, .long x2] G cA S D ad sz (some (.long r)) True D := by
  refine Met.ofW (cc := cX9_lesser) (maxL := 4) (ret := (some .long)) (by decide) rfl ?_
  intro p e s m args below meth c s₁ B hml hv
  obtain ⟨rfl, hsz, hP, hK, hD0, hT, hX⟩ := hv
  subst hsz
  have hts := atoms_spec (ws := Cond.code yX9_lesser cX9_lesser 4 (some .long) :: tb0) B.pre
  have hC : Cx RX9 cX9_lesser 4 (some .long) p s m _ meth c := ⟨B.exec, B.bytes, hml, findClass_of_methodNamed B.named, fun w q => hts w (List.mem_cons_of_mem _ q), B.returns, B.notSynchronized⟩
  have hw := Wd.entry hP hK hD0 hT hX
  have hl := lv_entry ([.long x0, .long x2]) (n := 4) (Nat.le_of_ble_eq_true rfl)
  rw [lg_entry_eq]
  exact w_X9_lesser_0 hC ⟨Nat.le_refl _, Nat.le_refl _⟩ x0 x2 _ _ _ hw hl h
set_option maxHeartbeats 4000000 in
set_option maxRecDepth 100000 in
theorem w_X9_greater_0 {r : Int64} (hC : Cx RX9 cX9_greater 4 (some .long) p s m args meth c) (hR : 1 ≤ R.frames ∧ 23 ≤ R.locals) : ∀ (x0 : Int64) (x2 : Int64) (H : Heap) (locs : List Loc) (ls : Array Slot), Wd G cA S D ad A s H locs → lv_has ls 4 [(0, .long x0), (2, .long x2)] → f_X9_greater x0 x2 = some r → W p l e R s m args below meth c H locs 0 0 (MQ below (Qn (some (.long r)) True (wpost G cA S D ad A) A) args s 0 0 A) (F0 m 0 ls []) := by
  obtain ⟨hx, hb, -⟩ := id hC
  intro x0 x2 H locs ls hw hl h
  unfold f_X9_greater at h
  refine lv_lload_n hx hb dX9_greater_0 rfl (lv_at hl 0 rfl) ?_
  refine lv_lload_n hx hb dX9_greater_1 rfl (lv_at hl 1 rfl) ?_
  obtain ⟨r5, hq4, h⟩ := pq_i h
  refine r_cS (st' := [.int r5]) [.long x0, .long x2] [] hC hw (k_X9_isBelow _ hq4) mk_X9_isBelow lk_1355 ⟨Nat.le_trans (by decide) hR.1, Nat.le_trans (by decide) hR.2⟩ ⟨Nat.zero_le _, Nat.zero_le _⟩ rfl hl.1 rfl rfl (Nat.le_of_ble_eq_true rfl) dX9_greater_2 (fun hP H locs hw => ?_)
  refine lv_if_eq (tgt := 12) hx hb dX9_greater_5 (by decide) (fun c6 => ?_) (fun c6 => ?_)
  · have h := i_yes c6 h
    refine lv_lload_n hx hb dX9_greater_12 rfl (lv_at hl 0 rfl) ?_
    cases h
    exact r_lret hC hw dX9_greater_13
  · have h := i_no c6 h
    refine lv_lload_n hx hb dX9_greater_8 rfl (lv_at hl 1 rfl) ?_
    refine lv_goto (tgt := 13) hx hb dX9_greater_9 (by decide) ?_
    cases h
    exact r_lret hC hw dX9_greater_13
set_option maxHeartbeats 4000000 in
set_option maxRecDepth 100000 in
theorem k_X9_greater {l : Launch} {G : va_G} {cA : Nat → ClassId} {S : sh} {D : dt} {ad : Nat → Nat} (sz : Nat) {x0 : Int64} {x2 : Int64} {r : Int64}  (h : f_X9_greater x0 x2 = some r) : Co l yX9_greater (Cond.code yX9_greater cX9_greater 4 (some .long) :: tb0) 1 23 [.long x0, .long x2] G cA S D ad sz (some (.long r)) True D := by
  refine Met.ofW (cc := cX9_greater) (maxL := 4) (ret := (some .long)) (by decide) rfl ?_
  intro p e s m args below meth c s₁ B hml hv
  obtain ⟨rfl, hsz, hP, hK, hD0, hT, hX⟩ := hv
  subst hsz
  have hts := atoms_spec (ws := Cond.code yX9_greater cX9_greater 4 (some .long) :: tb0) B.pre
  have hC : Cx RX9 cX9_greater 4 (some .long) p s m _ meth c := ⟨B.exec, B.bytes, hml, findClass_of_methodNamed B.named, fun w q => hts w (List.mem_cons_of_mem _ q), B.returns, B.notSynchronized⟩
  have hw := Wd.entry hP hK hD0 hT hX
  have hl := lv_entry ([.long x0, .long x2]) (n := 4) (Nat.le_of_ble_eq_true rfl)
  rw [lg_entry_eq]
  exact w_X9_greater_0 hC ⟨Nat.le_refl _, Nat.le_refl _⟩ x0 x2 _ _ _ hw hl h
set_option maxHeartbeats 4000000 in
set_option maxRecDepth 100000 in
theorem w_X9_join_143 {r : Unit} {D' : dt} (hC : Cx RX9 cX9_join 9 none p s m args meth c) (hR : 2 ≤ R.frames ∧ 46 ≤ R.locals) : ∀ (os0 as0 : Nat) (xs1 : Int64) (D : dt) (H : Heap) (locs : List Loc) (ls : Array Slot), Is S ad os0 as0 8 → Wd G cA S D ad A s H locs → lv_has ls 9 [] → f_X9_join_143 S os0 xs1 D = some (r, D') → W p l e R s m args below meth c H locs 0 0 (MQ below (Qn none True (wpost G cA S D' ad A) A) args s 0 0 A) (F0 m 143 ls [.long xs1, .ref as0]) := by
  obtain ⟨hx, hb, -⟩ := id hC
  intro os0 as0 xs1 D H locs ls his0 hw hl h
  unfold f_X9_join_143 at h
  refine r_pL hC hw kc_8 his0 49 rfl lk_1118 rfl rfl rfl dX9_join_143 (fun D83 eD83 H locs hw => ?_)
  have h := nm_i h D83 eD83
  refine lv_goto (tgt := 203) hx hb dX9_join_146 (by decide) ?_
  cases h
  exact r_vret hC hw dX9_join_203
set_option maxHeartbeats 4000000 in
set_option maxRecDepth 100000 in
theorem w_X9_join_116 {r : Unit} {D' : dt} (hC : Cx RX9 cX9_join 9 none p s m args meth c) (hR : 2 ≤ R.frames ∧ 46 ≤ R.locals) : ∀ (o0 a0 : Nat) (x1 : Int32) (x5 : Int64) (os0 as0 : Nat) (xs1 : Int64) (D : dt) (H : Heap) (locs : List Loc) (ls : Array Slot), Is S ad o0 a0 8 → Is S ad os0 as0 8 → Wd G cA S D ad A s H locs → lv_has ls 9 [(0, .ref a0), (1, .int x1), (5, .long x5)] → f_X9_join_116 S o0 x1 x5 os0 xs1 D = some (r, D') → W p l e R s m args below meth c H locs 0 0 (MQ below (Qn none True (wpost G cA S D' ad A) A) args s 0 0 A) (F0 m 116 ls [.long xs1, .ref as0]) := by
  obtain ⟨hx, hb, -⟩ := id hC
  intro o0 a0 x1 x5 os0 as0 xs1 D H locs ls hi0 his0 hw hl h
  unfold f_X9_join_116 at h
  refine r_pL hC hw kc_8 his0 48 rfl lk_1117 rfl rfl rfl dX9_join_116 (fun D84 eD84 H locs hw => ?_)
  have h := nm_i h D84 eD84
  refine lv_aload_n hx hb dX9_join_119 rfl (lv_at hl 0 rfl) ?_
  refine lv_lload hx hb dX9_join_120 (lv_at hl 2 rfl) ?_
  refine lv_aload_n hx hb dX9_join_122 rfl (lv_at hl 0 rfl) ?_
  obtain ⟨o85, ho88, h⟩ := rq_i h
  refine r_getR hC hw kc_8 hi0 42 rfl lk_1111 dX9_join_123 rfl ho88 (fun a86 hi87 => ?_)
  refine lv_iload_n hx hb dX9_join_126 rfl (lv_at hl 1 rfl) ?_
  obtain ⟨hn89, h⟩ := ix_i h
  refine r_lald hC hw hi87 hn89 dX9_join_127 ?_
  refine W.lcmp hx hb dX9_join_128 ?_
  refine lv_if_le (tgt := 137) hx hb dX9_join_129 (by decide) (fun c90 => ?_) (fun c90 => ?_)
  · have h := i_yes c90 h
    refine lv_aload_n hx hb dX9_join_137 rfl (lv_at hl 0 rfl) ?_
    obtain ⟨o91, ho94, h⟩ := rq_i h
    refine r_getR hC hw kc_8 hi0 42 rfl lk_1111 dX9_join_138 rfl ho94 (fun a92 hi93 => ?_)
    refine lv_iload_n hx hb dX9_join_141 rfl (lv_at hl 1 rfl) ?_
    obtain ⟨hn95, h⟩ := ix_i h
    refine r_lald hC hw hi93 hn95 dX9_join_142 ?_
    exact w_X9_join_143 hC hR o0 a0 (gL D84 o91 x1.toNatClampNeg) _ _ _ _ hi0 hw (lv_sub hl [] rfl) h
  · have h := i_no c90 h
    refine lv_lload hx hb dX9_join_132 (lv_at hl 2 rfl) ?_
    refine lv_goto (tgt := 143) hx hb dX9_join_134 (by decide) ?_
    exact w_X9_join_143 hC hR o0 a0 x5 _ _ _ _ hi0 hw (lv_sub hl [] rfl) h
set_option maxHeartbeats 4000000 in
set_option maxRecDepth 100000 in
theorem w_X9_join_89 {r : Unit} {D' : dt} (hC : Cx RX9 cX9_join 9 none p s m args meth c) (hR : 2 ≤ R.frames ∧ 46 ≤ R.locals) : ∀ (o0 a0 : Nat) (x1 : Int32) (x2 : Int32) (x3 : Int64) (x5 : Int64) (D : dt) (H : Heap) (locs : List Loc) (ls : Array Slot), Is S ad o0 a0 8 → Wd G cA S D ad A s H locs → lv_has ls 9 [(0, .ref a0), (1, .int x1), (2, .int x2), (3, .long x3), (5, .long x5)] → f_X9_join_89 S o0 x1 x2 x3 x5 D = some (r, D') → W p l e R s m args below meth c H locs 0 0 (MQ below (Qn none True (wpost G cA S D' ad A) A) args s 0 0 A) (F0 m 89 ls []) := by
  obtain ⟨hx, hb, -⟩ := id hC
  intro o0 a0 x1 x2 x3 x5 D H locs ls hi0 hw hl h
  unfold f_X9_join_89 at h
  refine lv_aload_n hx hb dX9_join_89 rfl (lv_at hl 0 rfl) ?_
  refine lv_iload_n hx hb dX9_join_90 rfl (lv_at hl 2 rfl) ?_
  refine r_pI hC hw kc_8 hi0 47 rfl lk_1116 rfl rfl rfl dX9_join_91 (fun D96 eD96 H locs hw => ?_)
  have h := nm_i h D96 eD96
  refine lv_aload_n hx hb dX9_join_94 rfl (lv_at hl 0 rfl) ?_
  refine lv_lload_n hx hb dX9_join_95 rfl (lv_at hl 3 rfl) ?_
  refine lv_aload_n hx hb dX9_join_96 rfl (lv_at hl 0 rfl) ?_
  obtain ⟨o97, ho100, h⟩ := rq_i h
  refine r_getR hC hw kc_8 hi0 41 rfl lk_1110 dX9_join_97 rfl ho100 (fun a98 hi99 => ?_)
  refine lv_iload_n hx hb dX9_join_100 rfl (lv_at hl 1 rfl) ?_
  obtain ⟨hn101, h⟩ := ix_i h
  refine r_lald hC hw hi99 hn101 dX9_join_101 ?_
  refine W.lcmp hx hb dX9_join_102 ?_
  refine lv_if_ge (tgt := 110) hx hb dX9_join_103 (by decide) (fun c102 => ?_) (fun c102 => ?_)
  · have h := i_yes c102 h
    refine lv_aload_n hx hb dX9_join_110 rfl (lv_at hl 0 rfl) ?_
    obtain ⟨o103, ho106, h⟩ := rq_i h
    refine r_getR hC hw kc_8 hi0 41 rfl lk_1110 dX9_join_111 rfl ho106 (fun a104 hi105 => ?_)
    refine lv_iload_n hx hb dX9_join_114 rfl (lv_at hl 1 rfl) ?_
    obtain ⟨hn107, h⟩ := ix_i h
    refine r_lald hC hw hi105 hn107 dX9_join_115 ?_
    exact w_X9_join_116 hC hR o0 a0 x1 x5 o0 a0 (gL D96 o103 x1.toNatClampNeg) _ _ _ _ hi0 hi0 hw (lv_sub hl [0, 1, 4] rfl) h
  · have h := i_no c102 h
    refine lv_lload_n hx hb dX9_join_106 rfl (lv_at hl 3 rfl) ?_
    refine lv_goto (tgt := 116) hx hb dX9_join_107 (by decide) ?_
    exact w_X9_join_116 hC hR o0 a0 x1 x5 o0 a0 x3 _ _ _ _ hi0 hi0 hw (lv_sub hl [0, 1, 4] rfl) h
set_option maxHeartbeats 4000000 in
set_option maxRecDepth 100000 in
theorem w_X9_join_149 {r : Unit} {D' : dt} (hC : Cx RX9 cX9_join 9 none p s m args meth c) (hR : 2 ≤ R.frames ∧ 46 ≤ R.locals) : ∀ (o0 a0 : Nat) (x1 : Int32) (x2 : Int32) (x3 : Int64) (x5 : Int64) (x7 : Int32) (x8 : Int32) (D : dt) (H : Heap) (locs : List Loc) (ls : Array Slot), Is S ad o0 a0 8 → Wd G cA S D ad A s H locs → lv_has ls 9 [(0, .ref a0), (1, .int x1), (2, .int x2), (3, .long x3), (5, .long x5), (7, .int x7), (8, .int x8)] → f_X9_join_149 S o0 x1 x2 x3 x5 x7 x8 D = some (r, D') → W p l e R s m args below meth c H locs 0 0 (MQ below (Qn none True (wpost G cA S D' ad A) A) args s 0 0 A) (F0 m 149 ls []) := by
  obtain ⟨hx, hb, -⟩ := id hC
  intro o0 a0 x1 x2 x3 x5 x7 x8 D H locs ls hi0 hw hl h
  unfold f_X9_join_149 at h
  refine lv_lload_n hx hb dX9_join_149 rfl (lv_at hl 3 rfl) ?_
  refine lv_aload_n hx hb dX9_join_150 rfl (lv_at hl 0 rfl) ?_
  obtain ⟨o108, ho111, h⟩ := rq_i h
  refine r_getR hC hw kc_8 hi0 41 rfl lk_1110 dX9_join_151 rfl ho111 (fun a109 hi110 => ?_)
  refine lv_iload_n hx hb dX9_join_154 rfl (lv_at hl 1 rfl) ?_
  obtain ⟨hn112, h⟩ := ix_i h
  refine r_lald hC hw hi110 hn112 dX9_join_155 ?_
  refine W.lcmp hx hb dX9_join_156 ?_
  refine lv_if_ne (tgt := 203) hx hb dX9_join_157 (by decide) (fun c113 => ?_) (fun c113 => ?_)
  · have h := i_no c113 h
    cases h
    exact r_vret hC hw dX9_join_203
  · have h := i_yes c113 h
    refine lv_iload hx hb dX9_join_160 (lv_at hl 5 rfl) ?_
    refine lv_aload_n hx hb dX9_join_162 rfl (lv_at hl 0 rfl) ?_
    obtain ⟨o114, ho117, h⟩ := rq_i h
    refine r_getR hC hw kc_8 hi0 43 rfl lk_1112 dX9_join_163 rfl ho117 (fun a115 hi116 => ?_)
    refine lv_iload_n hx hb dX9_join_166 rfl (lv_at hl 1 rfl) ?_
    obtain ⟨hn118, h⟩ := ix_i h
    refine r_iald hC hw hi116 hn118 dX9_join_167 ?_
    refine lv_icmp_ne (tgt := 203) hx hb dX9_join_168 (by decide) (fun c119 => ?_) (fun c119 => ?_)
    · have h := i_no c119 h
      cases h
      exact r_vret hC hw dX9_join_203
    · have h := i_yes c119 h
      refine lv_iload hx hb dX9_join_171 (lv_at hl 6 rfl) ?_
      refine lv_aload_n hx hb dX9_join_173 rfl (lv_at hl 0 rfl) ?_
      obtain ⟨o120, ho123, h⟩ := rq_i h
      refine r_getR hC hw kc_8 hi0 44 rfl lk_1113 dX9_join_174 rfl ho123 (fun a121 hi122 => ?_)
      refine lv_iload_n hx hb dX9_join_177 rfl (lv_at hl 1 rfl) ?_
      obtain ⟨hn124, h⟩ := ix_i h
      refine r_iald hC hw hi122 hn124 dX9_join_178 ?_
      refine lv_icmp_ne (tgt := 203) hx hb dX9_join_179 (by decide) (fun c125 => ?_) (fun c125 => ?_)
      · have h := i_no c125 h
        cases h
        exact r_vret hC hw dX9_join_203
      · have h := i_yes c125 h
        refine lv_iload_n hx hb dX9_join_182 rfl (lv_at hl 2 rfl) ?_
        refine lv_iconst (v := 5) hx hb dX9_join_183 (by decide) ?_
        refine lv_icmp_eq (tgt := 203) hx hb dX9_join_184 (by decide) (fun c126 => ?_) (fun c126 => ?_)
        · have h := i_yes c126 h
          cases h
          exact r_vret hC hw dX9_join_203
        · have h := i_no c126 h
          refine lv_aload_n hx hb dX9_join_187 rfl (lv_at hl 0 rfl) ?_
          refine lv_iload_n hx hb dX9_join_188 rfl (lv_at hl 2 rfl) ?_
          refine r_pI hC hw kc_8 hi0 47 rfl lk_1116 rfl rfl rfl dX9_join_189 (fun D127 eD127 H locs hw => ?_)
          have h := nm_i h D127 eD127
          refine lv_aload_n hx hb dX9_join_192 rfl (lv_at hl 0 rfl) ?_
          refine lv_lload_n hx hb dX9_join_193 rfl (lv_at hl 3 rfl) ?_
          refine r_pL hC hw kc_8 hi0 48 rfl lk_1117 rfl rfl rfl dX9_join_194 (fun D128 eD128 H locs hw => ?_)
          have h := nm_i h D128 eD128
          refine lv_aload_n hx hb dX9_join_197 rfl (lv_at hl 0 rfl) ?_
          refine lv_lload hx hb dX9_join_198 (lv_at hl 4 rfl) ?_
          refine r_pL hC hw kc_8 hi0 49 rfl lk_1118 rfl rfl rfl dX9_join_200 (fun D129 eD129 H locs hw => ?_)
          have h := nm_i h D129 eD129
          cases h
          exact r_vret hC hw dX9_join_203
set_option maxHeartbeats 4000000 in
set_option maxRecDepth 100000 in
theorem w_X9_join_0 {r : Unit} {D' : dt} (hC : Cx RX9 cX9_join 9 none p s m args meth c) (hR : 2 ≤ R.frames ∧ 46 ≤ R.locals) : ∀ (o0 a0 : Nat) (x1 : Int32) (x2 : Int32) (x3 : Int64) (x5 : Int64) (x7 : Int32) (x8 : Int32) (D : dt) (H : Heap) (locs : List Loc) (ls : Array Slot), Is S ad o0 a0 8 → Wd G cA S D ad A s H locs → lv_has ls 9 [(0, .ref a0), (1, .int x1), (2, .int x2), (3, .long x3), (5, .long x5), (7, .int x7), (8, .int x8)] → f_X9_join S o0 x1 x2 x3 x5 x7 x8 D = some (r, D') → W p l e R s m args below meth c H locs 0 0 (MQ below (Qn none True (wpost G cA S D' ad A) A) args s 0 0 A) (F0 m 0 ls []) := by
  obtain ⟨hx, hb, -⟩ := id hC
  intro o0 a0 x1 x2 x3 x5 x7 x8 D H locs ls hi0 hw hl h
  unfold f_X9_join at h
  refine lv_aload_n hx hb dX9_join_0 rfl (lv_at hl 0 rfl) ?_
  refine lv_iconst (v := 0) hx hb dX9_join_1 (by decide) ?_
  refine r_pI hC hw kc_8 hi0 47 rfl lk_1116 rfl rfl rfl dX9_join_2 (fun D130 eD130 H locs hw => ?_)
  have h := nm_i h D130 eD130
  refine lv_aload_n hx hb dX9_join_5 rfl (lv_at hl 0 rfl) ?_
  refine lv_lconst (v := 0) hx hb dX9_join_6 (by decide) ?_
  refine r_pL hC hw kc_8 hi0 48 rfl lk_1117 rfl rfl rfl dX9_join_7 (fun D131 eD131 H locs hw => ?_)
  have h := nm_i h D131 eD131
  refine lv_aload_n hx hb dX9_join_10 rfl (lv_at hl 0 rfl) ?_
  refine lv_lconst (v := 0) hx hb dX9_join_11 (by decide) ?_
  refine r_pL hC hw kc_8 hi0 49 rfl lk_1118 rfl rfl rfl dX9_join_12 (fun D132 eD132 H locs hw => ?_)
  have h := nm_i h D132 eD132
  refine lv_iload_n hx hb dX9_join_15 rfl (lv_at hl 2 rfl) ?_
  refine lv_aload_n hx hb dX9_join_16 rfl (lv_at hl 0 rfl) ?_
  obtain ⟨o133, ho136, h⟩ := rq_i h
  refine r_getR hC hw kc_8 hi0 40 rfl lk_1109 dX9_join_17 rfl ho136 (fun a134 hi135 => ?_)
  refine lv_iload_n hx hb dX9_join_20 rfl (lv_at hl 1 rfl) ?_
  obtain ⟨hn137, h⟩ := ix_i h
  refine r_iald hC hw hi135 hn137 dX9_join_21 ?_
  refine lv_icmp_eq (tgt := 26) hx hb dX9_join_22 (by decide) (fun c138 => ?_) (fun c138 => ?_)
  · have h := i_yes c138 h
    refine lv_iload_n hx hb dX9_join_26 rfl (lv_at hl 2 rfl) ?_
    refine lv_iconst (v := 1) hx hb dX9_join_27 (by decide) ?_
    refine lv_icmp_ne (tgt := 68) hx hb dX9_join_28 (by decide) (fun c139 => ?_) (fun c139 => ?_)
    · have h := i_no c139 h
      refine lv_iload_n hx hb dX9_join_68 rfl (lv_at hl 2 rfl) ?_
      refine lv_iconst (v := 2) hx hb dX9_join_69 (by decide) ?_
      refine lv_icmp_eq (tgt := 89) hx hb dX9_join_70 (by decide) (fun c140 => ?_) (fun c140 => ?_)
      · have h := i_yes c140 h
        exact w_X9_join_89 hC hR o0 a0 x1 x2 x3 x5 _ _ _ _ hi0 hw (lv_sub hl [0, 1, 2, 3, 4] rfl) h
      · have h := i_no c140 h
        refine lv_iload_n hx hb dX9_join_73 rfl (lv_at hl 2 rfl) ?_
        refine lv_iconst (v := 5) hx hb dX9_join_74 (by decide) ?_
        refine lv_icmp_ne (tgt := 149) hx hb dX9_join_75 (by decide) (fun c141 => ?_) (fun c141 => ?_)
        · have h := i_no c141 h
          exact w_X9_join_149 hC hR o0 a0 x1 x2 x3 x5 x7 x8 _ _ _ _ hi0 hw (lv_sub hl [0, 1, 2, 3, 4, 5, 6] rfl) h
        · have h := i_yes c141 h
          refine lv_iload hx hb dX9_join_78 (lv_at hl 5 rfl) ?_
          refine lv_aload_n hx hb dX9_join_80 rfl (lv_at hl 0 rfl) ?_
          obtain ⟨o142, ho145, h⟩ := rq_i h
          refine r_getR hC hw kc_8 hi0 43 rfl lk_1112 dX9_join_81 rfl ho145 (fun a143 hi144 => ?_)
          refine lv_iload_n hx hb dX9_join_84 rfl (lv_at hl 1 rfl) ?_
          obtain ⟨hn146, h⟩ := ix_i h
          refine r_iald hC hw hi144 hn146 dX9_join_85 ?_
          refine lv_icmp_ne (tgt := 149) hx hb dX9_join_86 (by decide) (fun c147 => ?_) (fun c147 => ?_)
          · have h := i_no c147 h
            exact w_X9_join_149 hC hR o0 a0 x1 x2 x3 x5 x7 x8 _ _ _ _ hi0 hw (lv_sub hl [0, 1, 2, 3, 4, 5, 6] rfl) h
          · have h := i_yes c147 h
            exact w_X9_join_89 hC hR o0 a0 x1 x2 x3 x5 _ _ _ _ hi0 hw (lv_sub hl [0, 1, 2, 3, 4] rfl) h
    · have h := i_yes c139 h
      refine lv_aload_n hx hb dX9_join_31 rfl (lv_at hl 0 rfl) ?_
      refine lv_iconst (v := 1) hx hb dX9_join_32 (by decide) ?_
      refine r_pI hC hw kc_8 hi0 47 rfl lk_1116 rfl rfl rfl dX9_join_33 (fun D148 eD148 H locs hw => ?_)
      have h := nm_i h D148 eD148
      refine lv_aload_n hx hb dX9_join_36 rfl (lv_at hl 0 rfl) ?_
      refine lv_lload_n hx hb dX9_join_37 rfl (lv_at hl 3 rfl) ?_
      refine lv_aload_n hx hb dX9_join_38 rfl (lv_at hl 0 rfl) ?_
      obtain ⟨o149, ho152, h⟩ := rq_i h
      refine r_getR hC hw kc_8 hi0 41 rfl lk_1110 dX9_join_39 rfl ho152 (fun a150 hi151 => ?_)
      refine lv_iload_n hx hb dX9_join_42 rfl (lv_at hl 1 rfl) ?_
      obtain ⟨hn153, h⟩ := ix_i h
      refine r_lald hC hw hi151 hn153 dX9_join_43 ?_
      obtain ⟨r155, hq154, h⟩ := pq_i h
      refine r_cS (st' := [.long r155, .ref a0]) [.long x3, .long (gL D148 o149 x1.toNatClampNeg)] [.ref a0] hC hw (k_X9_lesser _ hq154) mk_X9_lesser lk_1463 ⟨Nat.le_trans (by decide) hR.1, Nat.le_trans (by decide) hR.2⟩ ⟨Nat.zero_le _, Nat.zero_le _⟩ rfl hl.1 rfl rfl (Nat.le_of_ble_eq_true rfl) dX9_join_44 (fun hP H locs hw => ?_)
      refine r_pL hC hw kc_8 hi0 48 rfl lk_1117 rfl rfl rfl dX9_join_47 (fun D156 eD156 H locs hw => ?_)
      have h := nm_i h D156 eD156
      refine lv_aload_n hx hb dX9_join_50 rfl (lv_at hl 0 rfl) ?_
      refine lv_lload hx hb dX9_join_51 (lv_at hl 4 rfl) ?_
      refine lv_aload_n hx hb dX9_join_53 rfl (lv_at hl 0 rfl) ?_
      obtain ⟨o157, ho160, h⟩ := rq_i h
      refine r_getR hC hw kc_8 hi0 42 rfl lk_1111 dX9_join_54 rfl ho160 (fun a158 hi159 => ?_)
      refine lv_iload_n hx hb dX9_join_57 rfl (lv_at hl 1 rfl) ?_
      obtain ⟨hn161, h⟩ := ix_i h
      refine r_lald hC hw hi159 hn161 dX9_join_58 ?_
      obtain ⟨r163, hq162, h⟩ := pq_i h
      refine r_cS (st' := [.long r163, .ref a0]) [.long x5, .long (gL D156 o157 x1.toNatClampNeg)] [.ref a0] hC hw (k_X9_greater _ hq162) mk_X9_greater lk_1466 ⟨Nat.le_trans (by decide) hR.1, Nat.le_trans (by decide) hR.2⟩ ⟨Nat.zero_le _, Nat.zero_le _⟩ rfl hl.1 rfl rfl (Nat.le_of_ble_eq_true rfl) dX9_join_59 (fun hP H locs hw => ?_)
      refine r_pL hC hw kc_8 hi0 49 rfl lk_1118 rfl rfl rfl dX9_join_62 (fun D164 eD164 H locs hw => ?_)
      have h := nm_i h D164 eD164
      refine lv_goto (tgt := 203) hx hb dX9_join_65 (by decide) ?_
      cases h
      exact r_vret hC hw dX9_join_203
  · have h := i_no c138 h
    cases h
    exact r_vret hC hw dX9_join_25
set_option maxHeartbeats 4000000 in
set_option maxRecDepth 100000 in
theorem k_X9_join {l : Launch} {G : va_G} {cA : Nat → ClassId} {S : sh} {D D' : dt} {ad : Nat → Nat} (sz : Nat) {o0 a0 : Nat} {x1 : Int32} {x2 : Int32} {x3 : Int64} {x5 : Int64} {x7 : Int32} {x8 : Int32} {r : Unit} (hi0 : Is S ad o0 a0 8) (h : f_X9_join S o0 x1 x2 x3 x5 x7 x8 D = some (r, D')) : Co l yX9_join (Cond.code yX9_join cX9_join 9 none :: tb0) 2 46 [.ref a0, .int x1, .int x2, .long x3, .long x5, .int x7, .int x8] G cA S D ad sz none True D' := by
  refine Met.ofW (cc := cX9_join) (maxL := 9) (ret := none) (by decide) rfl ?_
  intro p e s m args below meth c s₁ B hml hv
  obtain ⟨rfl, hsz, hP, hK, hD0, hT, hX⟩ := hv
  subst hsz
  have hts := atoms_spec (ws := Cond.code yX9_join cX9_join 9 none :: tb0) B.pre
  have hC : Cx RX9 cX9_join 9 none p s m _ meth c := ⟨B.exec, B.bytes, hml, findClass_of_methodNamed B.named, fun w q => hts w (List.mem_cons_of_mem _ q), B.returns, B.notSynchronized⟩
  have hw := Wd.entry hP hK hD0 hT hX
  have hl := lv_entry ([.ref a0, .int x1, .int x2, .long x3, .long x5, .int x7, .int x8]) (n := 9) (Nat.le_of_ble_eq_true rfl)
  rw [lg_entry_eq]
  exact w_X9_join_0 hC ⟨Nat.le_refl _, Nat.le_refl _⟩ o0 a0 x1 x2 x3 x5 x7 x8 D _ _ _ hi0 hw hl h
set_option maxHeartbeats 4000000 in
set_option maxRecDepth 100000 in
theorem w_X9_goTo_569 {r : Unit} {D' : dt} (hC : Cx RX9 cX9_goTo 6 none p s m args meth c) (hR : 3 ≤ R.frames ∧ 74 ≤ R.locals) {k519 : Nat → Int32 → Int32 → Int32 → dt → Option (Unit × dt)} (hk519 : ∀ (o0 a0 : Nat) (x1 : Int32) (x2 : Int32) (x3 : Int32) (D : dt) (H : Heap) (locs : List Loc) (ls : Array Slot), Is S ad o0 a0 8 → Wd G cA S D ad A s H locs → lv_has ls 6 [(0, .ref a0), (1, .int x1), (2, .int x2), (3, .int x3)] → k519 o0 x1 x2 x3 D = some (r, D') → W p l e R s m args below meth c H locs 0 0 (MQ below (Qn none True (wpost G cA S D' ad A) A) args s 0 0 A) (F0 m 519 ls [])) : ∀ (o0 a0 : Nat) (x1 : Int32) (x2 : Int32) (x3 : Int32) (os0 as0 : Nat) (xs1 : Int32) (xs2 : Int32) (D : dt) (H : Heap) (locs : List Loc) (ls : Array Slot), Is S ad o0 a0 8 → Is S ad os0 as0 103 → Wd G cA S D ad A s H locs → lv_has ls 6 [(0, .ref a0), (1, .int x1), (2, .int x2), (3, .int x3)] → f_X9_goTo_569 S k519 o0 x1 x2 x3 os0 xs1 xs2 D = some (r, D') → W p l e R s m args below meth c H locs 0 0 (MQ below (Qn none True (wpost G cA S D' ad A) A) args s 0 0 A) (F0 m 569 ls [.int xs2, .int xs1, .ref as0]) := by
  obtain ⟨hx, hb, -⟩ := id hC
  intro o0 a0 x1 x2 x3 os0 as0 xs1 xs2 D H locs ls hi0 his0 hw hl h
  unfold f_X9_goTo_569 at h
  obtain ⟨hn287, h⟩ := ix_i h
  refine r_zas hC hw his0 hn287 dX9_goTo_569 (fun D288 eD288 H locs hw => ?_)
  have h := nm_i h D288 eD288
  obtain ⟨y289, ey289⟩ : ∃ z : Int32, z = x3 + 1 := ⟨_, rfl⟩
  have h := nm_i h y289 ey289
  refine lv_iinc (v := y289) (lv' := [(3, .int y289), (0, .ref a0), (1, .int x1), (2, .int x2)]) hx hb dX9_goTo_570 hl (k := 3) rfl (by rw [ey289]; rfl) (by decide) rfl (fun ls hl => ?_)
  refine lv_goto (tgt := 519) hx hb dX9_goTo_573 (by decide) ?_
  exact hk519 o0 a0 x1 x2 y289 _ _ _ _ hi0 hw (lv_sub hl [1, 2, 3, 0] rfl) h
set_option maxHeartbeats 4000000 in
set_option maxRecDepth 100000 in
theorem w_X9_goTo_564 {r : Unit} {D' : dt} (hC : Cx RX9 cX9_goTo 6 none p s m args meth c) (hR : 3 ≤ R.frames ∧ 74 ≤ R.locals) {k519 : Nat → Int32 → Int32 → Int32 → dt → Option (Unit × dt)} (hk519 : ∀ (o0 a0 : Nat) (x1 : Int32) (x2 : Int32) (x3 : Int32) (D : dt) (H : Heap) (locs : List Loc) (ls : Array Slot), Is S ad o0 a0 8 → Wd G cA S D ad A s H locs → lv_has ls 6 [(0, .ref a0), (1, .int x1), (2, .int x2), (3, .int x3)] → k519 o0 x1 x2 x3 D = some (r, D') → W p l e R s m args below meth c H locs 0 0 (MQ below (Qn none True (wpost G cA S D' ad A) A) args s 0 0 A) (F0 m 519 ls [])) : ∀ (o0 a0 : Nat) (x1 : Int32) (x2 : Int32) (x3 : Int32) (os0 as0 : Nat) (xs1 : Int32) (D : dt) (H : Heap) (locs : List Loc) (ls : Array Slot), Is S ad o0 a0 8 → Is S ad os0 as0 103 → Wd G cA S D ad A s H locs → lv_has ls 6 [(0, .ref a0), (1, .int x1), (2, .int x2), (3, .int x3)] → f_X9_goTo_564 S k519 o0 x1 x2 x3 os0 xs1 D = some (r, D') → W p l e R s m args below meth c H locs 0 0 (MQ below (Qn none True (wpost G cA S D' ad A) A) args s 0 0 A) (F0 m 564 ls [.int xs1, .ref as0]) := by
  obtain ⟨hx, hb, -⟩ := id hC
  intro o0 a0 x1 x2 x3 os0 as0 xs1 D H locs ls hi0 his0 hw hl h
  unfold f_X9_goTo_564 at h
  refine lv_iconst (v := 1) hx hb dX9_goTo_564 (by decide) ?_
  refine lv_goto (tgt := 569) hx hb dX9_goTo_565 (by decide) ?_
  exact w_X9_goTo_569 hC hR hk519 o0 a0 x1 x2 x3 os0 as0 xs1 (1 : Int32) _ _ _ _ hi0 his0 hw (lv_sub hl [0, 1, 2, 3] rfl) h
set_option maxHeartbeats 4000000 in
set_option maxRecDepth 100000 in
theorem w_X9_goTo_568 {r : Unit} {D' : dt} (hC : Cx RX9 cX9_goTo 6 none p s m args meth c) (hR : 3 ≤ R.frames ∧ 74 ≤ R.locals) {k519 : Nat → Int32 → Int32 → Int32 → dt → Option (Unit × dt)} (hk519 : ∀ (o0 a0 : Nat) (x1 : Int32) (x2 : Int32) (x3 : Int32) (D : dt) (H : Heap) (locs : List Loc) (ls : Array Slot), Is S ad o0 a0 8 → Wd G cA S D ad A s H locs → lv_has ls 6 [(0, .ref a0), (1, .int x1), (2, .int x2), (3, .int x3)] → k519 o0 x1 x2 x3 D = some (r, D') → W p l e R s m args below meth c H locs 0 0 (MQ below (Qn none True (wpost G cA S D' ad A) A) args s 0 0 A) (F0 m 519 ls [])) : ∀ (o0 a0 : Nat) (x1 : Int32) (x2 : Int32) (x3 : Int32) (os0 as0 : Nat) (xs1 : Int32) (D : dt) (H : Heap) (locs : List Loc) (ls : Array Slot), Is S ad o0 a0 8 → Is S ad os0 as0 103 → Wd G cA S D ad A s H locs → lv_has ls 6 [(0, .ref a0), (1, .int x1), (2, .int x2), (3, .int x3)] → f_X9_goTo_568 S k519 o0 x1 x2 x3 os0 xs1 D = some (r, D') → W p l e R s m args below meth c H locs 0 0 (MQ below (Qn none True (wpost G cA S D' ad A) A) args s 0 0 A) (F0 m 568 ls [.int xs1, .ref as0]) := by
  obtain ⟨hx, hb, -⟩ := id hC
  intro o0 a0 x1 x2 x3 os0 as0 xs1 D H locs ls hi0 his0 hw hl h
  unfold f_X9_goTo_568 at h
  refine lv_iconst (v := 0) hx hb dX9_goTo_568 (by decide) ?_
  exact w_X9_goTo_569 hC hR hk519 o0 a0 x1 x2 x3 os0 as0 xs1 (0 : Int32) _ _ _ _ hi0 his0 hw (lv_sub hl [0, 1, 2, 3] rfl) h
set_option maxHeartbeats 4000000 in
set_option maxRecDepth 100000 in
theorem w_X9_goTo_519 {r : Unit} {D' : dt} (hC : Cx RX9 cX9_goTo 6 none p s m args meth c) (hR : 3 ≤ R.frames ∧ 74 ≤ R.locals) : ∀ (n : Nat), ∀ (o0 a0 : Nat) (x1 : Int32) (x2 : Int32) (x3 : Int32) (D : dt) (H : Heap) (locs : List Loc) (ls : Array Slot), Is S ad o0 a0 8 → Wd G cA S D ad A s H locs → lv_has ls 6 [(0, .ref a0), (1, .int x1), (2, .int x2), (3, .int x3)] → f_X9_goTo_519 S n o0 x1 x2 x3 D = some (r, D') → W p l e R s m args below meth c H locs 0 0 (MQ below (Qn none True (wpost G cA S D' ad A) A) args s 0 0 A) (F0 m 519 ls []) := by
  obtain ⟨hx, hb, -⟩ := id hC
  intro n
  induction n with
  | zero =>
    intro o0 a0 x1 x2 x3 D H locs ls hi0 hw hl h
    rw [f_X9_goTo_519.eq_1] at h
    cases h
  | succ n ih =>
    intro o0 a0 x1 x2 x3 D H locs ls hi0 hw hl h
    rw [f_X9_goTo_519.eq_2] at h
    refine lv_iload_n hx hb dX9_goTo_519 rfl (lv_at hl 3 rfl) ?_
    refine lv_sipush (v := 512) hx hb dX9_goTo_520 (by decide) ?_
    refine lv_icmp_ge (tgt := 576) hx hb dX9_goTo_523 (by decide) (fun c290 => ?_) (fun c290 => ?_)
    · have h := i_yes c290 h
      cases h
      exact r_vret hC hw dX9_goTo_576
    · have h := i_no c290 h
      refine lv_sipush (v := 512) hx hb dX9_goTo_526 (by decide) ?_
      refine lv_iload_n hx hb dX9_goTo_529 rfl (lv_at hl 1 rfl) ?_
      refine lv_imul hx hb dX9_goTo_530 ?_
      refine lv_iload_n hx hb dX9_goTo_531 rfl (lv_at hl 3 rfl) ?_
      refine lv_iadd hx hb dX9_goTo_532 ?_
      refine lv_topi (fun y291 ey291 => ?_)
      have h := nm_i h y291 ey291
      refine lv_istore (lv' := [(4, .int y291), (0, .ref a0), (1, .int x1), (2, .int x2), (3, .int x3)]) hx hb dX9_goTo_533 hl (by decide) rfl (fun ls hl => ?_)
      refine lv_aload_n hx hb dX9_goTo_535 rfl (lv_at hl 1 rfl) ?_
      obtain ⟨o292, ho295, h⟩ := rq_i h
      refine r_getR hC hw kc_8 hi0 34 rfl lk_1103 dX9_goTo_536 rfl ho295 (fun a293 hi294 => ?_)
      refine lv_iload hx hb dX9_goTo_539 (lv_at hl 0 rfl) ?_
      refine lv_aload_n hx hb dX9_goTo_541 rfl (lv_at hl 1 rfl) ?_
      obtain ⟨o296, ho299, h⟩ := rq_i h
      refine r_getR hC hw kc_8 hi0 45 rfl lk_1114 dX9_goTo_542 rfl ho299 (fun a297 hi298 => ?_)
      refine lv_iload_n hx hb dX9_goTo_545 rfl (lv_at hl 4 rfl) ?_
      obtain ⟨hn300, h⟩ := ix_i h
      refine r_zald hC hw hi298 hn300 dX9_goTo_546 ?_
      refine lv_if_eq (tgt := 568) hx hb dX9_goTo_547 (by decide) (fun c301 => ?_) (fun c301 => ?_)
      · have h := i_yes c301 h
        exact w_X9_goTo_568 hC hR ih o0 a0 x1 x2 x3 o292 a293 y291 _ _ _ _ hi0 hi294 hw (lv_sub hl [1, 2, 3, 4] rfl) h
      · have h := i_no c301 h
        refine lv_iload_n hx hb dX9_goTo_550 rfl (lv_at hl 3 rfl) ?_
        refine lv_if_ne (tgt := 564) hx hb dX9_goTo_551 (by decide) (fun c302 => ?_) (fun c302 => ?_)
        · have h := i_no c302 h
          exact w_X9_goTo_564 hC hR ih o0 a0 x1 x2 x3 o292 a293 y291 _ _ _ _ hi0 hi294 hw (lv_sub hl [1, 2, 3, 4] rfl) h
        · have h := i_yes c302 h
          refine lv_aload_n hx hb dX9_goTo_554 rfl (lv_at hl 1 rfl) ?_
          obtain ⟨o303, ho306, h⟩ := rq_i h
          refine r_getR hC hw kc_8 hi0 34 rfl lk_1103 dX9_goTo_555 rfl ho306 (fun a304 hi305 => ?_)
          refine lv_iload hx hb dX9_goTo_558 (lv_at hl 0 rfl) ?_
          obtain ⟨hn307, h⟩ := ix_i h
          refine r_zald hC hw hi305 hn307 dX9_goTo_560 ?_
          refine lv_if_eq (tgt := 568) hx hb dX9_goTo_561 (by decide) (fun c308 => ?_) (fun c308 => ?_)
          · have h := i_yes c308 h
            exact w_X9_goTo_568 hC hR ih o0 a0 x1 x2 x3 o292 a293 y291 _ _ _ _ hi0 hi294 hw (lv_sub hl [1, 2, 3, 4] rfl) h
          · have h := i_no c308 h
            exact w_X9_goTo_564 hC hR ih o0 a0 x1 x2 x3 o292 a293 y291 _ _ _ _ hi0 hi294 hw (lv_sub hl [1, 2, 3, 4] rfl) h
set_option maxHeartbeats 4000000 in
set_option maxRecDepth 100000 in
theorem w_X9_goTo_482 {r : Unit} {D' : dt} (hC : Cx RX9 cX9_goTo 6 none p s m args meth c) (hR : 3 ≤ R.frames ∧ 74 ≤ R.locals) {k277 : Nat → Int32 → Int32 → Int32 → dt → Option (Unit × dt)} (hk277 : ∀ (o0 a0 : Nat) (x1 : Int32) (x2 : Int32) (x3 : Int32) (D : dt) (H : Heap) (locs : List Loc) (ls : Array Slot), Is S ad o0 a0 8 → Wd G cA S D ad A s H locs → lv_has ls 6 [(0, .ref a0), (1, .int x1), (2, .int x2), (3, .int x3)] → k277 o0 x1 x2 x3 D = some (r, D') → W p l e R s m args below meth c H locs 0 0 (MQ below (Qn none True (wpost G cA S D' ad A) A) args s 0 0 A) (F0 m 277 ls [])) : ∀ (o0 a0 : Nat) (x1 : Int32) (x2 : Int32) (x3 : Int32) (x4 : Int32) (x5 : Int32) (os0 as0 : Nat) (xs1 : Int32) (xs2 : Int64) (D : dt) (H : Heap) (locs : List Loc) (ls : Array Slot), Is S ad o0 a0 8 → Is S ad os0 as0 101 → Wd G cA S D ad A s H locs → lv_has ls 6 [(0, .ref a0), (1, .int x1), (2, .int x2), (3, .int x3), (4, .int x4), (5, .int x5)] → f_X9_goTo_482 S k277 o0 x1 x2 x3 x4 x5 os0 xs1 xs2 D = some (r, D') → W p l e R s m args below meth c H locs 0 0 (MQ below (Qn none True (wpost G cA S D' ad A) A) args s 0 0 A) (F0 m 482 ls [.long xs2, .int xs1, .ref as0]) := by
  obtain ⟨hx, hb, -⟩ := id hC
  intro o0 a0 x1 x2 x3 x4 x5 os0 as0 xs1 xs2 D H locs ls hi0 his0 hw hl h
  unfold f_X9_goTo_482 at h
  obtain ⟨hn309, h⟩ := ix_i h
  refine r_las hC hw his0 hn309 dX9_goTo_482 (fun D310 eD310 H locs hw => ?_)
  have h := nm_i h D310 eD310
  refine lv_aload_n hx hb dX9_goTo_483 rfl (lv_at hl 0 rfl) ?_
  obtain ⟨o311, ho314, h⟩ := rq_i h
  refine r_getR hC hw kc_8 hi0 38 rfl lk_1107 dX9_goTo_484 rfl ho314 (fun a312 hi313 => ?_)
  refine lv_iload hx hb dX9_goTo_487 (lv_at hl 4 rfl) ?_
  refine lv_aload_n hx hb dX9_goTo_489 rfl (lv_at hl 0 rfl) ?_
  obtain ⟨o315, ho318, h⟩ := rq_i h
  refine r_getR hC hw kc_8 hi0 43 rfl lk_1112 dX9_goTo_490 rfl ho318 (fun a316 hi317 => ?_)
  refine lv_iload hx hb dX9_goTo_493 (lv_at hl 5 rfl) ?_
  obtain ⟨hn319, h⟩ := ix_i h
  refine r_iald hC hw hi317 hn319 dX9_goTo_495 ?_
  obtain ⟨hn320, h⟩ := ix_i h
  refine r_ias hC hw hi313 hn320 dX9_goTo_496 (fun D321 eD321 H locs hw => ?_)
  have h := nm_i h D321 eD321
  refine lv_aload_n hx hb dX9_goTo_497 rfl (lv_at hl 0 rfl) ?_
  obtain ⟨o322, ho325, h⟩ := rq_i h
  refine r_getR hC hw kc_8 hi0 39 rfl lk_1108 dX9_goTo_498 rfl ho325 (fun a323 hi324 => ?_)
  refine lv_iload hx hb dX9_goTo_501 (lv_at hl 4 rfl) ?_
  refine lv_aload_n hx hb dX9_goTo_503 rfl (lv_at hl 0 rfl) ?_
  obtain ⟨o326, ho329, h⟩ := rq_i h
  refine r_getR hC hw kc_8 hi0 44 rfl lk_1113 dX9_goTo_504 rfl ho329 (fun a327 hi328 => ?_)
  refine lv_iload hx hb dX9_goTo_507 (lv_at hl 5 rfl) ?_
  obtain ⟨hn330, h⟩ := ix_i h
  refine r_iald hC hw hi328 hn330 dX9_goTo_509 ?_
  obtain ⟨hn331, h⟩ := ix_i h
  refine r_ias hC hw hi324 hn331 dX9_goTo_510 (fun D332 eD332 H locs hw => ?_)
  have h := nm_i h D332 eD332
  obtain ⟨y333, ey333⟩ : ∃ z : Int32, z = x3 + 1 := ⟨_, rfl⟩
  have h := nm_i h y333 ey333
  refine lv_iinc (v := y333) (lv' := [(3, .int y333), (0, .ref a0), (1, .int x1), (2, .int x2), (4, .int x4), (5, .int x5)]) hx hb dX9_goTo_511 hl (k := 3) rfl (by rw [ey333]; rfl) (by decide) rfl (fun ls hl => ?_)
  refine lv_goto (tgt := 277) hx hb dX9_goTo_514 (by decide) ?_
  exact hk277 o0 a0 x1 x2 y333 _ _ _ _ hi0 hw (lv_sub hl [1, 2, 3, 0] rfl) h
set_option maxHeartbeats 4000000 in
set_option maxRecDepth 100000 in
theorem w_X9_goTo_457 {r : Unit} {D' : dt} (hC : Cx RX9 cX9_goTo 6 none p s m args meth c) (hR : 3 ≤ R.frames ∧ 74 ≤ R.locals) {k277 : Nat → Int32 → Int32 → Int32 → dt → Option (Unit × dt)} (hk277 : ∀ (o0 a0 : Nat) (x1 : Int32) (x2 : Int32) (x3 : Int32) (D : dt) (H : Heap) (locs : List Loc) (ls : Array Slot), Is S ad o0 a0 8 → Wd G cA S D ad A s H locs → lv_has ls 6 [(0, .ref a0), (1, .int x1), (2, .int x2), (3, .int x3)] → k277 o0 x1 x2 x3 D = some (r, D') → W p l e R s m args below meth c H locs 0 0 (MQ below (Qn none True (wpost G cA S D' ad A) A) args s 0 0 A) (F0 m 277 ls [])) : ∀ (o0 a0 : Nat) (x1 : Int32) (x2 : Int32) (x3 : Int32) (x4 : Int32) (x5 : Int32) (os0 as0 : Nat) (xs1 : Int32) (xs2 : Int64) (D : dt) (H : Heap) (locs : List Loc) (ls : Array Slot), Is S ad o0 a0 8 → Is S ad os0 as0 101 → Wd G cA S D ad A s H locs → lv_has ls 6 [(0, .ref a0), (1, .int x1), (2, .int x2), (3, .int x3), (4, .int x4), (5, .int x5)] → f_X9_goTo_457 S k277 o0 x1 x2 x3 x4 x5 os0 xs1 xs2 D = some (r, D') → W p l e R s m args below meth c H locs 0 0 (MQ below (Qn none True (wpost G cA S D' ad A) A) args s 0 0 A) (F0 m 457 ls [.long xs2, .int xs1, .ref as0]) := by
  obtain ⟨hx, hb, -⟩ := id hC
  intro o0 a0 x1 x2 x3 x4 x5 os0 as0 xs1 xs2 D H locs ls hi0 his0 hw hl h
  unfold f_X9_goTo_457 at h
  obtain ⟨hn334, h⟩ := ix_i h
  refine r_las hC hw his0 hn334 dX9_goTo_457 (fun D335 eD335 H locs hw => ?_)
  have h := nm_i h D335 eD335
  refine lv_aload_n hx hb dX9_goTo_458 rfl (lv_at hl 0 rfl) ?_
  obtain ⟨o336, ho339, h⟩ := rq_i h
  refine r_getR hC hw kc_8 hi0 37 rfl lk_1106 dX9_goTo_459 rfl ho339 (fun a337 hi338 => ?_)
  refine lv_iload hx hb dX9_goTo_462 (lv_at hl 4 rfl) ?_
  refine lv_iload_n hx hb dX9_goTo_464 rfl (lv_at hl 2 rfl) ?_
  refine lv_if_eq (tgt := 478) hx hb dX9_goTo_465 (by decide) (fun c340 => ?_) (fun c340 => ?_)
  · have h := i_yes c340 h
    refine lv_aload_n hx hb dX9_goTo_478 rfl (lv_at hl 0 rfl) ?_
    refine r_gL hC hw kc_8 hi0 49 rfl lk_1118 dX9_goTo_479 ?_
    exact w_X9_goTo_482 hC hR hk277 o0 a0 x1 x2 x3 x4 x5 o336 a337 x4 (gL D335 o0 49) _ _ _ _ hi0 hi338 hw (lv_sub hl [0, 1, 2, 3, 4, 5] rfl) h
  · have h := i_no c340 h
    refine lv_aload_n hx hb dX9_goTo_468 rfl (lv_at hl 0 rfl) ?_
    obtain ⟨o341, ho344, h⟩ := rq_i h
    refine r_getR hC hw kc_8 hi0 42 rfl lk_1111 dX9_goTo_469 rfl ho344 (fun a342 hi343 => ?_)
    refine lv_iload hx hb dX9_goTo_472 (lv_at hl 5 rfl) ?_
    obtain ⟨hn345, h⟩ := ix_i h
    refine r_lald hC hw hi343 hn345 dX9_goTo_474 ?_
    refine lv_goto (tgt := 482) hx hb dX9_goTo_475 (by decide) ?_
    exact w_X9_goTo_482 hC hR hk277 o0 a0 x1 x2 x3 x4 x5 o336 a337 x4 (gL D335 o341 x5.toNatClampNeg) _ _ _ _ hi0 hi338 hw (lv_sub hl [0, 1, 2, 3, 4, 5] rfl) h
set_option maxHeartbeats 4000000 in
set_option maxRecDepth 100000 in
theorem w_X9_goTo_432 {r : Unit} {D' : dt} (hC : Cx RX9 cX9_goTo 6 none p s m args meth c) (hR : 3 ≤ R.frames ∧ 74 ≤ R.locals) {k277 : Nat → Int32 → Int32 → Int32 → dt → Option (Unit × dt)} (hk277 : ∀ (o0 a0 : Nat) (x1 : Int32) (x2 : Int32) (x3 : Int32) (D : dt) (H : Heap) (locs : List Loc) (ls : Array Slot), Is S ad o0 a0 8 → Wd G cA S D ad A s H locs → lv_has ls 6 [(0, .ref a0), (1, .int x1), (2, .int x2), (3, .int x3)] → k277 o0 x1 x2 x3 D = some (r, D') → W p l e R s m args below meth c H locs 0 0 (MQ below (Qn none True (wpost G cA S D' ad A) A) args s 0 0 A) (F0 m 277 ls [])) : ∀ (o0 a0 : Nat) (x1 : Int32) (x2 : Int32) (x3 : Int32) (x4 : Int32) (x5 : Int32) (os0 as0 : Nat) (xs1 : Int32) (xs2 : Int32) (D : dt) (H : Heap) (locs : List Loc) (ls : Array Slot), Is S ad o0 a0 8 → Is S ad os0 as0 100 → Wd G cA S D ad A s H locs → lv_has ls 6 [(0, .ref a0), (1, .int x1), (2, .int x2), (3, .int x3), (4, .int x4), (5, .int x5)] → f_X9_goTo_432 S k277 o0 x1 x2 x3 x4 x5 os0 xs1 xs2 D = some (r, D') → W p l e R s m args below meth c H locs 0 0 (MQ below (Qn none True (wpost G cA S D' ad A) A) args s 0 0 A) (F0 m 432 ls [.int xs2, .int xs1, .ref as0]) := by
  obtain ⟨hx, hb, -⟩ := id hC
  intro o0 a0 x1 x2 x3 x4 x5 os0 as0 xs1 xs2 D H locs ls hi0 his0 hw hl h
  unfold f_X9_goTo_432 at h
  obtain ⟨hn346, h⟩ := ix_i h
  refine r_ias hC hw his0 hn346 dX9_goTo_432 (fun D347 eD347 H locs hw => ?_)
  have h := nm_i h D347 eD347
  refine lv_aload_n hx hb dX9_goTo_433 rfl (lv_at hl 0 rfl) ?_
  obtain ⟨o348, ho351, h⟩ := rq_i h
  refine r_getR hC hw kc_8 hi0 36 rfl lk_1105 dX9_goTo_434 rfl ho351 (fun a349 hi350 => ?_)
  refine lv_iload hx hb dX9_goTo_437 (lv_at hl 4 rfl) ?_
  refine lv_iload_n hx hb dX9_goTo_439 rfl (lv_at hl 2 rfl) ?_
  refine lv_if_eq (tgt := 453) hx hb dX9_goTo_440 (by decide) (fun c352 => ?_) (fun c352 => ?_)
  · have h := i_yes c352 h
    refine lv_aload_n hx hb dX9_goTo_453 rfl (lv_at hl 0 rfl) ?_
    refine r_gL hC hw kc_8 hi0 48 rfl lk_1117 dX9_goTo_454 ?_
    exact w_X9_goTo_457 hC hR hk277 o0 a0 x1 x2 x3 x4 x5 o348 a349 x4 (gL D347 o0 48) _ _ _ _ hi0 hi350 hw (lv_sub hl [0, 1, 2, 3, 4, 5] rfl) h
  · have h := i_no c352 h
    refine lv_aload_n hx hb dX9_goTo_443 rfl (lv_at hl 0 rfl) ?_
    obtain ⟨o353, ho356, h⟩ := rq_i h
    refine r_getR hC hw kc_8 hi0 41 rfl lk_1110 dX9_goTo_444 rfl ho356 (fun a354 hi355 => ?_)
    refine lv_iload hx hb dX9_goTo_447 (lv_at hl 5 rfl) ?_
    obtain ⟨hn357, h⟩ := ix_i h
    refine r_lald hC hw hi355 hn357 dX9_goTo_449 ?_
    refine lv_goto (tgt := 457) hx hb dX9_goTo_450 (by decide) ?_
    exact w_X9_goTo_457 hC hR hk277 o0 a0 x1 x2 x3 x4 x5 o348 a349 x4 (gL D347 o353 x5.toNatClampNeg) _ _ _ _ hi0 hi350 hw (lv_sub hl [0, 1, 2, 3, 4, 5] rfl) h
set_option maxHeartbeats 4000000 in
set_option maxRecDepth 100000 in
theorem w_X9_goTo_405 {r : Unit} {D' : dt} (hC : Cx RX9 cX9_goTo 6 none p s m args meth c) (hR : 3 ≤ R.frames ∧ 74 ≤ R.locals) {k277 : Nat → Int32 → Int32 → Int32 → dt → Option (Unit × dt)} (hk277 : ∀ (o0 a0 : Nat) (x1 : Int32) (x2 : Int32) (x3 : Int32) (D : dt) (H : Heap) (locs : List Loc) (ls : Array Slot), Is S ad o0 a0 8 → Wd G cA S D ad A s H locs → lv_has ls 6 [(0, .ref a0), (1, .int x1), (2, .int x2), (3, .int x3)] → k277 o0 x1 x2 x3 D = some (r, D') → W p l e R s m args below meth c H locs 0 0 (MQ below (Qn none True (wpost G cA S D' ad A) A) args s 0 0 A) (F0 m 277 ls [])) : ∀ (o0 a0 : Nat) (x1 : Int32) (x2 : Int32) (x3 : Int32) (x4 : Int32) (x5 : Int32) (os0 as0 : Nat) (xs1 : Int32) (xs2 : Int32) (xs3 : Int64) (xs4 : Int64) (xs5 : Int32) (xs6 : Int32) (D : dt) (H : Heap) (locs : List Loc) (ls : Array Slot), Is S ad o0 a0 8 → Is S ad os0 as0 8 → Wd G cA S D ad A s H locs → lv_has ls 6 [(0, .ref a0), (1, .int x1), (2, .int x2), (3, .int x3), (4, .int x4), (5, .int x5)] → f_X9_goTo_405 S k277 o0 x1 x2 x3 x4 x5 os0 xs1 xs2 xs3 xs4 xs5 xs6 D = some (r, D') → W p l e R s m args below meth c H locs 0 0 (MQ below (Qn none True (wpost G cA S D' ad A) A) args s 0 0 A) (F0 m 405 ls [.int xs6, .int xs5, .long xs4, .long xs3, .int xs2, .int xs1, .ref as0]) := by
  obtain ⟨hx, hb, -⟩ := id hC
  intro o0 a0 x1 x2 x3 x4 x5 os0 as0 xs1 xs2 xs3 xs4 xs5 xs6 D H locs ls hi0 his0 hw hl h
  unfold f_X9_goTo_405 at h
  obtain ⟨_, D359, hq358, h⟩ := cq_i h
  refine r_cV (st' := []) [.int xs1, .int xs2, .long xs3, .long xs4, .int xs5, .int xs6] [] hC hw kc_8 his0 (k_X9_join _ his0 hq358) mk_X9_join lk_1459 ⟨Nat.le_trans (by decide) hR.1, Nat.le_trans (by decide) hR.2⟩ ⟨Nat.zero_le _, Nat.zero_le _⟩ rfl hl.1 rfl rfl (Nat.le_of_ble_eq_true rfl) dX9_goTo_405 (fun hP H locs hw => ?_)
  refine lv_aload_n hx hb dX9_goTo_408 rfl (lv_at hl 0 rfl) ?_
  obtain ⟨o360, ho363, h⟩ := rq_i h
  refine r_getR hC hw kc_8 hi0 35 rfl lk_1104 dX9_goTo_409 rfl ho363 (fun a361 hi362 => ?_)
  refine lv_iload hx hb dX9_goTo_412 (lv_at hl 4 rfl) ?_
  refine lv_iload_n hx hb dX9_goTo_414 rfl (lv_at hl 2 rfl) ?_
  refine lv_if_eq (tgt := 428) hx hb dX9_goTo_415 (by decide) (fun c364 => ?_) (fun c364 => ?_)
  · have h := i_yes c364 h
    refine lv_aload_n hx hb dX9_goTo_428 rfl (lv_at hl 0 rfl) ?_
    refine r_gI hC hw kc_8 hi0 47 rfl lk_1116 dX9_goTo_429 ?_
    exact w_X9_goTo_432 hC hR hk277 o0 a0 x1 x2 x3 x4 x5 o360 a361 x4 (gI D359 o0 47) _ _ _ _ hi0 hi362 hw (lv_sub hl [0, 1, 2, 3, 4, 5] rfl) h
  · have h := i_no c364 h
    refine lv_aload_n hx hb dX9_goTo_418 rfl (lv_at hl 0 rfl) ?_
    obtain ⟨o365, ho368, h⟩ := rq_i h
    refine r_getR hC hw kc_8 hi0 40 rfl lk_1109 dX9_goTo_419 rfl ho368 (fun a366 hi367 => ?_)
    refine lv_iload hx hb dX9_goTo_422 (lv_at hl 5 rfl) ?_
    obtain ⟨hn369, h⟩ := ix_i h
    refine r_iald hC hw hi367 hn369 dX9_goTo_424 ?_
    refine lv_goto (tgt := 432) hx hb dX9_goTo_425 (by decide) ?_
    exact w_X9_goTo_432 hC hR hk277 o0 a0 x1 x2 x3 x4 x5 o360 a361 x4 (gI D359 o365 x5.toNatClampNeg) _ _ _ _ hi0 hi362 hw (lv_sub hl [0, 1, 2, 3, 4, 5] rfl) h
set_option maxHeartbeats 4000000 in
set_option maxRecDepth 100000 in
theorem w_X9_goTo_384 {r : Unit} {D' : dt} (hC : Cx RX9 cX9_goTo 6 none p s m args meth c) (hR : 3 ≤ R.frames ∧ 74 ≤ R.locals) {k277 : Nat → Int32 → Int32 → Int32 → dt → Option (Unit × dt)} (hk277 : ∀ (o0 a0 : Nat) (x1 : Int32) (x2 : Int32) (x3 : Int32) (D : dt) (H : Heap) (locs : List Loc) (ls : Array Slot), Is S ad o0 a0 8 → Wd G cA S D ad A s H locs → lv_has ls 6 [(0, .ref a0), (1, .int x1), (2, .int x2), (3, .int x3)] → k277 o0 x1 x2 x3 D = some (r, D') → W p l e R s m args below meth c H locs 0 0 (MQ below (Qn none True (wpost G cA S D' ad A) A) args s 0 0 A) (F0 m 277 ls [])) : ∀ (o0 a0 : Nat) (x1 : Int32) (x2 : Int32) (x3 : Int32) (x4 : Int32) (x5 : Int32) (os0 as0 : Nat) (xs1 : Int32) (xs2 : Int32) (xs3 : Int64) (xs4 : Int64) (xs5 : Int32) (D : dt) (H : Heap) (locs : List Loc) (ls : Array Slot), Is S ad o0 a0 8 → Is S ad os0 as0 8 → Wd G cA S D ad A s H locs → lv_has ls 6 [(0, .ref a0), (1, .int x1), (2, .int x2), (3, .int x3), (4, .int x4), (5, .int x5)] → f_X9_goTo_384 S k277 o0 x1 x2 x3 x4 x5 os0 xs1 xs2 xs3 xs4 xs5 D = some (r, D') → W p l e R s m args below meth c H locs 0 0 (MQ below (Qn none True (wpost G cA S D' ad A) A) args s 0 0 A) (F0 m 384 ls [.int xs5, .long xs4, .long xs3, .int xs2, .int xs1, .ref as0]) := by
  obtain ⟨hx, hb, -⟩ := id hC
  intro o0 a0 x1 x2 x3 x4 x5 os0 as0 xs1 xs2 xs3 xs4 xs5 D H locs ls hi0 his0 hw hl h
  unfold f_X9_goTo_384 at h
  refine lv_iload_n hx hb dX9_goTo_384 rfl (lv_at hl 2 rfl) ?_
  refine lv_if_eq (tgt := 398) hx hb dX9_goTo_385 (by decide) (fun c370 => ?_) (fun c370 => ?_)
  · have h := i_yes c370 h
    refine lv_aload_n hx hb dX9_goTo_398 rfl (lv_at hl 0 rfl) ?_
    obtain ⟨o371, ho374, h⟩ := rq_i h
    refine r_getR hC hw kc_8 hi0 39 rfl lk_1108 dX9_goTo_399 rfl ho374 (fun a372 hi373 => ?_)
    refine lv_iload hx hb dX9_goTo_402 (lv_at hl 4 rfl) ?_
    obtain ⟨hn375, h⟩ := ix_i h
    refine r_iald hC hw hi373 hn375 dX9_goTo_404 ?_
    exact w_X9_goTo_405 hC hR hk277 o0 a0 x1 x2 x3 x4 x5 os0 as0 xs1 xs2 xs3 xs4 xs5 (gI D o371 x4.toNatClampNeg) _ _ _ _ hi0 his0 hw (lv_sub hl [0, 1, 2, 3, 4, 5] rfl) h
  · have h := i_no c370 h
    refine lv_aload_n hx hb dX9_goTo_388 rfl (lv_at hl 0 rfl) ?_
    obtain ⟨o376, ho379, h⟩ := rq_i h
    refine r_getR hC hw kc_8 hi0 44 rfl lk_1113 dX9_goTo_389 rfl ho379 (fun a377 hi378 => ?_)
    refine lv_iload hx hb dX9_goTo_392 (lv_at hl 5 rfl) ?_
    obtain ⟨hn380, h⟩ := ix_i h
    refine r_iald hC hw hi378 hn380 dX9_goTo_394 ?_
    refine lv_goto (tgt := 405) hx hb dX9_goTo_395 (by decide) ?_
    exact w_X9_goTo_405 hC hR hk277 o0 a0 x1 x2 x3 x4 x5 os0 as0 xs1 xs2 xs3 xs4 xs5 (gI D o376 x5.toNatClampNeg) _ _ _ _ hi0 his0 hw (lv_sub hl [0, 1, 2, 3, 4, 5] rfl) h
set_option maxHeartbeats 4000000 in
set_option maxRecDepth 100000 in
theorem w_X9_goTo_363 {r : Unit} {D' : dt} (hC : Cx RX9 cX9_goTo 6 none p s m args meth c) (hR : 3 ≤ R.frames ∧ 74 ≤ R.locals) {k277 : Nat → Int32 → Int32 → Int32 → dt → Option (Unit × dt)} (hk277 : ∀ (o0 a0 : Nat) (x1 : Int32) (x2 : Int32) (x3 : Int32) (D : dt) (H : Heap) (locs : List Loc) (ls : Array Slot), Is S ad o0 a0 8 → Wd G cA S D ad A s H locs → lv_has ls 6 [(0, .ref a0), (1, .int x1), (2, .int x2), (3, .int x3)] → k277 o0 x1 x2 x3 D = some (r, D') → W p l e R s m args below meth c H locs 0 0 (MQ below (Qn none True (wpost G cA S D' ad A) A) args s 0 0 A) (F0 m 277 ls [])) : ∀ (o0 a0 : Nat) (x1 : Int32) (x2 : Int32) (x3 : Int32) (x4 : Int32) (x5 : Int32) (os0 as0 : Nat) (xs1 : Int32) (xs2 : Int32) (xs3 : Int64) (xs4 : Int64) (D : dt) (H : Heap) (locs : List Loc) (ls : Array Slot), Is S ad o0 a0 8 → Is S ad os0 as0 8 → Wd G cA S D ad A s H locs → lv_has ls 6 [(0, .ref a0), (1, .int x1), (2, .int x2), (3, .int x3), (4, .int x4), (5, .int x5)] → f_X9_goTo_363 S k277 o0 x1 x2 x3 x4 x5 os0 xs1 xs2 xs3 xs4 D = some (r, D') → W p l e R s m args below meth c H locs 0 0 (MQ below (Qn none True (wpost G cA S D' ad A) A) args s 0 0 A) (F0 m 363 ls [.long xs4, .long xs3, .int xs2, .int xs1, .ref as0]) := by
  obtain ⟨hx, hb, -⟩ := id hC
  intro o0 a0 x1 x2 x3 x4 x5 os0 as0 xs1 xs2 xs3 xs4 D H locs ls hi0 his0 hw hl h
  unfold f_X9_goTo_363 at h
  refine lv_iload_n hx hb dX9_goTo_363 rfl (lv_at hl 2 rfl) ?_
  refine lv_if_eq (tgt := 377) hx hb dX9_goTo_364 (by decide) (fun c381 => ?_) (fun c381 => ?_)
  · have h := i_yes c381 h
    refine lv_aload_n hx hb dX9_goTo_377 rfl (lv_at hl 0 rfl) ?_
    obtain ⟨o382, ho385, h⟩ := rq_i h
    refine r_getR hC hw kc_8 hi0 38 rfl lk_1107 dX9_goTo_378 rfl ho385 (fun a383 hi384 => ?_)
    refine lv_iload hx hb dX9_goTo_381 (lv_at hl 4 rfl) ?_
    obtain ⟨hn386, h⟩ := ix_i h
    refine r_iald hC hw hi384 hn386 dX9_goTo_383 ?_
    exact w_X9_goTo_384 hC hR hk277 o0 a0 x1 x2 x3 x4 x5 os0 as0 xs1 xs2 xs3 xs4 (gI D o382 x4.toNatClampNeg) _ _ _ _ hi0 his0 hw (lv_sub hl [0, 1, 2, 3, 4, 5] rfl) h
  · have h := i_no c381 h
    refine lv_aload_n hx hb dX9_goTo_367 rfl (lv_at hl 0 rfl) ?_
    obtain ⟨o387, ho390, h⟩ := rq_i h
    refine r_getR hC hw kc_8 hi0 43 rfl lk_1112 dX9_goTo_368 rfl ho390 (fun a388 hi389 => ?_)
    refine lv_iload hx hb dX9_goTo_371 (lv_at hl 5 rfl) ?_
    obtain ⟨hn391, h⟩ := ix_i h
    refine r_iald hC hw hi389 hn391 dX9_goTo_373 ?_
    refine lv_goto (tgt := 384) hx hb dX9_goTo_374 (by decide) ?_
    exact w_X9_goTo_384 hC hR hk277 o0 a0 x1 x2 x3 x4 x5 os0 as0 xs1 xs2 xs3 xs4 (gI D o387 x5.toNatClampNeg) _ _ _ _ hi0 his0 hw (lv_sub hl [0, 1, 2, 3, 4, 5] rfl) h
set_option maxHeartbeats 4000000 in
set_option maxRecDepth 100000 in
theorem w_X9_goTo_342 {r : Unit} {D' : dt} (hC : Cx RX9 cX9_goTo 6 none p s m args meth c) (hR : 3 ≤ R.frames ∧ 74 ≤ R.locals) {k277 : Nat → Int32 → Int32 → Int32 → dt → Option (Unit × dt)} (hk277 : ∀ (o0 a0 : Nat) (x1 : Int32) (x2 : Int32) (x3 : Int32) (D : dt) (H : Heap) (locs : List Loc) (ls : Array Slot), Is S ad o0 a0 8 → Wd G cA S D ad A s H locs → lv_has ls 6 [(0, .ref a0), (1, .int x1), (2, .int x2), (3, .int x3)] → k277 o0 x1 x2 x3 D = some (r, D') → W p l e R s m args below meth c H locs 0 0 (MQ below (Qn none True (wpost G cA S D' ad A) A) args s 0 0 A) (F0 m 277 ls [])) : ∀ (o0 a0 : Nat) (x1 : Int32) (x2 : Int32) (x3 : Int32) (x4 : Int32) (x5 : Int32) (os0 as0 : Nat) (xs1 : Int32) (xs2 : Int32) (xs3 : Int64) (D : dt) (H : Heap) (locs : List Loc) (ls : Array Slot), Is S ad o0 a0 8 → Is S ad os0 as0 8 → Wd G cA S D ad A s H locs → lv_has ls 6 [(0, .ref a0), (1, .int x1), (2, .int x2), (3, .int x3), (4, .int x4), (5, .int x5)] → f_X9_goTo_342 S k277 o0 x1 x2 x3 x4 x5 os0 xs1 xs2 xs3 D = some (r, D') → W p l e R s m args below meth c H locs 0 0 (MQ below (Qn none True (wpost G cA S D' ad A) A) args s 0 0 A) (F0 m 342 ls [.long xs3, .int xs2, .int xs1, .ref as0]) := by
  obtain ⟨hx, hb, -⟩ := id hC
  intro o0 a0 x1 x2 x3 x4 x5 os0 as0 xs1 xs2 xs3 D H locs ls hi0 his0 hw hl h
  unfold f_X9_goTo_342 at h
  refine lv_iload_n hx hb dX9_goTo_342 rfl (lv_at hl 2 rfl) ?_
  refine lv_if_eq (tgt := 356) hx hb dX9_goTo_343 (by decide) (fun c392 => ?_) (fun c392 => ?_)
  · have h := i_yes c392 h
    refine lv_aload_n hx hb dX9_goTo_356 rfl (lv_at hl 0 rfl) ?_
    obtain ⟨o393, ho396, h⟩ := rq_i h
    refine r_getR hC hw kc_8 hi0 37 rfl lk_1106 dX9_goTo_357 rfl ho396 (fun a394 hi395 => ?_)
    refine lv_iload hx hb dX9_goTo_360 (lv_at hl 4 rfl) ?_
    obtain ⟨hn397, h⟩ := ix_i h
    refine r_lald hC hw hi395 hn397 dX9_goTo_362 ?_
    exact w_X9_goTo_363 hC hR hk277 o0 a0 x1 x2 x3 x4 x5 os0 as0 xs1 xs2 xs3 (gL D o393 x4.toNatClampNeg) _ _ _ _ hi0 his0 hw (lv_sub hl [0, 1, 2, 3, 4, 5] rfl) h
  · have h := i_no c392 h
    refine lv_aload_n hx hb dX9_goTo_346 rfl (lv_at hl 0 rfl) ?_
    obtain ⟨o398, ho401, h⟩ := rq_i h
    refine r_getR hC hw kc_8 hi0 42 rfl lk_1111 dX9_goTo_347 rfl ho401 (fun a399 hi400 => ?_)
    refine lv_iload hx hb dX9_goTo_350 (lv_at hl 5 rfl) ?_
    obtain ⟨hn402, h⟩ := ix_i h
    refine r_lald hC hw hi400 hn402 dX9_goTo_352 ?_
    refine lv_goto (tgt := 363) hx hb dX9_goTo_353 (by decide) ?_
    exact w_X9_goTo_363 hC hR hk277 o0 a0 x1 x2 x3 x4 x5 os0 as0 xs1 xs2 xs3 (gL D o398 x5.toNatClampNeg) _ _ _ _ hi0 his0 hw (lv_sub hl [0, 1, 2, 3, 4, 5] rfl) h
set_option maxHeartbeats 4000000 in
set_option maxRecDepth 100000 in
theorem w_X9_goTo_321 {r : Unit} {D' : dt} (hC : Cx RX9 cX9_goTo 6 none p s m args meth c) (hR : 3 ≤ R.frames ∧ 74 ≤ R.locals) {k277 : Nat → Int32 → Int32 → Int32 → dt → Option (Unit × dt)} (hk277 : ∀ (o0 a0 : Nat) (x1 : Int32) (x2 : Int32) (x3 : Int32) (D : dt) (H : Heap) (locs : List Loc) (ls : Array Slot), Is S ad o0 a0 8 → Wd G cA S D ad A s H locs → lv_has ls 6 [(0, .ref a0), (1, .int x1), (2, .int x2), (3, .int x3)] → k277 o0 x1 x2 x3 D = some (r, D') → W p l e R s m args below meth c H locs 0 0 (MQ below (Qn none True (wpost G cA S D' ad A) A) args s 0 0 A) (F0 m 277 ls [])) : ∀ (o0 a0 : Nat) (x1 : Int32) (x2 : Int32) (x3 : Int32) (x4 : Int32) (x5 : Int32) (os0 as0 : Nat) (xs1 : Int32) (xs2 : Int32) (D : dt) (H : Heap) (locs : List Loc) (ls : Array Slot), Is S ad o0 a0 8 → Is S ad os0 as0 8 → Wd G cA S D ad A s H locs → lv_has ls 6 [(0, .ref a0), (1, .int x1), (2, .int x2), (3, .int x3), (4, .int x4), (5, .int x5)] → f_X9_goTo_321 S k277 o0 x1 x2 x3 x4 x5 os0 xs1 xs2 D = some (r, D') → W p l e R s m args below meth c H locs 0 0 (MQ below (Qn none True (wpost G cA S D' ad A) A) args s 0 0 A) (F0 m 321 ls [.int xs2, .int xs1, .ref as0]) := by
  obtain ⟨hx, hb, -⟩ := id hC
  intro o0 a0 x1 x2 x3 x4 x5 os0 as0 xs1 xs2 D H locs ls hi0 his0 hw hl h
  unfold f_X9_goTo_321 at h
  refine lv_iload_n hx hb dX9_goTo_321 rfl (lv_at hl 2 rfl) ?_
  refine lv_if_eq (tgt := 335) hx hb dX9_goTo_322 (by decide) (fun c403 => ?_) (fun c403 => ?_)
  · have h := i_yes c403 h
    refine lv_aload_n hx hb dX9_goTo_335 rfl (lv_at hl 0 rfl) ?_
    obtain ⟨o404, ho407, h⟩ := rq_i h
    refine r_getR hC hw kc_8 hi0 36 rfl lk_1105 dX9_goTo_336 rfl ho407 (fun a405 hi406 => ?_)
    refine lv_iload hx hb dX9_goTo_339 (lv_at hl 4 rfl) ?_
    obtain ⟨hn408, h⟩ := ix_i h
    refine r_lald hC hw hi406 hn408 dX9_goTo_341 ?_
    exact w_X9_goTo_342 hC hR hk277 o0 a0 x1 x2 x3 x4 x5 os0 as0 xs1 xs2 (gL D o404 x4.toNatClampNeg) _ _ _ _ hi0 his0 hw (lv_sub hl [0, 1, 2, 3, 4, 5] rfl) h
  · have h := i_no c403 h
    refine lv_aload_n hx hb dX9_goTo_325 rfl (lv_at hl 0 rfl) ?_
    obtain ⟨o409, ho412, h⟩ := rq_i h
    refine r_getR hC hw kc_8 hi0 41 rfl lk_1110 dX9_goTo_326 rfl ho412 (fun a410 hi411 => ?_)
    refine lv_iload hx hb dX9_goTo_329 (lv_at hl 5 rfl) ?_
    obtain ⟨hn413, h⟩ := ix_i h
    refine r_lald hC hw hi411 hn413 dX9_goTo_331 ?_
    refine lv_goto (tgt := 342) hx hb dX9_goTo_332 (by decide) ?_
    exact w_X9_goTo_342 hC hR hk277 o0 a0 x1 x2 x3 x4 x5 os0 as0 xs1 xs2 (gL D o409 x5.toNatClampNeg) _ _ _ _ hi0 his0 hw (lv_sub hl [0, 1, 2, 3, 4, 5] rfl) h
set_option maxHeartbeats 4000000 in
set_option maxRecDepth 100000 in
theorem w_X9_goTo_277 {r : Unit} {D' : dt} (hC : Cx RX9 cX9_goTo 6 none p s m args meth c) (hR : 3 ≤ R.frames ∧ 74 ≤ R.locals) : ∀ (n : Nat), ∀ (o0 a0 : Nat) (x1 : Int32) (x2 : Int32) (x3 : Int32) (D : dt) (H : Heap) (locs : List Loc) (ls : Array Slot), Is S ad o0 a0 8 → Wd G cA S D ad A s H locs → lv_has ls 6 [(0, .ref a0), (1, .int x1), (2, .int x2), (3, .int x3)] → f_X9_goTo_277 S n o0 x1 x2 x3 D = some (r, D') → W p l e R s m args below meth c H locs 0 0 (MQ below (Qn none True (wpost G cA S D' ad A) A) args s 0 0 A) (F0 m 277 ls []) := by
  obtain ⟨hx, hb, -⟩ := id hC
  intro n
  induction n with
  | zero =>
    intro o0 a0 x1 x2 x3 D H locs ls hi0 hw hl h
    rw [f_X9_goTo_277.eq_1] at h
    cases h
  | succ n ih =>
    intro o0 a0 x1 x2 x3 D H locs ls hi0 hw hl h
    rw [f_X9_goTo_277.eq_2] at h
    refine lv_iload_n hx hb dX9_goTo_277 rfl (lv_at hl 3 rfl) ?_
    refine lv_bipush (v := 64) hx hb dX9_goTo_278 (by decide) ?_
    refine lv_icmp_ge (tgt := 517) hx hb dX9_goTo_280 (by decide) (fun c414 => ?_) (fun c414 => ?_)
    · have h := i_yes c414 h
      refine lv_iconst (v := 0) hx hb dX9_goTo_517 (by decide) ?_
      refine lv_topi (fun y415 ey415 => ?_)
      have h := nm_i h y415 ey415
      refine lv_istore_n (lv' := [(3, .int y415), (0, .ref a0), (1, .int x1), (2, .int x2)]) hx hb dX9_goTo_518 rfl hl (by decide) rfl (fun ls hl => ?_)
      exact w_X9_goTo_519 hC hR LF o0 a0 x1 x2 y415 _ _ _ _ hi0 hw (lv_sub hl [1, 2, 3, 0] rfl) h
    · have h := i_no c414 h
      refine lv_bipush (v := 64) hx hb dX9_goTo_283 (by decide) ?_
      refine lv_iload_n hx hb dX9_goTo_285 rfl (lv_at hl 1 rfl) ?_
      refine lv_imul hx hb dX9_goTo_286 ?_
      refine lv_iload_n hx hb dX9_goTo_287 rfl (lv_at hl 3 rfl) ?_
      refine lv_iadd hx hb dX9_goTo_288 ?_
      refine lv_topi (fun y416 ey416 => ?_)
      have h := nm_i h y416 ey416
      refine lv_istore (lv' := [(4, .int y416), (0, .ref a0), (1, .int x1), (2, .int x2), (3, .int x3)]) hx hb dX9_goTo_289 hl (by decide) rfl (fun ls hl => ?_)
      refine lv_bipush (v := 11) hx hb dX9_goTo_291 (by decide) ?_
      refine lv_iload_n hx hb dX9_goTo_293 rfl (lv_at hl 4 rfl) ?_
      refine lv_iadd hx hb dX9_goTo_294 ?_
      refine lv_topi (fun y417 ey417 => ?_)
      have h := nm_i h y417 ey417
      refine lv_istore (lv' := [(5, .int y417), (4, .int y416), (0, .ref a0), (1, .int x1), (2, .int x2), (3, .int x3)]) hx hb dX9_goTo_295 hl (by decide) rfl (fun ls hl => ?_)
      refine lv_aload_n hx hb dX9_goTo_297 rfl (lv_at hl 2 rfl) ?_
      refine lv_iload hx hb dX9_goTo_298 (lv_at hl 0 rfl) ?_
      refine lv_iload_n hx hb dX9_goTo_300 rfl (lv_at hl 4 rfl) ?_
      refine lv_if_eq (tgt := 314) hx hb dX9_goTo_301 (by decide) (fun c418 => ?_) (fun c418 => ?_)
      · have h := i_yes c418 h
        refine lv_aload_n hx hb dX9_goTo_314 rfl (lv_at hl 2 rfl) ?_
        obtain ⟨o419, ho422, h⟩ := rq_i h
        refine r_getR hC hw kc_8 hi0 35 rfl lk_1104 dX9_goTo_315 rfl ho422 (fun a420 hi421 => ?_)
        refine lv_iload hx hb dX9_goTo_318 (lv_at hl 1 rfl) ?_
        obtain ⟨hn423, h⟩ := ix_i h
        refine r_iald hC hw hi421 hn423 dX9_goTo_320 ?_
        exact w_X9_goTo_321 hC hR ih o0 a0 x1 x2 x3 y416 y417 o0 a0 y417 (gI D o419 y416.toNatClampNeg) _ _ _ _ hi0 hi0 hw (lv_sub hl [2, 3, 4, 5, 1, 0] rfl) h
      · have h := i_no c418 h
        refine lv_aload_n hx hb dX9_goTo_304 rfl (lv_at hl 2 rfl) ?_
        obtain ⟨o424, ho427, h⟩ := rq_i h
        refine r_getR hC hw kc_8 hi0 40 rfl lk_1109 dX9_goTo_305 rfl ho427 (fun a425 hi426 => ?_)
        refine lv_iload hx hb dX9_goTo_308 (lv_at hl 0 rfl) ?_
        obtain ⟨hn428, h⟩ := ix_i h
        refine r_iald hC hw hi426 hn428 dX9_goTo_310 ?_
        refine lv_goto (tgt := 321) hx hb dX9_goTo_311 (by decide) ?_
        exact w_X9_goTo_321 hC hR ih o0 a0 x1 x2 x3 y416 y417 o0 a0 y417 (gI D o424 y417.toNatClampNeg) _ _ _ _ hi0 hi0 hw (lv_sub hl [2, 3, 4, 5, 1, 0] rfl) h
set_option maxHeartbeats 4000000 in
set_option maxRecDepth 100000 in
theorem w_X9_goTo_268 {r : Unit} {D' : dt} (hC : Cx RX9 cX9_goTo 6 none p s m args meth c) (hR : 3 ≤ R.frames ∧ 74 ≤ R.locals) {k24 : Nat → Int32 → Int32 → Int32 → dt → Option (Unit × dt)} (hk24 : ∀ (o0 a0 : Nat) (x1 : Int32) (x2 : Int32) (x3 : Int32) (D : dt) (H : Heap) (locs : List Loc) (ls : Array Slot), Is S ad o0 a0 8 → Wd G cA S D ad A s H locs → lv_has ls 6 [(0, .ref a0), (1, .int x1), (2, .int x2), (3, .int x3)] → k24 o0 x1 x2 x3 D = some (r, D') → W p l e R s m args below meth c H locs 0 0 (MQ below (Qn none True (wpost G cA S D' ad A) A) args s 0 0 A) (F0 m 24 ls [])) : ∀ (o0 a0 : Nat) (x1 : Int32) (x2 : Int32) (x3 : Int32) (os0 as0 : Nat) (xs1 : Int32) (xs2 : Int32) (D : dt) (H : Heap) (locs : List Loc) (ls : Array Slot), Is S ad o0 a0 8 → Is S ad os0 as0 100 → Wd G cA S D ad A s H locs → lv_has ls 6 [(0, .ref a0), (1, .int x1), (2, .int x2), (3, .int x3)] → f_X9_goTo_268 S k24 o0 x1 x2 x3 os0 xs1 xs2 D = some (r, D') → W p l e R s m args below meth c H locs 0 0 (MQ below (Qn none True (wpost G cA S D' ad A) A) args s 0 0 A) (F0 m 268 ls [.int xs2, .int xs1, .ref as0]) := by
  obtain ⟨hx, hb, -⟩ := id hC
  intro o0 a0 x1 x2 x3 os0 as0 xs1 xs2 D H locs ls hi0 his0 hw hl h
  unfold f_X9_goTo_268 at h
  obtain ⟨hn429, h⟩ := ix_i h
  refine r_ias hC hw his0 hn429 dX9_goTo_268 (fun D430 eD430 H locs hw => ?_)
  have h := nm_i h D430 eD430
  obtain ⟨y431, ey431⟩ : ∃ z : Int32, z = x3 + 1 := ⟨_, rfl⟩
  have h := nm_i h y431 ey431
  refine lv_iinc (v := y431) (lv' := [(3, .int y431), (0, .ref a0), (1, .int x1), (2, .int x2)]) hx hb dX9_goTo_269 hl (k := 3) rfl (by rw [ey431]; rfl) (by decide) rfl (fun ls hl => ?_)
  refine lv_goto (tgt := 24) hx hb dX9_goTo_272 (by decide) ?_
  exact hk24 o0 a0 x1 x2 y431 _ _ _ _ hi0 hw (lv_sub hl [1, 2, 3, 0] rfl) h
set_option maxHeartbeats 4000000 in
set_option maxRecDepth 100000 in
theorem w_X9_goTo_241 {r : Unit} {D' : dt} (hC : Cx RX9 cX9_goTo 6 none p s m args meth c) (hR : 3 ≤ R.frames ∧ 74 ≤ R.locals) {k24 : Nat → Int32 → Int32 → Int32 → dt → Option (Unit × dt)} (hk24 : ∀ (o0 a0 : Nat) (x1 : Int32) (x2 : Int32) (x3 : Int32) (D : dt) (H : Heap) (locs : List Loc) (ls : Array Slot), Is S ad o0 a0 8 → Wd G cA S D ad A s H locs → lv_has ls 6 [(0, .ref a0), (1, .int x1), (2, .int x2), (3, .int x3)] → k24 o0 x1 x2 x3 D = some (r, D') → W p l e R s m args below meth c H locs 0 0 (MQ below (Qn none True (wpost G cA S D' ad A) A) args s 0 0 A) (F0 m 24 ls [])) : ∀ (o0 a0 : Nat) (x1 : Int32) (x2 : Int32) (x3 : Int32) (x4 : Int32) (os0 as0 : Nat) (xs1 : Int32) (xs2 : Int32) (D : dt) (H : Heap) (locs : List Loc) (ls : Array Slot), Is S ad o0 a0 8 → Is S ad os0 as0 100 → Wd G cA S D ad A s H locs → lv_has ls 6 [(0, .ref a0), (1, .int x1), (2, .int x2), (3, .int x3), (4, .int x4)] → f_X9_goTo_241 S k24 o0 x1 x2 x3 x4 os0 xs1 xs2 D = some (r, D') → W p l e R s m args below meth c H locs 0 0 (MQ below (Qn none True (wpost G cA S D' ad A) A) args s 0 0 A) (F0 m 241 ls [.int xs2, .int xs1, .ref as0]) := by
  obtain ⟨hx, hb, -⟩ := id hC
  intro o0 a0 x1 x2 x3 x4 os0 as0 xs1 xs2 D H locs ls hi0 his0 hw hl h
  unfold f_X9_goTo_241 at h
  obtain ⟨hn432, h⟩ := ix_i h
  refine r_ias hC hw his0 hn432 dX9_goTo_241 (fun D433 eD433 H locs hw => ?_)
  have h := nm_i h D433 eD433
  refine lv_aload_n hx hb dX9_goTo_242 rfl (lv_at hl 0 rfl) ?_
  obtain ⟨o434, ho437, h⟩ := rq_i h
  refine r_getR hC hw kc_8 hi0 33 rfl lk_1102 dX9_goTo_243 rfl ho437 (fun a435 hi436 => ?_)
  refine lv_iload hx hb dX9_goTo_246 (lv_at hl 4 rfl) ?_
  refine lv_aload_n hx hb dX9_goTo_248 rfl (lv_at hl 0 rfl) ?_
  obtain ⟨o438, ho441, h⟩ := rq_i h
  refine r_getR hC hw kc_8 hi0 29 rfl lk_1098 dX9_goTo_249 rfl ho441 (fun a439 hi440 => ?_)
  refine lv_iload hx hb dX9_goTo_252 (lv_at hl 4 rfl) ?_
  obtain ⟨hn442, h⟩ := ix_i h
  refine r_iald hC hw hi440 hn442 dX9_goTo_254 ?_
  refine lv_if_ne (tgt := 262) hx hb dX9_goTo_255 (by decide) (fun c443 => ?_) (fun c443 => ?_)
  · have h := i_no c443 h
    refine lv_aload_n hx hb dX9_goTo_262 rfl (lv_at hl 0 rfl) ?_
    obtain ⟨o444, ho447, h⟩ := rq_i h
    refine r_getR hC hw kc_8 hi0 44 rfl lk_1113 dX9_goTo_263 rfl ho447 (fun a445 hi446 => ?_)
    refine lv_iload_n hx hb dX9_goTo_266 rfl (lv_at hl 3 rfl) ?_
    obtain ⟨hn448, h⟩ := ix_i h
    refine r_iald hC hw hi446 hn448 dX9_goTo_267 ?_
    exact w_X9_goTo_268 hC hR hk24 o0 a0 x1 x2 x3 o434 a435 x4 (gI D433 o444 x3.toNatClampNeg) _ _ _ _ hi0 hi436 hw (lv_sub hl [0, 1, 2, 3] rfl) h
  · have h := i_yes c443 h
    refine lv_iconst (v := 0) hx hb dX9_goTo_258 (by decide) ?_
    refine lv_goto (tgt := 268) hx hb dX9_goTo_259 (by decide) ?_
    exact w_X9_goTo_268 hC hR hk24 o0 a0 x1 x2 x3 o434 a435 x4 (0 : Int32) _ _ _ _ hi0 hi436 hw (lv_sub hl [0, 1, 2, 3] rfl) h
set_option maxHeartbeats 4000000 in
set_option maxRecDepth 100000 in
theorem w_X9_goTo_214 {r : Unit} {D' : dt} (hC : Cx RX9 cX9_goTo 6 none p s m args meth c) (hR : 3 ≤ R.frames ∧ 74 ≤ R.locals) {k24 : Nat → Int32 → Int32 → Int32 → dt → Option (Unit × dt)} (hk24 : ∀ (o0 a0 : Nat) (x1 : Int32) (x2 : Int32) (x3 : Int32) (D : dt) (H : Heap) (locs : List Loc) (ls : Array Slot), Is S ad o0 a0 8 → Wd G cA S D ad A s H locs → lv_has ls 6 [(0, .ref a0), (1, .int x1), (2, .int x2), (3, .int x3)] → k24 o0 x1 x2 x3 D = some (r, D') → W p l e R s m args below meth c H locs 0 0 (MQ below (Qn none True (wpost G cA S D' ad A) A) args s 0 0 A) (F0 m 24 ls [])) : ∀ (o0 a0 : Nat) (x1 : Int32) (x2 : Int32) (x3 : Int32) (x4 : Int32) (os0 as0 : Nat) (xs1 : Int32) (xs2 : Int64) (D : dt) (H : Heap) (locs : List Loc) (ls : Array Slot), Is S ad o0 a0 8 → Is S ad os0 as0 101 → Wd G cA S D ad A s H locs → lv_has ls 6 [(0, .ref a0), (1, .int x1), (2, .int x2), (3, .int x3), (4, .int x4)] → f_X9_goTo_214 S k24 o0 x1 x2 x3 x4 os0 xs1 xs2 D = some (r, D') → W p l e R s m args below meth c H locs 0 0 (MQ below (Qn none True (wpost G cA S D' ad A) A) args s 0 0 A) (F0 m 214 ls [.long xs2, .int xs1, .ref as0]) := by
  obtain ⟨hx, hb, -⟩ := id hC
  intro o0 a0 x1 x2 x3 x4 os0 as0 xs1 xs2 D H locs ls hi0 his0 hw hl h
  unfold f_X9_goTo_214 at h
  obtain ⟨hn449, h⟩ := ix_i h
  refine r_las hC hw his0 hn449 dX9_goTo_214 (fun D450 eD450 H locs hw => ?_)
  have h := nm_i h D450 eD450
  refine lv_aload_n hx hb dX9_goTo_215 rfl (lv_at hl 0 rfl) ?_
  obtain ⟨o451, ho454, h⟩ := rq_i h
  refine r_getR hC hw kc_8 hi0 32 rfl lk_1101 dX9_goTo_216 rfl ho454 (fun a452 hi453 => ?_)
  refine lv_iload hx hb dX9_goTo_219 (lv_at hl 4 rfl) ?_
  refine lv_aload_n hx hb dX9_goTo_221 rfl (lv_at hl 0 rfl) ?_
  obtain ⟨o455, ho458, h⟩ := rq_i h
  refine r_getR hC hw kc_8 hi0 29 rfl lk_1098 dX9_goTo_222 rfl ho458 (fun a456 hi457 => ?_)
  refine lv_iload hx hb dX9_goTo_225 (lv_at hl 4 rfl) ?_
  obtain ⟨hn459, h⟩ := ix_i h
  refine r_iald hC hw hi457 hn459 dX9_goTo_227 ?_
  refine lv_if_ne (tgt := 235) hx hb dX9_goTo_228 (by decide) (fun c460 => ?_) (fun c460 => ?_)
  · have h := i_no c460 h
    refine lv_aload_n hx hb dX9_goTo_235 rfl (lv_at hl 0 rfl) ?_
    obtain ⟨o461, ho464, h⟩ := rq_i h
    refine r_getR hC hw kc_8 hi0 43 rfl lk_1112 dX9_goTo_236 rfl ho464 (fun a462 hi463 => ?_)
    refine lv_iload_n hx hb dX9_goTo_239 rfl (lv_at hl 3 rfl) ?_
    obtain ⟨hn465, h⟩ := ix_i h
    refine r_iald hC hw hi463 hn465 dX9_goTo_240 ?_
    exact w_X9_goTo_241 hC hR hk24 o0 a0 x1 x2 x3 x4 o451 a452 x4 (gI D450 o461 x3.toNatClampNeg) _ _ _ _ hi0 hi453 hw (lv_sub hl [0, 1, 2, 3, 4] rfl) h
  · have h := i_yes c460 h
    refine lv_iconst (v := 0) hx hb dX9_goTo_231 (by decide) ?_
    refine lv_goto (tgt := 241) hx hb dX9_goTo_232 (by decide) ?_
    exact w_X9_goTo_241 hC hR hk24 o0 a0 x1 x2 x3 x4 o451 a452 x4 (0 : Int32) _ _ _ _ hi0 hi453 hw (lv_sub hl [0, 1, 2, 3, 4] rfl) h
set_option maxHeartbeats 4000000 in
set_option maxRecDepth 100000 in
theorem w_X9_goTo_190 {r : Unit} {D' : dt} (hC : Cx RX9 cX9_goTo 6 none p s m args meth c) (hR : 3 ≤ R.frames ∧ 74 ≤ R.locals) {k24 : Nat → Int32 → Int32 → Int32 → dt → Option (Unit × dt)} (hk24 : ∀ (o0 a0 : Nat) (x1 : Int32) (x2 : Int32) (x3 : Int32) (D : dt) (H : Heap) (locs : List Loc) (ls : Array Slot), Is S ad o0 a0 8 → Wd G cA S D ad A s H locs → lv_has ls 6 [(0, .ref a0), (1, .int x1), (2, .int x2), (3, .int x3)] → k24 o0 x1 x2 x3 D = some (r, D') → W p l e R s m args below meth c H locs 0 0 (MQ below (Qn none True (wpost G cA S D' ad A) A) args s 0 0 A) (F0 m 24 ls [])) : ∀ (o0 a0 : Nat) (x1 : Int32) (x2 : Int32) (x3 : Int32) (x4 : Int32) (os0 as0 : Nat) (xs1 : Int32) (xs2 : Int64) (D : dt) (H : Heap) (locs : List Loc) (ls : Array Slot), Is S ad o0 a0 8 → Is S ad os0 as0 101 → Wd G cA S D ad A s H locs → lv_has ls 6 [(0, .ref a0), (1, .int x1), (2, .int x2), (3, .int x3), (4, .int x4)] → f_X9_goTo_190 S k24 o0 x1 x2 x3 x4 os0 xs1 xs2 D = some (r, D') → W p l e R s m args below meth c H locs 0 0 (MQ below (Qn none True (wpost G cA S D' ad A) A) args s 0 0 A) (F0 m 190 ls [.long xs2, .int xs1, .ref as0]) := by
  obtain ⟨hx, hb, -⟩ := id hC
  intro o0 a0 x1 x2 x3 x4 os0 as0 xs1 xs2 D H locs ls hi0 his0 hw hl h
  unfold f_X9_goTo_190 at h
  obtain ⟨hn466, h⟩ := ix_i h
  refine r_las hC hw his0 hn466 dX9_goTo_190 (fun D467 eD467 H locs hw => ?_)
  have h := nm_i h D467 eD467
  refine lv_aload_n hx hb dX9_goTo_191 rfl (lv_at hl 0 rfl) ?_
  obtain ⟨o468, ho471, h⟩ := rq_i h
  refine r_getR hC hw kc_8 hi0 31 rfl lk_1100 dX9_goTo_192 rfl ho471 (fun a469 hi470 => ?_)
  refine lv_iload hx hb dX9_goTo_195 (lv_at hl 4 rfl) ?_
  refine lv_iload_n hx hb dX9_goTo_197 rfl (lv_at hl 2 rfl) ?_
  refine lv_if_eq (tgt := 210) hx hb dX9_goTo_198 (by decide) (fun c472 => ?_) (fun c472 => ?_)
  · have h := i_yes c472 h
    refine lv_aload_n hx hb dX9_goTo_210 rfl (lv_at hl 0 rfl) ?_
    refine r_gL hC hw kc_8 hi0 49 rfl lk_1118 dX9_goTo_211 ?_
    exact w_X9_goTo_214 hC hR hk24 o0 a0 x1 x2 x3 x4 o468 a469 x4 (gL D467 o0 49) _ _ _ _ hi0 hi470 hw (lv_sub hl [0, 1, 2, 3, 4] rfl) h
  · have h := i_no c472 h
    refine lv_aload_n hx hb dX9_goTo_201 rfl (lv_at hl 0 rfl) ?_
    obtain ⟨o473, ho476, h⟩ := rq_i h
    refine r_getR hC hw kc_8 hi0 42 rfl lk_1111 dX9_goTo_202 rfl ho476 (fun a474 hi475 => ?_)
    refine lv_iload_n hx hb dX9_goTo_205 rfl (lv_at hl 3 rfl) ?_
    obtain ⟨hn477, h⟩ := ix_i h
    refine r_lald hC hw hi475 hn477 dX9_goTo_206 ?_
    refine lv_goto (tgt := 214) hx hb dX9_goTo_207 (by decide) ?_
    exact w_X9_goTo_214 hC hR hk24 o0 a0 x1 x2 x3 x4 o468 a469 x4 (gL D467 o473 x3.toNatClampNeg) _ _ _ _ hi0 hi470 hw (lv_sub hl [0, 1, 2, 3, 4] rfl) h
set_option maxHeartbeats 4000000 in
set_option maxRecDepth 100000 in
theorem w_X9_goTo_166 {r : Unit} {D' : dt} (hC : Cx RX9 cX9_goTo 6 none p s m args meth c) (hR : 3 ≤ R.frames ∧ 74 ≤ R.locals) {k24 : Nat → Int32 → Int32 → Int32 → dt → Option (Unit × dt)} (hk24 : ∀ (o0 a0 : Nat) (x1 : Int32) (x2 : Int32) (x3 : Int32) (D : dt) (H : Heap) (locs : List Loc) (ls : Array Slot), Is S ad o0 a0 8 → Wd G cA S D ad A s H locs → lv_has ls 6 [(0, .ref a0), (1, .int x1), (2, .int x2), (3, .int x3)] → k24 o0 x1 x2 x3 D = some (r, D') → W p l e R s m args below meth c H locs 0 0 (MQ below (Qn none True (wpost G cA S D' ad A) A) args s 0 0 A) (F0 m 24 ls [])) : ∀ (o0 a0 : Nat) (x1 : Int32) (x2 : Int32) (x3 : Int32) (x4 : Int32) (os0 as0 : Nat) (xs1 : Int32) (xs2 : Int32) (D : dt) (H : Heap) (locs : List Loc) (ls : Array Slot), Is S ad o0 a0 8 → Is S ad os0 as0 100 → Wd G cA S D ad A s H locs → lv_has ls 6 [(0, .ref a0), (1, .int x1), (2, .int x2), (3, .int x3), (4, .int x4)] → f_X9_goTo_166 S k24 o0 x1 x2 x3 x4 os0 xs1 xs2 D = some (r, D') → W p l e R s m args below meth c H locs 0 0 (MQ below (Qn none True (wpost G cA S D' ad A) A) args s 0 0 A) (F0 m 166 ls [.int xs2, .int xs1, .ref as0]) := by
  obtain ⟨hx, hb, -⟩ := id hC
  intro o0 a0 x1 x2 x3 x4 os0 as0 xs1 xs2 D H locs ls hi0 his0 hw hl h
  unfold f_X9_goTo_166 at h
  obtain ⟨hn478, h⟩ := ix_i h
  refine r_ias hC hw his0 hn478 dX9_goTo_166 (fun D479 eD479 H locs hw => ?_)
  have h := nm_i h D479 eD479
  refine lv_aload_n hx hb dX9_goTo_167 rfl (lv_at hl 0 rfl) ?_
  obtain ⟨o480, ho483, h⟩ := rq_i h
  refine r_getR hC hw kc_8 hi0 30 rfl lk_1099 dX9_goTo_168 rfl ho483 (fun a481 hi482 => ?_)
  refine lv_iload hx hb dX9_goTo_171 (lv_at hl 4 rfl) ?_
  refine lv_iload_n hx hb dX9_goTo_173 rfl (lv_at hl 2 rfl) ?_
  refine lv_if_eq (tgt := 186) hx hb dX9_goTo_174 (by decide) (fun c484 => ?_) (fun c484 => ?_)
  · have h := i_yes c484 h
    refine lv_aload_n hx hb dX9_goTo_186 rfl (lv_at hl 0 rfl) ?_
    refine r_gL hC hw kc_8 hi0 48 rfl lk_1117 dX9_goTo_187 ?_
    exact w_X9_goTo_190 hC hR hk24 o0 a0 x1 x2 x3 x4 o480 a481 x4 (gL D479 o0 48) _ _ _ _ hi0 hi482 hw (lv_sub hl [0, 1, 2, 3, 4] rfl) h
  · have h := i_no c484 h
    refine lv_aload_n hx hb dX9_goTo_177 rfl (lv_at hl 0 rfl) ?_
    obtain ⟨o485, ho488, h⟩ := rq_i h
    refine r_getR hC hw kc_8 hi0 41 rfl lk_1110 dX9_goTo_178 rfl ho488 (fun a486 hi487 => ?_)
    refine lv_iload_n hx hb dX9_goTo_181 rfl (lv_at hl 3 rfl) ?_
    obtain ⟨hn489, h⟩ := ix_i h
    refine r_lald hC hw hi487 hn489 dX9_goTo_182 ?_
    refine lv_goto (tgt := 190) hx hb dX9_goTo_183 (by decide) ?_
    exact w_X9_goTo_190 hC hR hk24 o0 a0 x1 x2 x3 x4 o480 a481 x4 (gL D479 o485 x3.toNatClampNeg) _ _ _ _ hi0 hi482 hw (lv_sub hl [0, 1, 2, 3, 4] rfl) h
set_option maxHeartbeats 4000000 in
set_option maxRecDepth 100000 in
theorem w_X9_goTo_140 {r : Unit} {D' : dt} (hC : Cx RX9 cX9_goTo 6 none p s m args meth c) (hR : 3 ≤ R.frames ∧ 74 ≤ R.locals) {k24 : Nat → Int32 → Int32 → Int32 → dt → Option (Unit × dt)} (hk24 : ∀ (o0 a0 : Nat) (x1 : Int32) (x2 : Int32) (x3 : Int32) (D : dt) (H : Heap) (locs : List Loc) (ls : Array Slot), Is S ad o0 a0 8 → Wd G cA S D ad A s H locs → lv_has ls 6 [(0, .ref a0), (1, .int x1), (2, .int x2), (3, .int x3)] → k24 o0 x1 x2 x3 D = some (r, D') → W p l e R s m args below meth c H locs 0 0 (MQ below (Qn none True (wpost G cA S D' ad A) A) args s 0 0 A) (F0 m 24 ls [])) : ∀ (o0 a0 : Nat) (x1 : Int32) (x2 : Int32) (x3 : Int32) (x4 : Int32) (os0 as0 : Nat) (xs1 : Int32) (xs2 : Int32) (xs3 : Int64) (xs4 : Int64) (xs5 : Int32) (xs6 : Int32) (D : dt) (H : Heap) (locs : List Loc) (ls : Array Slot), Is S ad o0 a0 8 → Is S ad os0 as0 8 → Wd G cA S D ad A s H locs → lv_has ls 6 [(0, .ref a0), (1, .int x1), (2, .int x2), (3, .int x3), (4, .int x4)] → f_X9_goTo_140 S k24 o0 x1 x2 x3 x4 os0 xs1 xs2 xs3 xs4 xs5 xs6 D = some (r, D') → W p l e R s m args below meth c H locs 0 0 (MQ below (Qn none True (wpost G cA S D' ad A) A) args s 0 0 A) (F0 m 140 ls [.int xs6, .int xs5, .long xs4, .long xs3, .int xs2, .int xs1, .ref as0]) := by
  obtain ⟨hx, hb, -⟩ := id hC
  intro o0 a0 x1 x2 x3 x4 os0 as0 xs1 xs2 xs3 xs4 xs5 xs6 D H locs ls hi0 his0 hw hl h
  unfold f_X9_goTo_140 at h
  obtain ⟨_, D491, hq490, h⟩ := cq_i h
  refine r_cV (st' := []) [.int xs1, .int xs2, .long xs3, .long xs4, .int xs5, .int xs6] [] hC hw kc_8 his0 (k_X9_join _ his0 hq490) mk_X9_join lk_1459 ⟨Nat.le_trans (by decide) hR.1, Nat.le_trans (by decide) hR.2⟩ ⟨Nat.zero_le _, Nat.zero_le _⟩ rfl hl.1 rfl rfl (Nat.le_of_ble_eq_true rfl) dX9_goTo_140 (fun hP H locs hw => ?_)
  refine lv_aload_n hx hb dX9_goTo_143 rfl (lv_at hl 0 rfl) ?_
  obtain ⟨o492, ho495, h⟩ := rq_i h
  refine r_getR hC hw kc_8 hi0 29 rfl lk_1098 dX9_goTo_144 rfl ho495 (fun a493 hi494 => ?_)
  refine lv_iload hx hb dX9_goTo_147 (lv_at hl 4 rfl) ?_
  refine lv_iload_n hx hb dX9_goTo_149 rfl (lv_at hl 2 rfl) ?_
  refine lv_if_eq (tgt := 162) hx hb dX9_goTo_150 (by decide) (fun c496 => ?_) (fun c496 => ?_)
  · have h := i_yes c496 h
    refine lv_aload_n hx hb dX9_goTo_162 rfl (lv_at hl 0 rfl) ?_
    refine r_gI hC hw kc_8 hi0 47 rfl lk_1116 dX9_goTo_163 ?_
    exact w_X9_goTo_166 hC hR hk24 o0 a0 x1 x2 x3 x4 o492 a493 x4 (gI D491 o0 47) _ _ _ _ hi0 hi494 hw (lv_sub hl [0, 1, 2, 3, 4] rfl) h
  · have h := i_no c496 h
    refine lv_aload_n hx hb dX9_goTo_153 rfl (lv_at hl 0 rfl) ?_
    obtain ⟨o497, ho500, h⟩ := rq_i h
    refine r_getR hC hw kc_8 hi0 40 rfl lk_1109 dX9_goTo_154 rfl ho500 (fun a498 hi499 => ?_)
    refine lv_iload_n hx hb dX9_goTo_157 rfl (lv_at hl 3 rfl) ?_
    obtain ⟨hn501, h⟩ := ix_i h
    refine r_iald hC hw hi499 hn501 dX9_goTo_158 ?_
    refine lv_goto (tgt := 166) hx hb dX9_goTo_159 (by decide) ?_
    exact w_X9_goTo_166 hC hR hk24 o0 a0 x1 x2 x3 x4 o492 a493 x4 (gI D491 o497 x3.toNatClampNeg) _ _ _ _ hi0 hi494 hw (lv_sub hl [0, 1, 2, 3, 4] rfl) h
set_option maxHeartbeats 4000000 in
set_option maxRecDepth 100000 in
theorem w_X9_goTo_120 {r : Unit} {D' : dt} (hC : Cx RX9 cX9_goTo 6 none p s m args meth c) (hR : 3 ≤ R.frames ∧ 74 ≤ R.locals) {k24 : Nat → Int32 → Int32 → Int32 → dt → Option (Unit × dt)} (hk24 : ∀ (o0 a0 : Nat) (x1 : Int32) (x2 : Int32) (x3 : Int32) (D : dt) (H : Heap) (locs : List Loc) (ls : Array Slot), Is S ad o0 a0 8 → Wd G cA S D ad A s H locs → lv_has ls 6 [(0, .ref a0), (1, .int x1), (2, .int x2), (3, .int x3)] → k24 o0 x1 x2 x3 D = some (r, D') → W p l e R s m args below meth c H locs 0 0 (MQ below (Qn none True (wpost G cA S D' ad A) A) args s 0 0 A) (F0 m 24 ls [])) : ∀ (o0 a0 : Nat) (x1 : Int32) (x2 : Int32) (x3 : Int32) (x4 : Int32) (os0 as0 : Nat) (xs1 : Int32) (xs2 : Int32) (xs3 : Int64) (xs4 : Int64) (xs5 : Int32) (D : dt) (H : Heap) (locs : List Loc) (ls : Array Slot), Is S ad o0 a0 8 → Is S ad os0 as0 8 → Wd G cA S D ad A s H locs → lv_has ls 6 [(0, .ref a0), (1, .int x1), (2, .int x2), (3, .int x3), (4, .int x4)] → f_X9_goTo_120 S k24 o0 x1 x2 x3 x4 os0 xs1 xs2 xs3 xs4 xs5 D = some (r, D') → W p l e R s m args below meth c H locs 0 0 (MQ below (Qn none True (wpost G cA S D' ad A) A) args s 0 0 A) (F0 m 120 ls [.int xs5, .long xs4, .long xs3, .int xs2, .int xs1, .ref as0]) := by
  obtain ⟨hx, hb, -⟩ := id hC
  intro o0 a0 x1 x2 x3 x4 os0 as0 xs1 xs2 xs3 xs4 xs5 D H locs ls hi0 his0 hw hl h
  unfold f_X9_goTo_120 at h
  refine lv_iload_n hx hb dX9_goTo_120 rfl (lv_at hl 2 rfl) ?_
  refine lv_if_eq (tgt := 133) hx hb dX9_goTo_121 (by decide) (fun c502 => ?_) (fun c502 => ?_)
  · have h := i_yes c502 h
    refine lv_aload_n hx hb dX9_goTo_133 rfl (lv_at hl 0 rfl) ?_
    obtain ⟨o503, ho506, h⟩ := rq_i h
    refine r_getR hC hw kc_8 hi0 33 rfl lk_1102 dX9_goTo_134 rfl ho506 (fun a504 hi505 => ?_)
    refine lv_iload hx hb dX9_goTo_137 (lv_at hl 4 rfl) ?_
    obtain ⟨hn507, h⟩ := ix_i h
    refine r_iald hC hw hi505 hn507 dX9_goTo_139 ?_
    exact w_X9_goTo_140 hC hR hk24 o0 a0 x1 x2 x3 x4 os0 as0 xs1 xs2 xs3 xs4 xs5 (gI D o503 x4.toNatClampNeg) _ _ _ _ hi0 his0 hw (lv_sub hl [0, 1, 2, 3, 4] rfl) h
  · have h := i_no c502 h
    refine lv_aload_n hx hb dX9_goTo_124 rfl (lv_at hl 0 rfl) ?_
    obtain ⟨o508, ho511, h⟩ := rq_i h
    refine r_getR hC hw kc_8 hi0 44 rfl lk_1113 dX9_goTo_125 rfl ho511 (fun a509 hi510 => ?_)
    refine lv_iload_n hx hb dX9_goTo_128 rfl (lv_at hl 3 rfl) ?_
    obtain ⟨hn512, h⟩ := ix_i h
    refine r_iald hC hw hi510 hn512 dX9_goTo_129 ?_
    refine lv_goto (tgt := 140) hx hb dX9_goTo_130 (by decide) ?_
    exact w_X9_goTo_140 hC hR hk24 o0 a0 x1 x2 x3 x4 os0 as0 xs1 xs2 xs3 xs4 xs5 (gI D o508 x3.toNatClampNeg) _ _ _ _ hi0 his0 hw (lv_sub hl [0, 1, 2, 3, 4] rfl) h
set_option maxHeartbeats 4000000 in
set_option maxRecDepth 100000 in
theorem w_X9_goTo_100 {r : Unit} {D' : dt} (hC : Cx RX9 cX9_goTo 6 none p s m args meth c) (hR : 3 ≤ R.frames ∧ 74 ≤ R.locals) {k24 : Nat → Int32 → Int32 → Int32 → dt → Option (Unit × dt)} (hk24 : ∀ (o0 a0 : Nat) (x1 : Int32) (x2 : Int32) (x3 : Int32) (D : dt) (H : Heap) (locs : List Loc) (ls : Array Slot), Is S ad o0 a0 8 → Wd G cA S D ad A s H locs → lv_has ls 6 [(0, .ref a0), (1, .int x1), (2, .int x2), (3, .int x3)] → k24 o0 x1 x2 x3 D = some (r, D') → W p l e R s m args below meth c H locs 0 0 (MQ below (Qn none True (wpost G cA S D' ad A) A) args s 0 0 A) (F0 m 24 ls [])) : ∀ (o0 a0 : Nat) (x1 : Int32) (x2 : Int32) (x3 : Int32) (x4 : Int32) (os0 as0 : Nat) (xs1 : Int32) (xs2 : Int32) (xs3 : Int64) (xs4 : Int64) (D : dt) (H : Heap) (locs : List Loc) (ls : Array Slot), Is S ad o0 a0 8 → Is S ad os0 as0 8 → Wd G cA S D ad A s H locs → lv_has ls 6 [(0, .ref a0), (1, .int x1), (2, .int x2), (3, .int x3), (4, .int x4)] → f_X9_goTo_100 S k24 o0 x1 x2 x3 x4 os0 xs1 xs2 xs3 xs4 D = some (r, D') → W p l e R s m args below meth c H locs 0 0 (MQ below (Qn none True (wpost G cA S D' ad A) A) args s 0 0 A) (F0 m 100 ls [.long xs4, .long xs3, .int xs2, .int xs1, .ref as0]) := by
  obtain ⟨hx, hb, -⟩ := id hC
  intro o0 a0 x1 x2 x3 x4 os0 as0 xs1 xs2 xs3 xs4 D H locs ls hi0 his0 hw hl h
  unfold f_X9_goTo_100 at h
  refine lv_iload_n hx hb dX9_goTo_100 rfl (lv_at hl 2 rfl) ?_
  refine lv_if_eq (tgt := 113) hx hb dX9_goTo_101 (by decide) (fun c513 => ?_) (fun c513 => ?_)
  · have h := i_yes c513 h
    refine lv_aload_n hx hb dX9_goTo_113 rfl (lv_at hl 0 rfl) ?_
    obtain ⟨o514, ho517, h⟩ := rq_i h
    refine r_getR hC hw kc_8 hi0 32 rfl lk_1101 dX9_goTo_114 rfl ho517 (fun a515 hi516 => ?_)
    refine lv_iload hx hb dX9_goTo_117 (lv_at hl 4 rfl) ?_
    obtain ⟨hn518, h⟩ := ix_i h
    refine r_iald hC hw hi516 hn518 dX9_goTo_119 ?_
    exact w_X9_goTo_120 hC hR hk24 o0 a0 x1 x2 x3 x4 os0 as0 xs1 xs2 xs3 xs4 (gI D o514 x4.toNatClampNeg) _ _ _ _ hi0 his0 hw (lv_sub hl [0, 1, 2, 3, 4] rfl) h
  · have h := i_no c513 h
    refine lv_aload_n hx hb dX9_goTo_104 rfl (lv_at hl 0 rfl) ?_
    obtain ⟨o519, ho522, h⟩ := rq_i h
    refine r_getR hC hw kc_8 hi0 43 rfl lk_1112 dX9_goTo_105 rfl ho522 (fun a520 hi521 => ?_)
    refine lv_iload_n hx hb dX9_goTo_108 rfl (lv_at hl 3 rfl) ?_
    obtain ⟨hn523, h⟩ := ix_i h
    refine r_iald hC hw hi521 hn523 dX9_goTo_109 ?_
    refine lv_goto (tgt := 120) hx hb dX9_goTo_110 (by decide) ?_
    exact w_X9_goTo_120 hC hR hk24 o0 a0 x1 x2 x3 x4 os0 as0 xs1 xs2 xs3 xs4 (gI D o519 x3.toNatClampNeg) _ _ _ _ hi0 his0 hw (lv_sub hl [0, 1, 2, 3, 4] rfl) h
set_option maxHeartbeats 4000000 in
set_option maxRecDepth 100000 in
theorem w_X9_goTo_80 {r : Unit} {D' : dt} (hC : Cx RX9 cX9_goTo 6 none p s m args meth c) (hR : 3 ≤ R.frames ∧ 74 ≤ R.locals) {k24 : Nat → Int32 → Int32 → Int32 → dt → Option (Unit × dt)} (hk24 : ∀ (o0 a0 : Nat) (x1 : Int32) (x2 : Int32) (x3 : Int32) (D : dt) (H : Heap) (locs : List Loc) (ls : Array Slot), Is S ad o0 a0 8 → Wd G cA S D ad A s H locs → lv_has ls 6 [(0, .ref a0), (1, .int x1), (2, .int x2), (3, .int x3)] → k24 o0 x1 x2 x3 D = some (r, D') → W p l e R s m args below meth c H locs 0 0 (MQ below (Qn none True (wpost G cA S D' ad A) A) args s 0 0 A) (F0 m 24 ls [])) : ∀ (o0 a0 : Nat) (x1 : Int32) (x2 : Int32) (x3 : Int32) (x4 : Int32) (os0 as0 : Nat) (xs1 : Int32) (xs2 : Int32) (xs3 : Int64) (D : dt) (H : Heap) (locs : List Loc) (ls : Array Slot), Is S ad o0 a0 8 → Is S ad os0 as0 8 → Wd G cA S D ad A s H locs → lv_has ls 6 [(0, .ref a0), (1, .int x1), (2, .int x2), (3, .int x3), (4, .int x4)] → f_X9_goTo_80 S k24 o0 x1 x2 x3 x4 os0 xs1 xs2 xs3 D = some (r, D') → W p l e R s m args below meth c H locs 0 0 (MQ below (Qn none True (wpost G cA S D' ad A) A) args s 0 0 A) (F0 m 80 ls [.long xs3, .int xs2, .int xs1, .ref as0]) := by
  obtain ⟨hx, hb, -⟩ := id hC
  intro o0 a0 x1 x2 x3 x4 os0 as0 xs1 xs2 xs3 D H locs ls hi0 his0 hw hl h
  unfold f_X9_goTo_80 at h
  refine lv_iload_n hx hb dX9_goTo_80 rfl (lv_at hl 2 rfl) ?_
  refine lv_if_eq (tgt := 93) hx hb dX9_goTo_81 (by decide) (fun c524 => ?_) (fun c524 => ?_)
  · have h := i_yes c524 h
    refine lv_aload_n hx hb dX9_goTo_93 rfl (lv_at hl 0 rfl) ?_
    obtain ⟨o525, ho528, h⟩ := rq_i h
    refine r_getR hC hw kc_8 hi0 31 rfl lk_1100 dX9_goTo_94 rfl ho528 (fun a526 hi527 => ?_)
    refine lv_iload hx hb dX9_goTo_97 (lv_at hl 4 rfl) ?_
    obtain ⟨hn529, h⟩ := ix_i h
    refine r_lald hC hw hi527 hn529 dX9_goTo_99 ?_
    exact w_X9_goTo_100 hC hR hk24 o0 a0 x1 x2 x3 x4 os0 as0 xs1 xs2 xs3 (gL D o525 x4.toNatClampNeg) _ _ _ _ hi0 his0 hw (lv_sub hl [0, 1, 2, 3, 4] rfl) h
  · have h := i_no c524 h
    refine lv_aload_n hx hb dX9_goTo_84 rfl (lv_at hl 0 rfl) ?_
    obtain ⟨o530, ho533, h⟩ := rq_i h
    refine r_getR hC hw kc_8 hi0 42 rfl lk_1111 dX9_goTo_85 rfl ho533 (fun a531 hi532 => ?_)
    refine lv_iload_n hx hb dX9_goTo_88 rfl (lv_at hl 3 rfl) ?_
    obtain ⟨hn534, h⟩ := ix_i h
    refine r_lald hC hw hi532 hn534 dX9_goTo_89 ?_
    refine lv_goto (tgt := 100) hx hb dX9_goTo_90 (by decide) ?_
    exact w_X9_goTo_100 hC hR hk24 o0 a0 x1 x2 x3 x4 os0 as0 xs1 xs2 xs3 (gL D o530 x3.toNatClampNeg) _ _ _ _ hi0 his0 hw (lv_sub hl [0, 1, 2, 3, 4] rfl) h
set_option maxHeartbeats 4000000 in
set_option maxRecDepth 100000 in
theorem w_X9_goTo_60 {r : Unit} {D' : dt} (hC : Cx RX9 cX9_goTo 6 none p s m args meth c) (hR : 3 ≤ R.frames ∧ 74 ≤ R.locals) {k24 : Nat → Int32 → Int32 → Int32 → dt → Option (Unit × dt)} (hk24 : ∀ (o0 a0 : Nat) (x1 : Int32) (x2 : Int32) (x3 : Int32) (D : dt) (H : Heap) (locs : List Loc) (ls : Array Slot), Is S ad o0 a0 8 → Wd G cA S D ad A s H locs → lv_has ls 6 [(0, .ref a0), (1, .int x1), (2, .int x2), (3, .int x3)] → k24 o0 x1 x2 x3 D = some (r, D') → W p l e R s m args below meth c H locs 0 0 (MQ below (Qn none True (wpost G cA S D' ad A) A) args s 0 0 A) (F0 m 24 ls [])) : ∀ (o0 a0 : Nat) (x1 : Int32) (x2 : Int32) (x3 : Int32) (x4 : Int32) (os0 as0 : Nat) (xs1 : Int32) (xs2 : Int32) (D : dt) (H : Heap) (locs : List Loc) (ls : Array Slot), Is S ad o0 a0 8 → Is S ad os0 as0 8 → Wd G cA S D ad A s H locs → lv_has ls 6 [(0, .ref a0), (1, .int x1), (2, .int x2), (3, .int x3), (4, .int x4)] → f_X9_goTo_60 S k24 o0 x1 x2 x3 x4 os0 xs1 xs2 D = some (r, D') → W p l e R s m args below meth c H locs 0 0 (MQ below (Qn none True (wpost G cA S D' ad A) A) args s 0 0 A) (F0 m 60 ls [.int xs2, .int xs1, .ref as0]) := by
  obtain ⟨hx, hb, -⟩ := id hC
  intro o0 a0 x1 x2 x3 x4 os0 as0 xs1 xs2 D H locs ls hi0 his0 hw hl h
  unfold f_X9_goTo_60 at h
  refine lv_iload_n hx hb dX9_goTo_60 rfl (lv_at hl 2 rfl) ?_
  refine lv_if_eq (tgt := 73) hx hb dX9_goTo_61 (by decide) (fun c535 => ?_) (fun c535 => ?_)
  · have h := i_yes c535 h
    refine lv_aload_n hx hb dX9_goTo_73 rfl (lv_at hl 0 rfl) ?_
    obtain ⟨o536, ho539, h⟩ := rq_i h
    refine r_getR hC hw kc_8 hi0 30 rfl lk_1099 dX9_goTo_74 rfl ho539 (fun a537 hi538 => ?_)
    refine lv_iload hx hb dX9_goTo_77 (lv_at hl 4 rfl) ?_
    obtain ⟨hn540, h⟩ := ix_i h
    refine r_lald hC hw hi538 hn540 dX9_goTo_79 ?_
    exact w_X9_goTo_80 hC hR hk24 o0 a0 x1 x2 x3 x4 os0 as0 xs1 xs2 (gL D o536 x4.toNatClampNeg) _ _ _ _ hi0 his0 hw (lv_sub hl [0, 1, 2, 3, 4] rfl) h
  · have h := i_no c535 h
    refine lv_aload_n hx hb dX9_goTo_64 rfl (lv_at hl 0 rfl) ?_
    obtain ⟨o541, ho544, h⟩ := rq_i h
    refine r_getR hC hw kc_8 hi0 41 rfl lk_1110 dX9_goTo_65 rfl ho544 (fun a542 hi543 => ?_)
    refine lv_iload_n hx hb dX9_goTo_68 rfl (lv_at hl 3 rfl) ?_
    obtain ⟨hn545, h⟩ := ix_i h
    refine r_lald hC hw hi543 hn545 dX9_goTo_69 ?_
    refine lv_goto (tgt := 80) hx hb dX9_goTo_70 (by decide) ?_
    exact w_X9_goTo_80 hC hR hk24 o0 a0 x1 x2 x3 x4 os0 as0 xs1 xs2 (gL D o541 x3.toNatClampNeg) _ _ _ _ hi0 his0 hw (lv_sub hl [0, 1, 2, 3, 4] rfl) h
set_option maxHeartbeats 4000000 in
set_option maxRecDepth 100000 in
theorem w_X9_goTo_24 {r : Unit} {D' : dt} (hC : Cx RX9 cX9_goTo 6 none p s m args meth c) (hR : 3 ≤ R.frames ∧ 74 ≤ R.locals) : ∀ (n : Nat), ∀ (o0 a0 : Nat) (x1 : Int32) (x2 : Int32) (x3 : Int32) (D : dt) (H : Heap) (locs : List Loc) (ls : Array Slot), Is S ad o0 a0 8 → Wd G cA S D ad A s H locs → lv_has ls 6 [(0, .ref a0), (1, .int x1), (2, .int x2), (3, .int x3)] → f_X9_goTo_24 S n o0 x1 x2 x3 D = some (r, D') → W p l e R s m args below meth c H locs 0 0 (MQ below (Qn none True (wpost G cA S D' ad A) A) args s 0 0 A) (F0 m 24 ls []) := by
  obtain ⟨hx, hb, -⟩ := id hC
  intro n
  induction n with
  | zero =>
    intro o0 a0 x1 x2 x3 D H locs ls hi0 hw hl h
    rw [f_X9_goTo_24.eq_1] at h
    cases h
  | succ n ih =>
    intro o0 a0 x1 x2 x3 D H locs ls hi0 hw hl h
    rw [f_X9_goTo_24.eq_2] at h
    refine lv_iload_n hx hb dX9_goTo_24 rfl (lv_at hl 3 rfl) ?_
    refine lv_bipush (v := 11) hx hb dX9_goTo_25 (by decide) ?_
    refine lv_icmp_ge (tgt := 275) hx hb dX9_goTo_27 (by decide) (fun c546 => ?_) (fun c546 => ?_)
    · have h := i_yes c546 h
      refine lv_iconst (v := 0) hx hb dX9_goTo_275 (by decide) ?_
      refine lv_topi (fun y547 ey547 => ?_)
      have h := nm_i h y547 ey547
      refine lv_istore_n (lv' := [(3, .int y547), (0, .ref a0), (1, .int x1), (2, .int x2)]) hx hb dX9_goTo_276 rfl hl (by decide) rfl (fun ls hl => ?_)
      exact w_X9_goTo_277 hC hR LF o0 a0 x1 x2 y547 _ _ _ _ hi0 hw (lv_sub hl [1, 2, 3, 0] rfl) h
    · have h := i_no c546 h
      refine lv_bipush (v := 11) hx hb dX9_goTo_30 (by decide) ?_
      refine lv_iload_n hx hb dX9_goTo_32 rfl (lv_at hl 1 rfl) ?_
      refine lv_imul hx hb dX9_goTo_33 ?_
      refine lv_iload_n hx hb dX9_goTo_34 rfl (lv_at hl 3 rfl) ?_
      refine lv_iadd hx hb dX9_goTo_35 ?_
      refine lv_topi (fun y548 ey548 => ?_)
      have h := nm_i h y548 ey548
      refine lv_istore (lv' := [(4, .int y548), (0, .ref a0), (1, .int x1), (2, .int x2), (3, .int x3)]) hx hb dX9_goTo_36 hl (by decide) rfl (fun ls hl => ?_)
      refine lv_aload_n hx hb dX9_goTo_38 rfl (lv_at hl 1 rfl) ?_
      refine lv_iload_n hx hb dX9_goTo_39 rfl (lv_at hl 4 rfl) ?_
      refine lv_iload_n hx hb dX9_goTo_40 rfl (lv_at hl 3 rfl) ?_
      refine lv_if_eq (tgt := 53) hx hb dX9_goTo_41 (by decide) (fun c549 => ?_) (fun c549 => ?_)
      · have h := i_yes c549 h
        refine lv_aload_n hx hb dX9_goTo_53 rfl (lv_at hl 1 rfl) ?_
        obtain ⟨o550, ho553, h⟩ := rq_i h
        refine r_getR hC hw kc_8 hi0 29 rfl lk_1098 dX9_goTo_54 rfl ho553 (fun a551 hi552 => ?_)
        refine lv_iload hx hb dX9_goTo_57 (lv_at hl 0 rfl) ?_
        obtain ⟨hn554, h⟩ := ix_i h
        refine r_iald hC hw hi552 hn554 dX9_goTo_59 ?_
        exact w_X9_goTo_60 hC hR ih o0 a0 x1 x2 x3 y548 o0 a0 x3 (gI D o550 y548.toNatClampNeg) _ _ _ _ hi0 hi0 hw (lv_sub hl [1, 2, 3, 4, 0] rfl) h
      · have h := i_no c549 h
        refine lv_aload_n hx hb dX9_goTo_44 rfl (lv_at hl 1 rfl) ?_
        obtain ⟨o555, ho558, h⟩ := rq_i h
        refine r_getR hC hw kc_8 hi0 40 rfl lk_1109 dX9_goTo_45 rfl ho558 (fun a556 hi557 => ?_)
        refine lv_iload_n hx hb dX9_goTo_48 rfl (lv_at hl 4 rfl) ?_
        obtain ⟨hn559, h⟩ := ix_i h
        refine r_iald hC hw hi557 hn559 dX9_goTo_49 ?_
        refine lv_goto (tgt := 60) hx hb dX9_goTo_50 (by decide) ?_
        exact w_X9_goTo_60 hC hR ih o0 a0 x1 x2 x3 y548 o0 a0 x3 (gI D o555 x3.toNatClampNeg) _ _ _ _ hi0 hi0 hw (lv_sub hl [1, 2, 3, 4, 0] rfl) h
set_option maxHeartbeats 4000000 in
set_option maxRecDepth 100000 in
theorem w_X9_goTo_14 {r : Unit} {D' : dt} (hC : Cx RX9 cX9_goTo 6 none p s m args meth c) (hR : 3 ≤ R.frames ∧ 74 ≤ R.locals) : ∀ (o0 a0 : Nat) (x1 : Int32) (xs0 : Int32) (D : dt) (H : Heap) (locs : List Loc) (ls : Array Slot), Is S ad o0 a0 8 → Wd G cA S D ad A s H locs → lv_has ls 6 [(0, .ref a0), (1, .int x1)] → f_X9_goTo_14 S o0 x1 xs0 D = some (r, D') → W p l e R s m args below meth c H locs 0 0 (MQ below (Qn none True (wpost G cA S D' ad A) A) args s 0 0 A) (F0 m 14 ls [.int xs0]) := by
  obtain ⟨hx, hb, -⟩ := id hC
  intro o0 a0 x1 xs0 D H locs ls hi0 hw hl h
  unfold f_X9_goTo_14 at h
  refine lv_istore_n (lv' := [(2, .int xs0), (0, .ref a0), (1, .int x1)]) hx hb dX9_goTo_14 rfl hl (by decide) rfl (fun ls hl => ?_)
  refine lv_aload_n hx hb dX9_goTo_15 rfl (lv_at hl 1 rfl) ?_
  obtain ⟨o560, ho563, h⟩ := rq_i h
  refine r_getR hC hw kc_8 hi0 27 rfl lk_1096 dX9_goTo_16 rfl ho563 (fun a561 hi562 => ?_)
  refine lv_iload_n hx hb dX9_goTo_19 rfl (lv_at hl 2 rfl) ?_
  refine lv_iconst (v := 1) hx hb dX9_goTo_20 (by decide) ?_
  obtain ⟨hn564, h⟩ := ix_i h
  refine r_zas hC hw hi562 hn564 dX9_goTo_21 (fun D565 eD565 H locs hw => ?_)
  have h := nm_i h D565 eD565
  refine lv_iconst (v := 0) hx hb dX9_goTo_22 (by decide) ?_
  refine lv_topi (fun y566 ey566 => ?_)
  have h := nm_i h y566 ey566
  refine lv_istore_n (lv' := [(3, .int y566), (2, .int xs0), (0, .ref a0), (1, .int x1)]) hx hb dX9_goTo_23 rfl hl (by decide) rfl (fun ls hl => ?_)
  exact w_X9_goTo_24 hC hR LF o0 a0 x1 xs0 y566 _ _ _ _ hi0 hw (lv_sub hl [2, 3, 1, 0] rfl) h
set_option maxHeartbeats 4000000 in
set_option maxRecDepth 100000 in
theorem w_X9_goTo_0 {r : Unit} {D' : dt} (hC : Cx RX9 cX9_goTo 6 none p s m args meth c) (hR : 3 ≤ R.frames ∧ 74 ≤ R.locals) : ∀ (o0 a0 : Nat) (x1 : Int32) (D : dt) (H : Heap) (locs : List Loc) (ls : Array Slot), Is S ad o0 a0 8 → Wd G cA S D ad A s H locs → lv_has ls 6 [(0, .ref a0), (1, .int x1)] → f_X9_goTo S o0 x1 D = some (r, D') → W p l e R s m args below meth c H locs 0 0 (MQ below (Qn none True (wpost G cA S D' ad A) A) args s 0 0 A) (F0 m 0 ls []) := by
  obtain ⟨hx, hb, -⟩ := id hC
  intro o0 a0 x1 D H locs ls hi0 hw hl h
  unfold f_X9_goTo at h
  refine lv_aload_n hx hb dX9_goTo_0 rfl (lv_at hl 0 rfl) ?_
  obtain ⟨o567, ho570, h⟩ := rq_i h
  refine r_getR hC hw kc_8 hi0 27 rfl lk_1096 dX9_goTo_1 rfl ho570 (fun a568 hi569 => ?_)
  refine lv_iload_n hx hb dX9_goTo_4 rfl (lv_at hl 1 rfl) ?_
  obtain ⟨hn571, h⟩ := ix_i h
  refine r_zald hC hw hi569 hn571 dX9_goTo_5 ?_
  refine lv_if_ne (tgt := 13) hx hb dX9_goTo_6 (by decide) (fun c572 => ?_) (fun c572 => ?_)
  · have h := i_no c572 h
    refine lv_iconst (v := 0) hx hb dX9_goTo_13 (by decide) ?_
    exact w_X9_goTo_14 hC hR o0 a0 x1 (0 : Int32) _ _ _ _ hi0 hw (lv_sub hl [0, 1] rfl) h
  · have h := i_yes c572 h
    refine lv_iconst (v := 1) hx hb dX9_goTo_9 (by decide) ?_
    refine lv_goto (tgt := 14) hx hb dX9_goTo_10 (by decide) ?_
    exact w_X9_goTo_14 hC hR o0 a0 x1 (1 : Int32) _ _ _ _ hi0 hw (lv_sub hl [0, 1] rfl) h
set_option maxHeartbeats 4000000 in
set_option maxRecDepth 100000 in
theorem k_X9_goTo {l : Launch} {G : va_G} {cA : Nat → ClassId} {S : sh} {D D' : dt} {ad : Nat → Nat} (sz : Nat) {o0 a0 : Nat} {x1 : Int32} {r : Unit} (hi0 : Is S ad o0 a0 8) (h : f_X9_goTo S o0 x1 D = some (r, D')) : Co l yX9_goTo (Cond.code yX9_goTo cX9_goTo 6 none :: tb0) 3 74 [.ref a0, .int x1] G cA S D ad sz none True D' := by
  refine Met.ofW (cc := cX9_goTo) (maxL := 6) (ret := none) (by decide) rfl ?_
  intro p e s m args below meth c s₁ B hml hv
  obtain ⟨rfl, hsz, hP, hK, hD0, hT, hX⟩ := hv
  subst hsz
  have hts := atoms_spec (ws := Cond.code yX9_goTo cX9_goTo 6 none :: tb0) B.pre
  have hC : Cx RX9 cX9_goTo 6 none p s m _ meth c := ⟨B.exec, B.bytes, hml, findClass_of_methodNamed B.named, fun w q => hts w (List.mem_cons_of_mem _ q), B.returns, B.notSynchronized⟩
  have hw := Wd.entry hP hK hD0 hT hX
  have hl := lv_entry ([.ref a0, .int x1]) (n := 6) (Nat.le_of_ble_eq_true rfl)
  rw [lg_entry_eq]
  exact w_X9_goTo_0 hC ⟨Nat.le_refl _, Nat.le_refl _⟩ o0 a0 x1 D _ _ _ hi0 hw hl h
set_option maxHeartbeats 4000000 in
set_option maxRecDepth 100000 in
theorem w_X9_isWay_0 {r : Int32} {D' : dt} (hC : Cx RX9 cX9_isWay 2 (some .boolean) p s m args meth c) (hR : 0 ≤ R.frames ∧ 0 ≤ R.locals) : ∀ (o0 a0 : Nat) (x1 : Int32) (D : dt) (H : Heap) (locs : List Loc) (ls : Array Slot), Is S ad o0 a0 8 → Wd G cA S D ad A s H locs → lv_has ls 2 [(0, .ref a0), (1, .int x1)] → f_X9_isWay S o0 x1 D = some (r, D') → W p l e R s m args below meth c H locs 0 0 (MQ below (Qn (some (.int r)) True (wpost G cA S D' ad A) A) args s 0 0 A) (F0 m 0 ls []) := by
  obtain ⟨hx, hb, -⟩ := id hC
  intro o0 a0 x1 D H locs ls hi0 hw hl h
  unfold f_X9_isWay at h
  refine lv_iload_n hx hb dX9_isWay_0 rfl (lv_at hl 1 rfl) ?_
  refine lv_aload_n hx hb dX9_isWay_1 rfl (lv_at hl 0 rfl) ?_
  refine r_gI hC hw kc_8 hi0 46 rfl lk_1115 dX9_isWay_2 ?_
  refine lv_icmp_le (tgt := 29) hx hb dX9_isWay_5 (by decide) (fun c9 => ?_) (fun c9 => ?_)
  · have h := i_yes c9 h
    refine lv_iconst (v := 0) hx hb dX9_isWay_29 (by decide) ?_
    cases h
    exact r_zret hC hw (Or.inl rfl) dX9_isWay_30
  · have h := i_no c9 h
    refine lv_iload_n hx hb dX9_isWay_8 rfl (lv_at hl 1 rfl) ?_
    refine lv_aload_n hx hb dX9_isWay_9 rfl (lv_at hl 0 rfl) ?_
    refine r_gI hC hw kc_8 hi0 0 rfl lk_1069 dX9_isWay_10 ?_
    refine lv_icmp_ge (tgt := 29) hx hb dX9_isWay_13 (by decide) (fun c10 => ?_) (fun c10 => ?_)
    · have h := i_yes c10 h
      refine lv_iconst (v := 0) hx hb dX9_isWay_29 (by decide) ?_
      cases h
      exact r_zret hC hw (Or.inl rfl) dX9_isWay_30
    · have h := i_no c10 h
      refine lv_aload_n hx hb dX9_isWay_16 rfl (lv_at hl 0 rfl) ?_
      obtain ⟨o11, ho14, h⟩ := rq_i h
      refine r_getR hC hw kc_8 hi0 28 rfl lk_1097 dX9_isWay_17 rfl ho14 (fun a12 hi13 => ?_)
      refine lv_iload_n hx hb dX9_isWay_20 rfl (lv_at hl 1 rfl) ?_
      obtain ⟨hn15, h⟩ := ix_i h
      refine r_zald hC hw hi13 hn15 dX9_isWay_21 ?_
      refine lv_if_ne (tgt := 29) hx hb dX9_isWay_22 (by decide) (fun c16 => ?_) (fun c16 => ?_)
      · have h := i_no c16 h
        refine lv_iconst (v := 0) hx hb dX9_isWay_29 (by decide) ?_
        cases h
        exact r_zret hC hw (Or.inl rfl) dX9_isWay_30
      · have h := i_yes c16 h
        refine lv_iconst (v := 1) hx hb dX9_isWay_25 (by decide) ?_
        refine lv_goto (tgt := 30) hx hb dX9_isWay_26 (by decide) ?_
        cases h
        exact r_zret hC hw (Or.inr rfl) dX9_isWay_30
set_option maxHeartbeats 4000000 in
set_option maxRecDepth 100000 in
theorem k_X9_isWay {l : Launch} {G : va_G} {cA : Nat → ClassId} {S : sh} {D D' : dt} {ad : Nat → Nat} (sz : Nat) {o0 a0 : Nat} {x1 : Int32} {r : Int32} (hi0 : Is S ad o0 a0 8) (h : f_X9_isWay S o0 x1 D = some (r, D')) : Co l yX9_isWay (Cond.code yX9_isWay cX9_isWay 2 (some .boolean) :: tb0) 0 0 [.ref a0, .int x1] G cA S D ad sz (some (.int r)) True D' := by
  refine Met.ofW (cc := cX9_isWay) (maxL := 2) (ret := (some .boolean)) (by decide) rfl ?_
  intro p e s m args below meth c s₁ B hml hv
  obtain ⟨rfl, hsz, hP, hK, hD0, hT, hX⟩ := hv
  subst hsz
  have hts := atoms_spec (ws := Cond.code yX9_isWay cX9_isWay 2 (some .boolean) :: tb0) B.pre
  have hC : Cx RX9 cX9_isWay 2 (some .boolean) p s m _ meth c := ⟨B.exec, B.bytes, hml, findClass_of_methodNamed B.named, fun w q => hts w (List.mem_cons_of_mem _ q), B.returns, B.notSynchronized⟩
  have hw := Wd.entry hP hK hD0 hT hX
  have hl := lv_entry ([.ref a0, .int x1]) (n := 2) (Nat.le_of_ble_eq_true rfl)
  rw [lg_entry_eq]
  exact w_X9_isWay_0 hC ⟨Nat.le_refl _, Nat.le_refl _⟩ o0 a0 x1 D _ _ _ hi0 hw hl h
set_option maxHeartbeats 4000000 in
set_option maxRecDepth 100000 in
theorem w_X9_takeSecond_136 {r : Unit} {D' : dt} (hC : Cx RX9 cX9_takeSecond 3 none p s m args meth c) (hR : 0 ≤ R.frames ∧ 0 ≤ R.locals) : ∀ (os0 as0 : Nat) (xs1 : Int64) (D : dt) (H : Heap) (locs : List Loc) (ls : Array Slot), Is S ad os0 as0 8 → Wd G cA S D ad A s H locs → lv_has ls 3 [] → f_X9_takeSecond_136 S os0 xs1 D = some (r, D') → W p l e R s m args below meth c H locs 0 0 (MQ below (Qn none True (wpost G cA S D' ad A) A) args s 0 0 A) (F0 m 136 ls [.long xs1, .ref as0]) := by
  obtain ⟨hx, hb, -⟩ := id hC
  intro os0 as0 xs1 D H locs ls his0 hw hl h
  unfold f_X9_takeSecond_136 at h
  refine r_pL hC hw kc_8 his0 52 rfl lk_1121 rfl rfl rfl dX9_takeSecond_136 (fun D71 eD71 H locs hw => ?_)
  have h := nm_i h D71 eD71
  cases h
  exact r_vret hC hw dX9_takeSecond_139
set_option maxHeartbeats 4000000 in
set_option maxRecDepth 100000 in
theorem w_X9_takeSecond_107 {r : Unit} {D' : dt} (hC : Cx RX9 cX9_takeSecond 3 none p s m args meth c) (hR : 0 ≤ R.frames ∧ 0 ≤ R.locals) : ∀ (o0 a0 : Nat) (x1 : Int32) (x2 : Int32) (os0 as0 : Nat) (xs1 : Int64) (D : dt) (H : Heap) (locs : List Loc) (ls : Array Slot), Is S ad o0 a0 8 → Is S ad os0 as0 8 → Wd G cA S D ad A s H locs → lv_has ls 3 [(0, .ref a0), (1, .int x1), (2, .int x2)] → f_X9_takeSecond_107 S o0 x1 x2 os0 xs1 D = some (r, D') → W p l e R s m args below meth c H locs 0 0 (MQ below (Qn none True (wpost G cA S D' ad A) A) args s 0 0 A) (F0 m 107 ls [.long xs1, .ref as0]) := by
  obtain ⟨hx, hb, -⟩ := id hC
  intro o0 a0 x1 x2 os0 as0 xs1 D H locs ls hi0 his0 hw hl h
  unfold f_X9_takeSecond_107 at h
  refine r_pL hC hw kc_8 his0 51 rfl lk_1120 rfl rfl rfl dX9_takeSecond_107 (fun D72 eD72 H locs hw => ?_)
  have h := nm_i h D72 eD72
  refine lv_aload_n hx hb dX9_takeSecond_110 rfl (lv_at hl 0 rfl) ?_
  refine lv_iload_n hx hb dX9_takeSecond_111 rfl (lv_at hl 2 rfl) ?_
  refine lv_if_eq (tgt := 129) hx hb dX9_takeSecond_112 (by decide) (fun c73 => ?_) (fun c73 => ?_)
  · have h := i_yes c73 h
    refine lv_aload_n hx hb dX9_takeSecond_129 rfl (lv_at hl 0 rfl) ?_
    obtain ⟨o74, ho77, h⟩ := rq_i h
    refine r_getR hC hw kc_8 hi0 5 rfl lk_1074 dX9_takeSecond_130 rfl ho77 (fun a75 hi76 => ?_)
    refine lv_iload_n hx hb dX9_takeSecond_133 rfl (lv_at hl 1 rfl) ?_
    obtain ⟨hn78, h⟩ := ix_i h
    refine r_iald hC hw hi76 hn78 dX9_takeSecond_134 ?_
    refine lv_i2l (v := (gI D72 o74 x1.toNatClampNeg).toInt64) hx hb dX9_takeSecond_135 rfl ?_
    exact w_X9_takeSecond_136 hC hR o0 a0 ((gI D72 o74 x1.toNatClampNeg).toInt64) _ _ _ _ hi0 hw (lv_sub hl [] rfl) h
  · have h := i_no c73 h
    refine lv_aload_n hx hb dX9_takeSecond_115 rfl (lv_at hl 0 rfl) ?_
    obtain ⟨o79, ho82, h⟩ := rq_i h
    refine r_getR hC hw kc_8 hi0 42 rfl lk_1111 dX9_takeSecond_116 rfl ho82 (fun a80 hi81 => ?_)
    refine lv_aload_n hx hb dX9_takeSecond_119 rfl (lv_at hl 0 rfl) ?_
    obtain ⟨o83, ho86, h⟩ := rq_i h
    refine r_getR hC hw kc_8 hi0 3 rfl lk_1072 dX9_takeSecond_120 rfl ho86 (fun a84 hi85 => ?_)
    refine lv_iload_n hx hb dX9_takeSecond_123 rfl (lv_at hl 1 rfl) ?_
    obtain ⟨hn87, h⟩ := ix_i h
    refine r_iald hC hw hi85 hn87 dX9_takeSecond_124 ?_
    obtain ⟨hn88, h⟩ := ix_i h
    refine r_lald hC hw hi81 hn88 dX9_takeSecond_125 ?_
    refine lv_goto (tgt := 136) hx hb dX9_takeSecond_126 (by decide) ?_
    exact w_X9_takeSecond_136 hC hR o0 a0 (gL D72 o79 (gI D72 o83 x1.toNatClampNeg).toNatClampNeg) _ _ _ _ hi0 hw (lv_sub hl [] rfl) h
set_option maxHeartbeats 4000000 in
set_option maxRecDepth 100000 in
theorem w_X9_takeSecond_78 {r : Unit} {D' : dt} (hC : Cx RX9 cX9_takeSecond 3 none p s m args meth c) (hR : 0 ≤ R.frames ∧ 0 ≤ R.locals) : ∀ (o0 a0 : Nat) (x1 : Int32) (x2 : Int32) (os0 as0 : Nat) (xs1 : Int32) (D : dt) (H : Heap) (locs : List Loc) (ls : Array Slot), Is S ad o0 a0 8 → Is S ad os0 as0 8 → Wd G cA S D ad A s H locs → lv_has ls 3 [(0, .ref a0), (1, .int x1), (2, .int x2)] → f_X9_takeSecond_78 S o0 x1 x2 os0 xs1 D = some (r, D') → W p l e R s m args below meth c H locs 0 0 (MQ below (Qn none True (wpost G cA S D' ad A) A) args s 0 0 A) (F0 m 78 ls [.int xs1, .ref as0]) := by
  obtain ⟨hx, hb, -⟩ := id hC
  intro o0 a0 x1 x2 os0 as0 xs1 D H locs ls hi0 his0 hw hl h
  unfold f_X9_takeSecond_78 at h
  refine r_pI hC hw kc_8 his0 50 rfl lk_1119 rfl rfl rfl dX9_takeSecond_78 (fun D89 eD89 H locs hw => ?_)
  have h := nm_i h D89 eD89
  refine lv_aload_n hx hb dX9_takeSecond_81 rfl (lv_at hl 0 rfl) ?_
  refine lv_iload_n hx hb dX9_takeSecond_82 rfl (lv_at hl 2 rfl) ?_
  refine lv_if_eq (tgt := 100) hx hb dX9_takeSecond_83 (by decide) (fun c90 => ?_) (fun c90 => ?_)
  · have h := i_yes c90 h
    refine lv_aload_n hx hb dX9_takeSecond_100 rfl (lv_at hl 0 rfl) ?_
    obtain ⟨o91, ho94, h⟩ := rq_i h
    refine r_getR hC hw kc_8 hi0 5 rfl lk_1074 dX9_takeSecond_101 rfl ho94 (fun a92 hi93 => ?_)
    refine lv_iload_n hx hb dX9_takeSecond_104 rfl (lv_at hl 1 rfl) ?_
    obtain ⟨hn95, h⟩ := ix_i h
    refine r_iald hC hw hi93 hn95 dX9_takeSecond_105 ?_
    refine lv_i2l (v := (gI D89 o91 x1.toNatClampNeg).toInt64) hx hb dX9_takeSecond_106 rfl ?_
    exact w_X9_takeSecond_107 hC hR o0 a0 x1 x2 o0 a0 ((gI D89 o91 x1.toNatClampNeg).toInt64) _ _ _ _ hi0 hi0 hw (lv_sub hl [0, 1, 2] rfl) h
  · have h := i_no c90 h
    refine lv_aload_n hx hb dX9_takeSecond_86 rfl (lv_at hl 0 rfl) ?_
    obtain ⟨o96, ho99, h⟩ := rq_i h
    refine r_getR hC hw kc_8 hi0 41 rfl lk_1110 dX9_takeSecond_87 rfl ho99 (fun a97 hi98 => ?_)
    refine lv_aload_n hx hb dX9_takeSecond_90 rfl (lv_at hl 0 rfl) ?_
    obtain ⟨o100, ho103, h⟩ := rq_i h
    refine r_getR hC hw kc_8 hi0 3 rfl lk_1072 dX9_takeSecond_91 rfl ho103 (fun a101 hi102 => ?_)
    refine lv_iload_n hx hb dX9_takeSecond_94 rfl (lv_at hl 1 rfl) ?_
    obtain ⟨hn104, h⟩ := ix_i h
    refine r_iald hC hw hi102 hn104 dX9_takeSecond_95 ?_
    obtain ⟨hn105, h⟩ := ix_i h
    refine r_lald hC hw hi98 hn105 dX9_takeSecond_96 ?_
    refine lv_goto (tgt := 107) hx hb dX9_takeSecond_97 (by decide) ?_
    exact w_X9_takeSecond_107 hC hR o0 a0 x1 x2 o0 a0 (gL D89 o96 (gI D89 o100 x1.toNatClampNeg).toNatClampNeg) _ _ _ _ hi0 hi0 hw (lv_sub hl [0, 1, 2] rfl) h
set_option maxHeartbeats 4000000 in
set_option maxRecDepth 100000 in
theorem w_X9_takeSecond_57 {r : Unit} {D' : dt} (hC : Cx RX9 cX9_takeSecond 3 none p s m args meth c) (hR : 0 ≤ R.frames ∧ 0 ≤ R.locals) : ∀ (o0 a0 : Nat) (x1 : Int32) (xs0 : Int32) (D : dt) (H : Heap) (locs : List Loc) (ls : Array Slot), Is S ad o0 a0 8 → Wd G cA S D ad A s H locs → lv_has ls 3 [(0, .ref a0), (1, .int x1)] → f_X9_takeSecond_57 S o0 x1 xs0 D = some (r, D') → W p l e R s m args below meth c H locs 0 0 (MQ below (Qn none True (wpost G cA S D' ad A) A) args s 0 0 A) (F0 m 57 ls [.int xs0]) := by
  obtain ⟨hx, hb, -⟩ := id hC
  intro o0 a0 x1 xs0 D H locs ls hi0 hw hl h
  unfold f_X9_takeSecond_57 at h
  refine lv_istore_n (lv' := [(2, .int xs0), (0, .ref a0), (1, .int x1)]) hx hb dX9_takeSecond_57 rfl hl (by decide) rfl (fun ls hl => ?_)
  refine lv_aload_n hx hb dX9_takeSecond_58 rfl (lv_at hl 1 rfl) ?_
  refine lv_iload_n hx hb dX9_takeSecond_59 rfl (lv_at hl 0 rfl) ?_
  refine lv_if_eq (tgt := 77) hx hb dX9_takeSecond_60 (by decide) (fun c106 => ?_) (fun c106 => ?_)
  · have h := i_yes c106 h
    refine lv_iconst (v := 1) hx hb dX9_takeSecond_77 (by decide) ?_
    exact w_X9_takeSecond_78 hC hR o0 a0 x1 xs0 o0 a0 (1 : Int32) _ _ _ _ hi0 hi0 hw (lv_sub hl [1, 2, 0] rfl) h
  · have h := i_no c106 h
    refine lv_aload_n hx hb dX9_takeSecond_63 rfl (lv_at hl 1 rfl) ?_
    obtain ⟨o107, ho110, h⟩ := rq_i h
    refine r_getR hC hw kc_8 hi0 40 rfl lk_1109 dX9_takeSecond_64 rfl ho110 (fun a108 hi109 => ?_)
    refine lv_aload_n hx hb dX9_takeSecond_67 rfl (lv_at hl 1 rfl) ?_
    obtain ⟨o111, ho114, h⟩ := rq_i h
    refine r_getR hC hw kc_8 hi0 3 rfl lk_1072 dX9_takeSecond_68 rfl ho114 (fun a112 hi113 => ?_)
    refine lv_iload_n hx hb dX9_takeSecond_71 rfl (lv_at hl 2 rfl) ?_
    obtain ⟨hn115, h⟩ := ix_i h
    refine r_iald hC hw hi113 hn115 dX9_takeSecond_72 ?_
    obtain ⟨hn116, h⟩ := ix_i h
    refine r_iald hC hw hi109 hn116 dX9_takeSecond_73 ?_
    refine lv_goto (tgt := 78) hx hb dX9_takeSecond_74 (by decide) ?_
    exact w_X9_takeSecond_78 hC hR o0 a0 x1 xs0 o0 a0 (gI D o107 (gI D o111 x1.toNatClampNeg).toNatClampNeg) _ _ _ _ hi0 hi0 hw (lv_sub hl [1, 2, 0] rfl) h
set_option maxHeartbeats 4000000 in
set_option maxRecDepth 100000 in
theorem w_X9_takeSecond_56 {r : Unit} {D' : dt} (hC : Cx RX9 cX9_takeSecond 3 none p s m args meth c) (hR : 0 ≤ R.frames ∧ 0 ≤ R.locals) : ∀ (o0 a0 : Nat) (x1 : Int32) (D : dt) (H : Heap) (locs : List Loc) (ls : Array Slot), Is S ad o0 a0 8 → Wd G cA S D ad A s H locs → lv_has ls 3 [(0, .ref a0), (1, .int x1)] → f_X9_takeSecond_56 S o0 x1 D = some (r, D') → W p l e R s m args below meth c H locs 0 0 (MQ below (Qn none True (wpost G cA S D' ad A) A) args s 0 0 A) (F0 m 56 ls []) := by
  obtain ⟨hx, hb, -⟩ := id hC
  intro o0 a0 x1 D H locs ls hi0 hw hl h
  unfold f_X9_takeSecond_56 at h
  refine lv_iconst (v := 0) hx hb dX9_takeSecond_56 (by decide) ?_
  exact w_X9_takeSecond_57 hC hR o0 a0 x1 (0 : Int32) _ _ _ _ hi0 hw (lv_sub hl [0, 1] rfl) h
set_option maxHeartbeats 4000000 in
set_option maxRecDepth 100000 in
theorem w_X9_takeSecond_52 {r : Unit} {D' : dt} (hC : Cx RX9 cX9_takeSecond 3 none p s m args meth c) (hR : 0 ≤ R.frames ∧ 0 ≤ R.locals) : ∀ (o0 a0 : Nat) (x1 : Int32) (D : dt) (H : Heap) (locs : List Loc) (ls : Array Slot), Is S ad o0 a0 8 → Wd G cA S D ad A s H locs → lv_has ls 3 [(0, .ref a0), (1, .int x1)] → f_X9_takeSecond_52 S o0 x1 D = some (r, D') → W p l e R s m args below meth c H locs 0 0 (MQ below (Qn none True (wpost G cA S D' ad A) A) args s 0 0 A) (F0 m 52 ls []) := by
  obtain ⟨hx, hb, -⟩ := id hC
  intro o0 a0 x1 D H locs ls hi0 hw hl h
  unfold f_X9_takeSecond_52 at h
  refine lv_iconst (v := 1) hx hb dX9_takeSecond_52 (by decide) ?_
  refine lv_goto (tgt := 57) hx hb dX9_takeSecond_53 (by decide) ?_
  exact w_X9_takeSecond_57 hC hR o0 a0 x1 (1 : Int32) _ _ _ _ hi0 hw (lv_sub hl [0, 1] rfl) h
set_option maxHeartbeats 4000000 in
set_option maxRecDepth 100000 in
theorem w_X9_takeSecond_0 {r : Unit} {D' : dt} (hC : Cx RX9 cX9_takeSecond 3 none p s m args meth c) (hR : 0 ≤ R.frames ∧ 0 ≤ R.locals) : ∀ (o0 a0 : Nat) (x1 : Int32) (D : dt) (H : Heap) (locs : List Loc) (ls : Array Slot), Is S ad o0 a0 8 → Wd G cA S D ad A s H locs → lv_has ls 3 [(0, .ref a0), (1, .int x1)] → f_X9_takeSecond S o0 x1 D = some (r, D') → W p l e R s m args below meth c H locs 0 0 (MQ below (Qn none True (wpost G cA S D' ad A) A) args s 0 0 A) (F0 m 0 ls []) := by
  obtain ⟨hx, hb, -⟩ := id hC
  intro o0 a0 x1 D H locs ls hi0 hw hl h
  unfold f_X9_takeSecond at h
  refine lv_aload_n hx hb dX9_takeSecond_0 rfl (lv_at hl 0 rfl) ?_
  obtain ⟨o117, ho120, h⟩ := rq_i h
  refine r_getR hC hw kc_8 hi0 1 rfl lk_1070 dX9_takeSecond_1 rfl ho120 (fun a118 hi119 => ?_)
  refine lv_iload_n hx hb dX9_takeSecond_4 rfl (lv_at hl 1 rfl) ?_
  obtain ⟨hn121, h⟩ := ix_i h
  refine r_iald hC hw hi119 hn121 dX9_takeSecond_5 ?_
  refine lv_bipush (v := 8) hx hb dX9_takeSecond_6 (by decide) ?_
  refine lv_iand hx hb dX9_takeSecond_8 ?_
  refine lv_if_eq (tgt := 56) hx hb dX9_takeSecond_9 (by decide) (fun c122 => ?_) (fun c122 => ?_)
  · have h := i_yes c122 h
    exact w_X9_takeSecond_56 hC hR o0 a0 x1 _ _ _ _ hi0 hw (lv_sub hl [0, 1] rfl) h
  · have h := i_no c122 h
    refine lv_aload_n hx hb dX9_takeSecond_12 rfl (lv_at hl 0 rfl) ?_
    obtain ⟨o123, ho126, h⟩ := rq_i h
    refine r_getR hC hw kc_8 hi0 1 rfl lk_1070 dX9_takeSecond_13 rfl ho126 (fun a124 hi125 => ?_)
    refine lv_iload_n hx hb dX9_takeSecond_16 rfl (lv_at hl 1 rfl) ?_
    obtain ⟨hn127, h⟩ := ix_i h
    refine r_iald hC hw hi125 hn127 dX9_takeSecond_17 ?_
    refine lv_bipush (v := 7) hx hb dX9_takeSecond_18 (by decide) ?_
    refine lv_iand hx hb dX9_takeSecond_20 ?_
    refine lv_iconst (v := 5) hx hb dX9_takeSecond_21 (by decide) ?_
    refine lv_icmp_eq (tgt := 52) hx hb dX9_takeSecond_22 (by decide) (fun c128 => ?_) (fun c128 => ?_)
    · have h := i_yes c128 h
      exact w_X9_takeSecond_52 hC hR o0 a0 x1 _ _ _ _ hi0 hw (lv_sub hl [0, 1] rfl) h
    · have h := i_no c128 h
      refine lv_aload_n hx hb dX9_takeSecond_25 rfl (lv_at hl 0 rfl) ?_
      obtain ⟨o129, ho132, h⟩ := rq_i h
      refine r_getR hC hw kc_8 hi0 1 rfl lk_1070 dX9_takeSecond_26 rfl ho132 (fun a130 hi131 => ?_)
      refine lv_iload_n hx hb dX9_takeSecond_29 rfl (lv_at hl 1 rfl) ?_
      obtain ⟨hn133, h⟩ := ix_i h
      refine r_iald hC hw hi131 hn133 dX9_takeSecond_30 ?_
      refine lv_bipush (v := 7) hx hb dX9_takeSecond_31 (by decide) ?_
      refine lv_iand hx hb dX9_takeSecond_33 ?_
      refine lv_bipush (v := 6) hx hb dX9_takeSecond_34 (by decide) ?_
      refine lv_icmp_eq (tgt := 52) hx hb dX9_takeSecond_36 (by decide) (fun c134 => ?_) (fun c134 => ?_)
      · have h := i_yes c134 h
        exact w_X9_takeSecond_52 hC hR o0 a0 x1 _ _ _ _ hi0 hw (lv_sub hl [0, 1] rfl) h
      · have h := i_no c134 h
        refine lv_aload_n hx hb dX9_takeSecond_39 rfl (lv_at hl 0 rfl) ?_
        obtain ⟨o135, ho138, h⟩ := rq_i h
        refine r_getR hC hw kc_8 hi0 1 rfl lk_1070 dX9_takeSecond_40 rfl ho138 (fun a136 hi137 => ?_)
        refine lv_iload_n hx hb dX9_takeSecond_43 rfl (lv_at hl 1 rfl) ?_
        obtain ⟨hn139, h⟩ := ix_i h
        refine r_iald hC hw hi137 hn139 dX9_takeSecond_44 ?_
        refine lv_iconst (v := 4) hx hb dX9_takeSecond_45 (by decide) ?_
        refine lv_ishr hx hb dX9_takeSecond_46 ?_
        refine lv_bipush (v := 13) hx hb dX9_takeSecond_47 (by decide) ?_
        refine lv_icmp_eq (tgt := 56) hx hb dX9_takeSecond_49 (by decide) (fun c140 => ?_) (fun c140 => ?_)
        · have h := i_yes c140 h
          exact w_X9_takeSecond_56 hC hR o0 a0 x1 _ _ _ _ hi0 hw (lv_sub hl [0, 1] rfl) h
        · have h := i_no c140 h
          exact w_X9_takeSecond_52 hC hR o0 a0 x1 _ _ _ _ hi0 hw (lv_sub hl [0, 1] rfl) h
set_option maxHeartbeats 4000000 in
set_option maxRecDepth 100000 in
theorem k_X9_takeSecond {l : Launch} {G : va_G} {cA : Nat → ClassId} {S : sh} {D D' : dt} {ad : Nat → Nat} (sz : Nat) {o0 a0 : Nat} {x1 : Int32} {r : Unit} (hi0 : Is S ad o0 a0 8) (h : f_X9_takeSecond S o0 x1 D = some (r, D')) : Co l yX9_takeSecond (Cond.code yX9_takeSecond cX9_takeSecond 3 none :: tb0) 0 0 [.ref a0, .int x1] G cA S D ad sz none True D' := by
  refine Met.ofW (cc := cX9_takeSecond) (maxL := 3) (ret := none) (by decide) rfl ?_
  intro p e s m args below meth c s₁ B hml hv
  obtain ⟨rfl, hsz, hP, hK, hD0, hT, hX⟩ := hv
  subst hsz
  have hts := atoms_spec (ws := Cond.code yX9_takeSecond cX9_takeSecond 3 none :: tb0) B.pre
  have hC : Cx RX9 cX9_takeSecond 3 none p s m _ meth c := ⟨B.exec, B.bytes, hml, findClass_of_methodNamed B.named, fun w q => hts w (List.mem_cons_of_mem _ q), B.returns, B.notSynchronized⟩
  have hw := Wd.entry hP hK hD0 hT hX
  have hl := lv_entry ([.ref a0, .int x1]) (n := 3) (Nat.le_of_ble_eq_true rfl)
  rw [lg_entry_eq]
  exact w_X9_takeSecond_0 hC ⟨Nat.le_refl _, Nat.le_refl _⟩ o0 a0 x1 D _ _ _ hi0 hw hl h
set_option maxHeartbeats 4000000 in
set_option maxRecDepth 100000 in
theorem w_X9_mask_2 {r : Int64} (hC : Cx RX9 cX9_mask 4 (some .long) p s m args meth c) (hR : 1 ≤ R.frames ∧ 23 ≤ R.locals) : ∀ (n : Nat), ∀ (x0 : Int64) (x2 : Int64) (H : Heap) (locs : List Loc) (ls : Array Slot), Wd G cA S D ad A s H locs → lv_has ls 4 [(0, .long x0), (2, .long x2)] → f_X9_mask_2 n x0 x2 = some r → W p l e R s m args below meth c H locs 0 0 (MQ below (Qn (some (.long r)) True (wpost G cA S D ad A) A) args s 0 0 A) (F0 m 2 ls []) := by
  obtain ⟨hx, hb, -⟩ := id hC
  intro n
  induction n with
  | zero =>
    intro x0 x2 H locs ls hw hl h
    rw [f_X9_mask_2.eq_1] at h
    cases h
  | succ n ih =>
    intro x0 x2 H locs ls hw hl h
    rw [f_X9_mask_2.eq_2] at h
    refine lv_lload_n hx hb dX9_mask_2 rfl (lv_at hl 1 rfl) ?_
    refine lv_lload_n hx hb dX9_mask_3 rfl (lv_at hl 0 rfl) ?_
    obtain ⟨r7, hq6, h⟩ := pq_i h
    refine r_cS (st' := [.int r7]) [.long x2, .long x0] [] hC hw (k_X9_isBelow _ hq6) mk_X9_isBelow lk_1355 ⟨Nat.le_trans (by decide) hR.1, Nat.le_trans (by decide) hR.2⟩ ⟨Nat.zero_le _, Nat.zero_le _⟩ rfl hl.1 rfl rfl (Nat.le_of_ble_eq_true rfl) dX9_mask_4 (fun hP H locs hw => ?_)
    refine lv_if_eq (tgt := 19) hx hb dX9_mask_7 (by decide) (fun c8 => ?_) (fun c8 => ?_)
    · have h := i_yes c8 h
      refine lv_lload_n hx hb dX9_mask_19 rfl (lv_at hl 1 rfl) ?_
      cases h
      exact r_lret hC hw dX9_mask_20
    · have h := i_no c8 h
      refine lv_lload_n hx hb dX9_mask_10 rfl (lv_at hl 1 rfl) ?_
      refine lv_iconst (v := 1) hx hb dX9_mask_11 (by decide) ?_
      refine lv_lshl (v := j_lshl x2 (1 : Int32)) hx hb dX9_mask_12 rfl ?_
      refine lv_lconst (v := 1) hx hb dX9_mask_13 (by decide) ?_
      refine lv_lor hx hb dX9_mask_14 ?_
      refine lv_topl (fun y9 ey9 => ?_)
      have h := nm_i h y9 ey9
      refine lv_lstore_n (lv' := [(2, .long y9), (0, .long x0)]) hx hb dX9_mask_15 rfl hl (by decide) rfl (fun ls hl => ?_)
      refine lv_goto (tgt := 2) hx hb dX9_mask_16 (by decide) ?_
      exact ih x0 y9 _ _ _ hw (lv_sub hl [1, 0] rfl) h
set_option maxHeartbeats 4000000 in
set_option maxRecDepth 100000 in
theorem w_X9_mask_0 {r : Int64} (hC : Cx RX9 cX9_mask 4 (some .long) p s m args meth c) (hR : 1 ≤ R.frames ∧ 23 ≤ R.locals) : ∀ (x0 : Int64) (H : Heap) (locs : List Loc) (ls : Array Slot), Wd G cA S D ad A s H locs → lv_has ls 4 [(0, .long x0)] → f_X9_mask x0 = some r → W p l e R s m args below meth c H locs 0 0 (MQ below (Qn (some (.long r)) True (wpost G cA S D ad A) A) args s 0 0 A) (F0 m 0 ls []) := by
  obtain ⟨hx, hb, -⟩ := id hC
  intro x0 H locs ls hw hl h
  unfold f_X9_mask at h
  refine lv_lconst (v := 0) hx hb dX9_mask_0 (by decide) ?_
  refine lv_topl (fun y10 ey10 => ?_)
  have h := nm_i h y10 ey10
  refine lv_lstore_n (lv' := [(2, .long y10), (0, .long x0)]) hx hb dX9_mask_1 rfl hl (by decide) rfl (fun ls hl => ?_)
  exact w_X9_mask_2 hC hR LF x0 y10 _ _ _ hw (lv_sub hl [1, 0] rfl) h
set_option maxHeartbeats 4000000 in
set_option maxRecDepth 100000 in
theorem k_X9_mask {l : Launch} {G : va_G} {cA : Nat → ClassId} {S : sh} {D : dt} {ad : Nat → Nat} (sz : Nat) {x0 : Int64} {r : Int64}  (h : f_X9_mask x0 = some r) : Co l yX9_mask (Cond.code yX9_mask cX9_mask 4 (some .long) :: tb0) 1 23 [.long x0] G cA S D ad sz (some (.long r)) True D := by
  refine Met.ofW (cc := cX9_mask) (maxL := 4) (ret := (some .long)) (by decide) rfl ?_
  intro p e s m args below meth c s₁ B hml hv
  obtain ⟨rfl, hsz, hP, hK, hD0, hT, hX⟩ := hv
  subst hsz
  have hts := atoms_spec (ws := Cond.code yX9_mask cX9_mask 4 (some .long) :: tb0) B.pre
  have hC : Cx RX9 cX9_mask 4 (some .long) p s m _ meth c := ⟨B.exec, B.bytes, hml, findClass_of_methodNamed B.named, fun w q => hts w (List.mem_cons_of_mem _ q), B.returns, B.notSynchronized⟩
  have hw := Wd.entry hP hK hD0 hT hX
  have hl := lv_entry ([.long x0]) (n := 4) (Nat.le_of_ble_eq_true rfl)
  rw [lg_entry_eq]
  exact w_X9_mask_0 hC ⟨Nat.le_refl _, Nat.le_refl _⟩ x0 _ _ _ hw hl h
end
