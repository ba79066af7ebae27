theorem dX0_makeNumber_0 : decode cX0_makeNumber 0 = .ok (.aload_n 0, 1) := by decide +kernel
theorem dX0_makeNumber_1 : decode cX0_makeNumber 1 = .ok (.getfield 40, 3) := by decide +kernel
theorem dX0_makeNumber_4 : decode cX0_makeNumber 4 = .ok (.iload_n 1, 1) := by decide +kernel
theorem dX0_makeNumber_5 : decode cX0_makeNumber 5 = .ok (.invokevirtual 119, 3) := by decide +kernel
theorem dX0_makeNumber_8 : decode cX0_makeNumber 8 = .ok (.istore_n 3, 1) := by decide +kernel
theorem dX0_makeNumber_9 : decode cX0_makeNumber 9 = .ok (.aload_n 0, 1) := by decide +kernel
theorem dX0_makeNumber_10 : decode cX0_makeNumber 10 = .ok (.getfield 40, 3) := by decide +kernel
theorem dX0_makeNumber_13 : decode cX0_makeNumber 13 = .ok (.getfield 158, 3) := by decide +kernel
theorem dX0_makeNumber_16 : decode cX0_makeNumber 16 = .ok (.iload_n 1, 1) := by decide +kernel
theorem dX0_makeNumber_17 : decode cX0_makeNumber 17 = .ok (.iaload, 1) := by decide +kernel
theorem dX0_makeNumber_18 : decode cX0_makeNumber 18 = .ok (.istore 4, 2) := by decide +kernel
theorem dX0_makeNumber_20 : decode cX0_makeNumber 20 = .ok (.aload_n 0, 1) := by decide +kernel
theorem dX0_makeNumber_21 : decode cX0_makeNumber 21 = .ok (.getfield 40, 3) := by decide +kernel
theorem dX0_makeNumber_24 : decode cX0_makeNumber 24 = .ok (.getfield 146, 3) := by decide +kernel
theorem dX0_makeNumber_27 : decode cX0_makeNumber 27 = .ok (.iload_n 1, 1) := by decide +kernel
theorem dX0_makeNumber_28 : decode cX0_makeNumber 28 = .ok (.iaload, 1) := by decide +kernel
theorem dX0_makeNumber_29 : decode cX0_makeNumber 29 = .ok (.istore 5, 2) := by decide +kernel
theorem dX0_makeNumber_31 : decode cX0_makeNumber 31 = .ok (.aload_n 0, 1) := by decide +kernel
theorem dX0_makeNumber_32 : decode cX0_makeNumber 32 = .ok (.getfield 40, 3) := by decide +kernel
theorem dX0_makeNumber_35 : decode cX0_makeNumber 35 = .ok (.getfield 122, 3) := by decide +kernel
theorem dX0_makeNumber_38 : decode cX0_makeNumber 38 = .ok (.iload_n 1, 1) := by decide +kernel
theorem dX0_makeNumber_39 : decode cX0_makeNumber 39 = .ok (.iaload, 1) := by decide +kernel
theorem dX0_makeNumber_40 : decode cX0_makeNumber 40 = .ok (.i2l, 1) := by decide +kernel
theorem dX0_makeNumber_41 : decode cX0_makeNumber 41 = .ok (.lstore 6, 2) := by decide +kernel
theorem dX0_makeNumber_43 : decode cX0_makeNumber 43 = .ok (.iload_n 3, 1) := by decide +kernel
theorem dX0_makeNumber_44 : decode cX0_makeNumber 44 = .ok (.bipush 11, 2) := by decide +kernel
theorem dX0_makeNumber_46 : decode cX0_makeNumber 46 = .ok (.if_icmp .ne 7, 3) := by decide +kernel
theorem dX0_makeNumber_49 : decode cX0_makeNumber 49 = .ok (.iconst 1, 1) := by decide +kernel
theorem dX0_makeNumber_50 : decode cX0_makeNumber 50 = .ok (.goto 4, 3) := by decide +kernel
theorem dX0_makeNumber_53 : decode cX0_makeNumber 53 = .ok (.iconst 0, 1) := by decide +kernel
theorem dX0_makeNumber_54 : decode cX0_makeNumber 54 = .ok (.istore 8, 2) := by decide +kernel
theorem dX0_makeNumber_56 : decode cX0_makeNumber 56 = .ok (.aload_n 0, 1) := by decide +kernel
theorem dX0_makeNumber_57 : decode cX0_makeNumber 57 = .ok (.getfield 32, 3) := by decide +kernel
theorem dX0_makeNumber_60 : decode cX0_makeNumber 60 = .ok (.iload 8, 2) := by decide +kernel
theorem dX0_makeNumber_62 : decode cX0_makeNumber 62 = .ok (.ifCond .eq 7, 3) := by decide +kernel
theorem dX0_makeNumber_65 : decode cX0_makeNumber 65 = .ok (.lconst 0, 1) := by decide +kernel
theorem dX0_makeNumber_66 : decode cX0_makeNumber 66 = .ok (.goto 13, 3) := by decide +kernel
theorem dX0_makeNumber_69 : decode cX0_makeNumber 69 = .ok (.aload_n 0, 1) := by decide +kernel
theorem dX0_makeNumber_70 : decode cX0_makeNumber 70 = .ok (.getfield 22, 3) := by decide +kernel
theorem dX0_makeNumber_73 : decode cX0_makeNumber 73 = .ok (.getfield 174, 3) := by decide +kernel
theorem dX0_makeNumber_76 : decode cX0_makeNumber 76 = .ok (.iload 4, 2) := by decide +kernel
theorem dX0_makeNumber_78 : decode cX0_makeNumber 78 = .ok (.laload, 1) := by decide +kernel
theorem dX0_makeNumber_79 : decode cX0_makeNumber 79 = .ok (.iload 8, 2) := by decide +kernel
theorem dX0_makeNumber_81 : decode cX0_makeNumber 81 = .ok (.ifCond .eq 7, 3) := by decide +kernel
theorem dX0_makeNumber_84 : decode cX0_makeNumber 84 = .ok (.lconst 0, 1) := by decide +kernel
theorem dX0_makeNumber_85 : decode cX0_makeNumber 85 = .ok (.goto 13, 3) := by decide +kernel
theorem dX0_makeNumber_88 : decode cX0_makeNumber 88 = .ok (.aload_n 0, 1) := by decide +kernel
theorem dX0_makeNumber_89 : decode cX0_makeNumber 89 = .ok (.getfield 22, 3) := by decide +kernel
theorem dX0_makeNumber_92 : decode cX0_makeNumber 92 = .ok (.getfield 178, 3) := by decide +kernel
theorem dX0_makeNumber_95 : decode cX0_makeNumber 95 = .ok (.iload 4, 2) := by decide +kernel
theorem dX0_makeNumber_97 : decode cX0_makeNumber 97 = .ok (.laload, 1) := by decide +kernel
theorem dX0_makeNumber_98 : decode cX0_makeNumber 98 = .ok (.invokevirtual 262, 3) := by decide +kernel
theorem dX0_makeNumber_101 : decode cX0_makeNumber 101 = .ok (.aload_n 0, 1) := by decide +kernel
theorem dX0_makeNumber_102 : decode cX0_makeNumber 102 = .ok (.getfield 32, 3) := by decide +kernel
theorem dX0_makeNumber_105 : decode cX0_makeNumber 105 = .ok (.iload_n 2, 1) := by decide +kernel
theorem dX0_makeNumber_106 : decode cX0_makeNumber 106 = .ok (.ifCond .eq 16, 3) := by decide +kernel
theorem dX0_makeNumber_109 : decode cX0_makeNumber 109 = .ok (.aload_n 0, 1) := by decide +kernel
theorem dX0_makeNumber_110 : decode cX0_makeNumber 110 = .ok (.getfield 22, 3) := by decide +kernel
theorem dX0_makeNumber_113 : decode cX0_makeNumber 113 = .ok (.getfield 174, 3) := by decide +kernel
theorem dX0_makeNumber_116 : decode cX0_makeNumber 116 = .ok (.iload 5, 2) := by decide +kernel
theorem dX0_makeNumber_118 : decode cX0_makeNumber 118 = .ok (.laload, 1) := by decide +kernel
theorem dX0_makeNumber_119 : decode cX0_makeNumber 119 = .ok (.goto 5, 3) := by decide +kernel
theorem dX0_makeNumber_122 : decode cX0_makeNumber 122 = .ok (.lload 6, 2) := by decide +kernel
theorem dX0_makeNumber_124 : decode cX0_makeNumber 124 = .ok (.iload_n 2, 1) := by decide +kernel
theorem dX0_makeNumber_125 : decode cX0_makeNumber 125 = .ok (.ifCond .eq 16, 3) := by decide +kernel
theorem dX0_makeNumber_128 : decode cX0_makeNumber 128 = .ok (.aload_n 0, 1) := by decide +kernel
theorem dX0_makeNumber_129 : decode cX0_makeNumber 129 = .ok (.getfield 22, 3) := by decide +kernel
theorem dX0_makeNumber_132 : decode cX0_makeNumber 132 = .ok (.getfield 178, 3) := by decide +kernel
theorem dX0_makeNumber_135 : decode cX0_makeNumber 135 = .ok (.iload 5, 2) := by decide +kernel
theorem dX0_makeNumber_137 : decode cX0_makeNumber 137 = .ok (.laload, 1) := by decide +kernel
theorem dX0_makeNumber_138 : decode cX0_makeNumber 138 = .ok (.goto 5, 3) := by decide +kernel
theorem dX0_makeNumber_141 : decode cX0_makeNumber 141 = .ok (.lload 6, 2) := by decide +kernel
theorem dX0_makeNumber_143 : decode cX0_makeNumber 143 = .ok (.invokevirtual 266, 3) := by decide +kernel
theorem dX0_makeNumber_146 : decode cX0_makeNumber 146 = .ok (.iload_n 3, 1) := by decide +kernel
theorem dX0_makeNumber_147 : decode cX0_makeNumber 147 = .ok (.bipush 13, 2) := by decide +kernel
theorem dX0_makeNumber_149 : decode cX0_makeNumber 149 = .ok (.if_icmp .ne 49, 3) := by decide +kernel
theorem dX0_makeNumber_152 : decode cX0_makeNumber 152 = .ok (.aload_n 0, 1) := by decide +kernel
theorem dX0_makeNumber_153 : decode cX0_makeNumber 153 = .ok (.getfield 32, 3) := by decide +kernel
theorem dX0_makeNumber_156 : decode cX0_makeNumber 156 = .ok (.aload_n 0, 1) := by decide +kernel
theorem dX0_makeNumber_157 : decode cX0_makeNumber 157 = .ok (.getfield 40, 3) := by decide +kernel
theorem dX0_makeNumber_160 : decode cX0_makeNumber 160 = .ok (.getfield 122, 3) := by decide +kernel
theorem dX0_makeNumber_163 : decode cX0_makeNumber 163 = .ok (.iload_n 1, 1) := by decide +kernel
theorem dX0_makeNumber_164 : decode cX0_makeNumber 164 = .ok (.iaload, 1) := by decide +kernel
theorem dX0_makeNumber_165 : decode cX0_makeNumber 165 = .ok (.aload_n 0, 1) := by decide +kernel
theorem dX0_makeNumber_166 : decode cX0_makeNumber 166 = .ok (.getfield 40, 3) := by decide +kernel
theorem dX0_makeNumber_169 : decode cX0_makeNumber 169 = .ok (.iload_n 1, 1) := by decide +kernel
theorem dX0_makeNumber_170 : decode cX0_makeNumber 170 = .ok (.invokevirtual 251, 3) := by decide +kernel
theorem dX0_makeNumber_173 : decode cX0_makeNumber 173 = .ok (.ifCond .ne 14, 3) := by decide +kernel
theorem dX0_makeNumber_176 : decode cX0_makeNumber 176 = .ok (.aload_n 0, 1) := by decide +kernel
theorem dX0_makeNumber_177 : decode cX0_makeNumber 177 = .ok (.getfield 40, 3) := by decide +kernel
theorem dX0_makeNumber_180 : decode cX0_makeNumber 180 = .ok (.iload_n 1, 1) := by decide +kernel
theorem dX0_makeNumber_181 : decode cX0_makeNumber 181 = .ok (.invokevirtual 248, 3) := by decide +kernel
theorem dX0_makeNumber_184 : decode cX0_makeNumber 184 = .ok (.ifCond .eq 7, 3) := by decide +kernel
theorem dX0_makeNumber_187 : decode cX0_makeNumber 187 = .ok (.iconst 1, 1) := by decide +kernel
theorem dX0_makeNumber_188 : decode cX0_makeNumber 188 = .ok (.goto 4, 3) := by decide +kernel
theorem dX0_makeNumber_191 : decode cX0_makeNumber 191 = .ok (.iconst 0, 1) := by decide +kernel
theorem dX0_makeNumber_192 : decode cX0_makeNumber 192 = .ok (.invokevirtual 269, 3) := by decide +kernel
theorem dX0_makeNumber_195 : decode cX0_makeNumber 195 = .ok (.goto 28, 3) := by decide +kernel
theorem dX0_makeNumber_198 : decode cX0_makeNumber 198 = .ok (.aload_n 0, 1) := by decide +kernel
theorem dX0_makeNumber_199 : decode cX0_makeNumber 199 = .ok (.getfield 32, 3) := by decide +kernel
theorem dX0_makeNumber_202 : decode cX0_makeNumber 202 = .ok (.iload_n 3, 1) := by decide +kernel
theorem dX0_makeNumber_203 : decode cX0_makeNumber 203 = .ok (.aload_n 0, 1) := by decide +kernel
theorem dX0_makeNumber_204 : decode cX0_makeNumber 204 = .ok (.getfield 40, 3) := by decide +kernel
theorem dX0_makeNumber_207 : decode cX0_makeNumber 207 = .ok (.iload_n 1, 1) := by decide +kernel
theorem dX0_makeNumber_208 : decode cX0_makeNumber 208 = .ok (.invokevirtual 251, 3) := by decide +kernel
theorem dX0_makeNumber_211 : decode cX0_makeNumber 211 = .ok (.aload_n 0, 1) := by decide +kernel
theorem dX0_makeNumber_212 : decode cX0_makeNumber 212 = .ok (.getfield 40, 3) := by decide +kernel
theorem dX0_makeNumber_215 : decode cX0_makeNumber 215 = .ok (.getfield 214, 3) := by decide +kernel
theorem dX0_makeNumber_218 : decode cX0_makeNumber 218 = .ok (.iload_n 1, 1) := by decide +kernel
theorem dX0_makeNumber_219 : decode cX0_makeNumber 219 = .ok (.iaload, 1) := by decide +kernel
theorem dX0_makeNumber_220 : decode cX0_makeNumber 220 = .ok (.invokevirtual 272, 3) := by decide +kernel
theorem dX0_makeNumber_223 : decode cX0_makeNumber 223 = .ok (.aload_n 0, 1) := by decide +kernel
theorem dX0_makeNumber_224 : decode cX0_makeNumber 224 = .ok (.getfield 22, 3) := by decide +kernel
theorem dX0_makeNumber_227 : decode cX0_makeNumber 227 = .ok (.iload 4, 2) := by decide +kernel
theorem dX0_makeNumber_229 : decode cX0_makeNumber 229 = .ok (.iconst 1, 1) := by decide +kernel
theorem dX0_makeNumber_230 : decode cX0_makeNumber 230 = .ok (.aload_n 0, 1) := by decide +kernel
theorem dX0_makeNumber_231 : decode cX0_makeNumber 231 = .ok (.getfield 32, 3) := by decide +kernel
theorem dX0_makeNumber_234 : decode cX0_makeNumber 234 = .ok (.getfield 276, 3) := by decide +kernel
theorem dX0_makeNumber_237 : decode cX0_makeNumber 237 = .ok (.aload_n 0, 1) := by decide +kernel
theorem dX0_makeNumber_238 : decode cX0_makeNumber 238 = .ok (.getfield 32, 3) := by decide +kernel
theorem dX0_makeNumber_241 : decode cX0_makeNumber 241 = .ok (.getfield 278, 3) := by decide +kernel
theorem dX0_makeNumber_244 : decode cX0_makeNumber 244 = .ok (.invokevirtual 165, 3) := by decide +kernel
theorem dX0_makeNumber_247 : decode cX0_makeNumber 247 = .ok (.return_, 1) := by decide +kernel
theorem dX0_isSmall_0 : decode cX0_isSmall 0 = .ok (.aload_n 0, 1) := by decide +kernel
theorem dX0_isSmall_1 : decode cX0_isSmall 1 = .ok (.getfield 22, 3) := by decide +kernel
theorem dX0_isSmall_4 : decode cX0_isSmall 4 = .ok (.iload_n 1, 1) := by decide +kernel
theorem dX0_isSmall_5 : decode cX0_isSmall 5 = .ok (.invokevirtual 239, 3) := by decide +kernel
theorem dX0_isSmall_8 : decode cX0_isSmall 8 = .ok (.ifCond .eq 25, 3) := by decide +kernel
theorem dX0_isSmall_11 : decode cX0_isSmall 11 = .ok (.ldc2_w 289, 3) := by decide +kernel
theorem dX0_isSmall_14 : decode cX0_isSmall 14 = .ok (.aload_n 0, 1) := by decide +kernel
theorem dX0_isSmall_15 : decode cX0_isSmall 15 = .ok (.getfield 22, 3) := by decide +kernel
theorem dX0_isSmall_18 : decode cX0_isSmall 18 = .ok (.getfield 178, 3) := by decide +kernel
theorem dX0_isSmall_21 : decode cX0_isSmall 21 = .ok (.iload_n 1, 1) := by decide +kernel
theorem dX0_isSmall_22 : decode cX0_isSmall 22 = .ok (.laload, 1) := by decide +kernel
theorem dX0_isSmall_23 : decode cX0_isSmall 23 = .ok (.invokestatic 298, 3) := by decide +kernel
theorem dX0_isSmall_26 : decode cX0_isSmall 26 = .ok (.ifCond .ne 7, 3) := by decide +kernel
theorem dX0_isSmall_29 : decode cX0_isSmall 29 = .ok (.iconst 1, 1) := by decide +kernel
theorem dX0_isSmall_30 : decode cX0_isSmall 30 = .ok (.goto 4, 3) := by decide +kernel
theorem dX0_isSmall_33 : decode cX0_isSmall 33 = .ok (.iconst 0, 1) := by decide +kernel
theorem dX0_isSmall_34 : decode cX0_isSmall 34 = .ok (.ireturn, 1) := by decide +kernel
theorem dX0_shiftPlace_0 : decode cX0_shiftPlace 0 = .ok (.aload_n 0, 1) := by decide +kernel
theorem dX0_shiftPlace_1 : decode cX0_shiftPlace 1 = .ok (.getfield 40, 3) := by decide +kernel
theorem dX0_shiftPlace_4 : decode cX0_shiftPlace 4 = .ok (.iload_n 1, 1) := by decide +kernel
theorem dX0_shiftPlace_5 : decode cX0_shiftPlace 5 = .ok (.invokevirtual 119, 3) := by decide +kernel
theorem dX0_shiftPlace_8 : decode cX0_shiftPlace 8 = .ok (.istore_n 3, 1) := by decide +kernel
theorem dX0_shiftPlace_9 : decode cX0_shiftPlace 9 = .ok (.aload_n 0, 1) := by decide +kernel
theorem dX0_shiftPlace_10 : decode cX0_shiftPlace 10 = .ok (.getfield 40, 3) := by decide +kernel
theorem dX0_shiftPlace_13 : decode cX0_shiftPlace 13 = .ok (.getfield 158, 3) := by decide +kernel
theorem dX0_shiftPlace_16 : decode cX0_shiftPlace 16 = .ok (.iload_n 1, 1) := by decide +kernel
theorem dX0_shiftPlace_17 : decode cX0_shiftPlace 17 = .ok (.iaload, 1) := by decide +kernel
theorem dX0_shiftPlace_18 : decode cX0_shiftPlace 18 = .ok (.istore 4, 2) := by decide +kernel
theorem dX0_shiftPlace_20 : decode cX0_shiftPlace 20 = .ok (.aload_n 0, 1) := by decide +kernel
theorem dX0_shiftPlace_21 : decode cX0_shiftPlace 21 = .ok (.getfield 40, 3) := by decide +kernel
theorem dX0_shiftPlace_24 : decode cX0_shiftPlace 24 = .ok (.getfield 146, 3) := by decide +kernel
theorem dX0_shiftPlace_27 : decode cX0_shiftPlace 27 = .ok (.iload_n 1, 1) := by decide +kernel
theorem dX0_shiftPlace_28 : decode cX0_shiftPlace 28 = .ok (.iaload, 1) := by decide +kernel
theorem dX0_shiftPlace_29 : decode cX0_shiftPlace 29 = .ok (.istore 5, 2) := by decide +kernel
theorem dX0_shiftPlace_31 : decode cX0_shiftPlace 31 = .ok (.aload_n 0, 1) := by decide +kernel
theorem dX0_shiftPlace_32 : decode cX0_shiftPlace 32 = .ok (.getfield 22, 3) := by decide +kernel
theorem dX0_shiftPlace_35 : decode cX0_shiftPlace 35 = .ok (.iload 4, 2) := by decide +kernel
theorem dX0_shiftPlace_37 : decode cX0_shiftPlace 37 = .ok (.invokevirtual 239, 3) := by decide +kernel
theorem dX0_shiftPlace_40 : decode cX0_shiftPlace 40 = .ok (.istore 6, 2) := by decide +kernel
theorem dX0_shiftPlace_42 : decode cX0_shiftPlace 42 = .ok (.iload 6, 2) := by decide +kernel
theorem dX0_shiftPlace_44 : decode cX0_shiftPlace 44 = .ok (.ifCond .eq 8, 3) := by decide +kernel
theorem dX0_shiftPlace_47 : decode cX0_shiftPlace 47 = .ok (.iload 5, 2) := by decide +kernel
theorem dX0_shiftPlace_49 : decode cX0_shiftPlace 49 = .ok (.goto 5, 3) := by decide +kernel
theorem dX0_shiftPlace_52 : decode cX0_shiftPlace 52 = .ok (.iload 4, 2) := by decide +kernel
theorem dX0_shiftPlace_54 : decode cX0_shiftPlace 54 = .ok (.istore 7, 2) := by decide +kernel
theorem dX0_shiftPlace_56 : decode cX0_shiftPlace 56 = .ok (.iload 6, 2) := by decide +kernel
theorem dX0_shiftPlace_58 : decode cX0_shiftPlace 58 = .ok (.ifCond .eq 8, 3) := by decide +kernel
theorem dX0_shiftPlace_61 : decode cX0_shiftPlace 61 = .ok (.iload 4, 2) := by decide +kernel
theorem dX0_shiftPlace_63 : decode cX0_shiftPlace 63 = .ok (.goto 5, 3) := by decide +kernel
theorem dX0_shiftPlace_66 : decode cX0_shiftPlace 66 = .ok (.iload 5, 2) := by decide +kernel
theorem dX0_shiftPlace_68 : decode cX0_shiftPlace 68 = .ok (.istore 8, 2) := by decide +kernel
theorem dX0_shiftPlace_70 : decode cX0_shiftPlace 70 = .ok (.aload_n 0, 1) := by decide +kernel
theorem dX0_shiftPlace_71 : decode cX0_shiftPlace 71 = .ok (.getfield 40, 3) := by decide +kernel
theorem dX0_shiftPlace_74 : decode cX0_shiftPlace 74 = .ok (.iload_n 1, 1) := by decide +kernel
theorem dX0_shiftPlace_75 : decode cX0_shiftPlace 75 = .ok (.invokevirtual 251, 3) := by decide +kernel
theorem dX0_shiftPlace_78 : decode cX0_shiftPlace 78 = .ok (.ifCond .eq 26, 3) := by decide +kernel
theorem dX0_shiftPlace_81 : decode cX0_shiftPlace 81 = .ok (.iload_n 3, 1) := by decide +kernel
theorem dX0_shiftPlace_82 : decode cX0_shiftPlace 82 = .ok (.ifCond .eq 13, 3) := by decide +kernel
theorem dX0_shiftPlace_85 : decode cX0_shiftPlace 85 = .ok (.iload_n 3, 1) := by decide +kernel
theorem dX0_shiftPlace_86 : decode cX0_shiftPlace 86 = .ok (.iconst 1, 1) := by decide +kernel
theorem dX0_shiftPlace_87 : decode cX0_shiftPlace 87 = .ok (.if_icmp .ne 17, 3) := by decide +kernel
theorem dX0_shiftPlace_90 : decode cX0_shiftPlace 90 = .ok (.iload 6, 2) := by decide +kernel
theorem dX0_shiftPlace_92 : decode cX0_shiftPlace 92 = .ok (.ifCond .ne 12, 3) := by decide +kernel
theorem dX0_shiftPlace_95 : decode cX0_shiftPlace 95 = .ok (.aload_n 0, 1) := by decide +kernel
theorem dX0_shiftPlace_96 : decode cX0_shiftPlace 96 = .ok (.iload 7, 2) := by decide +kernel
theorem dX0_shiftPlace_98 : decode cX0_shiftPlace 98 = .ok (.invokevirtual 220, 3) := by decide +kernel
theorem dX0_shiftPlace_101 : decode cX0_shiftPlace 101 = .ok (.ifCond .ne 5, 3) := by decide +kernel
theorem dX0_shiftPlace_104 : decode cX0_shiftPlace 104 = .ok (.iconst 0, 1) := by decide +kernel
theorem dX0_shiftPlace_105 : decode cX0_shiftPlace 105 = .ok (.ireturn, 1) := by decide +kernel
theorem dX0_shiftPlace_106 : decode cX0_shiftPlace 106 = .ok (.iload_n 2, 1) := by decide +kernel
theorem dX0_shiftPlace_107 : decode cX0_shiftPlace 107 = .ok (.ifCond .eq 15, 3) := by decide +kernel
theorem dX0_shiftPlace_110 : decode cX0_shiftPlace 110 = .ok (.aload_n 0, 1) := by decide +kernel
theorem dX0_shiftPlace_111 : decode cX0_shiftPlace 111 = .ok (.iload 8, 2) := by decide +kernel
theorem dX0_shiftPlace_113 : decode cX0_shiftPlace 113 = .ok (.invokevirtual 280, 3) := by decide +kernel
theorem dX0_shiftPlace_116 : decode cX0_shiftPlace 116 = .ok (.ifCond .ne 28, 3) := by decide +kernel
theorem dX0_shiftPlace_119 : decode cX0_shiftPlace 119 = .ok (.goto 23, 3) := by decide +kernel
theorem dX0_shiftPlace_122 : decode cX0_shiftPlace 122 = .ok (.aload_n 0, 1) := by decide +kernel
theorem dX0_shiftPlace_123 : decode cX0_shiftPlace 123 = .ok (.getfield 40, 3) := by decide +kernel
theorem dX0_shiftPlace_126 : decode cX0_shiftPlace 126 = .ok (.getfield 122, 3) := by decide +kernel
theorem dX0_shiftPlace_129 : decode cX0_shiftPlace 129 = .ok (.iload_n 1, 1) := by decide +kernel
theorem dX0_shiftPlace_130 : decode cX0_shiftPlace 130 = .ok (.iaload, 1) := by decide +kernel
theorem dX0_shiftPlace_131 : decode cX0_shiftPlace 131 = .ok (.i2l, 1) := by decide +kernel
theorem dX0_shiftPlace_132 : decode cX0_shiftPlace 132 = .ok (.invokestatic 283, 3) := by decide +kernel
theorem dX0_shiftPlace_135 : decode cX0_shiftPlace 135 = .ok (.ldc2_w 289, 3) := by decide +kernel
theorem dX0_shiftPlace_138 : decode cX0_shiftPlace 138 = .ok (.lcmp, 1) := by decide +kernel
theorem dX0_shiftPlace_139 : decode cX0_shiftPlace 139 = .ok (.ifCond .le 5, 3) := by decide +kernel
theorem dX0_shiftPlace_142 : decode cX0_shiftPlace 142 = .ok (.iconst 0, 1) := by decide +kernel
theorem dX0_shiftPlace_143 : decode cX0_shiftPlace 143 = .ok (.ireturn, 1) := by decide +kernel
theorem dX0_shiftPlace_144 : decode cX0_shiftPlace 144 = .ok (.iload_n 2, 1) := by decide +kernel
theorem dX0_shiftPlace_145 : decode cX0_shiftPlace 145 = .ok (.ifCond .eq 16, 3) := by decide +kernel
theorem dX0_shiftPlace_148 : decode cX0_shiftPlace 148 = .ok (.aload_n 0, 1) := by decide +kernel
theorem dX0_shiftPlace_149 : decode cX0_shiftPlace 149 = .ok (.getfield 22, 3) := by decide +kernel
theorem dX0_shiftPlace_152 : decode cX0_shiftPlace 152 = .ok (.getfield 174, 3) := by decide +kernel
theorem dX0_shiftPlace_155 : decode cX0_shiftPlace 155 = .ok (.iload 8, 2) := by decide +kernel
theorem dX0_shiftPlace_157 : decode cX0_shiftPlace 157 = .ok (.laload, 1) := by decide +kernel
theorem dX0_shiftPlace_158 : decode cX0_shiftPlace 158 = .ok (.goto 13, 3) := by decide +kernel
theorem dX0_shiftPlace_161 : decode cX0_shiftPlace 161 = .ok (.aload_n 0, 1) := by decide +kernel
theorem dX0_shiftPlace_162 : decode cX0_shiftPlace 162 = .ok (.getfield 40, 3) := by decide +kernel
theorem dX0_shiftPlace_165 : decode cX0_shiftPlace 165 = .ok (.getfield 122, 3) := by decide +kernel
theorem dX0_shiftPlace_168 : decode cX0_shiftPlace 168 = .ok (.iload_n 1, 1) := by decide +kernel
theorem dX0_shiftPlace_169 : decode cX0_shiftPlace 169 = .ok (.iaload, 1) := by decide +kernel
theorem dX0_shiftPlace_170 : decode cX0_shiftPlace 170 = .ok (.i2l, 1) := by decide +kernel
theorem dX0_shiftPlace_171 : decode cX0_shiftPlace 171 = .ok (.lstore 9, 2) := by decide +kernel
theorem dX0_shiftPlace_173 : decode cX0_shiftPlace 173 = .ok (.iload_n 2, 1) := by decide +kernel
theorem dX0_shiftPlace_174 : decode cX0_shiftPlace 174 = .ok (.ifCond .eq 16, 3) := by decide +kernel
theorem dX0_shiftPlace_177 : decode cX0_shiftPlace 177 = .ok (.aload_n 0, 1) := by decide +kernel
theorem dX0_shiftPlace_178 : decode cX0_shiftPlace 178 = .ok (.getfield 22, 3) := by decide +kernel
theorem dX0_shiftPlace_181 : decode cX0_shiftPlace 181 = .ok (.getfield 178, 3) := by decide +kernel
theorem dX0_shiftPlace_184 : decode cX0_shiftPlace 184 = .ok (.iload 8, 2) := by decide +kernel
theorem dX0_shiftPlace_186 : decode cX0_shiftPlace 186 = .ok (.laload, 1) := by decide +kernel
theorem dX0_shiftPlace_187 : decode cX0_shiftPlace 187 = .ok (.goto 13, 3) := by decide +kernel
theorem dX0_shiftPlace_190 : decode cX0_shiftPlace 190 = .ok (.aload_n 0, 1) := by decide +kernel
theorem dX0_shiftPlace_191 : decode cX0_shiftPlace 191 = .ok (.getfield 40, 3) := by decide +kernel
theorem dX0_shiftPlace_194 : decode cX0_shiftPlace 194 = .ok (.getfield 122, 3) := by decide +kernel
theorem dX0_shiftPlace_197 : decode cX0_shiftPlace 197 = .ok (.iload_n 1, 1) := by decide +kernel
theorem dX0_shiftPlace_198 : decode cX0_shiftPlace 198 = .ok (.iaload, 1) := by decide +kernel
theorem dX0_shiftPlace_199 : decode cX0_shiftPlace 199 = .ok (.i2l, 1) := by decide +kernel
theorem dX0_shiftPlace_200 : decode cX0_shiftPlace 200 = .ok (.lstore 11, 2) := by decide +kernel
theorem dX0_shiftPlace_202 : decode cX0_shiftPlace 202 = .ok (.aload_n 0, 1) := by decide +kernel
theorem dX0_shiftPlace_203 : decode cX0_shiftPlace 203 = .ok (.getfield 22, 3) := by decide +kernel
theorem dX0_shiftPlace_206 : decode cX0_shiftPlace 206 = .ok (.iload 7, 2) := by decide +kernel
theorem dX0_shiftPlace_208 : decode cX0_shiftPlace 208 = .ok (.invokevirtual 171, 3) := by decide +kernel
theorem dX0_shiftPlace_211 : decode cX0_shiftPlace 211 = .ok (.iconst 3, 1) := by decide +kernel
theorem dX0_shiftPlace_212 : decode cX0_shiftPlace 212 = .ok (.if_icmp .ne 13, 3) := by decide +kernel
theorem dX0_shiftPlace_215 : decode cX0_shiftPlace 215 = .ok (.lload 9, 2) := by decide +kernel
theorem dX0_shiftPlace_217 : decode cX0_shiftPlace 217 = .ok (.lload 11, 2) := by decide +kernel
theorem dX0_shiftPlace_219 : decode cX0_shiftPlace 219 = .ok (.lcmp, 1) := by decide +kernel
theorem dX0_shiftPlace_220 : decode cX0_shiftPlace 220 = .ok (.ifCond .eq 5, 3) := by decide +kernel
theorem dX0_shiftPlace_223 : decode cX0_shiftPlace 223 = .ok (.iconst 0, 1) := by decide +kernel
theorem dX0_shiftPlace_224 : decode cX0_shiftPlace 224 = .ok (.ireturn, 1) := by decide +kernel
theorem dX0_shiftPlace_225 : decode cX0_shiftPlace 225 = .ok (.aload_n 0, 1) := by decide +kernel
theorem dX0_shiftPlace_226 : decode cX0_shiftPlace 226 = .ok (.getfield 22, 3) := by decide +kernel
theorem dX0_shiftPlace_229 : decode cX0_shiftPlace 229 = .ok (.getfield 174, 3) := by decide +kernel
theorem dX0_shiftPlace_232 : decode cX0_shiftPlace 232 = .ok (.iload 7, 2) := by decide +kernel
theorem dX0_shiftPlace_234 : decode cX0_shiftPlace 234 = .ok (.laload, 1) := by decide +kernel
theorem dX0_shiftPlace_235 : decode cX0_shiftPlace 235 = .ok (.iload_n 3, 1) := by decide +kernel
theorem dX0_shiftPlace_236 : decode cX0_shiftPlace 236 = .ok (.ifCond .ne 8, 3) := by decide +kernel
theorem dX0_shiftPlace_239 : decode cX0_shiftPlace 239 = .ok (.lload 9, 2) := by decide +kernel
theorem dX0_shiftPlace_241 : decode cX0_shiftPlace 241 = .ok (.goto 6, 3) := by decide +kernel
theorem dX0_shiftPlace_244 : decode cX0_shiftPlace 244 = .ok (.lload 11, 2) := by decide +kernel
theorem dX0_shiftPlace_246 : decode cX0_shiftPlace 246 = .ok (.lneg, 1) := by decide +kernel
theorem dX0_shiftPlace_247 : decode cX0_shiftPlace 247 = .ok (.ladd, 1) := by decide +kernel
theorem dX0_shiftPlace_248 : decode cX0_shiftPlace 248 = .ok (.lstore 13, 2) := by decide +kernel
theorem dX0_shiftPlace_250 : decode cX0_shiftPlace 250 = .ok (.aload_n 0, 1) := by decide +kernel
theorem dX0_shiftPlace_251 : decode cX0_shiftPlace 251 = .ok (.getfield 22, 3) := by decide +kernel
theorem dX0_shiftPlace_254 : decode cX0_shiftPlace 254 = .ok (.getfield 178, 3) := by decide +kernel
theorem dX0_shiftPlace_257 : decode cX0_shiftPlace 257 = .ok (.iload 7, 2) := by decide +kernel
theorem dX0_shiftPlace_259 : decode cX0_shiftPlace 259 = .ok (.laload, 1) := by decide +kernel
theorem dX0_shiftPlace_260 : decode cX0_shiftPlace 260 = .ok (.iload_n 3, 1) := by decide +kernel
theorem dX0_shiftPlace_261 : decode cX0_shiftPlace 261 = .ok (.ifCond .ne 8, 3) := by decide +kernel
theorem dX0_shiftPlace_264 : decode cX0_shiftPlace 264 = .ok (.lload 11, 2) := by decide +kernel
theorem dX0_shiftPlace_266 : decode cX0_shiftPlace 266 = .ok (.goto 6, 3) := by decide +kernel
theorem dX0_shiftPlace_269 : decode cX0_shiftPlace 269 = .ok (.lload 9, 2) := by decide +kernel
theorem dX0_shiftPlace_271 : decode cX0_shiftPlace 271 = .ok (.lneg, 1) := by decide +kernel
theorem dX0_shiftPlace_272 : decode cX0_shiftPlace 272 = .ok (.ladd, 1) := by decide +kernel
theorem dX0_shiftPlace_273 : decode cX0_shiftPlace 273 = .ok (.lstore 15, 2) := by decide +kernel
theorem dX0_shiftPlace_275 : decode cX0_shiftPlace 275 = .ok (.aload_n 0, 1) := by decide +kernel
theorem dX0_shiftPlace_276 : decode cX0_shiftPlace 276 = .ok (.getfield 22, 3) := by decide +kernel
theorem dX0_shiftPlace_279 : decode cX0_shiftPlace 279 = .ok (.iload 4, 2) := by decide +kernel
theorem dX0_shiftPlace_281 : decode cX0_shiftPlace 281 = .ok (.aload_n 0, 1) := by decide +kernel
theorem dX0_shiftPlace_282 : decode cX0_shiftPlace 282 = .ok (.getfield 22, 3) := by decide +kernel
theorem dX0_shiftPlace_285 : decode cX0_shiftPlace 285 = .ok (.getfield 291, 3) := by decide +kernel
theorem dX0_shiftPlace_288 : decode cX0_shiftPlace 288 = .ok (.iload 7, 2) := by decide +kernel
theorem dX0_shiftPlace_290 : decode cX0_shiftPlace 290 = .ok (.iaload, 1) := by decide +kernel
theorem dX0_shiftPlace_291 : decode cX0_shiftPlace 291 = .ok (.lload 13, 2) := by decide +kernel
theorem dX0_shiftPlace_293 : decode cX0_shiftPlace 293 = .ok (.lload 15, 2) := by decide +kernel
theorem dX0_shiftPlace_295 : decode cX0_shiftPlace 295 = .ok (.invokevirtual 165, 3) := by decide +kernel
theorem dX0_shiftPlace_298 : decode cX0_shiftPlace 298 = .ok (.lload 13, 2) := by decide +kernel
theorem dX0_shiftPlace_300 : decode cX0_shiftPlace 300 = .ok (.ldc2_w 294, 3) := by decide +kernel
theorem dX0_shiftPlace_303 : decode cX0_shiftPlace 303 = .ok (.lcmp, 1) := by decide +kernel
theorem dX0_shiftPlace_304 : decode cX0_shiftPlace 304 = .ok (.ifCond .lt 16, 3) := by decide +kernel
theorem dX0_shiftPlace_307 : decode cX0_shiftPlace 307 = .ok (.lload 15, 2) := by decide +kernel
theorem dX0_shiftPlace_309 : decode cX0_shiftPlace 309 = .ok (.ldc2_w 296, 3) := by decide +kernel
theorem dX0_shiftPlace_312 : decode cX0_shiftPlace 312 = .ok (.lcmp, 1) := by decide +kernel
theorem dX0_shiftPlace_313 : decode cX0_shiftPlace 313 = .ok (.ifCond .gt 7, 3) := by decide +kernel
theorem dX0_shiftPlace_316 : decode cX0_shiftPlace 316 = .ok (.iconst 1, 1) := by decide +kernel
theorem dX0_shiftPlace_317 : decode cX0_shiftPlace 317 = .ok (.goto 4, 3) := by decide +kernel
theorem dX0_shiftPlace_320 : decode cX0_shiftPlace 320 = .ok (.iconst 0, 1) := by decide +kernel
theorem dX0_shiftPlace_321 : decode cX0_shiftPlace 321 = .ok (.ireturn, 1) := by decide +kernel
theorem dX0_judgeArithmetic_0 : decode cX0_judgeArithmetic 0 = .ok (.aload_n 0, 1) := by decide +kernel
theorem dX0_judgeArithmetic_1 : decode cX0_judgeArithmetic 1 = .ok (.getfield 40, 3) := by decide +kernel
theorem dX0_judgeArithmetic_4 : decode cX0_judgeArithmetic 4 = .ok (.iload_n 1, 1) := by decide +kernel
theorem dX0_judgeArithmetic_5 : decode cX0_judgeArithmetic 5 = .ok (.invokevirtual 119, 3) := by decide +kernel
theorem dX0_judgeArithmetic_8 : decode cX0_judgeArithmetic 8 = .ok (.istore_n 2, 1) := by decide +kernel
theorem dX0_judgeArithmetic_9 : decode cX0_judgeArithmetic 9 = .ok (.aload_n 0, 1) := by decide +kernel
theorem dX0_judgeArithmetic_10 : decode cX0_judgeArithmetic 10 = .ok (.getfield 40, 3) := by decide +kernel
theorem dX0_judgeArithmetic_13 : decode cX0_judgeArithmetic 13 = .ok (.getfield 158, 3) := by decide +kernel
theorem dX0_judgeArithmetic_16 : decode cX0_judgeArithmetic 16 = .ok (.iload_n 1, 1) := by decide +kernel
theorem dX0_judgeArithmetic_17 : decode cX0_judgeArithmetic 17 = .ok (.iaload, 1) := by decide +kernel
theorem dX0_judgeArithmetic_18 : decode cX0_judgeArithmetic 18 = .ok (.istore_n 3, 1) := by decide +kernel
theorem dX0_judgeArithmetic_19 : decode cX0_judgeArithmetic 19 = .ok (.aload_n 0, 1) := by decide +kernel
theorem dX0_judgeArithmetic_20 : decode cX0_judgeArithmetic 20 = .ok (.getfield 40, 3) := by decide +kernel
theorem dX0_judgeArithmetic_23 : decode cX0_judgeArithmetic 23 = .ok (.getfield 146, 3) := by decide +kernel
theorem dX0_judgeArithmetic_26 : decode cX0_judgeArithmetic 26 = .ok (.iload_n 1, 1) := by decide +kernel
theorem dX0_judgeArithmetic_27 : decode cX0_judgeArithmetic 27 = .ok (.iaload, 1) := by decide +kernel
theorem dX0_judgeArithmetic_28 : decode cX0_judgeArithmetic 28 = .ok (.istore 4, 2) := by decide +kernel
theorem dX0_judgeArithmetic_30 : decode cX0_judgeArithmetic 30 = .ok (.iload_n 2, 1) := by decide +kernel
theorem dX0_judgeArithmetic_31 : decode cX0_judgeArithmetic 31 = .ok (.bipush 13, 2) := by decide +kernel
theorem dX0_judgeArithmetic_33 : decode cX0_judgeArithmetic 33 = .ok (.if_icmp .eq 18, 3) := by decide +kernel
theorem dX0_judgeArithmetic_36 : decode cX0_judgeArithmetic 36 = .ok (.aload_n 0, 1) := by decide +kernel
theorem dX0_judgeArithmetic_37 : decode cX0_judgeArithmetic 37 = .ok (.getfield 40, 3) := by decide +kernel
theorem dX0_judgeArithmetic_40 : decode cX0_judgeArithmetic 40 = .ok (.iload_n 1, 1) := by decide +kernel
theorem dX0_judgeArithmetic_41 : decode cX0_judgeArithmetic 41 = .ok (.invokevirtual 248, 3) := by decide +kernel
theorem dX0_judgeArithmetic_44 : decode cX0_judgeArithmetic 44 = .ok (.ifCond .eq 7, 3) := by decide +kernel
theorem dX0_judgeArithmetic_47 : decode cX0_judgeArithmetic 47 = .ok (.iconst 1, 1) := by decide +kernel
theorem dX0_judgeArithmetic_48 : decode cX0_judgeArithmetic 48 = .ok (.goto 4, 3) := by decide +kernel
theorem dX0_judgeArithmetic_51 : decode cX0_judgeArithmetic 51 = .ok (.iconst 0, 1) := by decide +kernel
theorem dX0_judgeArithmetic_52 : decode cX0_judgeArithmetic 52 = .ok (.istore 5, 2) := by decide +kernel
theorem dX0_judgeArithmetic_54 : decode cX0_judgeArithmetic 54 = .ok (.iload_n 2, 1) := by decide +kernel
theorem dX0_judgeArithmetic_55 : decode cX0_judgeArithmetic 55 = .ok (.bipush 11, 2) := by decide +kernel
theorem dX0_judgeArithmetic_57 : decode cX0_judgeArithmetic 57 = .ok (.if_icmp .ne 7, 3) := by decide +kernel
theorem dX0_judgeArithmetic_60 : decode cX0_judgeArithmetic 60 = .ok (.iconst 1, 1) := by decide +kernel
theorem dX0_judgeArithmetic_61 : decode cX0_judgeArithmetic 61 = .ok (.goto 4, 3) := by decide +kernel
theorem dX0_judgeArithmetic_64 : decode cX0_judgeArithmetic 64 = .ok (.iconst 0, 1) := by decide +kernel
theorem dX0_judgeArithmetic_65 : decode cX0_judgeArithmetic 65 = .ok (.istore 6, 2) := by decide +kernel
theorem dX0_judgeArithmetic_67 : decode cX0_judgeArithmetic 67 = .ok (.iload 6, 2) := by decide +kernel
theorem dX0_judgeArithmetic_69 : decode cX0_judgeArithmetic 69 = .ok (.ifCond .ne 14, 3) := by decide +kernel
theorem dX0_judgeArithmetic_72 : decode cX0_judgeArithmetic 72 = .ok (.aload_n 0, 1) := by decide +kernel
theorem dX0_judgeArithmetic_73 : decode cX0_judgeArithmetic 73 = .ok (.getfield 22, 3) := by decide +kernel
theorem dX0_judgeArithmetic_76 : decode cX0_judgeArithmetic 76 = .ok (.iload_n 3, 1) := by decide +kernel
theorem dX0_judgeArithmetic_77 : decode cX0_judgeArithmetic 77 = .ok (.invokevirtual 217, 3) := by decide +kernel
theorem dX0_judgeArithmetic_80 : decode cX0_judgeArithmetic 80 = .ok (.ifCond .ne 20, 3) := by decide +kernel
theorem dX0_judgeArithmetic_83 : decode cX0_judgeArithmetic 83 = .ok (.iload 5, 2) := by decide +kernel
theorem dX0_judgeArithmetic_85 : decode cX0_judgeArithmetic 85 = .ok (.ifCond .eq 17, 3) := by decide +kernel
theorem dX0_judgeArithmetic_88 : decode cX0_judgeArithmetic 88 = .ok (.aload_n 0, 1) := by decide +kernel
theorem dX0_judgeArithmetic_89 : decode cX0_judgeArithmetic 89 = .ok (.getfield 22, 3) := by decide +kernel
theorem dX0_judgeArithmetic_92 : decode cX0_judgeArithmetic 92 = .ok (.iload 4, 2) := by decide +kernel
theorem dX0_judgeArithmetic_94 : decode cX0_judgeArithmetic 94 = .ok (.invokevirtual 217, 3) := by decide +kernel
theorem dX0_judgeArithmetic_97 : decode cX0_judgeArithmetic 97 = .ok (.ifCond .eq 5, 3) := by decide +kernel
theorem dX0_judgeArithmetic_100 : decode cX0_judgeArithmetic 100 = .ok (.iconst 2, 1) := by decide +kernel
theorem dX0_judgeArithmetic_101 : decode cX0_judgeArithmetic 101 = .ok (.ireturn, 1) := by decide +kernel
theorem dX0_judgeArithmetic_102 : decode cX0_judgeArithmetic 102 = .ok (.iload 6, 2) := by decide +kernel
theorem dX0_judgeArithmetic_104 : decode cX0_judgeArithmetic 104 = .ok (.ifCond .eq 44, 3) := by decide +kernel
theorem dX0_judgeArithmetic_107 : decode cX0_judgeArithmetic 107 = .ok (.iload 5, 2) := by decide +kernel
theorem dX0_judgeArithmetic_109 : decode cX0_judgeArithmetic 109 = .ok (.ifCond .eq 39, 3) := by decide +kernel
theorem dX0_judgeArithmetic_112 : decode cX0_judgeArithmetic 112 = .ok (.aload_n 0, 1) := by decide +kernel
theorem dX0_judgeArithmetic_113 : decode cX0_judgeArithmetic 113 = .ok (.getfield 40, 3) := by decide +kernel
theorem dX0_judgeArithmetic_116 : decode cX0_judgeArithmetic 116 = .ok (.iload_n 1, 1) := by decide +kernel
theorem dX0_judgeArithmetic_117 : decode cX0_judgeArithmetic 117 = .ok (.invokevirtual 251, 3) := by decide +kernel
theorem dX0_judgeArithmetic_120 : decode cX0_judgeArithmetic 120 = .ok (.ifCond .eq 28, 3) := by decide +kernel
theorem dX0_judgeArithmetic_123 : decode cX0_judgeArithmetic 123 = .ok (.aload_n 0, 1) := by decide +kernel
theorem dX0_judgeArithmetic_124 : decode cX0_judgeArithmetic 124 = .ok (.getfield 40, 3) := by decide +kernel
theorem dX0_judgeArithmetic_127 : decode cX0_judgeArithmetic 127 = .ok (.getfield 214, 3) := by decide +kernel
theorem dX0_judgeArithmetic_130 : decode cX0_judgeArithmetic 130 = .ok (.iload_n 1, 1) := by decide +kernel
theorem dX0_judgeArithmetic_131 : decode cX0_judgeArithmetic 131 = .ok (.iaload, 1) := by decide +kernel
theorem dX0_judgeArithmetic_132 : decode cX0_judgeArithmetic 132 = .ok (.ifCond .ne 16, 3) := by decide +kernel
theorem dX0_judgeArithmetic_135 : decode cX0_judgeArithmetic 135 = .ok (.aload_n 0, 1) := by decide +kernel
theorem dX0_judgeArithmetic_136 : decode cX0_judgeArithmetic 136 = .ok (.getfield 22, 3) := by decide +kernel
theorem dX0_judgeArithmetic_139 : decode cX0_judgeArithmetic 139 = .ok (.iload_n 3, 1) := by decide +kernel
theorem dX0_judgeArithmetic_140 : decode cX0_judgeArithmetic 140 = .ok (.iload 4, 2) := by decide +kernel
theorem dX0_judgeArithmetic_142 : decode cX0_judgeArithmetic 142 = .ok (.invokevirtual 227, 3) := by decide +kernel
theorem dX0_judgeArithmetic_145 : decode cX0_judgeArithmetic 145 = .ok (.goto 58, 3) := by decide +kernel
theorem dX0_judgeArithmetic_148 : decode cX0_judgeArithmetic 148 = .ok (.iload 6, 2) := by decide +kernel
theorem dX0_judgeArithmetic_150 : decode cX0_judgeArithmetic 150 = .ok (.ifCond .ne 14, 3) := by decide +kernel
theorem dX0_judgeArithmetic_153 : decode cX0_judgeArithmetic 153 = .ok (.aload_n 0, 1) := by decide +kernel
theorem dX0_judgeArithmetic_154 : decode cX0_judgeArithmetic 154 = .ok (.getfield 22, 3) := by decide +kernel
theorem dX0_judgeArithmetic_157 : decode cX0_judgeArithmetic 157 = .ok (.iload_n 3, 1) := by decide +kernel
theorem dX0_judgeArithmetic_158 : decode cX0_judgeArithmetic 158 = .ok (.invokevirtual 239, 3) := by decide +kernel
theorem dX0_judgeArithmetic_161 : decode cX0_judgeArithmetic 161 = .ok (.ifCond .eq 30, 3) := by decide +kernel
theorem dX0_judgeArithmetic_164 : decode cX0_judgeArithmetic 164 = .ok (.iload 5, 2) := by decide +kernel
theorem dX0_judgeArithmetic_166 : decode cX0_judgeArithmetic 166 = .ok (.ifCond .eq 15, 3) := by decide +kernel
theorem dX0_judgeArithmetic_169 : decode cX0_judgeArithmetic 169 = .ok (.aload_n 0, 1) := by decide +kernel
theorem dX0_judgeArithmetic_170 : decode cX0_judgeArithmetic 170 = .ok (.getfield 22, 3) := by decide +kernel
theorem dX0_judgeArithmetic_173 : decode cX0_judgeArithmetic 173 = .ok (.iload 4, 2) := by decide +kernel
theorem dX0_judgeArithmetic_175 : decode cX0_judgeArithmetic 175 = .ok (.invokevirtual 239, 3) := by decide +kernel
theorem dX0_judgeArithmetic_178 : decode cX0_judgeArithmetic 178 = .ok (.ifCond .eq 13, 3) := by decide +kernel
theorem dX0_judgeArithmetic_181 : decode cX0_judgeArithmetic 181 = .ok (.aload_n 0, 1) := by decide +kernel
theorem dX0_judgeArithmetic_182 : decode cX0_judgeArithmetic 182 = .ok (.iload_n 1, 1) := by decide +kernel
theorem dX0_judgeArithmetic_183 : decode cX0_judgeArithmetic 183 = .ok (.iload 5, 2) := by decide +kernel
theorem dX0_judgeArithmetic_185 : decode cX0_judgeArithmetic 185 = .ok (.invokevirtual 254, 3) := by decide +kernel
theorem dX0_judgeArithmetic_188 : decode cX0_judgeArithmetic 188 = .ok (.goto 15, 3) := by decide +kernel
theorem dX0_judgeArithmetic_191 : decode cX0_judgeArithmetic 191 = .ok (.aload_n 0, 1) := by decide +kernel
theorem dX0_judgeArithmetic_192 : decode cX0_judgeArithmetic 192 = .ok (.iload_n 1, 1) := by decide +kernel
theorem dX0_judgeArithmetic_193 : decode cX0_judgeArithmetic 193 = .ok (.iload 5, 2) := by decide +kernel
theorem dX0_judgeArithmetic_195 : decode cX0_judgeArithmetic 195 = .ok (.invokevirtual 258, 3) := by decide +kernel
theorem dX0_judgeArithmetic_198 : decode cX0_judgeArithmetic 198 = .ok (.ifCond .ne 5, 3) := by decide +kernel
theorem dX0_judgeArithmetic_201 : decode cX0_judgeArithmetic 201 = .ok (.iconst 3, 1) := by decide +kernel
theorem dX0_judgeArithmetic_202 : decode cX0_judgeArithmetic 202 = .ok (.ireturn, 1) := by decide +kernel
theorem dX0_judgeArithmetic_203 : decode cX0_judgeArithmetic 203 = .ok (.iconst 0, 1) := by decide +kernel
theorem dX0_judgeArithmetic_204 : decode cX0_judgeArithmetic 204 = .ok (.ireturn, 1) := by decide +kernel
theorem dX0_given_0 : decode cX0_given 0 = .ok (.iload_n 0, 1) := by decide +kernel
theorem dX0_given_1 : decode cX0_given 1 = .ok (.tableswitch 41 2 6 #[39, 41, 41, 35, 37], 35) := by decide +kernel
theorem dX0_given_36 : decode cX0_given 36 = .ok (.iconst 0, 1) := by decide +kernel
theorem dX0_given_37 : decode cX0_given 37 = .ok (.ireturn, 1) := by decide +kernel
theorem dX0_given_38 : decode cX0_given 38 = .ok (.iconst 1, 1) := by decide +kernel
theorem dX0_given_39 : decode cX0_given 39 = .ok (.ireturn, 1) := by decide +kernel
theorem dX0_given_40 : decode cX0_given 40 = .ok (.iconst 4, 1) := by decide +kernel
theorem dX0_given_41 : decode cX0_given 41 = .ok (.ireturn, 1) := by decide +kernel
theorem dX0_given_42 : decode cX0_given 42 = .ok (.iconst 2, 1) := by decide +kernel
theorem dX0_given_43 : decode cX0_given 43 = .ok (.ireturn, 1) := by decide +kernel
theorem dX0_judgeTableCall_0 : decode cX0_judgeTableCall 0 = .ok (.aload_n 0, 1) := by decide +kernel
theorem dX0_judgeTableCall_1 : decode cX0_judgeTableCall 1 = .ok (.getfield 44, 3) := by decide +kernel
theorem dX0_judgeTableCall_4 : decode cX0_judgeTableCall 4 = .ok (.aload_n 0, 1) := by decide +kernel
theorem dX0_judgeTableCall_5 : decode cX0_judgeTableCall 5 = .ok (.getfield 22, 3) := by decide +kernel
theorem dX0_judgeTableCall_8 : decode cX0_judgeTableCall 8 = .ok (.iconst 1, 1) := by decide +kernel
theorem dX0_judgeTableCall_9 : decode cX0_judgeTableCall 9 = .ok (.invokevirtual 186, 3) := by decide +kernel
theorem dX0_judgeTableCall_12 : decode cX0_judgeTableCall 12 = .ok (.invokevirtual 149, 3) := by decide +kernel
theorem dX0_judgeTableCall_15 : decode cX0_judgeTableCall 15 = .ok (.astore_n 2, 1) := by decide +kernel
theorem dX0_judgeTableCall_16 : decode cX0_judgeTableCall 16 = .ok (.aload_n 0, 1) := by decide +kernel
theorem dX0_judgeTableCall_17 : decode cX0_judgeTableCall 17 = .ok (.getfield 22, 3) := by decide +kernel
theorem dX0_judgeTableCall_20 : decode cX0_judgeTableCall 20 = .ok (.iconst 1, 1) := by decide +kernel
theorem dX0_judgeTableCall_21 : decode cX0_judgeTableCall 21 = .ok (.invokevirtual 171, 3) := by decide +kernel
theorem dX0_judgeTableCall_24 : decode cX0_judgeTableCall 24 = .ok (.iconst 4, 1) := by decide +kernel
theorem dX0_judgeTableCall_25 : decode cX0_judgeTableCall 25 = .ok (.if_icmp .ne 15, 3) := by decide +kernel
theorem dX0_judgeTableCall_28 : decode cX0_judgeTableCall 28 = .ok (.aload_n 2, 1) := by decide +kernel
theorem dX0_judgeTableCall_29 : decode cX0_judgeTableCall 29 = .ok (.ifnull 11, 3) := by decide +kernel
theorem dX0_judgeTableCall_32 : decode cX0_judgeTableCall 32 = .ok (.aload_n 0, 1) := by decide +kernel
theorem dX0_judgeTableCall_33 : decode cX0_judgeTableCall 33 = .ok (.iconst 2, 1) := by decide +kernel
theorem dX0_judgeTableCall_34 : decode cX0_judgeTableCall 34 = .ok (.invokevirtual 220, 3) := by decide +kernel
theorem dX0_judgeTableCall_37 : decode cX0_judgeTableCall 37 = .ok (.ifCond .ne 5, 3) := by decide +kernel
theorem dX0_judgeTableCall_40 : decode cX0_judgeTableCall 40 = .ok (.iconst 3, 1) := by decide +kernel
theorem dX0_judgeTableCall_41 : decode cX0_judgeTableCall 41 = .ok (.ireturn, 1) := by decide +kernel
theorem dX0_judgeTableCall_42 : decode cX0_judgeTableCall 42 = .ok (.iload_n 1, 1) := by decide +kernel
theorem dX0_judgeTableCall_43 : decode cX0_judgeTableCall 43 = .ok (.iconst 2, 1) := by decide +kernel
theorem dX0_judgeTableCall_44 : decode cX0_judgeTableCall 44 = .ok (.if_icmp .ne 7, 3) := by decide +kernel
theorem dX0_judgeTableCall_47 : decode cX0_judgeTableCall 47 = .ok (.iconst 1, 1) := by decide +kernel
theorem dX0_judgeTableCall_48 : decode cX0_judgeTableCall 48 = .ok (.goto 4, 3) := by decide +kernel
theorem dX0_judgeTableCall_51 : decode cX0_judgeTableCall 51 = .ok (.iconst 0, 1) := by decide +kernel
theorem dX0_judgeTableCall_52 : decode cX0_judgeTableCall 52 = .ok (.istore_n 3, 1) := by decide +kernel
theorem dX0_judgeTableCall_53 : decode cX0_judgeTableCall 53 = .ok (.iload_n 3, 1) := by decide +kernel
theorem dX0_judgeTableCall_54 : decode cX0_judgeTableCall 54 = .ok (.ifCond .eq 24, 3) := by decide +kernel
theorem dX0_judgeTableCall_57 : decode cX0_judgeTableCall 57 = .ok (.aload_n 0, 1) := by decide +kernel
theorem dX0_judgeTableCall_58 : decode cX0_judgeTableCall 58 = .ok (.iconst 3, 1) := by decide +kernel
theorem dX0_judgeTableCall_59 : decode cX0_judgeTableCall 59 = .ok (.invokevirtual 220, 3) := by decide +kernel
theorem dX0_judgeTableCall_62 : decode cX0_judgeTableCall 62 = .ok (.ifCond .eq 14, 3) := by decide +kernel
theorem dX0_judgeTableCall_65 : decode cX0_judgeTableCall 65 = .ok (.aload_n 0, 1) := by decide +kernel
theorem dX0_judgeTableCall_66 : decode cX0_judgeTableCall 66 = .ok (.getfield 22, 3) := by decide +kernel
theorem dX0_judgeTableCall_69 : decode cX0_judgeTableCall 69 = .ok (.iconst 4, 1) := by decide +kernel
theorem dX0_judgeTableCall_70 : decode cX0_judgeTableCall 70 = .ok (.invokevirtual 239, 3) := by decide +kernel
theorem dX0_judgeTableCall_73 : decode cX0_judgeTableCall 73 = .ok (.ifCond .ne 5, 3) := by decide +kernel
theorem dX0_judgeTableCall_76 : decode cX0_judgeTableCall 76 = .ok (.iconst 3, 1) := by decide +kernel
theorem dX0_judgeTableCall_77 : decode cX0_judgeTableCall 77 = .ok (.ireturn, 1) := by decide +kernel
theorem dX0_judgeTableCall_78 : decode cX0_judgeTableCall 78 = .ok (.aload_n 0, 1) := by decide +kernel
theorem dX0_judgeTableCall_79 : decode cX0_judgeTableCall 79 = .ok (.iconst 2, 1) := by decide +kernel
theorem dX0_judgeTableCall_80 : decode cX0_judgeTableCall 80 = .ok (.iconst 0, 1) := by decide +kernel
theorem dX0_judgeTableCall_81 : decode cX0_judgeTableCall 81 = .ok (.aload_n 2, 1) := by decide +kernel
theorem dX0_judgeTableCall_82 : decode cX0_judgeTableCall 82 = .ok (.getfield 345, 3) := by decide +kernel
theorem dX0_judgeTableCall_85 : decode cX0_judgeTableCall 85 = .ok (.invokevirtual 223, 3) := by decide +kernel
theorem dX0_judgeTableCall_88 : decode cX0_judgeTableCall 88 = .ok (.ifCond .eq 20, 3) := by decide +kernel
theorem dX0_judgeTableCall_91 : decode cX0_judgeTableCall 91 = .ok (.iload_n 3, 1) := by decide +kernel
theorem dX0_judgeTableCall_92 : decode cX0_judgeTableCall 92 = .ok (.ifCond .eq 18, 3) := by decide +kernel
theorem dX0_judgeTableCall_95 : decode cX0_judgeTableCall 95 = .ok (.aload_n 0, 1) := by decide +kernel
theorem dX0_judgeTableCall_96 : decode cX0_judgeTableCall 96 = .ok (.iconst 3, 1) := by decide +kernel
theorem dX0_judgeTableCall_97 : decode cX0_judgeTableCall 97 = .ok (.iconst 0, 1) := by decide +kernel
theorem dX0_judgeTableCall_98 : decode cX0_judgeTableCall 98 = .ok (.aload_n 2, 1) := by decide +kernel
theorem dX0_judgeTableCall_99 : decode cX0_judgeTableCall 99 = .ok (.getfield 189, 3) := by decide +kernel
theorem dX0_judgeTableCall_102 : decode cX0_judgeTableCall 102 = .ok (.invokevirtual 223, 3) := by decide +kernel
theorem dX0_judgeTableCall_105 : decode cX0_judgeTableCall 105 = .ok (.ifCond .ne 5, 3) := by decide +kernel
theorem dX0_judgeTableCall_108 : decode cX0_judgeTableCall 108 = .ok (.iconst 4, 1) := by decide +kernel
theorem dX0_judgeTableCall_109 : decode cX0_judgeTableCall 109 = .ok (.ireturn, 1) := by decide +kernel
theorem dX0_judgeTableCall_110 : decode cX0_judgeTableCall 110 = .ok (.iconst 0, 1) := by decide +kernel
theorem dX0_judgeTableCall_111 : decode cX0_judgeTableCall 111 = .ok (.ireturn, 1) := by decide +kernel
theorem dX0_judgeCall_0 : decode cX0_judgeCall 0 = .ok (.iload_n 2, 1) := by decide +kernel
theorem dX0_judgeCall_1 : decode cX0_judgeCall 1 = .ok (.invokestatic 339, 3) := by decide +kernel
theorem dX0_judgeCall_4 : decode cX0_judgeCall 4 = .ok (.istore_n 3, 1) := by decide +kernel
theorem dX0_judgeCall_5 : decode cX0_judgeCall 5 = .ok (.iconst 1, 1) := by decide +kernel
theorem dX0_judgeCall_6 : decode cX0_judgeCall 6 = .ok (.istore 4, 2) := by decide +kernel
theorem dX0_judgeCall_8 : decode cX0_judgeCall 8 = .ok (.iload 4, 2) := by decide +kernel
theorem dX0_judgeCall_10 : decode cX0_judgeCall 10 = .ok (.iload_n 3, 1) := by decide +kernel
theorem dX0_judgeCall_11 : decode cX0_judgeCall 11 = .ok (.if_icmp .gt 23, 3) := by decide +kernel
theorem dX0_judgeCall_14 : decode cX0_judgeCall 14 = .ok (.aload_n 0, 1) := by decide +kernel
theorem dX0_judgeCall_15 : decode cX0_judgeCall 15 = .ok (.getfield 22, 3) := by decide +kernel
theorem dX0_judgeCall_18 : decode cX0_judgeCall 18 = .ok (.iload 4, 2) := by decide +kernel
theorem dX0_judgeCall_20 : decode cX0_judgeCall 20 = .ok (.invokevirtual 217, 3) := by decide +kernel
theorem dX0_judgeCall_23 : decode cX0_judgeCall 23 = .ok (.ifCond .eq 5, 3) := by decide +kernel
theorem dX0_judgeCall_26 : decode cX0_judgeCall 26 = .ok (.iconst 2, 1) := by decide +kernel
theorem dX0_judgeCall_27 : decode cX0_judgeCall 27 = .ok (.ireturn, 1) := by decide +kernel
theorem dX0_judgeCall_28 : decode cX0_judgeCall 28 = .ok (.iinc 4 1, 3) := by decide +kernel
theorem dX0_judgeCall_31 : decode cX0_judgeCall 31 = .ok (.goto (-23), 3) := by decide +kernel
theorem dX0_judgeCall_34 : decode cX0_judgeCall 34 = .ok (.iload_n 2, 1) := by decide +kernel
theorem dX0_judgeCall_35 : decode cX0_judgeCall 35 = .ok (.bipush 6, 2) := by decide +kernel
theorem dX0_judgeCall_37 : decode cX0_judgeCall 37 = .ok (.if_icmp .ne 16, 3) := by decide +kernel
theorem dX0_judgeCall_40 : decode cX0_judgeCall 40 = .ok (.aload_n 0, 1) := by decide +kernel
theorem dX0_judgeCall_41 : decode cX0_judgeCall 41 = .ok (.getfield 22, 3) := by decide +kernel
theorem dX0_judgeCall_44 : decode cX0_judgeCall 44 = .ok (.iconst 1, 1) := by decide +kernel
theorem dX0_judgeCall_45 : decode cX0_judgeCall 45 = .ok (.invokevirtual 239, 3) := by decide +kernel
theorem dX0_judgeCall_48 : decode cX0_judgeCall 48 = .ok (.ifCond .ne 5, 3) := by decide +kernel
theorem dX0_judgeCall_51 : decode cX0_judgeCall 51 = .ok (.iconst 3, 1) := by decide +kernel
theorem dX0_judgeCall_52 : decode cX0_judgeCall 52 = .ok (.ireturn, 1) := by decide +kernel
theorem dX0_judgeCall_53 : decode cX0_judgeCall 53 = .ok (.aload_n 0, 1) := by decide +kernel
theorem dX0_judgeCall_54 : decode cX0_judgeCall 54 = .ok (.getfield 22, 3) := by decide +kernel
theorem dX0_judgeCall_57 : decode cX0_judgeCall 57 = .ok (.iconst 1, 1) := by decide +kernel
theorem dX0_judgeCall_58 : decode cX0_judgeCall 58 = .ok (.invokevirtual 186, 3) := by decide +kernel
theorem dX0_judgeCall_61 : decode cX0_judgeCall 61 = .ok (.istore 4, 2) := by decide +kernel
theorem dX0_judgeCall_63 : decode cX0_judgeCall 63 = .ok (.iload_n 2, 1) := by decide +kernel
theorem dX0_judgeCall_64 : decode cX0_judgeCall 64 = .ok (.bipush 6, 2) := by decide +kernel
theorem dX0_judgeCall_66 : decode cX0_judgeCall 66 = .ok (.if_icmp .eq 8, 3) := by decide +kernel
theorem dX0_judgeCall_69 : decode cX0_judgeCall 69 = .ok (.iload_n 2, 1) := by decide +kernel
theorem dX0_judgeCall_70 : decode cX0_judgeCall 70 = .ok (.iconst 5, 1) := by decide +kernel
theorem dX0_judgeCall_71 : decode cX0_judgeCall 71 = .ok (.if_icmp .ne 7, 3) := by decide +kernel
theorem dX0_judgeCall_74 : decode cX0_judgeCall 74 = .ok (.iconst 0, 1) := by decide +kernel
theorem dX0_judgeCall_75 : decode cX0_judgeCall 75 = .ok (.goto 8, 3) := by decide +kernel
theorem dX0_judgeCall_78 : decode cX0_judgeCall 78 = .ok (.aload_n 0, 1) := by decide +kernel
theorem dX0_judgeCall_79 : decode cX0_judgeCall 79 = .ok (.iload_n 2, 1) := by decide +kernel
theorem dX0_judgeCall_80 : decode cX0_judgeCall 80 = .ok (.invokevirtual 342, 3) := by decide +kernel
theorem dX0_judgeCall_83 : decode cX0_judgeCall 83 = .ok (.istore 5, 2) := by decide +kernel
theorem dX0_judgeCall_85 : decode cX0_judgeCall 85 = .ok (.iload 5, 2) := by decide +kernel
theorem dX0_judgeCall_87 : decode cX0_judgeCall 87 = .ok (.ifCond .eq 6, 3) := by decide +kernel
theorem dX0_judgeCall_90 : decode cX0_judgeCall 90 = .ok (.iload 5, 2) := by decide +kernel
theorem dX0_judgeCall_92 : decode cX0_judgeCall 92 = .ok (.ireturn, 1) := by decide +kernel
theorem dX0_judgeCall_93 : decode cX0_judgeCall 93 = .ok (.iload_n 2, 1) := by decide +kernel
theorem dX0_judgeCall_94 : decode cX0_judgeCall 94 = .ok (.iconst 1, 1) := by decide +kernel
theorem dX0_judgeCall_95 : decode cX0_judgeCall 95 = .ok (.if_icmp .ne 24, 3) := by decide +kernel
theorem dX0_judgeCall_98 : decode cX0_judgeCall 98 = .ok (.aload_n 0, 1) := by decide +kernel
theorem dX0_judgeCall_99 : decode cX0_judgeCall 99 = .ok (.getfield 22, 3) := by decide +kernel
theorem dX0_judgeCall_102 : decode cX0_judgeCall 102 = .ok (.iconst 0, 1) := by decide +kernel
theorem dX0_judgeCall_103 : decode cX0_judgeCall 103 = .ok (.bipush 6, 2) := by decide +kernel
theorem dX0_judgeCall_105 : decode cX0_judgeCall 105 = .ok (.iload 4, 2) := by decide +kernel
theorem dX0_judgeCall_107 : decode cX0_judgeCall 107 = .ok (.iload_n 1, 1) := by decide +kernel
theorem dX0_judgeCall_108 : decode cX0_judgeCall 108 = .ok (.invokestatic 161, 3) := by decide +kernel
theorem dX0_judgeCall_111 : decode cX0_judgeCall 111 = .ok (.lconst 0, 1) := by decide +kernel
theorem dX0_judgeCall_112 : decode cX0_judgeCall 112 = .ok (.lconst 0, 1) := by decide +kernel
theorem dX0_judgeCall_113 : decode cX0_judgeCall 113 = .ok (.invokevirtual 165, 3) := by decide +kernel
theorem dX0_judgeCall_116 : decode cX0_judgeCall 116 = .ok (.goto 13, 3) := by decide +kernel
theorem dX0_judgeCall_119 : decode cX0_judgeCall 119 = .ok (.aload_n 0, 1) := by decide +kernel
theorem dX0_judgeCall_120 : decode cX0_judgeCall 120 = .ok (.getfield 22, 3) := by decide +kernel
theorem dX0_judgeCall_123 : decode cX0_judgeCall 123 = .ok (.iconst 0, 1) := by decide +kernel
theorem dX0_judgeCall_124 : decode cX0_judgeCall 124 = .ok (.bipush 8, 2) := by decide +kernel
theorem dX0_judgeCall_126 : decode cX0_judgeCall 126 = .ok (.invokevirtual 234, 3) := by decide +kernel
theorem dX0_judgeCall_129 : decode cX0_judgeCall 129 = .ok (.iconst 1, 1) := by decide +kernel
theorem dX0_judgeCall_130 : decode cX0_judgeCall 130 = .ok (.istore 6, 2) := by decide +kernel
theorem dX0_judgeCall_132 : decode cX0_judgeCall 132 = .ok (.iload 6, 2) := by decide +kernel
theorem dX0_judgeCall_134 : decode cX0_judgeCall 134 = .ok (.iconst 5, 1) := by decide +kernel
theorem dX0_judgeCall_135 : decode cX0_judgeCall 135 = .ok (.if_icmp .gt 21, 3) := by decide +kernel
theorem dX0_judgeCall_138 : decode cX0_judgeCall 138 = .ok (.aload_n 0, 1) := by decide +kernel
theorem dX0_judgeCall_139 : decode cX0_judgeCall 139 = .ok (.getfield 22, 3) := by decide +kernel
theorem dX0_judgeCall_142 : decode cX0_judgeCall 142 = .ok (.iload 6, 2) := by decide +kernel
theorem dX0_judgeCall_144 : decode cX0_judgeCall 144 = .ok (.iconst 0, 1) := by decide +kernel
theorem dX0_judgeCall_145 : decode cX0_judgeCall 145 = .ok (.lconst 0, 1) := by decide +kernel
theorem dX0_judgeCall_146 : decode cX0_judgeCall 146 = .ok (.lconst 0, 1) := by decide +kernel
theorem dX0_judgeCall_147 : decode cX0_judgeCall 147 = .ok (.invokevirtual 165, 3) := by decide +kernel
theorem dX0_judgeCall_150 : decode cX0_judgeCall 150 = .ok (.iinc 6 1, 3) := by decide +kernel
theorem dX0_judgeCall_153 : decode cX0_judgeCall 153 = .ok (.goto (-21), 3) := by decide +kernel
theorem dX0_judgeCall_156 : decode cX0_judgeCall 156 = .ok (.iconst 0, 1) := by decide +kernel
theorem dX0_judgeCall_157 : decode cX0_judgeCall 157 = .ok (.ireturn, 1) := by decide +kernel
theorem dX0_goBothWays_0 : decode cX0_goBothWays 0 = .ok (.aload_n 0, 1) := by decide +kernel
theorem dX0_goBothWays_1 : decode cX0_goBothWays 1 = .ok (.getfield 26, 3) := by decide +kernel
theorem dX0_goBothWays_4 : decode cX0_goBothWays 4 = .ok (.aload_n 0, 1) := by decide +kernel
theorem dX0_goBothWays_5 : decode cX0_goBothWays 5 = .ok (.getfield 22, 3) := by decide +kernel
theorem dX0_goBothWays_8 : decode cX0_goBothWays 8 = .ok (.invokevirtual 66, 3) := by decide +kernel
theorem dX0_goBothWays_11 : decode cX0_goBothWays 11 = .ok (.aload_n 0, 1) := by decide +kernel
theorem dX0_goBothWays_12 : decode cX0_goBothWays 12 = .ok (.iconst 1, 1) := by decide +kernel
theorem dX0_goBothWays_13 : decode cX0_goBothWays 13 = .ok (.putfield 97, 3) := by decide +kernel
theorem dX0_goBothWays_16 : decode cX0_goBothWays 16 = .ok (.aload_n 0, 1) := by decide +kernel
theorem dX0_goBothWays_17 : decode cX0_goBothWays 17 = .ok (.iload_n 1, 1) := by decide +kernel
theorem dX0_goBothWays_18 : decode cX0_goBothWays 18 = .ok (.i2l, 1) := by decide +kernel
theorem dX0_goBothWays_19 : decode cX0_goBothWays 19 = .ok (.lconst 1, 1) := by decide +kernel
theorem dX0_goBothWays_20 : decode cX0_goBothWays 20 = .ok (.ladd, 1) := by decide +kernel
theorem dX0_goBothWays_21 : decode cX0_goBothWays 21 = .ok (.aload_n 0, 1) := by decide +kernel
theorem dX0_goBothWays_22 : decode cX0_goBothWays 22 = .ok (.getfield 40, 3) := by decide +kernel
theorem dX0_goBothWays_25 : decode cX0_goBothWays 25 = .ok (.getfield 214, 3) := by decide +kernel
theorem dX0_goBothWays_28 : decode cX0_goBothWays 28 = .ok (.iload_n 1, 1) := by decide +kernel
theorem dX0_goBothWays_29 : decode cX0_goBothWays 29 = .ok (.iaload, 1) := by decide +kernel
theorem dX0_goBothWays_30 : decode cX0_goBothWays 30 = .ok (.i2l, 1) := by decide +kernel
theorem dX0_goBothWays_31 : decode cX0_goBothWays 31 = .ok (.ladd, 1) := by decide +kernel
theorem dX0_goBothWays_32 : decode cX0_goBothWays 32 = .ok (.putfield 136, 3) := by decide +kernel
theorem dX0_goBothWays_35 : decode cX0_goBothWays 35 = .ok (.return_, 1) := by decide +kernel
theorem dX0_settleBoth_0 : decode cX0_settleBoth 0 = .ok (.aload_n 0, 1) := by decide +kernel
theorem dX0_settleBoth_1 : decode cX0_settleBoth 1 = .ok (.getfield 22, 3) := by decide +kernel
theorem dX0_settleBoth_4 : decode cX0_settleBoth 4 = .ok (.iload_n 1, 1) := by decide +kernel
theorem dX0_settleBoth_5 : decode cX0_settleBoth 5 = .ok (.iload_n 2, 1) := by decide +kernel
theorem dX0_settleBoth_6 : decode cX0_settleBoth 6 = .ok (.ifCond .ne 7, 3) := by decide +kernel
theorem dX0_settleBoth_9 : decode cX0_settleBoth 9 = .ok (.iconst 1, 1) := by decide +kernel
theorem dX0_settleBoth_10 : decode cX0_settleBoth 10 = .ok (.goto 4, 3) := by decide +kernel
theorem dX0_settleBoth_13 : decode cX0_settleBoth 13 = .ok (.iconst 0, 1) := by decide +kernel
theorem dX0_settleBoth_14 : decode cX0_settleBoth 14 = .ok (.invokevirtual 330, 3) := by decide +kernel
theorem dX0_settleBoth_17 : decode cX0_settleBoth 17 = .ok (.aload_n 0, 1) := by decide +kernel
theorem dX0_settleBoth_18 : decode cX0_settleBoth 18 = .ok (.getfield 26, 3) := by decide +kernel
theorem dX0_settleBoth_21 : decode cX0_settleBoth 21 = .ok (.iload_n 1, 1) := by decide +kernel
theorem dX0_settleBoth_22 : decode cX0_settleBoth 22 = .ok (.iload_n 2, 1) := by decide +kernel
theorem dX0_settleBoth_23 : decode cX0_settleBoth 23 = .ok (.invokevirtual 330, 3) := by decide +kernel
theorem dX0_settleBoth_26 : decode cX0_settleBoth 26 = .ok (.return_, 1) := by decide +kernel
theorem dX0_comparesUnsigned_0 : decode cX0_comparesUnsigned 0 = .ok (.iload_n 0, 1) := by decide +kernel
theorem dX0_comparesUnsigned_1 : decode cX0_comparesUnsigned 1 = .ok (.iconst 2, 1) := by decide +kernel
theorem dX0_comparesUnsigned_2 : decode cX0_comparesUnsigned 2 = .ok (.if_icmp .eq 20, 3) := by decide +kernel
theorem dX0_comparesUnsigned_5 : decode cX0_comparesUnsigned 5 = .ok (.iload_n 0, 1) := by decide +kernel
theorem dX0_comparesUnsigned_6 : decode cX0_comparesUnsigned 6 = .ok (.iconst 3, 1) := by decide +kernel
theorem dX0_comparesUnsigned_7 : decode cX0_comparesUnsigned 7 = .ok (.if_icmp .eq 15, 3) := by decide +kernel
theorem dX0_comparesUnsigned_10 : decode cX0_comparesUnsigned 10 = .ok (.iload_n 0, 1) := by decide +kernel
theorem dX0_comparesUnsigned_11 : decode cX0_comparesUnsigned 11 = .ok (.bipush 10, 2) := by decide +kernel
theorem dX0_comparesUnsigned_13 : decode cX0_comparesUnsigned 13 = .ok (.if_icmp .eq 9, 3) := by decide +kernel
theorem dX0_comparesUnsigned_16 : decode cX0_comparesUnsigned 16 = .ok (.iload_n 0, 1) := by decide +kernel
theorem dX0_comparesUnsigned_17 : decode cX0_comparesUnsigned 17 = .ok (.bipush 11, 2) := by decide +kernel
theorem dX0_comparesUnsigned_19 : decode cX0_comparesUnsigned 19 = .ok (.if_icmp .ne 7, 3) := by decide +kernel
theorem dX0_comparesUnsigned_22 : decode cX0_comparesUnsigned 22 = .ok (.iconst 1, 1) := by decide +kernel
theorem dX0_comparesUnsigned_23 : decode cX0_comparesUnsigned 23 = .ok (.goto 4, 3) := by decide +kernel
theorem dX0_comparesUnsigned_26 : decode cX0_comparesUnsigned 26 = .ok (.iconst 0, 1) := by decide +kernel
theorem dX0_comparesUnsigned_27 : decode cX0_comparesUnsigned 27 = .ok (.ireturn, 1) := by decide +kernel
theorem dX0_opposite_0 : decode cX0_opposite 0 = .ok (.iload_n 0, 1) := by decide +kernel
theorem dX0_opposite_1 : decode cX0_opposite 1 = .ok (.tableswitch 67 1 10 #[55, 59, 62, 67, 57, 67, 67, 67, 67, 65], 55) := by decide +kernel
theorem dX0_opposite_56 : decode cX0_opposite 56 = .ok (.iconst 5, 1) := by decide +kernel
theorem dX0_opposite_57 : decode cX0_opposite 57 = .ok (.ireturn, 1) := by decide +kernel
theorem dX0_opposite_58 : decode cX0_opposite 58 = .ok (.iconst 1, 1) := by decide +kernel
theorem dX0_opposite_59 : decode cX0_opposite 59 = .ok (.ireturn, 1) := by decide +kernel
theorem dX0_opposite_60 : decode cX0_opposite 60 = .ok (.bipush 11, 2) := by decide +kernel
theorem dX0_opposite_62 : decode cX0_opposite 62 = .ok (.ireturn, 1) := by decide +kernel
theorem dX0_opposite_63 : decode cX0_opposite 63 = .ok (.bipush 10, 2) := by decide +kernel
theorem dX0_opposite_65 : decode cX0_opposite 65 = .ok (.ireturn, 1) := by decide +kernel
theorem dX0_opposite_66 : decode cX0_opposite 66 = .ok (.iconst 3, 1) := by decide +kernel
theorem dX0_opposite_67 : decode cX0_opposite 67 = .ok (.ireturn, 1) := by decide +kernel
theorem dX0_opposite_68 : decode cX0_opposite 68 = .ok (.iconst 2, 1) := by decide +kernel
theorem dX0_opposite_69 : decode cX0_opposite 69 = .ok (.ireturn, 1) := by decide +kernel
theorem dX0_narrowBoth_0 : decode cX0_narrowBoth 0 = .ok (.aload_n 0, 1) := by decide +kernel
theorem dX0_narrowBoth_1 : decode cX0_narrowBoth 1 = .ok (.getfield 32, 3) := by decide +kernel
theorem dX0_narrowBoth_4 : decode cX0_narrowBoth 4 = .ok (.aload_n 0, 1) := by decide +kernel
theorem dX0_narrowBoth_5 : decode cX0_narrowBoth 5 = .ok (.getfield 22, 3) := by decide +kernel
theorem dX0_narrowBoth_8 : decode cX0_narrowBoth 8 = .ok (.getfield 174, 3) := by decide +kernel
theorem dX0_narrowBoth_11 : decode cX0_narrowBoth 11 = .ok (.iload_n 1, 1) := by decide +kernel
theorem dX0_narrowBoth_12 : decode cX0_narrowBoth 12 = .ok (.laload, 1) := by decide +kernel
theorem dX0_narrowBoth_13 : decode cX0_narrowBoth 13 = .ok (.aload_n 0, 1) := by decide +kernel
theorem dX0_narrowBoth_14 : decode cX0_narrowBoth 14 = .ok (.getfield 22, 3) := by decide +kernel
theorem dX0_narrowBoth_17 : decode cX0_narrowBoth 17 = .ok (.getfield 178, 3) := by decide +kernel
theorem dX0_narrowBoth_20 : decode cX0_narrowBoth 20 = .ok (.iload_n 1, 1) := by decide +kernel
theorem dX0_narrowBoth_21 : decode cX0_narrowBoth 21 = .ok (.laload, 1) := by decide +kernel
theorem dX0_narrowBoth_22 : decode cX0_narrowBoth 22 = .ok (.invokevirtual 262, 3) := by decide +kernel
theorem dX0_narrowBoth_25 : decode cX0_narrowBoth 25 = .ok (.aload_n 0, 1) := by decide +kernel
theorem dX0_narrowBoth_26 : decode cX0_narrowBoth 26 = .ok (.aload_n 0, 1) := by decide +kernel
theorem dX0_narrowBoth_27 : decode cX0_narrowBoth 27 = .ok (.getfield 32, 3) := by decide +kernel
theorem dX0_narrowBoth_30 : decode cX0_narrowBoth 30 = .ok (.iload_n 2, 1) := by decide +kernel
theorem dX0_narrowBoth_31 : decode cX0_narrowBoth 31 = .ok (.invokestatic 333, 3) := by decide +kernel
theorem dX0_narrowBoth_34 : decode cX0_narrowBoth 34 = .ok (.lload_n 3, 1) := by decide +kernel
theorem dX0_narrowBoth_35 : decode cX0_narrowBoth 35 = .ok (.invokevirtual 336, 3) := by decide +kernel
theorem dX0_narrowBoth_38 : decode cX0_narrowBoth 38 = .ok (.putfield 90, 3) := by decide +kernel
theorem dX0_narrowBoth_41 : decode cX0_narrowBoth 41 = .ok (.aload_n 0, 1) := by decide +kernel
theorem dX0_narrowBoth_42 : decode cX0_narrowBoth 42 = .ok (.getfield 22, 3) := by decide +kernel
theorem dX0_narrowBoth_45 : decode cX0_narrowBoth 45 = .ok (.iload_n 1, 1) := by decide +kernel
theorem dX0_narrowBoth_46 : decode cX0_narrowBoth 46 = .ok (.iconst 1, 1) := by decide +kernel
theorem dX0_narrowBoth_47 : decode cX0_narrowBoth 47 = .ok (.aload_n 0, 1) := by decide +kernel
theorem dX0_narrowBoth_48 : decode cX0_narrowBoth 48 = .ok (.getfield 32, 3) := by decide +kernel
theorem dX0_narrowBoth_51 : decode cX0_narrowBoth 51 = .ok (.getfield 276, 3) := by decide +kernel
theorem dX0_narrowBoth_54 : decode cX0_narrowBoth 54 = .ok (.aload_n 0, 1) := by decide +kernel
theorem dX0_narrowBoth_55 : decode cX0_narrowBoth 55 = .ok (.getfield 32, 3) := by decide +kernel
theorem dX0_narrowBoth_58 : decode cX0_narrowBoth 58 = .ok (.getfield 278, 3) := by decide +kernel
theorem dX0_narrowBoth_61 : decode cX0_narrowBoth 61 = .ok (.invokevirtual 165, 3) := by decide +kernel
theorem dX0_narrowBoth_64 : decode cX0_narrowBoth 64 = .ok (.aload_n 0, 1) := by decide +kernel
theorem dX0_narrowBoth_65 : decode cX0_narrowBoth 65 = .ok (.aload_n 0, 1) := by decide +kernel
theorem dX0_narrowBoth_66 : decode cX0_narrowBoth 66 = .ok (.getfield 32, 3) := by decide +kernel
theorem dX0_narrowBoth_69 : decode cX0_narrowBoth 69 = .ok (.iload_n 2, 1) := by decide +kernel
theorem dX0_narrowBoth_70 : decode cX0_narrowBoth 70 = .ok (.lload_n 3, 1) := by decide +kernel
theorem dX0_narrowBoth_71 : decode cX0_narrowBoth 71 = .ok (.invokevirtual 336, 3) := by decide +kernel
theorem dX0_narrowBoth_74 : decode cX0_narrowBoth 74 = .ok (.putfield 97, 3) := by decide +kernel
theorem dX0_narrowBoth_77 : decode cX0_narrowBoth 77 = .ok (.aload_n 0, 1) := by decide +kernel
theorem dX0_narrowBoth_78 : decode cX0_narrowBoth 78 = .ok (.getfield 26, 3) := by decide +kernel
theorem dX0_narrowBoth_81 : decode cX0_narrowBoth 81 = .ok (.iload_n 1, 1) := by decide +kernel
theorem dX0_narrowBoth_82 : decode cX0_narrowBoth 82 = .ok (.iconst 1, 1) := by decide +kernel
theorem dX0_narrowBoth_83 : decode cX0_narrowBoth 83 = .ok (.aload_n 0, 1) := by decide +kernel
theorem dX0_narrowBoth_84 : decode cX0_narrowBoth 84 = .ok (.getfield 32, 3) := by decide +kernel
theorem dX0_narrowBoth_87 : decode cX0_narrowBoth 87 = .ok (.getfield 276, 3) := by decide +kernel
theorem dX0_narrowBoth_90 : decode cX0_narrowBoth 90 = .ok (.aload_n 0, 1) := by decide +kernel
theorem dX0_narrowBoth_91 : decode cX0_narrowBoth 91 = .ok (.getfield 32, 3) := by decide +kernel
theorem dX0_narrowBoth_94 : decode cX0_narrowBoth 94 = .ok (.getfield 278, 3) := by decide +kernel
theorem dX0_narrowBoth_97 : decode cX0_narrowBoth 97 = .ok (.invokevirtual 165, 3) := by decide +kernel
theorem dX0_narrowBoth_100 : decode cX0_narrowBoth 100 = .ok (.return_, 1) := by decide +kernel
theorem dX0_changedAbout_0 : decode cX0_changedAbout 0 = .ok (.iload_n 0, 1) := by decide +kernel
theorem dX0_changedAbout_1 : decode cX0_changedAbout 1 = .ok (.tableswitch 65 2 11 #[55, 58, 65, 65, 65, 65, 65, 65, 61, 63], 55) := by decide +kernel
theorem dX0_changedAbout_56 : decode cX0_changedAbout 56 = .ok (.bipush 10, 2) := by decide +kernel
theorem dX0_changedAbout_58 : decode cX0_changedAbout 58 = .ok (.ireturn, 1) := by decide +kernel
theorem dX0_changedAbout_59 : decode cX0_changedAbout 59 = .ok (.bipush 11, 2) := by decide +kernel
theorem dX0_changedAbout_61 : decode cX0_changedAbout 61 = .ok (.ireturn, 1) := by decide +kernel
theorem dX0_changedAbout_62 : decode cX0_changedAbout 62 = .ok (.iconst 2, 1) := by decide +kernel
theorem dX0_changedAbout_63 : decode cX0_changedAbout 63 = .ok (.ireturn, 1) := by decide +kernel
theorem dX0_changedAbout_64 : decode cX0_changedAbout 64 = .ok (.iconst 3, 1) := by decide +kernel
theorem dX0_changedAbout_65 : decode cX0_changedAbout 65 = .ok (.ireturn, 1) := by decide +kernel
theorem dX0_changedAbout_66 : decode cX0_changedAbout 66 = .ok (.iload_n 0, 1) := by decide +kernel
theorem dX0_changedAbout_67 : decode cX0_changedAbout 67 = .ok (.ireturn, 1) := by decide +kernel
-- JudgedCode$Judge.makeNumber
def f_X0_makeNumber_223 (S : sh) (o0 : Nat) (x4 : Int32) (D : dt) : Option (Unit × dt) := rq (gR D o0 4) fun o155 => rq (gR D o0 6) fun o159 => rq (gR D o0 6) fun o163 => cq (f_X5_write S o155 x4 (1 : Int32) (gL D o159 0) (gL D o163 1) D) fun _ D168 => some ((), D168)
def f_X0_makeNumber_192 (S : sh) (o0 : Nat) (x4 : Int32) (os0 : Nat) (xs1 : Int32) (xs2 : Int32) (D : dt) : Option (Unit × dt) := cq (f_X6_turn S os0 xs1 xs2 D) fun _ D170 => f_X0_makeNumber_223 S o0 x4 D170
def f_X0_makeNumber_187 (S : sh) (o0 : Nat) (x4 : Int32) (os0 : Nat) (xs1 : Int32) (D : dt) : Option (Unit × dt) := f_X0_makeNumber_192 S o0 x4 os0 xs1 (1 : Int32) D
def f_X0_makeNumber_143 (S : sh) (o0 : Nat) (x1 : Int32) (x3 : Int32) (x4 : Int32) (os0 : Nat) (xs1 : Int64) (xs2 : Int64) (D : dt) : Option (Unit × dt) := cq (f_X6_second S os0 xs1 xs2 D) fun _ D172 => if x3 = (13 : Int32) then (rq (gR D172 o0 6) fun o195 => rq (gR D172 o0 0) fun o199 => rq (gR D172 o199 4) fun o203 => ix x1 (sA S o203) <| rq (gR D172 o0 0) fun o208 => pq (f_X4_isWide S D172 o208 x1) fun r213 => if r213 = 0 then (rq (gR D172 o0 0) fun o215 => pq (f_X4_byRegister S D172 o215 x1) fun r220 => if r220 = 0 then (f_X0_makeNumber_192 S o0 x4 o195 (gI D172 o203 x1.toNatClampNeg) (0 : Int32) D172) else (f_X0_makeNumber_187 S o0 x4 o195 (gI D172 o203 x1.toNatClampNeg) D172)) else (f_X0_makeNumber_187 S o0 x4 o195 (gI D172 o203 x1.toNatClampNeg) D172)) else (rq (gR D172 o0 6) fun o174 => rq (gR D172 o0 0) fun o178 => pq (f_X4_isWide S D172 o178 x1) fun r183 => rq (gR D172 o0 0) fun o184 => rq (gR D172 o184 3) fun o188 => ix x1 (sA S o188) <| cq (f_X6_make S o174 x3 r183 (gI D172 o188 x1.toNatClampNeg) D172) fun _ D194 => f_X0_makeNumber_223 S o0 x4 D194)
def f_X0_makeNumber_124 (S : sh) (o0 : Nat) (x1 : Int32) (x2 : Int32) (x3 : Int32) (x4 : Int32) (x5 : Int32) (x6 : Int64) (os0 : Nat) (xs1 : Int64) (D : dt) : Option (Unit × dt) := if x2 = 0 then (f_X0_makeNumber_143 S o0 x1 x3 x4 os0 xs1 x6 D) else (rq (gR D o0 4) fun o223 => rq (gR D o223 3) fun o227 => ix x5 (sA S o227) <| f_X0_makeNumber_143 S o0 x1 x3 x4 os0 xs1 (gL D o227 x5.toNatClampNeg) D)
def f_X0_makeNumber_98 (S : sh) (o0 : Nat) (x1 : Int32) (x2 : Int32) (x3 : Int32) (x4 : Int32) (x5 : Int32) (x6 : Int64) (os0 : Nat) (xs1 : Int64) (xs2 : Int64) (D : dt) : Option (Unit × dt) := cq (f_X6_first S os0 xs1 xs2 D) fun _ D233 => rq (gR D233 o0 6) fun o234 => if x2 = 0 then (f_X0_makeNumber_124 S o0 x1 x2 x3 x4 x5 x6 o234 x6 D233) else (rq (gR D233 o0 4) fun o239 => rq (gR D233 o239 2) fun o243 => ix x5 (sA S o243) <| f_X0_makeNumber_124 S o0 x1 x2 x3 x4 x5 x6 o234 (gL D233 o243 x5.toNatClampNeg) D233)
def f_X0_makeNumber_79 (S : sh) (o0 : Nat) (x1 : Int32) (x2 : Int32) (x3 : Int32) (x4 : Int32) (x5 : Int32) (x6 : Int64) (x8 : Int32) (os0 : Nat) (xs1 : Int64) (D : dt) : Option (Unit × dt) := if x8 = 0 then (rq (gR D o0 4) fun o249 => rq (gR D o249 3) fun o253 => ix x4 (sA S o253) <| f_X0_makeNumber_98 S o0 x1 x2 x3 x4 x5 x6 os0 xs1 (gL D o253 x4.toNatClampNeg) D) else (f_X0_makeNumber_98 S o0 x1 x2 x3 x4 x5 x6 os0 xs1 (0 : Int64) D)
def f_X0_makeNumber_54 (S : sh) (o0 : Nat) (x1 : Int32) (x2 : Int32) (x3 : Int32) (x4 : Int32) (x5 : Int32) (x6 : Int64) (xs0 : Int32) (D : dt) : Option (Unit × dt) := rq (gR D o0 6) fun o258 => if xs0 = 0 then (rq (gR D o0 4) fun o263 => rq (gR D o263 2) fun o267 => ix x4 (sA S o267) <| f_X0_makeNumber_79 S o0 x1 x2 x3 x4 x5 x6 xs0 o258 (gL D o267 x4.toNatClampNeg) D) else (f_X0_makeNumber_79 S o0 x1 x2 x3 x4 x5 x6 xs0 o258 (0 : Int64) D)
def f_X0_makeNumber (S : sh) (o0 : Nat) (x1 : Int32) (x2 : Int32) (D : dt) : Option (Unit × dt) := rq (gR D o0 0) fun o272 => pq (f_X4_code S D o272 x1) fun r277 => rq (gR D o0 0) fun o278 => rq (gR D o278 1) fun o282 => ix x1 (sA S o282) <| nm (gI D o282 x1.toNatClampNeg) fun y287 => rq (gR D o0 0) fun o288 => rq (gR D o288 2) fun o292 => ix x1 (sA S o292) <| nm (gI D o292 x1.toNatClampNeg) fun y297 => rq (gR D o0 0) fun o298 => rq (gR D o298 4) fun o302 => ix x1 (sA S o302) <| nm ((gI D o302 x1.toNatClampNeg).toInt64) fun y307 => if r277 = (11 : Int32) then (f_X0_makeNumber_54 S o0 x1 x2 r277 y287 y297 y307 (1 : Int32) D) else (f_X0_makeNumber_54 S o0 x1 x2 r277 y287 y297 y307 (0 : Int32) D)
-- JudgedCode$Judge.isSmall
def f_X0_isSmall (S : sh) (D : dt) (o0 : Nat) (x1 : Int32) : Option Int32 := rq (gR D o0 4) fun o20 => pq (f_X5_isNumber S D o20 x1) fun r25 => if r25 = 0 then (some (0 : Int32)) else (rq (gR D o0 4) fun o27 => rq (gR D o27 3) fun o31 => ix x1 (sA S o31) <| pq (f_X3_below (65536 : Int64) (gL D o31 x1.toNatClampNeg)) fun r37 => if r37 = 0 then (some (1 : Int32)) else (some (0 : Int32)))
-- JudgedCode$Judge.shiftPlace
def f_X0_shiftPlace_272 (S : sh) (o0 : Nat) (x4 : Int32) (x7 : Int32) (x13 : Int64) (xs0 : Int64) (xs1 : Int64) (D : dt) : Option (Int32 × dt) := nm (xs0 + xs1) fun y147 => rq (gR D o0 4) fun o148 => rq (gR D o0 4) fun o152 => rq (gR D o152 1) fun o156 => ix x7 (sA S o156) <| cq (f_X5_write S o148 x4 (gI D o156 x7.toNatClampNeg) x13 y147 D) fun _ D162 => if (lg_cmp x13 (-1048576 : Int64)) < 0 then (some ((0 : Int32), D162)) else (if 0 < (lg_cmp y147 (1048576 : Int64)) then (some ((0 : Int32), D162)) else (some ((1 : Int32), D162)))
def f_X0_shiftPlace_247 (S : sh) (o0 : Nat) (x3 : Int32) (x4 : Int32) (x7 : Int32) (x9 : Int64) (x11 : Int64) (xs0 : Int64) (xs1 : Int64) (D : dt) : Option (Int32 × dt) := nm (xs0 + xs1) fun y165 => rq (gR D o0 4) fun o166 => rq (gR D o166 3) fun o170 => ix x7 (sA S o170) <| if x3 = 0 then (f_X0_shiftPlace_272 S o0 x4 x7 y165 (gL D o170 x7.toNatClampNeg) x11 D) else (f_X0_shiftPlace_272 S o0 x4 x7 y165 (gL D o170 x7.toNatClampNeg) (-x9) D)
def f_X0_shiftPlace_225 (S : sh) (o0 : Nat) (x3 : Int32) (x4 : Int32) (x7 : Int32) (x9 : Int64) (x11 : Int64) (D : dt) : Option (Int32 × dt) := rq (gR D o0 4) fun o176 => rq (gR D o176 2) fun o180 => ix x7 (sA S o180) <| if x3 = 0 then (f_X0_shiftPlace_247 S o0 x3 x4 x7 x9 x11 (gL D o180 x7.toNatClampNeg) x9 D) else (f_X0_shiftPlace_247 S o0 x3 x4 x7 x9 x11 (gL D o180 x7.toNatClampNeg) (-x11) D)
def f_X0_shiftPlace_200 (S : sh) (o0 : Nat) (x3 : Int32) (x4 : Int32) (x7 : Int32) (x9 : Int64) (xs0 : Int64) (D : dt) : Option (Int32 × dt) := rq (gR D o0 4) fun o186 => pq (f_X5_kind S D o186 x7) fun r191 => if r191 = (3 : Int32) then (if (lg_cmp x9 xs0) = 0 then (f_X0_shiftPlace_225 S o0 x3 x4 x7 x9 xs0 D) else (some ((0 : Int32), D))) else (f_X0_shiftPlace_225 S o0 x3 x4 x7 x9 xs0 D)
def f_X0_shiftPlace_171 (S : sh) (o0 : Nat) (x1 : Int32) (x2 : Int32) (x3 : Int32) (x4 : Int32) (x7 : Int32) (x8 : Int32) (xs0 : Int64) (D : dt) : Option (Int32 × dt) := if x2 = 0 then (rq (gR D o0 0) fun o195 => rq (gR D o195 4) fun o199 => ix x1 (sA S o199) <| f_X0_shiftPlace_200 S o0 x3 x4 x7 xs0 ((gI D o199 x1.toNatClampNeg).toInt64) D) else (rq (gR D o0 4) fun o204 => rq (gR D o204 3) fun o208 => ix x8 (sA S o208) <| f_X0_shiftPlace_200 S o0 x3 x4 x7 xs0 (gL D o208 x8.toNatClampNeg) D)
def f_X0_shiftPlace_144 (S : sh) (o0 : Nat) (x1 : Int32) (x2 : Int32) (x3 : Int32) (x4 : Int32) (x7 : Int32) (x8 : Int32) (D : dt) : Option (Int32 × dt) := if x2 = 0 then (rq (gR D o0 0) fun o214 => rq (gR D o214 4) fun o218 => ix x1 (sA S o218) <| f_X0_shiftPlace_171 S o0 x1 x2 x3 x4 x7 x8 ((gI D o218 x1.toNatClampNeg).toInt64) D) else (rq (gR D o0 4) fun o223 => rq (gR D o223 2) fun o227 => ix x8 (sA S o227) <| f_X0_shiftPlace_171 S o0 x1 x2 x3 x4 x7 x8 (gL D o227 x8.toNatClampNeg) D)
def f_X0_shiftPlace_95 (S : sh) (o0 : Nat) (x1 : Int32) (x2 : Int32) (x3 : Int32) (x4 : Int32) (x7 : Int32) (x8 : Int32) (D : dt) : Option (Int32 × dt) := pq (f_X0_canBeReached S D o0 x7) fun r233 => if r233 = 0 then (some ((0 : Int32), D)) else (if x2 = 0 then (rq (gR D o0 0) fun o236 => rq (gR D o236 4) fun o240 => ix x1 (sA S o240) <| if (lg_cmp (if 0 < ((gI D o240 x1.toNatClampNeg).toInt64) then ((gI D o240 x1.toNatClampNeg).toInt64) else -((gI D o240 x1.toNatClampNeg).toInt64)) (65536 : Int64)) ≤ 0 then (f_X0_shiftPlace_144 S o0 x1 x2 x3 x4 x7 x8 D) else (some ((0 : Int32), D))) else (pq (f_X0_isSmall S D o0 x8) fun r247 => if r247 = 0 then (some ((0 : Int32), D)) else (f_X0_shiftPlace_144 S o0 x1 x2 x3 x4 x7 x8 D)))
def f_X0_shiftPlace_68 (S : sh) (o0 : Nat) (x1 : Int32) (x2 : Int32) (x3 : Int32) (x4 : Int32) (x6 : Int32) (x7 : Int32) (xs0 : Int32) (D : dt) : Option (Int32 × dt) := rq (gR D o0 0) fun o249 => pq (f_X4_isWide S D o249 x1) fun r254 => if r254 = 0 then (some ((0 : Int32), D)) else (if x3 = 0 then (f_X0_shiftPlace_95 S o0 x1 x2 x3 x4 x7 xs0 D) else (if x3 = (1 : Int32) then (if x6 = 0 then (f_X0_shiftPlace_95 S o0 x1 x2 x3 x4 x7 xs0 D) else (some ((0 : Int32), D))) else (some ((0 : Int32), D))))
def f_X0_shiftPlace_54 (S : sh) (o0 : Nat) (x1 : Int32) (x2 : Int32) (x3 : Int32) (x4 : Int32) (x5 : Int32) (x6 : Int32) (xs0 : Int32) (D : dt) : Option (Int32 × dt) := if x6 = 0 then (f_X0_shiftPlace_68 S o0 x1 x2 x3 x4 x6 xs0 x5 D) else (f_X0_shiftPlace_68 S o0 x1 x2 x3 x4 x6 xs0 x4 D)
def f_X0_shiftPlace (S : sh) (o0 : Nat) (x1 : Int32) (x2 : Int32) (D : dt) : Option (Int32 × dt) := rq (gR D o0 0) fun o260 => pq (f_X4_code S D o260 x1) fun r265 => rq (gR D o0 0) fun o266 => rq (gR D o266 1) fun o270 => ix x1 (sA S o270) <| nm (gI D o270 x1.toNatClampNeg) fun y275 => rq (gR D o0 0) fun o276 => rq (gR D o276 2) fun o280 => ix x1 (sA S o280) <| nm (gI D o280 x1.toNatClampNeg) fun y285 => rq (gR D o0 4) fun o286 => pq (f_X5_isNumber S D o286 y275) fun r291 => if r291 = 0 then (f_X0_shiftPlace_54 S o0 x1 x2 r265 y275 y285 r291 y275 D) else (f_X0_shiftPlace_54 S o0 x1 x2 r265 y275 y285 r291 y285 D)
-- JudgedCode$Judge.judgeArithmetic
def f_X0_judgeArithmetic_181 (S : sh) (o0 : Nat) (x1 : Int32) (x5 : Int32) (D : dt) : Option (Int32 × dt) := cq (f_X0_makeNumber S o0 x1 x5 D) fun _ D100 => some ((0 : Int32), D100)
def f_X0_judgeArithmetic_191 (S : sh) (o0 : Nat) (x1 : Int32) (x5 : Int32) (D : dt) : Option (Int32 × dt) := cq (f_X0_shiftPlace S o0 x1 x5 D) fun r102 D103 => if r102 = 0 then (some ((3 : Int32), D103)) else (some ((0 : Int32), D103))
def f_X0_judgeArithmetic_164 (S : sh) (o0 : Nat) (x1 : Int32) (x4 : Int32) (x5 : Int32) (D : dt) : Option (Int32 × dt) := if x5 = 0 then (f_X0_judgeArithmetic_181 S o0 x1 x5 D) else (rq (gR D o0 4) fun o106 => pq (f_X5_isNumber S D o106 x4) fun r111 => if r111 = 0 then (f_X0_judgeArithmetic_191 S o0 x1 x5 D) else (f_X0_judgeArithmetic_181 S o0 x1 x5 D))
def f_X0_judgeArithmetic_148 (S : sh) (o0 : Nat) (x1 : Int32) (x3 : Int32) (x4 : Int32) (x5 : Int32) (x6 : Int32) (D : dt) : Option (Int32 × dt) := if x6 = 0 then (rq (gR D o0 4) fun o114 => pq (f_X5_isNumber S D o114 x3) fun r119 => if r119 = 0 then (f_X0_judgeArithmetic_191 S o0 x1 x5 D) else (f_X0_judgeArithmetic_164 S o0 x1 x4 x5 D)) else (f_X0_judgeArithmetic_164 S o0 x1 x4 x5 D)
def f_X0_judgeArithmetic_102 (S : sh) (o0 : Nat) (x1 : Int32) (x3 : Int32) (x4 : Int32) (x5 : Int32) (x6 : Int32) (D : dt) : Option (Int32 × dt) := if x6 = 0 then (f_X0_judgeArithmetic_148 S o0 x1 x3 x4 x5 x6 D) else (if x5 = 0 then (f_X0_judgeArithmetic_148 S o0 x1 x3 x4 x5 x6 D) else (rq (gR D o0 0) fun o123 => pq (f_X4_isWide S D o123 x1) fun r128 => if r128 = 0 then (f_X0_judgeArithmetic_148 S o0 x1 x3 x4 x5 x6 D) else (rq (gR D o0 0) fun o130 => rq (gR D o130 3) fun o134 => ix x1 (sA S o134) <| if (gI D o134 x1.toNatClampNeg) = 0 then (rq (gR D o0 4) fun o140 => cq (f_X5_move S o140 x3 x4 D) fun _ D145 => some ((0 : Int32), D145)) else (f_X0_judgeArithmetic_148 S o0 x1 x3 x4 x5 x6 D))))
def f_X0_judgeArithmetic_83 (S : sh) (o0 : Nat) (x1 : Int32) (x3 : Int32) (x4 : Int32) (x5 : Int32) (x6 : Int32) (D : dt) : Option (Int32 × dt) := if x5 = 0 then (f_X0_judgeArithmetic_102 S o0 x1 x3 x4 x5 x6 D) else (rq (gR D o0 4) fun o147 => pq (f_X5_isNone S D o147 x4) fun r152 => if r152 = 0 then (f_X0_judgeArithmetic_102 S o0 x1 x3 x4 x5 x6 D) else (some ((2 : Int32), D)))
def f_X0_judgeArithmetic_65 (S : sh) (o0 : Nat) (x1 : Int32) (x3 : Int32) (x4 : Int32) (x5 : Int32) (xs0 : Int32) (D : dt) : Option (Int32 × dt) := if xs0 = 0 then (rq (gR D o0 4) fun o155 => pq (f_X5_isNone S D o155 x3) fun r160 => if r160 = 0 then (f_X0_judgeArithmetic_83 S o0 x1 x3 x4 x5 xs0 D) else (some ((2 : Int32), D))) else (f_X0_judgeArithmetic_83 S o0 x1 x3 x4 x5 xs0 D)
def f_X0_judgeArithmetic_52 (S : sh) (o0 : Nat) (x1 : Int32) (x2 : Int32) (x3 : Int32) (x4 : Int32) (xs0 : Int32) (D : dt) : Option (Int32 × dt) := if x2 = (11 : Int32) then (f_X0_judgeArithmetic_65 S o0 x1 x3 x4 xs0 (1 : Int32) D) else (f_X0_judgeArithmetic_65 S o0 x1 x3 x4 xs0 (0 : Int32) D)
def f_X0_judgeArithmetic_51 (S : sh) (o0 : Nat) (x1 : Int32) (x2 : Int32) (x3 : Int32) (x4 : Int32) (D : dt) : Option (Int32 × dt) := f_X0_judgeArithmetic_52 S o0 x1 x2 x3 x4 (0 : Int32) D
def f_X0_judgeArithmetic (S : sh) (o0 : Nat) (x1 : Int32) (D : dt) : Option (Int32 × dt) := rq (gR D o0 0) fun o163 => pq (f_X4_code S D o163 x1) fun r168 => rq (gR D o0 0) fun o169 => rq (gR D o169 1) fun o173 => ix x1 (sA S o173) <| nm (gI D o173 x1.toNatClampNeg) fun y178 => rq (gR D o0 0) fun o179 => rq (gR D o179 2) fun o183 => ix x1 (sA S o183) <| nm (gI D o183 x1.toNatClampNeg) fun y188 => if r168 = (13 : Int32) then (f_X0_judgeArithmetic_51 S o0 x1 r168 y178 y188 D) else (rq (gR D o0 0) fun o190 => pq (f_X4_byRegister S D o190 x1) fun r195 => if r195 = 0 then (f_X0_judgeArithmetic_51 S o0 x1 r168 y178 y188 D) else (f_X0_judgeArithmetic_52 S o0 x1 r168 y178 y188 (1 : Int32) D))
-- JudgedCode$Judge.given
def f_X0_given (x0 : Int32) : Option Int32 := if x0 = 2 then (some (4 : Int32)) else if x0 = 3 then (some (2 : Int32)) else if x0 = 4 then (some (2 : Int32)) else if x0 = 5 then (some (0 : Int32)) else if x0 = 6 then (some (1 : Int32)) else (some (2 : Int32))
-- JudgedCode$Judge.judgeTableCall
def f_X0_judgeTableCall_78 (S : sh) (D : dt) (o0 : Nat) (o2 : Nat) (x3 : Int32) : Option Int32 := pq (f_X0_canBeRead S D o0 (2 : Int32) (0 : Int32) (gI D o2 1)) fun r52 => if r52 = 0 then (some (4 : Int32)) else (if x3 = 0 then (some (0 : Int32)) else (pq (f_X0_canBeRead S D o0 (3 : Int32) (0 : Int32) (gI D o2 2)) fun r56 => if r56 = 0 then (some (4 : Int32)) else (some (0 : Int32))))
def f_X0_judgeTableCall_52 (S : sh) (D : dt) (o0 : Nat) (o2 : Nat) (xs0 : Int32) : Option Int32 := if xs0 = 0 then (f_X0_judgeTableCall_78 S D o0 o2 xs0) else (pq (f_X0_canBeReached S D o0 (3 : Int32)) fun r60 => if r60 = 0 then (some (3 : Int32)) else (rq (gR D o0 4) fun o62 => pq (f_X5_isNumber S D o62 (4 : Int32)) fun r67 => if r67 = 0 then (some (3 : Int32)) else (f_X0_judgeTableCall_78 S D o0 o2 xs0)))
def f_X0_judgeTableCall (S : sh) (D : dt) (o0 : Nat) (x1 : Int32) : Option Int32 := rq (gR D o0 1) fun o69 => rq (gR D o0 4) fun o73 => pq (f_X5_tableOf S D o73 (1 : Int32)) fun r78 => pq (f_X2_tableNumbered S D o69 r78) fun r80 => oq r80 (rq (gR D o0 4) fun o83 => pq (f_X5_kind S D o83 (1 : Int32)) fun r88 => if r88 = (4 : Int32) then (some (3 : Int32)) else (some (3 : Int32))) fun o81 => rq (gR D o0 4) fun o90 => pq (f_X5_kind S D o90 (1 : Int32)) fun r95 => if r95 = (4 : Int32) then (pq (f_X0_canBeReached S D o0 (2 : Int32)) fun r98 => if r98 = 0 then (some (3 : Int32)) else (if x1 = (2 : Int32) then (f_X0_judgeTableCall_52 S D o0 o81 (1 : Int32)) else (f_X0_judgeTableCall_52 S D o0 o81 (0 : Int32)))) else (some (3 : Int32))
-- JudgedCode$Judge.judgeCall
def f_X0_judgeCall_132 (S : sh) : Nat → Nat → Int32 → dt → Option (Int32 × dt)
  | 0, _, _, _ => none
  | n + 1, o0, x6, D => if (5 : Int32) < x6 then (some ((0 : Int32), D)) else (rq (gR D o0 4) fun o57 => cq (f_X5_write S o57 x6 (0 : Int32) (0 : Int64) (0 : Int64) D) fun _ D62 => nm (x6 + 1) fun y63 => f_X0_judgeCall_132 S n o0 y63 D62)
def f_X0_judgeCall_129 (S : sh) (o0 : Nat) (D : dt) : Option (Int32 × dt) := nm ((1 : Int32)) fun y64 => f_X0_judgeCall_132 S LF o0 y64 D
def f_X0_judgeCall_83 (S : sh) (o0 : Nat) (x1 : Int32) (x2 : Int32) (x4 : Int32) (xs0 : Int32) (D : dt) : Option (Int32 × dt) := if xs0 = 0 then (if x2 = (1 : Int32) then (rq (gR D o0 4) fun o73 => pq (f_X5_tagOf (6 : Int32) x4 x1) fun r78 => cq (f_X5_write S o73 (0 : Int32) r78 (0 : Int64) (0 : Int64) D) fun _ D80 => f_X0_judgeCall_129 S o0 D80) else (rq (gR D o0 4) fun o67 => cq (f_X5_writeAny S o67 (0 : Int32) (8 : Int32) D) fun _ D72 => f_X0_judgeCall_129 S o0 D72)) else (some (xs0, D))
def f_X0_judgeCall_74 (S : sh) (o0 : Nat) (x1 : Int32) (x2 : Int32) (x4 : Int32) (D : dt) : Option (Int32 × dt) := f_X0_judgeCall_83 S o0 x1 x2 x4 (0 : Int32) D
def f_X0_judgeCall_53 (S : sh) (o0 : Nat) (x1 : Int32) (x2 : Int32) (D : dt) : Option (Int32 × dt) := rq (gR D o0 4) fun o81 => pq (f_X5_tableOf S D o81 (1 : Int32)) fun r86 => if x2 = (6 : Int32) then (f_X0_judgeCall_74 S o0 x1 x2 r86 D) else (if x2 = (5 : Int32) then (f_X0_judgeCall_74 S o0 x1 x2 r86 D) else (pq (f_X0_judgeTableCall S D o0 x2) fun r90 => f_X0_judgeCall_83 S o0 x1 x2 r86 r90 D))
def f_X0_judgeCall_8 (S : sh) : Nat → Nat → Int32 → Int32 → Int32 → Int32 → dt → Option (Int32 × dt)
  | 0, _, _, _, _, _, _ => none
  | n + 1, o0, x1, x2, x3, x4, D => if x3 < x4 then (if x2 = (6 : Int32) then (rq (gR D o0 4) fun o93 => pq (f_X5_isNumber S D o93 (1 : Int32)) fun r98 => if r98 = 0 then (some ((3 : Int32), D)) else (f_X0_judgeCall_53 S o0 x1 x2 D)) else (f_X0_judgeCall_53 S o0 x1 x2 D)) else (rq (gR D o0 4) fun o100 => pq (f_X5_isNone S D o100 x4) fun r105 => if r105 = 0 then (nm (x4 + 1) fun y107 => f_X0_judgeCall_8 S n o0 x1 x2 x3 y107 D) else (some ((2 : Int32), D)))
def f_X0_judgeCall (S : sh) (o0 : Nat) (x1 : Int32) (x2 : Int32) (D : dt) : Option (Int32 × dt) := pq (f_X0_given x2) fun r109 => nm ((1 : Int32)) fun y110 => f_X0_judgeCall_8 S LF o0 x1 x2 r109 y110 D
-- JudgedCode$Judge.goBothWays
def f_X0_goBothWays (S : sh) (o0 : Nat) (x1 : Int32) (D : dt) : Option (Unit × dt) := rq (gR D o0 5) fun o22 => rq (gR D o0 4) fun o26 => cq (f_X5_copyFrom S o22 o26 D) fun _ D31 => nm (pI D31 o0 10 (1 : Int32)) fun D32 => rq (gR D32 o0 0) fun o33 => rq (gR D32 o33 3) fun o37 => ix x1 (sA S o37) <| nm (pL D32 o0 11 ((x1.toInt64 + (1 : Int64)) + ((gI D32 o37 x1.toNatClampNeg).toInt64))) fun D42 => some ((), D42)
-- JudgedCode$Judge.settleBoth
def f_X0_settleBoth_14 (S : sh) (o0 : Nat) (x1 : Int32) (x2 : Int32) (os0 : Nat) (xs1 : Int32) (xs2 : Int32) (D : dt) : Option (Unit × dt) := cq (f_X5_settle S os0 xs1 xs2 D) fun _ D15 => rq (gR D15 o0 5) fun o16 => cq (f_X5_settle S o16 x1 x2 D15) fun _ D21 => some ((), D21)
def f_X0_settleBoth (S : sh) (o0 : Nat) (x1 : Int32) (x2 : Int32) (D : dt) : Option (Unit × dt) := rq (gR D o0 4) fun o22 => if x2 = 0 then (f_X0_settleBoth_14 S o0 x1 x2 o22 x1 (1 : Int32) D) else (f_X0_settleBoth_14 S o0 x1 x2 o22 x1 (0 : Int32) D)
-- JudgedCode$Judge.comparesUnsigned
def f_X0_comparesUnsigned_22 : Option Int32 := some (1 : Int32)
def f_X0_comparesUnsigned (x0 : Int32) : Option Int32 := if x0 = (2 : Int32) then (f_X0_comparesUnsigned_22) else (if x0 = (3 : Int32) then (f_X0_comparesUnsigned_22) else (if x0 = (10 : Int32) then (f_X0_comparesUnsigned_22) else (if x0 = (11 : Int32) then (f_X0_comparesUnsigned_22) else (some (0 : Int32)))))
-- JudgedCode$Judge.opposite
def f_X0_opposite (x0 : Int32) : Option Int32 := if x0 = 1 then (some (5 : Int32)) else if x0 = 2 then (some (11 : Int32)) else if x0 = 3 then (some (10 : Int32)) else if x0 = 4 then (some (2 : Int32)) else if x0 = 5 then (some (1 : Int32)) else if x0 = 6 then (some (2 : Int32)) else if x0 = 7 then (some (2 : Int32)) else if x0 = 8 then (some (2 : Int32)) else if x0 = 9 then (some (2 : Int32)) else if x0 = 10 then (some (3 : Int32)) else (some (2 : Int32))
-- JudgedCode$Judge.narrowBoth
def f_X0_narrowBoth (S : sh) (o0 : Nat) (x1 : Int32) (x2 : Int32) (x3 : Int64) (D : dt) : Option (Unit × dt) := rq (gR D o0 6) fun o73 => rq (gR D o0 4) fun o77 => rq (gR D o77 2) fun o81 => ix x1 (sA S o81) <| rq (gR D o0 4) fun o86 => rq (gR D o86 3) fun o90 => ix x1 (sA S o90) <| cq (f_X6_first S o73 (gL D o81 x1.toNatClampNeg) (gL D o90 x1.toNatClampNeg) D) fun _ D96 => rq (gR D96 o0 6) fun o97 => pq (f_X0_opposite x2) fun r102 => cq (f_X6_narrow S o97 r102 x3 D96) fun r104 D105 => ck (r104 = 0 ∨ r104 = 1) <| nm (pI D105 o0 8 r104) fun D106 => rq (gR D106 o0 4) fun o108 => rq (gR D106 o0 6) fun o112 => rq (gR D106 o0 6) fun o116 => cq (f_X5_write S o108 x1 (1 : Int32) (gL D106 o112 0) (gL D106 o116 1) D106) fun _ D121 => rq (gR D121 o0 6) fun o122 => cq (f_X6_narrow S o122 x2 x3 D121) fun r127 D128 => ck (r127 = 0 ∨ r127 = 1) <| nm (pI D128 o0 10 r127) fun D129 => rq (gR D129 o0 5) fun o131 => rq (gR D129 o0 6) fun o135 => rq (gR D129 o0 6) fun o139 => cq (f_X5_write S o131 x1 (1 : Int32) (gL D129 o135 0) (gL D129 o139 1) D129) fun _ D144 => some ((), D144)
-- JudgedCode$Judge.changedAbout
def f_X0_changedAbout (x0 : Int32) : Option Int32 := if x0 = 2 then (some (10 : Int32)) else if x0 = 3 then (some (11 : Int32)) else if x0 = 4 then (some x0) else if x0 = 5 then (some x0) else if x0 = 6 then (some x0) else if x0 = 7 then (some x0) else if x0 = 8 then (some x0) else if x0 = 9 then (some x0) else if x0 = 10 then (some (2 : Int32)) else if x0 = 11 then (some (3 : Int32)) else (some x0)
theorem mk_X0_makeNumber : MkV yX0_makeNumber RX0 cX0_makeNumber 9 none 2 := ⟨⟨lk_676, lk_23, lk_118, (tb_in (i := 677) (by decide +kernel) (by decide +kernel))⟩, by decide +kernel⟩
theorem mk_X0_isSmall : MkV yX0_isSmall RX0 cX0_isSmall 2 (some .boolean) 1 := ⟨⟨lk_760, lk_31, lk_118, (tb_in (i := 761) (by decide +kernel) (by decide +kernel))⟩, by decide +kernel⟩
theorem mk_X0_shiftPlace : MkV yX0_shiftPlace RX0 cX0_shiftPlace 17 (some .boolean) 2 := ⟨⟨lk_756, lk_30, lk_118, (tb_in (i := 757) (by decide +kernel) (by decide +kernel))⟩, by decide +kernel⟩
theorem mk_X0_judgeArithmetic : MkV yX0_judgeArithmetic RX0 cX0_judgeArithmetic 7 (some .int) 1 := ⟨⟨lk_669, lk_22, lk_118, (tb_in (i := 670) (by decide +kernel) (by decide +kernel))⟩, by decide +kernel⟩
theorem mk_X0_given : MkS yX0_given cX0_given 1 (some .int) 1 := ⟨⟨lk_774, lk_118, (tb_in (i := 775) (by decide +kernel) (by decide +kernel))⟩, by decide +kernel⟩
theorem mk_X0_judgeTableCall : MkV yX0_judgeTableCall RX0 cX0_judgeTableCall 4 (some .int) 1 := ⟨⟨lk_778, lk_33, lk_118, (tb_in (i := 779) (by decide +kernel) (by decide +kernel))⟩, by decide +kernel⟩
theorem mk_X0_judgeCall : MkV yX0_judgeCall RX0 cX0_judgeCall 7 (some .int) 2 := ⟨⟨lk_771, lk_32, lk_118, (tb_in (i := 772) (by decide +kernel) (by decide +kernel))⟩, by decide +kernel⟩
theorem mk_X0_goBothWays : MkV yX0_goBothWays RX0 cX0_goBothWays 2 none 1 := ⟨⟨lk_794, lk_36, lk_118, (tb_in (i := 795) (by decide +kernel) (by decide +kernel))⟩, by decide +kernel⟩
theorem mk_X0_settleBoth : MkV yX0_settleBoth RX0 cX0_settleBoth 3 none 2 := ⟨⟨lk_798, lk_37, lk_118, (tb_in (i := 799) (by decide +kernel) (by decide +kernel))⟩, by decide +kernel⟩
theorem mk_X0_comparesUnsigned : MkS yX0_comparesUnsigned cX0_comparesUnsigned 1 (some .boolean) 1 := ⟨⟨lk_807, lk_118, (tb_in (i := 808) (by decide +kernel) (by decide +kernel))⟩, by decide +kernel⟩
theorem mk_X0_opposite : MkS yX0_opposite cX0_opposite 1 (some .int) 1 := ⟨⟨lk_818, lk_118, (tb_in (i := 819) (by decide +kernel) (by decide +kernel))⟩, by decide +kernel⟩
theorem mk_X0_narrowBoth : MkV yX0_narrowBoth RX0 cX0_narrowBoth 5 none 3 := ⟨⟨lk_815, lk_38, lk_118, (tb_in (i := 816) (by decide +kernel) (by decide +kernel))⟩, by decide +kernel⟩
theorem mk_X0_changedAbout : MkS yX0_changedAbout cX0_changedAbout 1 (some .int) 1 := ⟨⟨lk_829, lk_118, (tb_in (i := 830) (by decide +kernel) (by decide +kernel))⟩, by decide +kernel⟩
section
variable {p : Program} {l : Launch} {e : Env} {R : Room} {s : State} {m : MethodId} {args : Array Value} {below : List Frame} {meth : Method} {c : Code} {H : Heap} {locs : List Loc} {G : va_G} {cA : Nat → ClassId} {S : sh} {D : dt} {ad : Nat → Nat} {A : Nat → Prop}
set_option maxHeartbeats 4000000 in
set_option maxRecDepth 100000 in
theorem w_X0_makeNumber_223 {r : Unit} {D' : dt} (hC : Cx RX0 cX0_makeNumber 9 none p s m args meth c) (hR : 3 ≤ R.frames ∧ 88 ≤ R.locals) : ∀ (o0 a0 : Nat) (x4 : Int32) (D : dt) (H : Heap) (locs : List Loc) (ls : Array Slot), Is S ad o0 a0 0 → Wd G cA S D ad A s H locs → lv_has ls 9 [(0, .ref a0), (4, .int x4)] → f_X0_makeNumber_223 S o0 x4 D = some (r, D') → W p l e R s m args below meth c H locs 0 0 (MQ below (Qn none True (wpost G cA S D' ad A) A) args s 0 0 A) (F0 m 223 ls []) := by
  obtain ⟨hx, hb, -⟩ := id hC
  intro o0 a0 x4 D H locs ls hi0 hw hl h
  unfold f_X0_makeNumber_223 at h
  refine lv_aload_n hx hb dX0_makeNumber_223 rfl (lv_at hl 0 rfl) ?_
  obtain ⟨o155, ho158, h⟩ := rq_i h
  refine r_getR hC hw kc_0 hi0 4 rfl lk_321 dX0_makeNumber_224 rfl ho158 (fun a156 hi157 => ?_)
  refine lv_iload hx hb dX0_makeNumber_227 (lv_at hl 1 rfl) ?_
  refine lv_iconst (v := 1) hx hb dX0_makeNumber_229 (by decide) ?_
  refine lv_aload_n hx hb dX0_makeNumber_230 rfl (lv_at hl 0 rfl) ?_
  obtain ⟨o159, ho162, h⟩ := rq_i h
  refine r_getR hC hw kc_0 hi0 6 rfl lk_323 dX0_makeNumber_231 rfl ho162 (fun a160 hi161 => ?_)
  refine r_gL hC hw kc_5 hi161 0 rfl lk_294 dX0_makeNumber_234 ?_
  refine lv_aload_n hx hb dX0_makeNumber_237 rfl (lv_at hl 0 rfl) ?_
  obtain ⟨o163, ho166, h⟩ := rq_i h
  refine r_getR hC hw kc_0 hi0 6 rfl lk_323 dX0_makeNumber_238 rfl ho166 (fun a164 hi165 => ?_)
  refine r_gL hC hw kc_5 hi165 1 rfl lk_296 dX0_makeNumber_241 ?_
  obtain ⟨_, D168, hq167, h⟩ := cq_i h
  refine r_cV (st' := []) [.int x4, .int (1 : Int32), .long (gL D o159 0), .long (gL D o163 1)] [] hC hw kc_4 hi157 (k_X5_write _ hi157 hq167) mk_X5_write lk_572 ⟨Nat.le_trans (by decide) hR.1, Nat.le_trans (by decide) hR.2⟩ ⟨Nat.zero_le _, Nat.zero_le _⟩ rfl hl.1 rfl rfl (Nat.le_of_ble_eq_true rfl) dX0_makeNumber_244 (fun hP H locs hw => ?_)
  cases h
  exact r_vret hC hw dX0_makeNumber_247
set_option maxHeartbeats 4000000 in
set_option maxRecDepth 100000 in
theorem w_X0_makeNumber_192 {r : Unit} {D' : dt} (hC : Cx RX0 cX0_makeNumber 9 none p s m args meth c) (hR : 3 ≤ R.frames ∧ 88 ≤ R.locals) : ∀ (o0 a0 : Nat) (x4 : Int32) (os0 as0 : Nat) (xs1 : Int32) (xs2 : Int32) (D : dt) (H : Heap) (locs : List Loc) (ls : Array Slot), Is S ad o0 a0 0 → Is S ad os0 as0 5 → Wd G cA S D ad A s H locs → lv_has ls 9 [(0, .ref a0), (4, .int x4)] → f_X0_makeNumber_192 S o0 x4 os0 xs1 xs2 D = some (r, D') → W p l e R s m args below meth c H locs 0 0 (MQ below (Qn none True (wpost G cA S D' ad A) A) args s 0 0 A) (F0 m 192 ls [.int xs2, .int xs1, .ref as0]) := by
  obtain ⟨hx, hb, -⟩ := id hC
  intro o0 a0 x4 os0 as0 xs1 xs2 D H locs ls hi0 his0 hw hl h
  unfold f_X0_makeNumber_192 at h
  obtain ⟨_, D170, hq169, h⟩ := cq_i h
  refine r_cV (st' := []) [.int xs1, .int xs2] [] hC hw kc_5 his0 (k_X6_turn _ his0 hq169) mk_X6_turn lk_686 ⟨Nat.le_trans (by decide) hR.1, Nat.le_trans (by decide) hR.2⟩ ⟨Nat.zero_le _, Nat.zero_le _⟩ rfl hl.1 rfl rfl (Nat.le_of_ble_eq_true rfl) dX0_makeNumber_192 (fun hP H locs hw => ?_)
  refine lv_goto (tgt := 223) hx hb dX0_makeNumber_195 (by decide) ?_
  exact w_X0_makeNumber_223 hC hR o0 a0 x4 _ _ _ _ hi0 hw (lv_sub hl [0, 1] rfl) h
set_option maxHeartbeats 4000000 in
set_option maxRecDepth 100000 in
theorem w_X0_makeNumber_187 {r : Unit} {D' : dt} (hC : Cx RX0 cX0_makeNumber 9 none p s m args meth c) (hR : 3 ≤ R.frames ∧ 88 ≤ R.locals) : ∀ (o0 a0 : Nat) (x4 : Int32) (os0 as0 : Nat) (xs1 : Int32) (D : dt) (H : Heap) (locs : List Loc) (ls : Array Slot), Is S ad o0 a0 0 → Is S ad os0 as0 5 → Wd G cA S D ad A s H locs → lv_has ls 9 [(0, .ref a0), (4, .int x4)] → f_X0_makeNumber_187 S o0 x4 os0 xs1 D = some (r, D') → W p l e R s m args below meth c H locs 0 0 (MQ below (Qn none True (wpost G cA S D' ad A) A) args s 0 0 A) (F0 m 187 ls [.int xs1, .ref as0]) := by
  obtain ⟨hx, hb, -⟩ := id hC
  intro o0 a0 x4 os0 as0 xs1 D H locs ls hi0 his0 hw hl h
  unfold f_X0_makeNumber_187 at h
  refine lv_iconst (v := 1) hx hb dX0_makeNumber_187 (by decide) ?_
  refine lv_goto (tgt := 192) hx hb dX0_makeNumber_188 (by decide) ?_
  exact w_X0_makeNumber_192 hC hR o0 a0 x4 os0 as0 xs1 (1 : Int32) _ _ _ _ hi0 his0 hw (lv_sub hl [0, 1] rfl) h
set_option maxHeartbeats 4000000 in
set_option maxRecDepth 100000 in
theorem w_X0_makeNumber_143 {r : Unit} {D' : dt} (hC : Cx RX0 cX0_makeNumber 9 none p s m args meth c) (hR : 3 ≤ R.frames ∧ 88 ≤ R.locals) : ∀ (o0 a0 : Nat) (x1 : Int32) (x3 : Int32) (x4 : Int32) (os0 as0 : Nat) (xs1 : Int64) (xs2 : Int64) (D : dt) (H : Heap) (locs : List Loc) (ls : Array Slot), Is S ad o0 a0 0 → Is S ad os0 as0 5 → Wd G cA S D ad A s H locs → lv_has ls 9 [(0, .ref a0), (1, .int x1), (3, .int x3), (4, .int x4)] → f_X0_makeNumber_143 S o0 x1 x3 x4 os0 xs1 xs2 D = some (r, D') → W p l e R s m args below meth c H locs 0 0 (MQ below (Qn none True (wpost G cA S D' ad A) A) args s 0 0 A) (F0 m 143 ls [.long xs2, .long xs1, .ref as0]) := by
  obtain ⟨hx, hb, -⟩ := id hC
  intro o0 a0 x1 x3 x4 os0 as0 xs1 xs2 D H locs ls hi0 his0 hw hl h
  unfold f_X0_makeNumber_143 at h
  obtain ⟨_, D172, hq171, h⟩ := cq_i h
  refine r_cV (st' := []) [.long xs1, .long xs2] [] hC hw kc_5 his0 (k_X6_second _ his0 hq171) mk_X6_second lk_682 ⟨Nat.le_trans (by decide) hR.1, Nat.le_trans (by decide) hR.2⟩ ⟨Nat.zero_le _, Nat.zero_le _⟩ rfl hl.1 rfl rfl (Nat.le_of_ble_eq_true rfl) dX0_makeNumber_143 (fun hP H locs hw => ?_)
  refine lv_iload_n hx hb dX0_makeNumber_146 rfl (lv_at hl 2 rfl) ?_
  refine lv_bipush (v := 13) hx hb dX0_makeNumber_147 (by decide) ?_
  refine lv_icmp_ne (tgt := 198) hx hb dX0_makeNumber_149 (by decide) (fun c173 => ?_) (fun c173 => ?_)
  · have h := i_no c173 h
    refine lv_aload_n hx hb dX0_makeNumber_198 rfl (lv_at hl 0 rfl) ?_
    obtain ⟨o174, ho177, h⟩ := rq_i h
    refine r_getR hC hw kc_0 hi0 6 rfl lk_323 dX0_makeNumber_199 rfl ho177 (fun a175 hi176 => ?_)
    refine lv_iload_n hx hb dX0_makeNumber_202 rfl (lv_at hl 2 rfl) ?_
    refine lv_aload_n hx hb dX0_makeNumber_203 rfl (lv_at hl 0 rfl) ?_
    obtain ⟨o178, ho181, h⟩ := rq_i h
    refine r_getR hC hw kc_0 hi0 0 rfl lk_317 dX0_makeNumber_204 rfl ho181 (fun a179 hi180 => ?_)
    refine lv_iload_n hx hb dX0_makeNumber_207 rfl (lv_at hl 1 rfl) ?_
    obtain ⟨r183, hq182, h⟩ := pq_i h
    refine r_cV (st' := [.int r183, .int x3, .ref a175]) [.int x1] [.int x3, .ref a175] hC hw kc_3 hi180 (k_X4_isWide _ hi180 hq182) mk_X4_isWide lk_673 ⟨Nat.le_trans (by decide) hR.1, Nat.le_trans (by decide) hR.2⟩ ⟨Nat.zero_le _, Nat.zero_le _⟩ rfl hl.1 rfl rfl (Nat.le_of_ble_eq_true rfl) dX0_makeNumber_208 (fun hP H locs hw => ?_)
    refine lv_aload_n hx hb dX0_makeNumber_211 rfl (lv_at hl 0 rfl) ?_
    obtain ⟨o184, ho187, h⟩ := rq_i h
    refine r_getR hC hw kc_0 hi0 0 rfl lk_317 dX0_makeNumber_212 rfl ho187 (fun a185 hi186 => ?_)
    obtain ⟨o188, ho191, h⟩ := rq_i h
    refine r_getR hC hw kc_3 hi186 3 rfl lk_152 dX0_makeNumber_215 rfl ho191 (fun a189 hi190 => ?_)
    refine lv_iload_n hx hb dX0_makeNumber_218 rfl (lv_at hl 1 rfl) ?_
    obtain ⟨hn192, h⟩ := ix_i h
    refine r_iald hC hw hi190 hn192 dX0_makeNumber_219 ?_
    obtain ⟨_, D194, hq193, h⟩ := cq_i h
    refine r_cV (st' := []) [.int x3, .int r183, .int (gI D172 o188 x1.toNatClampNeg)] [] hC hw kc_5 hi176 (k_X6_make _ hi176 hq193) mk_X6_make lk_699 ⟨Nat.le_trans (by decide) hR.1, Nat.le_trans (by decide) hR.2⟩ ⟨Nat.zero_le _, Nat.zero_le _⟩ rfl hl.1 rfl rfl (Nat.le_of_ble_eq_true rfl) dX0_makeNumber_220 (fun hP H locs hw => ?_)
    exact w_X0_makeNumber_223 hC hR o0 a0 x4 _ _ _ _ hi0 hw (lv_sub hl [0, 3] rfl) h
  · have h := i_yes c173 h
    refine lv_aload_n hx hb dX0_makeNumber_152 rfl (lv_at hl 0 rfl) ?_
    obtain ⟨o195, ho198, h⟩ := rq_i h
    refine r_getR hC hw kc_0 hi0 6 rfl lk_323 dX0_makeNumber_153 rfl ho198 (fun a196 hi197 => ?_)
    refine lv_aload_n hx hb dX0_makeNumber_156 rfl (lv_at hl 0 rfl) ?_
    obtain ⟨o199, ho202, h⟩ := rq_i h
    refine r_getR hC hw kc_0 hi0 0 rfl lk_317 dX0_makeNumber_157 rfl ho202 (fun a200 hi201 => ?_)
    obtain ⟨o203, ho206, h⟩ := rq_i h
    refine r_getR hC hw kc_3 hi201 4 rfl lk_155 dX0_makeNumber_160 rfl ho206 (fun a204 hi205 => ?_)
    refine lv_iload_n hx hb dX0_makeNumber_163 rfl (lv_at hl 1 rfl) ?_
    obtain ⟨hn207, h⟩ := ix_i h
    refine r_iald hC hw hi205 hn207 dX0_makeNumber_164 ?_
    refine lv_aload_n hx hb dX0_makeNumber_165 rfl (lv_at hl 0 rfl) ?_
    obtain ⟨o208, ho211, h⟩ := rq_i h
    refine r_getR hC hw kc_0 hi0 0 rfl lk_317 dX0_makeNumber_166 rfl ho211 (fun a209 hi210 => ?_)
    refine lv_iload_n hx hb dX0_makeNumber_169 rfl (lv_at hl 1 rfl) ?_
    obtain ⟨r213, hq212, h⟩ := pq_i h
    refine r_cV (st' := [.int r213, .int (gI D172 o203 x1.toNatClampNeg), .ref a196]) [.int x1] [.int (gI D172 o203 x1.toNatClampNeg), .ref a196] hC hw kc_3 hi210 (k_X4_isWide _ hi210 hq212) mk_X4_isWide lk_673 ⟨Nat.le_trans (by decide) hR.1, Nat.le_trans (by decide) hR.2⟩ ⟨Nat.zero_le _, Nat.zero_le _⟩ rfl hl.1 rfl rfl (Nat.le_of_ble_eq_true rfl) dX0_makeNumber_170 (fun hP H locs hw => ?_)
    refine lv_if_ne (tgt := 187) hx hb dX0_makeNumber_173 (by decide) (fun c214 => ?_) (fun c214 => ?_)
    · have h := i_no c214 h
      exact w_X0_makeNumber_187 hC hR o0 a0 x4 o195 a196 (gI D172 o203 x1.toNatClampNeg) _ _ _ _ hi0 hi197 hw (lv_sub hl [0, 3] rfl) h
    · have h := i_yes c214 h
      refine lv_aload_n hx hb dX0_makeNumber_176 rfl (lv_at hl 0 rfl) ?_
      obtain ⟨o215, ho218, h⟩ := rq_i h
      refine r_getR hC hw kc_0 hi0 0 rfl lk_317 dX0_makeNumber_177 rfl ho218 (fun a216 hi217 => ?_)
      refine lv_iload_n hx hb dX0_makeNumber_180 rfl (lv_at hl 1 rfl) ?_
      obtain ⟨r220, hq219, h⟩ := pq_i h
      refine r_cV (st' := [.int r220, .int (gI D172 o203 x1.toNatClampNeg), .ref a196]) [.int x1] [.int (gI D172 o203 x1.toNatClampNeg), .ref a196] hC hw kc_3 hi217 (k_X4_byRegister _ hi217 hq219) mk_X4_byRegister lk_672 ⟨Nat.le_trans (by decide) hR.1, Nat.le_trans (by decide) hR.2⟩ ⟨Nat.zero_le _, Nat.zero_le _⟩ rfl hl.1 rfl rfl (Nat.le_of_ble_eq_true rfl) dX0_makeNumber_181 (fun hP H locs hw => ?_)
      refine lv_if_eq (tgt := 191) hx hb dX0_makeNumber_184 (by decide) (fun c221 => ?_) (fun c221 => ?_)
      · have h := i_yes c221 h
        refine lv_iconst (v := 0) hx hb dX0_makeNumber_191 (by decide) ?_
        exact w_X0_makeNumber_192 hC hR o0 a0 x4 o195 a196 (gI D172 o203 x1.toNatClampNeg) (0 : Int32) _ _ _ _ hi0 hi197 hw (lv_sub hl [0, 3] rfl) h
      · have h := i_no c221 h
        exact w_X0_makeNumber_187 hC hR o0 a0 x4 o195 a196 (gI D172 o203 x1.toNatClampNeg) _ _ _ _ hi0 hi197 hw (lv_sub hl [0, 3] rfl) h
set_option maxHeartbeats 4000000 in
set_option maxRecDepth 100000 in
theorem w_X0_makeNumber_124 {r : Unit} {D' : dt} (hC : Cx RX0 cX0_makeNumber 9 none p s m args meth c) (hR : 3 ≤ R.frames ∧ 88 ≤ R.locals) : ∀ (o0 a0 : Nat) (x1 : Int32) (x2 : Int32) (x3 : Int32) (x4 : Int32) (x5 : Int32) (x6 : Int64) (os0 as0 : Nat) (xs1 : Int64) (D : dt) (H : Heap) (locs : List Loc) (ls : Array Slot), Is S ad o0 a0 0 → Is S ad os0 as0 5 → Wd G cA S D ad A s H locs → lv_has ls 9 [(0, .ref a0), (1, .int x1), (2, .int x2), (3, .int x3), (4, .int x4), (5, .int x5), (6, .long x6)] → f_X0_makeNumber_124 S o0 x1 x2 x3 x4 x5 x6 os0 xs1 D = some (r, D') → W p l e R s m args below meth c H locs 0 0 (MQ below (Qn none True (wpost G cA S D' ad A) A) args s 0 0 A) (F0 m 124 ls [.long xs1, .ref as0]) := by
  obtain ⟨hx, hb, -⟩ := id hC
  intro o0 a0 x1 x2 x3 x4 x5 x6 os0 as0 xs1 D H locs ls hi0 his0 hw hl h
  unfold f_X0_makeNumber_124 at h
  refine lv_iload_n hx hb dX0_makeNumber_124 rfl (lv_at hl 2 rfl) ?_
  refine lv_if_eq (tgt := 141) hx hb dX0_makeNumber_125 (by decide) (fun c222 => ?_) (fun c222 => ?_)
  · have h := i_yes c222 h
    refine lv_lload hx hb dX0_makeNumber_141 (lv_at hl 6 rfl) ?_
    exact w_X0_makeNumber_143 hC hR o0 a0 x1 x3 x4 os0 as0 xs1 x6 _ _ _ _ hi0 his0 hw (lv_sub hl [0, 1, 3, 4] rfl) h
  · have h := i_no c222 h
    refine lv_aload_n hx hb dX0_makeNumber_128 rfl (lv_at hl 0 rfl) ?_
    obtain ⟨o223, ho226, h⟩ := rq_i h
    refine r_getR hC hw kc_0 hi0 4 rfl lk_321 dX0_makeNumber_129 rfl ho226 (fun a224 hi225 => ?_)
    obtain ⟨o227, ho230, h⟩ := rq_i h
    refine r_getR hC hw kc_4 hi225 3 rfl lk_270 dX0_makeNumber_132 rfl ho230 (fun a228 hi229 => ?_)
    refine lv_iload hx hb dX0_makeNumber_135 (lv_at hl 5 rfl) ?_
    obtain ⟨hn231, h⟩ := ix_i h
    refine r_lald hC hw hi229 hn231 dX0_makeNumber_137 ?_
    refine lv_goto (tgt := 143) hx hb dX0_makeNumber_138 (by decide) ?_
    exact w_X0_makeNumber_143 hC hR o0 a0 x1 x3 x4 os0 as0 xs1 (gL D o227 x5.toNatClampNeg) _ _ _ _ hi0 his0 hw (lv_sub hl [0, 1, 3, 4] rfl) h
set_option maxHeartbeats 4000000 in
set_option maxRecDepth 100000 in
theorem w_X0_makeNumber_98 {r : Unit} {D' : dt} (hC : Cx RX0 cX0_makeNumber 9 none p s m args meth c) (hR : 3 ≤ R.frames ∧ 88 ≤ R.locals) : ∀ (o0 a0 : Nat) (x1 : Int32) (x2 : Int32) (x3 : Int32) (x4 : Int32) (x5 : Int32) (x6 : Int64) (os0 as0 : Nat) (xs1 : Int64) (xs2 : Int64) (D : dt) (H : Heap) (locs : List Loc) (ls : Array Slot), Is S ad o0 a0 0 → Is S ad os0 as0 5 → Wd G cA S D ad A s H locs → lv_has ls 9 [(0, .ref a0), (1, .int x1), (2, .int x2), (3, .int x3), (4, .int x4), (5, .int x5), (6, .long x6)] → f_X0_makeNumber_98 S o0 x1 x2 x3 x4 x5 x6 os0 xs1 xs2 D = some (r, D') → W p l e R s m args below meth c H locs 0 0 (MQ below (Qn none True (wpost G cA S D' ad A) A) args s 0 0 A) (F0 m 98 ls [.long xs2, .long xs1, .ref as0]) := by
  obtain ⟨hx, hb, -⟩ := id hC
  intro o0 a0 x1 x2 x3 x4 x5 x6 os0 as0 xs1 xs2 D H locs ls hi0 his0 hw hl h
  unfold f_X0_makeNumber_98 at h
  obtain ⟨_, D233, hq232, h⟩ := cq_i h
  refine r_cV (st' := []) [.long xs1, .long xs2] [] hC hw kc_5 his0 (k_X6_first _ his0 hq232) mk_X6_first lk_678 ⟨Nat.le_trans (by decide) hR.1, Nat.le_trans (by decide) hR.2⟩ ⟨Nat.zero_le _, Nat.zero_le _⟩ rfl hl.1 rfl rfl (Nat.le_of_ble_eq_true rfl) dX0_makeNumber_98 (fun hP H locs hw => ?_)
  refine lv_aload_n hx hb dX0_makeNumber_101 rfl (lv_at hl 0 rfl) ?_
  obtain ⟨o234, ho237, h⟩ := rq_i h
  refine r_getR hC hw kc_0 hi0 6 rfl lk_323 dX0_makeNumber_102 rfl ho237 (fun a235 hi236 => ?_)
  refine lv_iload_n hx hb dX0_makeNumber_105 rfl (lv_at hl 2 rfl) ?_
  refine lv_if_eq (tgt := 122) hx hb dX0_makeNumber_106 (by decide) (fun c238 => ?_) (fun c238 => ?_)
  · have h := i_yes c238 h
    refine lv_lload hx hb dX0_makeNumber_122 (lv_at hl 6 rfl) ?_
    exact w_X0_makeNumber_124 hC hR o0 a0 x1 x2 x3 x4 x5 x6 o234 a235 x6 _ _ _ _ hi0 hi236 hw (lv_sub hl [0, 1, 2, 3, 4, 5, 6] rfl) h
  · have h := i_no c238 h
    refine lv_aload_n hx hb dX0_makeNumber_109 rfl (lv_at hl 0 rfl) ?_
    obtain ⟨o239, ho242, h⟩ := rq_i h
    refine r_getR hC hw kc_0 hi0 4 rfl lk_321 dX0_makeNumber_110 rfl ho242 (fun a240 hi241 => ?_)
    obtain ⟨o243, ho246, h⟩ := rq_i h
    refine r_getR hC hw kc_4 hi241 2 rfl lk_268 dX0_makeNumber_113 rfl ho246 (fun a244 hi245 => ?_)
    refine lv_iload hx hb dX0_makeNumber_116 (lv_at hl 5 rfl) ?_
    obtain ⟨hn247, h⟩ := ix_i h
    refine r_lald hC hw hi245 hn247 dX0_makeNumber_118 ?_
    refine lv_goto (tgt := 124) hx hb dX0_makeNumber_119 (by decide) ?_
    exact w_X0_makeNumber_124 hC hR o0 a0 x1 x2 x3 x4 x5 x6 o234 a235 (gL D233 o243 x5.toNatClampNeg) _ _ _ _ hi0 hi236 hw (lv_sub hl [0, 1, 2, 3, 4, 5, 6] rfl) h
set_option maxHeartbeats 4000000 in
set_option maxRecDepth 100000 in
theorem w_X0_makeNumber_79 {r : Unit} {D' : dt} (hC : Cx RX0 cX0_makeNumber 9 none p s m args meth c) (hR : 3 ≤ R.frames ∧ 88 ≤ R.locals) : ∀ (o0 a0 : Nat) (x1 : Int32) (x2 : Int32) (x3 : Int32) (x4 : Int32) (x5 : Int32) (x6 : Int64) (x8 : Int32) (os0 as0 : Nat) (xs1 : Int64) (D : dt) (H : Heap) (locs : List Loc) (ls : Array Slot), Is S ad o0 a0 0 → Is S ad os0 as0 5 → Wd G cA S D ad A s H locs → lv_has ls 9 [(0, .ref a0), (1, .int x1), (2, .int x2), (3, .int x3), (4, .int x4), (5, .int x5), (6, .long x6), (8, .int x8)] → f_X0_makeNumber_79 S o0 x1 x2 x3 x4 x5 x6 x8 os0 xs1 D = some (r, D') → W p l e R s m args below meth c H locs 0 0 (MQ below (Qn none True (wpost G cA S D' ad A) A) args s 0 0 A) (F0 m 79 ls [.long xs1, .ref as0]) := by
  obtain ⟨hx, hb, -⟩ := id hC
  intro o0 a0 x1 x2 x3 x4 x5 x6 x8 os0 as0 xs1 D H locs ls hi0 his0 hw hl h
  unfold f_X0_makeNumber_79 at h
  refine lv_iload hx hb dX0_makeNumber_79 (lv_at hl 7 rfl) ?_
  refine lv_if_eq (tgt := 88) hx hb dX0_makeNumber_81 (by decide) (fun c248 => ?_) (fun c248 => ?_)
  · have h := i_yes c248 h
    refine lv_aload_n hx hb dX0_makeNumber_88 rfl (lv_at hl 0 rfl) ?_
    obtain ⟨o249, ho252, h⟩ := rq_i h
    refine r_getR hC hw kc_0 hi0 4 rfl lk_321 dX0_makeNumber_89 rfl ho252 (fun a250 hi251 => ?_)
    obtain ⟨o253, ho256, h⟩ := rq_i h
    refine r_getR hC hw kc_4 hi251 3 rfl lk_270 dX0_makeNumber_92 rfl ho256 (fun a254 hi255 => ?_)
    refine lv_iload hx hb dX0_makeNumber_95 (lv_at hl 4 rfl) ?_
    obtain ⟨hn257, h⟩ := ix_i h
    refine r_lald hC hw hi255 hn257 dX0_makeNumber_97 ?_
    exact w_X0_makeNumber_98 hC hR o0 a0 x1 x2 x3 x4 x5 x6 os0 as0 xs1 (gL D o253 x4.toNatClampNeg) _ _ _ _ hi0 his0 hw (lv_sub hl [0, 1, 2, 3, 4, 5, 6] rfl) h
  · have h := i_no c248 h
    refine lv_lconst (v := 0) hx hb dX0_makeNumber_84 (by decide) ?_
    refine lv_goto (tgt := 98) hx hb dX0_makeNumber_85 (by decide) ?_
    exact w_X0_makeNumber_98 hC hR o0 a0 x1 x2 x3 x4 x5 x6 os0 as0 xs1 (0 : Int64) _ _ _ _ hi0 his0 hw (lv_sub hl [0, 1, 2, 3, 4, 5, 6] rfl) h
set_option maxHeartbeats 4000000 in
set_option maxRecDepth 100000 in
theorem w_X0_makeNumber_54 {r : Unit} {D' : dt} (hC : Cx RX0 cX0_makeNumber 9 none p s m args meth c) (hR : 3 ≤ R.frames ∧ 88 ≤ R.locals) : ∀ (o0 a0 : Nat) (x1 : Int32) (x2 : Int32) (x3 : Int32) (x4 : Int32) (x5 : Int32) (x6 : Int64) (xs0 : Int32) (D : dt) (H : Heap) (locs : List Loc) (ls : Array Slot), Is S ad o0 a0 0 → Wd G cA S D ad A s H locs → lv_has ls 9 [(0, .ref a0), (1, .int x1), (2, .int x2), (3, .int x3), (4, .int x4), (5, .int x5), (6, .long x6)] → f_X0_makeNumber_54 S o0 x1 x2 x3 x4 x5 x6 xs0 D = some (r, D') → W p l e R s m args below meth c H locs 0 0 (MQ below (Qn none True (wpost G cA S D' ad A) A) args s 0 0 A) (F0 m 54 ls [.int xs0]) := by
  obtain ⟨hx, hb, -⟩ := id hC
  intro o0 a0 x1 x2 x3 x4 x5 x6 xs0 D H locs ls hi0 hw hl h
  unfold f_X0_makeNumber_54 at h
  refine lv_istore (lv' := [(8, .int xs0), (0, .ref a0), (1, .int x1), (2, .int x2), (3, .int x3), (4, .int x4), (5, .int x5), (6, .long x6)]) hx hb dX0_makeNumber_54 hl (by decide) rfl (fun ls hl => ?_)
  refine lv_aload_n hx hb dX0_makeNumber_56 rfl (lv_at hl 1 rfl) ?_
  obtain ⟨o258, ho261, h⟩ := rq_i h
  refine r_getR hC hw kc_0 hi0 6 rfl lk_323 dX0_makeNumber_57 rfl ho261 (fun a259 hi260 => ?_)
  refine lv_iload hx hb dX0_makeNumber_60 (lv_at hl 0 rfl) ?_
  refine lv_if_eq (tgt := 69) hx hb dX0_makeNumber_62 (by decide) (fun c262 => ?_) (fun c262 => ?_)
  · have h := i_yes c262 h
    refine lv_aload_n hx hb dX0_makeNumber_69 rfl (lv_at hl 1 rfl) ?_
    obtain ⟨o263, ho266, h⟩ := rq_i h
    refine r_getR hC hw kc_0 hi0 4 rfl lk_321 dX0_makeNumber_70 rfl ho266 (fun a264 hi265 => ?_)
    obtain ⟨o267, ho270, h⟩ := rq_i h
    refine r_getR hC hw kc_4 hi265 2 rfl lk_268 dX0_makeNumber_73 rfl ho270 (fun a268 hi269 => ?_)
    refine lv_iload hx hb dX0_makeNumber_76 (lv_at hl 5 rfl) ?_
    obtain ⟨hn271, h⟩ := ix_i h
    refine r_lald hC hw hi269 hn271 dX0_makeNumber_78 ?_
    exact w_X0_makeNumber_79 hC hR o0 a0 x1 x2 x3 x4 x5 x6 xs0 o258 a259 (gL D o267 x4.toNatClampNeg) _ _ _ _ hi0 hi260 hw (lv_sub hl [1, 2, 3, 4, 5, 6, 7, 0] rfl) h
  · have h := i_no c262 h
    refine lv_lconst (v := 0) hx hb dX0_makeNumber_65 (by decide) ?_
    refine lv_goto (tgt := 79) hx hb dX0_makeNumber_66 (by decide) ?_
    exact w_X0_makeNumber_79 hC hR o0 a0 x1 x2 x3 x4 x5 x6 xs0 o258 a259 (0 : Int64) _ _ _ _ hi0 hi260 hw (lv_sub hl [1, 2, 3, 4, 5, 6, 7, 0] rfl) h
set_option maxHeartbeats 4000000 in
set_option maxRecDepth 100000 in
theorem w_X0_makeNumber_0 {r : Unit} {D' : dt} (hC : Cx RX0 cX0_makeNumber 9 none p s m args meth c) (hR : 3 ≤ R.frames ∧ 88 ≤ R.locals) : ∀ (o0 a0 : Nat) (x1 : Int32) (x2 : Int32) (D : dt) (H : Heap) (locs : List Loc) (ls : Array Slot), Is S ad o0 a0 0 → Wd G cA S D ad A s H locs → lv_has ls 9 [(0, .ref a0), (1, .int x1), (2, .int x2)] → f_X0_makeNumber S o0 x1 x2 D = some (r, D') → W p l e R s m args below meth c H locs 0 0 (MQ below (Qn none True (wpost G cA S D' ad A) A) args s 0 0 A) (F0 m 0 ls []) := by
  obtain ⟨hx, hb, -⟩ := id hC
  intro o0 a0 x1 x2 D H locs ls hi0 hw hl h
  unfold f_X0_makeNumber at h
  refine lv_aload_n hx hb dX0_makeNumber_0 rfl (lv_at hl 0 rfl) ?_
  obtain ⟨o272, ho275, h⟩ := rq_i h
  refine r_getR hC hw kc_0 hi0 0 rfl lk_317 dX0_makeNumber_1 rfl ho275 (fun a273 hi274 => ?_)
  refine lv_iload_n hx hb dX0_makeNumber_4 rfl (lv_at hl 1 rfl) ?_
  obtain ⟨r277, hq276, h⟩ := pq_i h
  refine r_cV (st' := [.int r277]) [.int x1] [] hC hw kc_3 hi274 (k_X4_code _ hi274 hq276) mk_X4_code lk_671 ⟨Nat.le_trans (by decide) hR.1, Nat.le_trans (by decide) hR.2⟩ ⟨Nat.zero_le _, Nat.zero_le _⟩ rfl hl.1 rfl rfl (Nat.le_of_ble_eq_true rfl) dX0_makeNumber_5 (fun hP H locs hw => ?_)
  refine lv_istore_n (lv' := [(3, .int r277), (0, .ref a0), (1, .int x1), (2, .int x2)]) hx hb dX0_makeNumber_8 rfl hl (by decide) rfl (fun ls hl => ?_)
  refine lv_aload_n hx hb dX0_makeNumber_9 rfl (lv_at hl 1 rfl) ?_
  obtain ⟨o278, ho281, h⟩ := rq_i h
  refine r_getR hC hw kc_0 hi0 0 rfl lk_317 dX0_makeNumber_10 rfl ho281 (fun a279 hi280 => ?_)
  obtain ⟨o282, ho285, h⟩ := rq_i h
  refine r_getR hC hw kc_3 hi280 1 rfl lk_146 dX0_makeNumber_13 rfl ho285 (fun a283 hi284 => ?_)
  refine lv_iload_n hx hb dX0_makeNumber_16 rfl (lv_at hl 2 rfl) ?_
  obtain ⟨hn286, h⟩ := ix_i h
  refine r_iald hC hw hi284 hn286 dX0_makeNumber_17 ?_
  refine lv_topi (fun y287 ey287 => ?_)
  have h := nm_i h y287 ey287
  refine lv_istore (lv' := [(4, .int y287), (3, .int r277), (0, .ref a0), (1, .int x1), (2, .int x2)]) hx hb dX0_makeNumber_18 hl (by decide) rfl (fun ls hl => ?_)
  refine lv_aload_n hx hb dX0_makeNumber_20 rfl (lv_at hl 2 rfl) ?_
  obtain ⟨o288, ho291, h⟩ := rq_i h
  refine r_getR hC hw kc_0 hi0 0 rfl lk_317 dX0_makeNumber_21 rfl ho291 (fun a289 hi290 => ?_)
  obtain ⟨o292, ho295, h⟩ := rq_i h
  refine r_getR hC hw kc_3 hi290 2 rfl lk_149 dX0_makeNumber_24 rfl ho295 (fun a293 hi294 => ?_)
  refine lv_iload_n hx hb dX0_makeNumber_27 rfl (lv_at hl 3 rfl) ?_
  obtain ⟨hn296, h⟩ := ix_i h
  refine r_iald hC hw hi294 hn296 dX0_makeNumber_28 ?_
  refine lv_topi (fun y297 ey297 => ?_)
  have h := nm_i h y297 ey297
  refine lv_istore (lv' := [(5, .int y297), (4, .int y287), (3, .int r277), (0, .ref a0), (1, .int x1), (2, .int x2)]) hx hb dX0_makeNumber_29 hl (by decide) rfl (fun ls hl => ?_)
  refine lv_aload_n hx hb dX0_makeNumber_31 rfl (lv_at hl 3 rfl) ?_
  obtain ⟨o298, ho301, h⟩ := rq_i h
  refine r_getR hC hw kc_0 hi0 0 rfl lk_317 dX0_makeNumber_32 rfl ho301 (fun a299 hi300 => ?_)
  obtain ⟨o302, ho305, h⟩ := rq_i h
  refine r_getR hC hw kc_3 hi300 4 rfl lk_155 dX0_makeNumber_35 rfl ho305 (fun a303 hi304 => ?_)
  refine lv_iload_n hx hb dX0_makeNumber_38 rfl (lv_at hl 4 rfl) ?_
  obtain ⟨hn306, h⟩ := ix_i h
  refine r_iald hC hw hi304 hn306 dX0_makeNumber_39 ?_
  refine lv_i2l (v := (gI D o302 x1.toNatClampNeg).toInt64) hx hb dX0_makeNumber_40 rfl ?_
  refine lv_topl (fun y307 ey307 => ?_)
  have h := nm_i h y307 ey307
  refine lv_lstore (lv' := [(6, .long y307), (5, .int y297), (4, .int y287), (3, .int r277), (0, .ref a0), (1, .int x1), (2, .int x2)]) hx hb dX0_makeNumber_41 hl (by decide) rfl (fun ls hl => ?_)
  refine lv_iload_n hx hb dX0_makeNumber_43 rfl (lv_at hl 3 rfl) ?_
  refine lv_bipush (v := 11) hx hb dX0_makeNumber_44 (by decide) ?_
  refine lv_icmp_ne (tgt := 53) hx hb dX0_makeNumber_46 (by decide) (fun c308 => ?_) (fun c308 => ?_)
  · have h := i_no c308 h
    refine lv_iconst (v := 0) hx hb dX0_makeNumber_53 (by decide) ?_
    exact w_X0_makeNumber_54 hC hR o0 a0 x1 x2 r277 y287 y297 y307 (0 : Int32) _ _ _ _ hi0 hw (lv_sub hl [4, 5, 6, 3, 2, 1, 0] rfl) h
  · have h := i_yes c308 h
    refine lv_iconst (v := 1) hx hb dX0_makeNumber_49 (by decide) ?_
    refine lv_goto (tgt := 54) hx hb dX0_makeNumber_50 (by decide) ?_
    exact w_X0_makeNumber_54 hC hR o0 a0 x1 x2 r277 y287 y297 y307 (1 : Int32) _ _ _ _ hi0 hw (lv_sub hl [4, 5, 6, 3, 2, 1, 0] rfl) h
set_option maxHeartbeats 4000000 in
set_option maxRecDepth 100000 in
theorem k_X0_makeNumber {l : Launch} {G : va_G} {cA : Nat → ClassId} {S : sh} {D D' : dt} {ad : Nat → Nat} (sz : Nat) {o0 a0 : Nat} {x1 : Int32} {x2 : Int32} {r : Unit} (hi0 : Is S ad o0 a0 0) (h : f_X0_makeNumber S o0 x1 x2 D = some (r, D')) : Co l yX0_makeNumber (Cond.code yX0_makeNumber cX0_makeNumber 9 none :: tb0) 3 88 [.ref a0, .int x1, .int x2] G cA S D ad sz none True D' := by
  refine Met.ofW (cc := cX0_makeNumber) (maxL := 9) (ret := none) (by decide) rfl ?_
  intro p e s m args below meth c s₁ B hml hv
  obtain ⟨rfl, hsz, hP, hK, hD0, hT, hX⟩ := hv
  subst hsz
  have hts := atoms_spec (ws := Cond.code yX0_makeNumber cX0_makeNumber 9 none :: tb0) B.pre
  have hC : Cx RX0 cX0_makeNumber 9 none p s m _ meth c := ⟨B.exec, B.bytes, hml, findClass_of_methodNamed B.named, fun w q => hts w (List.mem_cons_of_mem _ q), B.returns, B.notSynchronized⟩
  have hw := Wd.entry hP hK hD0 hT hX
  have hl := lv_entry ([.ref a0, .int x1, .int x2]) (n := 9) (Nat.le_of_ble_eq_true rfl)
  rw [lg_entry_eq]
  exact w_X0_makeNumber_0 hC ⟨Nat.le_refl _, Nat.le_refl _⟩ o0 a0 x1 x2 D _ _ _ hi0 hw hl h
set_option maxHeartbeats 4000000 in
set_option maxRecDepth 100000 in
theorem w_X0_isSmall_0 {r : Int32} (hC : Cx RX0 cX0_isSmall 2 (some .boolean) p s m args meth c) (hR : 1 ≤ R.frames ∧ 23 ≤ R.locals) : ∀ (o0 a0 : Nat) (x1 : Int32) (H : Heap) (locs : List Loc) (ls : Array Slot), Is S ad o0 a0 0 → Wd G cA S D ad A s H locs → lv_has ls 2 [(0, .ref a0), (1, .int x1)] → f_X0_isSmall S D o0 x1 = some r → W p l e R s m args below meth c H locs 0 0 (MQ below (Qn (some (.int r)) True (wpost G cA S D ad A) A) args s 0 0 A) (F0 m 0 ls []) := by
  obtain ⟨hx, hb, -⟩ := id hC
  intro o0 a0 x1 H locs ls hi0 hw hl h
  unfold f_X0_isSmall at h
  refine lv_aload_n hx hb dX0_isSmall_0 rfl (lv_at hl 0 rfl) ?_
  obtain ⟨o20, ho23, h⟩ := rq_i h
  refine r_getR hC hw kc_0 hi0 4 rfl lk_321 dX0_isSmall_1 rfl ho23 (fun a21 hi22 => ?_)
  refine lv_iload_n hx hb dX0_isSmall_4 rfl (lv_at hl 1 rfl) ?_
  obtain ⟨r25, hq24, h⟩ := pq_i h
  refine r_cV (st' := [.int r25]) [.int x1] [] hC hw kc_4 hi22 (k_X5_isNumber _ hi22 hq24) mk_X5_isNumber lk_639 ⟨Nat.le_trans (by decide) hR.1, Nat.le_trans (by decide) hR.2⟩ ⟨Nat.zero_le _, Nat.zero_le _⟩ rfl hl.1 rfl rfl (Nat.le_of_ble_eq_true rfl) dX0_isSmall_5 (fun hP H locs hw => ?_)
  refine lv_if_eq (tgt := 33) hx hb dX0_isSmall_8 (by decide) (fun c26 => ?_) (fun c26 => ?_)
  · have h := i_yes c26 h
    refine lv_iconst (v := 0) hx hb dX0_isSmall_33 (by decide) ?_
    cases h
    exact r_zret hC hw (Or.inl rfl) dX0_isSmall_34
  · have h := i_no c26 h
    refine lv_ldc2 (v := 65536) hx hb hC.2.2.2.1 (hC.2.2.2.2.1 _ lk_762) dX0_isSmall_11 ?_
    refine lv_aload_n hx hb dX0_isSmall_14 rfl (lv_at hl 0 rfl) ?_
    obtain ⟨o27, ho30, h⟩ := rq_i h
    refine r_getR hC hw kc_0 hi0 4 rfl lk_321 dX0_isSmall_15 rfl ho30 (fun a28 hi29 => ?_)
    obtain ⟨o31, ho34, h⟩ := rq_i h
    refine r_getR hC hw kc_4 hi29 3 rfl lk_270 dX0_isSmall_18 rfl ho34 (fun a32 hi33 => ?_)
    refine lv_iload_n hx hb dX0_isSmall_21 rfl (lv_at hl 1 rfl) ?_
    obtain ⟨hn35, h⟩ := ix_i h
    refine r_lald hC hw hi33 hn35 dX0_isSmall_22 ?_
    obtain ⟨r37, hq36, h⟩ := pq_i h
    refine r_cS (st' := [.int r37]) [.long (65536 : Int64), .long (gL D o31 x1.toNatClampNeg)] [] hC hw (k_X3_below _ hq36) mk_X3_below lk_763 ⟨Nat.le_trans (by decide) hR.1, Nat.le_trans (by decide) hR.2⟩ ⟨Nat.zero_le _, Nat.zero_le _⟩ rfl hl.1 rfl rfl (Nat.le_of_ble_eq_true rfl) dX0_isSmall_23 (fun hP H locs hw => ?_)
    refine lv_if_ne (tgt := 33) hx hb dX0_isSmall_26 (by decide) (fun c38 => ?_) (fun c38 => ?_)
    · have h := i_no c38 h
      refine lv_iconst (v := 0) hx hb dX0_isSmall_33 (by decide) ?_
      cases h
      exact r_zret hC hw (Or.inl rfl) dX0_isSmall_34
    · have h := i_yes c38 h
      refine lv_iconst (v := 1) hx hb dX0_isSmall_29 (by decide) ?_
      refine lv_goto (tgt := 34) hx hb dX0_isSmall_30 (by decide) ?_
      cases h
      exact r_zret hC hw (Or.inr rfl) dX0_isSmall_34
set_option maxHeartbeats 4000000 in
set_option maxRecDepth 100000 in
theorem k_X0_isSmall {l : Launch} {G : va_G} {cA : Nat → ClassId} {S : sh} {D : dt} {ad : Nat → Nat} (sz : Nat) {o0 a0 : Nat} {x1 : Int32} {r : Int32} (hi0 : Is S ad o0 a0 0) (h : f_X0_isSmall S D o0 x1 = some r) : Co l yX0_isSmall (Cond.code yX0_isSmall cX0_isSmall 2 (some .boolean) :: tb0) 1 23 [.ref a0, .int x1] G cA S D ad sz (some (.int r)) True D := by
  refine Met.ofW (cc := cX0_isSmall) (maxL := 2) (ret := (some .boolean)) (by decide) rfl ?_
  intro p e s m args below meth c s₁ B hml hv
  obtain ⟨rfl, hsz, hP, hK, hD0, hT, hX⟩ := hv
  subst hsz
  have hts := atoms_spec (ws := Cond.code yX0_isSmall cX0_isSmall 2 (some .boolean) :: tb0) B.pre
  have hC : Cx RX0 cX0_isSmall 2 (some .boolean) p s m _ meth c := ⟨B.exec, B.bytes, hml, findClass_of_methodNamed B.named, fun w q => hts w (List.mem_cons_of_mem _ q), B.returns, B.notSynchronized⟩
  have hw := Wd.entry hP hK hD0 hT hX
  have hl := lv_entry ([.ref a0, .int x1]) (n := 2) (Nat.le_of_ble_eq_true rfl)
  rw [lg_entry_eq]
  exact w_X0_isSmall_0 hC ⟨Nat.le_refl _, Nat.le_refl _⟩ o0 a0 x1 _ _ _ hi0 hw hl h
set_option maxHeartbeats 4000000 in
set_option maxRecDepth 100000 in
theorem w_X0_shiftPlace_272 {r : Int32} {D' : dt} (hC : Cx RX0 cX0_shiftPlace 17 (some .boolean) p s m args meth c) (hR : 2 ≤ R.frames ∧ 44 ≤ R.locals) : ∀ (o0 a0 : Nat) (x4 : Int32) (x7 : Int32) (x13 : Int64) (xs0 : Int64) (xs1 : Int64) (D : dt) (H : Heap) (locs : List Loc) (ls : Array Slot), Is S ad o0 a0 0 → Wd G cA S D ad A s H locs → lv_has ls 17 [(0, .ref a0), (4, .int x4), (7, .int x7), (13, .long x13)] → f_X0_shiftPlace_272 S o0 x4 x7 x13 xs0 xs1 D = some (r, D') → W p l e R s m args below meth c H locs 0 0 (MQ below (Qn (some (.int r)) True (wpost G cA S D' ad A) A) args s 0 0 A) (F0 m 272 ls [.long xs1, .long xs0]) := by
  obtain ⟨hx, hb, -⟩ := id hC
  intro o0 a0 x4 x7 x13 xs0 xs1 D H locs ls hi0 hw hl h
  unfold f_X0_shiftPlace_272 at h
  refine lv_ladd hx hb dX0_shiftPlace_272 ?_
  refine lv_topl (fun y147 ey147 => ?_)
  have h := nm_i h y147 ey147
  refine lv_lstore (lv' := [(15, .long y147), (0, .ref a0), (4, .int x4), (7, .int x7), (13, .long x13)]) hx hb dX0_shiftPlace_273 hl (by decide) rfl (fun ls hl => ?_)
  refine lv_aload_n hx hb dX0_shiftPlace_275 rfl (lv_at hl 1 rfl) ?_
  obtain ⟨o148, ho151, h⟩ := rq_i h
  refine r_getR hC hw kc_0 hi0 4 rfl lk_321 dX0_shiftPlace_276 rfl ho151 (fun a149 hi150 => ?_)
  refine lv_iload hx hb dX0_shiftPlace_279 (lv_at hl 2 rfl) ?_
  refine lv_aload_n hx hb dX0_shiftPlace_281 rfl (lv_at hl 1 rfl) ?_
  obtain ⟨o152, ho155, h⟩ := rq_i h
  refine r_getR hC hw kc_0 hi0 4 rfl lk_321 dX0_shiftPlace_282 rfl ho155 (fun a153 hi154 => ?_)
  obtain ⟨o156, ho159, h⟩ := rq_i h
  refine r_getR hC hw kc_4 hi154 1 rfl lk_266 dX0_shiftPlace_285 rfl ho159 (fun a157 hi158 => ?_)
  refine lv_iload hx hb dX0_shiftPlace_288 (lv_at hl 3 rfl) ?_
  obtain ⟨hn160, h⟩ := ix_i h
  refine r_iald hC hw hi158 hn160 dX0_shiftPlace_290 ?_
  refine lv_lload hx hb dX0_shiftPlace_291 (lv_at hl 4 rfl) ?_
  refine lv_lload hx hb dX0_shiftPlace_293 (lv_at hl 0 rfl) ?_
  obtain ⟨_, D162, hq161, h⟩ := cq_i h
  refine r_cV (st' := []) [.int x4, .int (gI D o156 x7.toNatClampNeg), .long x13, .long y147] [] hC hw kc_4 hi150 (k_X5_write _ hi150 hq161) mk_X5_write lk_572 ⟨Nat.le_trans (by decide) hR.1, Nat.le_trans (by decide) hR.2⟩ ⟨Nat.zero_le _, Nat.zero_le _⟩ rfl hl.1 rfl rfl (Nat.le_of_ble_eq_true rfl) dX0_shiftPlace_295 (fun hP H locs hw => ?_)
  refine lv_lload hx hb dX0_shiftPlace_298 (lv_at hl 4 rfl) ?_
  refine lv_ldc2 (v := (-1048576)) hx hb hC.2.2.2.1 (hC.2.2.2.2.1 _ lk_767) dX0_shiftPlace_300 ?_
  refine W.lcmp hx hb dX0_shiftPlace_303 ?_
  refine lv_if_lt (tgt := 320) hx hb dX0_shiftPlace_304 (by decide) (fun c163 => ?_) (fun c163 => ?_)
  · have h := i_yes c163 h
    refine lv_iconst (v := 0) hx hb dX0_shiftPlace_320 (by decide) ?_
    cases h
    exact r_zret hC hw (Or.inl rfl) dX0_shiftPlace_321
  · have h := i_no c163 h
    refine lv_lload hx hb dX0_shiftPlace_307 (lv_at hl 0 rfl) ?_
    refine lv_ldc2 (v := 1048576) hx hb hC.2.2.2.1 (hC.2.2.2.2.1 _ lk_768) dX0_shiftPlace_309 ?_
    refine W.lcmp hx hb dX0_shiftPlace_312 ?_
    refine lv_if_gt (tgt := 320) hx hb dX0_shiftPlace_313 (by decide) (fun c164 => ?_) (fun c164 => ?_)
    · have h := i_yes c164 h
      refine lv_iconst (v := 0) hx hb dX0_shiftPlace_320 (by decide) ?_
      cases h
      exact r_zret hC hw (Or.inl rfl) dX0_shiftPlace_321
    · have h := i_no c164 h
      refine lv_iconst (v := 1) hx hb dX0_shiftPlace_316 (by decide) ?_
      refine lv_goto (tgt := 321) hx hb dX0_shiftPlace_317 (by decide) ?_
      cases h
      exact r_zret hC hw (Or.inr rfl) dX0_shiftPlace_321
set_option maxHeartbeats 4000000 in
set_option maxRecDepth 100000 in
theorem w_X0_shiftPlace_247 {r : Int32} {D' : dt} (hC : Cx RX0 cX0_shiftPlace 17 (some .boolean) p s m args meth c) (hR : 2 ≤ R.frames ∧ 44 ≤ R.locals) : ∀ (o0 a0 : Nat) (x3 : Int32) (x4 : Int32) (x7 : Int32) (x9 : Int64) (x11 : Int64) (xs0 : Int64) (xs1 : Int64) (D : dt) (H : Heap) (locs : List Loc) (ls : Array Slot), Is S ad o0 a0 0 → Wd G cA S D ad A s H locs → lv_has ls 17 [(0, .ref a0), (3, .int x3), (4, .int x4), (7, .int x7), (9, .long x9), (11, .long x11)] → f_X0_shiftPlace_247 S o0 x3 x4 x7 x9 x11 xs0 xs1 D = some (r, D') → W p l e R s m args below meth c H locs 0 0 (MQ below (Qn (some (.int r)) True (wpost G cA S D' ad A) A) args s 0 0 A) (F0 m 247 ls [.long xs1, .long xs0]) := by
  obtain ⟨hx, hb, -⟩ := id hC
  intro o0 a0 x3 x4 x7 x9 x11 xs0 xs1 D H locs ls hi0 hw hl h
  unfold f_X0_shiftPlace_247 at h
  refine lv_ladd hx hb dX0_shiftPlace_247 ?_
  refine lv_topl (fun y165 ey165 => ?_)
  have h := nm_i h y165 ey165
  refine lv_lstore (lv' := [(13, .long y165), (0, .ref a0), (3, .int x3), (4, .int x4), (7, .int x7), (9, .long x9), (11, .long x11)]) hx hb dX0_shiftPlace_248 hl (by decide) rfl (fun ls hl => ?_)
  refine lv_aload_n hx hb dX0_shiftPlace_250 rfl (lv_at hl 1 rfl) ?_
  obtain ⟨o166, ho169, h⟩ := rq_i h
  refine r_getR hC hw kc_0 hi0 4 rfl lk_321 dX0_shiftPlace_251 rfl ho169 (fun a167 hi168 => ?_)
  obtain ⟨o170, ho173, h⟩ := rq_i h
  refine r_getR hC hw kc_4 hi168 3 rfl lk_270 dX0_shiftPlace_254 rfl ho173 (fun a171 hi172 => ?_)
  refine lv_iload hx hb dX0_shiftPlace_257 (lv_at hl 4 rfl) ?_
  obtain ⟨hn174, h⟩ := ix_i h
  refine r_lald hC hw hi172 hn174 dX0_shiftPlace_259 ?_
  refine lv_iload_n hx hb dX0_shiftPlace_260 rfl (lv_at hl 2 rfl) ?_
  refine lv_if_ne (tgt := 269) hx hb dX0_shiftPlace_261 (by decide) (fun c175 => ?_) (fun c175 => ?_)
  · have h := i_no c175 h
    refine lv_lload hx hb dX0_shiftPlace_269 (lv_at hl 5 rfl) ?_
    refine lv_lneg hx hb dX0_shiftPlace_271 ?_
    exact w_X0_shiftPlace_272 hC hR o0 a0 x4 x7 y165 (gL D o170 x7.toNatClampNeg) (-x9) _ _ _ _ hi0 hw (lv_sub hl [1, 3, 4, 0] rfl) h
  · have h := i_yes c175 h
    refine lv_lload hx hb dX0_shiftPlace_264 (lv_at hl 6 rfl) ?_
    refine lv_goto (tgt := 272) hx hb dX0_shiftPlace_266 (by decide) ?_
    exact w_X0_shiftPlace_272 hC hR o0 a0 x4 x7 y165 (gL D o170 x7.toNatClampNeg) x11 _ _ _ _ hi0 hw (lv_sub hl [1, 3, 4, 0] rfl) h
set_option maxHeartbeats 4000000 in
set_option maxRecDepth 100000 in
theorem w_X0_shiftPlace_225 {r : Int32} {D' : dt} (hC : Cx RX0 cX0_shiftPlace 17 (some .boolean) p s m args meth c) (hR : 2 ≤ R.frames ∧ 44 ≤ R.locals) : ∀ (o0 a0 : Nat) (x3 : Int32) (x4 : Int32) (x7 : Int32) (x9 : Int64) (x11 : Int64) (D : dt) (H : Heap) (locs : List Loc) (ls : Array Slot), Is S ad o0 a0 0 → Wd G cA S D ad A s H locs → lv_has ls 17 [(0, .ref a0), (3, .int x3), (4, .int x4), (7, .int x7), (9, .long x9), (11, .long x11)] → f_X0_shiftPlace_225 S o0 x3 x4 x7 x9 x11 D = some (r, D') → W p l e R s m args below meth c H locs 0 0 (MQ below (Qn (some (.int r)) True (wpost G cA S D' ad A) A) args s 0 0 A) (F0 m 225 ls []) := by
  obtain ⟨hx, hb, -⟩ := id hC
  intro o0 a0 x3 x4 x7 x9 x11 D H locs ls hi0 hw hl h
  unfold f_X0_shiftPlace_225 at h
  refine lv_aload_n hx hb dX0_shiftPlace_225 rfl (lv_at hl 0 rfl) ?_
  obtain ⟨o176, ho179, h⟩ := rq_i h
  refine r_getR hC hw kc_0 hi0 4 rfl lk_321 dX0_shiftPlace_226 rfl ho179 (fun a177 hi178 => ?_)
  obtain ⟨o180, ho183, h⟩ := rq_i h
  refine r_getR hC hw kc_4 hi178 2 rfl lk_268 dX0_shiftPlace_229 rfl ho183 (fun a181 hi182 => ?_)
  refine lv_iload hx hb dX0_shiftPlace_232 (lv_at hl 3 rfl) ?_
  obtain ⟨hn184, h⟩ := ix_i h
  refine r_lald hC hw hi182 hn184 dX0_shiftPlace_234 ?_
  refine lv_iload_n hx hb dX0_shiftPlace_235 rfl (lv_at hl 1 rfl) ?_
  refine lv_if_ne (tgt := 244) hx hb dX0_shiftPlace_236 (by decide) (fun c185 => ?_) (fun c185 => ?_)
  · have h := i_no c185 h
    refine lv_lload hx hb dX0_shiftPlace_244 (lv_at hl 5 rfl) ?_
    refine lv_lneg hx hb dX0_shiftPlace_246 ?_
    exact w_X0_shiftPlace_247 hC hR o0 a0 x3 x4 x7 x9 x11 (gL D o180 x7.toNatClampNeg) (-x11) _ _ _ _ hi0 hw (lv_sub hl [0, 1, 2, 3, 4, 5] rfl) h
  · have h := i_yes c185 h
    refine lv_lload hx hb dX0_shiftPlace_239 (lv_at hl 4 rfl) ?_
    refine lv_goto (tgt := 247) hx hb dX0_shiftPlace_241 (by decide) ?_
    exact w_X0_shiftPlace_247 hC hR o0 a0 x3 x4 x7 x9 x11 (gL D o180 x7.toNatClampNeg) x9 _ _ _ _ hi0 hw (lv_sub hl [0, 1, 2, 3, 4, 5] rfl) h
set_option maxHeartbeats 4000000 in
set_option maxRecDepth 100000 in
theorem w_X0_shiftPlace_200 {r : Int32} {D' : dt} (hC : Cx RX0 cX0_shiftPlace 17 (some .boolean) p s m args meth c) (hR : 2 ≤ R.frames ∧ 44 ≤ R.locals) : ∀ (o0 a0 : Nat) (x3 : Int32) (x4 : Int32) (x7 : Int32) (x9 : Int64) (xs0 : Int64) (D : dt) (H : Heap) (locs : List Loc) (ls : Array Slot), Is S ad o0 a0 0 → Wd G cA S D ad A s H locs → lv_has ls 17 [(0, .ref a0), (3, .int x3), (4, .int x4), (7, .int x7), (9, .long x9)] → f_X0_shiftPlace_200 S o0 x3 x4 x7 x9 xs0 D = some (r, D') → W p l e R s m args below meth c H locs 0 0 (MQ below (Qn (some (.int r)) True (wpost G cA S D' ad A) A) args s 0 0 A) (F0 m 200 ls [.long xs0]) := by
  obtain ⟨hx, hb, -⟩ := id hC
  intro o0 a0 x3 x4 x7 x9 xs0 D H locs ls hi0 hw hl h
  unfold f_X0_shiftPlace_200 at h
  refine lv_lstore (lv' := [(11, .long xs0), (0, .ref a0), (3, .int x3), (4, .int x4), (7, .int x7), (9, .long x9)]) hx hb dX0_shiftPlace_200 hl (by decide) rfl (fun ls hl => ?_)
  refine lv_aload_n hx hb dX0_shiftPlace_202 rfl (lv_at hl 1 rfl) ?_
  obtain ⟨o186, ho189, h⟩ := rq_i h
  refine r_getR hC hw kc_0 hi0 4 rfl lk_321 dX0_shiftPlace_203 rfl ho189 (fun a187 hi188 => ?_)
  refine lv_iload hx hb dX0_shiftPlace_206 (lv_at hl 4 rfl) ?_
  obtain ⟨r191, hq190, h⟩ := pq_i h
  refine r_cV (st' := [.int r191]) [.int x7] [] hC hw kc_4 hi188 (k_X5_kind _ hi188 hq190) mk_X5_kind lk_587 ⟨Nat.le_trans (by decide) hR.1, Nat.le_trans (by decide) hR.2⟩ ⟨Nat.zero_le _, Nat.zero_le _⟩ rfl hl.1 rfl rfl (Nat.le_of_ble_eq_true rfl) dX0_shiftPlace_208 (fun hP H locs hw => ?_)
  refine lv_iconst (v := 3) hx hb dX0_shiftPlace_211 (by decide) ?_
  refine lv_icmp_ne (tgt := 225) hx hb dX0_shiftPlace_212 (by decide) (fun c192 => ?_) (fun c192 => ?_)
  · have h := i_no c192 h
    exact w_X0_shiftPlace_225 hC hR o0 a0 x3 x4 x7 x9 xs0 _ _ _ _ hi0 hw (lv_sub hl [1, 2, 3, 4, 5, 0] rfl) h
  · have h := i_yes c192 h
    refine lv_lload hx hb dX0_shiftPlace_215 (lv_at hl 5 rfl) ?_
    refine lv_lload hx hb dX0_shiftPlace_217 (lv_at hl 0 rfl) ?_
    refine W.lcmp hx hb dX0_shiftPlace_219 ?_
    refine lv_if_eq (tgt := 225) hx hb dX0_shiftPlace_220 (by decide) (fun c193 => ?_) (fun c193 => ?_)
    · have h := i_yes c193 h
      exact w_X0_shiftPlace_225 hC hR o0 a0 x3 x4 x7 x9 xs0 _ _ _ _ hi0 hw (lv_sub hl [1, 2, 3, 4, 5, 0] rfl) h
    · have h := i_no c193 h
      refine lv_iconst (v := 0) hx hb dX0_shiftPlace_223 (by decide) ?_
      cases h
      exact r_zret hC hw (Or.inl rfl) dX0_shiftPlace_224
set_option maxHeartbeats 4000000 in
set_option maxRecDepth 100000 in
theorem w_X0_shiftPlace_171 {r : Int32} {D' : dt} (hC : Cx RX0 cX0_shiftPlace 17 (some .boolean) p s m args meth c) (hR : 2 ≤ R.frames ∧ 44 ≤ R.locals) : ∀ (o0 a0 : Nat) (x1 : Int32) (x2 : Int32) (x3 : Int32) (x4 : Int32) (x7 : Int32) (x8 : Int32) (xs0 : Int64) (D : dt) (H : Heap) (locs : List Loc) (ls : Array Slot), Is S ad o0 a0 0 → Wd G cA S D ad A s H locs → lv_has ls 17 [(0, .ref a0), (1, .int x1), (2, .int x2), (3, .int x3), (4, .int x4), (7, .int x7), (8, .int x8)] → f_X0_shiftPlace_171 S o0 x1 x2 x3 x4 x7 x8 xs0 D = some (r, D') → W p l e R s m args below meth c H locs 0 0 (MQ below (Qn (some (.int r)) True (wpost G cA S D' ad A) A) args s 0 0 A) (F0 m 171 ls [.long xs0]) := by
  obtain ⟨hx, hb, -⟩ := id hC
  intro o0 a0 x1 x2 x3 x4 x7 x8 xs0 D H locs ls hi0 hw hl h
  unfold f_X0_shiftPlace_171 at h
  refine lv_lstore (lv' := [(9, .long xs0), (0, .ref a0), (1, .int x1), (2, .int x2), (3, .int x3), (4, .int x4), (7, .int x7), (8, .int x8)]) hx hb dX0_shiftPlace_171 hl (by decide) rfl (fun ls hl => ?_)
  refine lv_iload_n hx hb dX0_shiftPlace_173 rfl (lv_at hl 3 rfl) ?_
  refine lv_if_eq (tgt := 190) hx hb dX0_shiftPlace_174 (by decide) (fun c194 => ?_) (fun c194 => ?_)
  · have h := i_yes c194 h
    refine lv_aload_n hx hb dX0_shiftPlace_190 rfl (lv_at hl 1 rfl) ?_
    obtain ⟨o195, ho198, h⟩ := rq_i h
    refine r_getR hC hw kc_0 hi0 0 rfl lk_317 dX0_shiftPlace_191 rfl ho198 (fun a196 hi197 => ?_)
    obtain ⟨o199, ho202, h⟩ := rq_i h
    refine r_getR hC hw kc_3 hi197 4 rfl lk_155 dX0_shiftPlace_194 rfl ho202 (fun a200 hi201 => ?_)
    refine lv_iload_n hx hb dX0_shiftPlace_197 rfl (lv_at hl 2 rfl) ?_
    obtain ⟨hn203, h⟩ := ix_i h
    refine r_iald hC hw hi201 hn203 dX0_shiftPlace_198 ?_
    refine lv_i2l (v := (gI D o199 x1.toNatClampNeg).toInt64) hx hb dX0_shiftPlace_199 rfl ?_
    exact w_X0_shiftPlace_200 hC hR o0 a0 x3 x4 x7 xs0 ((gI D o199 x1.toNatClampNeg).toInt64) _ _ _ _ hi0 hw (lv_sub hl [1, 4, 5, 6, 0] rfl) h
  · have h := i_no c194 h
    refine lv_aload_n hx hb dX0_shiftPlace_177 rfl (lv_at hl 1 rfl) ?_
    obtain ⟨o204, ho207, h⟩ := rq_i h
    refine r_getR hC hw kc_0 hi0 4 rfl lk_321 dX0_shiftPlace_178 rfl ho207 (fun a205 hi206 => ?_)
    obtain ⟨o208, ho211, h⟩ := rq_i h
    refine r_getR hC hw kc_4 hi206 3 rfl lk_270 dX0_shiftPlace_181 rfl ho211 (fun a209 hi210 => ?_)
    refine lv_iload hx hb dX0_shiftPlace_184 (lv_at hl 7 rfl) ?_
    obtain ⟨hn212, h⟩ := ix_i h
    refine r_lald hC hw hi210 hn212 dX0_shiftPlace_186 ?_
    refine lv_goto (tgt := 200) hx hb dX0_shiftPlace_187 (by decide) ?_
    exact w_X0_shiftPlace_200 hC hR o0 a0 x3 x4 x7 xs0 (gL D o208 x8.toNatClampNeg) _ _ _ _ hi0 hw (lv_sub hl [1, 4, 5, 6, 0] rfl) h
set_option maxHeartbeats 4000000 in
set_option maxRecDepth 100000 in
theorem w_X0_shiftPlace_144 {r : Int32} {D' : dt} (hC : Cx RX0 cX0_shiftPlace 17 (some .boolean) p s m args meth c) (hR : 2 ≤ R.frames ∧ 44 ≤ R.locals) : ∀ (o0 a0 : Nat) (x1 : Int32) (x2 : Int32) (x3 : Int32) (x4 : Int32) (x7 : Int32) (x8 : Int32) (D : dt) (H : Heap) (locs : List Loc) (ls : Array Slot), Is S ad o0 a0 0 → Wd G cA S D ad A s H locs → lv_has ls 17 [(0, .ref a0), (1, .int x1), (2, .int x2), (3, .int x3), (4, .int x4), (7, .int x7), (8, .int x8)] → f_X0_shiftPlace_144 S o0 x1 x2 x3 x4 x7 x8 D = some (r, D') → W p l e R s m args below meth c H locs 0 0 (MQ below (Qn (some (.int r)) True (wpost G cA S D' ad A) A) args s 0 0 A) (F0 m 144 ls []) := by
  obtain ⟨hx, hb, -⟩ := id hC
  intro o0 a0 x1 x2 x3 x4 x7 x8 D H locs ls hi0 hw hl h
  unfold f_X0_shiftPlace_144 at h
  refine lv_iload_n hx hb dX0_shiftPlace_144 rfl (lv_at hl 2 rfl) ?_
  refine lv_if_eq (tgt := 161) hx hb dX0_shiftPlace_145 (by decide) (fun c213 => ?_) (fun c213 => ?_)
  · have h := i_yes c213 h
    refine lv_aload_n hx hb dX0_shiftPlace_161 rfl (lv_at hl 0 rfl) ?_
    obtain ⟨o214, ho217, h⟩ := rq_i h
    refine r_getR hC hw kc_0 hi0 0 rfl lk_317 dX0_shiftPlace_162 rfl ho217 (fun a215 hi216 => ?_)
    obtain ⟨o218, ho221, h⟩ := rq_i h
    refine r_getR hC hw kc_3 hi216 4 rfl lk_155 dX0_shiftPlace_165 rfl ho221 (fun a219 hi220 => ?_)
    refine lv_iload_n hx hb dX0_shiftPlace_168 rfl (lv_at hl 1 rfl) ?_
    obtain ⟨hn222, h⟩ := ix_i h
    refine r_iald hC hw hi220 hn222 dX0_shiftPlace_169 ?_
    refine lv_i2l (v := (gI D o218 x1.toNatClampNeg).toInt64) hx hb dX0_shiftPlace_170 rfl ?_
    exact w_X0_shiftPlace_171 hC hR o0 a0 x1 x2 x3 x4 x7 x8 ((gI D o218 x1.toNatClampNeg).toInt64) _ _ _ _ hi0 hw (lv_sub hl [0, 1, 2, 3, 4, 5, 6] rfl) h
  · have h := i_no c213 h
    refine lv_aload_n hx hb dX0_shiftPlace_148 rfl (lv_at hl 0 rfl) ?_
    obtain ⟨o223, ho226, h⟩ := rq_i h
    refine r_getR hC hw kc_0 hi0 4 rfl lk_321 dX0_shiftPlace_149 rfl ho226 (fun a224 hi225 => ?_)
    obtain ⟨o227, ho230, h⟩ := rq_i h
    refine r_getR hC hw kc_4 hi225 2 rfl lk_268 dX0_shiftPlace_152 rfl ho230 (fun a228 hi229 => ?_)
    refine lv_iload hx hb dX0_shiftPlace_155 (lv_at hl 6 rfl) ?_
    obtain ⟨hn231, h⟩ := ix_i h
    refine r_lald hC hw hi229 hn231 dX0_shiftPlace_157 ?_
    refine lv_goto (tgt := 171) hx hb dX0_shiftPlace_158 (by decide) ?_
    exact w_X0_shiftPlace_171 hC hR o0 a0 x1 x2 x3 x4 x7 x8 (gL D o227 x8.toNatClampNeg) _ _ _ _ hi0 hw (lv_sub hl [0, 1, 2, 3, 4, 5, 6] rfl) h
set_option maxHeartbeats 4000000 in
set_option maxRecDepth 100000 in
theorem w_X0_shiftPlace_95 {r : Int32} {D' : dt} (hC : Cx RX0 cX0_shiftPlace 17 (some .boolean) p s m args meth c) (hR : 2 ≤ R.frames ∧ 44 ≤ R.locals) : ∀ (o0 a0 : Nat) (x1 : Int32) (x2 : Int32) (x3 : Int32) (x4 : Int32) (x7 : Int32) (x8 : Int32) (D : dt) (H : Heap) (locs : List Loc) (ls : Array Slot), Is S ad o0 a0 0 → Wd G cA S D ad A s H locs → lv_has ls 17 [(0, .ref a0), (1, .int x1), (2, .int x2), (3, .int x3), (4, .int x4), (7, .int x7), (8, .int x8)] → f_X0_shiftPlace_95 S o0 x1 x2 x3 x4 x7 x8 D = some (r, D') → W p l e R s m args below meth c H locs 0 0 (MQ below (Qn (some (.int r)) True (wpost G cA S D' ad A) A) args s 0 0 A) (F0 m 95 ls []) := by
  obtain ⟨hx, hb, -⟩ := id hC
  intro o0 a0 x1 x2 x3 x4 x7 x8 D H locs ls hi0 hw hl h
  unfold f_X0_shiftPlace_95 at h
  refine lv_aload_n hx hb dX0_shiftPlace_95 rfl (lv_at hl 0 rfl) ?_
  refine lv_iload hx hb dX0_shiftPlace_96 (lv_at hl 5 rfl) ?_
  obtain ⟨r233, hq232, h⟩ := pq_i h
  refine r_cV (st' := [.int r233]) [.int x7] [] hC hw kc_0 hi0 (k_X0_canBeReached _ hi0 hq232) mk_X0_canBeReached lk_583 ⟨Nat.le_trans (by decide) hR.1, Nat.le_trans (by decide) hR.2⟩ ⟨Nat.zero_le _, Nat.zero_le _⟩ rfl hl.1 rfl rfl (Nat.le_of_ble_eq_true rfl) dX0_shiftPlace_98 (fun hP H locs hw => ?_)
  refine lv_if_ne (tgt := 106) hx hb dX0_shiftPlace_101 (by decide) (fun c234 => ?_) (fun c234 => ?_)
  · have h := i_no c234 h
    refine lv_iload_n hx hb dX0_shiftPlace_106 rfl (lv_at hl 2 rfl) ?_
    refine lv_if_eq (tgt := 122) hx hb dX0_shiftPlace_107 (by decide) (fun c235 => ?_) (fun c235 => ?_)
    · have h := i_yes c235 h
      refine lv_aload_n hx hb dX0_shiftPlace_122 rfl (lv_at hl 0 rfl) ?_
      obtain ⟨o236, ho239, h⟩ := rq_i h
      refine r_getR hC hw kc_0 hi0 0 rfl lk_317 dX0_shiftPlace_123 rfl ho239 (fun a237 hi238 => ?_)
      obtain ⟨o240, ho243, h⟩ := rq_i h
      refine r_getR hC hw kc_3 hi238 4 rfl lk_155 dX0_shiftPlace_126 rfl ho243 (fun a241 hi242 => ?_)
      refine lv_iload_n hx hb dX0_shiftPlace_129 rfl (lv_at hl 1 rfl) ?_
      obtain ⟨hn244, h⟩ := ix_i h
      refine r_iald hC hw hi242 hn244 dX0_shiftPlace_130 ?_
      refine lv_i2l (v := (gI D o240 x1.toNatClampNeg).toInt64) hx hb dX0_shiftPlace_131 rfl ?_
      refine va_mabs_long hx hb (by rw [hC.2.2.1]; exact hl.1.symm) hC.2.2.2.1 (hC.2.2.2.2.1 _ lk_764) (hC.2.2.2.2.1 _ ms_abs_l) (hC.2.2.2.2.1 _ ms_ini) (hC.2.2.2.2.1 _ mc_abs_l) (Nat.le_trans (by decide) hR.1) (Nat.le_trans (Nat.le_of_ble_eq_true rfl) hR.2) (Nat.zero_le _) (Nat.zero_le _) dX0_shiftPlace_132 ?_
      refine lv_ldc2 (v := 65536) hx hb hC.2.2.2.1 (hC.2.2.2.2.1 _ lk_762) dX0_shiftPlace_135 ?_
      refine W.lcmp hx hb dX0_shiftPlace_138 ?_
      refine lv_if_le (tgt := 144) hx hb dX0_shiftPlace_139 (by decide) (fun c245 => ?_) (fun c245 => ?_)
      · have h := i_yes c245 h
        exact w_X0_shiftPlace_144 hC hR o0 a0 x1 x2 x3 x4 x7 x8 _ _ _ _ hi0 hw (lv_sub hl [0, 1, 2, 3, 4, 5, 6] rfl) h
      · have h := i_no c245 h
        refine lv_iconst (v := 0) hx hb dX0_shiftPlace_142 (by decide) ?_
        cases h
        exact r_zret hC hw (Or.inl rfl) dX0_shiftPlace_143
    · have h := i_no c235 h
      refine lv_aload_n hx hb dX0_shiftPlace_110 rfl (lv_at hl 0 rfl) ?_
      refine lv_iload hx hb dX0_shiftPlace_111 (lv_at hl 6 rfl) ?_
      obtain ⟨r247, hq246, h⟩ := pq_i h
      refine r_cV (st' := [.int r247]) [.int x8] [] hC hw kc_0 hi0 (k_X0_isSmall _ hi0 hq246) mk_X0_isSmall lk_758 ⟨Nat.le_trans (by decide) hR.1, Nat.le_trans (by decide) hR.2⟩ ⟨Nat.zero_le _, Nat.zero_le _⟩ rfl hl.1 rfl rfl (Nat.le_of_ble_eq_true rfl) dX0_shiftPlace_113 (fun hP H locs hw => ?_)
      refine lv_if_ne (tgt := 144) hx hb dX0_shiftPlace_116 (by decide) (fun c248 => ?_) (fun c248 => ?_)
      · have h := i_no c248 h
        exact w_X0_shiftPlace_144 hC hR o0 a0 x1 x2 x3 x4 x7 x8 _ _ _ _ hi0 hw (lv_sub hl [0, 1, 2, 3, 4, 5, 6] rfl) h
      · have h := i_yes c248 h
        refine lv_goto (tgt := 142) hx hb dX0_shiftPlace_119 (by decide) ?_
        refine lv_iconst (v := 0) hx hb dX0_shiftPlace_142 (by decide) ?_
        cases h
        exact r_zret hC hw (Or.inl rfl) dX0_shiftPlace_143
  · have h := i_yes c234 h
    refine lv_iconst (v := 0) hx hb dX0_shiftPlace_104 (by decide) ?_
    cases h
    exact r_zret hC hw (Or.inl rfl) dX0_shiftPlace_105
set_option maxHeartbeats 4000000 in
set_option maxRecDepth 100000 in
theorem w_X0_shiftPlace_68 {r : Int32} {D' : dt} (hC : Cx RX0 cX0_shiftPlace 17 (some .boolean) p s m args meth c) (hR : 2 ≤ R.frames ∧ 44 ≤ R.locals) : ∀ (o0 a0 : Nat) (x1 : Int32) (x2 : Int32) (x3 : Int32) (x4 : Int32) (x6 : Int32) (x7 : Int32) (xs0 : Int32) (D : dt) (H : Heap) (locs : List Loc) (ls : Array Slot), Is S ad o0 a0 0 → Wd G cA S D ad A s H locs → lv_has ls 17 [(0, .ref a0), (1, .int x1), (2, .int x2), (3, .int x3), (4, .int x4), (6, .int x6), (7, .int x7)] → f_X0_shiftPlace_68 S o0 x1 x2 x3 x4 x6 x7 xs0 D = some (r, D') → W p l e R s m args below meth c H locs 0 0 (MQ below (Qn (some (.int r)) True (wpost G cA S D' ad A) A) args s 0 0 A) (F0 m 68 ls [.int xs0]) := by
  obtain ⟨hx, hb, -⟩ := id hC
  intro o0 a0 x1 x2 x3 x4 x6 x7 xs0 D H locs ls hi0 hw hl h
  unfold f_X0_shiftPlace_68 at h
  refine lv_istore (lv' := [(8, .int xs0), (0, .ref a0), (1, .int x1), (2, .int x2), (3, .int x3), (4, .int x4), (6, .int x6), (7, .int x7)]) hx hb dX0_shiftPlace_68 hl (by decide) rfl (fun ls hl => ?_)
  refine lv_aload_n hx hb dX0_shiftPlace_70 rfl (lv_at hl 1 rfl) ?_
  obtain ⟨o249, ho252, h⟩ := rq_i h
  refine r_getR hC hw kc_0 hi0 0 rfl lk_317 dX0_shiftPlace_71 rfl ho252 (fun a250 hi251 => ?_)
  refine lv_iload_n hx hb dX0_shiftPlace_74 rfl (lv_at hl 2 rfl) ?_
  obtain ⟨r254, hq253, h⟩ := pq_i h
  refine r_cV (st' := [.int r254]) [.int x1] [] hC hw kc_3 hi251 (k_X4_isWide _ hi251 hq253) mk_X4_isWide lk_673 ⟨Nat.le_trans (by decide) hR.1, Nat.le_trans (by decide) hR.2⟩ ⟨Nat.zero_le _, Nat.zero_le _⟩ rfl hl.1 rfl rfl (Nat.le_of_ble_eq_true rfl) dX0_shiftPlace_75 (fun hP H locs hw => ?_)
  refine lv_if_eq (tgt := 104) hx hb dX0_shiftPlace_78 (by decide) (fun c255 => ?_) (fun c255 => ?_)
  · have h := i_yes c255 h
    refine lv_iconst (v := 0) hx hb dX0_shiftPlace_104 (by decide) ?_
    cases h
    exact r_zret hC hw (Or.inl rfl) dX0_shiftPlace_105
  · have h := i_no c255 h
    refine lv_iload_n hx hb dX0_shiftPlace_81 rfl (lv_at hl 4 rfl) ?_
    refine lv_if_eq (tgt := 95) hx hb dX0_shiftPlace_82 (by decide) (fun c256 => ?_) (fun c256 => ?_)
    · have h := i_yes c256 h
      exact w_X0_shiftPlace_95 hC hR o0 a0 x1 x2 x3 x4 x7 xs0 _ _ _ _ hi0 hw (lv_sub hl [1, 2, 3, 4, 5, 7, 0] rfl) h
    · have h := i_no c256 h
      refine lv_iload_n hx hb dX0_shiftPlace_85 rfl (lv_at hl 4 rfl) ?_
      refine lv_iconst (v := 1) hx hb dX0_shiftPlace_86 (by decide) ?_
      refine lv_icmp_ne (tgt := 104) hx hb dX0_shiftPlace_87 (by decide) (fun c257 => ?_) (fun c257 => ?_)
      · have h := i_no c257 h
        refine lv_iconst (v := 0) hx hb dX0_shiftPlace_104 (by decide) ?_
        cases h
        exact r_zret hC hw (Or.inl rfl) dX0_shiftPlace_105
      · have h := i_yes c257 h
        refine lv_iload hx hb dX0_shiftPlace_90 (lv_at hl 6 rfl) ?_
        refine lv_if_ne (tgt := 104) hx hb dX0_shiftPlace_92 (by decide) (fun c258 => ?_) (fun c258 => ?_)
        · have h := i_no c258 h
          refine lv_iconst (v := 0) hx hb dX0_shiftPlace_104 (by decide) ?_
          cases h
          exact r_zret hC hw (Or.inl rfl) dX0_shiftPlace_105
        · have h := i_yes c258 h
          exact w_X0_shiftPlace_95 hC hR o0 a0 x1 x2 x3 x4 x7 xs0 _ _ _ _ hi0 hw (lv_sub hl [1, 2, 3, 4, 5, 7, 0] rfl) h
set_option maxHeartbeats 4000000 in
set_option maxRecDepth 100000 in
theorem w_X0_shiftPlace_54 {r : Int32} {D' : dt} (hC : Cx RX0 cX0_shiftPlace 17 (some .boolean) p s m args meth c) (hR : 2 ≤ R.frames ∧ 44 ≤ R.locals) : ∀ (o0 a0 : Nat) (x1 : Int32) (x2 : Int32) (x3 : Int32) (x4 : Int32) (x5 : Int32) (x6 : Int32) (xs0 : Int32) (D : dt) (H : Heap) (locs : List Loc) (ls : Array Slot), Is S ad o0 a0 0 → Wd G cA S D ad A s H locs → lv_has ls 17 [(0, .ref a0), (1, .int x1), (2, .int x2), (3, .int x3), (4, .int x4), (5, .int x5), (6, .int x6)] → f_X0_shiftPlace_54 S o0 x1 x2 x3 x4 x5 x6 xs0 D = some (r, D') → W p l e R s m args below meth c H locs 0 0 (MQ below (Qn (some (.int r)) True (wpost G cA S D' ad A) A) args s 0 0 A) (F0 m 54 ls [.int xs0]) := by
  obtain ⟨hx, hb, -⟩ := id hC
  intro o0 a0 x1 x2 x3 x4 x5 x6 xs0 D H locs ls hi0 hw hl h
  unfold f_X0_shiftPlace_54 at h
  refine lv_istore (lv' := [(7, .int xs0), (0, .ref a0), (1, .int x1), (2, .int x2), (3, .int x3), (4, .int x4), (5, .int x5), (6, .int x6)]) hx hb dX0_shiftPlace_54 hl (by decide) rfl (fun ls hl => ?_)
  refine lv_iload hx hb dX0_shiftPlace_56 (lv_at hl 7 rfl) ?_
  refine lv_if_eq (tgt := 66) hx hb dX0_shiftPlace_58 (by decide) (fun c259 => ?_) (fun c259 => ?_)
  · have h := i_yes c259 h
    refine lv_iload hx hb dX0_shiftPlace_66 (lv_at hl 6 rfl) ?_
    exact w_X0_shiftPlace_68 hC hR o0 a0 x1 x2 x3 x4 x6 xs0 x5 _ _ _ _ hi0 hw (lv_sub hl [1, 2, 3, 4, 5, 7, 0] rfl) h
  · have h := i_no c259 h
    refine lv_iload hx hb dX0_shiftPlace_61 (lv_at hl 5 rfl) ?_
    refine lv_goto (tgt := 68) hx hb dX0_shiftPlace_63 (by decide) ?_
    exact w_X0_shiftPlace_68 hC hR o0 a0 x1 x2 x3 x4 x6 xs0 x4 _ _ _ _ hi0 hw (lv_sub hl [1, 2, 3, 4, 5, 7, 0] rfl) h
set_option maxHeartbeats 4000000 in
set_option maxRecDepth 100000 in
theorem w_X0_shiftPlace_0 {r : Int32} {D' : dt} (hC : Cx RX0 cX0_shiftPlace 17 (some .boolean) p s m args meth c) (hR : 2 ≤ R.frames ∧ 44 ≤ R.locals) : ∀ (o0 a0 : Nat) (x1 : Int32) (x2 : Int32) (D : dt) (H : Heap) (locs : List Loc) (ls : Array Slot), Is S ad o0 a0 0 → Wd G cA S D ad A s H locs → lv_has ls 17 [(0, .ref a0), (1, .int x1), (2, .int x2)] → f_X0_shiftPlace S o0 x1 x2 D = some (r, D') → W p l e R s m args below meth c H locs 0 0 (MQ below (Qn (some (.int r)) True (wpost G cA S D' ad A) A) args s 0 0 A) (F0 m 0 ls []) := by
  obtain ⟨hx, hb, -⟩ := id hC
  intro o0 a0 x1 x2 D H locs ls hi0 hw hl h
  unfold f_X0_shiftPlace at h
  refine lv_aload_n hx hb dX0_shiftPlace_0 rfl (lv_at hl 0 rfl) ?_
  obtain ⟨o260, ho263, h⟩ := rq_i h
  refine r_getR hC hw kc_0 hi0 0 rfl lk_317 dX0_shiftPlace_1 rfl ho263 (fun a261 hi262 => ?_)
  refine lv_iload_n hx hb dX0_shiftPlace_4 rfl (lv_at hl 1 rfl) ?_
  obtain ⟨r265, hq264, h⟩ := pq_i h
  refine r_cV (st' := [.int r265]) [.int x1] [] hC hw kc_3 hi262 (k_X4_code _ hi262 hq264) mk_X4_code lk_671 ⟨Nat.le_trans (by decide) hR.1, Nat.le_trans (by decide) hR.2⟩ ⟨Nat.zero_le _, Nat.zero_le _⟩ rfl hl.1 rfl rfl (Nat.le_of_ble_eq_true rfl) dX0_shiftPlace_5 (fun hP H locs hw => ?_)
  refine lv_istore_n (lv' := [(3, .int r265), (0, .ref a0), (1, .int x1), (2, .int x2)]) hx hb dX0_shiftPlace_8 rfl hl (by decide) rfl (fun ls hl => ?_)
  refine lv_aload_n hx hb dX0_shiftPlace_9 rfl (lv_at hl 1 rfl) ?_
  obtain ⟨o266, ho269, h⟩ := rq_i h
  refine r_getR hC hw kc_0 hi0 0 rfl lk_317 dX0_shiftPlace_10 rfl ho269 (fun a267 hi268 => ?_)
  obtain ⟨o270, ho273, h⟩ := rq_i h
  refine r_getR hC hw kc_3 hi268 1 rfl lk_146 dX0_shiftPlace_13 rfl ho273 (fun a271 hi272 => ?_)
  refine lv_iload_n hx hb dX0_shiftPlace_16 rfl (lv_at hl 2 rfl) ?_
  obtain ⟨hn274, h⟩ := ix_i h
  refine r_iald hC hw hi272 hn274 dX0_shiftPlace_17 ?_
  refine lv_topi (fun y275 ey275 => ?_)
  have h := nm_i h y275 ey275
  refine lv_istore (lv' := [(4, .int y275), (3, .int r265), (0, .ref a0), (1, .int x1), (2, .int x2)]) hx hb dX0_shiftPlace_18 hl (by decide) rfl (fun ls hl => ?_)
  refine lv_aload_n hx hb dX0_shiftPlace_20 rfl (lv_at hl 2 rfl) ?_
  obtain ⟨o276, ho279, h⟩ := rq_i h
  refine r_getR hC hw kc_0 hi0 0 rfl lk_317 dX0_shiftPlace_21 rfl ho279 (fun a277 hi278 => ?_)
  obtain ⟨o280, ho283, h⟩ := rq_i h
  refine r_getR hC hw kc_3 hi278 2 rfl lk_149 dX0_shiftPlace_24 rfl ho283 (fun a281 hi282 => ?_)
  refine lv_iload_n hx hb dX0_shiftPlace_27 rfl (lv_at hl 3 rfl) ?_
  obtain ⟨hn284, h⟩ := ix_i h
  refine r_iald hC hw hi282 hn284 dX0_shiftPlace_28 ?_
  refine lv_topi (fun y285 ey285 => ?_)
  have h := nm_i h y285 ey285
  refine lv_istore (lv' := [(5, .int y285), (4, .int y275), (3, .int r265), (0, .ref a0), (1, .int x1), (2, .int x2)]) hx hb dX0_shiftPlace_29 hl (by decide) rfl (fun ls hl => ?_)
  refine lv_aload_n hx hb dX0_shiftPlace_31 rfl (lv_at hl 3 rfl) ?_
  obtain ⟨o286, ho289, h⟩ := rq_i h
  refine r_getR hC hw kc_0 hi0 4 rfl lk_321 dX0_shiftPlace_32 rfl ho289 (fun a287 hi288 => ?_)
  refine lv_iload hx hb dX0_shiftPlace_35 (lv_at hl 1 rfl) ?_
  obtain ⟨r291, hq290, h⟩ := pq_i h
  refine r_cV (st' := [.int r291]) [.int y275] [] hC hw kc_4 hi288 (k_X5_isNumber _ hi288 hq290) mk_X5_isNumber lk_639 ⟨Nat.le_trans (by decide) hR.1, Nat.le_trans (by decide) hR.2⟩ ⟨Nat.zero_le _, Nat.zero_le _⟩ rfl hl.1 rfl rfl (Nat.le_of_ble_eq_true rfl) dX0_shiftPlace_37 (fun hP H locs hw => ?_)
  refine lv_istore (lv' := [(6, .int r291), (5, .int y285), (4, .int y275), (3, .int r265), (0, .ref a0), (1, .int x1), (2, .int x2)]) hx hb dX0_shiftPlace_40 hl (by decide) rfl (fun ls hl => ?_)
  refine lv_iload hx hb dX0_shiftPlace_42 (lv_at hl 0 rfl) ?_
  refine lv_if_eq (tgt := 52) hx hb dX0_shiftPlace_44 (by decide) (fun c292 => ?_) (fun c292 => ?_)
  · have h := i_yes c292 h
    refine lv_iload hx hb dX0_shiftPlace_52 (lv_at hl 2 rfl) ?_
    exact w_X0_shiftPlace_54 hC hR o0 a0 x1 x2 r265 y275 y285 r291 y275 _ _ _ _ hi0 hw (lv_sub hl [4, 5, 6, 3, 2, 1, 0] rfl) h
  · have h := i_no c292 h
    refine lv_iload hx hb dX0_shiftPlace_47 (lv_at hl 1 rfl) ?_
    refine lv_goto (tgt := 54) hx hb dX0_shiftPlace_49 (by decide) ?_
    exact w_X0_shiftPlace_54 hC hR o0 a0 x1 x2 r265 y275 y285 r291 y285 _ _ _ _ hi0 hw (lv_sub hl [4, 5, 6, 3, 2, 1, 0] rfl) h
set_option maxHeartbeats 4000000 in
set_option maxRecDepth 100000 in
theorem k_X0_shiftPlace {l : Launch} {G : va_G} {cA : Nat → ClassId} {S : sh} {D D' : dt} {ad : Nat → Nat} (sz : Nat) {o0 a0 : Nat} {x1 : Int32} {x2 : Int32} {r : Int32} (hi0 : Is S ad o0 a0 0) (h : f_X0_shiftPlace S o0 x1 x2 D = some (r, D')) : Co l yX0_shiftPlace (Cond.code yX0_shiftPlace cX0_shiftPlace 17 (some .boolean) :: tb0) 2 44 [.ref a0, .int x1, .int x2] G cA S D ad sz (some (.int r)) True D' := by
  refine Met.ofW (cc := cX0_shiftPlace) (maxL := 17) (ret := (some .boolean)) (by decide) rfl ?_
  intro p e s m args below meth c s₁ B hml hv
  obtain ⟨rfl, hsz, hP, hK, hD0, hT, hX⟩ := hv
  subst hsz
  have hts := atoms_spec (ws := Cond.code yX0_shiftPlace cX0_shiftPlace 17 (some .boolean) :: tb0) B.pre
  have hC : Cx RX0 cX0_shiftPlace 17 (some .boolean) p s m _ meth c := ⟨B.exec, B.bytes, hml, findClass_of_methodNamed B.named, fun w q => hts w (List.mem_cons_of_mem _ q), B.returns, B.notSynchronized⟩
  have hw := Wd.entry hP hK hD0 hT hX
  have hl := lv_entry ([.ref a0, .int x1, .int x2]) (n := 17) (Nat.le_of_ble_eq_true rfl)
  rw [lg_entry_eq]
  exact w_X0_shiftPlace_0 hC ⟨Nat.le_refl _, Nat.le_refl _⟩ o0 a0 x1 x2 D _ _ _ hi0 hw hl h
set_option maxHeartbeats 4000000 in
set_option maxRecDepth 100000 in
theorem w_X0_judgeArithmetic_181 {r : Int32} {D' : dt} (hC : Cx RX0 cX0_judgeArithmetic 7 (some .int) p s m args meth c) (hR : 4 ≤ R.frames ∧ 116 ≤ R.locals) : ∀ (o0 a0 : Nat) (x1 : Int32) (x5 : Int32) (D : dt) (H : Heap) (locs : List Loc) (ls : Array Slot), Is S ad o0 a0 0 → Wd G cA S D ad A s H locs → lv_has ls 7 [(0, .ref a0), (1, .int x1), (5, .int x5)] → f_X0_judgeArithmetic_181 S o0 x1 x5 D = some (r, D') → W p l e R s m args below meth c H locs 0 0 (MQ below (Qn (some (.int r)) True (wpost G cA S D' ad A) A) args s 0 0 A) (F0 m 181 ls []) := by
  obtain ⟨hx, hb, -⟩ := id hC
  intro o0 a0 x1 x5 D H locs ls hi0 hw hl h
  unfold f_X0_judgeArithmetic_181 at h
  refine lv_aload_n hx hb dX0_judgeArithmetic_181 rfl (lv_at hl 0 rfl) ?_
  refine lv_iload_n hx hb dX0_judgeArithmetic_182 rfl (lv_at hl 1 rfl) ?_
  refine lv_iload hx hb dX0_judgeArithmetic_183 (lv_at hl 2 rfl) ?_
  obtain ⟨_, D100, hq99, h⟩ := cq_i h
  refine r_cV (st' := []) [.int x1, .int x5] [] hC hw kc_0 hi0 (k_X0_makeNumber _ hi0 hq99) mk_X0_makeNumber lk_674 ⟨Nat.le_trans (by decide) hR.1, Nat.le_trans (by decide) hR.2⟩ ⟨Nat.zero_le _, Nat.zero_le _⟩ rfl hl.1 rfl rfl (Nat.le_of_ble_eq_true rfl) dX0_judgeArithmetic_185 (fun hP H locs hw => ?_)
  refine lv_goto (tgt := 203) hx hb dX0_judgeArithmetic_188 (by decide) ?_
  refine lv_iconst (v := 0) hx hb dX0_judgeArithmetic_203 (by decide) ?_
  cases h
  exact r_iret hC hw dX0_judgeArithmetic_204
set_option maxHeartbeats 4000000 in
set_option maxRecDepth 100000 in
theorem w_X0_judgeArithmetic_191 {r : Int32} {D' : dt} (hC : Cx RX0 cX0_judgeArithmetic 7 (some .int) p s m args meth c) (hR : 4 ≤ R.frames ∧ 116 ≤ R.locals) : ∀ (o0 a0 : Nat) (x1 : Int32) (x5 : Int32) (D : dt) (H : Heap) (locs : List Loc) (ls : Array Slot), Is S ad o0 a0 0 → Wd G cA S D ad A s H locs → lv_has ls 7 [(0, .ref a0), (1, .int x1), (5, .int x5)] → f_X0_judgeArithmetic_191 S o0 x1 x5 D = some (r, D') → W p l e R s m args below meth c H locs 0 0 (MQ below (Qn (some (.int r)) True (wpost G cA S D' ad A) A) args s 0 0 A) (F0 m 191 ls []) := by
  obtain ⟨hx, hb, -⟩ := id hC
  intro o0 a0 x1 x5 D H locs ls hi0 hw hl h
  unfold f_X0_judgeArithmetic_191 at h
  refine lv_aload_n hx hb dX0_judgeArithmetic_191 rfl (lv_at hl 0 rfl) ?_
  refine lv_iload_n hx hb dX0_judgeArithmetic_192 rfl (lv_at hl 1 rfl) ?_
  refine lv_iload hx hb dX0_judgeArithmetic_193 (lv_at hl 2 rfl) ?_
  obtain ⟨r102, D103, hq101, h⟩ := cq_i h
  refine r_cV (st' := [.int r102]) [.int x1, .int x5] [] hC hw kc_0 hi0 (k_X0_shiftPlace _ hi0 hq101) mk_X0_shiftPlace lk_754 ⟨Nat.le_trans (by decide) hR.1, Nat.le_trans (by decide) hR.2⟩ ⟨Nat.zero_le _, Nat.zero_le _⟩ rfl hl.1 rfl rfl (Nat.le_of_ble_eq_true rfl) dX0_judgeArithmetic_195 (fun hP H locs hw => ?_)
  refine lv_if_ne (tgt := 203) hx hb dX0_judgeArithmetic_198 (by decide) (fun c104 => ?_) (fun c104 => ?_)
  · have h := i_no c104 h
    refine lv_iconst (v := 0) hx hb dX0_judgeArithmetic_203 (by decide) ?_
    cases h
    exact r_iret hC hw dX0_judgeArithmetic_204
  · have h := i_yes c104 h
    refine lv_iconst (v := 3) hx hb dX0_judgeArithmetic_201 (by decide) ?_
    cases h
    exact r_iret hC hw dX0_judgeArithmetic_202
set_option maxHeartbeats 4000000 in
set_option maxRecDepth 100000 in
theorem w_X0_judgeArithmetic_164 {r : Int32} {D' : dt} (hC : Cx RX0 cX0_judgeArithmetic 7 (some .int) p s m args meth c) (hR : 4 ≤ R.frames ∧ 116 ≤ R.locals) : ∀ (o0 a0 : Nat) (x1 : Int32) (x4 : Int32) (x5 : Int32) (D : dt) (H : Heap) (locs : List Loc) (ls : Array Slot), Is S ad o0 a0 0 → Wd G cA S D ad A s H locs → lv_has ls 7 [(0, .ref a0), (1, .int x1), (4, .int x4), (5, .int x5)] → f_X0_judgeArithmetic_164 S o0 x1 x4 x5 D = some (r, D') → W p l e R s m args below meth c H locs 0 0 (MQ below (Qn (some (.int r)) True (wpost G cA S D' ad A) A) args s 0 0 A) (F0 m 164 ls []) := by
  obtain ⟨hx, hb, -⟩ := id hC
  intro o0 a0 x1 x4 x5 D H locs ls hi0 hw hl h
  unfold f_X0_judgeArithmetic_164 at h
  refine lv_iload hx hb dX0_judgeArithmetic_164 (lv_at hl 3 rfl) ?_
  refine lv_if_eq (tgt := 181) hx hb dX0_judgeArithmetic_166 (by decide) (fun c105 => ?_) (fun c105 => ?_)
  · have h := i_yes c105 h
    exact w_X0_judgeArithmetic_181 hC hR o0 a0 x1 x5 _ _ _ _ hi0 hw (lv_sub hl [0, 1, 3] rfl) h
  · have h := i_no c105 h
    refine lv_aload_n hx hb dX0_judgeArithmetic_169 rfl (lv_at hl 0 rfl) ?_
    obtain ⟨o106, ho109, h⟩ := rq_i h
    refine r_getR hC hw kc_0 hi0 4 rfl lk_321 dX0_judgeArithmetic_170 rfl ho109 (fun a107 hi108 => ?_)
    refine lv_iload hx hb dX0_judgeArithmetic_173 (lv_at hl 2 rfl) ?_
    obtain ⟨r111, hq110, h⟩ := pq_i h
    refine r_cV (st' := [.int r111]) [.int x4] [] hC hw kc_4 hi108 (k_X5_isNumber _ hi108 hq110) mk_X5_isNumber lk_639 ⟨Nat.le_trans (by decide) hR.1, Nat.le_trans (by decide) hR.2⟩ ⟨Nat.zero_le _, Nat.zero_le _⟩ rfl hl.1 rfl rfl (Nat.le_of_ble_eq_true rfl) dX0_judgeArithmetic_175 (fun hP H locs hw => ?_)
    refine lv_if_eq (tgt := 191) hx hb dX0_judgeArithmetic_178 (by decide) (fun c112 => ?_) (fun c112 => ?_)
    · have h := i_yes c112 h
      exact w_X0_judgeArithmetic_191 hC hR o0 a0 x1 x5 _ _ _ _ hi0 hw (lv_sub hl [0, 1, 3] rfl) h
    · have h := i_no c112 h
      exact w_X0_judgeArithmetic_181 hC hR o0 a0 x1 x5 _ _ _ _ hi0 hw (lv_sub hl [0, 1, 3] rfl) h
set_option maxHeartbeats 4000000 in
set_option maxRecDepth 100000 in
theorem w_X0_judgeArithmetic_148 {r : Int32} {D' : dt} (hC : Cx RX0 cX0_judgeArithmetic 7 (some .int) p s m args meth c) (hR : 4 ≤ R.frames ∧ 116 ≤ R.locals) : ∀ (o0 a0 : Nat) (x1 : Int32) (x3 : Int32) (x4 : Int32) (x5 : Int32) (x6 : Int32) (D : dt) (H : Heap) (locs : List Loc) (ls : Array Slot), Is S ad o0 a0 0 → Wd G cA S D ad A s H locs → lv_has ls 7 [(0, .ref a0), (1, .int x1), (3, .int x3), (4, .int x4), (5, .int x5), (6, .int x6)] → f_X0_judgeArithmetic_148 S o0 x1 x3 x4 x5 x6 D = some (r, D') → W p l e R s m args below meth c H locs 0 0 (MQ below (Qn (some (.int r)) True (wpost G cA S D' ad A) A) args s 0 0 A) (F0 m 148 ls []) := by
  obtain ⟨hx, hb, -⟩ := id hC
  intro o0 a0 x1 x3 x4 x5 x6 D H locs ls hi0 hw hl h
  unfold f_X0_judgeArithmetic_148 at h
  refine lv_iload hx hb dX0_judgeArithmetic_148 (lv_at hl 5 rfl) ?_
  refine lv_if_ne (tgt := 164) hx hb dX0_judgeArithmetic_150 (by decide) (fun c113 => ?_) (fun c113 => ?_)
  · have h := i_no c113 h
    exact w_X0_judgeArithmetic_164 hC hR o0 a0 x1 x4 x5 _ _ _ _ hi0 hw (lv_sub hl [0, 1, 3, 4] rfl) h
  · have h := i_yes c113 h
    refine lv_aload_n hx hb dX0_judgeArithmetic_153 rfl (lv_at hl 0 rfl) ?_
    obtain ⟨o114, ho117, h⟩ := rq_i h
    refine r_getR hC hw kc_0 hi0 4 rfl lk_321 dX0_judgeArithmetic_154 rfl ho117 (fun a115 hi116 => ?_)
    refine lv_iload_n hx hb dX0_judgeArithmetic_157 rfl (lv_at hl 2 rfl) ?_
    obtain ⟨r119, hq118, h⟩ := pq_i h
    refine r_cV (st' := [.int r119]) [.int x3] [] hC hw kc_4 hi116 (k_X5_isNumber _ hi116 hq118) mk_X5_isNumber lk_639 ⟨Nat.le_trans (by decide) hR.1, Nat.le_trans (by decide) hR.2⟩ ⟨Nat.zero_le _, Nat.zero_le _⟩ rfl hl.1 rfl rfl (Nat.le_of_ble_eq_true rfl) dX0_judgeArithmetic_158 (fun hP H locs hw => ?_)
    refine lv_if_eq (tgt := 191) hx hb dX0_judgeArithmetic_161 (by decide) (fun c120 => ?_) (fun c120 => ?_)
    · have h := i_yes c120 h
      exact w_X0_judgeArithmetic_191 hC hR o0 a0 x1 x5 _ _ _ _ hi0 hw (lv_sub hl [0, 1, 4] rfl) h
    · have h := i_no c120 h
      exact w_X0_judgeArithmetic_164 hC hR o0 a0 x1 x4 x5 _ _ _ _ hi0 hw (lv_sub hl [0, 1, 3, 4] rfl) h
set_option maxHeartbeats 4000000 in
set_option maxRecDepth 100000 in
theorem w_X0_judgeArithmetic_102 {r : Int32} {D' : dt} (hC : Cx RX0 cX0_judgeArithmetic 7 (some .int) p s m args meth c) (hR : 4 ≤ R.frames ∧ 116 ≤ R.locals) : ∀ (o0 a0 : Nat) (x1 : Int32) (x3 : Int32) (x4 : Int32) (x5 : Int32) (x6 : Int32) (D : dt) (H : Heap) (locs : List Loc) (ls : Array Slot), Is S ad o0 a0 0 → Wd G cA S D ad A s H locs → lv_has ls 7 [(0, .ref a0), (1, .int x1), (3, .int x3), (4, .int x4), (5, .int x5), (6, .int x6)] → f_X0_judgeArithmetic_102 S o0 x1 x3 x4 x5 x6 D = some (r, D') → W p l e R s m args below meth c H locs 0 0 (MQ below (Qn (some (.int r)) True (wpost G cA S D' ad A) A) args s 0 0 A) (F0 m 102 ls []) := by
  obtain ⟨hx, hb, -⟩ := id hC
  intro o0 a0 x1 x3 x4 x5 x6 D H locs ls hi0 hw hl h
  unfold f_X0_judgeArithmetic_102 at h
  refine lv_iload hx hb dX0_judgeArithmetic_102 (lv_at hl 5 rfl) ?_
  refine lv_if_eq (tgt := 148) hx hb dX0_judgeArithmetic_104 (by decide) (fun c121 => ?_) (fun c121 => ?_)
  · have h := i_yes c121 h
    exact w_X0_judgeArithmetic_148 hC hR o0 a0 x1 x3 x4 x5 x6 _ _ _ _ hi0 hw (lv_sub hl [0, 1, 2, 3, 4, 5] rfl) h
  · have h := i_no c121 h
    refine lv_iload hx hb dX0_judgeArithmetic_107 (lv_at hl 4 rfl) ?_
    refine lv_if_eq (tgt := 148) hx hb dX0_judgeArithmetic_109 (by decide) (fun c122 => ?_) (fun c122 => ?_)
    · have h := i_yes c122 h
      exact w_X0_judgeArithmetic_148 hC hR o0 a0 x1 x3 x4 x5 x6 _ _ _ _ hi0 hw (lv_sub hl [0, 1, 2, 3, 4, 5] rfl) h
    · have h := i_no c122 h
      refine lv_aload_n hx hb dX0_judgeArithmetic_112 rfl (lv_at hl 0 rfl) ?_
      obtain ⟨o123, ho126, h⟩ := rq_i h
      refine r_getR hC hw kc_0 hi0 0 rfl lk_317 dX0_judgeArithmetic_113 rfl ho126 (fun a124 hi125 => ?_)
      refine lv_iload_n hx hb dX0_judgeArithmetic_116 rfl (lv_at hl 1 rfl) ?_
      obtain ⟨r128, hq127, h⟩ := pq_i h
      refine r_cV (st' := [.int r128]) [.int x1] [] hC hw kc_3 hi125 (k_X4_isWide _ hi125 hq127) mk_X4_isWide lk_673 ⟨Nat.le_trans (by decide) hR.1, Nat.le_trans (by decide) hR.2⟩ ⟨Nat.zero_le _, Nat.zero_le _⟩ rfl hl.1 rfl rfl (Nat.le_of_ble_eq_true rfl) dX0_judgeArithmetic_117 (fun hP H locs hw => ?_)
      refine lv_if_eq (tgt := 148) hx hb dX0_judgeArithmetic_120 (by decide) (fun c129 => ?_) (fun c129 => ?_)
      · have h := i_yes c129 h
        exact w_X0_judgeArithmetic_148 hC hR o0 a0 x1 x3 x4 x5 x6 _ _ _ _ hi0 hw (lv_sub hl [0, 1, 2, 3, 4, 5] rfl) h
      · have h := i_no c129 h
        refine lv_aload_n hx hb dX0_judgeArithmetic_123 rfl (lv_at hl 0 rfl) ?_
        obtain ⟨o130, ho133, h⟩ := rq_i h
        refine r_getR hC hw kc_0 hi0 0 rfl lk_317 dX0_judgeArithmetic_124 rfl ho133 (fun a131 hi132 => ?_)
        obtain ⟨o134, ho137, h⟩ := rq_i h
        refine r_getR hC hw kc_3 hi132 3 rfl lk_152 dX0_judgeArithmetic_127 rfl ho137 (fun a135 hi136 => ?_)
        refine lv_iload_n hx hb dX0_judgeArithmetic_130 rfl (lv_at hl 1 rfl) ?_
        obtain ⟨hn138, h⟩ := ix_i h
        refine r_iald hC hw hi136 hn138 dX0_judgeArithmetic_131 ?_
        refine lv_if_ne (tgt := 148) hx hb dX0_judgeArithmetic_132 (by decide) (fun c139 => ?_) (fun c139 => ?_)
        · have h := i_no c139 h
          exact w_X0_judgeArithmetic_148 hC hR o0 a0 x1 x3 x4 x5 x6 _ _ _ _ hi0 hw (lv_sub hl [0, 1, 2, 3, 4, 5] rfl) h
        · have h := i_yes c139 h
          refine lv_aload_n hx hb dX0_judgeArithmetic_135 rfl (lv_at hl 0 rfl) ?_
          obtain ⟨o140, ho143, h⟩ := rq_i h
          refine r_getR hC hw kc_0 hi0 4 rfl lk_321 dX0_judgeArithmetic_136 rfl ho143 (fun a141 hi142 => ?_)
          refine lv_iload_n hx hb dX0_judgeArithmetic_139 rfl (lv_at hl 2 rfl) ?_
          refine lv_iload hx hb dX0_judgeArithmetic_140 (lv_at hl 3 rfl) ?_
          obtain ⟨_, D145, hq144, h⟩ := cq_i h
          refine r_cV (st' := []) [.int x3, .int x4] [] hC hw kc_4 hi142 (k_X5_move _ hi142 hq144) mk_X5_move lk_624 ⟨Nat.le_trans (by decide) hR.1, Nat.le_trans (by decide) hR.2⟩ ⟨Nat.zero_le _, Nat.zero_le _⟩ rfl hl.1 rfl rfl (Nat.le_of_ble_eq_true rfl) dX0_judgeArithmetic_142 (fun hP H locs hw => ?_)
          refine lv_goto (tgt := 203) hx hb dX0_judgeArithmetic_145 (by decide) ?_
          refine lv_iconst (v := 0) hx hb dX0_judgeArithmetic_203 (by decide) ?_
          cases h
          exact r_iret hC hw dX0_judgeArithmetic_204
set_option maxHeartbeats 4000000 in
set_option maxRecDepth 100000 in
theorem w_X0_judgeArithmetic_83 {r : Int32} {D' : dt} (hC : Cx RX0 cX0_judgeArithmetic 7 (some .int) p s m args meth c) (hR : 4 ≤ R.frames ∧ 116 ≤ R.locals) : ∀ (o0 a0 : Nat) (x1 : Int32) (x3 : Int32) (x4 : Int32) (x5 : Int32) (x6 : Int32) (D : dt) (H : Heap) (locs : List Loc) (ls : Array Slot), Is S ad o0 a0 0 → Wd G cA S D ad A s H locs → lv_has ls 7 [(0, .ref a0), (1, .int x1), (3, .int x3), (4, .int x4), (5, .int x5), (6, .int x6)] → f_X0_judgeArithmetic_83 S o0 x1 x3 x4 x5 x6 D = some (r, D') → W p l e R s m args below meth c H locs 0 0 (MQ below (Qn (some (.int r)) True (wpost G cA S D' ad A) A) args s 0 0 A) (F0 m 83 ls []) := by
  obtain ⟨hx, hb, -⟩ := id hC
  intro o0 a0 x1 x3 x4 x5 x6 D H locs ls hi0 hw hl h
  unfold f_X0_judgeArithmetic_83 at h
  refine lv_iload hx hb dX0_judgeArithmetic_83 (lv_at hl 4 rfl) ?_
  refine lv_if_eq (tgt := 102) hx hb dX0_judgeArithmetic_85 (by decide) (fun c146 => ?_) (fun c146 => ?_)
  · have h := i_yes c146 h
    exact w_X0_judgeArithmetic_102 hC hR o0 a0 x1 x3 x4 x5 x6 _ _ _ _ hi0 hw (lv_sub hl [0, 1, 2, 3, 4, 5] rfl) h
  · have h := i_no c146 h
    refine lv_aload_n hx hb dX0_judgeArithmetic_88 rfl (lv_at hl 0 rfl) ?_
    obtain ⟨o147, ho150, h⟩ := rq_i h
    refine r_getR hC hw kc_0 hi0 4 rfl lk_321 dX0_judgeArithmetic_89 rfl ho150 (fun a148 hi149 => ?_)
    refine lv_iload hx hb dX0_judgeArithmetic_92 (lv_at hl 3 rfl) ?_
    obtain ⟨r152, hq151, h⟩ := pq_i h
    refine r_cV (st' := [.int r152]) [.int x4] [] hC hw kc_4 hi149 (k_X5_isNone _ hi149 hq151) mk_X5_isNone lk_579 ⟨Nat.le_trans (by decide) hR.1, Nat.le_trans (by decide) hR.2⟩ ⟨Nat.zero_le _, Nat.zero_le _⟩ rfl hl.1 rfl rfl (Nat.le_of_ble_eq_true rfl) dX0_judgeArithmetic_94 (fun hP H locs hw => ?_)
    refine lv_if_eq (tgt := 102) hx hb dX0_judgeArithmetic_97 (by decide) (fun c153 => ?_) (fun c153 => ?_)
    · have h := i_yes c153 h
      exact w_X0_judgeArithmetic_102 hC hR o0 a0 x1 x3 x4 x5 x6 _ _ _ _ hi0 hw (lv_sub hl [0, 1, 2, 3, 4, 5] rfl) h
    · have h := i_no c153 h
      refine lv_iconst (v := 2) hx hb dX0_judgeArithmetic_100 (by decide) ?_
      cases h
      exact r_iret hC hw dX0_judgeArithmetic_101
set_option maxHeartbeats 4000000 in
set_option maxRecDepth 100000 in
theorem w_X0_judgeArithmetic_65 {r : Int32} {D' : dt} (hC : Cx RX0 cX0_judgeArithmetic 7 (some .int) p s m args meth c) (hR : 4 ≤ R.frames ∧ 116 ≤ R.locals) : ∀ (o0 a0 : Nat) (x1 : Int32) (x3 : Int32) (x4 : Int32) (x5 : Int32) (xs0 : Int32) (D : dt) (H : Heap) (locs : List Loc) (ls : Array Slot), Is S ad o0 a0 0 → Wd G cA S D ad A s H locs → lv_has ls 7 [(0, .ref a0), (1, .int x1), (3, .int x3), (4, .int x4), (5, .int x5)] → f_X0_judgeArithmetic_65 S o0 x1 x3 x4 x5 xs0 D = some (r, D') → W p l e R s m args below meth c H locs 0 0 (MQ below (Qn (some (.int r)) True (wpost G cA S D' ad A) A) args s 0 0 A) (F0 m 65 ls [.int xs0]) := by
  obtain ⟨hx, hb, -⟩ := id hC
  intro o0 a0 x1 x3 x4 x5 xs0 D H locs ls hi0 hw hl h
  unfold f_X0_judgeArithmetic_65 at h
  refine lv_istore (lv' := [(6, .int xs0), (0, .ref a0), (1, .int x1), (3, .int x3), (4, .int x4), (5, .int x5)]) hx hb dX0_judgeArithmetic_65 hl (by decide) rfl (fun ls hl => ?_)
  refine lv_iload hx hb dX0_judgeArithmetic_67 (lv_at hl 0 rfl) ?_
  refine lv_if_ne (tgt := 83) hx hb dX0_judgeArithmetic_69 (by decide) (fun c154 => ?_) (fun c154 => ?_)
  · have h := i_no c154 h
    exact w_X0_judgeArithmetic_83 hC hR o0 a0 x1 x3 x4 x5 xs0 _ _ _ _ hi0 hw (lv_sub hl [1, 2, 3, 4, 5, 0] rfl) h
  · have h := i_yes c154 h
    refine lv_aload_n hx hb dX0_judgeArithmetic_72 rfl (lv_at hl 1 rfl) ?_
    obtain ⟨o155, ho158, h⟩ := rq_i h
    refine r_getR hC hw kc_0 hi0 4 rfl lk_321 dX0_judgeArithmetic_73 rfl ho158 (fun a156 hi157 => ?_)
    refine lv_iload_n hx hb dX0_judgeArithmetic_76 rfl (lv_at hl 3 rfl) ?_
    obtain ⟨r160, hq159, h⟩ := pq_i h
    refine r_cV (st' := [.int r160]) [.int x3] [] hC hw kc_4 hi157 (k_X5_isNone _ hi157 hq159) mk_X5_isNone lk_579 ⟨Nat.le_trans (by decide) hR.1, Nat.le_trans (by decide) hR.2⟩ ⟨Nat.zero_le _, Nat.zero_le _⟩ rfl hl.1 rfl rfl (Nat.le_of_ble_eq_true rfl) dX0_judgeArithmetic_77 (fun hP H locs hw => ?_)
    refine lv_if_ne (tgt := 100) hx hb dX0_judgeArithmetic_80 (by decide) (fun c161 => ?_) (fun c161 => ?_)
    · have h := i_no c161 h
      refine lv_iconst (v := 2) hx hb dX0_judgeArithmetic_100 (by decide) ?_
      cases h
      exact r_iret hC hw dX0_judgeArithmetic_101
    · have h := i_yes c161 h
      exact w_X0_judgeArithmetic_83 hC hR o0 a0 x1 x3 x4 x5 xs0 _ _ _ _ hi0 hw (lv_sub hl [1, 2, 3, 4, 5, 0] rfl) h
set_option maxHeartbeats 4000000 in
set_option maxRecDepth 100000 in
theorem w_X0_judgeArithmetic_52 {r : Int32} {D' : dt} (hC : Cx RX0 cX0_judgeArithmetic 7 (some .int) p s m args meth c) (hR : 4 ≤ R.frames ∧ 116 ≤ R.locals) : ∀ (o0 a0 : Nat) (x1 : Int32) (x2 : Int32) (x3 : Int32) (x4 : Int32) (xs0 : Int32) (D : dt) (H : Heap) (locs : List Loc) (ls : Array Slot), Is S ad o0 a0 0 → Wd G cA S D ad A s H locs → lv_has ls 7 [(0, .ref a0), (1, .int x1), (2, .int x2), (3, .int x3), (4, .int x4)] → f_X0_judgeArithmetic_52 S o0 x1 x2 x3 x4 xs0 D = some (r, D') → W p l e R s m args below meth c H locs 0 0 (MQ below (Qn (some (.int r)) True (wpost G cA S D' ad A) A) args s 0 0 A) (F0 m 52 ls [.int xs0]) := by
  obtain ⟨hx, hb, -⟩ := id hC
  intro o0 a0 x1 x2 x3 x4 xs0 D H locs ls hi0 hw hl h
  unfold f_X0_judgeArithmetic_52 at h
  refine lv_istore (lv' := [(5, .int xs0), (0, .ref a0), (1, .int x1), (2, .int x2), (3, .int x3), (4, .int x4)]) hx hb dX0_judgeArithmetic_52 hl (by decide) rfl (fun ls hl => ?_)
  refine lv_iload_n hx hb dX0_judgeArithmetic_54 rfl (lv_at hl 3 rfl) ?_
  refine lv_bipush (v := 11) hx hb dX0_judgeArithmetic_55 (by decide) ?_
  refine lv_icmp_ne (tgt := 64) hx hb dX0_judgeArithmetic_57 (by decide) (fun c162 => ?_) (fun c162 => ?_)
  · have h := i_no c162 h
    refine lv_iconst (v := 0) hx hb dX0_judgeArithmetic_64 (by decide) ?_
    exact w_X0_judgeArithmetic_65 hC hR o0 a0 x1 x3 x4 xs0 (0 : Int32) _ _ _ _ hi0 hw (lv_sub hl [1, 2, 4, 5, 0] rfl) h
  · have h := i_yes c162 h
    refine lv_iconst (v := 1) hx hb dX0_judgeArithmetic_60 (by decide) ?_
    refine lv_goto (tgt := 65) hx hb dX0_judgeArithmetic_61 (by decide) ?_
    exact w_X0_judgeArithmetic_65 hC hR o0 a0 x1 x3 x4 xs0 (1 : Int32) _ _ _ _ hi0 hw (lv_sub hl [1, 2, 4, 5, 0] rfl) h
set_option maxHeartbeats 4000000 in
set_option maxRecDepth 100000 in
theorem w_X0_judgeArithmetic_51 {r : Int32} {D' : dt} (hC : Cx RX0 cX0_judgeArithmetic 7 (some .int) p s m args meth c) (hR : 4 ≤ R.frames ∧ 116 ≤ R.locals) : ∀ (o0 a0 : Nat) (x1 : Int32) (x2 : Int32) (x3 : Int32) (x4 : Int32) (D : dt) (H : Heap) (locs : List Loc) (ls : Array Slot), Is S ad o0 a0 0 → Wd G cA S D ad A s H locs → lv_has ls 7 [(0, .ref a0), (1, .int x1), (2, .int x2), (3, .int x3), (4, .int x4)] → f_X0_judgeArithmetic_51 S o0 x1 x2 x3 x4 D = some (r, D') → W p l e R s m args below meth c H locs 0 0 (MQ below (Qn (some (.int r)) True (wpost G cA S D' ad A) A) args s 0 0 A) (F0 m 51 ls []) := by
  obtain ⟨hx, hb, -⟩ := id hC
  intro o0 a0 x1 x2 x3 x4 D H locs ls hi0 hw hl h
  unfold f_X0_judgeArithmetic_51 at h
  refine lv_iconst (v := 0) hx hb dX0_judgeArithmetic_51 (by decide) ?_
  exact w_X0_judgeArithmetic_52 hC hR o0 a0 x1 x2 x3 x4 (0 : Int32) _ _ _ _ hi0 hw (lv_sub hl [0, 1, 2, 3, 4] rfl) h
set_option maxHeartbeats 4000000 in
set_option maxRecDepth 100000 in
theorem w_X0_judgeArithmetic_0 {r : Int32} {D' : dt} (hC : Cx RX0 cX0_judgeArithmetic 7 (some .int) p s m args meth c) (hR : 4 ≤ R.frames ∧ 116 ≤ R.locals) : ∀ (o0 a0 : Nat) (x1 : Int32) (D : dt) (H : Heap) (locs : List Loc) (ls : Array Slot), Is S ad o0 a0 0 → Wd G cA S D ad A s H locs → lv_has ls 7 [(0, .ref a0), (1, .int x1)] → f_X0_judgeArithmetic S o0 x1 D = some (r, D') → W p l e R s m args below meth c H locs 0 0 (MQ below (Qn (some (.int r)) True (wpost G cA S D' ad A) A) args s 0 0 A) (F0 m 0 ls []) := by
  obtain ⟨hx, hb, -⟩ := id hC
  intro o0 a0 x1 D H locs ls hi0 hw hl h
  unfold f_X0_judgeArithmetic at h
  refine lv_aload_n hx hb dX0_judgeArithmetic_0 rfl (lv_at hl 0 rfl) ?_
  obtain ⟨o163, ho166, h⟩ := rq_i h
  refine r_getR hC hw kc_0 hi0 0 rfl lk_317 dX0_judgeArithmetic_1 rfl ho166 (fun a164 hi165 => ?_)
  refine lv_iload_n hx hb dX0_judgeArithmetic_4 rfl (lv_at hl 1 rfl) ?_
  obtain ⟨r168, hq167, h⟩ := pq_i h
  refine r_cV (st' := [.int r168]) [.int x1] [] hC hw kc_3 hi165 (k_X4_code _ hi165 hq167) mk_X4_code lk_671 ⟨Nat.le_trans (by decide) hR.1, Nat.le_trans (by decide) hR.2⟩ ⟨Nat.zero_le _, Nat.zero_le _⟩ rfl hl.1 rfl rfl (Nat.le_of_ble_eq_true rfl) dX0_judgeArithmetic_5 (fun hP H locs hw => ?_)
  refine lv_istore_n (lv' := [(2, .int r168), (0, .ref a0), (1, .int x1)]) hx hb dX0_judgeArithmetic_8 rfl hl (by decide) rfl (fun ls hl => ?_)
  refine lv_aload_n hx hb dX0_judgeArithmetic_9 rfl (lv_at hl 1 rfl) ?_
  obtain ⟨o169, ho172, h⟩ := rq_i h
  refine r_getR hC hw kc_0 hi0 0 rfl lk_317 dX0_judgeArithmetic_10 rfl ho172 (fun a170 hi171 => ?_)
  obtain ⟨o173, ho176, h⟩ := rq_i h
  refine r_getR hC hw kc_3 hi171 1 rfl lk_146 dX0_judgeArithmetic_13 rfl ho176 (fun a174 hi175 => ?_)
  refine lv_iload_n hx hb dX0_judgeArithmetic_16 rfl (lv_at hl 2 rfl) ?_
  obtain ⟨hn177, h⟩ := ix_i h
  refine r_iald hC hw hi175 hn177 dX0_judgeArithmetic_17 ?_
  refine lv_topi (fun y178 ey178 => ?_)
  have h := nm_i h y178 ey178
  refine lv_istore_n (lv' := [(3, .int y178), (2, .int r168), (0, .ref a0), (1, .int x1)]) hx hb dX0_judgeArithmetic_18 rfl hl (by decide) rfl (fun ls hl => ?_)
  refine lv_aload_n hx hb dX0_judgeArithmetic_19 rfl (lv_at hl 2 rfl) ?_
  obtain ⟨o179, ho182, h⟩ := rq_i h
  refine r_getR hC hw kc_0 hi0 0 rfl lk_317 dX0_judgeArithmetic_20 rfl ho182 (fun a180 hi181 => ?_)
  obtain ⟨o183, ho186, h⟩ := rq_i h
  refine r_getR hC hw kc_3 hi181 2 rfl lk_149 dX0_judgeArithmetic_23 rfl ho186 (fun a184 hi185 => ?_)
  refine lv_iload_n hx hb dX0_judgeArithmetic_26 rfl (lv_at hl 3 rfl) ?_
  obtain ⟨hn187, h⟩ := ix_i h
  refine r_iald hC hw hi185 hn187 dX0_judgeArithmetic_27 ?_
  refine lv_topi (fun y188 ey188 => ?_)
  have h := nm_i h y188 ey188
  refine lv_istore (lv' := [(4, .int y188), (3, .int y178), (2, .int r168), (0, .ref a0), (1, .int x1)]) hx hb dX0_judgeArithmetic_28 hl (by decide) rfl (fun ls hl => ?_)
  refine lv_iload_n hx hb dX0_judgeArithmetic_30 rfl (lv_at hl 2 rfl) ?_
  refine lv_bipush (v := 13) hx hb dX0_judgeArithmetic_31 (by decide) ?_
  refine lv_icmp_eq (tgt := 51) hx hb dX0_judgeArithmetic_33 (by decide) (fun c189 => ?_) (fun c189 => ?_)
  · have h := i_yes c189 h
    exact w_X0_judgeArithmetic_51 hC hR o0 a0 x1 r168 y178 y188 _ _ _ _ hi0 hw (lv_sub hl [3, 4, 2, 1, 0] rfl) h
  · have h := i_no c189 h
    refine lv_aload_n hx hb dX0_judgeArithmetic_36 rfl (lv_at hl 3 rfl) ?_
    obtain ⟨o190, ho193, h⟩ := rq_i h
    refine r_getR hC hw kc_0 hi0 0 rfl lk_317 dX0_judgeArithmetic_37 rfl ho193 (fun a191 hi192 => ?_)
    refine lv_iload_n hx hb dX0_judgeArithmetic_40 rfl (lv_at hl 4 rfl) ?_
    obtain ⟨r195, hq194, h⟩ := pq_i h
    refine r_cV (st' := [.int r195]) [.int x1] [] hC hw kc_3 hi192 (k_X4_byRegister _ hi192 hq194) mk_X4_byRegister lk_672 ⟨Nat.le_trans (by decide) hR.1, Nat.le_trans (by decide) hR.2⟩ ⟨Nat.zero_le _, Nat.zero_le _⟩ rfl hl.1 rfl rfl (Nat.le_of_ble_eq_true rfl) dX0_judgeArithmetic_41 (fun hP H locs hw => ?_)
    refine lv_if_eq (tgt := 51) hx hb dX0_judgeArithmetic_44 (by decide) (fun c196 => ?_) (fun c196 => ?_)
    · have h := i_yes c196 h
      exact w_X0_judgeArithmetic_51 hC hR o0 a0 x1 r168 y178 y188 _ _ _ _ hi0 hw (lv_sub hl [3, 4, 2, 1, 0] rfl) h
    · have h := i_no c196 h
      refine lv_iconst (v := 1) hx hb dX0_judgeArithmetic_47 (by decide) ?_
      refine lv_goto (tgt := 52) hx hb dX0_judgeArithmetic_48 (by decide) ?_
      exact w_X0_judgeArithmetic_52 hC hR o0 a0 x1 r168 y178 y188 (1 : Int32) _ _ _ _ hi0 hw (lv_sub hl [3, 4, 2, 1, 0] rfl) h
set_option maxHeartbeats 4000000 in
set_option maxRecDepth 100000 in
theorem k_X0_judgeArithmetic {l : Launch} {G : va_G} {cA : Nat → ClassId} {S : sh} {D D' : dt} {ad : Nat → Nat} (sz : Nat) {o0 a0 : Nat} {x1 : Int32} {r : Int32} (hi0 : Is S ad o0 a0 0) (h : f_X0_judgeArithmetic S o0 x1 D = some (r, D')) : Co l yX0_judgeArithmetic (Cond.code yX0_judgeArithmetic cX0_judgeArithmetic 7 (some .int) :: tb0) 4 116 [.ref a0, .int x1] G cA S D ad sz (some (.int r)) True D' := by
  refine Met.ofW (cc := cX0_judgeArithmetic) (maxL := 7) (ret := (some .int)) (by decide) rfl ?_
  intro p e s m args below meth c s₁ B hml hv
  obtain ⟨rfl, hsz, hP, hK, hD0, hT, hX⟩ := hv
  subst hsz
  have hts := atoms_spec (ws := Cond.code yX0_judgeArithmetic cX0_judgeArithmetic 7 (some .int) :: tb0) B.pre
  have hC : Cx RX0 cX0_judgeArithmetic 7 (some .int) p s m _ meth c := ⟨B.exec, B.bytes, hml, findClass_of_methodNamed B.named, fun w q => hts w (List.mem_cons_of_mem _ q), B.returns, B.notSynchronized⟩
  have hw := Wd.entry hP hK hD0 hT hX
  have hl := lv_entry ([.ref a0, .int x1]) (n := 7) (Nat.le_of_ble_eq_true rfl)
  rw [lg_entry_eq]
  exact w_X0_judgeArithmetic_0 hC ⟨Nat.le_refl _, Nat.le_refl _⟩ o0 a0 x1 D _ _ _ hi0 hw hl h
set_option maxHeartbeats 4000000 in
set_option maxRecDepth 100000 in
theorem w_X0_given_0 {r : Int32} (hC : Cx RX0 cX0_given 1 (some .int) p s m args meth c) (hR : 0 ≤ R.frames ∧ 0 ≤ R.locals) : ∀ (x0 : Int32) (H : Heap) (locs : List Loc) (ls : Array Slot), Wd G cA S D ad A s H locs → lv_has ls 1 [(0, .int x0)] → f_X0_given x0 = some r → W p l e R s m args below meth c H locs 0 0 (MQ below (Qn (some (.int r)) True (wpost G cA S D ad A) A) args s 0 0 A) (F0 m 0 ls []) := by
  obtain ⟨hx, hb, -⟩ := id hC
  intro x0 H locs ls hw hl h
  unfold f_X0_given at h
  refine lv_iload_n hx hb dX0_given_0 rfl (lv_at hl 0 rfl) ?_
  by_cases c6 : x0 = 2
  · have h := i_yes c6 h
    refine lv_tableIn (off := 39) (tgt := 40) hx hb dX0_given_1 (by rw [c6]; decide) (by rw [c6]; decide) (by rw [c6] <;> rfl) (by decide) ?_
    refine lv_iconst (v := 4) hx hb dX0_given_40 (by decide) ?_
    cases h
    exact r_iret hC hw dX0_given_41
  have h := i_no c6 h
  by_cases c7 : x0 = 3
  · have h := i_yes c7 h
    refine lv_tableIn (off := 41) (tgt := 42) hx hb dX0_given_1 (by rw [c7]; decide) (by rw [c7]; decide) (by rw [c7] <;> rfl) (by decide) ?_
    refine lv_iconst (v := 2) hx hb dX0_given_42 (by decide) ?_
    cases h
    exact r_iret hC hw dX0_given_43
  have h := i_no c7 h
  by_cases c8 : x0 = 4
  · have h := i_yes c8 h
    refine lv_tableIn (off := 41) (tgt := 42) hx hb dX0_given_1 (by rw [c8]; decide) (by rw [c8]; decide) (by rw [c8] <;> rfl) (by decide) ?_
    refine lv_iconst (v := 2) hx hb dX0_given_42 (by decide) ?_
    cases h
    exact r_iret hC hw dX0_given_43
  have h := i_no c8 h
  by_cases c9 : x0 = 5
  · have h := i_yes c9 h
    refine lv_tableIn (off := 35) (tgt := 36) hx hb dX0_given_1 (by rw [c9]; decide) (by rw [c9]; decide) (by rw [c9] <;> rfl) (by decide) ?_
    refine lv_iconst (v := 0) hx hb dX0_given_36 (by decide) ?_
    cases h
    exact r_iret hC hw dX0_given_37
  have h := i_no c9 h
  by_cases c10 : x0 = 6
  · have h := i_yes c10 h
    refine lv_tableIn (off := 37) (tgt := 38) hx hb dX0_given_1 (by rw [c10]; decide) (by rw [c10]; decide) (by rw [c10] <;> rfl) (by decide) ?_
    refine lv_iconst (v := 1) hx hb dX0_given_38 (by decide) ?_
    cases h
    exact r_iret hC hw dX0_given_39
  have h := i_no c10 h
  refine lv_tableOut (tgt := 42) hx hb dX0_given_1 (by have nc6 := lv_neT c6 (a := 2) rfl; have nc7 := lv_neT c7 (a := 3) rfl; have nc8 := lv_neT c8 (a := 4) rfl; have nc9 := lv_neT c9 (a := 5) rfl; have nc10 := lv_neT c10 (a := 6) rfl; omega) (by decide) ?_
  refine lv_iconst (v := 2) hx hb dX0_given_42 (by decide) ?_
  cases h
  exact r_iret hC hw dX0_given_43
set_option maxHeartbeats 4000000 in
set_option maxRecDepth 100000 in
theorem k_X0_given {l : Launch} {G : va_G} {cA : Nat → ClassId} {S : sh} {D : dt} {ad : Nat → Nat} (sz : Nat) {x0 : Int32} {r : Int32}  (h : f_X0_given x0 = some r) : Co l yX0_given (Cond.code yX0_given cX0_given 1 (some .int) :: tb0) 0 0 [.int x0] G cA S D ad sz (some (.int r)) True D := by
  refine Met.ofW (cc := cX0_given) (maxL := 1) (ret := (some .int)) (by decide) rfl ?_
  intro p e s m args below meth c s₁ B hml hv
  obtain ⟨rfl, hsz, hP, hK, hD0, hT, hX⟩ := hv
  subst hsz
  have hts := atoms_spec (ws := Cond.code yX0_given cX0_given 1 (some .int) :: tb0) B.pre
  have hC : Cx RX0 cX0_given 1 (some .int) p s m _ meth c := ⟨B.exec, B.bytes, hml, findClass_of_methodNamed B.named, fun w q => hts w (List.mem_cons_of_mem _ q), B.returns, B.notSynchronized⟩
  have hw := Wd.entry hP hK hD0 hT hX
  have hl := lv_entry ([.int x0]) (n := 1) (Nat.le_of_ble_eq_true rfl)
  rw [lg_entry_eq]
  exact w_X0_given_0 hC ⟨Nat.le_refl _, Nat.le_refl _⟩ x0 _ _ _ hw hl h
set_option maxHeartbeats 4000000 in
set_option maxRecDepth 100000 in
theorem w_X0_judgeTableCall_78 {r : Int32} (hC : Cx RX0 cX0_judgeTableCall 4 (some .int) p s m args meth c) (hR : 3 ≤ R.frames ∧ 74 ≤ R.locals) : ∀ (o0 a0 : Nat) (o2 a2 : Nat) (x3 : Int32) (H : Heap) (locs : List Loc) (ls : Array Slot), Is S ad o0 a0 0 → Is S ad o2 a2 6 → Wd G cA S D ad A s H locs → lv_has ls 4 [(0, .ref a0), (2, .ref a2), (3, .int x3)] → f_X0_judgeTableCall_78 S D o0 o2 x3 = some r → W p l e R s m args below meth c H locs 0 0 (MQ below (Qn (some (.int r)) True (wpost G cA S D ad A) A) args s 0 0 A) (F0 m 78 ls []) := by
  obtain ⟨hx, hb, -⟩ := id hC
  intro o0 a0 o2 a2 x3 H locs ls hi0 hi2 hw hl h
  unfold f_X0_judgeTableCall_78 at h
  refine lv_aload_n hx hb dX0_judgeTableCall_78 rfl (lv_at hl 0 rfl) ?_
  refine lv_iconst (v := 2) hx hb dX0_judgeTableCall_79 (by decide) ?_
  refine lv_iconst (v := 0) hx hb dX0_judgeTableCall_80 (by decide) ?_
  refine lv_aload_n hx hb dX0_judgeTableCall_81 rfl (lv_at hl 1 rfl) ?_
  refine r_gI hC hw kc_6 hi2 1 rfl lk_405 dX0_judgeTableCall_82 ?_
  obtain ⟨r52, hq51, h⟩ := pq_i h
  refine r_cV (st' := [.int r52]) [.int (2 : Int32), .int (0 : Int32), .int (gI D o2 1)] [] hC hw kc_0 hi0 (k_X0_canBeRead _ hi0 hq51) mk_X0_canBeRead lk_591 ⟨Nat.le_trans (by decide) hR.1, Nat.le_trans (by decide) hR.2⟩ ⟨Nat.zero_le _, Nat.zero_le _⟩ rfl hl.1 rfl rfl (Nat.le_of_ble_eq_true rfl) dX0_judgeTableCall_85 (fun hP H locs hw => ?_)
  refine lv_if_eq (tgt := 108) hx hb dX0_judgeTableCall_88 (by decide) (fun c53 => ?_) (fun c53 => ?_)
  · have h := i_yes c53 h
    refine lv_iconst (v := 4) hx hb dX0_judgeTableCall_108 (by decide) ?_
    cases h
    exact r_iret hC hw dX0_judgeTableCall_109
  · have h := i_no c53 h
    refine lv_iload_n hx hb dX0_judgeTableCall_91 rfl (lv_at hl 2 rfl) ?_
    refine lv_if_eq (tgt := 110) hx hb dX0_judgeTableCall_92 (by decide) (fun c54 => ?_) (fun c54 => ?_)
    · have h := i_yes c54 h
      refine lv_iconst (v := 0) hx hb dX0_judgeTableCall_110 (by decide) ?_
      cases h
      exact r_iret hC hw dX0_judgeTableCall_111
    · have h := i_no c54 h
      refine lv_aload_n hx hb dX0_judgeTableCall_95 rfl (lv_at hl 0 rfl) ?_
      refine lv_iconst (v := 3) hx hb dX0_judgeTableCall_96 (by decide) ?_
      refine lv_iconst (v := 0) hx hb dX0_judgeTableCall_97 (by decide) ?_
      refine lv_aload_n hx hb dX0_judgeTableCall_98 rfl (lv_at hl 1 rfl) ?_
      refine r_gI hC hw kc_6 hi2 2 rfl lk_408 dX0_judgeTableCall_99 ?_
      obtain ⟨r56, hq55, h⟩ := pq_i h
      refine r_cV (st' := [.int r56]) [.int (3 : Int32), .int (0 : Int32), .int (gI D o2 2)] [] hC hw kc_0 hi0 (k_X0_canBeRead _ hi0 hq55) mk_X0_canBeRead lk_591 ⟨Nat.le_trans (by decide) hR.1, Nat.le_trans (by decide) hR.2⟩ ⟨Nat.zero_le _, Nat.zero_le _⟩ rfl hl.1 rfl rfl (Nat.le_of_ble_eq_true rfl) dX0_judgeTableCall_102 (fun hP H locs hw => ?_)
      refine lv_if_ne (tgt := 110) hx hb dX0_judgeTableCall_105 (by decide) (fun c57 => ?_) (fun c57 => ?_)
      · have h := i_no c57 h
        refine lv_iconst (v := 0) hx hb dX0_judgeTableCall_110 (by decide) ?_
        cases h
        exact r_iret hC hw dX0_judgeTableCall_111
      · have h := i_yes c57 h
        refine lv_iconst (v := 4) hx hb dX0_judgeTableCall_108 (by decide) ?_
        cases h
        exact r_iret hC hw dX0_judgeTableCall_109
set_option maxHeartbeats 4000000 in
set_option maxRecDepth 100000 in
theorem w_X0_judgeTableCall_52 {r : Int32} (hC : Cx RX0 cX0_judgeTableCall 4 (some .int) p s m args meth c) (hR : 3 ≤ R.frames ∧ 74 ≤ R.locals) : ∀ (o0 a0 : Nat) (o2 a2 : Nat) (xs0 : Int32) (H : Heap) (locs : List Loc) (ls : Array Slot), Is S ad o0 a0 0 → Is S ad o2 a2 6 → Wd G cA S D ad A s H locs → lv_has ls 4 [(0, .ref a0), (2, .ref a2)] → f_X0_judgeTableCall_52 S D o0 o2 xs0 = some r → W p l e R s m args below meth c H locs 0 0 (MQ below (Qn (some (.int r)) True (wpost G cA S D ad A) A) args s 0 0 A) (F0 m 52 ls [.int xs0]) := by
  obtain ⟨hx, hb, -⟩ := id hC
  intro o0 a0 o2 a2 xs0 H locs ls hi0 hi2 hw hl h
  unfold f_X0_judgeTableCall_52 at h
  refine lv_istore_n (lv' := [(3, .int xs0), (0, .ref a0), (2, .ref a2)]) hx hb dX0_judgeTableCall_52 rfl hl (by decide) rfl (fun ls hl => ?_)
  refine lv_iload_n hx hb dX0_judgeTableCall_53 rfl (lv_at hl 0 rfl) ?_
  refine lv_if_eq (tgt := 78) hx hb dX0_judgeTableCall_54 (by decide) (fun c58 => ?_) (fun c58 => ?_)
  · have h := i_yes c58 h
    exact w_X0_judgeTableCall_78 hC hR o0 a0 o2 a2 xs0 _ _ _ hi0 hi2 hw (lv_sub hl [1, 2, 0] rfl) h
  · have h := i_no c58 h
    refine lv_aload_n hx hb dX0_judgeTableCall_57 rfl (lv_at hl 1 rfl) ?_
    refine lv_iconst (v := 3) hx hb dX0_judgeTableCall_58 (by decide) ?_
    obtain ⟨r60, hq59, h⟩ := pq_i h
    refine r_cV (st' := [.int r60]) [.int (3 : Int32)] [] hC hw kc_0 hi0 (k_X0_canBeReached _ hi0 hq59) mk_X0_canBeReached lk_583 ⟨Nat.le_trans (by decide) hR.1, Nat.le_trans (by decide) hR.2⟩ ⟨Nat.zero_le _, Nat.zero_le _⟩ rfl hl.1 rfl rfl (Nat.le_of_ble_eq_true rfl) dX0_judgeTableCall_59 (fun hP H locs hw => ?_)
    refine lv_if_eq (tgt := 76) hx hb dX0_judgeTableCall_62 (by decide) (fun c61 => ?_) (fun c61 => ?_)
    · have h := i_yes c61 h
      refine lv_iconst (v := 3) hx hb dX0_judgeTableCall_76 (by decide) ?_
      cases h
      exact r_iret hC hw dX0_judgeTableCall_77
    · have h := i_no c61 h
      refine lv_aload_n hx hb dX0_judgeTableCall_65 rfl (lv_at hl 1 rfl) ?_
      obtain ⟨o62, ho65, h⟩ := rq_i h
      refine r_getR hC hw kc_0 hi0 4 rfl lk_321 dX0_judgeTableCall_66 rfl ho65 (fun a63 hi64 => ?_)
      refine lv_iconst (v := 4) hx hb dX0_judgeTableCall_69 (by decide) ?_
      obtain ⟨r67, hq66, h⟩ := pq_i h
      refine r_cV (st' := [.int r67]) [.int (4 : Int32)] [] hC hw kc_4 hi64 (k_X5_isNumber _ hi64 hq66) mk_X5_isNumber lk_639 ⟨Nat.le_trans (by decide) hR.1, Nat.le_trans (by decide) hR.2⟩ ⟨Nat.zero_le _, Nat.zero_le _⟩ rfl hl.1 rfl rfl (Nat.le_of_ble_eq_true rfl) dX0_judgeTableCall_70 (fun hP H locs hw => ?_)
      refine lv_if_ne (tgt := 78) hx hb dX0_judgeTableCall_73 (by decide) (fun c68 => ?_) (fun c68 => ?_)
      · have h := i_no c68 h
        exact w_X0_judgeTableCall_78 hC hR o0 a0 o2 a2 xs0 _ _ _ hi0 hi2 hw (lv_sub hl [1, 2, 0] rfl) h
      · have h := i_yes c68 h
        refine lv_iconst (v := 3) hx hb dX0_judgeTableCall_76 (by decide) ?_
        cases h
        exact r_iret hC hw dX0_judgeTableCall_77
set_option maxHeartbeats 4000000 in
set_option maxRecDepth 100000 in
theorem w_X0_judgeTableCall_0 {r : Int32} (hC : Cx RX0 cX0_judgeTableCall 4 (some .int) p s m args meth c) (hR : 3 ≤ R.frames ∧ 74 ≤ R.locals) : ∀ (o0 a0 : Nat) (x1 : Int32) (H : Heap) (locs : List Loc) (ls : Array Slot), Is S ad o0 a0 0 → Wd G cA S D ad A s H locs → lv_has ls 4 [(0, .ref a0), (1, .int x1)] → f_X0_judgeTableCall S D o0 x1 = some r → W p l e R s m args below meth c H locs 0 0 (MQ below (Qn (some (.int r)) True (wpost G cA S D ad A) A) args s 0 0 A) (F0 m 0 ls []) := by
  obtain ⟨hx, hb, -⟩ := id hC
  intro o0 a0 x1 H locs ls hi0 hw hl h
  unfold f_X0_judgeTableCall at h
  refine lv_aload_n hx hb dX0_judgeTableCall_0 rfl (lv_at hl 0 rfl) ?_
  obtain ⟨o69, ho72, h⟩ := rq_i h
  refine r_getR hC hw kc_0 hi0 1 rfl lk_318 dX0_judgeTableCall_1 rfl ho72 (fun a70 hi71 => ?_)
  refine lv_aload_n hx hb dX0_judgeTableCall_4 rfl (lv_at hl 0 rfl) ?_
  obtain ⟨o73, ho76, h⟩ := rq_i h
  refine r_getR hC hw kc_0 hi0 4 rfl lk_321 dX0_judgeTableCall_5 rfl ho76 (fun a74 hi75 => ?_)
  refine lv_iconst (v := 1) hx hb dX0_judgeTableCall_8 (by decide) ?_
  obtain ⟨r78, hq77, h⟩ := pq_i h
  refine r_cV (st' := [.int r78, .ref a70]) [.int (1 : Int32)] [.ref a70] hC hw kc_4 hi75 (k_X5_tableOf _ hi75 hq77) mk_X5_tableOf lk_600 ⟨Nat.le_trans (by decide) hR.1, Nat.le_trans (by decide) hR.2⟩ ⟨Nat.zero_le _, Nat.zero_le _⟩ rfl hl.1 rfl rfl (Nat.le_of_ble_eq_true rfl) dX0_judgeTableCall_9 (fun hP H locs hw => ?_)
  obtain ⟨r80, hq79, h⟩ := pq_i h
  refine r_cV (st' := [va_rf (r80.map ad)]) [.int r78] [] hC hw kc_2 hi71 (k_X2_tableNumbered _ hi71 hq79) mk_X2_tableNumbered lk_564 ⟨Nat.le_trans (by decide) hR.1, Nat.le_trans (by decide) hR.2⟩ ⟨Nat.zero_le _, Nat.zero_le _⟩ rfl hl.1 rfl rfl (Nat.le_of_ble_eq_true rfl) dX0_judgeTableCall_12 (fun hP H locs hw => ?_)
  cases r80 with
  | none =>
    have h := oqN h
    refine W.eq (g2 := F0 m 15 ls [.null]) rfl ?_
    refine lv_astore_nN (lv' := [(2, .null), (0, .ref a0), (1, .int x1)]) hx hb dX0_judgeTableCall_15 rfl hl (by decide) rfl (fun ls hl => ?_)
    refine lv_aload_n hx hb dX0_judgeTableCall_16 rfl (lv_at hl 1 rfl) ?_
    obtain ⟨o83, ho86, h⟩ := rq_i h
    refine r_getR hC hw kc_0 hi0 4 rfl lk_321 dX0_judgeTableCall_17 rfl ho86 (fun a84 hi85 => ?_)
    refine lv_iconst (v := 1) hx hb dX0_judgeTableCall_20 (by decide) ?_
    obtain ⟨r88, hq87, h⟩ := pq_i h
    refine r_cV (st' := [.int r88]) [.int (1 : Int32)] [] hC hw kc_4 hi85 (k_X5_kind _ hi85 hq87) mk_X5_kind lk_587 ⟨Nat.le_trans (by decide) hR.1, Nat.le_trans (by decide) hR.2⟩ ⟨Nat.zero_le _, Nat.zero_le _⟩ rfl hl.1 rfl rfl (Nat.le_of_ble_eq_true rfl) dX0_judgeTableCall_21 (fun hP H locs hw => ?_)
    refine lv_iconst (v := 4) hx hb dX0_judgeTableCall_24 (by decide) ?_
    refine lv_icmp_ne (tgt := 40) hx hb dX0_judgeTableCall_25 (by decide) (fun c89 => ?_) (fun c89 => ?_)
    · have h := i_no c89 h
      refine lv_iconst (v := 3) hx hb dX0_judgeTableCall_40 (by decide) ?_
      cases h
      exact r_iret hC hw dX0_judgeTableCall_41
    · have h := i_yes c89 h
      refine lv_aload_nN hx hb dX0_judgeTableCall_28 rfl (lv_at hl 0 rfl) ?_
      refine lv_ifnullN (tgt := 40) hx hb dX0_judgeTableCall_29 (by decide) ?_
      refine lv_iconst (v := 3) hx hb dX0_judgeTableCall_40 (by decide) ?_
      cases h
      exact r_iret hC hw dX0_judgeTableCall_41
  | some o81 =>
    have h := oqS h
    have hi82 : Is S ad o81 (ad o81) 6 := ⟨(hP o81 rfl).1, (hP o81 rfl).2, rfl⟩
    refine W.eq (g2 := F0 m 15 ls [.ref (ad o81)]) rfl ?_
    refine lv_astore_n (lv' := [(2, .ref (ad o81)), (0, .ref a0), (1, .int x1)]) hx hb dX0_judgeTableCall_15 rfl hl (by decide) rfl (fun ls hl => ?_)
    refine lv_aload_n hx hb dX0_judgeTableCall_16 rfl (lv_at hl 1 rfl) ?_
    obtain ⟨o90, ho93, h⟩ := rq_i h
    refine r_getR hC hw kc_0 hi0 4 rfl lk_321 dX0_judgeTableCall_17 rfl ho93 (fun a91 hi92 => ?_)
    refine lv_iconst (v := 1) hx hb dX0_judgeTableCall_20 (by decide) ?_
    obtain ⟨r95, hq94, h⟩ := pq_i h
    refine r_cV (st' := [.int r95]) [.int (1 : Int32)] [] hC hw kc_4 hi92 (k_X5_kind _ hi92 hq94) mk_X5_kind lk_587 ⟨Nat.le_trans (by decide) hR.1, Nat.le_trans (by decide) hR.2⟩ ⟨Nat.zero_le _, Nat.zero_le _⟩ rfl hl.1 rfl rfl (Nat.le_of_ble_eq_true rfl) dX0_judgeTableCall_21 (fun hP H locs hw => ?_)
    refine lv_iconst (v := 4) hx hb dX0_judgeTableCall_24 (by decide) ?_
    refine lv_icmp_ne (tgt := 40) hx hb dX0_judgeTableCall_25 (by decide) (fun c96 => ?_) (fun c96 => ?_)
    · have h := i_no c96 h
      refine lv_iconst (v := 3) hx hb dX0_judgeTableCall_40 (by decide) ?_
      cases h
      exact r_iret hC hw dX0_judgeTableCall_41
    · have h := i_yes c96 h
      refine lv_aload_n hx hb dX0_judgeTableCall_28 rfl (lv_at hl 0 rfl) ?_
      refine lv_ifnull hx hb dX0_judgeTableCall_29 ?_
      refine lv_aload_n hx hb dX0_judgeTableCall_32 rfl (lv_at hl 1 rfl) ?_
      refine lv_iconst (v := 2) hx hb dX0_judgeTableCall_33 (by decide) ?_
      obtain ⟨r98, hq97, h⟩ := pq_i h
      refine r_cV (st' := [.int r98]) [.int (2 : Int32)] [] hC hw kc_0 hi0 (k_X0_canBeReached _ hi0 hq97) mk_X0_canBeReached lk_583 ⟨Nat.le_trans (by decide) hR.1, Nat.le_trans (by decide) hR.2⟩ ⟨Nat.zero_le _, Nat.zero_le _⟩ rfl hl.1 rfl rfl (Nat.le_of_ble_eq_true rfl) dX0_judgeTableCall_34 (fun hP H locs hw => ?_)
      refine lv_if_ne (tgt := 42) hx hb dX0_judgeTableCall_37 (by decide) (fun c99 => ?_) (fun c99 => ?_)
      · have h := i_no c99 h
        refine lv_iload_n hx hb dX0_judgeTableCall_42 rfl (lv_at hl 2 rfl) ?_
        refine lv_iconst (v := 2) hx hb dX0_judgeTableCall_43 (by decide) ?_
        refine lv_icmp_ne (tgt := 51) hx hb dX0_judgeTableCall_44 (by decide) (fun c100 => ?_) (fun c100 => ?_)
        · have h := i_no c100 h
          refine lv_iconst (v := 0) hx hb dX0_judgeTableCall_51 (by decide) ?_
          exact w_X0_judgeTableCall_52 hC hR o0 a0 o81 (ad o81) (0 : Int32) _ _ _ hi0 hi82 hw (lv_sub hl [1, 0] rfl) h
        · have h := i_yes c100 h
          refine lv_iconst (v := 1) hx hb dX0_judgeTableCall_47 (by decide) ?_
          refine lv_goto (tgt := 52) hx hb dX0_judgeTableCall_48 (by decide) ?_
          exact w_X0_judgeTableCall_52 hC hR o0 a0 o81 (ad o81) (1 : Int32) _ _ _ hi0 hi82 hw (lv_sub hl [1, 0] rfl) h
      · have h := i_yes c99 h
        refine lv_iconst (v := 3) hx hb dX0_judgeTableCall_40 (by decide) ?_
        cases h
        exact r_iret hC hw dX0_judgeTableCall_41
set_option maxHeartbeats 4000000 in
set_option maxRecDepth 100000 in
theorem k_X0_judgeTableCall {l : Launch} {G : va_G} {cA : Nat → ClassId} {S : sh} {D : dt} {ad : Nat → Nat} (sz : Nat) {o0 a0 : Nat} {x1 : Int32} {r : Int32} (hi0 : Is S ad o0 a0 0) (h : f_X0_judgeTableCall S D o0 x1 = some r) : Co l yX0_judgeTableCall (Cond.code yX0_judgeTableCall cX0_judgeTableCall 4 (some .int) :: tb0) 3 74 [.ref a0, .int x1] G cA S D ad sz (some (.int r)) True D := by
  refine Met.ofW (cc := cX0_judgeTableCall) (maxL := 4) (ret := (some .int)) (by decide) rfl ?_
  intro p e s m args below meth c s₁ B hml hv
  obtain ⟨rfl, hsz, hP, hK, hD0, hT, hX⟩ := hv
  subst hsz
  have hts := atoms_spec (ws := Cond.code yX0_judgeTableCall cX0_judgeTableCall 4 (some .int) :: tb0) B.pre
  have hC : Cx RX0 cX0_judgeTableCall 4 (some .int) p s m _ meth c := ⟨B.exec, B.bytes, hml, findClass_of_methodNamed B.named, fun w q => hts w (List.mem_cons_of_mem _ q), B.returns, B.notSynchronized⟩
  have hw := Wd.entry hP hK hD0 hT hX
  have hl := lv_entry ([.ref a0, .int x1]) (n := 4) (Nat.le_of_ble_eq_true rfl)
  rw [lg_entry_eq]
  exact w_X0_judgeTableCall_0 hC ⟨Nat.le_refl _, Nat.le_refl _⟩ o0 a0 x1 _ _ _ hi0 hw hl h
set_option maxHeartbeats 4000000 in
set_option maxRecDepth 100000 in
theorem w_X0_judgeCall_132 {r : Int32} {D' : dt} (hC : Cx RX0 cX0_judgeCall 7 (some .int) p s m args meth c) (hR : 4 ≤ R.frames ∧ 97 ≤ R.locals) : ∀ (n : Nat), ∀ (o0 a0 : Nat) (x6 : Int32) (D : dt) (H : Heap) (locs : List Loc) (ls : Array Slot), Is S ad o0 a0 0 → Wd G cA S D ad A s H locs → lv_has ls 7 [(0, .ref a0), (6, .int x6)] → f_X0_judgeCall_132 S n o0 x6 D = some (r, D') → W p l e R s m args below meth c H locs 0 0 (MQ below (Qn (some (.int r)) True (wpost G cA S D' ad A) A) args s 0 0 A) (F0 m 132 ls []) := by
  obtain ⟨hx, hb, -⟩ := id hC
  intro n
  induction n with
  | zero =>
    intro o0 a0 x6 D H locs ls hi0 hw hl h
    rw [f_X0_judgeCall_132.eq_1] at h
    cases h
  | succ n ih =>
    intro o0 a0 x6 D H locs ls hi0 hw hl h
    rw [f_X0_judgeCall_132.eq_2] at h
    refine lv_iload hx hb dX0_judgeCall_132 (lv_at hl 1 rfl) ?_
    refine lv_iconst (v := 5) hx hb dX0_judgeCall_134 (by decide) ?_
    refine lv_icmp_gt (tgt := 156) hx hb dX0_judgeCall_135 (by decide) (fun c56 => ?_) (fun c56 => ?_)
    · have h := i_yes c56 h
      refine lv_iconst (v := 0) hx hb dX0_judgeCall_156 (by decide) ?_
      cases h
      exact r_iret hC hw dX0_judgeCall_157
    · have h := i_no c56 h
      refine lv_aload_n hx hb dX0_judgeCall_138 rfl (lv_at hl 0 rfl) ?_
      obtain ⟨o57, ho60, h⟩ := rq_i h
      refine r_getR hC hw kc_0 hi0 4 rfl lk_321 dX0_judgeCall_139 rfl ho60 (fun a58 hi59 => ?_)
      refine lv_iload hx hb dX0_judgeCall_142 (lv_at hl 1 rfl) ?_
      refine lv_iconst (v := 0) hx hb dX0_judgeCall_144 (by decide) ?_
      refine lv_lconst (v := 0) hx hb dX0_judgeCall_145 (by decide) ?_
      refine lv_lconst (v := 0) hx hb dX0_judgeCall_146 (by decide) ?_
      obtain ⟨_, D62, hq61, h⟩ := cq_i h
      refine r_cV (st' := []) [.int x6, .int (0 : Int32), .long (0 : Int64), .long (0 : Int64)] [] hC hw kc_4 hi59 (k_X5_write _ hi59 hq61) mk_X5_write lk_572 ⟨Nat.le_trans (by decide) hR.1, Nat.le_trans (by decide) hR.2⟩ ⟨Nat.zero_le _, Nat.zero_le _⟩ rfl hl.1 rfl rfl (Nat.le_of_ble_eq_true rfl) dX0_judgeCall_147 (fun hP H locs hw => ?_)
      obtain ⟨y63, ey63⟩ : ∃ z : Int32, z = x6 + 1 := ⟨_, rfl⟩
      have h := nm_i h y63 ey63
      refine lv_iinc (v := y63) (lv' := [(6, .int y63), (0, .ref a0)]) hx hb dX0_judgeCall_150 hl (k := 1) rfl (by rw [ey63]; rfl) (by decide) rfl (fun ls hl => ?_)
      refine lv_goto (tgt := 132) hx hb dX0_judgeCall_153 (by decide) ?_
      exact ih o0 a0 y63 _ _ _ _ hi0 hw (lv_sub hl [1, 0] rfl) h
set_option maxHeartbeats 4000000 in
set_option maxRecDepth 100000 in
theorem w_X0_judgeCall_129 {r : Int32} {D' : dt} (hC : Cx RX0 cX0_judgeCall 7 (some .int) p s m args meth c) (hR : 4 ≤ R.frames ∧ 97 ≤ R.locals) : ∀ (o0 a0 : Nat) (D : dt) (H : Heap) (locs : List Loc) (ls : Array Slot), Is S ad o0 a0 0 → Wd G cA S D ad A s H locs → lv_has ls 7 [(0, .ref a0)] → f_X0_judgeCall_129 S o0 D = some (r, D') → W p l e R s m args below meth c H locs 0 0 (MQ below (Qn (some (.int r)) True (wpost G cA S D' ad A) A) args s 0 0 A) (F0 m 129 ls []) := by
  obtain ⟨hx, hb, -⟩ := id hC
  intro o0 a0 D H locs ls hi0 hw hl h
  unfold f_X0_judgeCall_129 at h
  refine lv_iconst (v := 1) hx hb dX0_judgeCall_129 (by decide) ?_
  refine lv_topi (fun y64 ey64 => ?_)
  have h := nm_i h y64 ey64
  refine lv_istore (lv' := [(6, .int y64), (0, .ref a0)]) hx hb dX0_judgeCall_130 hl (by decide) rfl (fun ls hl => ?_)
  exact w_X0_judgeCall_132 hC hR LF o0 a0 y64 _ _ _ _ hi0 hw (lv_sub hl [1, 0] rfl) h
set_option maxHeartbeats 4000000 in
set_option maxRecDepth 100000 in
theorem w_X0_judgeCall_83 {r : Int32} {D' : dt} (hC : Cx RX0 cX0_judgeCall 7 (some .int) p s m args meth c) (hR : 4 ≤ R.frames ∧ 97 ≤ R.locals) : ∀ (o0 a0 : Nat) (x1 : Int32) (x2 : Int32) (x4 : Int32) (xs0 : Int32) (D : dt) (H : Heap) (locs : List Loc) (ls : Array Slot), Is S ad o0 a0 0 → Wd G cA S D ad A s H locs → lv_has ls 7 [(0, .ref a0), (1, .int x1), (2, .int x2), (4, .int x4)] → f_X0_judgeCall_83 S o0 x1 x2 x4 xs0 D = some (r, D') → W p l e R s m args below meth c H locs 0 0 (MQ below (Qn (some (.int r)) True (wpost G cA S D' ad A) A) args s 0 0 A) (F0 m 83 ls [.int xs0]) := by
  obtain ⟨hx, hb, -⟩ := id hC
  intro o0 a0 x1 x2 x4 xs0 D H locs ls hi0 hw hl h
  unfold f_X0_judgeCall_83 at h
  refine lv_istore (lv' := [(5, .int xs0), (0, .ref a0), (1, .int x1), (2, .int x2), (4, .int x4)]) hx hb dX0_judgeCall_83 hl (by decide) rfl (fun ls hl => ?_)
  refine lv_iload hx hb dX0_judgeCall_85 (lv_at hl 0 rfl) ?_
  refine lv_if_eq (tgt := 93) hx hb dX0_judgeCall_87 (by decide) (fun c65 => ?_) (fun c65 => ?_)
  · have h := i_yes c65 h
    refine lv_iload_n hx hb dX0_judgeCall_93 rfl (lv_at hl 3 rfl) ?_
    refine lv_iconst (v := 1) hx hb dX0_judgeCall_94 (by decide) ?_
    refine lv_icmp_ne (tgt := 119) hx hb dX0_judgeCall_95 (by decide) (fun c66 => ?_) (fun c66 => ?_)
    · have h := i_no c66 h
      refine lv_aload_n hx hb dX0_judgeCall_119 rfl (lv_at hl 1 rfl) ?_
      obtain ⟨o67, ho70, h⟩ := rq_i h
      refine r_getR hC hw kc_0 hi0 4 rfl lk_321 dX0_judgeCall_120 rfl ho70 (fun a68 hi69 => ?_)
      refine lv_iconst (v := 0) hx hb dX0_judgeCall_123 (by decide) ?_
      refine lv_bipush (v := 8) hx hb dX0_judgeCall_124 (by decide) ?_
      obtain ⟨_, D72, hq71, h⟩ := cq_i h
      refine r_cV (st' := []) [.int (0 : Int32), .int (8 : Int32)] [] hC hw kc_4 hi69 (k_X5_writeAny _ hi69 hq71) mk_X5_writeAny lk_629 ⟨Nat.le_trans (by decide) hR.1, Nat.le_trans (by decide) hR.2⟩ ⟨Nat.zero_le _, Nat.zero_le _⟩ rfl hl.1 rfl rfl (Nat.le_of_ble_eq_true rfl) dX0_judgeCall_126 (fun hP H locs hw => ?_)
      exact w_X0_judgeCall_129 hC hR o0 a0 _ _ _ _ hi0 hw (lv_sub hl [1] rfl) h
    · have h := i_yes c66 h
      refine lv_aload_n hx hb dX0_judgeCall_98 rfl (lv_at hl 1 rfl) ?_
      obtain ⟨o73, ho76, h⟩ := rq_i h
      refine r_getR hC hw kc_0 hi0 4 rfl lk_321 dX0_judgeCall_99 rfl ho76 (fun a74 hi75 => ?_)
      refine lv_iconst (v := 0) hx hb dX0_judgeCall_102 (by decide) ?_
      refine lv_bipush (v := 6) hx hb dX0_judgeCall_103 (by decide) ?_
      refine lv_iload hx hb dX0_judgeCall_105 (lv_at hl 4 rfl) ?_
      refine lv_iload_n hx hb dX0_judgeCall_107 rfl (lv_at hl 2 rfl) ?_
      obtain ⟨r78, hq77, h⟩ := pq_i h
      refine r_cS (st' := [.int r78, .int (0 : Int32), .ref a74]) [.int (6 : Int32), .int x4, .int x1] [.int (0 : Int32), .ref a74] hC hw (k_X5_tagOf _ hq77) mk_X5_tagOf lk_569 ⟨Nat.le_trans (by decide) hR.1, Nat.le_trans (by decide) hR.2⟩ ⟨Nat.zero_le _, Nat.zero_le _⟩ rfl hl.1 rfl rfl (Nat.le_of_ble_eq_true rfl) dX0_judgeCall_108 (fun hP H locs hw => ?_)
      refine lv_lconst (v := 0) hx hb dX0_judgeCall_111 (by decide) ?_
      refine lv_lconst (v := 0) hx hb dX0_judgeCall_112 (by decide) ?_
      obtain ⟨_, D80, hq79, h⟩ := cq_i h
      refine r_cV (st' := []) [.int (0 : Int32), .int r78, .long (0 : Int64), .long (0 : Int64)] [] hC hw kc_4 hi75 (k_X5_write _ hi75 hq79) mk_X5_write lk_572 ⟨Nat.le_trans (by decide) hR.1, Nat.le_trans (by decide) hR.2⟩ ⟨Nat.zero_le _, Nat.zero_le _⟩ rfl hl.1 rfl rfl (Nat.le_of_ble_eq_true rfl) dX0_judgeCall_113 (fun hP H locs hw => ?_)
      refine lv_goto (tgt := 129) hx hb dX0_judgeCall_116 (by decide) ?_
      exact w_X0_judgeCall_129 hC hR o0 a0 _ _ _ _ hi0 hw (lv_sub hl [1] rfl) h
  · have h := i_no c65 h
    refine lv_iload hx hb dX0_judgeCall_90 (lv_at hl 0 rfl) ?_
    cases h
    exact r_iret hC hw dX0_judgeCall_92
set_option maxHeartbeats 4000000 in
set_option maxRecDepth 100000 in
theorem w_X0_judgeCall_74 {r : Int32} {D' : dt} (hC : Cx RX0 cX0_judgeCall 7 (some .int) p s m args meth c) (hR : 4 ≤ R.frames ∧ 97 ≤ R.locals) : ∀ (o0 a0 : Nat) (x1 : Int32) (x2 : Int32) (x4 : Int32) (D : dt) (H : Heap) (locs : List Loc) (ls : Array Slot), Is S ad o0 a0 0 → Wd G cA S D ad A s H locs → lv_has ls 7 [(0, .ref a0), (1, .int x1), (2, .int x2), (4, .int x4)] → f_X0_judgeCall_74 S o0 x1 x2 x4 D = some (r, D') → W p l e R s m args below meth c H locs 0 0 (MQ below (Qn (some (.int r)) True (wpost G cA S D' ad A) A) args s 0 0 A) (F0 m 74 ls []) := by
  obtain ⟨hx, hb, -⟩ := id hC
  intro o0 a0 x1 x2 x4 D H locs ls hi0 hw hl h
  unfold f_X0_judgeCall_74 at h
  refine lv_iconst (v := 0) hx hb dX0_judgeCall_74 (by decide) ?_
  refine lv_goto (tgt := 83) hx hb dX0_judgeCall_75 (by decide) ?_
  exact w_X0_judgeCall_83 hC hR o0 a0 x1 x2 x4 (0 : Int32) _ _ _ _ hi0 hw (lv_sub hl [0, 1, 2, 3] rfl) h
set_option maxHeartbeats 4000000 in
set_option maxRecDepth 100000 in
theorem w_X0_judgeCall_53 {r : Int32} {D' : dt} (hC : Cx RX0 cX0_judgeCall 7 (some .int) p s m args meth c) (hR : 4 ≤ R.frames ∧ 97 ≤ R.locals) : ∀ (o0 a0 : Nat) (x1 : Int32) (x2 : Int32) (D : dt) (H : Heap) (locs : List Loc) (ls : Array Slot), Is S ad o0 a0 0 → Wd G cA S D ad A s H locs → lv_has ls 7 [(0, .ref a0), (1, .int x1), (2, .int x2)] → f_X0_judgeCall_53 S o0 x1 x2 D = some (r, D') → W p l e R s m args below meth c H locs 0 0 (MQ below (Qn (some (.int r)) True (wpost G cA S D' ad A) A) args s 0 0 A) (F0 m 53 ls []) := by
  obtain ⟨hx, hb, -⟩ := id hC
  intro o0 a0 x1 x2 D H locs ls hi0 hw hl h
  unfold f_X0_judgeCall_53 at h
  refine lv_aload_n hx hb dX0_judgeCall_53 rfl (lv_at hl 0 rfl) ?_
  obtain ⟨o81, ho84, h⟩ := rq_i h
  refine r_getR hC hw kc_0 hi0 4 rfl lk_321 dX0_judgeCall_54 rfl ho84 (fun a82 hi83 => ?_)
  refine lv_iconst (v := 1) hx hb dX0_judgeCall_57 (by decide) ?_
  obtain ⟨r86, hq85, h⟩ := pq_i h
  refine r_cV (st' := [.int r86]) [.int (1 : Int32)] [] hC hw kc_4 hi83 (k_X5_tableOf _ hi83 hq85) mk_X5_tableOf lk_600 ⟨Nat.le_trans (by decide) hR.1, Nat.le_trans (by decide) hR.2⟩ ⟨Nat.zero_le _, Nat.zero_le _⟩ rfl hl.1 rfl rfl (Nat.le_of_ble_eq_true rfl) dX0_judgeCall_58 (fun hP H locs hw => ?_)
  refine lv_istore (lv' := [(4, .int r86), (0, .ref a0), (1, .int x1), (2, .int x2)]) hx hb dX0_judgeCall_61 hl (by decide) rfl (fun ls hl => ?_)
  refine lv_iload_n hx hb dX0_judgeCall_63 rfl (lv_at hl 3 rfl) ?_
  refine lv_bipush (v := 6) hx hb dX0_judgeCall_64 (by decide) ?_
  refine lv_icmp_eq (tgt := 74) hx hb dX0_judgeCall_66 (by decide) (fun c87 => ?_) (fun c87 => ?_)
  · have h := i_yes c87 h
    exact w_X0_judgeCall_74 hC hR o0 a0 x1 x2 r86 _ _ _ _ hi0 hw (lv_sub hl [1, 2, 3, 0] rfl) h
  · have h := i_no c87 h
    refine lv_iload_n hx hb dX0_judgeCall_69 rfl (lv_at hl 3 rfl) ?_
    refine lv_iconst (v := 5) hx hb dX0_judgeCall_70 (by decide) ?_
    refine lv_icmp_ne (tgt := 78) hx hb dX0_judgeCall_71 (by decide) (fun c88 => ?_) (fun c88 => ?_)
    · have h := i_no c88 h
      refine lv_aload_n hx hb dX0_judgeCall_78 rfl (lv_at hl 1 rfl) ?_
      refine lv_iload_n hx hb dX0_judgeCall_79 rfl (lv_at hl 3 rfl) ?_
      obtain ⟨r90, hq89, h⟩ := pq_i h
      refine r_cV (st' := [.int r90]) [.int x2] [] hC hw kc_0 hi0 (k_X0_judgeTableCall _ hi0 hq89) mk_X0_judgeTableCall lk_776 ⟨Nat.le_trans (by decide) hR.1, Nat.le_trans (by decide) hR.2⟩ ⟨Nat.zero_le _, Nat.zero_le _⟩ rfl hl.1 rfl rfl (Nat.le_of_ble_eq_true rfl) dX0_judgeCall_80 (fun hP H locs hw => ?_)
      exact w_X0_judgeCall_83 hC hR o0 a0 x1 x2 r86 r90 _ _ _ _ hi0 hw (lv_sub hl [1, 2, 3, 0] rfl) h
    · have h := i_yes c88 h
      exact w_X0_judgeCall_74 hC hR o0 a0 x1 x2 r86 _ _ _ _ hi0 hw (lv_sub hl [1, 2, 3, 0] rfl) h
set_option maxHeartbeats 4000000 in
set_option maxRecDepth 100000 in
theorem w_X0_judgeCall_8 {r : Int32} {D' : dt} (hC : Cx RX0 cX0_judgeCall 7 (some .int) p s m args meth c) (hR : 4 ≤ R.frames ∧ 97 ≤ R.locals) : ∀ (n : Nat), ∀ (o0 a0 : Nat) (x1 : Int32) (x2 : Int32) (x3 : Int32) (x4 : Int32) (D : dt) (H : Heap) (locs : List Loc) (ls : Array Slot), Is S ad o0 a0 0 → Wd G cA S D ad A s H locs → lv_has ls 7 [(0, .ref a0), (1, .int x1), (2, .int x2), (3, .int x3), (4, .int x4)] → f_X0_judgeCall_8 S n o0 x1 x2 x3 x4 D = some (r, D') → W p l e R s m args below meth c H locs 0 0 (MQ below (Qn (some (.int r)) True (wpost G cA S D' ad A) A) args s 0 0 A) (F0 m 8 ls []) := by
  obtain ⟨hx, hb, -⟩ := id hC
  intro n
  induction n with
  | zero =>
    intro o0 a0 x1 x2 x3 x4 D H locs ls hi0 hw hl h
    rw [f_X0_judgeCall_8.eq_1] at h
    cases h
  | succ n ih =>
    intro o0 a0 x1 x2 x3 x4 D H locs ls hi0 hw hl h
    rw [f_X0_judgeCall_8.eq_2] at h
    refine lv_iload hx hb dX0_judgeCall_8 (lv_at hl 4 rfl) ?_
    refine lv_iload_n hx hb dX0_judgeCall_10 rfl (lv_at hl 3 rfl) ?_
    refine lv_icmp_gt (tgt := 34) hx hb dX0_judgeCall_11 (by decide) (fun c91 => ?_) (fun c91 => ?_)
    · have h := i_yes c91 h
      refine lv_iload_n hx hb dX0_judgeCall_34 rfl (lv_at hl 2 rfl) ?_
      refine lv_bipush (v := 6) hx hb dX0_judgeCall_35 (by decide) ?_
      refine lv_icmp_ne (tgt := 53) hx hb dX0_judgeCall_37 (by decide) (fun c92 => ?_) (fun c92 => ?_)
      · have h := i_no c92 h
        exact w_X0_judgeCall_53 hC hR o0 a0 x1 x2 _ _ _ _ hi0 hw (lv_sub hl [0, 1, 2] rfl) h
      · have h := i_yes c92 h
        refine lv_aload_n hx hb dX0_judgeCall_40 rfl (lv_at hl 0 rfl) ?_
        obtain ⟨o93, ho96, h⟩ := rq_i h
        refine r_getR hC hw kc_0 hi0 4 rfl lk_321 dX0_judgeCall_41 rfl ho96 (fun a94 hi95 => ?_)
        refine lv_iconst (v := 1) hx hb dX0_judgeCall_44 (by decide) ?_
        obtain ⟨r98, hq97, h⟩ := pq_i h
        refine r_cV (st' := [.int r98]) [.int (1 : Int32)] [] hC hw kc_4 hi95 (k_X5_isNumber _ hi95 hq97) mk_X5_isNumber lk_639 ⟨Nat.le_trans (by decide) hR.1, Nat.le_trans (by decide) hR.2⟩ ⟨Nat.zero_le _, Nat.zero_le _⟩ rfl hl.1 rfl rfl (Nat.le_of_ble_eq_true rfl) dX0_judgeCall_45 (fun hP H locs hw => ?_)
        refine lv_if_ne (tgt := 53) hx hb dX0_judgeCall_48 (by decide) (fun c99 => ?_) (fun c99 => ?_)
        · have h := i_no c99 h
          exact w_X0_judgeCall_53 hC hR o0 a0 x1 x2 _ _ _ _ hi0 hw (lv_sub hl [0, 1, 2] rfl) h
        · have h := i_yes c99 h
          refine lv_iconst (v := 3) hx hb dX0_judgeCall_51 (by decide) ?_
          cases h
          exact r_iret hC hw dX0_judgeCall_52
    · have h := i_no c91 h
      refine lv_aload_n hx hb dX0_judgeCall_14 rfl (lv_at hl 0 rfl) ?_
      obtain ⟨o100, ho103, h⟩ := rq_i h
      refine r_getR hC hw kc_0 hi0 4 rfl lk_321 dX0_judgeCall_15 rfl ho103 (fun a101 hi102 => ?_)
      refine lv_iload hx hb dX0_judgeCall_18 (lv_at hl 4 rfl) ?_
      obtain ⟨r105, hq104, h⟩ := pq_i h
      refine r_cV (st' := [.int r105]) [.int x4] [] hC hw kc_4 hi102 (k_X5_isNone _ hi102 hq104) mk_X5_isNone lk_579 ⟨Nat.le_trans (by decide) hR.1, Nat.le_trans (by decide) hR.2⟩ ⟨Nat.zero_le _, Nat.zero_le _⟩ rfl hl.1 rfl rfl (Nat.le_of_ble_eq_true rfl) dX0_judgeCall_20 (fun hP H locs hw => ?_)
      refine lv_if_eq (tgt := 28) hx hb dX0_judgeCall_23 (by decide) (fun c106 => ?_) (fun c106 => ?_)
      · have h := i_yes c106 h
        obtain ⟨y107, ey107⟩ : ∃ z : Int32, z = x4 + 1 := ⟨_, rfl⟩
        have h := nm_i h y107 ey107
        refine lv_iinc (v := y107) (lv' := [(4, .int y107), (0, .ref a0), (1, .int x1), (2, .int x2), (3, .int x3)]) hx hb dX0_judgeCall_28 hl (k := 4) rfl (by rw [ey107]; rfl) (by decide) rfl (fun ls hl => ?_)
        refine lv_goto (tgt := 8) hx hb dX0_judgeCall_31 (by decide) ?_
        exact ih o0 a0 x1 x2 x3 y107 _ _ _ _ hi0 hw (lv_sub hl [1, 2, 3, 4, 0] rfl) h
      · have h := i_no c106 h
        refine lv_iconst (v := 2) hx hb dX0_judgeCall_26 (by decide) ?_
        cases h
        exact r_iret hC hw dX0_judgeCall_27
set_option maxHeartbeats 4000000 in
set_option maxRecDepth 100000 in
theorem w_X0_judgeCall_0 {r : Int32} {D' : dt} (hC : Cx RX0 cX0_judgeCall 7 (some .int) p s m args meth c) (hR : 4 ≤ R.frames ∧ 97 ≤ R.locals) : ∀ (o0 a0 : Nat) (x1 : Int32) (x2 : Int32) (D : dt) (H : Heap) (locs : List Loc) (ls : Array Slot), Is S ad o0 a0 0 → Wd G cA S D ad A s H locs → lv_has ls 7 [(0, .ref a0), (1, .int x1), (2, .int x2)] → f_X0_judgeCall S o0 x1 x2 D = some (r, D') → W p l e R s m args below meth c H locs 0 0 (MQ below (Qn (some (.int r)) True (wpost G cA S D' ad A) A) args s 0 0 A) (F0 m 0 ls []) := by
  obtain ⟨hx, hb, -⟩ := id hC
  intro o0 a0 x1 x2 D H locs ls hi0 hw hl h
  unfold f_X0_judgeCall at h
  refine lv_iload_n hx hb dX0_judgeCall_0 rfl (lv_at hl 2 rfl) ?_
  obtain ⟨r109, hq108, h⟩ := pq_i h
  refine r_cS (st' := [.int r109]) [.int x2] [] hC hw (k_X0_given _ hq108) mk_X0_given lk_773 ⟨Nat.le_trans (by decide) hR.1, Nat.le_trans (by decide) hR.2⟩ ⟨Nat.zero_le _, Nat.zero_le _⟩ rfl hl.1 rfl rfl (Nat.le_of_ble_eq_true rfl) dX0_judgeCall_1 (fun hP H locs hw => ?_)
  refine lv_istore_n (lv' := [(3, .int r109), (0, .ref a0), (1, .int x1), (2, .int x2)]) hx hb dX0_judgeCall_4 rfl hl (by decide) rfl (fun ls hl => ?_)
  refine lv_iconst (v := 1) hx hb dX0_judgeCall_5 (by decide) ?_
  refine lv_topi (fun y110 ey110 => ?_)
  have h := nm_i h y110 ey110
  refine lv_istore (lv' := [(4, .int y110), (3, .int r109), (0, .ref a0), (1, .int x1), (2, .int x2)]) hx hb dX0_judgeCall_6 hl (by decide) rfl (fun ls hl => ?_)
  exact w_X0_judgeCall_8 hC hR LF o0 a0 x1 x2 r109 y110 _ _ _ _ hi0 hw (lv_sub hl [2, 3, 4, 1, 0] rfl) h
set_option maxHeartbeats 4000000 in
set_option maxRecDepth 100000 in
theorem k_X0_judgeCall {l : Launch} {G : va_G} {cA : Nat → ClassId} {S : sh} {D D' : dt} {ad : Nat → Nat} (sz : Nat) {o0 a0 : Nat} {x1 : Int32} {x2 : Int32} {r : Int32} (hi0 : Is S ad o0 a0 0) (h : f_X0_judgeCall S o0 x1 x2 D = some (r, D')) : Co l yX0_judgeCall (Cond.code yX0_judgeCall cX0_judgeCall 7 (some .int) :: tb0) 4 97 [.ref a0, .int x1, .int x2] G cA S D ad sz (some (.int r)) True D' := by
  refine Met.ofW (cc := cX0_judgeCall) (maxL := 7) (ret := (some .int)) (by decide) rfl ?_
  intro p e s m args below meth c s₁ B hml hv
  obtain ⟨rfl, hsz, hP, hK, hD0, hT, hX⟩ := hv
  subst hsz
  have hts := atoms_spec (ws := Cond.code yX0_judgeCall cX0_judgeCall 7 (some .int) :: tb0) B.pre
  have hC : Cx RX0 cX0_judgeCall 7 (some .int) p s m _ meth c := ⟨B.exec, B.bytes, hml, findClass_of_methodNamed B.named, fun w q => hts w (List.mem_cons_of_mem _ q), B.returns, B.notSynchronized⟩
  have hw := Wd.entry hP hK hD0 hT hX
  have hl := lv_entry ([.ref a0, .int x1, .int x2]) (n := 7) (Nat.le_of_ble_eq_true rfl)
  rw [lg_entry_eq]
  exact w_X0_judgeCall_0 hC ⟨Nat.le_refl _, Nat.le_refl _⟩ o0 a0 x1 x2 D _ _ _ hi0 hw hl h
set_option maxHeartbeats 4000000 in
set_option maxRecDepth 100000 in
theorem w_X0_goBothWays_0 {r : Unit} {D' : dt} (hC : Cx RX0 cX0_goBothWays 2 none p s m args meth c) (hR : 2 ≤ R.frames ∧ 52 ≤ R.locals) : ∀ (o0 a0 : Nat) (x1 : Int32) (D : dt) (H : Heap) (locs : List Loc) (ls : Array Slot), Is S ad o0 a0 0 → Wd G cA S D ad A s H locs → lv_has ls 2 [(0, .ref a0), (1, .int x1)] → f_X0_goBothWays S o0 x1 D = some (r, D') → W p l e R s m args below meth c H locs 0 0 (MQ below (Qn none True (wpost G cA S D' ad A) A) args s 0 0 A) (F0 m 0 ls []) := by
  obtain ⟨hx, hb, -⟩ := id hC
  intro o0 a0 x1 D H locs ls hi0 hw hl h
  unfold f_X0_goBothWays at h
  refine lv_aload_n hx hb dX0_goBothWays_0 rfl (lv_at hl 0 rfl) ?_
  obtain ⟨o22, ho25, h⟩ := rq_i h
  refine r_getR hC hw kc_0 hi0 5 rfl lk_322 dX0_goBothWays_1 rfl ho25 (fun a23 hi24 => ?_)
  refine lv_aload_n hx hb dX0_goBothWays_4 rfl (lv_at hl 0 rfl) ?_
  obtain ⟨o26, ho29, h⟩ := rq_i h
  refine r_getR hC hw kc_0 hi0 4 rfl lk_321 dX0_goBothWays_5 rfl ho29 (fun a27 hi28 => ?_)
  obtain ⟨_, D31, hq30, h⟩ := cq_i h
  refine r_cV (st' := []) [.ref a27] [] hC hw kc_4 hi24 (k_X5_copyFrom _ hi24 hi28 hq30) mk_X5_copyFrom lk_483 ⟨Nat.le_trans (by decide) hR.1, Nat.le_trans (by decide) hR.2⟩ ⟨Nat.zero_le _, Nat.zero_le _⟩ rfl hl.1 rfl rfl (Nat.le_of_ble_eq_true rfl) dX0_goBothWays_8 (fun hP H locs hw => ?_)
  refine lv_aload_n hx hb dX0_goBothWays_11 rfl (lv_at hl 0 rfl) ?_
  refine lv_iconst (v := 1) hx hb dX0_goBothWays_12 (by decide) ?_
  refine r_pI hC hw kc_0 hi0 10 rfl lk_328 rfl rfl rfl dX0_goBothWays_13 (fun D32 eD32 H locs hw => ?_)
  have h := nm_i h D32 eD32
  refine lv_aload_n hx hb dX0_goBothWays_16 rfl (lv_at hl 0 rfl) ?_
  refine lv_iload_n hx hb dX0_goBothWays_17 rfl (lv_at hl 1 rfl) ?_
  refine lv_i2l (v := x1.toInt64) hx hb dX0_goBothWays_18 rfl ?_
  refine lv_lconst (v := 1) hx hb dX0_goBothWays_19 (by decide) ?_
  refine lv_ladd hx hb dX0_goBothWays_20 ?_
  refine lv_aload_n hx hb dX0_goBothWays_21 rfl (lv_at hl 0 rfl) ?_
  obtain ⟨o33, ho36, h⟩ := rq_i h
  refine r_getR hC hw kc_0 hi0 0 rfl lk_317 dX0_goBothWays_22 rfl ho36 (fun a34 hi35 => ?_)
  obtain ⟨o37, ho40, h⟩ := rq_i h
  refine r_getR hC hw kc_3 hi35 3 rfl lk_152 dX0_goBothWays_25 rfl ho40 (fun a38 hi39 => ?_)
  refine lv_iload_n hx hb dX0_goBothWays_28 rfl (lv_at hl 1 rfl) ?_
  obtain ⟨hn41, h⟩ := ix_i h
  refine r_iald hC hw hi39 hn41 dX0_goBothWays_29 ?_
  refine lv_i2l (v := (gI D32 o37 x1.toNatClampNeg).toInt64) hx hb dX0_goBothWays_30 rfl ?_
  refine lv_ladd hx hb dX0_goBothWays_31 ?_
  refine r_pL hC hw kc_0 hi0 11 rfl lk_329 rfl rfl rfl dX0_goBothWays_32 (fun D42 eD42 H locs hw => ?_)
  have h := nm_i h D42 eD42
  cases h
  exact r_vret hC hw dX0_goBothWays_35
set_option maxHeartbeats 4000000 in
set_option maxRecDepth 100000 in
theorem k_X0_goBothWays {l : Launch} {G : va_G} {cA : Nat → ClassId} {S : sh} {D D' : dt} {ad : Nat → Nat} (sz : Nat) {o0 a0 : Nat} {x1 : Int32} {r : Unit} (hi0 : Is S ad o0 a0 0) (h : f_X0_goBothWays S o0 x1 D = some (r, D')) : Co l yX0_goBothWays (Cond.code yX0_goBothWays cX0_goBothWays 2 none :: tb0) 2 52 [.ref a0, .int x1] G cA S D ad sz none True D' := by
  refine Met.ofW (cc := cX0_goBothWays) (maxL := 2) (ret := none) (by decide) rfl ?_
  intro p e s m args below meth c s₁ B hml hv
  obtain ⟨rfl, hsz, hP, hK, hD0, hT, hX⟩ := hv
  subst hsz
  have hts := atoms_spec (ws := Cond.code yX0_goBothWays cX0_goBothWays 2 none :: tb0) B.pre
  have hC : Cx RX0 cX0_goBothWays 2 none p s m _ meth c := ⟨B.exec, B.bytes, hml, findClass_of_methodNamed B.named, fun w q => hts w (List.mem_cons_of_mem _ q), B.returns, B.notSynchronized⟩
  have hw := Wd.entry hP hK hD0 hT hX
  have hl := lv_entry ([.ref a0, .int x1]) (n := 2) (Nat.le_of_ble_eq_true rfl)
  rw [lg_entry_eq]
  exact w_X0_goBothWays_0 hC ⟨Nat.le_refl _, Nat.le_refl _⟩ o0 a0 x1 D _ _ _ hi0 hw hl h
set_option maxHeartbeats 4000000 in
set_option maxRecDepth 100000 in
theorem w_X0_settleBoth_14 {r : Unit} {D' : dt} (hC : Cx RX0 cX0_settleBoth 3 none p s m args meth c) (hR : 2 ≤ R.frames ∧ 50 ≤ R.locals) : ∀ (o0 a0 : Nat) (x1 : Int32) (x2 : Int32) (os0 as0 : Nat) (xs1 : Int32) (xs2 : Int32) (D : dt) (H : Heap) (locs : List Loc) (ls : Array Slot), Is S ad o0 a0 0 → Is S ad os0 as0 4 → Wd G cA S D ad A s H locs → lv_has ls 3 [(0, .ref a0), (1, .int x1), (2, .int x2)] → f_X0_settleBoth_14 S o0 x1 x2 os0 xs1 xs2 D = some (r, D') → W p l e R s m args below meth c H locs 0 0 (MQ below (Qn none True (wpost G cA S D' ad A) A) args s 0 0 A) (F0 m 14 ls [.int xs2, .int xs1, .ref as0]) := by
  obtain ⟨hx, hb, -⟩ := id hC
  intro o0 a0 x1 x2 os0 as0 xs1 xs2 D H locs ls hi0 his0 hw hl h
  unfold f_X0_settleBoth_14 at h
  obtain ⟨_, D15, hq14, h⟩ := cq_i h
  refine r_cV (st' := []) [.int xs1, .int xs2] [] hC hw kc_4 his0 (k_X5_settle _ his0 hq14) mk_X5_settle lk_800 ⟨Nat.le_trans (by decide) hR.1, Nat.le_trans (by decide) hR.2⟩ ⟨Nat.zero_le _, Nat.zero_le _⟩ rfl hl.1 rfl rfl (Nat.le_of_ble_eq_true rfl) dX0_settleBoth_14 (fun hP H locs hw => ?_)
  refine lv_aload_n hx hb dX0_settleBoth_17 rfl (lv_at hl 0 rfl) ?_
  obtain ⟨o16, ho19, h⟩ := rq_i h
  refine r_getR hC hw kc_0 hi0 5 rfl lk_322 dX0_settleBoth_18 rfl ho19 (fun a17 hi18 => ?_)
  refine lv_iload_n hx hb dX0_settleBoth_21 rfl (lv_at hl 1 rfl) ?_
  refine lv_iload_n hx hb dX0_settleBoth_22 rfl (lv_at hl 2 rfl) ?_
  obtain ⟨_, D21, hq20, h⟩ := cq_i h
  refine r_cV (st' := []) [.int x1, .int x2] [] hC hw kc_4 hi18 (k_X5_settle _ hi18 hq20) mk_X5_settle lk_800 ⟨Nat.le_trans (by decide) hR.1, Nat.le_trans (by decide) hR.2⟩ ⟨Nat.zero_le _, Nat.zero_le _⟩ rfl hl.1 rfl rfl (Nat.le_of_ble_eq_true rfl) dX0_settleBoth_23 (fun hP H locs hw => ?_)
  cases h
  exact r_vret hC hw dX0_settleBoth_26
set_option maxHeartbeats 4000000 in
set_option maxRecDepth 100000 in
theorem w_X0_settleBoth_0 {r : Unit} {D' : dt} (hC : Cx RX0 cX0_settleBoth 3 none p s m args meth c) (hR : 2 ≤ R.frames ∧ 50 ≤ R.locals) : ∀ (o0 a0 : Nat) (x1 : Int32) (x2 : Int32) (D : dt) (H : Heap) (locs : List Loc) (ls : Array Slot), Is S ad o0 a0 0 → Wd G cA S D ad A s H locs → lv_has ls 3 [(0, .ref a0), (1, .int x1), (2, .int x2)] → f_X0_settleBoth S o0 x1 x2 D = some (r, D') → W p l e R s m args below meth c H locs 0 0 (MQ below (Qn none True (wpost G cA S D' ad A) A) args s 0 0 A) (F0 m 0 ls []) := by
  obtain ⟨hx, hb, -⟩ := id hC
  intro o0 a0 x1 x2 D H locs ls hi0 hw hl h
  unfold f_X0_settleBoth at h
  refine lv_aload_n hx hb dX0_settleBoth_0 rfl (lv_at hl 0 rfl) ?_
  obtain ⟨o22, ho25, h⟩ := rq_i h
  refine r_getR hC hw kc_0 hi0 4 rfl lk_321 dX0_settleBoth_1 rfl ho25 (fun a23 hi24 => ?_)
  refine lv_iload_n hx hb dX0_settleBoth_4 rfl (lv_at hl 1 rfl) ?_
  refine lv_iload_n hx hb dX0_settleBoth_5 rfl (lv_at hl 2 rfl) ?_
  refine lv_if_ne (tgt := 13) hx hb dX0_settleBoth_6 (by decide) (fun c26 => ?_) (fun c26 => ?_)
  · have h := i_no c26 h
    refine lv_iconst (v := 0) hx hb dX0_settleBoth_13 (by decide) ?_
    exact w_X0_settleBoth_14 hC hR o0 a0 x1 x2 o22 a23 x1 (0 : Int32) _ _ _ _ hi0 hi24 hw (lv_sub hl [0, 1, 2] rfl) h
  · have h := i_yes c26 h
    refine lv_iconst (v := 1) hx hb dX0_settleBoth_9 (by decide) ?_
    refine lv_goto (tgt := 14) hx hb dX0_settleBoth_10 (by decide) ?_
    exact w_X0_settleBoth_14 hC hR o0 a0 x1 x2 o22 a23 x1 (1 : Int32) _ _ _ _ hi0 hi24 hw (lv_sub hl [0, 1, 2] rfl) h
set_option maxHeartbeats 4000000 in
set_option maxRecDepth 100000 in
theorem k_X0_settleBoth {l : Launch} {G : va_G} {cA : Nat → ClassId} {S : sh} {D D' : dt} {ad : Nat → Nat} (sz : Nat) {o0 a0 : Nat} {x1 : Int32} {x2 : Int32} {r : Unit} (hi0 : Is S ad o0 a0 0) (h : f_X0_settleBoth S o0 x1 x2 D = some (r, D')) : Co l yX0_settleBoth (Cond.code yX0_settleBoth cX0_settleBoth 3 none :: tb0) 2 50 [.ref a0, .int x1, .int x2] G cA S D ad sz none True D' := by
  refine Met.ofW (cc := cX0_settleBoth) (maxL := 3) (ret := none) (by decide) rfl ?_
  intro p e s m args below meth c s₁ B hml hv
  obtain ⟨rfl, hsz, hP, hK, hD0, hT, hX⟩ := hv
  subst hsz
  have hts := atoms_spec (ws := Cond.code yX0_settleBoth cX0_settleBoth 3 none :: tb0) B.pre
  have hC : Cx RX0 cX0_settleBoth 3 none p s m _ meth c := ⟨B.exec, B.bytes, hml, findClass_of_methodNamed B.named, fun w q => hts w (List.mem_cons_of_mem _ q), B.returns, B.notSynchronized⟩
  have hw := Wd.entry hP hK hD0 hT hX
  have hl := lv_entry ([.ref a0, .int x1, .int x2]) (n := 3) (Nat.le_of_ble_eq_true rfl)
  rw [lg_entry_eq]
  exact w_X0_settleBoth_0 hC ⟨Nat.le_refl _, Nat.le_refl _⟩ o0 a0 x1 x2 D _ _ _ hi0 hw hl h
set_option maxHeartbeats 4000000 in
set_option maxRecDepth 100000 in
theorem w_X0_comparesUnsigned_22 {r : Int32} (hC : Cx RX0 cX0_comparesUnsigned 1 (some .boolean) p s m args meth c) (hR : 0 ≤ R.frames ∧ 0 ≤ R.locals) : ∀  (H : Heap) (locs : List Loc) (ls : Array Slot), Wd G cA S D ad A s H locs → lv_has ls 1 [] → f_X0_comparesUnsigned_22 = some r → W p l e R s m args below meth c H locs 0 0 (MQ below (Qn (some (.int r)) True (wpost G cA S D ad A) A) args s 0 0 A) (F0 m 22 ls []) := by
  obtain ⟨hx, hb, -⟩ := id hC
  intro H locs ls hw hl h
  unfold f_X0_comparesUnsigned_22 at h
  refine lv_iconst (v := 1) hx hb dX0_comparesUnsigned_22 (by decide) ?_
  refine lv_goto (tgt := 27) hx hb dX0_comparesUnsigned_23 (by decide) ?_
  cases h
  exact r_zret hC hw (Or.inr rfl) dX0_comparesUnsigned_27
set_option maxHeartbeats 4000000 in
set_option maxRecDepth 100000 in
theorem w_X0_comparesUnsigned_0 {r : Int32} (hC : Cx RX0 cX0_comparesUnsigned 1 (some .boolean) p s m args meth c) (hR : 0 ≤ R.frames ∧ 0 ≤ R.locals) : ∀ (x0 : Int32) (H : Heap) (locs : List Loc) (ls : Array Slot), Wd G cA S D ad A s H locs → lv_has ls 1 [(0, .int x0)] → f_X0_comparesUnsigned x0 = some r → W p l e R s m args below meth c H locs 0 0 (MQ below (Qn (some (.int r)) True (wpost G cA S D ad A) A) args s 0 0 A) (F0 m 0 ls []) := by
  obtain ⟨hx, hb, -⟩ := id hC
  intro x0 H locs ls hw hl h
  unfold f_X0_comparesUnsigned at h
  refine lv_iload_n hx hb dX0_comparesUnsigned_0 rfl (lv_at hl 0 rfl) ?_
  refine lv_iconst (v := 2) hx hb dX0_comparesUnsigned_1 (by decide) ?_
  refine lv_icmp_eq (tgt := 22) hx hb dX0_comparesUnsigned_2 (by decide) (fun c5 => ?_) (fun c5 => ?_)
  · have h := i_yes c5 h
    exact w_X0_comparesUnsigned_22 hC hR _ _ _ hw (lv_sub hl [] rfl) h
  · have h := i_no c5 h
    refine lv_iload_n hx hb dX0_comparesUnsigned_5 rfl (lv_at hl 0 rfl) ?_
    refine lv_iconst (v := 3) hx hb dX0_comparesUnsigned_6 (by decide) ?_
    refine lv_icmp_eq (tgt := 22) hx hb dX0_comparesUnsigned_7 (by decide) (fun c6 => ?_) (fun c6 => ?_)
    · have h := i_yes c6 h
      exact w_X0_comparesUnsigned_22 hC hR _ _ _ hw (lv_sub hl [] rfl) h
    · have h := i_no c6 h
      refine lv_iload_n hx hb dX0_comparesUnsigned_10 rfl (lv_at hl 0 rfl) ?_
      refine lv_bipush (v := 10) hx hb dX0_comparesUnsigned_11 (by decide) ?_
      refine lv_icmp_eq (tgt := 22) hx hb dX0_comparesUnsigned_13 (by decide) (fun c7 => ?_) (fun c7 => ?_)
      · have h := i_yes c7 h
        exact w_X0_comparesUnsigned_22 hC hR _ _ _ hw (lv_sub hl [] rfl) h
      · have h := i_no c7 h
        refine lv_iload_n hx hb dX0_comparesUnsigned_16 rfl (lv_at hl 0 rfl) ?_
        refine lv_bipush (v := 11) hx hb dX0_comparesUnsigned_17 (by decide) ?_
        refine lv_icmp_ne (tgt := 26) hx hb dX0_comparesUnsigned_19 (by decide) (fun c8 => ?_) (fun c8 => ?_)
        · have h := i_no c8 h
          refine lv_iconst (v := 0) hx hb dX0_comparesUnsigned_26 (by decide) ?_
          cases h
          exact r_zret hC hw (Or.inl rfl) dX0_comparesUnsigned_27
        · have h := i_yes c8 h
          exact w_X0_comparesUnsigned_22 hC hR _ _ _ hw (lv_sub hl [] rfl) h
set_option maxHeartbeats 4000000 in
set_option maxRecDepth 100000 in
theorem k_X0_comparesUnsigned {l : Launch} {G : va_G} {cA : Nat → ClassId} {S : sh} {D : dt} {ad : Nat → Nat} (sz : Nat) {x0 : Int32} {r : Int32}  (h : f_X0_comparesUnsigned x0 = some r) : Co l yX0_comparesUnsigned (Cond.code yX0_comparesUnsigned cX0_comparesUnsigned 1 (some .boolean) :: tb0) 0 0 [.int x0] G cA S D ad sz (some (.int r)) True D := by
  refine Met.ofW (cc := cX0_comparesUnsigned) (maxL := 1) (ret := (some .boolean)) (by decide) rfl ?_
  intro p e s m args below meth c s₁ B hml hv
  obtain ⟨rfl, hsz, hP, hK, hD0, hT, hX⟩ := hv
  subst hsz
  have hts := atoms_spec (ws := Cond.code yX0_comparesUnsigned cX0_comparesUnsigned 1 (some .boolean) :: tb0) B.pre
  have hC : Cx RX0 cX0_comparesUnsigned 1 (some .boolean) p s m _ meth c := ⟨B.exec, B.bytes, hml, findClass_of_methodNamed B.named, fun w q => hts w (List.mem_cons_of_mem _ q), B.returns, B.notSynchronized⟩
  have hw := Wd.entry hP hK hD0 hT hX
  have hl := lv_entry ([.int x0]) (n := 1) (Nat.le_of_ble_eq_true rfl)
  rw [lg_entry_eq]
  exact w_X0_comparesUnsigned_0 hC ⟨Nat.le_refl _, Nat.le_refl _⟩ x0 _ _ _ hw hl h
set_option maxHeartbeats 4000000 in
set_option maxRecDepth 100000 in
theorem w_X0_opposite_0 {r : Int32} (hC : Cx RX0 cX0_opposite 1 (some .int) p s m args meth c) (hR : 0 ≤ R.frames ∧ 0 ≤ R.locals) : ∀ (x0 : Int32) (H : Heap) (locs : List Loc) (ls : Array Slot), Wd G cA S D ad A s H locs → lv_has ls 1 [(0, .int x0)] → f_X0_opposite x0 = some r → W p l e R s m args below meth c H locs 0 0 (MQ below (Qn (some (.int r)) True (wpost G cA S D ad A) A) args s 0 0 A) (F0 m 0 ls []) := by
  obtain ⟨hx, hb, -⟩ := id hC
  intro x0 H locs ls hw hl h
  unfold f_X0_opposite at h
  refine lv_iload_n hx hb dX0_opposite_0 rfl (lv_at hl 0 rfl) ?_
  by_cases c11 : x0 = 1
  · have h := i_yes c11 h
    refine lv_tableIn (off := 55) (tgt := 56) hx hb dX0_opposite_1 (by rw [c11]; decide) (by rw [c11]; decide) (by rw [c11] <;> rfl) (by decide) ?_
    refine lv_iconst (v := 5) hx hb dX0_opposite_56 (by decide) ?_
    cases h
    exact r_iret hC hw dX0_opposite_57
  have h := i_no c11 h
  by_cases c12 : x0 = 2
  · have h := i_yes c12 h
    refine lv_tableIn (off := 59) (tgt := 60) hx hb dX0_opposite_1 (by rw [c12]; decide) (by rw [c12]; decide) (by rw [c12] <;> rfl) (by decide) ?_
    refine lv_bipush (v := 11) hx hb dX0_opposite_60 (by decide) ?_
    cases h
    exact r_iret hC hw dX0_opposite_62
  have h := i_no c12 h
  by_cases c13 : x0 = 3
  · have h := i_yes c13 h
    refine lv_tableIn (off := 62) (tgt := 63) hx hb dX0_opposite_1 (by rw [c13]; decide) (by rw [c13]; decide) (by rw [c13] <;> rfl) (by decide) ?_
    refine lv_bipush (v := 10) hx hb dX0_opposite_63 (by decide) ?_
    cases h
    exact r_iret hC hw dX0_opposite_65
  have h := i_no c13 h
  by_cases c14 : x0 = 4
  · have h := i_yes c14 h
    refine lv_tableIn (off := 67) (tgt := 68) hx hb dX0_opposite_1 (by rw [c14]; decide) (by rw [c14]; decide) (by rw [c14] <;> rfl) (by decide) ?_
    refine lv_iconst (v := 2) hx hb dX0_opposite_68 (by decide) ?_
    cases h
    exact r_iret hC hw dX0_opposite_69
  have h := i_no c14 h
  by_cases c15 : x0 = 5
  · have h := i_yes c15 h
    refine lv_tableIn (off := 57) (tgt := 58) hx hb dX0_opposite_1 (by rw [c15]; decide) (by rw [c15]; decide) (by rw [c15] <;> rfl) (by decide) ?_
    refine lv_iconst (v := 1) hx hb dX0_opposite_58 (by decide) ?_
    cases h
    exact r_iret hC hw dX0_opposite_59
  have h := i_no c15 h
  by_cases c16 : x0 = 6
  · have h := i_yes c16 h
    refine lv_tableIn (off := 67) (tgt := 68) hx hb dX0_opposite_1 (by rw [c16]; decide) (by rw [c16]; decide) (by rw [c16] <;> rfl) (by decide) ?_
    refine lv_iconst (v := 2) hx hb dX0_opposite_68 (by decide) ?_
    cases h
    exact r_iret hC hw dX0_opposite_69
  have h := i_no c16 h
  by_cases c17 : x0 = 7
  · have h := i_yes c17 h
    refine lv_tableIn (off := 67) (tgt := 68) hx hb dX0_opposite_1 (by rw [c17]; decide) (by rw [c17]; decide) (by rw [c17] <;> rfl) (by decide) ?_
    refine lv_iconst (v := 2) hx hb dX0_opposite_68 (by decide) ?_
    cases h
    exact r_iret hC hw dX0_opposite_69
  have h := i_no c17 h
  by_cases c18 : x0 = 8
  · have h := i_yes c18 h
    refine lv_tableIn (off := 67) (tgt := 68) hx hb dX0_opposite_1 (by rw [c18]; decide) (by rw [c18]; decide) (by rw [c18] <;> rfl) (by decide) ?_
    refine lv_iconst (v := 2) hx hb dX0_opposite_68 (by decide) ?_
    cases h
    exact r_iret hC hw dX0_opposite_69
  have h := i_no c18 h
  by_cases c19 : x0 = 9
  · have h := i_yes c19 h
    refine lv_tableIn (off := 67) (tgt := 68) hx hb dX0_opposite_1 (by rw [c19]; decide) (by rw [c19]; decide) (by rw [c19] <;> rfl) (by decide) ?_
    refine lv_iconst (v := 2) hx hb dX0_opposite_68 (by decide) ?_
    cases h
    exact r_iret hC hw dX0_opposite_69
  have h := i_no c19 h
  by_cases c20 : x0 = 10
  · have h := i_yes c20 h
    refine lv_tableIn (off := 65) (tgt := 66) hx hb dX0_opposite_1 (by rw [c20]; decide) (by rw [c20]; decide) (by rw [c20] <;> rfl) (by decide) ?_
    refine lv_iconst (v := 3) hx hb dX0_opposite_66 (by decide) ?_
    cases h
    exact r_iret hC hw dX0_opposite_67
  have h := i_no c20 h
  refine lv_tableOut (tgt := 68) hx hb dX0_opposite_1 (by have nc11 := lv_neT c11 (a := 1) rfl; have nc12 := lv_neT c12 (a := 2) rfl; have nc13 := lv_neT c13 (a := 3) rfl; have nc14 := lv_neT c14 (a := 4) rfl; have nc15 := lv_neT c15 (a := 5) rfl; have nc16 := lv_neT c16 (a := 6) rfl; have nc17 := lv_neT c17 (a := 7) rfl; have nc18 := lv_neT c18 (a := 8) rfl; have nc19 := lv_neT c19 (a := 9) rfl; have nc20 := lv_neT c20 (a := 10) rfl; omega) (by decide) ?_
  refine lv_iconst (v := 2) hx hb dX0_opposite_68 (by decide) ?_
  cases h
  exact r_iret hC hw dX0_opposite_69
set_option maxHeartbeats 4000000 in
set_option maxRecDepth 100000 in
theorem k_X0_opposite {l : Launch} {G : va_G} {cA : Nat → ClassId} {S : sh} {D : dt} {ad : Nat → Nat} (sz : Nat) {x0 : Int32} {r : Int32}  (h : f_X0_opposite x0 = some r) : Co l yX0_opposite (Cond.code yX0_opposite cX0_opposite 1 (some .int) :: tb0) 0 0 [.int x0] G cA S D ad sz (some (.int r)) True D := by
  refine Met.ofW (cc := cX0_opposite) (maxL := 1) (ret := (some .int)) (by decide) rfl ?_
  intro p e s m args below meth c s₁ B hml hv
  obtain ⟨rfl, hsz, hP, hK, hD0, hT, hX⟩ := hv
  subst hsz
  have hts := atoms_spec (ws := Cond.code yX0_opposite cX0_opposite 1 (some .int) :: tb0) B.pre
  have hC : Cx RX0 cX0_opposite 1 (some .int) p s m _ meth c := ⟨B.exec, B.bytes, hml, findClass_of_methodNamed B.named, fun w q => hts w (List.mem_cons_of_mem _ q), B.returns, B.notSynchronized⟩
  have hw := Wd.entry hP hK hD0 hT hX
  have hl := lv_entry ([.int x0]) (n := 1) (Nat.le_of_ble_eq_true rfl)
  rw [lg_entry_eq]
  exact w_X0_opposite_0 hC ⟨Nat.le_refl _, Nat.le_refl _⟩ x0 _ _ _ hw hl h
set_option maxHeartbeats 4000000 in
set_option maxRecDepth 100000 in
theorem w_X0_narrowBoth_0 {r : Unit} {D' : dt} (hC : Cx RX0 cX0_narrowBoth 5 none p s m args meth c) (hR : 2 ≤ R.frames ∧ 47 ≤ R.locals) : ∀ (o0 a0 : Nat) (x1 : Int32) (x2 : Int32) (x3 : Int64) (D : dt) (H : Heap) (locs : List Loc) (ls : Array Slot), Is S ad o0 a0 0 → Wd G cA S D ad A s H locs → lv_has ls 5 [(0, .ref a0), (1, .int x1), (2, .int x2), (3, .long x3)] → f_X0_narrowBoth S o0 x1 x2 x3 D = some (r, D') → W p l e R s m args below meth c H locs 0 0 (MQ below (Qn none True (wpost G cA S D' ad A) A) args s 0 0 A) (F0 m 0 ls []) := by
  obtain ⟨hx, hb, -⟩ := id hC
  intro o0 a0 x1 x2 x3 D H locs ls hi0 hw hl h
  unfold f_X0_narrowBoth at h
  refine lv_aload_n hx hb dX0_narrowBoth_0 rfl (lv_at hl 0 rfl) ?_
  obtain ⟨o73, ho76, h⟩ := rq_i h
  refine r_getR hC hw kc_0 hi0 6 rfl lk_323 dX0_narrowBoth_1 rfl ho76 (fun a74 hi75 => ?_)
  refine lv_aload_n hx hb dX0_narrowBoth_4 rfl (lv_at hl 0 rfl) ?_
  obtain ⟨o77, ho80, h⟩ := rq_i h
  refine r_getR hC hw kc_0 hi0 4 rfl lk_321 dX0_narrowBoth_5 rfl ho80 (fun a78 hi79 => ?_)
  obtain ⟨o81, ho84, h⟩ := rq_i h
  refine r_getR hC hw kc_4 hi79 2 rfl lk_268 dX0_narrowBoth_8 rfl ho84 (fun a82 hi83 => ?_)
  refine lv_iload_n hx hb dX0_narrowBoth_11 rfl (lv_at hl 1 rfl) ?_
  obtain ⟨hn85, h⟩ := ix_i h
  refine r_lald hC hw hi83 hn85 dX0_narrowBoth_12 ?_
  refine lv_aload_n hx hb dX0_narrowBoth_13 rfl (lv_at hl 0 rfl) ?_
  obtain ⟨o86, ho89, h⟩ := rq_i h
  refine r_getR hC hw kc_0 hi0 4 rfl lk_321 dX0_narrowBoth_14 rfl ho89 (fun a87 hi88 => ?_)
  obtain ⟨o90, ho93, h⟩ := rq_i h
  refine r_getR hC hw kc_4 hi88 3 rfl lk_270 dX0_narrowBoth_17 rfl ho93 (fun a91 hi92 => ?_)
  refine lv_iload_n hx hb dX0_narrowBoth_20 rfl (lv_at hl 1 rfl) ?_
  obtain ⟨hn94, h⟩ := ix_i h
  refine r_lald hC hw hi92 hn94 dX0_narrowBoth_21 ?_
  obtain ⟨_, D96, hq95, h⟩ := cq_i h
  refine r_cV (st' := []) [.long (gL D o81 x1.toNatClampNeg), .long (gL D o90 x1.toNatClampNeg)] [] hC hw kc_5 hi75 (k_X6_first _ hi75 hq95) mk_X6_first lk_678 ⟨Nat.le_trans (by decide) hR.1, Nat.le_trans (by decide) hR.2⟩ ⟨Nat.zero_le _, Nat.zero_le _⟩ rfl hl.1 rfl rfl (Nat.le_of_ble_eq_true rfl) dX0_narrowBoth_22 (fun hP H locs hw => ?_)
  refine lv_aload_n hx hb dX0_narrowBoth_25 rfl (lv_at hl 0 rfl) ?_
  refine lv_aload_n hx hb dX0_narrowBoth_26 rfl (lv_at hl 0 rfl) ?_
  obtain ⟨o97, ho100, h⟩ := rq_i h
  refine r_getR hC hw kc_0 hi0 6 rfl lk_323 dX0_narrowBoth_27 rfl ho100 (fun a98 hi99 => ?_)
  refine lv_iload_n hx hb dX0_narrowBoth_30 rfl (lv_at hl 2 rfl) ?_
  obtain ⟨r102, hq101, h⟩ := pq_i h
  refine r_cS (st' := [.int r102, .ref a98, .ref a0]) [.int x2] [.ref a98, .ref a0] hC hw (k_X0_opposite _ hq101) mk_X0_opposite lk_817 ⟨Nat.le_trans (by decide) hR.1, Nat.le_trans (by decide) hR.2⟩ ⟨Nat.zero_le _, Nat.zero_le _⟩ rfl hl.1 rfl rfl (Nat.le_of_ble_eq_true rfl) dX0_narrowBoth_31 (fun hP H locs hw => ?_)
  refine lv_lload_n hx hb dX0_narrowBoth_34 rfl (lv_at hl 3 rfl) ?_
  obtain ⟨r104, D105, hq103, h⟩ := cq_i h
  refine r_cV (st' := [.int r104, .ref a0]) [.int r102, .long x3] [.ref a0] hC hw kc_5 hi99 (k_X6_narrow _ hi99 hq103) mk_X6_narrow lk_820 ⟨Nat.le_trans (by decide) hR.1, Nat.le_trans (by decide) hR.2⟩ ⟨Nat.zero_le _, Nat.zero_le _⟩ rfl hl.1 rfl rfl (Nat.le_of_ble_eq_true rfl) dX0_narrowBoth_35 (fun hP H locs hw => ?_)
  obtain ⟨hz107, h⟩ := ck_i h
  refine r_pI hC hw kc_0 hi0 8 rfl lk_326 rfl (nar_z hz107) (fit_z hz107) dX0_narrowBoth_38 (fun D106 eD106 H locs hw => ?_)
  have h := nm_i h D106 eD106
  refine lv_aload_n hx hb dX0_narrowBoth_41 rfl (lv_at hl 0 rfl) ?_
  obtain ⟨o108, ho111, h⟩ := rq_i h
  refine r_getR hC hw kc_0 hi0 4 rfl lk_321 dX0_narrowBoth_42 rfl ho111 (fun a109 hi110 => ?_)
  refine lv_iload_n hx hb dX0_narrowBoth_45 rfl (lv_at hl 1 rfl) ?_
  refine lv_iconst (v := 1) hx hb dX0_narrowBoth_46 (by decide) ?_
  refine lv_aload_n hx hb dX0_narrowBoth_47 rfl (lv_at hl 0 rfl) ?_
  obtain ⟨o112, ho115, h⟩ := rq_i h
  refine r_getR hC hw kc_0 hi0 6 rfl lk_323 dX0_narrowBoth_48 rfl ho115 (fun a113 hi114 => ?_)
  refine r_gL hC hw kc_5 hi114 0 rfl lk_294 dX0_narrowBoth_51 ?_
  refine lv_aload_n hx hb dX0_narrowBoth_54 rfl (lv_at hl 0 rfl) ?_
  obtain ⟨o116, ho119, h⟩ := rq_i h
  refine r_getR hC hw kc_0 hi0 6 rfl lk_323 dX0_narrowBoth_55 rfl ho119 (fun a117 hi118 => ?_)
  refine r_gL hC hw kc_5 hi118 1 rfl lk_296 dX0_narrowBoth_58 ?_
  obtain ⟨_, D121, hq120, h⟩ := cq_i h
  refine r_cV (st' := []) [.int x1, .int (1 : Int32), .long (gL D106 o112 0), .long (gL D106 o116 1)] [] hC hw kc_4 hi110 (k_X5_write _ hi110 hq120) mk_X5_write lk_572 ⟨Nat.le_trans (by decide) hR.1, Nat.le_trans (by decide) hR.2⟩ ⟨Nat.zero_le _, Nat.zero_le _⟩ rfl hl.1 rfl rfl (Nat.le_of_ble_eq_true rfl) dX0_narrowBoth_61 (fun hP H locs hw => ?_)
  refine lv_aload_n hx hb dX0_narrowBoth_64 rfl (lv_at hl 0 rfl) ?_
  refine lv_aload_n hx hb dX0_narrowBoth_65 rfl (lv_at hl 0 rfl) ?_
  obtain ⟨o122, ho125, h⟩ := rq_i h
  refine r_getR hC hw kc_0 hi0 6 rfl lk_323 dX0_narrowBoth_66 rfl ho125 (fun a123 hi124 => ?_)
  refine lv_iload_n hx hb dX0_narrowBoth_69 rfl (lv_at hl 2 rfl) ?_
  refine lv_lload_n hx hb dX0_narrowBoth_70 rfl (lv_at hl 3 rfl) ?_
  obtain ⟨r127, D128, hq126, h⟩ := cq_i h
  refine r_cV (st' := [.int r127, .ref a0]) [.int x2, .long x3] [.ref a0] hC hw kc_5 hi124 (k_X6_narrow _ hi124 hq126) mk_X6_narrow lk_820 ⟨Nat.le_trans (by decide) hR.1, Nat.le_trans (by decide) hR.2⟩ ⟨Nat.zero_le _, Nat.zero_le _⟩ rfl hl.1 rfl rfl (Nat.le_of_ble_eq_true rfl) dX0_narrowBoth_71 (fun hP H locs hw => ?_)
  obtain ⟨hz130, h⟩ := ck_i h
  refine r_pI hC hw kc_0 hi0 10 rfl lk_328 rfl (nar_z hz130) (fit_z hz130) dX0_narrowBoth_74 (fun D129 eD129 H locs hw => ?_)
  have h := nm_i h D129 eD129
  refine lv_aload_n hx hb dX0_narrowBoth_77 rfl (lv_at hl 0 rfl) ?_
  obtain ⟨o131, ho134, h⟩ := rq_i h
  refine r_getR hC hw kc_0 hi0 5 rfl lk_322 dX0_narrowBoth_78 rfl ho134 (fun a132 hi133 => ?_)
  refine lv_iload_n hx hb dX0_narrowBoth_81 rfl (lv_at hl 1 rfl) ?_
  refine lv_iconst (v := 1) hx hb dX0_narrowBoth_82 (by decide) ?_
  refine lv_aload_n hx hb dX0_narrowBoth_83 rfl (lv_at hl 0 rfl) ?_
  obtain ⟨o135, ho138, h⟩ := rq_i h
  refine r_getR hC hw kc_0 hi0 6 rfl lk_323 dX0_narrowBoth_84 rfl ho138 (fun a136 hi137 => ?_)
  refine r_gL hC hw kc_5 hi137 0 rfl lk_294 dX0_narrowBoth_87 ?_
  refine lv_aload_n hx hb dX0_narrowBoth_90 rfl (lv_at hl 0 rfl) ?_
  obtain ⟨o139, ho142, h⟩ := rq_i h
  refine r_getR hC hw kc_0 hi0 6 rfl lk_323 dX0_narrowBoth_91 rfl ho142 (fun a140 hi141 => ?_)
  refine r_gL hC hw kc_5 hi141 1 rfl lk_296 dX0_narrowBoth_94 ?_
  obtain ⟨_, D144, hq143, h⟩ := cq_i h
  refine r_cV (st' := []) [.int x1, .int (1 : Int32), .long (gL D129 o135 0), .long (gL D129 o139 1)] [] hC hw kc_4 hi133 (k_X5_write _ hi133 hq143) mk_X5_write lk_572 ⟨Nat.le_trans (by decide) hR.1, Nat.le_trans (by decide) hR.2⟩ ⟨Nat.zero_le _, Nat.zero_le _⟩ rfl hl.1 rfl rfl (Nat.le_of_ble_eq_true rfl) dX0_narrowBoth_97 (fun hP H locs hw => ?_)
  cases h
  exact r_vret hC hw dX0_narrowBoth_100
set_option maxHeartbeats 4000000 in
set_option maxRecDepth 100000 in
theorem k_X0_narrowBoth {l : Launch} {G : va_G} {cA : Nat → ClassId} {S : sh} {D D' : dt} {ad : Nat → Nat} (sz : Nat) {o0 a0 : Nat} {x1 : Int32} {x2 : Int32} {x3 : Int64} {r : Unit} (hi0 : Is S ad o0 a0 0) (h : f_X0_narrowBoth S o0 x1 x2 x3 D = some (r, D')) : Co l yX0_narrowBoth (Cond.code yX0_narrowBoth cX0_narrowBoth 5 none :: tb0) 2 47 [.ref a0, .int x1, .int x2, .long x3] G cA S D ad sz none True D' := by
  refine Met.ofW (cc := cX0_narrowBoth) (maxL := 5) (ret := none) (by decide) rfl ?_
  intro p e s m args below meth c s₁ B hml hv
  obtain ⟨rfl, hsz, hP, hK, hD0, hT, hX⟩ := hv
  subst hsz
  have hts := atoms_spec (ws := Cond.code yX0_narrowBoth cX0_narrowBoth 5 none :: tb0) B.pre
  have hC : Cx RX0 cX0_narrowBoth 5 none p s m _ meth c := ⟨B.exec, B.bytes, hml, findClass_of_methodNamed B.named, fun w q => hts w (List.mem_cons_of_mem _ q), B.returns, B.notSynchronized⟩
  have hw := Wd.entry hP hK hD0 hT hX
  have hl := lv_entry ([.ref a0, .int x1, .int x2, .long x3]) (n := 5) (Nat.le_of_ble_eq_true rfl)
  rw [lg_entry_eq]
  exact w_X0_narrowBoth_0 hC ⟨Nat.le_refl _, Nat.le_refl _⟩ o0 a0 x1 x2 x3 D _ _ _ hi0 hw hl h
set_option maxHeartbeats 4000000 in
set_option maxRecDepth 100000 in
theorem w_X0_changedAbout_0 {r : Int32} (hC : Cx RX0 cX0_changedAbout 1 (some .int) p s m args meth c) (hR : 0 ≤ R.frames ∧ 0 ≤ R.locals) : ∀ (x0 : Int32) (H : Heap) (locs : List Loc) (ls : Array Slot), Wd G cA S D ad A s H locs → lv_has ls 1 [(0, .int x0)] → f_X0_changedAbout x0 = some r → W p l e R s m args below meth c H locs 0 0 (MQ below (Qn (some (.int r)) True (wpost G cA S D ad A) A) args s 0 0 A) (F0 m 0 ls []) := by
  obtain ⟨hx, hb, -⟩ := id hC
  intro x0 H locs ls hw hl h
  unfold f_X0_changedAbout at h
  refine lv_iload_n hx hb dX0_changedAbout_0 rfl (lv_at hl 0 rfl) ?_
  by_cases c11 : x0 = 2
  · have h := i_yes c11 h
    refine lv_tableIn (off := 55) (tgt := 56) hx hb dX0_changedAbout_1 (by rw [c11]; decide) (by rw [c11]; decide) (by rw [c11] <;> rfl) (by decide) ?_
    refine lv_bipush (v := 10) hx hb dX0_changedAbout_56 (by decide) ?_
    cases h
    exact r_iret hC hw dX0_changedAbout_58
  have h := i_no c11 h
  by_cases c12 : x0 = 3
  · have h := i_yes c12 h
    refine lv_tableIn (off := 58) (tgt := 59) hx hb dX0_changedAbout_1 (by rw [c12]; decide) (by rw [c12]; decide) (by rw [c12] <;> rfl) (by decide) ?_
    refine lv_bipush (v := 11) hx hb dX0_changedAbout_59 (by decide) ?_
    cases h
    exact r_iret hC hw dX0_changedAbout_61
  have h := i_no c12 h
  by_cases c13 : x0 = 4
  · have h := i_yes c13 h
    refine lv_tableIn (off := 65) (tgt := 66) hx hb dX0_changedAbout_1 (by rw [c13]; decide) (by rw [c13]; decide) (by rw [c13] <;> rfl) (by decide) ?_
    refine lv_iload_n hx hb dX0_changedAbout_66 rfl (lv_at hl 0 rfl) ?_
    cases h
    exact r_iret hC hw dX0_changedAbout_67
  have h := i_no c13 h
  by_cases c14 : x0 = 5
  · have h := i_yes c14 h
    refine lv_tableIn (off := 65) (tgt := 66) hx hb dX0_changedAbout_1 (by rw [c14]; decide) (by rw [c14]; decide) (by rw [c14] <;> rfl) (by decide) ?_
    refine lv_iload_n hx hb dX0_changedAbout_66 rfl (lv_at hl 0 rfl) ?_
    cases h
    exact r_iret hC hw dX0_changedAbout_67
  have h := i_no c14 h
  by_cases c15 : x0 = 6
  · have h := i_yes c15 h
    refine lv_tableIn (off := 65) (tgt := 66) hx hb dX0_changedAbout_1 (by rw [c15]; decide) (by rw [c15]; decide) (by rw [c15] <;> rfl) (by decide) ?_
    refine lv_iload_n hx hb dX0_changedAbout_66 rfl (lv_at hl 0 rfl) ?_
    cases h
    exact r_iret hC hw dX0_changedAbout_67
  have h := i_no c15 h
  by_cases c16 : x0 = 7
  · have h := i_yes c16 h
    refine lv_tableIn (off := 65) (tgt := 66) hx hb dX0_changedAbout_1 (by rw [c16]; decide) (by rw [c16]; decide) (by rw [c16] <;> rfl) (by decide) ?_
    refine lv_iload_n hx hb dX0_changedAbout_66 rfl (lv_at hl 0 rfl) ?_
    cases h
    exact r_iret hC hw dX0_changedAbout_67
  have h := i_no c16 h
  by_cases c17 : x0 = 8
  · have h := i_yes c17 h
    refine lv_tableIn (off := 65) (tgt := 66) hx hb dX0_changedAbout_1 (by rw [c17]; decide) (by rw [c17]; decide) (by rw [c17] <;> rfl) (by decide) ?_
    refine lv_iload_n hx hb dX0_changedAbout_66 rfl (lv_at hl 0 rfl) ?_
    cases h
    exact r_iret hC hw dX0_changedAbout_67
  have h := i_no c17 h
  by_cases c18 : x0 = 9
  · have h := i_yes c18 h
    refine lv_tableIn (off := 65) (tgt := 66) hx hb dX0_changedAbout_1 (by rw [c18]; decide) (by rw [c18]; decide) (by rw [c18] <;> rfl) (by decide) ?_
    refine lv_iload_n hx hb dX0_changedAbout_66 rfl (lv_at hl 0 rfl) ?_
    cases h
    exact r_iret hC hw dX0_changedAbout_67
  have h := i_no c18 h
  by_cases c19 : x0 = 10
  · have h := i_yes c19 h
    refine lv_tableIn (off := 61) (tgt := 62) hx hb dX0_changedAbout_1 (by rw [c19]; decide) (by rw [c19]; decide) (by rw [c19] <;> rfl) (by decide) ?_
    refine lv_iconst (v := 2) hx hb dX0_changedAbout_62 (by decide) ?_
    cases h
    exact r_iret hC hw dX0_changedAbout_63
  have h := i_no c19 h
  by_cases c20 : x0 = 11
  · have h := i_yes c20 h
    refine lv_tableIn (off := 63) (tgt := 64) hx hb dX0_changedAbout_1 (by rw [c20]; decide) (by rw [c20]; decide) (by rw [c20] <;> rfl) (by decide) ?_
    refine lv_iconst (v := 3) hx hb dX0_changedAbout_64 (by decide) ?_
    cases h
    exact r_iret hC hw dX0_changedAbout_65
  have h := i_no c20 h
  refine lv_tableOut (tgt := 66) hx hb dX0_changedAbout_1 (by have nc11 := lv_neT c11 (a := 2) rfl; have nc12 := lv_neT c12 (a := 3) rfl; have nc13 := lv_neT c13 (a := 4) rfl; have nc14 := lv_neT c14 (a := 5) rfl; have nc15 := lv_neT c15 (a := 6) rfl; have nc16 := lv_neT c16 (a := 7) rfl; have nc17 := lv_neT c17 (a := 8) rfl; have nc18 := lv_neT c18 (a := 9) rfl; have nc19 := lv_neT c19 (a := 10) rfl; have nc20 := lv_neT c20 (a := 11) rfl; omega) (by decide) ?_
  refine lv_iload_n hx hb dX0_changedAbout_66 rfl (lv_at hl 0 rfl) ?_
  cases h
  exact r_iret hC hw dX0_changedAbout_67
set_option maxHeartbeats 4000000 in
set_option maxRecDepth 100000 in
theorem k_X0_changedAbout {l : Launch} {G : va_G} {cA : Nat → ClassId} {S : sh} {D : dt} {ad : Nat → Nat} (sz : Nat) {x0 : Int32} {r : Int32}  (h : f_X0_changedAbout x0 = some r) : Co l yX0_changedAbout (Cond.code yX0_changedAbout cX0_changedAbout 1 (some .int) :: tb0) 0 0 [.int x0] G cA S D ad sz (some (.int r)) True D := by
  refine Met.ofW (cc := cX0_changedAbout) (maxL := 1) (ret := (some .int)) (by decide) rfl ?_
  intro p e s m args below meth c s₁ B hml hv
  obtain ⟨rfl, hsz, hP, hK, hD0, hT, hX⟩ := hv
  subst hsz
  have hts := atoms_spec (ws := Cond.code yX0_changedAbout cX0_changedAbout 1 (some .int) :: tb0) B.pre
  have hC : Cx RX0 cX0_changedAbout 1 (some .int) p s m _ meth c := ⟨B.exec, B.bytes, hml, findClass_of_methodNamed B.named, fun w q => hts w (List.mem_cons_of_mem _ q), B.returns, B.notSynchronized⟩
  have hw := Wd.entry hP hK hD0 hT hX
  have hl := lv_entry ([.int x0]) (n := 1) (Nat.le_of_ble_eq_true rfl)
  rw [lg_entry_eq]
  exact w_X0_changedAbout_0 hC ⟨Nat.le_refl _, Nat.le_refl _⟩ x0 _ _ _ hw hl h
end
