theorem dX9_reckonMoved_0 : decode cX9_reckonMoved 0 = .ok (.aload_n 0, 1) := by decide +kernel
theorem dX9_reckonMoved_1 : decode cX9_reckonMoved 1 = .ok (.getfield 13, 3) := by decide +kernel
theorem dX9_reckonMoved_4 : decode cX9_reckonMoved 4 = .ok (.iload_n 1, 1) := by decide +kernel
theorem dX9_reckonMoved_5 : decode cX9_reckonMoved 5 = .ok (.iaload, 1) := by decide +kernel
theorem dX9_reckonMoved_6 : decode cX9_reckonMoved 6 = .ok (.istore 13, 2) := by decide +kernel
theorem dX9_reckonMoved_8 : decode cX9_reckonMoved 8 = .ok (.lload 8, 2) := by decide +kernel
theorem dX9_reckonMoved_10 : decode cX9_reckonMoved 10 = .ok (.lload 10, 2) := by decide +kernel
theorem dX9_reckonMoved_12 : decode cX9_reckonMoved 12 = .ok (.lcmp, 1) := by decide +kernel
theorem dX9_reckonMoved_13 : decode cX9_reckonMoved 13 = .ok (.ifCond .ne 7, 3) := by decide +kernel
theorem dX9_reckonMoved_16 : decode cX9_reckonMoved 16 = .ok (.iconst 1, 1) := by decide +kernel
theorem dX9_reckonMoved_17 : decode cX9_reckonMoved 17 = .ok (.goto 4, 3) := by decide +kernel
theorem dX9_reckonMoved_20 : decode cX9_reckonMoved 20 = .ok (.iconst 0, 1) := by decide +kernel
theorem dX9_reckonMoved_21 : decode cX9_reckonMoved 21 = .ok (.istore 14, 2) := by decide +kernel
theorem dX9_reckonMoved_23 : decode cX9_reckonMoved 23 = .ok (.iload_n 2, 1) := by decide +kernel
theorem dX9_reckonMoved_24 : decode cX9_reckonMoved 24 = .ok (.bipush 7, 2) := by decide +kernel
theorem dX9_reckonMoved_26 : decode cX9_reckonMoved 26 = .ok (.if_icmp .eq 32, 3) := by decide +kernel
theorem dX9_reckonMoved_29 : decode cX9_reckonMoved 29 = .ok (.iload_n 2, 1) := by decide +kernel
theorem dX9_reckonMoved_30 : decode cX9_reckonMoved 30 = .ok (.bipush 12, 2) := by decide +kernel
theorem dX9_reckonMoved_32 : decode cX9_reckonMoved 32 = .ok (.if_icmp .ne 30, 3) := by decide +kernel
theorem dX9_reckonMoved_35 : decode cX9_reckonMoved 35 = .ok (.iload_n 3, 1) := by decide +kernel
theorem dX9_reckonMoved_36 : decode cX9_reckonMoved 36 = .ok (.ifCond .eq 13, 3) := by decide +kernel
theorem dX9_reckonMoved_39 : decode cX9_reckonMoved 39 = .ok (.lload 6, 2) := by decide +kernel
theorem dX9_reckonMoved_41 : decode cX9_reckonMoved 41 = .ok (.lconst 0, 1) := by decide +kernel
theorem dX9_reckonMoved_42 : decode cX9_reckonMoved 42 = .ok (.lcmp, 1) := by decide +kernel
theorem dX9_reckonMoved_43 : decode cX9_reckonMoved 43 = .ok (.ifCond .lt 19, 3) := by decide +kernel
theorem dX9_reckonMoved_46 : decode cX9_reckonMoved 46 = .ok (.goto 12, 3) := by decide +kernel
theorem dX9_reckonMoved_49 : decode cX9_reckonMoved 49 = .ok (.lload 6, 2) := by decide +kernel
theorem dX9_reckonMoved_51 : decode cX9_reckonMoved 51 = .ok (.ldc2_w 440, 3) := by decide +kernel
theorem dX9_reckonMoved_54 : decode cX9_reckonMoved 54 = .ok (.lcmp, 1) := by decide +kernel
theorem dX9_reckonMoved_55 : decode cX9_reckonMoved 55 = .ok (.ifCond .ge 7, 3) := by decide +kernel
theorem dX9_reckonMoved_58 : decode cX9_reckonMoved 58 = .ok (.iconst 1, 1) := by decide +kernel
theorem dX9_reckonMoved_59 : decode cX9_reckonMoved 59 = .ok (.goto 4, 3) := by decide +kernel
theorem dX9_reckonMoved_62 : decode cX9_reckonMoved 62 = .ok (.iconst 0, 1) := by decide +kernel
theorem dX9_reckonMoved_63 : decode cX9_reckonMoved 63 = .ok (.istore 15, 2) := by decide +kernel
theorem dX9_reckonMoved_65 : decode cX9_reckonMoved 65 = .ok (.iload_n 2, 1) := by decide +kernel
theorem dX9_reckonMoved_66 : decode cX9_reckonMoved 66 = .ok (.bipush 6, 2) := by decide +kernel
theorem dX9_reckonMoved_68 : decode cX9_reckonMoved 68 = .ok (.if_icmp .ne 57, 3) := by decide +kernel
theorem dX9_reckonMoved_71 : decode cX9_reckonMoved 71 = .ok (.lload 6, 2) := by decide +kernel
theorem dX9_reckonMoved_73 : decode cX9_reckonMoved 73 = .ok (.iload 12, 2) := by decide +kernel
theorem dX9_reckonMoved_75 : decode cX9_reckonMoved 75 = .ok (.lshl, 1) := by decide +kernel
theorem dX9_reckonMoved_76 : decode cX9_reckonMoved 76 = .ok (.lstore 16, 2) := by decide +kernel
theorem dX9_reckonMoved_78 : decode cX9_reckonMoved 78 = .ok (.iload 14, 2) := by decide +kernel
theorem dX9_reckonMoved_80 : decode cX9_reckonMoved 80 = .ok (.ifCond .eq 42, 3) := by decide +kernel
theorem dX9_reckonMoved_83 : decode cX9_reckonMoved 83 = .ok (.lload 16, 2) := by decide +kernel
theorem dX9_reckonMoved_85 : decode cX9_reckonMoved 85 = .ok (.iload 12, 2) := by decide +kernel
theorem dX9_reckonMoved_87 : decode cX9_reckonMoved 87 = .ok (.lushr, 1) := by decide +kernel
theorem dX9_reckonMoved_88 : decode cX9_reckonMoved 88 = .ok (.lload 6, 2) := by decide +kernel
theorem dX9_reckonMoved_90 : decode cX9_reckonMoved 90 = .ok (.lcmp, 1) := by decide +kernel
theorem dX9_reckonMoved_91 : decode cX9_reckonMoved 91 = .ok (.ifCond .ne 31, 3) := by decide +kernel
theorem dX9_reckonMoved_94 : decode cX9_reckonMoved 94 = .ok (.iload_n 3, 1) := by decide +kernel
theorem dX9_reckonMoved_95 : decode cX9_reckonMoved 95 = .ok (.ifCond .ne 14, 3) := by decide +kernel
theorem dX9_reckonMoved_98 : decode cX9_reckonMoved 98 = .ok (.ldc2_w 192, 3) := by decide +kernel
theorem dX9_reckonMoved_101 : decode cX9_reckonMoved 101 = .ok (.lload 16, 2) := by decide +kernel
theorem dX9_reckonMoved_103 : decode cX9_reckonMoved 103 = .ok (.invokestatic 175, 3) := by decide +kernel
theorem dX9_reckonMoved_106 : decode cX9_reckonMoved 106 = .ok (.ifCond .ne 16, 3) := by decide +kernel
theorem dX9_reckonMoved_109 : decode cX9_reckonMoved 109 = .ok (.aload_n 0, 1) := by decide +kernel
theorem dX9_reckonMoved_110 : decode cX9_reckonMoved 110 = .ok (.iload 13, 2) := by decide +kernel
theorem dX9_reckonMoved_112 : decode cX9_reckonMoved 112 = .ok (.lload 4, 2) := by decide +kernel
theorem dX9_reckonMoved_114 : decode cX9_reckonMoved 114 = .ok (.iload 12, 2) := by decide +kernel
theorem dX9_reckonMoved_116 : decode cX9_reckonMoved 116 = .ok (.lshl, 1) := by decide +kernel
theorem dX9_reckonMoved_117 : decode cX9_reckonMoved 117 = .ok (.lload 16, 2) := by decide +kernel
theorem dX9_reckonMoved_119 : decode cX9_reckonMoved 119 = .ok (.invokevirtual 393, 3) := by decide +kernel
theorem dX9_reckonMoved_122 : decode cX9_reckonMoved 122 = .ok (.goto 132, 3) := by decide +kernel
theorem dX9_reckonMoved_125 : decode cX9_reckonMoved 125 = .ok (.iload 15, 2) := by decide +kernel
theorem dX9_reckonMoved_127 : decode cX9_reckonMoved 127 = .ok (.ifCond .eq 41, 3) := by decide +kernel
theorem dX9_reckonMoved_130 : decode cX9_reckonMoved 130 = .ok (.aload_n 0, 1) := by decide +kernel
theorem dX9_reckonMoved_131 : decode cX9_reckonMoved 131 = .ok (.iload 13, 2) := by decide +kernel
theorem dX9_reckonMoved_133 : decode cX9_reckonMoved 133 = .ok (.iload 14, 2) := by decide +kernel
theorem dX9_reckonMoved_135 : decode cX9_reckonMoved 135 = .ok (.ifCond .eq 11, 3) := by decide +kernel
theorem dX9_reckonMoved_138 : decode cX9_reckonMoved 138 = .ok (.lload 4, 2) := by decide +kernel
theorem dX9_reckonMoved_140 : decode cX9_reckonMoved 140 = .ok (.iload 12, 2) := by decide +kernel
theorem dX9_reckonMoved_142 : decode cX9_reckonMoved 142 = .ok (.lushr, 1) := by decide +kernel
theorem dX9_reckonMoved_143 : decode cX9_reckonMoved 143 = .ok (.goto 4, 3) := by decide +kernel
theorem dX9_reckonMoved_146 : decode cX9_reckonMoved 146 = .ok (.lconst 0, 1) := by decide +kernel
theorem dX9_reckonMoved_147 : decode cX9_reckonMoved 147 = .ok (.iload 14, 2) := by decide +kernel
theorem dX9_reckonMoved_149 : decode cX9_reckonMoved 149 = .ok (.ifCond .eq 11, 3) := by decide +kernel
theorem dX9_reckonMoved_152 : decode cX9_reckonMoved 152 = .ok (.lload 6, 2) := by decide +kernel
theorem dX9_reckonMoved_154 : decode cX9_reckonMoved 154 = .ok (.iload 12, 2) := by decide +kernel
theorem dX9_reckonMoved_156 : decode cX9_reckonMoved 156 = .ok (.lushr, 1) := by decide +kernel
theorem dX9_reckonMoved_157 : decode cX9_reckonMoved 157 = .ok (.goto 5, 3) := by decide +kernel
theorem dX9_reckonMoved_160 : decode cX9_reckonMoved 160 = .ok (.lload 6, 2) := by decide +kernel
theorem dX9_reckonMoved_162 : decode cX9_reckonMoved 162 = .ok (.invokevirtual 393, 3) := by decide +kernel
theorem dX9_reckonMoved_165 : decode cX9_reckonMoved 165 = .ok (.goto 89, 3) := by decide +kernel
theorem dX9_reckonMoved_168 : decode cX9_reckonMoved 168 = .ok (.iload_n 2, 1) := by decide +kernel
theorem dX9_reckonMoved_169 : decode cX9_reckonMoved 169 = .ok (.bipush 13, 2) := by decide +kernel
theorem dX9_reckonMoved_171 : decode cX9_reckonMoved 171 = .ok (.if_icmp .ne 40, 3) := by decide +kernel
theorem dX9_reckonMoved_174 : decode cX9_reckonMoved 174 = .ok (.aload_n 0, 1) := by decide +kernel
theorem dX9_reckonMoved_175 : decode cX9_reckonMoved 175 = .ok (.iload 13, 2) := by decide +kernel
theorem dX9_reckonMoved_177 : decode cX9_reckonMoved 177 = .ok (.lconst 0, 1) := by decide +kernel
theorem dX9_reckonMoved_178 : decode cX9_reckonMoved 178 = .ok (.aload_n 0, 1) := by decide +kernel
theorem dX9_reckonMoved_179 : decode cX9_reckonMoved 179 = .ok (.getfield 22, 3) := by decide +kernel
theorem dX9_reckonMoved_182 : decode cX9_reckonMoved 182 = .ok (.iload_n 1, 1) := by decide +kernel
theorem dX9_reckonMoved_183 : decode cX9_reckonMoved 183 = .ok (.iaload, 1) := by decide +kernel
theorem dX9_reckonMoved_184 : decode cX9_reckonMoved 184 = .ok (.bipush 64, 2) := by decide +kernel
theorem dX9_reckonMoved_186 : decode cX9_reckonMoved 186 = .ok (.if_icmp .ne 9, 3) := by decide +kernel
theorem dX9_reckonMoved_189 : decode cX9_reckonMoved 189 = .ok (.ldc2_w 187, 3) := by decide +kernel
theorem dX9_reckonMoved_192 : decode cX9_reckonMoved 192 = .ok (.goto 13, 3) := by decide +kernel
theorem dX9_reckonMoved_195 : decode cX9_reckonMoved 195 = .ok (.lconst 1, 1) := by decide +kernel
theorem dX9_reckonMoved_196 : decode cX9_reckonMoved 196 = .ok (.aload_n 0, 1) := by decide +kernel
theorem dX9_reckonMoved_197 : decode cX9_reckonMoved 197 = .ok (.getfield 22, 3) := by decide +kernel
theorem dX9_reckonMoved_200 : decode cX9_reckonMoved 200 = .ok (.iload_n 1, 1) := by decide +kernel
theorem dX9_reckonMoved_201 : decode cX9_reckonMoved 201 = .ok (.iaload, 1) := by decide +kernel
theorem dX9_reckonMoved_202 : decode cX9_reckonMoved 202 = .ok (.lshl, 1) := by decide +kernel
theorem dX9_reckonMoved_203 : decode cX9_reckonMoved 203 = .ok (.lconst 1, 1) := by decide +kernel
theorem dX9_reckonMoved_204 : decode cX9_reckonMoved 204 = .ok (.lsub, 1) := by decide +kernel
theorem dX9_reckonMoved_205 : decode cX9_reckonMoved 205 = .ok (.invokevirtual 393, 3) := by decide +kernel
theorem dX9_reckonMoved_208 : decode cX9_reckonMoved 208 = .ok (.goto 46, 3) := by decide +kernel
theorem dX9_reckonMoved_211 : decode cX9_reckonMoved 211 = .ok (.iload_n 2, 1) := by decide +kernel
theorem dX9_reckonMoved_212 : decode cX9_reckonMoved 212 = .ok (.bipush 11, 2) := by decide +kernel
theorem dX9_reckonMoved_214 : decode cX9_reckonMoved 214 = .ok (.if_icmp .ne 40, 3) := by decide +kernel
theorem dX9_reckonMoved_217 : decode cX9_reckonMoved 217 = .ok (.aload_n 0, 1) := by decide +kernel
theorem dX9_reckonMoved_218 : decode cX9_reckonMoved 218 = .ok (.getfield 19, 3) := by decide +kernel
theorem dX9_reckonMoved_221 : decode cX9_reckonMoved 221 = .ok (.iload_n 1, 1) := by decide +kernel
theorem dX9_reckonMoved_222 : decode cX9_reckonMoved 222 = .ok (.iaload, 1) := by decide +kernel
theorem dX9_reckonMoved_223 : decode cX9_reckonMoved 223 = .ok (.ifCond .eq 21, 3) := by decide +kernel
theorem dX9_reckonMoved_226 : decode cX9_reckonMoved 226 = .ok (.lload 10, 2) := by decide +kernel
theorem dX9_reckonMoved_228 : decode cX9_reckonMoved 228 = .ok (.lconst 1, 1) := by decide +kernel
theorem dX9_reckonMoved_229 : decode cX9_reckonMoved 229 = .ok (.aload_n 0, 1) := by decide +kernel
theorem dX9_reckonMoved_230 : decode cX9_reckonMoved 230 = .ok (.getfield 19, 3) := by decide +kernel
theorem dX9_reckonMoved_233 : decode cX9_reckonMoved 233 = .ok (.iload_n 1, 1) := by decide +kernel
theorem dX9_reckonMoved_234 : decode cX9_reckonMoved 234 = .ok (.iaload, 1) := by decide +kernel
theorem dX9_reckonMoved_235 : decode cX9_reckonMoved 235 = .ok (.iconst 1, 1) := by decide +kernel
theorem dX9_reckonMoved_236 : decode cX9_reckonMoved 236 = .ok (.isub, 1) := by decide +kernel
theorem dX9_reckonMoved_237 : decode cX9_reckonMoved 237 = .ok (.lshl, 1) := by decide +kernel
theorem dX9_reckonMoved_238 : decode cX9_reckonMoved 238 = .ok (.invokestatic 175, 3) := by decide +kernel
theorem dX9_reckonMoved_241 : decode cX9_reckonMoved 241 = .ok (.ifCond .eq 13, 3) := by decide +kernel
theorem dX9_reckonMoved_244 : decode cX9_reckonMoved 244 = .ok (.aload_n 0, 1) := by decide +kernel
theorem dX9_reckonMoved_245 : decode cX9_reckonMoved 245 = .ok (.iload 13, 2) := by decide +kernel
theorem dX9_reckonMoved_247 : decode cX9_reckonMoved 247 = .ok (.lload 8, 2) := by decide +kernel
theorem dX9_reckonMoved_249 : decode cX9_reckonMoved 249 = .ok (.lload 10, 2) := by decide +kernel
theorem dX9_reckonMoved_251 : decode cX9_reckonMoved 251 = .ok (.invokevirtual 393, 3) := by decide +kernel
theorem dX9_reckonMoved_254 : decode cX9_reckonMoved 254 = .ok (.return_, 1) := by decide +kernel
theorem dX9_reckonRange_0 : decode cX9_reckonRange 0 = .ok (.aload_n 0, 1) := by decide +kernel
theorem dX9_reckonRange_1 : decode cX9_reckonRange 1 = .ok (.getfield 13, 3) := by decide +kernel
theorem dX9_reckonRange_4 : decode cX9_reckonRange 4 = .ok (.iload_n 1, 1) := by decide +kernel
theorem dX9_reckonRange_5 : decode cX9_reckonRange 5 = .ok (.iaload, 1) := by decide +kernel
theorem dX9_reckonRange_6 : decode cX9_reckonRange 6 = .ok (.istore 4, 2) := by decide +kernel
theorem dX9_reckonRange_8 : decode cX9_reckonRange 8 = .ok (.aload_n 0, 1) := by decide +kernel
theorem dX9_reckonRange_9 : decode cX9_reckonRange 9 = .ok (.getfield 109, 3) := by decide +kernel
theorem dX9_reckonRange_12 : decode cX9_reckonRange 12 = .ok (.iload 4, 2) := by decide +kernel
theorem dX9_reckonRange_14 : decode cX9_reckonRange 14 = .ok (.laload, 1) := by decide +kernel
theorem dX9_reckonRange_15 : decode cX9_reckonRange 15 = .ok (.lstore 5, 2) := by decide +kernel
theorem dX9_reckonRange_17 : decode cX9_reckonRange 17 = .ok (.aload_n 0, 1) := by decide +kernel
theorem dX9_reckonRange_18 : decode cX9_reckonRange 18 = .ok (.getfield 112, 3) := by decide +kernel
theorem dX9_reckonRange_21 : decode cX9_reckonRange 21 = .ok (.iload 4, 2) := by decide +kernel
theorem dX9_reckonRange_23 : decode cX9_reckonRange 23 = .ok (.laload, 1) := by decide +kernel
theorem dX9_reckonRange_24 : decode cX9_reckonRange 24 = .ok (.lstore 7, 2) := by decide +kernel
theorem dX9_reckonRange_26 : decode cX9_reckonRange 26 = .ok (.aload_n 0, 1) := by decide +kernel
theorem dX9_reckonRange_27 : decode cX9_reckonRange 27 = .ok (.getfield 400, 3) := by decide +kernel
theorem dX9_reckonRange_30 : decode cX9_reckonRange 30 = .ok (.lstore 9, 2) := by decide +kernel
theorem dX9_reckonRange_32 : decode cX9_reckonRange 32 = .ok (.aload_n 0, 1) := by decide +kernel
theorem dX9_reckonRange_33 : decode cX9_reckonRange 33 = .ok (.getfield 403, 3) := by decide +kernel
theorem dX9_reckonRange_36 : decode cX9_reckonRange 36 = .ok (.lstore 11, 2) := by decide +kernel
theorem dX9_reckonRange_38 : decode cX9_reckonRange 38 = .ok (.iload_n 3, 1) := by decide +kernel
theorem dX9_reckonRange_39 : decode cX9_reckonRange 39 = .ok (.ifCond .ne 24, 3) := by decide +kernel
theorem dX9_reckonRange_42 : decode cX9_reckonRange 42 = .ok (.iload_n 2, 1) := by decide +kernel
theorem dX9_reckonRange_43 : decode cX9_reckonRange 43 = .ok (.bipush 13, 2) := by decide +kernel
theorem dX9_reckonRange_45 : decode cX9_reckonRange 45 = .ok (.if_icmp .eq 18, 3) := by decide +kernel
theorem dX9_reckonRange_48 : decode cX9_reckonRange 48 = .ok (.ldc2_w 192, 3) := by decide +kernel
theorem dX9_reckonRange_51 : decode cX9_reckonRange 51 = .ok (.lload 7, 2) := by decide +kernel
theorem dX9_reckonRange_53 : decode cX9_reckonRange 53 = .ok (.invokestatic 175, 3) := by decide +kernel
theorem dX9_reckonRange_56 : decode cX9_reckonRange 56 = .ok (.ifCond .eq 7, 3) := by decide +kernel
theorem dX9_reckonRange_59 : decode cX9_reckonRange 59 = .ok (.iconst 1, 1) := by decide +kernel
theorem dX9_reckonRange_60 : decode cX9_reckonRange 60 = .ok (.goto 4, 3) := by decide +kernel
theorem dX9_reckonRange_63 : decode cX9_reckonRange 63 = .ok (.iconst 0, 1) := by decide +kernel
theorem dX9_reckonRange_64 : decode cX9_reckonRange 64 = .ok (.istore 13, 2) := by decide +kernel
theorem dX9_reckonRange_66 : decode cX9_reckonRange 66 = .ok (.iload_n 3, 1) := by decide +kernel
theorem dX9_reckonRange_67 : decode cX9_reckonRange 67 = .ok (.ifCond .ne 24, 3) := by decide +kernel
theorem dX9_reckonRange_70 : decode cX9_reckonRange 70 = .ok (.iload_n 2, 1) := by decide +kernel
theorem dX9_reckonRange_71 : decode cX9_reckonRange 71 = .ok (.bipush 13, 2) := by decide +kernel
theorem dX9_reckonRange_73 : decode cX9_reckonRange 73 = .ok (.if_icmp .eq 18, 3) := by decide +kernel
theorem dX9_reckonRange_76 : decode cX9_reckonRange 76 = .ok (.ldc2_w 192, 3) := by decide +kernel
theorem dX9_reckonRange_79 : decode cX9_reckonRange 79 = .ok (.lload 11, 2) := by decide +kernel
theorem dX9_reckonRange_81 : decode cX9_reckonRange 81 = .ok (.invokestatic 175, 3) := by decide +kernel
theorem dX9_reckonRange_84 : decode cX9_reckonRange 84 = .ok (.ifCond .eq 7, 3) := by decide +kernel
theorem dX9_reckonRange_87 : decode cX9_reckonRange 87 = .ok (.iconst 1, 1) := by decide +kernel
theorem dX9_reckonRange_88 : decode cX9_reckonRange 88 = .ok (.goto 4, 3) := by decide +kernel
theorem dX9_reckonRange_91 : decode cX9_reckonRange 91 = .ok (.iconst 0, 1) := by decide +kernel
theorem dX9_reckonRange_92 : decode cX9_reckonRange 92 = .ok (.istore 14, 2) := by decide +kernel
theorem dX9_reckonRange_94 : decode cX9_reckonRange 94 = .ok (.lload 5, 2) := by decide +kernel
theorem dX9_reckonRange_96 : decode cX9_reckonRange 96 = .ok (.lload 7, 2) := by decide +kernel
theorem dX9_reckonRange_98 : decode cX9_reckonRange 98 = .ok (.lcmp, 1) := by decide +kernel
theorem dX9_reckonRange_99 : decode cX9_reckonRange 99 = .ok (.ifCond .ne 7, 3) := by decide +kernel
theorem dX9_reckonRange_102 : decode cX9_reckonRange 102 = .ok (.iconst 1, 1) := by decide +kernel
theorem dX9_reckonRange_103 : decode cX9_reckonRange 103 = .ok (.goto 4, 3) := by decide +kernel
theorem dX9_reckonRange_106 : decode cX9_reckonRange 106 = .ok (.iconst 0, 1) := by decide +kernel
theorem dX9_reckonRange_107 : decode cX9_reckonRange 107 = .ok (.istore 15, 2) := by decide +kernel
theorem dX9_reckonRange_109 : decode cX9_reckonRange 109 = .ok (.lload 9, 2) := by decide +kernel
theorem dX9_reckonRange_111 : decode cX9_reckonRange 111 = .ok (.lload 11, 2) := by decide +kernel
theorem dX9_reckonRange_113 : decode cX9_reckonRange 113 = .ok (.lcmp, 1) := by decide +kernel
theorem dX9_reckonRange_114 : decode cX9_reckonRange 114 = .ok (.ifCond .ne 7, 3) := by decide +kernel
theorem dX9_reckonRange_117 : decode cX9_reckonRange 117 = .ok (.iconst 1, 1) := by decide +kernel
theorem dX9_reckonRange_118 : decode cX9_reckonRange 118 = .ok (.goto 4, 3) := by decide +kernel
theorem dX9_reckonRange_121 : decode cX9_reckonRange 121 = .ok (.iconst 0, 1) := by decide +kernel
theorem dX9_reckonRange_122 : decode cX9_reckonRange 122 = .ok (.istore 16, 2) := by decide +kernel
theorem dX9_reckonRange_124 : decode cX9_reckonRange 124 = .ok (.iload 13, 2) := by decide +kernel
theorem dX9_reckonRange_126 : decode cX9_reckonRange 126 = .ok (.ifCond .eq 21, 3) := by decide +kernel
theorem dX9_reckonRange_129 : decode cX9_reckonRange 129 = .ok (.iload 15, 2) := by decide +kernel
theorem dX9_reckonRange_131 : decode cX9_reckonRange 131 = .ok (.ifCond .eq 12, 3) := by decide +kernel
theorem dX9_reckonRange_134 : decode cX9_reckonRange 134 = .ok (.lload 5, 2) := by decide +kernel
theorem dX9_reckonRange_136 : decode cX9_reckonRange 136 = .ok (.ldc2_w 192, 3) := by decide +kernel
theorem dX9_reckonRange_139 : decode cX9_reckonRange 139 = .ok (.land, 1) := by decide +kernel
theorem dX9_reckonRange_140 : decode cX9_reckonRange 140 = .ok (.goto 9, 3) := by decide +kernel
theorem dX9_reckonRange_143 : decode cX9_reckonRange 143 = .ok (.lconst 0, 1) := by decide +kernel
theorem dX9_reckonRange_144 : decode cX9_reckonRange 144 = .ok (.goto 5, 3) := by decide +kernel
theorem dX9_reckonRange_147 : decode cX9_reckonRange 147 = .ok (.lload 5, 2) := by decide +kernel
theorem dX9_reckonRange_149 : decode cX9_reckonRange 149 = .ok (.lstore 5, 2) := by decide +kernel
theorem dX9_reckonRange_151 : decode cX9_reckonRange 151 = .ok (.iload 13, 2) := by decide +kernel
theorem dX9_reckonRange_153 : decode cX9_reckonRange 153 = .ok (.ifCond .eq 23, 3) := by decide +kernel
theorem dX9_reckonRange_156 : decode cX9_reckonRange 156 = .ok (.iload 15, 2) := by decide +kernel
theorem dX9_reckonRange_158 : decode cX9_reckonRange 158 = .ok (.ifCond .eq 12, 3) := by decide +kernel
theorem dX9_reckonRange_161 : decode cX9_reckonRange 161 = .ok (.lload 7, 2) := by decide +kernel
theorem dX9_reckonRange_163 : decode cX9_reckonRange 163 = .ok (.ldc2_w 192, 3) := by decide +kernel
theorem dX9_reckonRange_166 : decode cX9_reckonRange 166 = .ok (.land, 1) := by decide +kernel
theorem dX9_reckonRange_167 : decode cX9_reckonRange 167 = .ok (.goto 11, 3) := by decide +kernel
theorem dX9_reckonRange_170 : decode cX9_reckonRange 170 = .ok (.ldc2_w 192, 3) := by decide +kernel
theorem dX9_reckonRange_173 : decode cX9_reckonRange 173 = .ok (.goto 5, 3) := by decide +kernel
theorem dX9_reckonRange_176 : decode cX9_reckonRange 176 = .ok (.lload 7, 2) := by decide +kernel
theorem dX9_reckonRange_178 : decode cX9_reckonRange 178 = .ok (.lstore 7, 2) := by decide +kernel
theorem dX9_reckonRange_180 : decode cX9_reckonRange 180 = .ok (.iload 14, 2) := by decide +kernel
theorem dX9_reckonRange_182 : decode cX9_reckonRange 182 = .ok (.ifCond .eq 21, 3) := by decide +kernel
theorem dX9_reckonRange_185 : decode cX9_reckonRange 185 = .ok (.iload 16, 2) := by decide +kernel
theorem dX9_reckonRange_187 : decode cX9_reckonRange 187 = .ok (.ifCond .eq 12, 3) := by decide +kernel
theorem dX9_reckonRange_190 : decode cX9_reckonRange 190 = .ok (.lload 9, 2) := by decide +kernel
theorem dX9_reckonRange_192 : decode cX9_reckonRange 192 = .ok (.ldc2_w 192, 3) := by decide +kernel
theorem dX9_reckonRange_195 : decode cX9_reckonRange 195 = .ok (.land, 1) := by decide +kernel
theorem dX9_reckonRange_196 : decode cX9_reckonRange 196 = .ok (.goto 9, 3) := by decide +kernel
theorem dX9_reckonRange_199 : decode cX9_reckonRange 199 = .ok (.lconst 0, 1) := by decide +kernel
theorem dX9_reckonRange_200 : decode cX9_reckonRange 200 = .ok (.goto 5, 3) := by decide +kernel
theorem dX9_reckonRange_203 : decode cX9_reckonRange 203 = .ok (.lload 9, 2) := by decide +kernel
theorem dX9_reckonRange_205 : decode cX9_reckonRange 205 = .ok (.lstore 9, 2) := by decide +kernel
theorem dX9_reckonRange_207 : decode cX9_reckonRange 207 = .ok (.iload 14, 2) := by decide +kernel
theorem dX9_reckonRange_209 : decode cX9_reckonRange 209 = .ok (.ifCond .eq 23, 3) := by decide +kernel
theorem dX9_reckonRange_212 : decode cX9_reckonRange 212 = .ok (.iload 16, 2) := by decide +kernel
theorem dX9_reckonRange_214 : decode cX9_reckonRange 214 = .ok (.ifCond .eq 12, 3) := by decide +kernel
theorem dX9_reckonRange_217 : decode cX9_reckonRange 217 = .ok (.lload 11, 2) := by decide +kernel
theorem dX9_reckonRange_219 : decode cX9_reckonRange 219 = .ok (.ldc2_w 192, 3) := by decide +kernel
theorem dX9_reckonRange_222 : decode cX9_reckonRange 222 = .ok (.land, 1) := by decide +kernel
theorem dX9_reckonRange_223 : decode cX9_reckonRange 223 = .ok (.goto 11, 3) := by decide +kernel
theorem dX9_reckonRange_226 : decode cX9_reckonRange 226 = .ok (.ldc2_w 192, 3) := by decide +kernel
theorem dX9_reckonRange_229 : decode cX9_reckonRange 229 = .ok (.goto 5, 3) := by decide +kernel
theorem dX9_reckonRange_232 : decode cX9_reckonRange 232 = .ok (.lload 11, 2) := by decide +kernel
theorem dX9_reckonRange_234 : decode cX9_reckonRange 234 = .ok (.lstore 11, 2) := by decide +kernel
theorem dX9_reckonRange_236 : decode cX9_reckonRange 236 = .ok (.iload_n 2, 1) := by decide +kernel
theorem dX9_reckonRange_237 : decode cX9_reckonRange 237 = .ok (.bipush 11, 2) := by decide +kernel
theorem dX9_reckonRange_239 : decode cX9_reckonRange 239 = .ok (.if_icmp .ne 19, 3) := by decide +kernel
theorem dX9_reckonRange_242 : decode cX9_reckonRange 242 = .ok (.lload 9, 2) := by decide +kernel
theorem dX9_reckonRange_244 : decode cX9_reckonRange 244 = .ok (.lload 11, 2) := by decide +kernel
theorem dX9_reckonRange_246 : decode cX9_reckonRange 246 = .ok (.lcmp, 1) := by decide +kernel
theorem dX9_reckonRange_247 : decode cX9_reckonRange 247 = .ok (.ifCond .ne 7, 3) := by decide +kernel
theorem dX9_reckonRange_250 : decode cX9_reckonRange 250 = .ok (.iconst 1, 1) := by decide +kernel
theorem dX9_reckonRange_251 : decode cX9_reckonRange 251 = .ok (.goto 56, 3) := by decide +kernel
theorem dX9_reckonRange_254 : decode cX9_reckonRange 254 = .ok (.iconst 0, 1) := by decide +kernel
theorem dX9_reckonRange_255 : decode cX9_reckonRange 255 = .ok (.goto 52, 3) := by decide +kernel
theorem dX9_reckonRange_258 : decode cX9_reckonRange 258 = .ok (.iload_n 2, 1) := by decide +kernel
theorem dX9_reckonRange_259 : decode cX9_reckonRange 259 = .ok (.bipush 8, 2) := by decide +kernel
theorem dX9_reckonRange_261 : decode cX9_reckonRange 261 = .ok (.if_icmp .eq 9, 3) := by decide +kernel
theorem dX9_reckonRange_264 : decode cX9_reckonRange 264 = .ok (.iload_n 2, 1) := by decide +kernel
theorem dX9_reckonRange_265 : decode cX9_reckonRange 265 = .ok (.bipush 13, 2) := by decide +kernel
theorem dX9_reckonRange_267 : decode cX9_reckonRange 267 = .ok (.if_icmp .ne 19, 3) := by decide +kernel
theorem dX9_reckonRange_270 : decode cX9_reckonRange 270 = .ok (.lload 5, 2) := by decide +kernel
theorem dX9_reckonRange_272 : decode cX9_reckonRange 272 = .ok (.lload 7, 2) := by decide +kernel
theorem dX9_reckonRange_274 : decode cX9_reckonRange 274 = .ok (.lcmp, 1) := by decide +kernel
theorem dX9_reckonRange_275 : decode cX9_reckonRange 275 = .ok (.ifCond .ne 7, 3) := by decide +kernel
theorem dX9_reckonRange_278 : decode cX9_reckonRange 278 = .ok (.iconst 1, 1) := by decide +kernel
theorem dX9_reckonRange_279 : decode cX9_reckonRange 279 = .ok (.goto 28, 3) := by decide +kernel
theorem dX9_reckonRange_282 : decode cX9_reckonRange 282 = .ok (.iconst 0, 1) := by decide +kernel
theorem dX9_reckonRange_283 : decode cX9_reckonRange 283 = .ok (.goto 24, 3) := by decide +kernel
theorem dX9_reckonRange_286 : decode cX9_reckonRange 286 = .ok (.lload 5, 2) := by decide +kernel
theorem dX9_reckonRange_288 : decode cX9_reckonRange 288 = .ok (.lload 7, 2) := by decide +kernel
theorem dX9_reckonRange_290 : decode cX9_reckonRange 290 = .ok (.lcmp, 1) := by decide +kernel
theorem dX9_reckonRange_291 : decode cX9_reckonRange 291 = .ok (.ifCond .ne 15, 3) := by decide +kernel
theorem dX9_reckonRange_294 : decode cX9_reckonRange 294 = .ok (.lload 9, 2) := by decide +kernel
theorem dX9_reckonRange_296 : decode cX9_reckonRange 296 = .ok (.lload 11, 2) := by decide +kernel
theorem dX9_reckonRange_298 : decode cX9_reckonRange 298 = .ok (.lcmp, 1) := by decide +kernel
theorem dX9_reckonRange_299 : decode cX9_reckonRange 299 = .ok (.ifCond .ne 7, 3) := by decide +kernel
theorem dX9_reckonRange_302 : decode cX9_reckonRange 302 = .ok (.iconst 1, 1) := by decide +kernel
theorem dX9_reckonRange_303 : decode cX9_reckonRange 303 = .ok (.goto 4, 3) := by decide +kernel
theorem dX9_reckonRange_306 : decode cX9_reckonRange 306 = .ok (.iconst 0, 1) := by decide +kernel
theorem dX9_reckonRange_307 : decode cX9_reckonRange 307 = .ok (.istore 17, 2) := by decide +kernel
theorem dX9_reckonRange_309 : decode cX9_reckonRange 309 = .ok (.iload 17, 2) := by decide +kernel
theorem dX9_reckonRange_311 : decode cX9_reckonRange 311 = .ok (.ifCond .eq 25, 3) := by decide +kernel
theorem dX9_reckonRange_314 : decode cX9_reckonRange 314 = .ok (.aload_n 0, 1) := by decide +kernel
theorem dX9_reckonRange_315 : decode cX9_reckonRange 315 = .ok (.iload_n 1, 1) := by decide +kernel
theorem dX9_reckonRange_316 : decode cX9_reckonRange 316 = .ok (.lload 5, 2) := by decide +kernel
theorem dX9_reckonRange_318 : decode cX9_reckonRange 318 = .ok (.lload 9, 2) := by decide +kernel
theorem dX9_reckonRange_320 : decode cX9_reckonRange 320 = .ok (.invokevirtual 283, 3) := by decide +kernel
theorem dX9_reckonRange_323 : decode cX9_reckonRange 323 = .ok (.lstore 18, 2) := by decide +kernel
theorem dX9_reckonRange_325 : decode cX9_reckonRange 325 = .ok (.aload_n 0, 1) := by decide +kernel
theorem dX9_reckonRange_326 : decode cX9_reckonRange 326 = .ok (.iload 4, 2) := by decide +kernel
theorem dX9_reckonRange_328 : decode cX9_reckonRange 328 = .ok (.lload 18, 2) := by decide +kernel
theorem dX9_reckonRange_330 : decode cX9_reckonRange 330 = .ok (.lload 18, 2) := by decide +kernel
theorem dX9_reckonRange_332 : decode cX9_reckonRange 332 = .ok (.invokevirtual 393, 3) := by decide +kernel
theorem dX9_reckonRange_335 : decode cX9_reckonRange 335 = .ok (.return_, 1) := by decide +kernel
theorem dX9_reckonRange_336 : decode cX9_reckonRange 336 = .ok (.iload_n 3, 1) := by decide +kernel
theorem dX9_reckonRange_337 : decode cX9_reckonRange 337 = .ok (.ifCond .eq 9, 3) := by decide +kernel
theorem dX9_reckonRange_340 : decode cX9_reckonRange 340 = .ok (.ldc2_w 187, 3) := by decide +kernel
theorem dX9_reckonRange_343 : decode cX9_reckonRange 343 = .ok (.goto 6, 3) := by decide +kernel
theorem dX9_reckonRange_346 : decode cX9_reckonRange 346 = .ok (.ldc2_w 192, 3) := by decide +kernel
theorem dX9_reckonRange_349 : decode cX9_reckonRange 349 = .ok (.lstore 18, 2) := by decide +kernel
theorem dX9_reckonRange_351 : decode cX9_reckonRange 351 = .ok (.aload_n 0, 1) := by decide +kernel
theorem dX9_reckonRange_352 : decode cX9_reckonRange 352 = .ok (.iload 4, 2) := by decide +kernel
theorem dX9_reckonRange_354 : decode cX9_reckonRange 354 = .ok (.lconst 0, 1) := by decide +kernel
theorem dX9_reckonRange_355 : decode cX9_reckonRange 355 = .ok (.lload 18, 2) := by decide +kernel
theorem dX9_reckonRange_357 : decode cX9_reckonRange 357 = .ok (.invokevirtual 393, 3) := by decide +kernel
theorem dX9_reckonRange_360 : decode cX9_reckonRange 360 = .ok (.lload 9, 2) := by decide +kernel
theorem dX9_reckonRange_362 : decode cX9_reckonRange 362 = .ok (.l2i, 1) := by decide +kernel
theorem dX9_reckonRange_363 : decode cX9_reckonRange 363 = .ok (.iload_n 3, 1) := by decide +kernel
theorem dX9_reckonRange_364 : decode cX9_reckonRange 364 = .ok (.ifCond .eq 8, 3) := by decide +kernel
theorem dX9_reckonRange_367 : decode cX9_reckonRange 367 = .ok (.bipush 63, 2) := by decide +kernel
theorem dX9_reckonRange_369 : decode cX9_reckonRange 369 = .ok (.goto 5, 3) := by decide +kernel
theorem dX9_reckonRange_372 : decode cX9_reckonRange 372 = .ok (.bipush 31, 2) := by decide +kernel
theorem dX9_reckonRange_374 : decode cX9_reckonRange 374 = .ok (.iand, 1) := by decide +kernel
theorem dX9_reckonRange_375 : decode cX9_reckonRange 375 = .ok (.istore 20, 2) := by decide +kernel
theorem dX9_reckonRange_377 : decode cX9_reckonRange 377 = .ok (.lload 9, 2) := by decide +kernel
theorem dX9_reckonRange_379 : decode cX9_reckonRange 379 = .ok (.lload 11, 2) := by decide +kernel
theorem dX9_reckonRange_381 : decode cX9_reckonRange 381 = .ok (.lcmp, 1) := by decide +kernel
theorem dX9_reckonRange_382 : decode cX9_reckonRange 382 = .ok (.ifCond .ne 7, 3) := by decide +kernel
theorem dX9_reckonRange_385 : decode cX9_reckonRange 385 = .ok (.iconst 1, 1) := by decide +kernel
theorem dX9_reckonRange_386 : decode cX9_reckonRange 386 = .ok (.goto 4, 3) := by decide +kernel
theorem dX9_reckonRange_389 : decode cX9_reckonRange 389 = .ok (.iconst 0, 1) := by decide +kernel
theorem dX9_reckonRange_390 : decode cX9_reckonRange 390 = .ok (.istore 21, 2) := by decide +kernel
theorem dX9_reckonRange_392 : decode cX9_reckonRange 392 = .ok (.iload_n 2, 1) := by decide +kernel
theorem dX9_reckonRange_393 : decode cX9_reckonRange 393 = .ok (.tableswitch 409 0 10 #[59, 104, 133, 187, 363, 346, 409, 409, 409, 257, 389], 59) := by decide +kernel
theorem dX9_reckonRange_452 : decode cX9_reckonRange 452 = .ok (.lload 7, 2) := by decide +kernel
theorem dX9_reckonRange_454 : decode cX9_reckonRange 454 = .ok (.lload 11, 2) := by decide +kernel
theorem dX9_reckonRange_456 : decode cX9_reckonRange 456 = .ok (.ladd, 1) := by decide +kernel
theorem dX9_reckonRange_457 : decode cX9_reckonRange 457 = .ok (.lload 7, 2) := by decide +kernel
theorem dX9_reckonRange_459 : decode cX9_reckonRange 459 = .ok (.invokestatic 175, 3) := by decide +kernel
theorem dX9_reckonRange_462 : decode cX9_reckonRange 462 = .ok (.ifCond .ne 357, 3) := by decide +kernel
theorem dX9_reckonRange_465 : decode cX9_reckonRange 465 = .ok (.lload 18, 2) := by decide +kernel
theorem dX9_reckonRange_467 : decode cX9_reckonRange 467 = .ok (.lload 7, 2) := by decide +kernel
theorem dX9_reckonRange_469 : decode cX9_reckonRange 469 = .ok (.lload 11, 2) := by decide +kernel
theorem dX9_reckonRange_471 : decode cX9_reckonRange 471 = .ok (.ladd, 1) := by decide +kernel
theorem dX9_reckonRange_472 : decode cX9_reckonRange 472 = .ok (.invokestatic 175, 3) := by decide +kernel
theorem dX9_reckonRange_475 : decode cX9_reckonRange 475 = .ok (.ifCond .ne 344, 3) := by decide +kernel
theorem dX9_reckonRange_478 : decode cX9_reckonRange 478 = .ok (.aload_n 0, 1) := by decide +kernel
theorem dX9_reckonRange_479 : decode cX9_reckonRange 479 = .ok (.iload 4, 2) := by decide +kernel
theorem dX9_reckonRange_481 : decode cX9_reckonRange 481 = .ok (.lload 5, 2) := by decide +kernel
theorem dX9_reckonRange_483 : decode cX9_reckonRange 483 = .ok (.lload 9, 2) := by decide +kernel
theorem dX9_reckonRange_485 : decode cX9_reckonRange 485 = .ok (.ladd, 1) := by decide +kernel
theorem dX9_reckonRange_486 : decode cX9_reckonRange 486 = .ok (.lload 7, 2) := by decide +kernel
theorem dX9_reckonRange_488 : decode cX9_reckonRange 488 = .ok (.lload 11, 2) := by decide +kernel
theorem dX9_reckonRange_490 : decode cX9_reckonRange 490 = .ok (.ladd, 1) := by decide +kernel
theorem dX9_reckonRange_491 : decode cX9_reckonRange 491 = .ok (.invokevirtual 393, 3) := by decide +kernel
theorem dX9_reckonRange_494 : decode cX9_reckonRange 494 = .ok (.goto 325, 3) := by decide +kernel
theorem dX9_reckonRange_497 : decode cX9_reckonRange 497 = .ok (.lload 5, 2) := by decide +kernel
theorem dX9_reckonRange_499 : decode cX9_reckonRange 499 = .ok (.lload 11, 2) := by decide +kernel
theorem dX9_reckonRange_501 : decode cX9_reckonRange 501 = .ok (.invokestatic 175, 3) := by decide +kernel
theorem dX9_reckonRange_504 : decode cX9_reckonRange 504 = .ok (.ifCond .ne 315, 3) := by decide +kernel
theorem dX9_reckonRange_507 : decode cX9_reckonRange 507 = .ok (.aload_n 0, 1) := by decide +kernel
theorem dX9_reckonRange_508 : decode cX9_reckonRange 508 = .ok (.iload 4, 2) := by decide +kernel
theorem dX9_reckonRange_510 : decode cX9_reckonRange 510 = .ok (.lload 5, 2) := by decide +kernel
theorem dX9_reckonRange_512 : decode cX9_reckonRange 512 = .ok (.lload 11, 2) := by decide +kernel
theorem dX9_reckonRange_514 : decode cX9_reckonRange 514 = .ok (.lsub, 1) := by decide +kernel
theorem dX9_reckonRange_515 : decode cX9_reckonRange 515 = .ok (.lload 7, 2) := by decide +kernel
theorem dX9_reckonRange_517 : decode cX9_reckonRange 517 = .ok (.lload 9, 2) := by decide +kernel
theorem dX9_reckonRange_519 : decode cX9_reckonRange 519 = .ok (.lsub, 1) := by decide +kernel
theorem dX9_reckonRange_520 : decode cX9_reckonRange 520 = .ok (.invokevirtual 393, 3) := by decide +kernel
theorem dX9_reckonRange_523 : decode cX9_reckonRange 523 = .ok (.goto 296, 3) := by decide +kernel
theorem dX9_reckonRange_526 : decode cX9_reckonRange 526 = .ok (.ldc2_w 192, 3) := by decide +kernel
theorem dX9_reckonRange_529 : decode cX9_reckonRange 529 = .ok (.lload 7, 2) := by decide +kernel
theorem dX9_reckonRange_531 : decode cX9_reckonRange 531 = .ok (.invokestatic 175, 3) := by decide +kernel
theorem dX9_reckonRange_534 : decode cX9_reckonRange 534 = .ok (.ifCond .ne 285, 3) := by decide +kernel
theorem dX9_reckonRange_537 : decode cX9_reckonRange 537 = .ok (.ldc2_w 192, 3) := by decide +kernel
theorem dX9_reckonRange_540 : decode cX9_reckonRange 540 = .ok (.lload 11, 2) := by decide +kernel
theorem dX9_reckonRange_542 : decode cX9_reckonRange 542 = .ok (.invokestatic 175, 3) := by decide +kernel
theorem dX9_reckonRange_545 : decode cX9_reckonRange 545 = .ok (.ifCond .ne 274, 3) := by decide +kernel
theorem dX9_reckonRange_548 : decode cX9_reckonRange 548 = .ok (.lload 18, 2) := by decide +kernel
theorem dX9_reckonRange_550 : decode cX9_reckonRange 550 = .ok (.lload 7, 2) := by decide +kernel
theorem dX9_reckonRange_552 : decode cX9_reckonRange 552 = .ok (.lload 11, 2) := by decide +kernel
theorem dX9_reckonRange_554 : decode cX9_reckonRange 554 = .ok (.lmul, 1) := by decide +kernel
theorem dX9_reckonRange_555 : decode cX9_reckonRange 555 = .ok (.invokestatic 175, 3) := by decide +kernel
theorem dX9_reckonRange_558 : decode cX9_reckonRange 558 = .ok (.ifCond .ne 261, 3) := by decide +kernel
theorem dX9_reckonRange_561 : decode cX9_reckonRange 561 = .ok (.aload_n 0, 1) := by decide +kernel
theorem dX9_reckonRange_562 : decode cX9_reckonRange 562 = .ok (.iload 4, 2) := by decide +kernel
theorem dX9_reckonRange_564 : decode cX9_reckonRange 564 = .ok (.lload 5, 2) := by decide +kernel
theorem dX9_reckonRange_566 : decode cX9_reckonRange 566 = .ok (.lload 9, 2) := by decide +kernel
theorem dX9_reckonRange_568 : decode cX9_reckonRange 568 = .ok (.lmul, 1) := by decide +kernel
theorem dX9_reckonRange_569 : decode cX9_reckonRange 569 = .ok (.lload 7, 2) := by decide +kernel
theorem dX9_reckonRange_571 : decode cX9_reckonRange 571 = .ok (.lload 11, 2) := by decide +kernel
theorem dX9_reckonRange_573 : decode cX9_reckonRange 573 = .ok (.lmul, 1) := by decide +kernel
theorem dX9_reckonRange_574 : decode cX9_reckonRange 574 = .ok (.invokevirtual 393, 3) := by decide +kernel
theorem dX9_reckonRange_577 : decode cX9_reckonRange 577 = .ok (.goto 242, 3) := by decide +kernel
theorem dX9_reckonRange_580 : decode cX9_reckonRange 580 = .ok (.aload_n 0, 1) := by decide +kernel
theorem dX9_reckonRange_581 : decode cX9_reckonRange 581 = .ok (.getfield 19, 3) := by decide +kernel
theorem dX9_reckonRange_584 : decode cX9_reckonRange 584 = .ok (.iload_n 1, 1) := by decide +kernel
theorem dX9_reckonRange_585 : decode cX9_reckonRange 585 = .ok (.iaload, 1) := by decide +kernel
theorem dX9_reckonRange_586 : decode cX9_reckonRange 586 = .ok (.ifCond .ne 233, 3) := by decide +kernel
theorem dX9_reckonRange_589 : decode cX9_reckonRange 589 = .ok (.iload 21, 2) := by decide +kernel
theorem dX9_reckonRange_591 : decode cX9_reckonRange 591 = .ok (.ifCond .eq 14, 3) := by decide +kernel
theorem dX9_reckonRange_594 : decode cX9_reckonRange 594 = .ok (.lload 11, 2) := by decide +kernel
theorem dX9_reckonRange_596 : decode cX9_reckonRange 596 = .ok (.lconst 0, 1) := by decide +kernel
theorem dX9_reckonRange_597 : decode cX9_reckonRange 597 = .ok (.lcmp, 1) := by decide +kernel
theorem dX9_reckonRange_598 : decode cX9_reckonRange 598 = .ok (.ifCond .eq 7, 3) := by decide +kernel
theorem dX9_reckonRange_601 : decode cX9_reckonRange 601 = .ok (.iconst 1, 1) := by decide +kernel
theorem dX9_reckonRange_602 : decode cX9_reckonRange 602 = .ok (.goto 4, 3) := by decide +kernel
theorem dX9_reckonRange_605 : decode cX9_reckonRange 605 = .ok (.iconst 0, 1) := by decide +kernel
theorem dX9_reckonRange_606 : decode cX9_reckonRange 606 = .ok (.istore 22, 2) := by decide +kernel
theorem dX9_reckonRange_608 : decode cX9_reckonRange 608 = .ok (.aload_n 0, 1) := by decide +kernel
theorem dX9_reckonRange_609 : decode cX9_reckonRange 609 = .ok (.iload 4, 2) := by decide +kernel
theorem dX9_reckonRange_611 : decode cX9_reckonRange 611 = .ok (.iload 22, 2) := by decide +kernel
theorem dX9_reckonRange_613 : decode cX9_reckonRange 613 = .ok (.ifCond .eq 13, 3) := by decide +kernel
theorem dX9_reckonRange_616 : decode cX9_reckonRange 616 = .ok (.lload 5, 2) := by decide +kernel
theorem dX9_reckonRange_618 : decode cX9_reckonRange 618 = .ok (.lload 11, 2) := by decide +kernel
theorem dX9_reckonRange_620 : decode cX9_reckonRange 620 = .ok (.invokestatic 179, 3) := by decide +kernel
theorem dX9_reckonRange_623 : decode cX9_reckonRange 623 = .ok (.goto 4, 3) := by decide +kernel
theorem dX9_reckonRange_626 : decode cX9_reckonRange 626 = .ok (.lconst 0, 1) := by decide +kernel
theorem dX9_reckonRange_627 : decode cX9_reckonRange 627 = .ok (.iload 22, 2) := by decide +kernel
theorem dX9_reckonRange_629 : decode cX9_reckonRange 629 = .ok (.ifCond .eq 13, 3) := by decide +kernel
theorem dX9_reckonRange_632 : decode cX9_reckonRange 632 = .ok (.lload 7, 2) := by decide +kernel
theorem dX9_reckonRange_634 : decode cX9_reckonRange 634 = .ok (.lload 11, 2) := by decide +kernel
theorem dX9_reckonRange_636 : decode cX9_reckonRange 636 = .ok (.invokestatic 179, 3) := by decide +kernel
theorem dX9_reckonRange_639 : decode cX9_reckonRange 639 = .ok (.goto 5, 3) := by decide +kernel
theorem dX9_reckonRange_642 : decode cX9_reckonRange 642 = .ok (.lload 7, 2) := by decide +kernel
theorem dX9_reckonRange_644 : decode cX9_reckonRange 644 = .ok (.invokevirtual 393, 3) := by decide +kernel
theorem dX9_reckonRange_647 : decode cX9_reckonRange 647 = .ok (.goto 172, 3) := by decide +kernel
theorem dX9_reckonRange_650 : decode cX9_reckonRange 650 = .ok (.aload_n 0, 1) := by decide +kernel
theorem dX9_reckonRange_651 : decode cX9_reckonRange 651 = .ok (.getfield 19, 3) := by decide +kernel
theorem dX9_reckonRange_654 : decode cX9_reckonRange 654 = .ok (.iload_n 1, 1) := by decide +kernel
theorem dX9_reckonRange_655 : decode cX9_reckonRange 655 = .ok (.iaload, 1) := by decide +kernel
theorem dX9_reckonRange_656 : decode cX9_reckonRange 656 = .ok (.ifCond .ne 163, 3) := by decide +kernel
theorem dX9_reckonRange_659 : decode cX9_reckonRange 659 = .ok (.iload 21, 2) := by decide +kernel
theorem dX9_reckonRange_661 : decode cX9_reckonRange 661 = .ok (.ifCond .eq 14, 3) := by decide +kernel
theorem dX9_reckonRange_664 : decode cX9_reckonRange 664 = .ok (.lload 11, 2) := by decide +kernel
theorem dX9_reckonRange_666 : decode cX9_reckonRange 666 = .ok (.lconst 0, 1) := by decide +kernel
theorem dX9_reckonRange_667 : decode cX9_reckonRange 667 = .ok (.lcmp, 1) := by decide +kernel
theorem dX9_reckonRange_668 : decode cX9_reckonRange 668 = .ok (.ifCond .eq 7, 3) := by decide +kernel
theorem dX9_reckonRange_671 : decode cX9_reckonRange 671 = .ok (.iconst 1, 1) := by decide +kernel
theorem dX9_reckonRange_672 : decode cX9_reckonRange 672 = .ok (.goto 4, 3) := by decide +kernel
theorem dX9_reckonRange_675 : decode cX9_reckonRange 675 = .ok (.iconst 0, 1) := by decide +kernel
theorem dX9_reckonRange_676 : decode cX9_reckonRange 676 = .ok (.istore 22, 2) := by decide +kernel
theorem dX9_reckonRange_678 : decode cX9_reckonRange 678 = .ok (.iload 22, 2) := by decide +kernel
theorem dX9_reckonRange_680 : decode cX9_reckonRange 680 = .ok (.ifCond .eq 17, 3) := by decide +kernel
theorem dX9_reckonRange_683 : decode cX9_reckonRange 683 = .ok (.lload 7, 2) := by decide +kernel
theorem dX9_reckonRange_685 : decode cX9_reckonRange 685 = .ok (.lload 11, 2) := by decide +kernel
theorem dX9_reckonRange_687 : decode cX9_reckonRange 687 = .ok (.invokestatic 175, 3) := by decide +kernel
theorem dX9_reckonRange_690 : decode cX9_reckonRange 690 = .ok (.ifCond .eq 7, 3) := by decide +kernel
theorem dX9_reckonRange_693 : decode cX9_reckonRange 693 = .ok (.iconst 1, 1) := by decide +kernel
theorem dX9_reckonRange_694 : decode cX9_reckonRange 694 = .ok (.goto 4, 3) := by decide +kernel
theorem dX9_reckonRange_697 : decode cX9_reckonRange 697 = .ok (.iconst 0, 1) := by decide +kernel
theorem dX9_reckonRange_698 : decode cX9_reckonRange 698 = .ok (.istore 23, 2) := by decide +kernel
theorem dX9_reckonRange_700 : decode cX9_reckonRange 700 = .ok (.aload_n 0, 1) := by decide +kernel
theorem dX9_reckonRange_701 : decode cX9_reckonRange 701 = .ok (.iload 4, 2) := by decide +kernel
theorem dX9_reckonRange_703 : decode cX9_reckonRange 703 = .ok (.iload 23, 2) := by decide +kernel
theorem dX9_reckonRange_705 : decode cX9_reckonRange 705 = .ok (.ifCond .eq 8, 3) := by decide +kernel
theorem dX9_reckonRange_708 : decode cX9_reckonRange 708 = .ok (.lload 5, 2) := by decide +kernel
theorem dX9_reckonRange_710 : decode cX9_reckonRange 710 = .ok (.goto 4, 3) := by decide +kernel
theorem dX9_reckonRange_713 : decode cX9_reckonRange 713 = .ok (.lconst 0, 1) := by decide +kernel
theorem dX9_reckonRange_714 : decode cX9_reckonRange 714 = .ok (.iload 23, 2) := by decide +kernel
theorem dX9_reckonRange_716 : decode cX9_reckonRange 716 = .ok (.ifCond .ne 8, 3) := by decide +kernel
theorem dX9_reckonRange_719 : decode cX9_reckonRange 719 = .ok (.iload 22, 2) := by decide +kernel
theorem dX9_reckonRange_721 : decode cX9_reckonRange 721 = .ok (.ifCond .ne 8, 3) := by decide +kernel
theorem dX9_reckonRange_724 : decode cX9_reckonRange 724 = .ok (.lload 7, 2) := by decide +kernel
theorem dX9_reckonRange_726 : decode cX9_reckonRange 726 = .ok (.goto 7, 3) := by decide +kernel
theorem dX9_reckonRange_729 : decode cX9_reckonRange 729 = .ok (.lload 11, 2) := by decide +kernel
theorem dX9_reckonRange_731 : decode cX9_reckonRange 731 = .ok (.lconst 1, 1) := by decide +kernel
theorem dX9_reckonRange_732 : decode cX9_reckonRange 732 = .ok (.lsub, 1) := by decide +kernel
theorem dX9_reckonRange_733 : decode cX9_reckonRange 733 = .ok (.invokevirtual 393, 3) := by decide +kernel
theorem dX9_reckonRange_736 : decode cX9_reckonRange 736 = .ok (.goto 83, 3) := by decide +kernel
theorem dX9_reckonRange_739 : decode cX9_reckonRange 739 = .ok (.aload_n 0, 1) := by decide +kernel
theorem dX9_reckonRange_740 : decode cX9_reckonRange 740 = .ok (.iload 4, 2) := by decide +kernel
theorem dX9_reckonRange_742 : decode cX9_reckonRange 742 = .ok (.lconst 0, 1) := by decide +kernel
theorem dX9_reckonRange_743 : decode cX9_reckonRange 743 = .ok (.lload 7, 2) := by decide +kernel
theorem dX9_reckonRange_745 : decode cX9_reckonRange 745 = .ok (.lload 11, 2) := by decide +kernel
theorem dX9_reckonRange_747 : decode cX9_reckonRange 747 = .ok (.invokestatic 338, 3) := by decide +kernel
theorem dX9_reckonRange_750 : decode cX9_reckonRange 750 = .ok (.invokevirtual 393, 3) := by decide +kernel
theorem dX9_reckonRange_753 : decode cX9_reckonRange 753 = .ok (.goto 66, 3) := by decide +kernel
theorem dX9_reckonRange_756 : decode cX9_reckonRange 756 = .ok (.aload_n 0, 1) := by decide +kernel
theorem dX9_reckonRange_757 : decode cX9_reckonRange 757 = .ok (.iload 4, 2) := by decide +kernel
theorem dX9_reckonRange_759 : decode cX9_reckonRange 759 = .ok (.lload 5, 2) := by decide +kernel
theorem dX9_reckonRange_761 : decode cX9_reckonRange 761 = .ok (.lload 9, 2) := by decide +kernel
theorem dX9_reckonRange_763 : decode cX9_reckonRange 763 = .ok (.invokestatic 341, 3) := by decide +kernel
theorem dX9_reckonRange_766 : decode cX9_reckonRange 766 = .ok (.lload 7, 2) := by decide +kernel
theorem dX9_reckonRange_768 : decode cX9_reckonRange 768 = .ok (.lload 11, 2) := by decide +kernel
theorem dX9_reckonRange_770 : decode cX9_reckonRange 770 = .ok (.invokestatic 341, 3) := by decide +kernel
theorem dX9_reckonRange_773 : decode cX9_reckonRange 773 = .ok (.invokestatic 432, 3) := by decide +kernel
theorem dX9_reckonRange_776 : decode cX9_reckonRange 776 = .ok (.invokevirtual 393, 3) := by decide +kernel
theorem dX9_reckonRange_779 : decode cX9_reckonRange 779 = .ok (.goto 40, 3) := by decide +kernel
theorem dX9_reckonRange_782 : decode cX9_reckonRange 782 = .ok (.aload_n 0, 1) := by decide +kernel
theorem dX9_reckonRange_783 : decode cX9_reckonRange 783 = .ok (.iload 4, 2) := by decide +kernel
theorem dX9_reckonRange_785 : decode cX9_reckonRange 785 = .ok (.lconst 0, 1) := by decide +kernel
theorem dX9_reckonRange_786 : decode cX9_reckonRange 786 = .ok (.lload 7, 2) := by decide +kernel
theorem dX9_reckonRange_788 : decode cX9_reckonRange 788 = .ok (.lload 11, 2) := by decide +kernel
theorem dX9_reckonRange_790 : decode cX9_reckonRange 790 = .ok (.invokestatic 341, 3) := by decide +kernel
theorem dX9_reckonRange_793 : decode cX9_reckonRange 793 = .ok (.invokestatic 432, 3) := by decide +kernel
theorem dX9_reckonRange_796 : decode cX9_reckonRange 796 = .ok (.invokevirtual 393, 3) := by decide +kernel
theorem dX9_reckonRange_799 : decode cX9_reckonRange 799 = .ok (.goto 20, 3) := by decide +kernel
theorem dX9_reckonRange_802 : decode cX9_reckonRange 802 = .ok (.aload_n 0, 1) := by decide +kernel
theorem dX9_reckonRange_803 : decode cX9_reckonRange 803 = .ok (.iload_n 1, 1) := by decide +kernel
theorem dX9_reckonRange_804 : decode cX9_reckonRange 804 = .ok (.iload_n 2, 1) := by decide +kernel
theorem dX9_reckonRange_805 : decode cX9_reckonRange 805 = .ok (.iload_n 3, 1) := by decide +kernel
theorem dX9_reckonRange_806 : decode cX9_reckonRange 806 = .ok (.lload 5, 2) := by decide +kernel
theorem dX9_reckonRange_808 : decode cX9_reckonRange 808 = .ok (.lload 7, 2) := by decide +kernel
theorem dX9_reckonRange_810 : decode cX9_reckonRange 810 = .ok (.lload 9, 2) := by decide +kernel
theorem dX9_reckonRange_812 : decode cX9_reckonRange 812 = .ok (.lload 11, 2) := by decide +kernel
theorem dX9_reckonRange_814 : decode cX9_reckonRange 814 = .ok (.iload 20, 2) := by decide +kernel
theorem dX9_reckonRange_816 : decode cX9_reckonRange 816 = .ok (.invokevirtual 436, 3) := by decide +kernel
theorem dX9_reckonRange_819 : decode cX9_reckonRange 819 = .ok (.return_, 1) := by decide +kernel
theorem dX9_isPointer_0 : decode cX9_isPointer 0 = .ok (.iload_n 0, 1) := by decide +kernel
theorem dX9_isPointer_1 : decode cX9_isPointer 1 = .ok (.iconst 2, 1) := by decide +kernel
theorem dX9_isPointer_2 : decode cX9_isPointer 2 = .ok (.if_icmp .eq 13, 3) := by decide +kernel
theorem dX9_isPointer_5 : decode cX9_isPointer 5 = .ok (.iload_n 0, 1) := by decide +kernel
theorem dX9_isPointer_6 : decode cX9_isPointer 6 = .ok (.iconst 3, 1) := by decide +kernel
theorem dX9_isPointer_7 : decode cX9_isPointer 7 = .ok (.if_icmp .eq 8, 3) := by decide +kernel
theorem dX9_isPointer_10 : decode cX9_isPointer 10 = .ok (.iload_n 0, 1) := by decide +kernel
theorem dX9_isPointer_11 : decode cX9_isPointer 11 = .ok (.iconst 5, 1) := by decide +kernel
theorem dX9_isPointer_12 : decode cX9_isPointer 12 = .ok (.if_icmp .ne 7, 3) := by decide +kernel
theorem dX9_isPointer_15 : decode cX9_isPointer 15 = .ok (.iconst 1, 1) := by decide +kernel
theorem dX9_isPointer_16 : decode cX9_isPointer 16 = .ok (.goto 4, 3) := by decide +kernel
theorem dX9_isPointer_19 : decode cX9_isPointer 19 = .ok (.iconst 0, 1) := by decide +kernel
theorem dX9_isPointer_20 : decode cX9_isPointer 20 = .ok (.ireturn, 1) := by decide +kernel
-- JudgedCodeModel.reckonMoved
def f_X9_reckonMoved_122 (S : sh) (D : dt) : Option (Unit × dt) := some ((), D)
def f_X9_reckonMoved_109 (S : sh) (o0 : Nat) (x4 : Int64) (x12 : Int32) (x13 : Int32) (x16 : Int64) (D : dt) : Option (Unit × dt) := cq (f_X9_number S o0 x13 (j_lshl x4 x12) x16 D) fun _ D60 => f_X9_reckonMoved_122 S D60
def f_X9_reckonMoved_205 (S : sh) (os0 : Nat) (xs1 : Int32) (xs2 : Int64) (xs3 : Int64) (D : dt) : Option (Unit × dt) := cq (f_X9_number S os0 xs1 xs2 xs3 D) fun _ D62 => some ((), D62)
def f_X9_reckonMoved_162 (S : sh) (os0 : Nat) (xs1 : Int32) (xs2 : Int64) (xs3 : Int64) (D : dt) : Option (Unit × dt) := cq (f_X9_number S os0 xs1 xs2 xs3 D) fun _ D64 => some ((), D64)
def f_X9_reckonMoved_147 (S : sh) (x6 : Int64) (x12 : Int32) (x14 : Int32) (os0 : Nat) (xs1 : Int32) (xs2 : Int64) (D : dt) : Option (Unit × dt) := if x14 = 0 then (f_X9_reckonMoved_162 S os0 xs1 xs2 x6 D) else (f_X9_reckonMoved_162 S os0 xs1 xs2 (j_lushr x6 x12) D)
def f_X9_reckonMoved_244 (S : sh) (o0 : Nat) (x8 : Int64) (x10 : Int64) (x13 : Int32) (D : dt) : Option (Unit × dt) := cq (f_X9_number S o0 x13 x8 x10 D) fun _ D67 => some ((), D67)
def f_X9_reckonMoved_63 (S : sh) (o0 : Nat) (x1 : Int32) (x2 : Int32) (x3 : Int32) (x4 : Int64) (x6 : Int64) (x8 : Int64) (x10 : Int64) (x12 : Int32) (x13 : Int32) (x14 : Int32) (xs0 : Int32) (D : dt) : Option (Unit × dt) := if x2 = (6 : Int32) then (nm (j_lshl x6 x12) fun y98 => if x14 = 0 then (f_X9_reckonMoved_122 S D) else (if (lg_cmp (j_lushr y98 x12) x6) = 0 then (if x3 = 0 then (pq (f_X9_isBelow (4294967295 : Int64) y98) fun r103 => if r103 = 0 then (f_X9_reckonMoved_109 S o0 x4 x12 x13 y98 D) else (f_X9_reckonMoved_122 S D)) else (f_X9_reckonMoved_109 S o0 x4 x12 x13 y98 D)) else (f_X9_reckonMoved_122 S D))) else (if xs0 = 0 then (if x2 = (13 : Int32) then (rq (gR D o0 5) fun o86 => ix x1 (sA S o86) <| if (gI D o86 x1.toNatClampNeg) = (64 : Int32) then (f_X9_reckonMoved_205 S o0 x13 (0 : Int64) (-1 : Int64) D) else (rq (gR D o0 5) fun o92 => ix x1 (sA S o92) <| f_X9_reckonMoved_205 S o0 x13 (0 : Int64) ((j_lshl (1 : Int64) (gI D o92 x1.toNatClampNeg)) - (1 : Int64)) D)) else (if x2 = (11 : Int32) then (rq (gR D o0 4) fun o72 => ix x1 (sA S o72) <| if (gI D o72 x1.toNatClampNeg) = 0 then (f_X9_reckonMoved_244 S o0 x8 x10 x13 D) else (rq (gR D o0 4) fun o78 => ix x1 (sA S o78) <| pq (f_X9_isBelow x10 (j_lshl (1 : Int64) ((gI D o78 x1.toNatClampNeg) - (1 : Int32)))) fun r84 => if r84 = 0 then (some ((), D)) else (f_X9_reckonMoved_244 S o0 x8 x10 x13 D))) else (some ((), D)))) else (if x14 = 0 then (f_X9_reckonMoved_147 S x6 x12 x14 o0 x13 (0 : Int64) D) else (f_X9_reckonMoved_147 S x6 x12 x14 o0 x13 (j_lushr x4 x12) D)))
def f_X9_reckonMoved_58 (S : sh) (o0 : Nat) (x1 : Int32) (x2 : Int32) (x3 : Int32) (x4 : Int64) (x6 : Int64) (x8 : Int64) (x10 : Int64) (x12 : Int32) (x13 : Int32) (x14 : Int32) (D : dt) : Option (Unit × dt) := f_X9_reckonMoved_63 S o0 x1 x2 x3 x4 x6 x8 x10 x12 x13 x14 (1 : Int32) D
def f_X9_reckonMoved_62 (S : sh) (o0 : Nat) (x1 : Int32) (x2 : Int32) (x3 : Int32) (x4 : Int64) (x6 : Int64) (x8 : Int64) (x10 : Int64) (x12 : Int32) (x13 : Int32) (x14 : Int32) (D : dt) : Option (Unit × dt) := f_X9_reckonMoved_63 S o0 x1 x2 x3 x4 x6 x8 x10 x12 x13 x14 (0 : Int32) D
def f_X9_reckonMoved_21 (S : sh) (o0 : Nat) (x1 : Int32) (x2 : Int32) (x3 : Int32) (x4 : Int64) (x6 : Int64) (x8 : Int64) (x10 : Int64) (x12 : Int32) (x13 : Int32) (xs0 : Int32) (D : dt) : Option (Unit × dt) := if x2 = (7 : Int32) then (f_X9_reckonMoved_58 S o0 x1 x2 x3 x4 x6 x8 x10 x12 x13 xs0 D) else (if x2 = (12 : Int32) then (if x3 = 0 then (if 0 ≤ (lg_cmp x6 (2147483648 : Int64)) then (f_X9_reckonMoved_62 S o0 x1 x2 x3 x4 x6 x8 x10 x12 x13 xs0 D) else (f_X9_reckonMoved_58 S o0 x1 x2 x3 x4 x6 x8 x10 x12 x13 xs0 D)) else (if (lg_cmp x6 (0 : Int64)) < 0 then (f_X9_reckonMoved_62 S o0 x1 x2 x3 x4 x6 x8 x10 x12 x13 xs0 D) else (f_X9_reckonMoved_58 S o0 x1 x2 x3 x4 x6 x8 x10 x12 x13 xs0 D))) else (f_X9_reckonMoved_62 S o0 x1 x2 x3 x4 x6 x8 x10 x12 x13 xs0 D))
def f_X9_reckonMoved (S : sh) (o0 : Nat) (x1 : Int32) (x2 : Int32) (x3 : Int32) (x4 : Int64) (x6 : Int64) (x8 : Int64) (x10 : Int64) (x12 : Int32) (D : dt) : Option (Unit × dt) := rq (gR D o0 2) fun o110 => ix x1 (sA S o110) <| nm (gI D o110 x1.toNatClampNeg) fun y115 => if (lg_cmp x8 x10) = 0 then (f_X9_reckonMoved_21 S o0 x1 x2 x3 x4 x6 x8 x10 x12 y115 (1 : Int32) D) else (f_X9_reckonMoved_21 S o0 x1 x2 x3 x4 x6 x8 x10 x12 y115 (0 : Int32) D)
-- JudgedCodeModel.reckonRange
def f_X9_reckonRange_802 (S : sh) (o0 : Nat) (x1 : Int32) (x2 : Int32) (x3 : Int32) (x5 : Int64) (x7 : Int64) (x9 : Int64) (x11 : Int64) (x20 : Int32) (D : dt) : Option (Unit × dt) := cq (f_X9_reckonMoved S o0 x1 x2 x3 x5 x7 x9 x11 x20 D) fun _ D149 => some ((), D149)
def f_X9_reckonRange_733 (S : sh) (os0 : Nat) (xs1 : Int32) (xs2 : Int64) (xs3 : Int64) (D : dt) : Option (Unit × dt) := cq (f_X9_number S os0 xs1 xs2 xs3 D) fun _ D151 => some ((), D151)
def f_X9_reckonRange_724 (S : sh) (x7 : Int64) (os0 : Nat) (xs1 : Int32) (xs2 : Int64) (D : dt) : Option (Unit × dt) := f_X9_reckonRange_733 S os0 xs1 xs2 x7 D
def f_X9_reckonRange_714 (S : sh) (x7 : Int64) (x11 : Int64) (x22 : Int32) (x23 : Int32) (os0 : Nat) (xs1 : Int32) (xs2 : Int64) (D : dt) : Option (Unit × dt) := if x23 = 0 then (if x22 = 0 then (f_X9_reckonRange_724 S x7 os0 xs1 xs2 D) else (f_X9_reckonRange_733 S os0 xs1 xs2 (x11 - (1 : Int64)) D)) else (f_X9_reckonRange_724 S x7 os0 xs1 xs2 D)
def f_X9_reckonRange_698 (S : sh) (o0 : Nat) (x4 : Int32) (x5 : Int64) (x7 : Int64) (x11 : Int64) (x22 : Int32) (xs0 : Int32) (D : dt) : Option (Unit × dt) := if xs0 = 0 then (f_X9_reckonRange_714 S x7 x11 x22 xs0 o0 x4 (0 : Int64) D) else (f_X9_reckonRange_714 S x7 x11 x22 xs0 o0 x4 x5 D)
def f_X9_reckonRange_697 (S : sh) (o0 : Nat) (x4 : Int32) (x5 : Int64) (x7 : Int64) (x11 : Int64) (x22 : Int32) (D : dt) : Option (Unit × dt) := f_X9_reckonRange_698 S o0 x4 x5 x7 x11 x22 (0 : Int32) D
def f_X9_reckonRange_676 (S : sh) (o0 : Nat) (x4 : Int32) (x5 : Int64) (x7 : Int64) (x11 : Int64) (xs0 : Int32) (D : dt) : Option (Unit × dt) := if xs0 = 0 then (f_X9_reckonRange_697 S o0 x4 x5 x7 x11 xs0 D) else (pq (f_X9_isBelow x7 x11) fun r157 => if r157 = 0 then (f_X9_reckonRange_697 S o0 x4 x5 x7 x11 xs0 D) else (f_X9_reckonRange_698 S o0 x4 x5 x7 x11 xs0 (1 : Int32) D))
def f_X9_reckonRange_675 (S : sh) (o0 : Nat) (x4 : Int32) (x5 : Int64) (x7 : Int64) (x11 : Int64) (D : dt) : Option (Unit × dt) := f_X9_reckonRange_676 S o0 x4 x5 x7 x11 (0 : Int32) D
def f_X9_reckonRange_644 (S : sh) (os0 : Nat) (xs1 : Int32) (xs2 : Int64) (xs3 : Int64) (D : dt) : Option (Unit × dt) := cq (f_X9_number S os0 xs1 xs2 xs3 D) fun _ D160 => some ((), D160)
def f_X9_reckonRange_627 (S : sh) (x7 : Int64) (x11 : Int64) (x22 : Int32) (os0 : Nat) (xs1 : Int32) (xs2 : Int64) (D : dt) : Option (Unit × dt) := if x22 = 0 then (f_X9_reckonRange_644 S os0 xs1 xs2 x7 D) else (pq (f_X9_over x7 x11) fun r163 => f_X9_reckonRange_644 S os0 xs1 xs2 r163 D)
def f_X9_reckonRange_606 (S : sh) (o0 : Nat) (x4 : Int32) (x5 : Int64) (x7 : Int64) (x11 : Int64) (xs0 : Int32) (D : dt) : Option (Unit × dt) := if xs0 = 0 then (f_X9_reckonRange_627 S x7 x11 xs0 o0 x4 (0 : Int64) D) else (pq (f_X9_over x5 x11) fun r166 => f_X9_reckonRange_627 S x7 x11 xs0 o0 x4 r166 D)
def f_X9_reckonRange_605 (S : sh) (o0 : Nat) (x4 : Int32) (x5 : Int64) (x7 : Int64) (x11 : Int64) (D : dt) : Option (Unit × dt) := f_X9_reckonRange_606 S o0 x4 x5 x7 x11 (0 : Int32) D
def f_X9_reckonRange_390 (S : sh) (o0 : Nat) (x1 : Int32) (x2 : Int32) (x3 : Int32) (x4 : Int32) (x5 : Int64) (x7 : Int64) (x9 : Int64) (x11 : Int64) (x18 : Int64) (x20 : Int32) (xs0 : Int32) (D : dt) : Option (Unit × dt) := if x2 = 0 then (pq (f_X9_isBelow (x7 + x11) x7) fun r169 => if r169 = 0 then (pq (f_X9_isBelow x18 (x7 + x11)) fun r172 => if r172 = 0 then (cq (f_X9_number S o0 x4 (x5 + x9) (x7 + x11) D) fun _ D175 => some ((), D175)) else (some ((), D))) else (some ((), D))) else if x2 = 1 then (pq (f_X9_isBelow x5 x11) fun r178 => if r178 = 0 then (cq (f_X9_number S o0 x4 (x5 - x11) (x7 - x9) D) fun _ D181 => some ((), D181)) else (some ((), D))) else if x2 = 2 then (pq (f_X9_isBelow (4294967295 : Int64) x7) fun r184 => if r184 = 0 then (pq (f_X9_isBelow (4294967295 : Int64) x11) fun r187 => if r187 = 0 then (pq (f_X9_isBelow x18 (x7 * x11)) fun r190 => if r190 = 0 then (cq (f_X9_number S o0 x4 (x5 * x9) (x7 * x11) D) fun _ D193 => some ((), D193)) else (some ((), D))) else (some ((), D))) else (some ((), D))) else if x2 = 3 then (rq (gR D o0 4) fun o195 => ix x1 (sA S o195) <| if (gI D o195 x1.toNatClampNeg) = 0 then (if xs0 = 0 then (f_X9_reckonRange_605 S o0 x4 x5 x7 x11 D) else (if (lg_cmp x11 (0 : Int64)) = 0 then (f_X9_reckonRange_605 S o0 x4 x5 x7 x11 D) else (f_X9_reckonRange_606 S o0 x4 x5 x7 x11 (1 : Int32) D))) else (some ((), D))) else if x2 = 4 then (pq (f_X9_greater x5 x9) fun r205 => pq (f_X9_greater x7 x11) fun r207 => pq (f_X9_mask r207) fun r209 => cq (f_X9_number S o0 x4 r205 r209 D) fun _ D211 => some ((), D211)) else if x2 = 5 then (pq (f_X9_lesser x7 x11) fun r214 => cq (f_X9_number S o0 x4 (0 : Int64) r214 D) fun _ D216 => some ((), D216)) else if x2 = 6 then (f_X9_reckonRange_802 S o0 x1 x2 x3 x5 x7 x9 x11 x20 D) else if x2 = 7 then (f_X9_reckonRange_802 S o0 x1 x2 x3 x5 x7 x9 x11 x20 D) else if x2 = 8 then (f_X9_reckonRange_802 S o0 x1 x2 x3 x5 x7 x9 x11 x20 D) else if x2 = 9 then (rq (gR D o0 4) fun o221 => ix x1 (sA S o221) <| if (gI D o221 x1.toNatClampNeg) = 0 then (if xs0 = 0 then (f_X9_reckonRange_675 S o0 x4 x5 x7 x11 D) else (if (lg_cmp x11 (0 : Int64)) = 0 then (f_X9_reckonRange_675 S o0 x4 x5 x7 x11 D) else (f_X9_reckonRange_676 S o0 x4 x5 x7 x11 (1 : Int32) D))) else (some ((), D))) else if x2 = 10 then (pq (f_X9_greater x7 x11) fun r231 => pq (f_X9_mask r231) fun r233 => cq (f_X9_number S o0 x4 (0 : Int64) r233 D) fun _ D235 => some ((), D235)) else (f_X9_reckonRange_802 S o0 x1 x2 x3 x5 x7 x9 x11 x20 D)
def f_X9_reckonRange_374 (S : sh) (o0 : Nat) (x1 : Int32) (x2 : Int32) (x3 : Int32) (x4 : Int32) (x5 : Int64) (x7 : Int64) (x9 : Int64) (x11 : Int64) (x18 : Int64) (xs0 : Int32) (xs1 : Int32) (D : dt) : Option (Unit × dt) := nm (xs0 &&& xs1) fun y236 => if (lg_cmp x9 x11) = 0 then (f_X9_reckonRange_390 S o0 x1 x2 x3 x4 x5 x7 x9 x11 x18 y236 (1 : Int32) D) else (f_X9_reckonRange_390 S o0 x1 x2 x3 x4 x5 x7 x9 x11 x18 y236 (0 : Int32) D)
def f_X9_reckonRange_349 (S : sh) (o0 : Nat) (x1 : Int32) (x2 : Int32) (x3 : Int32) (x4 : Int32) (x5 : Int64) (x7 : Int64) (x9 : Int64) (x11 : Int64) (xs0 : Int64) (D : dt) : Option (Unit × dt) := cq (f_X9_number S o0 x4 (0 : Int64) xs0 D) fun _ D239 => if x3 = 0 then (f_X9_reckonRange_374 S o0 x1 x2 x3 x4 x5 x7 x9 x11 xs0 x9.toInt32 (31 : Int32) D239) else (f_X9_reckonRange_374 S o0 x1 x2 x3 x4 x5 x7 x9 x11 xs0 x9.toInt32 (63 : Int32) D239)
def f_X9_reckonRange_307 (S : sh) (o0 : Nat) (x1 : Int32) (x2 : Int32) (x3 : Int32) (x4 : Int32) (x5 : Int64) (x7 : Int64) (x9 : Int64) (x11 : Int64) (xs0 : Int32) (D : dt) : Option (Unit × dt) := if xs0 = 0 then (if x3 = 0 then (f_X9_reckonRange_349 S o0 x1 x2 x3 x4 x5 x7 x9 x11 (4294967295 : Int64) D) else (f_X9_reckonRange_349 S o0 x1 x2 x3 x4 x5 x7 x9 x11 (-1 : Int64) D)) else (cq (f_X9_reckon S o0 x1 x5 x9 D) fun r244 D245 => cq (f_X9_number S o0 x4 r244 r244 D245) fun _ D247 => some ((), D247))
def f_X9_reckonRange_306 (S : sh) (o0 : Nat) (x1 : Int32) (x2 : Int32) (x3 : Int32) (x4 : Int32) (x5 : Int64) (x7 : Int64) (x9 : Int64) (x11 : Int64) (D : dt) : Option (Unit × dt) := f_X9_reckonRange_307 S o0 x1 x2 x3 x4 x5 x7 x9 x11 (0 : Int32) D
def f_X9_reckonRange_270 (S : sh) (o0 : Nat) (x1 : Int32) (x2 : Int32) (x3 : Int32) (x4 : Int32) (x5 : Int64) (x7 : Int64) (x9 : Int64) (x11 : Int64) (D : dt) : Option (Unit × dt) := if (lg_cmp x5 x7) = 0 then (f_X9_reckonRange_307 S o0 x1 x2 x3 x4 x5 x7 x9 x11 (1 : Int32) D) else (f_X9_reckonRange_307 S o0 x1 x2 x3 x4 x5 x7 x9 x11 (0 : Int32) D)
def f_X9_reckonRange_234 (S : sh) (o0 : Nat) (x1 : Int32) (x2 : Int32) (x3 : Int32) (x4 : Int32) (x5 : Int64) (x7 : Int64) (x9 : Int64) (xs0 : Int64) (D : dt) : Option (Unit × dt) := if x2 = (11 : Int32) then (if (lg_cmp x9 xs0) = 0 then (f_X9_reckonRange_307 S o0 x1 x2 x3 x4 x5 x7 x9 xs0 (1 : Int32) D) else (f_X9_reckonRange_307 S o0 x1 x2 x3 x4 x5 x7 x9 xs0 (0 : Int32) D)) else (if x2 = (8 : Int32) then (f_X9_reckonRange_270 S o0 x1 x2 x3 x4 x5 x7 x9 xs0 D) else (if x2 = (13 : Int32) then (f_X9_reckonRange_270 S o0 x1 x2 x3 x4 x5 x7 x9 xs0 D) else (if (lg_cmp x5 x7) = 0 then (if (lg_cmp x9 xs0) = 0 then (f_X9_reckonRange_307 S o0 x1 x2 x3 x4 x5 x7 x9 xs0 (1 : Int32) D) else (f_X9_reckonRange_306 S o0 x1 x2 x3 x4 x5 x7 x9 xs0 D)) else (f_X9_reckonRange_306 S o0 x1 x2 x3 x4 x5 x7 x9 xs0 D))))
def f_X9_reckonRange_205 (S : sh) (o0 : Nat) (x1 : Int32) (x2 : Int32) (x3 : Int32) (x4 : Int32) (x5 : Int64) (x7 : Int64) (x11 : Int64) (x14 : Int32) (x16 : Int32) (xs0 : Int64) (D : dt) : Option (Unit × dt) := if x14 = 0 then (f_X9_reckonRange_234 S o0 x1 x2 x3 x4 x5 x7 xs0 x11 D) else (if x16 = 0 then (f_X9_reckonRange_234 S o0 x1 x2 x3 x4 x5 x7 xs0 (4294967295 : Int64) D) else (f_X9_reckonRange_234 S o0 x1 x2 x3 x4 x5 x7 xs0 (x11 &&& (4294967295 : Int64)) D))
def f_X9_reckonRange_178 (S : sh) (o0 : Nat) (x1 : Int32) (x2 : Int32) (x3 : Int32) (x4 : Int32) (x5 : Int64) (x9 : Int64) (x11 : Int64) (x14 : Int32) (x16 : Int32) (xs0 : Int64) (D : dt) : Option (Unit × dt) := if x14 = 0 then (f_X9_reckonRange_205 S o0 x1 x2 x3 x4 x5 xs0 x11 x14 x16 x9 D) else (if x16 = 0 then (f_X9_reckonRange_205 S o0 x1 x2 x3 x4 x5 xs0 x11 x14 x16 (0 : Int64) D) else (f_X9_reckonRange_205 S o0 x1 x2 x3 x4 x5 xs0 x11 x14 x16 (x9 &&& (4294967295 : Int64)) D))
def f_X9_reckonRange_149 (S : sh) (o0 : Nat) (x1 : Int32) (x2 : Int32) (x3 : Int32) (x4 : Int32) (x7 : Int64) (x9 : Int64) (x11 : Int64) (x13 : Int32) (x14 : Int32) (x15 : Int32) (x16 : Int32) (xs0 : Int64) (D : dt) : Option (Unit × dt) := if x13 = 0 then (f_X9_reckonRange_178 S o0 x1 x2 x3 x4 xs0 x9 x11 x14 x16 x7 D) else (if x15 = 0 then (f_X9_reckonRange_178 S o0 x1 x2 x3 x4 xs0 x9 x11 x14 x16 (4294967295 : Int64) D) else (f_X9_reckonRange_178 S o0 x1 x2 x3 x4 xs0 x9 x11 x14 x16 (x7 &&& (4294967295 : Int64)) D))
def f_X9_reckonRange_122 (S : sh) (o0 : Nat) (x1 : Int32) (x2 : Int32) (x3 : Int32) (x4 : Int32) (x5 : Int64) (x7 : Int64) (x9 : Int64) (x11 : Int64) (x13 : Int32) (x14 : Int32) (x15 : Int32) (xs0 : Int32) (D : dt) : Option (Unit × dt) := if x13 = 0 then (f_X9_reckonRange_149 S o0 x1 x2 x3 x4 x7 x9 x11 x13 x14 x15 xs0 x5 D) else (if x15 = 0 then (f_X9_reckonRange_149 S o0 x1 x2 x3 x4 x7 x9 x11 x13 x14 x15 xs0 (0 : Int64) D) else (f_X9_reckonRange_149 S o0 x1 x2 x3 x4 x7 x9 x11 x13 x14 x15 xs0 (x5 &&& (4294967295 : Int64)) D))
def f_X9_reckonRange_107 (S : sh) (o0 : Nat) (x1 : Int32) (x2 : Int32) (x3 : Int32) (x4 : Int32) (x5 : Int64) (x7 : Int64) (x9 : Int64) (x11 : Int64) (x13 : Int32) (x14 : Int32) (xs0 : Int32) (D : dt) : Option (Unit × dt) := if (lg_cmp x9 x11) = 0 then (f_X9_reckonRange_122 S o0 x1 x2 x3 x4 x5 x7 x9 x11 x13 x14 xs0 (1 : Int32) D) else (f_X9_reckonRange_122 S o0 x1 x2 x3 x4 x5 x7 x9 x11 x13 x14 xs0 (0 : Int32) D)
def f_X9_reckonRange_92 (S : sh) (o0 : Nat) (x1 : Int32) (x2 : Int32) (x3 : Int32) (x4 : Int32) (x5 : Int64) (x7 : Int64) (x9 : Int64) (x11 : Int64) (x13 : Int32) (xs0 : Int32) (D : dt) : Option (Unit × dt) := if (lg_cmp x5 x7) = 0 then (f_X9_reckonRange_107 S o0 x1 x2 x3 x4 x5 x7 x9 x11 x13 xs0 (1 : Int32) D) else (f_X9_reckonRange_107 S o0 x1 x2 x3 x4 x5 x7 x9 x11 x13 xs0 (0 : Int32) D)
def f_X9_reckonRange_91 (S : sh) (o0 : Nat) (x1 : Int32) (x2 : Int32) (x3 : Int32) (x4 : Int32) (x5 : Int64) (x7 : Int64) (x9 : Int64) (x11 : Int64) (x13 : Int32) (D : dt) : Option (Unit × dt) := f_X9_reckonRange_92 S o0 x1 x2 x3 x4 x5 x7 x9 x11 x13 (0 : Int32) D
def f_X9_reckonRange_64 (S : sh) (o0 : Nat) (x1 : Int32) (x2 : Int32) (x3 : Int32) (x4 : Int32) (x5 : Int64) (x7 : Int64) (x9 : Int64) (x11 : Int64) (xs0 : Int32) (D : dt) : Option (Unit × dt) := if x3 = 0 then (if x2 = (13 : Int32) then (f_X9_reckonRange_91 S o0 x1 x2 x3 x4 x5 x7 x9 x11 xs0 D) else (pq (f_X9_isBelow (4294967295 : Int64) x11) fun r268 => if r268 = 0 then (f_X9_reckonRange_91 S o0 x1 x2 x3 x4 x5 x7 x9 x11 xs0 D) else (f_X9_reckonRange_92 S o0 x1 x2 x3 x4 x5 x7 x9 x11 xs0 (1 : Int32) D))) else (f_X9_reckonRange_91 S o0 x1 x2 x3 x4 x5 x7 x9 x11 xs0 D)
def f_X9_reckonRange_63 (S : sh) (o0 : Nat) (x1 : Int32) (x2 : Int32) (x3 : Int32) (x4 : Int32) (x5 : Int64) (x7 : Int64) (x9 : Int64) (x11 : Int64) (D : dt) : Option (Unit × dt) := f_X9_reckonRange_64 S o0 x1 x2 x3 x4 x5 x7 x9 x11 (0 : Int32) D
def f_X9_reckonRange (S : sh) (o0 : Nat) (x1 : Int32) (x2 : Int32) (x3 : Int32) (D : dt) : Option (Unit × dt) := rq (gR D o0 2) fun o270 => ix x1 (sA S o270) <| nm (gI D o270 x1.toNatClampNeg) fun y275 => rq (gR D o0 41) fun o276 => ix y275 (sA S o276) <| nm (gL D o276 y275.toNatClampNeg) fun y281 => rq (gR D o0 42) fun o282 => ix y275 (sA S o282) <| nm (gL D o282 y275.toNatClampNeg) fun y287 => nm (gL D o0 51) fun y288 => nm (gL D o0 52) fun y289 => if x3 = 0 then (if x2 = (13 : Int32) then (f_X9_reckonRange_63 S o0 x1 x2 x3 y275 y281 y287 y288 y289 D) else (pq (f_X9_isBelow (4294967295 : Int64) y287) fun r293 => if r293 = 0 then (f_X9_reckonRange_63 S o0 x1 x2 x3 y275 y281 y287 y288 y289 D) else (f_X9_reckonRange_64 S o0 x1 x2 x3 y275 y281 y287 y288 y289 (1 : Int32) D))) else (f_X9_reckonRange_63 S o0 x1 x2 x3 y275 y281 y287 y288 y289 D)
-- JudgedCodeModel.isPointer
def f_X9_isPointer_15 : Option Int32 := some (1 : Int32)
def f_X9_isPointer (x0 : Int32) : Option Int32 := if x0 = (2 : Int32) then (f_X9_isPointer_15) else (if x0 = (3 : Int32) then (f_X9_isPointer_15) else (if x0 = (5 : Int32) then (f_X9_isPointer_15) else (some (0 : Int32))))
theorem mk_X9_reckonMoved : MkV yX9_reckonMoved RX9 cX9_reckonMoved 18 none 8 := ⟨⟨lk_1502, lk_95, lk_121, (tb_in (i := 1503) (by decide +kernel) (by decide +kernel))⟩, by decide +kernel⟩
theorem mk_X9_reckonRange : MkV yX9_reckonRange RX9 cX9_reckonRange 24 none 3 := ⟨⟨lk_1491, lk_93, lk_121, (tb_in (i := 1492) (by decide +kernel) (by decide +kernel))⟩, by decide +kernel⟩
theorem mk_X9_isPointer : MkS yX9_isPointer cX9_isPointer 1 (some .boolean) 1 := ⟨⟨lk_1510, lk_121, (tb_in (i := 1511) (by decide +kernel) (by decide +kernel))⟩, by decide +kernel⟩
section
variable {p : Program} {l : Launch} {e : Env} {R : Room} {s : State} {m : MethodId} {args : Array Value} {below : List Frame} {meth : Method} {c : Code} {H : Heap} {locs : List Loc} {G : va_G} {cA : Nat → ClassId} {S : sh} {D : dt} {ad : Nat → Nat} {A : Nat → Prop}
set_option maxHeartbeats 4000000 in
set_option maxRecDepth 100000 in
theorem w_X9_reckonMoved_122 {r : Unit} {D' : dt} (hC : Cx RX9 cX9_reckonMoved 18 none p s m args meth c) (hR : 1 ≤ R.frames ∧ 25 ≤ R.locals) : ∀  (D : dt) (H : Heap) (locs : List Loc) (ls : Array Slot), Wd G cA S D ad A s H locs → lv_has ls 18 [] → f_X9_reckonMoved_122 S D = some (r, D') → W p l e R s m args below meth c H locs 0 0 (MQ below (Qn none True (wpost G cA S D' ad A) A) args s 0 0 A) (F0 m 122 ls []) := by
  obtain ⟨hx, hb, -⟩ := id hC
  intro D H locs ls  hw hl h
  unfold f_X9_reckonMoved_122 at h
  refine lv_goto (tgt := 254) hx hb dX9_reckonMoved_122 (by decide) ?_
  cases h
  exact r_vret hC hw dX9_reckonMoved_254
set_option maxHeartbeats 4000000 in
set_option maxRecDepth 100000 in
theorem w_X9_reckonMoved_109 {r : Unit} {D' : dt} (hC : Cx RX9 cX9_reckonMoved 18 none p s m args meth c) (hR : 1 ≤ R.frames ∧ 25 ≤ R.locals) : ∀ (o0 a0 : Nat) (x4 : Int64) (x12 : Int32) (x13 : Int32) (x16 : Int64) (D : dt) (H : Heap) (locs : List Loc) (ls : Array Slot), Is S ad o0 a0 8 → Wd G cA S D ad A s H locs → lv_has ls 18 [(0, .ref a0), (4, .long x4), (12, .int x12), (13, .int x13), (16, .long x16)] → f_X9_reckonMoved_109 S o0 x4 x12 x13 x16 D = some (r, D') → W p l e R s m args below meth c H locs 0 0 (MQ below (Qn none True (wpost G cA S D' ad A) A) args s 0 0 A) (F0 m 109 ls []) := by
  obtain ⟨hx, hb, -⟩ := id hC
  intro o0 a0 x4 x12 x13 x16 D H locs ls hi0 hw hl h
  unfold f_X9_reckonMoved_109 at h
  refine lv_aload_n hx hb dX9_reckonMoved_109 rfl (lv_at hl 0 rfl) ?_
  refine lv_iload hx hb dX9_reckonMoved_110 (lv_at hl 3 rfl) ?_
  refine lv_lload hx hb dX9_reckonMoved_112 (lv_at hl 1 rfl) ?_
  refine lv_iload hx hb dX9_reckonMoved_114 (lv_at hl 2 rfl) ?_
  refine lv_lshl (v := j_lshl x4 x12) hx hb dX9_reckonMoved_116 rfl ?_
  refine lv_lload hx hb dX9_reckonMoved_117 (lv_at hl 4 rfl) ?_
  obtain ⟨_, D60, hq59, h⟩ := cq_i h
  refine r_cV (st' := []) [.int x13, .long (j_lshl x4 x12), .long x16] [] hC hw kc_8 hi0 (k_X9_number _ hi0 hq59) mk_X9_number lk_1493 ⟨Nat.le_trans (by decide) hR.1, Nat.le_trans (by decide) hR.2⟩ ⟨Nat.zero_le _, Nat.zero_le _⟩ rfl hl.1 rfl rfl (Nat.le_of_ble_eq_true rfl) dX9_reckonMoved_119 (fun hP H locs hw => ?_)
  exact w_X9_reckonMoved_122 hC hR _ _ _ _ hw (lv_sub hl [] rfl) h
set_option maxHeartbeats 4000000 in
set_option maxRecDepth 100000 in
theorem w_X9_reckonMoved_205 {r : Unit} {D' : dt} (hC : Cx RX9 cX9_reckonMoved 18 none p s m args meth c) (hR : 1 ≤ R.frames ∧ 25 ≤ R.locals) : ∀ (os0 as0 : Nat) (xs1 : Int32) (xs2 : Int64) (xs3 : Int64) (D : dt) (H : Heap) (locs : List Loc) (ls : Array Slot), Is S ad os0 as0 8 → Wd G cA S D ad A s H locs → lv_has ls 18 [] → f_X9_reckonMoved_205 S os0 xs1 xs2 xs3 D = some (r, D') → W p l e R s m args below meth c H locs 0 0 (MQ below (Qn none True (wpost G cA S D' ad A) A) args s 0 0 A) (F0 m 205 ls [.long xs3, .long xs2, .int xs1, .ref as0]) := by
  obtain ⟨hx, hb, -⟩ := id hC
  intro os0 as0 xs1 xs2 xs3 D H locs ls his0 hw hl h
  unfold f_X9_reckonMoved_205 at h
  obtain ⟨_, D62, hq61, h⟩ := cq_i h
  refine r_cV (st' := []) [.int xs1, .long xs2, .long xs3] [] hC hw kc_8 his0 (k_X9_number _ his0 hq61) mk_X9_number lk_1493 ⟨Nat.le_trans (by decide) hR.1, Nat.le_trans (by decide) hR.2⟩ ⟨Nat.zero_le _, Nat.zero_le _⟩ rfl hl.1 rfl rfl (Nat.le_of_ble_eq_true rfl) dX9_reckonMoved_205 (fun hP H locs hw => ?_)
  refine lv_goto (tgt := 254) hx hb dX9_reckonMoved_208 (by decide) ?_
  cases h
  exact r_vret hC hw dX9_reckonMoved_254
set_option maxHeartbeats 4000000 in
set_option maxRecDepth 100000 in
theorem w_X9_reckonMoved_162 {r : Unit} {D' : dt} (hC : Cx RX9 cX9_reckonMoved 18 none p s m args meth c) (hR : 1 ≤ R.frames ∧ 25 ≤ R.locals) : ∀ (os0 as0 : Nat) (xs1 : Int32) (xs2 : Int64) (xs3 : Int64) (D : dt) (H : Heap) (locs : List Loc) (ls : Array Slot), Is S ad os0 as0 8 → Wd G cA S D ad A s H locs → lv_has ls 18 [] → f_X9_reckonMoved_162 S os0 xs1 xs2 xs3 D = some (r, D') → W p l e R s m args below meth c H locs 0 0 (MQ below (Qn none True (wpost G cA S D' ad A) A) args s 0 0 A) (F0 m 162 ls [.long xs3, .long xs2, .int xs1, .ref as0]) := by
  obtain ⟨hx, hb, -⟩ := id hC
  intro os0 as0 xs1 xs2 xs3 D H locs ls his0 hw hl h
  unfold f_X9_reckonMoved_162 at h
  obtain ⟨_, D64, hq63, h⟩ := cq_i h
  refine r_cV (st' := []) [.int xs1, .long xs2, .long xs3] [] hC hw kc_8 his0 (k_X9_number _ his0 hq63) mk_X9_number lk_1493 ⟨Nat.le_trans (by decide) hR.1, Nat.le_trans (by decide) hR.2⟩ ⟨Nat.zero_le _, Nat.zero_le _⟩ rfl hl.1 rfl rfl (Nat.le_of_ble_eq_true rfl) dX9_reckonMoved_162 (fun hP H locs hw => ?_)
  refine lv_goto (tgt := 254) hx hb dX9_reckonMoved_165 (by decide) ?_
  cases h
  exact r_vret hC hw dX9_reckonMoved_254
set_option maxHeartbeats 4000000 in
set_option maxRecDepth 100000 in
theorem w_X9_reckonMoved_147 {r : Unit} {D' : dt} (hC : Cx RX9 cX9_reckonMoved 18 none p s m args meth c) (hR : 1 ≤ R.frames ∧ 25 ≤ R.locals) : ∀ (x6 : Int64) (x12 : Int32) (x14 : Int32) (os0 as0 : Nat) (xs1 : Int32) (xs2 : Int64) (D : dt) (H : Heap) (locs : List Loc) (ls : Array Slot), Is S ad os0 as0 8 → Wd G cA S D ad A s H locs → lv_has ls 18 [(6, .long x6), (12, .int x12), (14, .int x14)] → f_X9_reckonMoved_147 S x6 x12 x14 os0 xs1 xs2 D = some (r, D') → W p l e R s m args below meth c H locs 0 0 (MQ below (Qn none True (wpost G cA S D' ad A) A) args s 0 0 A) (F0 m 147 ls [.long xs2, .int xs1, .ref as0]) := by
  obtain ⟨hx, hb, -⟩ := id hC
  intro x6 x12 x14 os0 as0 xs1 xs2 D H locs ls his0 hw hl h
  unfold f_X9_reckonMoved_147 at h
  refine lv_iload hx hb dX9_reckonMoved_147 (lv_at hl 2 rfl) ?_
  refine lv_if_eq (tgt := 160) hx hb dX9_reckonMoved_149 (by decide) (fun c65 => ?_) (fun c65 => ?_)
  · have h := i_yes c65 h
    refine lv_lload hx hb dX9_reckonMoved_160 (lv_at hl 0 rfl) ?_
    exact w_X9_reckonMoved_162 hC hR os0 as0 xs1 xs2 x6 _ _ _ _ his0 hw (lv_sub hl [] rfl) h
  · have h := i_no c65 h
    refine lv_lload hx hb dX9_reckonMoved_152 (lv_at hl 0 rfl) ?_
    refine lv_iload hx hb dX9_reckonMoved_154 (lv_at hl 1 rfl) ?_
    refine lv_lushr (v := j_lushr x6 x12) hx hb dX9_reckonMoved_156 rfl ?_
    refine lv_goto (tgt := 162) hx hb dX9_reckonMoved_157 (by decide) ?_
    exact w_X9_reckonMoved_162 hC hR os0 as0 xs1 xs2 (j_lushr x6 x12) _ _ _ _ his0 hw (lv_sub hl [] rfl) h
set_option maxHeartbeats 4000000 in
set_option maxRecDepth 100000 in
theorem w_X9_reckonMoved_244 {r : Unit} {D' : dt} (hC : Cx RX9 cX9_reckonMoved 18 none p s m args meth c) (hR : 1 ≤ R.frames ∧ 25 ≤ R.locals) : ∀ (o0 a0 : Nat) (x8 : Int64) (x10 : Int64) (x13 : Int32) (D : dt) (H : Heap) (locs : List Loc) (ls : Array Slot), Is S ad o0 a0 8 → Wd G cA S D ad A s H locs → lv_has ls 18 [(0, .ref a0), (8, .long x8), (10, .long x10), (13, .int x13)] → f_X9_reckonMoved_244 S o0 x8 x10 x13 D = some (r, D') → W p l e R s m args below meth c H locs 0 0 (MQ below (Qn none True (wpost G cA S D' ad A) A) args s 0 0 A) (F0 m 244 ls []) := by
  obtain ⟨hx, hb, -⟩ := id hC
  intro o0 a0 x8 x10 x13 D H locs ls hi0 hw hl h
  unfold f_X9_reckonMoved_244 at h
  refine lv_aload_n hx hb dX9_reckonMoved_244 rfl (lv_at hl 0 rfl) ?_
  refine lv_iload hx hb dX9_reckonMoved_245 (lv_at hl 3 rfl) ?_
  refine lv_lload hx hb dX9_reckonMoved_247 (lv_at hl 1 rfl) ?_
  refine lv_lload hx hb dX9_reckonMoved_249 (lv_at hl 2 rfl) ?_
  obtain ⟨_, D67, hq66, h⟩ := cq_i h
  refine r_cV (st' := []) [.int x13, .long x8, .long x10] [] hC hw kc_8 hi0 (k_X9_number _ hi0 hq66) mk_X9_number lk_1493 ⟨Nat.le_trans (by decide) hR.1, Nat.le_trans (by decide) hR.2⟩ ⟨Nat.zero_le _, Nat.zero_le _⟩ rfl hl.1 rfl rfl (Nat.le_of_ble_eq_true rfl) dX9_reckonMoved_251 (fun hP H locs hw => ?_)
  cases h
  exact r_vret hC hw dX9_reckonMoved_254
set_option maxHeartbeats 4000000 in
set_option maxRecDepth 100000 in
theorem w_X9_reckonMoved_63 {r : Unit} {D' : dt} (hC : Cx RX9 cX9_reckonMoved 18 none p s m args meth c) (hR : 1 ≤ R.frames ∧ 25 ≤ R.locals) : ∀ (o0 a0 : Nat) (x1 : Int32) (x2 : Int32) (x3 : Int32) (x4 : Int64) (x6 : Int64) (x8 : Int64) (x10 : Int64) (x12 : Int32) (x13 : Int32) (x14 : Int32) (xs0 : Int32) (D : dt) (H : Heap) (locs : List Loc) (ls : Array Slot), Is S ad o0 a0 8 → Wd G cA S D ad A s H locs → lv_has ls 18 [(0, .ref a0), (1, .int x1), (2, .int x2), (3, .int x3), (4, .long x4), (6, .long x6), (8, .long x8), (10, .long x10), (12, .int x12), (13, .int x13), (14, .int x14)] → f_X9_reckonMoved_63 S o0 x1 x2 x3 x4 x6 x8 x10 x12 x13 x14 xs0 D = some (r, D') → W p l e R s m args below meth c H locs 0 0 (MQ below (Qn none True (wpost G cA S D' ad A) A) args s 0 0 A) (F0 m 63 ls [.int xs0]) := by
  obtain ⟨hx, hb, -⟩ := id hC
  intro o0 a0 x1 x2 x3 x4 x6 x8 x10 x12 x13 x14 xs0 D H locs ls hi0 hw hl h
  unfold f_X9_reckonMoved_63 at h
  refine lv_istore (lv' := [(15, .int xs0), (0, .ref a0), (1, .int x1), (2, .int x2), (3, .int x3), (4, .long x4), (6, .long x6), (8, .long x8), (10, .long x10), (12, .int x12), (13, .int x13), (14, .int x14)]) hx hb dX9_reckonMoved_63 hl (by decide) rfl (fun ls hl => ?_)
  refine lv_iload_n hx hb dX9_reckonMoved_65 rfl (lv_at hl 3 rfl) ?_
  refine lv_bipush (v := 6) hx hb dX9_reckonMoved_66 (by decide) ?_
  refine lv_icmp_ne (tgt := 125) hx hb dX9_reckonMoved_68 (by decide) (fun c68 => ?_) (fun c68 => ?_)
  · have h := i_no c68 h
    refine lv_iload hx hb dX9_reckonMoved_125 (lv_at hl 0 rfl) ?_
    refine lv_if_eq (tgt := 168) hx hb dX9_reckonMoved_127 (by decide) (fun c69 => ?_) (fun c69 => ?_)
    · have h := i_yes c69 h
      refine lv_iload_n hx hb dX9_reckonMoved_168 rfl (lv_at hl 3 rfl) ?_
      refine lv_bipush (v := 13) hx hb dX9_reckonMoved_169 (by decide) ?_
      refine lv_icmp_ne (tgt := 211) hx hb dX9_reckonMoved_171 (by decide) (fun c70 => ?_) (fun c70 => ?_)
      · have h := i_no c70 h
        refine lv_iload_n hx hb dX9_reckonMoved_211 rfl (lv_at hl 3 rfl) ?_
        refine lv_bipush (v := 11) hx hb dX9_reckonMoved_212 (by decide) ?_
        refine lv_icmp_ne (tgt := 254) hx hb dX9_reckonMoved_214 (by decide) (fun c71 => ?_) (fun c71 => ?_)
        · have h := i_no c71 h
          cases h
          exact r_vret hC hw dX9_reckonMoved_254
        · have h := i_yes c71 h
          refine lv_aload_n hx hb dX9_reckonMoved_217 rfl (lv_at hl 1 rfl) ?_
          obtain ⟨o72, ho75, h⟩ := rq_i h
          refine r_getR hC hw kc_8 hi0 4 rfl lk_1073 dX9_reckonMoved_218 rfl ho75 (fun a73 hi74 => ?_)
          refine lv_iload_n hx hb dX9_reckonMoved_221 rfl (lv_at hl 2 rfl) ?_
          obtain ⟨hn76, h⟩ := ix_i h
          refine r_iald hC hw hi74 hn76 dX9_reckonMoved_222 ?_
          refine lv_if_eq (tgt := 244) hx hb dX9_reckonMoved_223 (by decide) (fun c77 => ?_) (fun c77 => ?_)
          · have h := i_yes c77 h
            exact w_X9_reckonMoved_244 hC hR o0 a0 x8 x10 x13 _ _ _ _ hi0 hw (lv_sub hl [1, 7, 8, 10] rfl) h
          · have h := i_no c77 h
            refine lv_lload hx hb dX9_reckonMoved_226 (lv_at hl 8 rfl) ?_
            refine lv_lconst (v := 1) hx hb dX9_reckonMoved_228 (by decide) ?_
            refine lv_aload_n hx hb dX9_reckonMoved_229 rfl (lv_at hl 1 rfl) ?_
            obtain ⟨o78, ho81, h⟩ := rq_i h
            refine r_getR hC hw kc_8 hi0 4 rfl lk_1073 dX9_reckonMoved_230 rfl ho81 (fun a79 hi80 => ?_)
            refine lv_iload_n hx hb dX9_reckonMoved_233 rfl (lv_at hl 2 rfl) ?_
            obtain ⟨hn82, h⟩ := ix_i h
            refine r_iald hC hw hi80 hn82 dX9_reckonMoved_234 ?_
            refine lv_iconst (v := 1) hx hb dX9_reckonMoved_235 (by decide) ?_
            refine lv_isub hx hb dX9_reckonMoved_236 ?_
            refine lv_lshl (v := j_lshl (1 : Int64) ((gI D o78 x1.toNatClampNeg) - (1 : Int32))) hx hb dX9_reckonMoved_237 rfl ?_
            obtain ⟨r84, hq83, h⟩ := pq_i h
            refine r_cS (st' := [.int r84]) [.long x10, .long (j_lshl (1 : Int64) ((gI D o78 x1.toNatClampNeg) - (1 : Int32)))] [] hC hw (k_X9_isBelow _ hq83) mk_X9_isBelow lk_1355 ⟨Nat.le_trans (by decide) hR.1, Nat.le_trans (by decide) hR.2⟩ ⟨Nat.zero_le _, Nat.zero_le _⟩ rfl hl.1 rfl rfl (Nat.le_of_ble_eq_true rfl) dX9_reckonMoved_238 (fun hP H locs hw => ?_)
            refine lv_if_eq (tgt := 254) hx hb dX9_reckonMoved_241 (by decide) (fun c85 => ?_) (fun c85 => ?_)
            · have h := i_yes c85 h
              cases h
              exact r_vret hC hw dX9_reckonMoved_254
            · have h := i_no c85 h
              exact w_X9_reckonMoved_244 hC hR o0 a0 x8 x10 x13 _ _ _ _ hi0 hw (lv_sub hl [1, 7, 8, 10] rfl) h
      · have h := i_yes c70 h
        refine lv_aload_n hx hb dX9_reckonMoved_174 rfl (lv_at hl 1 rfl) ?_
        refine lv_iload hx hb dX9_reckonMoved_175 (lv_at hl 10 rfl) ?_
        refine lv_lconst (v := 0) hx hb dX9_reckonMoved_177 (by decide) ?_
        refine lv_aload_n hx hb dX9_reckonMoved_178 rfl (lv_at hl 1 rfl) ?_
        obtain ⟨o86, ho89, h⟩ := rq_i h
        refine r_getR hC hw kc_8 hi0 5 rfl lk_1074 dX9_reckonMoved_179 rfl ho89 (fun a87 hi88 => ?_)
        refine lv_iload_n hx hb dX9_reckonMoved_182 rfl (lv_at hl 2 rfl) ?_
        obtain ⟨hn90, h⟩ := ix_i h
        refine r_iald hC hw hi88 hn90 dX9_reckonMoved_183 ?_
        refine lv_bipush (v := 64) hx hb dX9_reckonMoved_184 (by decide) ?_
        refine lv_icmp_ne (tgt := 195) hx hb dX9_reckonMoved_186 (by decide) (fun c91 => ?_) (fun c91 => ?_)
        · have h := i_no c91 h
          refine lv_lconst (v := 1) hx hb dX9_reckonMoved_195 (by decide) ?_
          refine lv_aload_n hx hb dX9_reckonMoved_196 rfl (lv_at hl 1 rfl) ?_
          obtain ⟨o92, ho95, h⟩ := rq_i h
          refine r_getR hC hw kc_8 hi0 5 rfl lk_1074 dX9_reckonMoved_197 rfl ho95 (fun a93 hi94 => ?_)
          refine lv_iload_n hx hb dX9_reckonMoved_200 rfl (lv_at hl 2 rfl) ?_
          obtain ⟨hn96, h⟩ := ix_i h
          refine r_iald hC hw hi94 hn96 dX9_reckonMoved_201 ?_
          refine lv_lshl (v := j_lshl (1 : Int64) (gI D o92 x1.toNatClampNeg)) hx hb dX9_reckonMoved_202 rfl ?_
          refine lv_lconst (v := 1) hx hb dX9_reckonMoved_203 (by decide) ?_
          refine lv_lsub hx hb dX9_reckonMoved_204 ?_
          exact w_X9_reckonMoved_205 hC hR o0 a0 x13 (0 : Int64) ((j_lshl (1 : Int64) (gI D o92 x1.toNatClampNeg)) - (1 : Int64)) _ _ _ _ hi0 hw (lv_sub hl [] rfl) h
        · have h := i_yes c91 h
          refine lv_ldc2 (v := (-1)) hx hb hC.2.2.2.1 (hC.2.2.2.2.1 _ lk_1362) dX9_reckonMoved_189 ?_
          refine lv_goto (tgt := 205) hx hb dX9_reckonMoved_192 (by decide) ?_
          exact w_X9_reckonMoved_205 hC hR o0 a0 x13 (0 : Int64) (-1 : Int64) _ _ _ _ hi0 hw (lv_sub hl [] rfl) h
    · have h := i_no c69 h
      refine lv_aload_n hx hb dX9_reckonMoved_130 rfl (lv_at hl 1 rfl) ?_
      refine lv_iload hx hb dX9_reckonMoved_131 (lv_at hl 10 rfl) ?_
      refine lv_iload hx hb dX9_reckonMoved_133 (lv_at hl 11 rfl) ?_
      refine lv_if_eq (tgt := 146) hx hb dX9_reckonMoved_135 (by decide) (fun c97 => ?_) (fun c97 => ?_)
      · have h := i_yes c97 h
        refine lv_lconst (v := 0) hx hb dX9_reckonMoved_146 (by decide) ?_
        exact w_X9_reckonMoved_147 hC hR x6 x12 x14 o0 a0 x13 (0 : Int64) _ _ _ _ hi0 hw (lv_sub hl [6, 9, 11] rfl) h
      · have h := i_no c97 h
        refine lv_lload hx hb dX9_reckonMoved_138 (lv_at hl 5 rfl) ?_
        refine lv_iload hx hb dX9_reckonMoved_140 (lv_at hl 9 rfl) ?_
        refine lv_lushr (v := j_lushr x4 x12) hx hb dX9_reckonMoved_142 rfl ?_
        refine lv_goto (tgt := 147) hx hb dX9_reckonMoved_143 (by decide) ?_
        exact w_X9_reckonMoved_147 hC hR x6 x12 x14 o0 a0 x13 (j_lushr x4 x12) _ _ _ _ hi0 hw (lv_sub hl [6, 9, 11] rfl) h
  · have h := i_yes c68 h
    refine lv_lload hx hb dX9_reckonMoved_71 (lv_at hl 6 rfl) ?_
    refine lv_iload hx hb dX9_reckonMoved_73 (lv_at hl 9 rfl) ?_
    refine lv_lshl (v := j_lshl x6 x12) hx hb dX9_reckonMoved_75 rfl ?_
    refine lv_topl (fun y98 ey98 => ?_)
    have h := nm_i h y98 ey98
    refine lv_lstore (lv' := [(16, .long y98), (15, .int xs0), (0, .ref a0), (1, .int x1), (2, .int x2), (3, .int x3), (4, .long x4), (6, .long x6), (8, .long x8), (10, .long x10), (12, .int x12), (13, .int x13), (14, .int x14)]) hx hb dX9_reckonMoved_76 hl (by decide) rfl (fun ls hl => ?_)
    refine lv_iload hx hb dX9_reckonMoved_78 (lv_at hl 12 rfl) ?_
    refine lv_if_eq (tgt := 122) hx hb dX9_reckonMoved_80 (by decide) (fun c99 => ?_) (fun c99 => ?_)
    · have h := i_yes c99 h
      exact w_X9_reckonMoved_122 hC hR _ _ _ _ hw (lv_sub hl [] rfl) h
    · have h := i_no c99 h
      refine lv_lload hx hb dX9_reckonMoved_83 (lv_at hl 0 rfl) ?_
      refine lv_iload hx hb dX9_reckonMoved_85 (lv_at hl 10 rfl) ?_
      refine lv_lushr (v := j_lushr y98 x12) hx hb dX9_reckonMoved_87 rfl ?_
      refine lv_lload hx hb dX9_reckonMoved_88 (lv_at hl 7 rfl) ?_
      refine W.lcmp hx hb dX9_reckonMoved_90 ?_
      refine lv_if_ne (tgt := 122) hx hb dX9_reckonMoved_91 (by decide) (fun c100 => ?_) (fun c100 => ?_)
      · have h := i_no c100 h
        exact w_X9_reckonMoved_122 hC hR _ _ _ _ hw (lv_sub hl [] rfl) h
      · have h := i_yes c100 h
        refine lv_iload_n hx hb dX9_reckonMoved_94 rfl (lv_at hl 5 rfl) ?_
        refine lv_if_ne (tgt := 109) hx hb dX9_reckonMoved_95 (by decide) (fun c101 => ?_) (fun c101 => ?_)
        · have h := i_no c101 h
          exact w_X9_reckonMoved_109 hC hR o0 a0 x4 x12 x13 y98 _ _ _ _ hi0 hw (lv_sub hl [2, 6, 10, 11, 0] rfl) h
        · have h := i_yes c101 h
          refine lv_ldc2 (v := 4294967295) hx hb hC.2.2.2.1 (hC.2.2.2.2.1 _ lk_1344) dX9_reckonMoved_98 ?_
          refine lv_lload hx hb dX9_reckonMoved_101 (lv_at hl 0 rfl) ?_
          obtain ⟨r103, hq102, h⟩ := pq_i h
          refine r_cS (st' := [.int r103]) [.long (4294967295 : Int64), .long y98] [] hC hw (k_X9_isBelow _ hq102) mk_X9_isBelow lk_1355 ⟨Nat.le_trans (by decide) hR.1, Nat.le_trans (by decide) hR.2⟩ ⟨Nat.zero_le _, Nat.zero_le _⟩ rfl hl.1 rfl rfl (Nat.le_of_ble_eq_true rfl) dX9_reckonMoved_103 (fun hP H locs hw => ?_)
          refine lv_if_ne (tgt := 122) hx hb dX9_reckonMoved_106 (by decide) (fun c104 => ?_) (fun c104 => ?_)
          · have h := i_no c104 h
            exact w_X9_reckonMoved_122 hC hR _ _ _ _ hw (lv_sub hl [] rfl) h
          · have h := i_yes c104 h
            exact w_X9_reckonMoved_109 hC hR o0 a0 x4 x12 x13 y98 _ _ _ _ hi0 hw (lv_sub hl [2, 6, 10, 11, 0] rfl) h
set_option maxHeartbeats 4000000 in
set_option maxRecDepth 100000 in
theorem w_X9_reckonMoved_58 {r : Unit} {D' : dt} (hC : Cx RX9 cX9_reckonMoved 18 none p s m args meth c) (hR : 1 ≤ R.frames ∧ 25 ≤ R.locals) : ∀ (o0 a0 : Nat) (x1 : Int32) (x2 : Int32) (x3 : Int32) (x4 : Int64) (x6 : Int64) (x8 : Int64) (x10 : Int64) (x12 : Int32) (x13 : Int32) (x14 : Int32) (D : dt) (H : Heap) (locs : List Loc) (ls : Array Slot), Is S ad o0 a0 8 → Wd G cA S D ad A s H locs → lv_has ls 18 [(0, .ref a0), (1, .int x1), (2, .int x2), (3, .int x3), (4, .long x4), (6, .long x6), (8, .long x8), (10, .long x10), (12, .int x12), (13, .int x13), (14, .int x14)] → f_X9_reckonMoved_58 S o0 x1 x2 x3 x4 x6 x8 x10 x12 x13 x14 D = some (r, D') → W p l e R s m args below meth c H locs 0 0 (MQ below (Qn none True (wpost G cA S D' ad A) A) args s 0 0 A) (F0 m 58 ls []) := by
  obtain ⟨hx, hb, -⟩ := id hC
  intro o0 a0 x1 x2 x3 x4 x6 x8 x10 x12 x13 x14 D H locs ls hi0 hw hl h
  unfold f_X9_reckonMoved_58 at h
  refine lv_iconst (v := 1) hx hb dX9_reckonMoved_58 (by decide) ?_
  refine lv_goto (tgt := 63) hx hb dX9_reckonMoved_59 (by decide) ?_
  exact w_X9_reckonMoved_63 hC hR o0 a0 x1 x2 x3 x4 x6 x8 x10 x12 x13 x14 (1 : Int32) _ _ _ _ hi0 hw (lv_sub hl [0, 1, 2, 3, 4, 5, 6, 7, 8, 9, 10] rfl) h
set_option maxHeartbeats 4000000 in
set_option maxRecDepth 100000 in
theorem w_X9_reckonMoved_62 {r : Unit} {D' : dt} (hC : Cx RX9 cX9_reckonMoved 18 none p s m args meth c) (hR : 1 ≤ R.frames ∧ 25 ≤ R.locals) : ∀ (o0 a0 : Nat) (x1 : Int32) (x2 : Int32) (x3 : Int32) (x4 : Int64) (x6 : Int64) (x8 : Int64) (x10 : Int64) (x12 : Int32) (x13 : Int32) (x14 : Int32) (D : dt) (H : Heap) (locs : List Loc) (ls : Array Slot), Is S ad o0 a0 8 → Wd G cA S D ad A s H locs → lv_has ls 18 [(0, .ref a0), (1, .int x1), (2, .int x2), (3, .int x3), (4, .long x4), (6, .long x6), (8, .long x8), (10, .long x10), (12, .int x12), (13, .int x13), (14, .int x14)] → f_X9_reckonMoved_62 S o0 x1 x2 x3 x4 x6 x8 x10 x12 x13 x14 D = some (r, D') → W p l e R s m args below meth c H locs 0 0 (MQ below (Qn none True (wpost G cA S D' ad A) A) args s 0 0 A) (F0 m 62 ls []) := by
  obtain ⟨hx, hb, -⟩ := id hC
  intro o0 a0 x1 x2 x3 x4 x6 x8 x10 x12 x13 x14 D H locs ls hi0 hw hl h
  unfold f_X9_reckonMoved_62 at h
  refine lv_iconst (v := 0) hx hb dX9_reckonMoved_62 (by decide) ?_
  exact w_X9_reckonMoved_63 hC hR o0 a0 x1 x2 x3 x4 x6 x8 x10 x12 x13 x14 (0 : Int32) _ _ _ _ hi0 hw (lv_sub hl [0, 1, 2, 3, 4, 5, 6, 7, 8, 9, 10] rfl) h
set_option maxHeartbeats 4000000 in
set_option maxRecDepth 100000 in
theorem w_X9_reckonMoved_21 {r : Unit} {D' : dt} (hC : Cx RX9 cX9_reckonMoved 18 none p s m args meth c) (hR : 1 ≤ R.frames ∧ 25 ≤ R.locals) : ∀ (o0 a0 : Nat) (x1 : Int32) (x2 : Int32) (x3 : Int32) (x4 : Int64) (x6 : Int64) (x8 : Int64) (x10 : Int64) (x12 : Int32) (x13 : Int32) (xs0 : Int32) (D : dt) (H : Heap) (locs : List Loc) (ls : Array Slot), Is S ad o0 a0 8 → Wd G cA S D ad A s H locs → lv_has ls 18 [(0, .ref a0), (1, .int x1), (2, .int x2), (3, .int x3), (4, .long x4), (6, .long x6), (8, .long x8), (10, .long x10), (12, .int x12), (13, .int x13)] → f_X9_reckonMoved_21 S o0 x1 x2 x3 x4 x6 x8 x10 x12 x13 xs0 D = some (r, D') → W p l e R s m args below meth c H locs 0 0 (MQ below (Qn none True (wpost G cA S D' ad A) A) args s 0 0 A) (F0 m 21 ls [.int xs0]) := by
  obtain ⟨hx, hb, -⟩ := id hC
  intro o0 a0 x1 x2 x3 x4 x6 x8 x10 x12 x13 xs0 D H locs ls hi0 hw hl h
  unfold f_X9_reckonMoved_21 at h
  refine lv_istore (lv' := [(14, .int xs0), (0, .ref a0), (1, .int x1), (2, .int x2), (3, .int x3), (4, .long x4), (6, .long x6), (8, .long x8), (10, .long x10), (12, .int x12), (13, .int x13)]) hx hb dX9_reckonMoved_21 hl (by decide) rfl (fun ls hl => ?_)
  refine lv_iload_n hx hb dX9_reckonMoved_23 rfl (lv_at hl 3 rfl) ?_
  refine lv_bipush (v := 7) hx hb dX9_reckonMoved_24 (by decide) ?_
  refine lv_icmp_eq (tgt := 58) hx hb dX9_reckonMoved_26 (by decide) (fun c105 => ?_) (fun c105 => ?_)
  · have h := i_yes c105 h
    exact w_X9_reckonMoved_58 hC hR o0 a0 x1 x2 x3 x4 x6 x8 x10 x12 x13 xs0 _ _ _ _ hi0 hw (lv_sub hl [1, 2, 3, 4, 5, 6, 7, 8, 9, 10, 0] rfl) h
  · have h := i_no c105 h
    refine lv_iload_n hx hb dX9_reckonMoved_29 rfl (lv_at hl 3 rfl) ?_
    refine lv_bipush (v := 12) hx hb dX9_reckonMoved_30 (by decide) ?_
    refine lv_icmp_ne (tgt := 62) hx hb dX9_reckonMoved_32 (by decide) (fun c106 => ?_) (fun c106 => ?_)
    · have h := i_no c106 h
      exact w_X9_reckonMoved_62 hC hR o0 a0 x1 x2 x3 x4 x6 x8 x10 x12 x13 xs0 _ _ _ _ hi0 hw (lv_sub hl [1, 2, 3, 4, 5, 6, 7, 8, 9, 10, 0] rfl) h
    · have h := i_yes c106 h
      refine lv_iload_n hx hb dX9_reckonMoved_35 rfl (lv_at hl 4 rfl) ?_
      refine lv_if_eq (tgt := 49) hx hb dX9_reckonMoved_36 (by decide) (fun c107 => ?_) (fun c107 => ?_)
      · have h := i_yes c107 h
        refine lv_lload hx hb dX9_reckonMoved_49 (lv_at hl 6 rfl) ?_
        refine lv_ldc2 (v := 2147483648) hx hb hC.2.2.2.1 (hC.2.2.2.2.1 _ lk_1504) dX9_reckonMoved_51 ?_
        refine W.lcmp hx hb dX9_reckonMoved_54 ?_
        refine lv_if_ge (tgt := 62) hx hb dX9_reckonMoved_55 (by decide) (fun c108 => ?_) (fun c108 => ?_)
        · have h := i_yes c108 h
          exact w_X9_reckonMoved_62 hC hR o0 a0 x1 x2 x3 x4 x6 x8 x10 x12 x13 xs0 _ _ _ _ hi0 hw (lv_sub hl [1, 2, 3, 4, 5, 6, 7, 8, 9, 10, 0] rfl) h
        · have h := i_no c108 h
          exact w_X9_reckonMoved_58 hC hR o0 a0 x1 x2 x3 x4 x6 x8 x10 x12 x13 xs0 _ _ _ _ hi0 hw (lv_sub hl [1, 2, 3, 4, 5, 6, 7, 8, 9, 10, 0] rfl) h
      · have h := i_no c107 h
        refine lv_lload hx hb dX9_reckonMoved_39 (lv_at hl 6 rfl) ?_
        refine lv_lconst (v := 0) hx hb dX9_reckonMoved_41 (by decide) ?_
        refine W.lcmp hx hb dX9_reckonMoved_42 ?_
        refine lv_if_lt (tgt := 62) hx hb dX9_reckonMoved_43 (by decide) (fun c109 => ?_) (fun c109 => ?_)
        · have h := i_yes c109 h
          exact w_X9_reckonMoved_62 hC hR o0 a0 x1 x2 x3 x4 x6 x8 x10 x12 x13 xs0 _ _ _ _ hi0 hw (lv_sub hl [1, 2, 3, 4, 5, 6, 7, 8, 9, 10, 0] rfl) h
        · have h := i_no c109 h
          refine lv_goto (tgt := 58) hx hb dX9_reckonMoved_46 (by decide) ?_
          exact w_X9_reckonMoved_58 hC hR o0 a0 x1 x2 x3 x4 x6 x8 x10 x12 x13 xs0 _ _ _ _ hi0 hw (lv_sub hl [1, 2, 3, 4, 5, 6, 7, 8, 9, 10, 0] rfl) h
set_option maxHeartbeats 4000000 in
set_option maxRecDepth 100000 in
theorem w_X9_reckonMoved_0 {r : Unit} {D' : dt} (hC : Cx RX9 cX9_reckonMoved 18 none p s m args meth c) (hR : 1 ≤ R.frames ∧ 25 ≤ R.locals) : ∀ (o0 a0 : Nat) (x1 : Int32) (x2 : Int32) (x3 : Int32) (x4 : Int64) (x6 : Int64) (x8 : Int64) (x10 : Int64) (x12 : Int32) (D : dt) (H : Heap) (locs : List Loc) (ls : Array Slot), Is S ad o0 a0 8 → Wd G cA S D ad A s H locs → lv_has ls 18 [(0, .ref a0), (1, .int x1), (2, .int x2), (3, .int x3), (4, .long x4), (6, .long x6), (8, .long x8), (10, .long x10), (12, .int x12)] → f_X9_reckonMoved S o0 x1 x2 x3 x4 x6 x8 x10 x12 D = some (r, D') → W p l e R s m args below meth c H locs 0 0 (MQ below (Qn none True (wpost G cA S D' ad A) A) args s 0 0 A) (F0 m 0 ls []) := by
  obtain ⟨hx, hb, -⟩ := id hC
  intro o0 a0 x1 x2 x3 x4 x6 x8 x10 x12 D H locs ls hi0 hw hl h
  unfold f_X9_reckonMoved at h
  refine lv_aload_n hx hb dX9_reckonMoved_0 rfl (lv_at hl 0 rfl) ?_
  obtain ⟨o110, ho113, h⟩ := rq_i h
  refine r_getR hC hw kc_8 hi0 2 rfl lk_1071 dX9_reckonMoved_1 rfl ho113 (fun a111 hi112 => ?_)
  refine lv_iload_n hx hb dX9_reckonMoved_4 rfl (lv_at hl 1 rfl) ?_
  obtain ⟨hn114, h⟩ := ix_i h
  refine r_iald hC hw hi112 hn114 dX9_reckonMoved_5 ?_
  refine lv_topi (fun y115 ey115 => ?_)
  have h := nm_i h y115 ey115
  refine lv_istore (lv' := [(13, .int y115), (0, .ref a0), (1, .int x1), (2, .int x2), (3, .int x3), (4, .long x4), (6, .long x6), (8, .long x8), (10, .long x10), (12, .int x12)]) hx hb dX9_reckonMoved_6 hl (by decide) rfl (fun ls hl => ?_)
  refine lv_lload hx hb dX9_reckonMoved_8 (lv_at hl 7 rfl) ?_
  refine lv_lload hx hb dX9_reckonMoved_10 (lv_at hl 8 rfl) ?_
  refine W.lcmp hx hb dX9_reckonMoved_12 ?_
  refine lv_if_ne (tgt := 20) hx hb dX9_reckonMoved_13 (by decide) (fun c116 => ?_) (fun c116 => ?_)
  · have h := i_no c116 h
    refine lv_iconst (v := 0) hx hb dX9_reckonMoved_20 (by decide) ?_
    exact w_X9_reckonMoved_21 hC hR o0 a0 x1 x2 x3 x4 x6 x8 x10 x12 y115 (0 : Int32) _ _ _ _ hi0 hw (lv_sub hl [1, 2, 3, 4, 5, 6, 7, 8, 9, 0] rfl) h
  · have h := i_yes c116 h
    refine lv_iconst (v := 1) hx hb dX9_reckonMoved_16 (by decide) ?_
    refine lv_goto (tgt := 21) hx hb dX9_reckonMoved_17 (by decide) ?_
    exact w_X9_reckonMoved_21 hC hR o0 a0 x1 x2 x3 x4 x6 x8 x10 x12 y115 (1 : Int32) _ _ _ _ hi0 hw (lv_sub hl [1, 2, 3, 4, 5, 6, 7, 8, 9, 0] rfl) h
set_option maxHeartbeats 4000000 in
set_option maxRecDepth 100000 in
theorem k_X9_reckonMoved {l : Launch} {G : va_G} {cA : Nat → ClassId} {S : sh} {D D' : dt} {ad : Nat → Nat} (sz : Nat) {o0 a0 : Nat} {x1 : Int32} {x2 : Int32} {x3 : Int32} {x4 : Int64} {x6 : Int64} {x8 : Int64} {x10 : Int64} {x12 : Int32} {r : Unit} (hi0 : Is S ad o0 a0 8) (h : f_X9_reckonMoved S o0 x1 x2 x3 x4 x6 x8 x10 x12 D = some (r, D')) : Co l yX9_reckonMoved (Cond.code yX9_reckonMoved cX9_reckonMoved 18 none :: tb0) 1 25 [.ref a0, .int x1, .int x2, .int x3, .long x4, .long x6, .long x8, .long x10, .int x12] G cA S D ad sz none True D' := by
  refine Met.ofW (cc := cX9_reckonMoved) (maxL := 18) (ret := none) (by decide) rfl ?_
  intro p e s m args below meth c s₁ B hml hv
  obtain ⟨rfl, hsz, hP, hK, hD0, hT, hX⟩ := hv
  subst hsz
  have hts := atoms_spec (ws := Cond.code yX9_reckonMoved cX9_reckonMoved 18 none :: tb0) B.pre
  have hC : Cx RX9 cX9_reckonMoved 18 none p s m _ meth c := ⟨B.exec, B.bytes, hml, findClass_of_methodNamed B.named, fun w q => hts w (List.mem_cons_of_mem _ q), B.returns, B.notSynchronized⟩
  have hw := Wd.entry hP hK hD0 hT hX
  have hl := lv_entry ([.ref a0, .int x1, .int x2, .int x3, .long x4, .long x6, .long x8, .long x10, .int x12]) (n := 18) (Nat.le_of_ble_eq_true rfl)
  rw [lg_entry_eq]
  exact w_X9_reckonMoved_0 hC ⟨Nat.le_refl _, Nat.le_refl _⟩ o0 a0 x1 x2 x3 x4 x6 x8 x10 x12 D _ _ _ hi0 hw hl h
set_option maxHeartbeats 4000000 in
set_option maxRecDepth 100000 in
theorem w_X9_reckonRange_802 {r : Unit} {D' : dt} (hC : Cx RX9 cX9_reckonRange 24 none p s m args meth c) (hR : 5 ≤ R.frames ∧ 139 ≤ R.locals) : ∀ (o0 a0 : Nat) (x1 : Int32) (x2 : Int32) (x3 : Int32) (x5 : Int64) (x7 : Int64) (x9 : Int64) (x11 : Int64) (x20 : Int32) (D : dt) (H : Heap) (locs : List Loc) (ls : Array Slot), Is S ad o0 a0 8 → Wd G cA S D ad A s H locs → lv_has ls 24 [(0, .ref a0), (1, .int x1), (2, .int x2), (3, .int x3), (5, .long x5), (7, .long x7), (9, .long x9), (11, .long x11), (20, .int x20)] → f_X9_reckonRange_802 S o0 x1 x2 x3 x5 x7 x9 x11 x20 D = some (r, D') → W p l e R s m args below meth c H locs 0 0 (MQ below (Qn none True (wpost G cA S D' ad A) A) args s 0 0 A) (F0 m 802 ls []) := by
  obtain ⟨hx, hb, -⟩ := id hC
  intro o0 a0 x1 x2 x3 x5 x7 x9 x11 x20 D H locs ls hi0 hw hl h
  unfold f_X9_reckonRange_802 at h
  refine lv_aload_n hx hb dX9_reckonRange_802 rfl (lv_at hl 0 rfl) ?_
  refine lv_iload_n hx hb dX9_reckonRange_803 rfl (lv_at hl 1 rfl) ?_
  refine lv_iload_n hx hb dX9_reckonRange_804 rfl (lv_at hl 2 rfl) ?_
  refine lv_iload_n hx hb dX9_reckonRange_805 rfl (lv_at hl 3 rfl) ?_
  refine lv_lload hx hb dX9_reckonRange_806 (lv_at hl 4 rfl) ?_
  refine lv_lload hx hb dX9_reckonRange_808 (lv_at hl 5 rfl) ?_
  refine lv_lload hx hb dX9_reckonRange_810 (lv_at hl 6 rfl) ?_
  refine lv_lload hx hb dX9_reckonRange_812 (lv_at hl 7 rfl) ?_
  refine lv_iload hx hb dX9_reckonRange_814 (lv_at hl 8 rfl) ?_
  obtain ⟨_, D149, hq148, h⟩ := cq_i h
  refine r_cV (st' := []) [.int x1, .int x2, .int x3, .long x5, .long x7, .long x9, .long x11, .int x20] [] hC hw kc_8 hi0 (k_X9_reckonMoved _ hi0 hq148) mk_X9_reckonMoved lk_1500 ⟨Nat.le_trans (by decide) hR.1, Nat.le_trans (by decide) hR.2⟩ ⟨Nat.zero_le _, Nat.zero_le _⟩ rfl hl.1 rfl rfl (Nat.le_of_ble_eq_true rfl) dX9_reckonRange_816 (fun hP H locs hw => ?_)
  cases h
  exact r_vret hC hw dX9_reckonRange_819
set_option maxHeartbeats 4000000 in
set_option maxRecDepth 100000 in
theorem w_X9_reckonRange_733 {r : Unit} {D' : dt} (hC : Cx RX9 cX9_reckonRange 24 none p s m args meth c) (hR : 5 ≤ R.frames ∧ 139 ≤ R.locals) : ∀ (os0 as0 : Nat) (xs1 : Int32) (xs2 : Int64) (xs3 : Int64) (D : dt) (H : Heap) (locs : List Loc) (ls : Array Slot), Is S ad os0 as0 8 → Wd G cA S D ad A s H locs → lv_has ls 24 [] → f_X9_reckonRange_733 S os0 xs1 xs2 xs3 D = some (r, D') → W p l e R s m args below meth c H locs 0 0 (MQ below (Qn none True (wpost G cA S D' ad A) A) args s 0 0 A) (F0 m 733 ls [.long xs3, .long xs2, .int xs1, .ref as0]) := by
  obtain ⟨hx, hb, -⟩ := id hC
  intro os0 as0 xs1 xs2 xs3 D H locs ls his0 hw hl h
  unfold f_X9_reckonRange_733 at h
  obtain ⟨_, D151, hq150, h⟩ := cq_i h
  refine r_cV (st' := []) [.int xs1, .long xs2, .long xs3] [] hC hw kc_8 his0 (k_X9_number _ his0 hq150) mk_X9_number lk_1493 ⟨Nat.le_trans (by decide) hR.1, Nat.le_trans (by decide) hR.2⟩ ⟨Nat.zero_le _, Nat.zero_le _⟩ rfl hl.1 rfl rfl (Nat.le_of_ble_eq_true rfl) dX9_reckonRange_733 (fun hP H locs hw => ?_)
  refine lv_goto (tgt := 819) hx hb dX9_reckonRange_736 (by decide) ?_
  cases h
  exact r_vret hC hw dX9_reckonRange_819
set_option maxHeartbeats 4000000 in
set_option maxRecDepth 100000 in
theorem w_X9_reckonRange_724 {r : Unit} {D' : dt} (hC : Cx RX9 cX9_reckonRange 24 none p s m args meth c) (hR : 5 ≤ R.frames ∧ 139 ≤ R.locals) : ∀ (x7 : Int64) (os0 as0 : Nat) (xs1 : Int32) (xs2 : Int64) (D : dt) (H : Heap) (locs : List Loc) (ls : Array Slot), Is S ad os0 as0 8 → Wd G cA S D ad A s H locs → lv_has ls 24 [(7, .long x7)] → f_X9_reckonRange_724 S x7 os0 xs1 xs2 D = some (r, D') → W p l e R s m args below meth c H locs 0 0 (MQ below (Qn none True (wpost G cA S D' ad A) A) args s 0 0 A) (F0 m 724 ls [.long xs2, .int xs1, .ref as0]) := by
  obtain ⟨hx, hb, -⟩ := id hC
  intro x7 os0 as0 xs1 xs2 D H locs ls his0 hw hl h
  unfold f_X9_reckonRange_724 at h
  refine lv_lload hx hb dX9_reckonRange_724 (lv_at hl 0 rfl) ?_
  refine lv_goto (tgt := 733) hx hb dX9_reckonRange_726 (by decide) ?_
  exact w_X9_reckonRange_733 hC hR os0 as0 xs1 xs2 x7 _ _ _ _ his0 hw (lv_sub hl [] rfl) h
set_option maxHeartbeats 4000000 in
set_option maxRecDepth 100000 in
theorem w_X9_reckonRange_714 {r : Unit} {D' : dt} (hC : Cx RX9 cX9_reckonRange 24 none p s m args meth c) (hR : 5 ≤ R.frames ∧ 139 ≤ R.locals) : ∀ (x7 : Int64) (x11 : Int64) (x22 : Int32) (x23 : Int32) (os0 as0 : Nat) (xs1 : Int32) (xs2 : Int64) (D : dt) (H : Heap) (locs : List Loc) (ls : Array Slot), Is S ad os0 as0 8 → Wd G cA S D ad A s H locs → lv_has ls 24 [(7, .long x7), (11, .long x11), (22, .int x22), (23, .int x23)] → f_X9_reckonRange_714 S x7 x11 x22 x23 os0 xs1 xs2 D = some (r, D') → W p l e R s m args below meth c H locs 0 0 (MQ below (Qn none True (wpost G cA S D' ad A) A) args s 0 0 A) (F0 m 714 ls [.long xs2, .int xs1, .ref as0]) := by
  obtain ⟨hx, hb, -⟩ := id hC
  intro x7 x11 x22 x23 os0 as0 xs1 xs2 D H locs ls his0 hw hl h
  unfold f_X9_reckonRange_714 at h
  refine lv_iload hx hb dX9_reckonRange_714 (lv_at hl 3 rfl) ?_
  refine lv_if_ne (tgt := 724) hx hb dX9_reckonRange_716 (by decide) (fun c152 => ?_) (fun c152 => ?_)
  · have h := i_no c152 h
    exact w_X9_reckonRange_724 hC hR x7 os0 as0 xs1 xs2 _ _ _ _ his0 hw (lv_sub hl [0] rfl) h
  · have h := i_yes c152 h
    refine lv_iload hx hb dX9_reckonRange_719 (lv_at hl 2 rfl) ?_
    refine lv_if_ne (tgt := 729) hx hb dX9_reckonRange_721 (by decide) (fun c153 => ?_) (fun c153 => ?_)
    · have h := i_no c153 h
      refine lv_lload hx hb dX9_reckonRange_729 (lv_at hl 1 rfl) ?_
      refine lv_lconst (v := 1) hx hb dX9_reckonRange_731 (by decide) ?_
      refine lv_lsub hx hb dX9_reckonRange_732 ?_
      exact w_X9_reckonRange_733 hC hR os0 as0 xs1 xs2 (x11 - (1 : Int64)) _ _ _ _ his0 hw (lv_sub hl [] rfl) h
    · have h := i_yes c153 h
      exact w_X9_reckonRange_724 hC hR x7 os0 as0 xs1 xs2 _ _ _ _ his0 hw (lv_sub hl [0] rfl) h
set_option maxHeartbeats 4000000 in
set_option maxRecDepth 100000 in
theorem w_X9_reckonRange_698 {r : Unit} {D' : dt} (hC : Cx RX9 cX9_reckonRange 24 none p s m args meth c) (hR : 5 ≤ R.frames ∧ 139 ≤ R.locals) : ∀ (o0 a0 : Nat) (x4 : Int32) (x5 : Int64) (x7 : Int64) (x11 : Int64) (x22 : Int32) (xs0 : Int32) (D : dt) (H : Heap) (locs : List Loc) (ls : Array Slot), Is S ad o0 a0 8 → Wd G cA S D ad A s H locs → lv_has ls 24 [(0, .ref a0), (4, .int x4), (5, .long x5), (7, .long x7), (11, .long x11), (22, .int x22)] → f_X9_reckonRange_698 S o0 x4 x5 x7 x11 x22 xs0 D = some (r, D') → W p l e R s m args below meth c H locs 0 0 (MQ below (Qn none True (wpost G cA S D' ad A) A) args s 0 0 A) (F0 m 698 ls [.int xs0]) := by
  obtain ⟨hx, hb, -⟩ := id hC
  intro o0 a0 x4 x5 x7 x11 x22 xs0 D H locs ls hi0 hw hl h
  unfold f_X9_reckonRange_698 at h
  refine lv_istore (lv' := [(23, .int xs0), (0, .ref a0), (4, .int x4), (5, .long x5), (7, .long x7), (11, .long x11), (22, .int x22)]) hx hb dX9_reckonRange_698 hl (by decide) rfl (fun ls hl => ?_)
  refine lv_aload_n hx hb dX9_reckonRange_700 rfl (lv_at hl 1 rfl) ?_
  refine lv_iload hx hb dX9_reckonRange_701 (lv_at hl 2 rfl) ?_
  refine lv_iload hx hb dX9_reckonRange_703 (lv_at hl 0 rfl) ?_
  refine lv_if_eq (tgt := 713) hx hb dX9_reckonRange_705 (by decide) (fun c154 => ?_) (fun c154 => ?_)
  · have h := i_yes c154 h
    refine lv_lconst (v := 0) hx hb dX9_reckonRange_713 (by decide) ?_
    exact w_X9_reckonRange_714 hC hR x7 x11 x22 xs0 o0 a0 x4 (0 : Int64) _ _ _ _ hi0 hw (lv_sub hl [4, 5, 6, 0] rfl) h
  · have h := i_no c154 h
    refine lv_lload hx hb dX9_reckonRange_708 (lv_at hl 3 rfl) ?_
    refine lv_goto (tgt := 714) hx hb dX9_reckonRange_710 (by decide) ?_
    exact w_X9_reckonRange_714 hC hR x7 x11 x22 xs0 o0 a0 x4 x5 _ _ _ _ hi0 hw (lv_sub hl [4, 5, 6, 0] rfl) h
set_option maxHeartbeats 4000000 in
set_option maxRecDepth 100000 in
theorem w_X9_reckonRange_697 {r : Unit} {D' : dt} (hC : Cx RX9 cX9_reckonRange 24 none p s m args meth c) (hR : 5 ≤ R.frames ∧ 139 ≤ R.locals) : ∀ (o0 a0 : Nat) (x4 : Int32) (x5 : Int64) (x7 : Int64) (x11 : Int64) (x22 : Int32) (D : dt) (H : Heap) (locs : List Loc) (ls : Array Slot), Is S ad o0 a0 8 → Wd G cA S D ad A s H locs → lv_has ls 24 [(0, .ref a0), (4, .int x4), (5, .long x5), (7, .long x7), (11, .long x11), (22, .int x22)] → f_X9_reckonRange_697 S o0 x4 x5 x7 x11 x22 D = some (r, D') → W p l e R s m args below meth c H locs 0 0 (MQ below (Qn none True (wpost G cA S D' ad A) A) args s 0 0 A) (F0 m 697 ls []) := by
  obtain ⟨hx, hb, -⟩ := id hC
  intro o0 a0 x4 x5 x7 x11 x22 D H locs ls hi0 hw hl h
  unfold f_X9_reckonRange_697 at h
  refine lv_iconst (v := 0) hx hb dX9_reckonRange_697 (by decide) ?_
  exact w_X9_reckonRange_698 hC hR o0 a0 x4 x5 x7 x11 x22 (0 : Int32) _ _ _ _ hi0 hw (lv_sub hl [0, 1, 2, 3, 4, 5] rfl) h
set_option maxHeartbeats 4000000 in
set_option maxRecDepth 100000 in
theorem w_X9_reckonRange_676 {r : Unit} {D' : dt} (hC : Cx RX9 cX9_reckonRange 24 none p s m args meth c) (hR : 5 ≤ R.frames ∧ 139 ≤ R.locals) : ∀ (o0 a0 : Nat) (x4 : Int32) (x5 : Int64) (x7 : Int64) (x11 : Int64) (xs0 : Int32) (D : dt) (H : Heap) (locs : List Loc) (ls : Array Slot), Is S ad o0 a0 8 → Wd G cA S D ad A s H locs → lv_has ls 24 [(0, .ref a0), (4, .int x4), (5, .long x5), (7, .long x7), (11, .long x11)] → f_X9_reckonRange_676 S o0 x4 x5 x7 x11 xs0 D = some (r, D') → W p l e R s m args below meth c H locs 0 0 (MQ below (Qn none True (wpost G cA S D' ad A) A) args s 0 0 A) (F0 m 676 ls [.int xs0]) := by
  obtain ⟨hx, hb, -⟩ := id hC
  intro o0 a0 x4 x5 x7 x11 xs0 D H locs ls hi0 hw hl h
  unfold f_X9_reckonRange_676 at h
  refine lv_istore (lv' := [(22, .int xs0), (0, .ref a0), (4, .int x4), (5, .long x5), (7, .long x7), (11, .long x11)]) hx hb dX9_reckonRange_676 hl (by decide) rfl (fun ls hl => ?_)
  refine lv_iload hx hb dX9_reckonRange_678 (lv_at hl 0 rfl) ?_
  refine lv_if_eq (tgt := 697) hx hb dX9_reckonRange_680 (by decide) (fun c155 => ?_) (fun c155 => ?_)
  · have h := i_yes c155 h
    exact w_X9_reckonRange_697 hC hR o0 a0 x4 x5 x7 x11 xs0 _ _ _ _ hi0 hw (lv_sub hl [1, 2, 3, 4, 5, 0] rfl) h
  · have h := i_no c155 h
    refine lv_lload hx hb dX9_reckonRange_683 (lv_at hl 4 rfl) ?_
    refine lv_lload hx hb dX9_reckonRange_685 (lv_at hl 5 rfl) ?_
    obtain ⟨r157, hq156, h⟩ := pq_i h
    refine r_cS (st' := [.int r157]) [.long x7, .long x11] [] hC hw (k_X9_isBelow _ hq156) mk_X9_isBelow lk_1355 ⟨Nat.le_trans (by decide) hR.1, Nat.le_trans (by decide) hR.2⟩ ⟨Nat.zero_le _, Nat.zero_le _⟩ rfl hl.1 rfl rfl (Nat.le_of_ble_eq_true rfl) dX9_reckonRange_687 (fun hP H locs hw => ?_)
    refine lv_if_eq (tgt := 697) hx hb dX9_reckonRange_690 (by decide) (fun c158 => ?_) (fun c158 => ?_)
    · have h := i_yes c158 h
      exact w_X9_reckonRange_697 hC hR o0 a0 x4 x5 x7 x11 xs0 _ _ _ _ hi0 hw (lv_sub hl [1, 2, 3, 4, 5, 0] rfl) h
    · have h := i_no c158 h
      refine lv_iconst (v := 1) hx hb dX9_reckonRange_693 (by decide) ?_
      refine lv_goto (tgt := 698) hx hb dX9_reckonRange_694 (by decide) ?_
      exact w_X9_reckonRange_698 hC hR o0 a0 x4 x5 x7 x11 xs0 (1 : Int32) _ _ _ _ hi0 hw (lv_sub hl [1, 2, 3, 4, 5, 0] rfl) h
set_option maxHeartbeats 4000000 in
set_option maxRecDepth 100000 in
theorem w_X9_reckonRange_675 {r : Unit} {D' : dt} (hC : Cx RX9 cX9_reckonRange 24 none p s m args meth c) (hR : 5 ≤ R.frames ∧ 139 ≤ R.locals) : ∀ (o0 a0 : Nat) (x4 : Int32) (x5 : Int64) (x7 : Int64) (x11 : Int64) (D : dt) (H : Heap) (locs : List Loc) (ls : Array Slot), Is S ad o0 a0 8 → Wd G cA S D ad A s H locs → lv_has ls 24 [(0, .ref a0), (4, .int x4), (5, .long x5), (7, .long x7), (11, .long x11)] → f_X9_reckonRange_675 S o0 x4 x5 x7 x11 D = some (r, D') → W p l e R s m args below meth c H locs 0 0 (MQ below (Qn none True (wpost G cA S D' ad A) A) args s 0 0 A) (F0 m 675 ls []) := by
  obtain ⟨hx, hb, -⟩ := id hC
  intro o0 a0 x4 x5 x7 x11 D H locs ls hi0 hw hl h
  unfold f_X9_reckonRange_675 at h
  refine lv_iconst (v := 0) hx hb dX9_reckonRange_675 (by decide) ?_
  exact w_X9_reckonRange_676 hC hR o0 a0 x4 x5 x7 x11 (0 : Int32) _ _ _ _ hi0 hw (lv_sub hl [0, 1, 2, 3, 4] rfl) h
set_option maxHeartbeats 4000000 in
set_option maxRecDepth 100000 in
theorem w_X9_reckonRange_644 {r : Unit} {D' : dt} (hC : Cx RX9 cX9_reckonRange 24 none p s m args meth c) (hR : 5 ≤ R.frames ∧ 139 ≤ R.locals) : ∀ (os0 as0 : Nat) (xs1 : Int32) (xs2 : Int64) (xs3 : Int64) (D : dt) (H : Heap) (locs : List Loc) (ls : Array Slot), Is S ad os0 as0 8 → Wd G cA S D ad A s H locs → lv_has ls 24 [] → f_X9_reckonRange_644 S os0 xs1 xs2 xs3 D = some (r, D') → W p l e R s m args below meth c H locs 0 0 (MQ below (Qn none True (wpost G cA S D' ad A) A) args s 0 0 A) (F0 m 644 ls [.long xs3, .long xs2, .int xs1, .ref as0]) := by
  obtain ⟨hx, hb, -⟩ := id hC
  intro os0 as0 xs1 xs2 xs3 D H locs ls his0 hw hl h
  unfold f_X9_reckonRange_644 at h
  obtain ⟨_, D160, hq159, h⟩ := cq_i h
  refine r_cV (st' := []) [.int xs1, .long xs2, .long xs3] [] hC hw kc_8 his0 (k_X9_number _ his0 hq159) mk_X9_number lk_1493 ⟨Nat.le_trans (by decide) hR.1, Nat.le_trans (by decide) hR.2⟩ ⟨Nat.zero_le _, Nat.zero_le _⟩ rfl hl.1 rfl rfl (Nat.le_of_ble_eq_true rfl) dX9_reckonRange_644 (fun hP H locs hw => ?_)
  refine lv_goto (tgt := 819) hx hb dX9_reckonRange_647 (by decide) ?_
  cases h
  exact r_vret hC hw dX9_reckonRange_819
set_option maxHeartbeats 4000000 in
set_option maxRecDepth 100000 in
theorem w_X9_reckonRange_627 {r : Unit} {D' : dt} (hC : Cx RX9 cX9_reckonRange 24 none p s m args meth c) (hR : 5 ≤ R.frames ∧ 139 ≤ R.locals) : ∀ (x7 : Int64) (x11 : Int64) (x22 : Int32) (os0 as0 : Nat) (xs1 : Int32) (xs2 : Int64) (D : dt) (H : Heap) (locs : List Loc) (ls : Array Slot), Is S ad os0 as0 8 → Wd G cA S D ad A s H locs → lv_has ls 24 [(7, .long x7), (11, .long x11), (22, .int x22)] → f_X9_reckonRange_627 S x7 x11 x22 os0 xs1 xs2 D = some (r, D') → W p l e R s m args below meth c H locs 0 0 (MQ below (Qn none True (wpost G cA S D' ad A) A) args s 0 0 A) (F0 m 627 ls [.long xs2, .int xs1, .ref as0]) := by
  obtain ⟨hx, hb, -⟩ := id hC
  intro x7 x11 x22 os0 as0 xs1 xs2 D H locs ls his0 hw hl h
  unfold f_X9_reckonRange_627 at h
  refine lv_iload hx hb dX9_reckonRange_627 (lv_at hl 2 rfl) ?_
  refine lv_if_eq (tgt := 642) hx hb dX9_reckonRange_629 (by decide) (fun c161 => ?_) (fun c161 => ?_)
  · have h := i_yes c161 h
    refine lv_lload hx hb dX9_reckonRange_642 (lv_at hl 0 rfl) ?_
    exact w_X9_reckonRange_644 hC hR os0 as0 xs1 xs2 x7 _ _ _ _ his0 hw (lv_sub hl [] rfl) h
  · have h := i_no c161 h
    refine lv_lload hx hb dX9_reckonRange_632 (lv_at hl 0 rfl) ?_
    refine lv_lload hx hb dX9_reckonRange_634 (lv_at hl 1 rfl) ?_
    obtain ⟨r163, hq162, h⟩ := pq_i h
    refine r_cS (st' := [.long r163, .long xs2, .int xs1, .ref as0]) [.long x7, .long x11] [.long xs2, .int xs1, .ref as0] hC hw (k_X9_over _ hq162) mk_X9_over lk_1352 ⟨Nat.le_trans (by decide) hR.1, Nat.le_trans (by decide) hR.2⟩ ⟨Nat.zero_le _, Nat.zero_le _⟩ rfl hl.1 rfl rfl (Nat.le_of_ble_eq_true rfl) dX9_reckonRange_636 (fun hP H locs hw => ?_)
    refine lv_goto (tgt := 644) hx hb dX9_reckonRange_639 (by decide) ?_
    exact w_X9_reckonRange_644 hC hR os0 as0 xs1 xs2 r163 _ _ _ _ his0 hw (lv_sub hl [] rfl) h
set_option maxHeartbeats 4000000 in
set_option maxRecDepth 100000 in
theorem w_X9_reckonRange_606 {r : Unit} {D' : dt} (hC : Cx RX9 cX9_reckonRange 24 none p s m args meth c) (hR : 5 ≤ R.frames ∧ 139 ≤ R.locals) : ∀ (o0 a0 : Nat) (x4 : Int32) (x5 : Int64) (x7 : Int64) (x11 : Int64) (xs0 : Int32) (D : dt) (H : Heap) (locs : List Loc) (ls : Array Slot), Is S ad o0 a0 8 → Wd G cA S D ad A s H locs → lv_has ls 24 [(0, .ref a0), (4, .int x4), (5, .long x5), (7, .long x7), (11, .long x11)] → f_X9_reckonRange_606 S o0 x4 x5 x7 x11 xs0 D = some (r, D') → W p l e R s m args below meth c H locs 0 0 (MQ below (Qn none True (wpost G cA S D' ad A) A) args s 0 0 A) (F0 m 606 ls [.int xs0]) := by
  obtain ⟨hx, hb, -⟩ := id hC
  intro o0 a0 x4 x5 x7 x11 xs0 D H locs ls hi0 hw hl h
  unfold f_X9_reckonRange_606 at h
  refine lv_istore (lv' := [(22, .int xs0), (0, .ref a0), (4, .int x4), (5, .long x5), (7, .long x7), (11, .long x11)]) hx hb dX9_reckonRange_606 hl (by decide) rfl (fun ls hl => ?_)
  refine lv_aload_n hx hb dX9_reckonRange_608 rfl (lv_at hl 1 rfl) ?_
  refine lv_iload hx hb dX9_reckonRange_609 (lv_at hl 2 rfl) ?_
  refine lv_iload hx hb dX9_reckonRange_611 (lv_at hl 0 rfl) ?_
  refine lv_if_eq (tgt := 626) hx hb dX9_reckonRange_613 (by decide) (fun c164 => ?_) (fun c164 => ?_)
  · have h := i_yes c164 h
    refine lv_lconst (v := 0) hx hb dX9_reckonRange_626 (by decide) ?_
    exact w_X9_reckonRange_627 hC hR x7 x11 xs0 o0 a0 x4 (0 : Int64) _ _ _ _ hi0 hw (lv_sub hl [4, 5, 0] rfl) h
  · have h := i_no c164 h
    refine lv_lload hx hb dX9_reckonRange_616 (lv_at hl 3 rfl) ?_
    refine lv_lload hx hb dX9_reckonRange_618 (lv_at hl 5 rfl) ?_
    obtain ⟨r166, hq165, h⟩ := pq_i h
    refine r_cS (st' := [.long r166, .int x4, .ref a0]) [.long x5, .long x11] [.int x4, .ref a0] hC hw (k_X9_over _ hq165) mk_X9_over lk_1352 ⟨Nat.le_trans (by decide) hR.1, Nat.le_trans (by decide) hR.2⟩ ⟨Nat.zero_le _, Nat.zero_le _⟩ rfl hl.1 rfl rfl (Nat.le_of_ble_eq_true rfl) dX9_reckonRange_620 (fun hP H locs hw => ?_)
    refine lv_goto (tgt := 627) hx hb dX9_reckonRange_623 (by decide) ?_
    exact w_X9_reckonRange_627 hC hR x7 x11 xs0 o0 a0 x4 r166 _ _ _ _ hi0 hw (lv_sub hl [4, 5, 0] rfl) h
set_option maxHeartbeats 4000000 in
set_option maxRecDepth 100000 in
theorem w_X9_reckonRange_605 {r : Unit} {D' : dt} (hC : Cx RX9 cX9_reckonRange 24 none p s m args meth c) (hR : 5 ≤ R.frames ∧ 139 ≤ R.locals) : ∀ (o0 a0 : Nat) (x4 : Int32) (x5 : Int64) (x7 : Int64) (x11 : Int64) (D : dt) (H : Heap) (locs : List Loc) (ls : Array Slot), Is S ad o0 a0 8 → Wd G cA S D ad A s H locs → lv_has ls 24 [(0, .ref a0), (4, .int x4), (5, .long x5), (7, .long x7), (11, .long x11)] → f_X9_reckonRange_605 S o0 x4 x5 x7 x11 D = some (r, D') → W p l e R s m args below meth c H locs 0 0 (MQ below (Qn none True (wpost G cA S D' ad A) A) args s 0 0 A) (F0 m 605 ls []) := by
  obtain ⟨hx, hb, -⟩ := id hC
  intro o0 a0 x4 x5 x7 x11 D H locs ls hi0 hw hl h
  unfold f_X9_reckonRange_605 at h
  refine lv_iconst (v := 0) hx hb dX9_reckonRange_605 (by decide) ?_
  exact w_X9_reckonRange_606 hC hR o0 a0 x4 x5 x7 x11 (0 : Int32) _ _ _ _ hi0 hw (lv_sub hl [0, 1, 2, 3, 4] rfl) h
set_option maxHeartbeats 4000000 in
set_option maxRecDepth 100000 in
theorem w_X9_reckonRange_390 {r : Unit} {D' : dt} (hC : Cx RX9 cX9_reckonRange 24 none p s m args meth c) (hR : 5 ≤ R.frames ∧ 139 ≤ R.locals) : ∀ (o0 a0 : Nat) (x1 : Int32) (x2 : Int32) (x3 : Int32) (x4 : Int32) (x5 : Int64) (x7 : Int64) (x9 : Int64) (x11 : Int64) (x18 : Int64) (x20 : Int32) (xs0 : Int32) (D : dt) (H : Heap) (locs : List Loc) (ls : Array Slot), Is S ad o0 a0 8 → Wd G cA S D ad A s H locs → lv_has ls 24 [(0, .ref a0), (1, .int x1), (2, .int x2), (3, .int x3), (4, .int x4), (5, .long x5), (7, .long x7), (9, .long x9), (11, .long x11), (18, .long x18), (20, .int x20)] → f_X9_reckonRange_390 S o0 x1 x2 x3 x4 x5 x7 x9 x11 x18 x20 xs0 D = some (r, D') → W p l e R s m args below meth c H locs 0 0 (MQ below (Qn none True (wpost G cA S D' ad A) A) args s 0 0 A) (F0 m 390 ls [.int xs0]) := by
  obtain ⟨hx, hb, -⟩ := id hC
  intro o0 a0 x1 x2 x3 x4 x5 x7 x9 x11 x18 x20 xs0 D H locs ls hi0 hw hl h
  unfold f_X9_reckonRange_390 at h
  refine lv_istore (lv' := [(21, .int xs0), (0, .ref a0), (1, .int x1), (2, .int x2), (3, .int x3), (4, .int x4), (5, .long x5), (7, .long x7), (9, .long x9), (11, .long x11), (18, .long x18), (20, .int x20)]) hx hb dX9_reckonRange_390 hl (by decide) rfl (fun ls hl => ?_)
  refine lv_iload_n hx hb dX9_reckonRange_392 rfl (lv_at hl 3 rfl) ?_
  by_cases c167 : x2 = 0
  · have h := i_yes c167 h
    refine lv_tableIn (off := 59) (tgt := 452) hx hb dX9_reckonRange_393 (by rw [c167]; decide) (by rw [c167]; decide) (by rw [c167] <;> rfl) (by decide) ?_
    refine lv_lload hx hb dX9_reckonRange_452 (lv_at hl 7 rfl) ?_
    refine lv_lload hx hb dX9_reckonRange_454 (lv_at hl 9 rfl) ?_
    refine lv_ladd hx hb dX9_reckonRange_456 ?_
    refine lv_lload hx hb dX9_reckonRange_457 (lv_at hl 7 rfl) ?_
    obtain ⟨r169, hq168, h⟩ := pq_i h
    refine r_cS (st' := [.int r169]) [.long (x7 + x11), .long x7] [] hC hw (k_X9_isBelow _ hq168) mk_X9_isBelow lk_1355 ⟨Nat.le_trans (by decide) hR.1, Nat.le_trans (by decide) hR.2⟩ ⟨Nat.zero_le _, Nat.zero_le _⟩ rfl hl.1 rfl rfl (Nat.le_of_ble_eq_true rfl) dX9_reckonRange_459 (fun hP H locs hw => ?_)
    refine lv_if_ne (tgt := 819) hx hb dX9_reckonRange_462 (by decide) (fun c170 => ?_) (fun c170 => ?_)
    · have h := i_no c170 h
      cases h
      exact r_vret hC hw dX9_reckonRange_819
    · have h := i_yes c170 h
      refine lv_lload hx hb dX9_reckonRange_465 (lv_at hl 10 rfl) ?_
      refine lv_lload hx hb dX9_reckonRange_467 (lv_at hl 7 rfl) ?_
      refine lv_lload hx hb dX9_reckonRange_469 (lv_at hl 9 rfl) ?_
      refine lv_ladd hx hb dX9_reckonRange_471 ?_
      obtain ⟨r172, hq171, h⟩ := pq_i h
      refine r_cS (st' := [.int r172]) [.long x18, .long (x7 + x11)] [] hC hw (k_X9_isBelow _ hq171) mk_X9_isBelow lk_1355 ⟨Nat.le_trans (by decide) hR.1, Nat.le_trans (by decide) hR.2⟩ ⟨Nat.zero_le _, Nat.zero_le _⟩ rfl hl.1 rfl rfl (Nat.le_of_ble_eq_true rfl) dX9_reckonRange_472 (fun hP H locs hw => ?_)
      refine lv_if_ne (tgt := 819) hx hb dX9_reckonRange_475 (by decide) (fun c173 => ?_) (fun c173 => ?_)
      · have h := i_no c173 h
        cases h
        exact r_vret hC hw dX9_reckonRange_819
      · have h := i_yes c173 h
        refine lv_aload_n hx hb dX9_reckonRange_478 rfl (lv_at hl 1 rfl) ?_
        refine lv_iload hx hb dX9_reckonRange_479 (lv_at hl 5 rfl) ?_
        refine lv_lload hx hb dX9_reckonRange_481 (lv_at hl 6 rfl) ?_
        refine lv_lload hx hb dX9_reckonRange_483 (lv_at hl 8 rfl) ?_
        refine lv_ladd hx hb dX9_reckonRange_485 ?_
        refine lv_lload hx hb dX9_reckonRange_486 (lv_at hl 7 rfl) ?_
        refine lv_lload hx hb dX9_reckonRange_488 (lv_at hl 9 rfl) ?_
        refine lv_ladd hx hb dX9_reckonRange_490 ?_
        obtain ⟨_, D175, hq174, h⟩ := cq_i h
        refine r_cV (st' := []) [.int x4, .long (x5 + x9), .long (x7 + x11)] [] hC hw kc_8 hi0 (k_X9_number _ hi0 hq174) mk_X9_number lk_1493 ⟨Nat.le_trans (by decide) hR.1, Nat.le_trans (by decide) hR.2⟩ ⟨Nat.zero_le _, Nat.zero_le _⟩ rfl hl.1 rfl rfl (Nat.le_of_ble_eq_true rfl) dX9_reckonRange_491 (fun hP H locs hw => ?_)
        refine lv_goto (tgt := 819) hx hb dX9_reckonRange_494 (by decide) ?_
        cases h
        exact r_vret hC hw dX9_reckonRange_819
  have h := i_no c167 h
  by_cases c176 : x2 = 1
  · have h := i_yes c176 h
    refine lv_tableIn (off := 104) (tgt := 497) hx hb dX9_reckonRange_393 (by rw [c176]; decide) (by rw [c176]; decide) (by rw [c176] <;> rfl) (by decide) ?_
    refine lv_lload hx hb dX9_reckonRange_497 (lv_at hl 6 rfl) ?_
    refine lv_lload hx hb dX9_reckonRange_499 (lv_at hl 9 rfl) ?_
    obtain ⟨r178, hq177, h⟩ := pq_i h
    refine r_cS (st' := [.int r178]) [.long x5, .long x11] [] hC hw (k_X9_isBelow _ hq177) mk_X9_isBelow lk_1355 ⟨Nat.le_trans (by decide) hR.1, Nat.le_trans (by decide) hR.2⟩ ⟨Nat.zero_le _, Nat.zero_le _⟩ rfl hl.1 rfl rfl (Nat.le_of_ble_eq_true rfl) dX9_reckonRange_501 (fun hP H locs hw => ?_)
    refine lv_if_ne (tgt := 819) hx hb dX9_reckonRange_504 (by decide) (fun c179 => ?_) (fun c179 => ?_)
    · have h := i_no c179 h
      cases h
      exact r_vret hC hw dX9_reckonRange_819
    · have h := i_yes c179 h
      refine lv_aload_n hx hb dX9_reckonRange_507 rfl (lv_at hl 1 rfl) ?_
      refine lv_iload hx hb dX9_reckonRange_508 (lv_at hl 5 rfl) ?_
      refine lv_lload hx hb dX9_reckonRange_510 (lv_at hl 6 rfl) ?_
      refine lv_lload hx hb dX9_reckonRange_512 (lv_at hl 9 rfl) ?_
      refine lv_lsub hx hb dX9_reckonRange_514 ?_
      refine lv_lload hx hb dX9_reckonRange_515 (lv_at hl 7 rfl) ?_
      refine lv_lload hx hb dX9_reckonRange_517 (lv_at hl 8 rfl) ?_
      refine lv_lsub hx hb dX9_reckonRange_519 ?_
      obtain ⟨_, D181, hq180, h⟩ := cq_i h
      refine r_cV (st' := []) [.int x4, .long (x5 - x11), .long (x7 - x9)] [] hC hw kc_8 hi0 (k_X9_number _ hi0 hq180) mk_X9_number lk_1493 ⟨Nat.le_trans (by decide) hR.1, Nat.le_trans (by decide) hR.2⟩ ⟨Nat.zero_le _, Nat.zero_le _⟩ rfl hl.1 rfl rfl (Nat.le_of_ble_eq_true rfl) dX9_reckonRange_520 (fun hP H locs hw => ?_)
      refine lv_goto (tgt := 819) hx hb dX9_reckonRange_523 (by decide) ?_
      cases h
      exact r_vret hC hw dX9_reckonRange_819
  have h := i_no c176 h
  by_cases c182 : x2 = 2
  · have h := i_yes c182 h
    refine lv_tableIn (off := 133) (tgt := 526) hx hb dX9_reckonRange_393 (by rw [c182]; decide) (by rw [c182]; decide) (by rw [c182] <;> rfl) (by decide) ?_
    refine lv_ldc2 (v := 4294967295) hx hb hC.2.2.2.1 (hC.2.2.2.2.1 _ lk_1344) dX9_reckonRange_526 ?_
    refine lv_lload hx hb dX9_reckonRange_529 (lv_at hl 7 rfl) ?_
    obtain ⟨r184, hq183, h⟩ := pq_i h
    refine r_cS (st' := [.int r184]) [.long (4294967295 : Int64), .long x7] [] hC hw (k_X9_isBelow _ hq183) mk_X9_isBelow lk_1355 ⟨Nat.le_trans (by decide) hR.1, Nat.le_trans (by decide) hR.2⟩ ⟨Nat.zero_le _, Nat.zero_le _⟩ rfl hl.1 rfl rfl (Nat.le_of_ble_eq_true rfl) dX9_reckonRange_531 (fun hP H locs hw => ?_)
    refine lv_if_ne (tgt := 819) hx hb dX9_reckonRange_534 (by decide) (fun c185 => ?_) (fun c185 => ?_)
    · have h := i_no c185 h
      cases h
      exact r_vret hC hw dX9_reckonRange_819
    · have h := i_yes c185 h
      refine lv_ldc2 (v := 4294967295) hx hb hC.2.2.2.1 (hC.2.2.2.2.1 _ lk_1344) dX9_reckonRange_537 ?_
      refine lv_lload hx hb dX9_reckonRange_540 (lv_at hl 9 rfl) ?_
      obtain ⟨r187, hq186, h⟩ := pq_i h
      refine r_cS (st' := [.int r187]) [.long (4294967295 : Int64), .long x11] [] hC hw (k_X9_isBelow _ hq186) mk_X9_isBelow lk_1355 ⟨Nat.le_trans (by decide) hR.1, Nat.le_trans (by decide) hR.2⟩ ⟨Nat.zero_le _, Nat.zero_le _⟩ rfl hl.1 rfl rfl (Nat.le_of_ble_eq_true rfl) dX9_reckonRange_542 (fun hP H locs hw => ?_)
      refine lv_if_ne (tgt := 819) hx hb dX9_reckonRange_545 (by decide) (fun c188 => ?_) (fun c188 => ?_)
      · have h := i_no c188 h
        cases h
        exact r_vret hC hw dX9_reckonRange_819
      · have h := i_yes c188 h
        refine lv_lload hx hb dX9_reckonRange_548 (lv_at hl 10 rfl) ?_
        refine lv_lload hx hb dX9_reckonRange_550 (lv_at hl 7 rfl) ?_
        refine lv_lload hx hb dX9_reckonRange_552 (lv_at hl 9 rfl) ?_
        refine lv_lmul hx hb dX9_reckonRange_554 ?_
        obtain ⟨r190, hq189, h⟩ := pq_i h
        refine r_cS (st' := [.int r190]) [.long x18, .long (x7 * x11)] [] hC hw (k_X9_isBelow _ hq189) mk_X9_isBelow lk_1355 ⟨Nat.le_trans (by decide) hR.1, Nat.le_trans (by decide) hR.2⟩ ⟨Nat.zero_le _, Nat.zero_le _⟩ rfl hl.1 rfl rfl (Nat.le_of_ble_eq_true rfl) dX9_reckonRange_555 (fun hP H locs hw => ?_)
        refine lv_if_ne (tgt := 819) hx hb dX9_reckonRange_558 (by decide) (fun c191 => ?_) (fun c191 => ?_)
        · have h := i_no c191 h
          cases h
          exact r_vret hC hw dX9_reckonRange_819
        · have h := i_yes c191 h
          refine lv_aload_n hx hb dX9_reckonRange_561 rfl (lv_at hl 1 rfl) ?_
          refine lv_iload hx hb dX9_reckonRange_562 (lv_at hl 5 rfl) ?_
          refine lv_lload hx hb dX9_reckonRange_564 (lv_at hl 6 rfl) ?_
          refine lv_lload hx hb dX9_reckonRange_566 (lv_at hl 8 rfl) ?_
          refine lv_lmul hx hb dX9_reckonRange_568 ?_
          refine lv_lload hx hb dX9_reckonRange_569 (lv_at hl 7 rfl) ?_
          refine lv_lload hx hb dX9_reckonRange_571 (lv_at hl 9 rfl) ?_
          refine lv_lmul hx hb dX9_reckonRange_573 ?_
          obtain ⟨_, D193, hq192, h⟩ := cq_i h
          refine r_cV (st' := []) [.int x4, .long (x5 * x9), .long (x7 * x11)] [] hC hw kc_8 hi0 (k_X9_number _ hi0 hq192) mk_X9_number lk_1493 ⟨Nat.le_trans (by decide) hR.1, Nat.le_trans (by decide) hR.2⟩ ⟨Nat.zero_le _, Nat.zero_le _⟩ rfl hl.1 rfl rfl (Nat.le_of_ble_eq_true rfl) dX9_reckonRange_574 (fun hP H locs hw => ?_)
          refine lv_goto (tgt := 819) hx hb dX9_reckonRange_577 (by decide) ?_
          cases h
          exact r_vret hC hw dX9_reckonRange_819
  have h := i_no c182 h
  by_cases c194 : x2 = 3
  · have h := i_yes c194 h
    refine lv_tableIn (off := 187) (tgt := 580) hx hb dX9_reckonRange_393 (by rw [c194]; decide) (by rw [c194]; decide) (by rw [c194] <;> rfl) (by decide) ?_
    refine lv_aload_n hx hb dX9_reckonRange_580 rfl (lv_at hl 1 rfl) ?_
    obtain ⟨o195, ho198, h⟩ := rq_i h
    refine r_getR hC hw kc_8 hi0 4 rfl lk_1073 dX9_reckonRange_581 rfl ho198 (fun a196 hi197 => ?_)
    refine lv_iload_n hx hb dX9_reckonRange_584 rfl (lv_at hl 2 rfl) ?_
    obtain ⟨hn199, h⟩ := ix_i h
    refine r_iald hC hw hi197 hn199 dX9_reckonRange_585 ?_
    refine lv_if_ne (tgt := 819) hx hb dX9_reckonRange_586 (by decide) (fun c200 => ?_) (fun c200 => ?_)
    · have h := i_no c200 h
      cases h
      exact r_vret hC hw dX9_reckonRange_819
    · have h := i_yes c200 h
      refine lv_iload hx hb dX9_reckonRange_589 (lv_at hl 0 rfl) ?_
      refine lv_if_eq (tgt := 605) hx hb dX9_reckonRange_591 (by decide) (fun c201 => ?_) (fun c201 => ?_)
      · have h := i_yes c201 h
        exact w_X9_reckonRange_605 hC hR o0 a0 x4 x5 x7 x11 _ _ _ _ hi0 hw (lv_sub hl [1, 5, 6, 7, 9] rfl) h
      · have h := i_no c201 h
        refine lv_lload hx hb dX9_reckonRange_594 (lv_at hl 9 rfl) ?_
        refine lv_lconst (v := 0) hx hb dX9_reckonRange_596 (by decide) ?_
        refine W.lcmp hx hb dX9_reckonRange_597 ?_
        refine lv_if_eq (tgt := 605) hx hb dX9_reckonRange_598 (by decide) (fun c202 => ?_) (fun c202 => ?_)
        · have h := i_yes c202 h
          exact w_X9_reckonRange_605 hC hR o0 a0 x4 x5 x7 x11 _ _ _ _ hi0 hw (lv_sub hl [1, 5, 6, 7, 9] rfl) h
        · have h := i_no c202 h
          refine lv_iconst (v := 1) hx hb dX9_reckonRange_601 (by decide) ?_
          refine lv_goto (tgt := 606) hx hb dX9_reckonRange_602 (by decide) ?_
          exact w_X9_reckonRange_606 hC hR o0 a0 x4 x5 x7 x11 (1 : Int32) _ _ _ _ hi0 hw (lv_sub hl [1, 5, 6, 7, 9] rfl) h
  have h := i_no c194 h
  by_cases c203 : x2 = 4
  · have h := i_yes c203 h
    refine lv_tableIn (off := 363) (tgt := 756) hx hb dX9_reckonRange_393 (by rw [c203]; decide) (by rw [c203]; decide) (by rw [c203] <;> rfl) (by decide) ?_
    refine lv_aload_n hx hb dX9_reckonRange_756 rfl (lv_at hl 1 rfl) ?_
    refine lv_iload hx hb dX9_reckonRange_757 (lv_at hl 5 rfl) ?_
    refine lv_lload hx hb dX9_reckonRange_759 (lv_at hl 6 rfl) ?_
    refine lv_lload hx hb dX9_reckonRange_761 (lv_at hl 8 rfl) ?_
    obtain ⟨r205, hq204, h⟩ := pq_i h
    refine r_cS (st' := [.long r205, .int x4, .ref a0]) [.long x5, .long x9] [.int x4, .ref a0] hC hw (k_X9_greater _ hq204) mk_X9_greater lk_1466 ⟨Nat.le_trans (by decide) hR.1, Nat.le_trans (by decide) hR.2⟩ ⟨Nat.zero_le _, Nat.zero_le _⟩ rfl hl.1 rfl rfl (Nat.le_of_ble_eq_true rfl) dX9_reckonRange_763 (fun hP H locs hw => ?_)
    refine lv_lload hx hb dX9_reckonRange_766 (lv_at hl 7 rfl) ?_
    refine lv_lload hx hb dX9_reckonRange_768 (lv_at hl 9 rfl) ?_
    obtain ⟨r207, hq206, h⟩ := pq_i h
    refine r_cS (st' := [.long r207, .long r205, .int x4, .ref a0]) [.long x7, .long x11] [.long r205, .int x4, .ref a0] hC hw (k_X9_greater _ hq206) mk_X9_greater lk_1466 ⟨Nat.le_trans (by decide) hR.1, Nat.le_trans (by decide) hR.2⟩ ⟨Nat.zero_le _, Nat.zero_le _⟩ rfl hl.1 rfl rfl (Nat.le_of_ble_eq_true rfl) dX9_reckonRange_770 (fun hP H locs hw => ?_)
    obtain ⟨r209, hq208, h⟩ := pq_i h
    refine r_cS (st' := [.long r209, .long r205, .int x4, .ref a0]) [.long r207] [.long r205, .int x4, .ref a0] hC hw (k_X9_mask _ hq208) mk_X9_mask lk_1497 ⟨Nat.le_trans (by decide) hR.1, Nat.le_trans (by decide) hR.2⟩ ⟨Nat.zero_le _, Nat.zero_le _⟩ rfl hl.1 rfl rfl (Nat.le_of_ble_eq_true rfl) dX9_reckonRange_773 (fun hP H locs hw => ?_)
    obtain ⟨_, D211, hq210, h⟩ := cq_i h
    refine r_cV (st' := []) [.int x4, .long r205, .long r209] [] hC hw kc_8 hi0 (k_X9_number _ hi0 hq210) mk_X9_number lk_1493 ⟨Nat.le_trans (by decide) hR.1, Nat.le_trans (by decide) hR.2⟩ ⟨Nat.zero_le _, Nat.zero_le _⟩ rfl hl.1 rfl rfl (Nat.le_of_ble_eq_true rfl) dX9_reckonRange_776 (fun hP H locs hw => ?_)
    refine lv_goto (tgt := 819) hx hb dX9_reckonRange_779 (by decide) ?_
    cases h
    exact r_vret hC hw dX9_reckonRange_819
  have h := i_no c203 h
  by_cases c212 : x2 = 5
  · have h := i_yes c212 h
    refine lv_tableIn (off := 346) (tgt := 739) hx hb dX9_reckonRange_393 (by rw [c212]; decide) (by rw [c212]; decide) (by rw [c212] <;> rfl) (by decide) ?_
    refine lv_aload_n hx hb dX9_reckonRange_739 rfl (lv_at hl 1 rfl) ?_
    refine lv_iload hx hb dX9_reckonRange_740 (lv_at hl 5 rfl) ?_
    refine lv_lconst (v := 0) hx hb dX9_reckonRange_742 (by decide) ?_
    refine lv_lload hx hb dX9_reckonRange_743 (lv_at hl 7 rfl) ?_
    refine lv_lload hx hb dX9_reckonRange_745 (lv_at hl 9 rfl) ?_
    obtain ⟨r214, hq213, h⟩ := pq_i h
    refine r_cS (st' := [.long r214, .long (0 : Int64), .int x4, .ref a0]) [.long x7, .long x11] [.long (0 : Int64), .int x4, .ref a0] hC hw (k_X9_lesser _ hq213) mk_X9_lesser lk_1463 ⟨Nat.le_trans (by decide) hR.1, Nat.le_trans (by decide) hR.2⟩ ⟨Nat.zero_le _, Nat.zero_le _⟩ rfl hl.1 rfl rfl (Nat.le_of_ble_eq_true rfl) dX9_reckonRange_747 (fun hP H locs hw => ?_)
    obtain ⟨_, D216, hq215, h⟩ := cq_i h
    refine r_cV (st' := []) [.int x4, .long (0 : Int64), .long r214] [] hC hw kc_8 hi0 (k_X9_number _ hi0 hq215) mk_X9_number lk_1493 ⟨Nat.le_trans (by decide) hR.1, Nat.le_trans (by decide) hR.2⟩ ⟨Nat.zero_le _, Nat.zero_le _⟩ rfl hl.1 rfl rfl (Nat.le_of_ble_eq_true rfl) dX9_reckonRange_750 (fun hP H locs hw => ?_)
    refine lv_goto (tgt := 819) hx hb dX9_reckonRange_753 (by decide) ?_
    cases h
    exact r_vret hC hw dX9_reckonRange_819
  have h := i_no c212 h
  by_cases c217 : x2 = 6
  · have h := i_yes c217 h
    refine lv_tableIn (off := 409) (tgt := 802) hx hb dX9_reckonRange_393 (by rw [c217]; decide) (by rw [c217]; decide) (by rw [c217] <;> rfl) (by decide) ?_
    exact w_X9_reckonRange_802 hC hR o0 a0 x1 x2 x3 x5 x7 x9 x11 x20 _ _ _ _ hi0 hw (lv_sub hl [1, 2, 3, 4, 6, 7, 8, 9, 11] rfl) h
  have h := i_no c217 h
  by_cases c218 : x2 = 7
  · have h := i_yes c218 h
    refine lv_tableIn (off := 409) (tgt := 802) hx hb dX9_reckonRange_393 (by rw [c218]; decide) (by rw [c218]; decide) (by rw [c218] <;> rfl) (by decide) ?_
    exact w_X9_reckonRange_802 hC hR o0 a0 x1 x2 x3 x5 x7 x9 x11 x20 _ _ _ _ hi0 hw (lv_sub hl [1, 2, 3, 4, 6, 7, 8, 9, 11] rfl) h
  have h := i_no c218 h
  by_cases c219 : x2 = 8
  · have h := i_yes c219 h
    refine lv_tableIn (off := 409) (tgt := 802) hx hb dX9_reckonRange_393 (by rw [c219]; decide) (by rw [c219]; decide) (by rw [c219] <;> rfl) (by decide) ?_
    exact w_X9_reckonRange_802 hC hR o0 a0 x1 x2 x3 x5 x7 x9 x11 x20 _ _ _ _ hi0 hw (lv_sub hl [1, 2, 3, 4, 6, 7, 8, 9, 11] rfl) h
  have h := i_no c219 h
  by_cases c220 : x2 = 9
  · have h := i_yes c220 h
    refine lv_tableIn (off := 257) (tgt := 650) hx hb dX9_reckonRange_393 (by rw [c220]; decide) (by rw [c220]; decide) (by rw [c220] <;> rfl) (by decide) ?_
    refine lv_aload_n hx hb dX9_reckonRange_650 rfl (lv_at hl 1 rfl) ?_
    obtain ⟨o221, ho224, h⟩ := rq_i h
    refine r_getR hC hw kc_8 hi0 4 rfl lk_1073 dX9_reckonRange_651 rfl ho224 (fun a222 hi223 => ?_)
    refine lv_iload_n hx hb dX9_reckonRange_654 rfl (lv_at hl 2 rfl) ?_
    obtain ⟨hn225, h⟩ := ix_i h
    refine r_iald hC hw hi223 hn225 dX9_reckonRange_655 ?_
    refine lv_if_ne (tgt := 819) hx hb dX9_reckonRange_656 (by decide) (fun c226 => ?_) (fun c226 => ?_)
    · have h := i_no c226 h
      cases h
      exact r_vret hC hw dX9_reckonRange_819
    · have h := i_yes c226 h
      refine lv_iload hx hb dX9_reckonRange_659 (lv_at hl 0 rfl) ?_
      refine lv_if_eq (tgt := 675) hx hb dX9_reckonRange_661 (by decide) (fun c227 => ?_) (fun c227 => ?_)
      · have h := i_yes c227 h
        exact w_X9_reckonRange_675 hC hR o0 a0 x4 x5 x7 x11 _ _ _ _ hi0 hw (lv_sub hl [1, 5, 6, 7, 9] rfl) h
      · have h := i_no c227 h
        refine lv_lload hx hb dX9_reckonRange_664 (lv_at hl 9 rfl) ?_
        refine lv_lconst (v := 0) hx hb dX9_reckonRange_666 (by decide) ?_
        refine W.lcmp hx hb dX9_reckonRange_667 ?_
        refine lv_if_eq (tgt := 675) hx hb dX9_reckonRange_668 (by decide) (fun c228 => ?_) (fun c228 => ?_)
        · have h := i_yes c228 h
          exact w_X9_reckonRange_675 hC hR o0 a0 x4 x5 x7 x11 _ _ _ _ hi0 hw (lv_sub hl [1, 5, 6, 7, 9] rfl) h
        · have h := i_no c228 h
          refine lv_iconst (v := 1) hx hb dX9_reckonRange_671 (by decide) ?_
          refine lv_goto (tgt := 676) hx hb dX9_reckonRange_672 (by decide) ?_
          exact w_X9_reckonRange_676 hC hR o0 a0 x4 x5 x7 x11 (1 : Int32) _ _ _ _ hi0 hw (lv_sub hl [1, 5, 6, 7, 9] rfl) h
  have h := i_no c220 h
  by_cases c229 : x2 = 10
  · have h := i_yes c229 h
    refine lv_tableIn (off := 389) (tgt := 782) hx hb dX9_reckonRange_393 (by rw [c229]; decide) (by rw [c229]; decide) (by rw [c229] <;> rfl) (by decide) ?_
    refine lv_aload_n hx hb dX9_reckonRange_782 rfl (lv_at hl 1 rfl) ?_
    refine lv_iload hx hb dX9_reckonRange_783 (lv_at hl 5 rfl) ?_
    refine lv_lconst (v := 0) hx hb dX9_reckonRange_785 (by decide) ?_
    refine lv_lload hx hb dX9_reckonRange_786 (lv_at hl 7 rfl) ?_
    refine lv_lload hx hb dX9_reckonRange_788 (lv_at hl 9 rfl) ?_
    obtain ⟨r231, hq230, h⟩ := pq_i h
    refine r_cS (st' := [.long r231, .long (0 : Int64), .int x4, .ref a0]) [.long x7, .long x11] [.long (0 : Int64), .int x4, .ref a0] hC hw (k_X9_greater _ hq230) mk_X9_greater lk_1466 ⟨Nat.le_trans (by decide) hR.1, Nat.le_trans (by decide) hR.2⟩ ⟨Nat.zero_le _, Nat.zero_le _⟩ rfl hl.1 rfl rfl (Nat.le_of_ble_eq_true rfl) dX9_reckonRange_790 (fun hP H locs hw => ?_)
    obtain ⟨r233, hq232, h⟩ := pq_i h
    refine r_cS (st' := [.long r233, .long (0 : Int64), .int x4, .ref a0]) [.long r231] [.long (0 : Int64), .int x4, .ref a0] hC hw (k_X9_mask _ hq232) mk_X9_mask lk_1497 ⟨Nat.le_trans (by decide) hR.1, Nat.le_trans (by decide) hR.2⟩ ⟨Nat.zero_le _, Nat.zero_le _⟩ rfl hl.1 rfl rfl (Nat.le_of_ble_eq_true rfl) dX9_reckonRange_793 (fun hP H locs hw => ?_)
    obtain ⟨_, D235, hq234, h⟩ := cq_i h
    refine r_cV (st' := []) [.int x4, .long (0 : Int64), .long r233] [] hC hw kc_8 hi0 (k_X9_number _ hi0 hq234) mk_X9_number lk_1493 ⟨Nat.le_trans (by decide) hR.1, Nat.le_trans (by decide) hR.2⟩ ⟨Nat.zero_le _, Nat.zero_le _⟩ rfl hl.1 rfl rfl (Nat.le_of_ble_eq_true rfl) dX9_reckonRange_796 (fun hP H locs hw => ?_)
    refine lv_goto (tgt := 819) hx hb dX9_reckonRange_799 (by decide) ?_
    cases h
    exact r_vret hC hw dX9_reckonRange_819
  have h := i_no c229 h
  refine lv_tableOut (tgt := 802) hx hb dX9_reckonRange_393 (by have nc167 := lv_neT c167 (a := 0) rfl; have nc176 := lv_neT c176 (a := 1) rfl; have nc182 := lv_neT c182 (a := 2) rfl; have nc194 := lv_neT c194 (a := 3) rfl; have nc203 := lv_neT c203 (a := 4) rfl; have nc212 := lv_neT c212 (a := 5) rfl; have nc217 := lv_neT c217 (a := 6) rfl; have nc218 := lv_neT c218 (a := 7) rfl; have nc219 := lv_neT c219 (a := 8) rfl; have nc220 := lv_neT c220 (a := 9) rfl; have nc229 := lv_neT c229 (a := 10) rfl; omega) (by decide) ?_
  exact w_X9_reckonRange_802 hC hR o0 a0 x1 x2 x3 x5 x7 x9 x11 x20 _ _ _ _ hi0 hw (lv_sub hl [1, 2, 3, 4, 6, 7, 8, 9, 11] rfl) h
set_option maxHeartbeats 4000000 in
set_option maxRecDepth 100000 in
theorem w_X9_reckonRange_374 {r : Unit} {D' : dt} (hC : Cx RX9 cX9_reckonRange 24 none p s m args meth c) (hR : 5 ≤ R.frames ∧ 139 ≤ R.locals) : ∀ (o0 a0 : Nat) (x1 : Int32) (x2 : Int32) (x3 : Int32) (x4 : Int32) (x5 : Int64) (x7 : Int64) (x9 : Int64) (x11 : Int64) (x18 : Int64) (xs0 : Int32) (xs1 : Int32) (D : dt) (H : Heap) (locs : List Loc) (ls : Array Slot), Is S ad o0 a0 8 → Wd G cA S D ad A s H locs → lv_has ls 24 [(0, .ref a0), (1, .int x1), (2, .int x2), (3, .int x3), (4, .int x4), (5, .long x5), (7, .long x7), (9, .long x9), (11, .long x11), (18, .long x18)] → f_X9_reckonRange_374 S o0 x1 x2 x3 x4 x5 x7 x9 x11 x18 xs0 xs1 D = some (r, D') → W p l e R s m args below meth c H locs 0 0 (MQ below (Qn none True (wpost G cA S D' ad A) A) args s 0 0 A) (F0 m 374 ls [.int xs1, .int xs0]) := by
  obtain ⟨hx, hb, -⟩ := id hC
  intro o0 a0 x1 x2 x3 x4 x5 x7 x9 x11 x18 xs0 xs1 D H locs ls hi0 hw hl h
  unfold f_X9_reckonRange_374 at h
  refine lv_iand hx hb dX9_reckonRange_374 ?_
  refine lv_topi (fun y236 ey236 => ?_)
  have h := nm_i h y236 ey236
  refine lv_istore (lv' := [(20, .int y236), (0, .ref a0), (1, .int x1), (2, .int x2), (3, .int x3), (4, .int x4), (5, .long x5), (7, .long x7), (9, .long x9), (11, .long x11), (18, .long x18)]) hx hb dX9_reckonRange_375 hl (by decide) rfl (fun ls hl => ?_)
  refine lv_lload hx hb dX9_reckonRange_377 (lv_at hl 8 rfl) ?_
  refine lv_lload hx hb dX9_reckonRange_379 (lv_at hl 9 rfl) ?_
  refine W.lcmp hx hb dX9_reckonRange_381 ?_
  refine lv_if_ne (tgt := 389) hx hb dX9_reckonRange_382 (by decide) (fun c237 => ?_) (fun c237 => ?_)
  · have h := i_no c237 h
    refine lv_iconst (v := 0) hx hb dX9_reckonRange_389 (by decide) ?_
    exact w_X9_reckonRange_390 hC hR o0 a0 x1 x2 x3 x4 x5 x7 x9 x11 x18 y236 (0 : Int32) _ _ _ _ hi0 hw (lv_sub hl [1, 2, 3, 4, 5, 6, 7, 8, 9, 10, 0] rfl) h
  · have h := i_yes c237 h
    refine lv_iconst (v := 1) hx hb dX9_reckonRange_385 (by decide) ?_
    refine lv_goto (tgt := 390) hx hb dX9_reckonRange_386 (by decide) ?_
    exact w_X9_reckonRange_390 hC hR o0 a0 x1 x2 x3 x4 x5 x7 x9 x11 x18 y236 (1 : Int32) _ _ _ _ hi0 hw (lv_sub hl [1, 2, 3, 4, 5, 6, 7, 8, 9, 10, 0] rfl) h
set_option maxHeartbeats 4000000 in
set_option maxRecDepth 100000 in
theorem w_X9_reckonRange_349 {r : Unit} {D' : dt} (hC : Cx RX9 cX9_reckonRange 24 none p s m args meth c) (hR : 5 ≤ R.frames ∧ 139 ≤ R.locals) : ∀ (o0 a0 : Nat) (x1 : Int32) (x2 : Int32) (x3 : Int32) (x4 : Int32) (x5 : Int64) (x7 : Int64) (x9 : Int64) (x11 : Int64) (xs0 : Int64) (D : dt) (H : Heap) (locs : List Loc) (ls : Array Slot), Is S ad o0 a0 8 → Wd G cA S D ad A s H locs → lv_has ls 24 [(0, .ref a0), (1, .int x1), (2, .int x2), (3, .int x3), (4, .int x4), (5, .long x5), (7, .long x7), (9, .long x9), (11, .long x11)] → f_X9_reckonRange_349 S o0 x1 x2 x3 x4 x5 x7 x9 x11 xs0 D = some (r, D') → W p l e R s m args below meth c H locs 0 0 (MQ below (Qn none True (wpost G cA S D' ad A) A) args s 0 0 A) (F0 m 349 ls [.long xs0]) := by
  obtain ⟨hx, hb, -⟩ := id hC
  intro o0 a0 x1 x2 x3 x4 x5 x7 x9 x11 xs0 D H locs ls hi0 hw hl h
  unfold f_X9_reckonRange_349 at h
  refine lv_lstore (lv' := [(18, .long xs0), (0, .ref a0), (1, .int x1), (2, .int x2), (3, .int x3), (4, .int x4), (5, .long x5), (7, .long x7), (9, .long x9), (11, .long x11)]) hx hb dX9_reckonRange_349 hl (by decide) rfl (fun ls hl => ?_)
  refine lv_aload_n hx hb dX9_reckonRange_351 rfl (lv_at hl 1 rfl) ?_
  refine lv_iload hx hb dX9_reckonRange_352 (lv_at hl 5 rfl) ?_
  refine lv_lconst (v := 0) hx hb dX9_reckonRange_354 (by decide) ?_
  refine lv_lload hx hb dX9_reckonRange_355 (lv_at hl 0 rfl) ?_
  obtain ⟨_, D239, hq238, h⟩ := cq_i h
  refine r_cV (st' := []) [.int x4, .long (0 : Int64), .long xs0] [] hC hw kc_8 hi0 (k_X9_number _ hi0 hq238) mk_X9_number lk_1493 ⟨Nat.le_trans (by decide) hR.1, Nat.le_trans (by decide) hR.2⟩ ⟨Nat.zero_le _, Nat.zero_le _⟩ rfl hl.1 rfl rfl (Nat.le_of_ble_eq_true rfl) dX9_reckonRange_357 (fun hP H locs hw => ?_)
  refine lv_lload hx hb dX9_reckonRange_360 (lv_at hl 8 rfl) ?_
  refine lv_l2i (v := x9.toInt32) hx hb dX9_reckonRange_362 rfl ?_
  refine lv_iload_n hx hb dX9_reckonRange_363 rfl (lv_at hl 4 rfl) ?_
  refine lv_if_eq (tgt := 372) hx hb dX9_reckonRange_364 (by decide) (fun c240 => ?_) (fun c240 => ?_)
  · have h := i_yes c240 h
    refine lv_bipush (v := 31) hx hb dX9_reckonRange_372 (by decide) ?_
    exact w_X9_reckonRange_374 hC hR o0 a0 x1 x2 x3 x4 x5 x7 x9 x11 xs0 x9.toInt32 (31 : Int32) _ _ _ _ hi0 hw (lv_sub hl [1, 2, 3, 4, 5, 6, 7, 8, 9, 0] rfl) h
  · have h := i_no c240 h
    refine lv_bipush (v := 63) hx hb dX9_reckonRange_367 (by decide) ?_
    refine lv_goto (tgt := 374) hx hb dX9_reckonRange_369 (by decide) ?_
    exact w_X9_reckonRange_374 hC hR o0 a0 x1 x2 x3 x4 x5 x7 x9 x11 xs0 x9.toInt32 (63 : Int32) _ _ _ _ hi0 hw (lv_sub hl [1, 2, 3, 4, 5, 6, 7, 8, 9, 0] rfl) h
set_option maxHeartbeats 4000000 in
set_option maxRecDepth 100000 in
theorem w_X9_reckonRange_307 {r : Unit} {D' : dt} (hC : Cx RX9 cX9_reckonRange 24 none p s m args meth c) (hR : 5 ≤ R.frames ∧ 139 ≤ R.locals) : ∀ (o0 a0 : Nat) (x1 : Int32) (x2 : Int32) (x3 : Int32) (x4 : Int32) (x5 : Int64) (x7 : Int64) (x9 : Int64) (x11 : Int64) (xs0 : Int32) (D : dt) (H : Heap) (locs : List Loc) (ls : Array Slot), Is S ad o0 a0 8 → Wd G cA S D ad A s H locs → lv_has ls 24 [(0, .ref a0), (1, .int x1), (2, .int x2), (3, .int x3), (4, .int x4), (5, .long x5), (7, .long x7), (9, .long x9), (11, .long x11)] → f_X9_reckonRange_307 S o0 x1 x2 x3 x4 x5 x7 x9 x11 xs0 D = some (r, D') → W p l e R s m args below meth c H locs 0 0 (MQ below (Qn none True (wpost G cA S D' ad A) A) args s 0 0 A) (F0 m 307 ls [.int xs0]) := by
  obtain ⟨hx, hb, -⟩ := id hC
  intro o0 a0 x1 x2 x3 x4 x5 x7 x9 x11 xs0 D H locs ls hi0 hw hl h
  unfold f_X9_reckonRange_307 at h
  refine lv_istore (lv' := [(17, .int xs0), (0, .ref a0), (1, .int x1), (2, .int x2), (3, .int x3), (4, .int x4), (5, .long x5), (7, .long x7), (9, .long x9), (11, .long x11)]) hx hb dX9_reckonRange_307 hl (by decide) rfl (fun ls hl => ?_)
  refine lv_iload hx hb dX9_reckonRange_309 (lv_at hl 0 rfl) ?_
  refine lv_if_eq (tgt := 336) hx hb dX9_reckonRange_311 (by decide) (fun c241 => ?_) (fun c241 => ?_)
  · have h := i_yes c241 h
    refine lv_iload_n hx hb dX9_reckonRange_336 rfl (lv_at hl 4 rfl) ?_
    refine lv_if_eq (tgt := 346) hx hb dX9_reckonRange_337 (by decide) (fun c242 => ?_) (fun c242 => ?_)
    · have h := i_yes c242 h
      refine lv_ldc2 (v := 4294967295) hx hb hC.2.2.2.1 (hC.2.2.2.2.1 _ lk_1344) dX9_reckonRange_346 ?_
      exact w_X9_reckonRange_349 hC hR o0 a0 x1 x2 x3 x4 x5 x7 x9 x11 (4294967295 : Int64) _ _ _ _ hi0 hw (lv_sub hl [1, 2, 3, 4, 5, 6, 7, 8, 9] rfl) h
    · have h := i_no c242 h
      refine lv_ldc2 (v := (-1)) hx hb hC.2.2.2.1 (hC.2.2.2.2.1 _ lk_1362) dX9_reckonRange_340 ?_
      refine lv_goto (tgt := 349) hx hb dX9_reckonRange_343 (by decide) ?_
      exact w_X9_reckonRange_349 hC hR o0 a0 x1 x2 x3 x4 x5 x7 x9 x11 (-1 : Int64) _ _ _ _ hi0 hw (lv_sub hl [1, 2, 3, 4, 5, 6, 7, 8, 9] rfl) h
  · have h := i_no c241 h
    refine lv_aload_n hx hb dX9_reckonRange_314 rfl (lv_at hl 1 rfl) ?_
    refine lv_iload_n hx hb dX9_reckonRange_315 rfl (lv_at hl 2 rfl) ?_
    refine lv_lload hx hb dX9_reckonRange_316 (lv_at hl 6 rfl) ?_
    refine lv_lload hx hb dX9_reckonRange_318 (lv_at hl 8 rfl) ?_
    obtain ⟨r244, D245, hq243, h⟩ := cq_i h
    refine r_cV (st' := [.long r244]) [.int x1, .long x5, .long x9] [] hC hw kc_8 hi0 (k_X9_reckon _ hi0 hq243) mk_X9_reckon lk_1337 ⟨Nat.le_trans (by decide) hR.1, Nat.le_trans (by decide) hR.2⟩ ⟨Nat.zero_le _, Nat.zero_le _⟩ rfl hl.1 rfl rfl (Nat.le_of_ble_eq_true rfl) dX9_reckonRange_320 (fun hP H locs hw => ?_)
    refine lv_lstore (lv' := [(18, .long r244), (17, .int xs0), (0, .ref a0), (1, .int x1), (2, .int x2), (3, .int x3), (4, .int x4), (5, .long x5), (7, .long x7), (9, .long x9), (11, .long x11)]) hx hb dX9_reckonRange_323 hl (by decide) rfl (fun ls hl => ?_)
    refine lv_aload_n hx hb dX9_reckonRange_325 rfl (lv_at hl 2 rfl) ?_
    refine lv_iload hx hb dX9_reckonRange_326 (lv_at hl 6 rfl) ?_
    refine lv_lload hx hb dX9_reckonRange_328 (lv_at hl 0 rfl) ?_
    refine lv_lload hx hb dX9_reckonRange_330 (lv_at hl 0 rfl) ?_
    obtain ⟨_, D247, hq246, h⟩ := cq_i h
    refine r_cV (st' := []) [.int x4, .long r244, .long r244] [] hC hw kc_8 hi0 (k_X9_number _ hi0 hq246) mk_X9_number lk_1493 ⟨Nat.le_trans (by decide) hR.1, Nat.le_trans (by decide) hR.2⟩ ⟨Nat.zero_le _, Nat.zero_le _⟩ rfl hl.1 rfl rfl (Nat.le_of_ble_eq_true rfl) dX9_reckonRange_332 (fun hP H locs hw => ?_)
    cases h
    exact r_vret hC hw dX9_reckonRange_335
set_option maxHeartbeats 4000000 in
set_option maxRecDepth 100000 in
theorem w_X9_reckonRange_306 {r : Unit} {D' : dt} (hC : Cx RX9 cX9_reckonRange 24 none p s m args meth c) (hR : 5 ≤ R.frames ∧ 139 ≤ R.locals) : ∀ (o0 a0 : Nat) (x1 : Int32) (x2 : Int32) (x3 : Int32) (x4 : Int32) (x5 : Int64) (x7 : Int64) (x9 : Int64) (x11 : Int64) (D : dt) (H : Heap) (locs : List Loc) (ls : Array Slot), Is S ad o0 a0 8 → Wd G cA S D ad A s H locs → lv_has ls 24 [(0, .ref a0), (1, .int x1), (2, .int x2), (3, .int x3), (4, .int x4), (5, .long x5), (7, .long x7), (9, .long x9), (11, .long x11)] → f_X9_reckonRange_306 S o0 x1 x2 x3 x4 x5 x7 x9 x11 D = some (r, D') → W p l e R s m args below meth c H locs 0 0 (MQ below (Qn none True (wpost G cA S D' ad A) A) args s 0 0 A) (F0 m 306 ls []) := by
  obtain ⟨hx, hb, -⟩ := id hC
  intro o0 a0 x1 x2 x3 x4 x5 x7 x9 x11 D H locs ls hi0 hw hl h
  unfold f_X9_reckonRange_306 at h
  refine lv_iconst (v := 0) hx hb dX9_reckonRange_306 (by decide) ?_
  exact w_X9_reckonRange_307 hC hR o0 a0 x1 x2 x3 x4 x5 x7 x9 x11 (0 : Int32) _ _ _ _ hi0 hw (lv_sub hl [0, 1, 2, 3, 4, 5, 6, 7, 8] rfl) h
set_option maxHeartbeats 4000000 in
set_option maxRecDepth 100000 in
theorem w_X9_reckonRange_270 {r : Unit} {D' : dt} (hC : Cx RX9 cX9_reckonRange 24 none p s m args meth c) (hR : 5 ≤ R.frames ∧ 139 ≤ R.locals) : ∀ (o0 a0 : Nat) (x1 : Int32) (x2 : Int32) (x3 : Int32) (x4 : Int32) (x5 : Int64) (x7 : Int64) (x9 : Int64) (x11 : Int64) (D : dt) (H : Heap) (locs : List Loc) (ls : Array Slot), Is S ad o0 a0 8 → Wd G cA S D ad A s H locs → lv_has ls 24 [(0, .ref a0), (1, .int x1), (2, .int x2), (3, .int x3), (4, .int x4), (5, .long x5), (7, .long x7), (9, .long x9), (11, .long x11)] → f_X9_reckonRange_270 S o0 x1 x2 x3 x4 x5 x7 x9 x11 D = some (r, D') → W p l e R s m args below meth c H locs 0 0 (MQ below (Qn none True (wpost G cA S D' ad A) A) args s 0 0 A) (F0 m 270 ls []) := by
  obtain ⟨hx, hb, -⟩ := id hC
  intro o0 a0 x1 x2 x3 x4 x5 x7 x9 x11 D H locs ls hi0 hw hl h
  unfold f_X9_reckonRange_270 at h
  refine lv_lload hx hb dX9_reckonRange_270 (lv_at hl 5 rfl) ?_
  refine lv_lload hx hb dX9_reckonRange_272 (lv_at hl 6 rfl) ?_
  refine W.lcmp hx hb dX9_reckonRange_274 ?_
  refine lv_if_ne (tgt := 282) hx hb dX9_reckonRange_275 (by decide) (fun c248 => ?_) (fun c248 => ?_)
  · have h := i_no c248 h
    refine lv_iconst (v := 0) hx hb dX9_reckonRange_282 (by decide) ?_
    refine lv_goto (tgt := 307) hx hb dX9_reckonRange_283 (by decide) ?_
    exact w_X9_reckonRange_307 hC hR o0 a0 x1 x2 x3 x4 x5 x7 x9 x11 (0 : Int32) _ _ _ _ hi0 hw (lv_sub hl [0, 1, 2, 3, 4, 5, 6, 7, 8] rfl) h
  · have h := i_yes c248 h
    refine lv_iconst (v := 1) hx hb dX9_reckonRange_278 (by decide) ?_
    refine lv_goto (tgt := 307) hx hb dX9_reckonRange_279 (by decide) ?_
    exact w_X9_reckonRange_307 hC hR o0 a0 x1 x2 x3 x4 x5 x7 x9 x11 (1 : Int32) _ _ _ _ hi0 hw (lv_sub hl [0, 1, 2, 3, 4, 5, 6, 7, 8] rfl) h
set_option maxHeartbeats 4000000 in
set_option maxRecDepth 100000 in
theorem w_X9_reckonRange_234 {r : Unit} {D' : dt} (hC : Cx RX9 cX9_reckonRange 24 none p s m args meth c) (hR : 5 ≤ R.frames ∧ 139 ≤ R.locals) : ∀ (o0 a0 : Nat) (x1 : Int32) (x2 : Int32) (x3 : Int32) (x4 : Int32) (x5 : Int64) (x7 : Int64) (x9 : Int64) (xs0 : Int64) (D : dt) (H : Heap) (locs : List Loc) (ls : Array Slot), Is S ad o0 a0 8 → Wd G cA S D ad A s H locs → lv_has ls 24 [(0, .ref a0), (1, .int x1), (2, .int x2), (3, .int x3), (4, .int x4), (5, .long x5), (7, .long x7), (9, .long x9)] → f_X9_reckonRange_234 S o0 x1 x2 x3 x4 x5 x7 x9 xs0 D = some (r, D') → W p l e R s m args below meth c H locs 0 0 (MQ below (Qn none True (wpost G cA S D' ad A) A) args s 0 0 A) (F0 m 234 ls [.long xs0]) := by
  obtain ⟨hx, hb, -⟩ := id hC
  intro o0 a0 x1 x2 x3 x4 x5 x7 x9 xs0 D H locs ls hi0 hw hl h
  unfold f_X9_reckonRange_234 at h
  refine lv_lstore (lv' := [(11, .long xs0), (0, .ref a0), (1, .int x1), (2, .int x2), (3, .int x3), (4, .int x4), (5, .long x5), (7, .long x7), (9, .long x9)]) hx hb dX9_reckonRange_234 hl (by decide) rfl (fun ls hl => ?_)
  refine lv_iload_n hx hb dX9_reckonRange_236 rfl (lv_at hl 3 rfl) ?_
  refine lv_bipush (v := 11) hx hb dX9_reckonRange_237 (by decide) ?_
  refine lv_icmp_ne (tgt := 258) hx hb dX9_reckonRange_239 (by decide) (fun c249 => ?_) (fun c249 => ?_)
  · have h := i_no c249 h
    refine lv_iload_n hx hb dX9_reckonRange_258 rfl (lv_at hl 3 rfl) ?_
    refine lv_bipush (v := 8) hx hb dX9_reckonRange_259 (by decide) ?_
    refine lv_icmp_eq (tgt := 270) hx hb dX9_reckonRange_261 (by decide) (fun c250 => ?_) (fun c250 => ?_)
    · have h := i_yes c250 h
      exact w_X9_reckonRange_270 hC hR o0 a0 x1 x2 x3 x4 x5 x7 x9 xs0 _ _ _ _ hi0 hw (lv_sub hl [1, 2, 3, 4, 5, 6, 7, 8, 0] rfl) h
    · have h := i_no c250 h
      refine lv_iload_n hx hb dX9_reckonRange_264 rfl (lv_at hl 3 rfl) ?_
      refine lv_bipush (v := 13) hx hb dX9_reckonRange_265 (by decide) ?_
      refine lv_icmp_ne (tgt := 286) hx hb dX9_reckonRange_267 (by decide) (fun c251 => ?_) (fun c251 => ?_)
      · have h := i_no c251 h
        refine lv_lload hx hb dX9_reckonRange_286 (lv_at hl 6 rfl) ?_
        refine lv_lload hx hb dX9_reckonRange_288 (lv_at hl 7 rfl) ?_
        refine W.lcmp hx hb dX9_reckonRange_290 ?_
        refine lv_if_ne (tgt := 306) hx hb dX9_reckonRange_291 (by decide) (fun c252 => ?_) (fun c252 => ?_)
        · have h := i_no c252 h
          exact w_X9_reckonRange_306 hC hR o0 a0 x1 x2 x3 x4 x5 x7 x9 xs0 _ _ _ _ hi0 hw (lv_sub hl [1, 2, 3, 4, 5, 6, 7, 8, 0] rfl) h
        · have h := i_yes c252 h
          refine lv_lload hx hb dX9_reckonRange_294 (lv_at hl 8 rfl) ?_
          refine lv_lload hx hb dX9_reckonRange_296 (lv_at hl 0 rfl) ?_
          refine W.lcmp hx hb dX9_reckonRange_298 ?_
          refine lv_if_ne (tgt := 306) hx hb dX9_reckonRange_299 (by decide) (fun c253 => ?_) (fun c253 => ?_)
          · have h := i_no c253 h
            exact w_X9_reckonRange_306 hC hR o0 a0 x1 x2 x3 x4 x5 x7 x9 xs0 _ _ _ _ hi0 hw (lv_sub hl [1, 2, 3, 4, 5, 6, 7, 8, 0] rfl) h
          · have h := i_yes c253 h
            refine lv_iconst (v := 1) hx hb dX9_reckonRange_302 (by decide) ?_
            refine lv_goto (tgt := 307) hx hb dX9_reckonRange_303 (by decide) ?_
            exact w_X9_reckonRange_307 hC hR o0 a0 x1 x2 x3 x4 x5 x7 x9 xs0 (1 : Int32) _ _ _ _ hi0 hw (lv_sub hl [1, 2, 3, 4, 5, 6, 7, 8, 0] rfl) h
      · have h := i_yes c251 h
        exact w_X9_reckonRange_270 hC hR o0 a0 x1 x2 x3 x4 x5 x7 x9 xs0 _ _ _ _ hi0 hw (lv_sub hl [1, 2, 3, 4, 5, 6, 7, 8, 0] rfl) h
  · have h := i_yes c249 h
    refine lv_lload hx hb dX9_reckonRange_242 (lv_at hl 8 rfl) ?_
    refine lv_lload hx hb dX9_reckonRange_244 (lv_at hl 0 rfl) ?_
    refine W.lcmp hx hb dX9_reckonRange_246 ?_
    refine lv_if_ne (tgt := 254) hx hb dX9_reckonRange_247 (by decide) (fun c254 => ?_) (fun c254 => ?_)
    · have h := i_no c254 h
      refine lv_iconst (v := 0) hx hb dX9_reckonRange_254 (by decide) ?_
      refine lv_goto (tgt := 307) hx hb dX9_reckonRange_255 (by decide) ?_
      exact w_X9_reckonRange_307 hC hR o0 a0 x1 x2 x3 x4 x5 x7 x9 xs0 (0 : Int32) _ _ _ _ hi0 hw (lv_sub hl [1, 2, 3, 4, 5, 6, 7, 8, 0] rfl) h
    · have h := i_yes c254 h
      refine lv_iconst (v := 1) hx hb dX9_reckonRange_250 (by decide) ?_
      refine lv_goto (tgt := 307) hx hb dX9_reckonRange_251 (by decide) ?_
      exact w_X9_reckonRange_307 hC hR o0 a0 x1 x2 x3 x4 x5 x7 x9 xs0 (1 : Int32) _ _ _ _ hi0 hw (lv_sub hl [1, 2, 3, 4, 5, 6, 7, 8, 0] rfl) h
set_option maxHeartbeats 4000000 in
set_option maxRecDepth 100000 in
theorem w_X9_reckonRange_205 {r : Unit} {D' : dt} (hC : Cx RX9 cX9_reckonRange 24 none p s m args meth c) (hR : 5 ≤ R.frames ∧ 139 ≤ R.locals) : ∀ (o0 a0 : Nat) (x1 : Int32) (x2 : Int32) (x3 : Int32) (x4 : Int32) (x5 : Int64) (x7 : Int64) (x11 : Int64) (x14 : Int32) (x16 : Int32) (xs0 : Int64) (D : dt) (H : Heap) (locs : List Loc) (ls : Array Slot), Is S ad o0 a0 8 → Wd G cA S D ad A s H locs → lv_has ls 24 [(0, .ref a0), (1, .int x1), (2, .int x2), (3, .int x3), (4, .int x4), (5, .long x5), (7, .long x7), (11, .long x11), (14, .int x14), (16, .int x16)] → f_X9_reckonRange_205 S o0 x1 x2 x3 x4 x5 x7 x11 x14 x16 xs0 D = some (r, D') → W p l e R s m args below meth c H locs 0 0 (MQ below (Qn none True (wpost G cA S D' ad A) A) args s 0 0 A) (F0 m 205 ls [.long xs0]) := by
  obtain ⟨hx, hb, -⟩ := id hC
  intro o0 a0 x1 x2 x3 x4 x5 x7 x11 x14 x16 xs0 D H locs ls hi0 hw hl h
  unfold f_X9_reckonRange_205 at h
  refine lv_lstore (lv' := [(9, .long xs0), (0, .ref a0), (1, .int x1), (2, .int x2), (3, .int x3), (4, .int x4), (5, .long x5), (7, .long x7), (11, .long x11), (14, .int x14), (16, .int x16)]) hx hb dX9_reckonRange_205 hl (by decide) rfl (fun ls hl => ?_)
  refine lv_iload hx hb dX9_reckonRange_207 (lv_at hl 9 rfl) ?_
  refine lv_if_eq (tgt := 232) hx hb dX9_reckonRange_209 (by decide) (fun c255 => ?_) (fun c255 => ?_)
  · have h := i_yes c255 h
    refine lv_lload hx hb dX9_reckonRange_232 (lv_at hl 8 rfl) ?_
    exact w_X9_reckonRange_234 hC hR o0 a0 x1 x2 x3 x4 x5 x7 xs0 x11 _ _ _ _ hi0 hw (lv_sub hl [1, 2, 3, 4, 5, 6, 7, 0] rfl) h
  · have h := i_no c255 h
    refine lv_iload hx hb dX9_reckonRange_212 (lv_at hl 10 rfl) ?_
    refine lv_if_eq (tgt := 226) hx hb dX9_reckonRange_214 (by decide) (fun c256 => ?_) (fun c256 => ?_)
    · have h := i_yes c256 h
      refine lv_ldc2 (v := 4294967295) hx hb hC.2.2.2.1 (hC.2.2.2.2.1 _ lk_1344) dX9_reckonRange_226 ?_
      refine lv_goto (tgt := 234) hx hb dX9_reckonRange_229 (by decide) ?_
      exact w_X9_reckonRange_234 hC hR o0 a0 x1 x2 x3 x4 x5 x7 xs0 (4294967295 : Int64) _ _ _ _ hi0 hw (lv_sub hl [1, 2, 3, 4, 5, 6, 7, 0] rfl) h
    · have h := i_no c256 h
      refine lv_lload hx hb dX9_reckonRange_217 (lv_at hl 8 rfl) ?_
      refine lv_ldc2 (v := 4294967295) hx hb hC.2.2.2.1 (hC.2.2.2.2.1 _ lk_1344) dX9_reckonRange_219 ?_
      refine lv_land hx hb dX9_reckonRange_222 ?_
      refine lv_goto (tgt := 234) hx hb dX9_reckonRange_223 (by decide) ?_
      exact w_X9_reckonRange_234 hC hR o0 a0 x1 x2 x3 x4 x5 x7 xs0 (x11 &&& (4294967295 : Int64)) _ _ _ _ hi0 hw (lv_sub hl [1, 2, 3, 4, 5, 6, 7, 0] rfl) h
set_option maxHeartbeats 4000000 in
set_option maxRecDepth 100000 in
theorem w_X9_reckonRange_178 {r : Unit} {D' : dt} (hC : Cx RX9 cX9_reckonRange 24 none p s m args meth c) (hR : 5 ≤ R.frames ∧ 139 ≤ R.locals) : ∀ (o0 a0 : Nat) (x1 : Int32) (x2 : Int32) (x3 : Int32) (x4 : Int32) (x5 : Int64) (x9 : Int64) (x11 : Int64) (x14 : Int32) (x16 : Int32) (xs0 : Int64) (D : dt) (H : Heap) (locs : List Loc) (ls : Array Slot), Is S ad o0 a0 8 → Wd G cA S D ad A s H locs → lv_has ls 24 [(0, .ref a0), (1, .int x1), (2, .int x2), (3, .int x3), (4, .int x4), (5, .long x5), (9, .long x9), (11, .long x11), (14, .int x14), (16, .int x16)] → f_X9_reckonRange_178 S o0 x1 x2 x3 x4 x5 x9 x11 x14 x16 xs0 D = some (r, D') → W p l e R s m args below meth c H locs 0 0 (MQ below (Qn none True (wpost G cA S D' ad A) A) args s 0 0 A) (F0 m 178 ls [.long xs0]) := by
  obtain ⟨hx, hb, -⟩ := id hC
  intro o0 a0 x1 x2 x3 x4 x5 x9 x11 x14 x16 xs0 D H locs ls hi0 hw hl h
  unfold f_X9_reckonRange_178 at h
  refine lv_lstore (lv' := [(7, .long xs0), (0, .ref a0), (1, .int x1), (2, .int x2), (3, .int x3), (4, .int x4), (5, .long x5), (9, .long x9), (11, .long x11), (14, .int x14), (16, .int x16)]) hx hb dX9_reckonRange_178 hl (by decide) rfl (fun ls hl => ?_)
  refine lv_iload hx hb dX9_reckonRange_180 (lv_at hl 9 rfl) ?_
  refine lv_if_eq (tgt := 203) hx hb dX9_reckonRange_182 (by decide) (fun c257 => ?_) (fun c257 => ?_)
  · have h := i_yes c257 h
    refine lv_lload hx hb dX9_reckonRange_203 (lv_at hl 7 rfl) ?_
    exact w_X9_reckonRange_205 hC hR o0 a0 x1 x2 x3 x4 x5 xs0 x11 x14 x16 x9 _ _ _ _ hi0 hw (lv_sub hl [1, 2, 3, 4, 5, 6, 0, 8, 9, 10] rfl) h
  · have h := i_no c257 h
    refine lv_iload hx hb dX9_reckonRange_185 (lv_at hl 10 rfl) ?_
    refine lv_if_eq (tgt := 199) hx hb dX9_reckonRange_187 (by decide) (fun c258 => ?_) (fun c258 => ?_)
    · have h := i_yes c258 h
      refine lv_lconst (v := 0) hx hb dX9_reckonRange_199 (by decide) ?_
      refine lv_goto (tgt := 205) hx hb dX9_reckonRange_200 (by decide) ?_
      exact w_X9_reckonRange_205 hC hR o0 a0 x1 x2 x3 x4 x5 xs0 x11 x14 x16 (0 : Int64) _ _ _ _ hi0 hw (lv_sub hl [1, 2, 3, 4, 5, 6, 0, 8, 9, 10] rfl) h
    · have h := i_no c258 h
      refine lv_lload hx hb dX9_reckonRange_190 (lv_at hl 7 rfl) ?_
      refine lv_ldc2 (v := 4294967295) hx hb hC.2.2.2.1 (hC.2.2.2.2.1 _ lk_1344) dX9_reckonRange_192 ?_
      refine lv_land hx hb dX9_reckonRange_195 ?_
      refine lv_goto (tgt := 205) hx hb dX9_reckonRange_196 (by decide) ?_
      exact w_X9_reckonRange_205 hC hR o0 a0 x1 x2 x3 x4 x5 xs0 x11 x14 x16 (x9 &&& (4294967295 : Int64)) _ _ _ _ hi0 hw (lv_sub hl [1, 2, 3, 4, 5, 6, 0, 8, 9, 10] rfl) h
set_option maxHeartbeats 4000000 in
set_option maxRecDepth 100000 in
theorem w_X9_reckonRange_149 {r : Unit} {D' : dt} (hC : Cx RX9 cX9_reckonRange 24 none p s m args meth c) (hR : 5 ≤ R.frames ∧ 139 ≤ R.locals) : ∀ (o0 a0 : Nat) (x1 : Int32) (x2 : Int32) (x3 : Int32) (x4 : Int32) (x7 : Int64) (x9 : Int64) (x11 : Int64) (x13 : Int32) (x14 : Int32) (x15 : Int32) (x16 : Int32) (xs0 : Int64) (D : dt) (H : Heap) (locs : List Loc) (ls : Array Slot), Is S ad o0 a0 8 → Wd G cA S D ad A s H locs → lv_has ls 24 [(0, .ref a0), (1, .int x1), (2, .int x2), (3, .int x3), (4, .int x4), (7, .long x7), (9, .long x9), (11, .long x11), (13, .int x13), (14, .int x14), (15, .int x15), (16, .int x16)] → f_X9_reckonRange_149 S o0 x1 x2 x3 x4 x7 x9 x11 x13 x14 x15 x16 xs0 D = some (r, D') → W p l e R s m args below meth c H locs 0 0 (MQ below (Qn none True (wpost G cA S D' ad A) A) args s 0 0 A) (F0 m 149 ls [.long xs0]) := by
  obtain ⟨hx, hb, -⟩ := id hC
  intro o0 a0 x1 x2 x3 x4 x7 x9 x11 x13 x14 x15 x16 xs0 D H locs ls hi0 hw hl h
  unfold f_X9_reckonRange_149 at h
  refine lv_lstore (lv' := [(5, .long xs0), (0, .ref a0), (1, .int x1), (2, .int x2), (3, .int x3), (4, .int x4), (7, .long x7), (9, .long x9), (11, .long x11), (13, .int x13), (14, .int x14), (15, .int x15), (16, .int x16)]) hx hb dX9_reckonRange_149 hl (by decide) rfl (fun ls hl => ?_)
  refine lv_iload hx hb dX9_reckonRange_151 (lv_at hl 9 rfl) ?_
  refine lv_if_eq (tgt := 176) hx hb dX9_reckonRange_153 (by decide) (fun c259 => ?_) (fun c259 => ?_)
  · have h := i_yes c259 h
    refine lv_lload hx hb dX9_reckonRange_176 (lv_at hl 6 rfl) ?_
    exact w_X9_reckonRange_178 hC hR o0 a0 x1 x2 x3 x4 xs0 x9 x11 x14 x16 x7 _ _ _ _ hi0 hw (lv_sub hl [1, 2, 3, 4, 5, 0, 7, 8, 10, 12] rfl) h
  · have h := i_no c259 h
    refine lv_iload hx hb dX9_reckonRange_156 (lv_at hl 11 rfl) ?_
    refine lv_if_eq (tgt := 170) hx hb dX9_reckonRange_158 (by decide) (fun c260 => ?_) (fun c260 => ?_)
    · have h := i_yes c260 h
      refine lv_ldc2 (v := 4294967295) hx hb hC.2.2.2.1 (hC.2.2.2.2.1 _ lk_1344) dX9_reckonRange_170 ?_
      refine lv_goto (tgt := 178) hx hb dX9_reckonRange_173 (by decide) ?_
      exact w_X9_reckonRange_178 hC hR o0 a0 x1 x2 x3 x4 xs0 x9 x11 x14 x16 (4294967295 : Int64) _ _ _ _ hi0 hw (lv_sub hl [1, 2, 3, 4, 5, 0, 7, 8, 10, 12] rfl) h
    · have h := i_no c260 h
      refine lv_lload hx hb dX9_reckonRange_161 (lv_at hl 6 rfl) ?_
      refine lv_ldc2 (v := 4294967295) hx hb hC.2.2.2.1 (hC.2.2.2.2.1 _ lk_1344) dX9_reckonRange_163 ?_
      refine lv_land hx hb dX9_reckonRange_166 ?_
      refine lv_goto (tgt := 178) hx hb dX9_reckonRange_167 (by decide) ?_
      exact w_X9_reckonRange_178 hC hR o0 a0 x1 x2 x3 x4 xs0 x9 x11 x14 x16 (x7 &&& (4294967295 : Int64)) _ _ _ _ hi0 hw (lv_sub hl [1, 2, 3, 4, 5, 0, 7, 8, 10, 12] rfl) h
set_option maxHeartbeats 4000000 in
set_option maxRecDepth 100000 in
theorem w_X9_reckonRange_122 {r : Unit} {D' : dt} (hC : Cx RX9 cX9_reckonRange 24 none p s m args meth c) (hR : 5 ≤ R.frames ∧ 139 ≤ R.locals) : ∀ (o0 a0 : Nat) (x1 : Int32) (x2 : Int32) (x3 : Int32) (x4 : Int32) (x5 : Int64) (x7 : Int64) (x9 : Int64) (x11 : Int64) (x13 : Int32) (x14 : Int32) (x15 : Int32) (xs0 : Int32) (D : dt) (H : Heap) (locs : List Loc) (ls : Array Slot), Is S ad o0 a0 8 → Wd G cA S D ad A s H locs → lv_has ls 24 [(0, .ref a0), (1, .int x1), (2, .int x2), (3, .int x3), (4, .int x4), (5, .long x5), (7, .long x7), (9, .long x9), (11, .long x11), (13, .int x13), (14, .int x14), (15, .int x15)] → f_X9_reckonRange_122 S o0 x1 x2 x3 x4 x5 x7 x9 x11 x13 x14 x15 xs0 D = some (r, D') → W p l e R s m args below meth c H locs 0 0 (MQ below (Qn none True (wpost G cA S D' ad A) A) args s 0 0 A) (F0 m 122 ls [.int xs0]) := by
  obtain ⟨hx, hb, -⟩ := id hC
  intro o0 a0 x1 x2 x3 x4 x5 x7 x9 x11 x13 x14 x15 xs0 D H locs ls hi0 hw hl h
  unfold f_X9_reckonRange_122 at h
  refine lv_istore (lv' := [(16, .int xs0), (0, .ref a0), (1, .int x1), (2, .int x2), (3, .int x3), (4, .int x4), (5, .long x5), (7, .long x7), (9, .long x9), (11, .long x11), (13, .int x13), (14, .int x14), (15, .int x15)]) hx hb dX9_reckonRange_122 hl (by decide) rfl (fun ls hl => ?_)
  refine lv_iload hx hb dX9_reckonRange_124 (lv_at hl 10 rfl) ?_
  refine lv_if_eq (tgt := 147) hx hb dX9_reckonRange_126 (by decide) (fun c261 => ?_) (fun c261 => ?_)
  · have h := i_yes c261 h
    refine lv_lload hx hb dX9_reckonRange_147 (lv_at hl 6 rfl) ?_
    exact w_X9_reckonRange_149 hC hR o0 a0 x1 x2 x3 x4 x7 x9 x11 x13 x14 x15 xs0 x5 _ _ _ _ hi0 hw (lv_sub hl [1, 2, 3, 4, 5, 7, 8, 9, 10, 11, 12, 0] rfl) h
  · have h := i_no c261 h
    refine lv_iload hx hb dX9_reckonRange_129 (lv_at hl 12 rfl) ?_
    refine lv_if_eq (tgt := 143) hx hb dX9_reckonRange_131 (by decide) (fun c262 => ?_) (fun c262 => ?_)
    · have h := i_yes c262 h
      refine lv_lconst (v := 0) hx hb dX9_reckonRange_143 (by decide) ?_
      refine lv_goto (tgt := 149) hx hb dX9_reckonRange_144 (by decide) ?_
      exact w_X9_reckonRange_149 hC hR o0 a0 x1 x2 x3 x4 x7 x9 x11 x13 x14 x15 xs0 (0 : Int64) _ _ _ _ hi0 hw (lv_sub hl [1, 2, 3, 4, 5, 7, 8, 9, 10, 11, 12, 0] rfl) h
    · have h := i_no c262 h
      refine lv_lload hx hb dX9_reckonRange_134 (lv_at hl 6 rfl) ?_
      refine lv_ldc2 (v := 4294967295) hx hb hC.2.2.2.1 (hC.2.2.2.2.1 _ lk_1344) dX9_reckonRange_136 ?_
      refine lv_land hx hb dX9_reckonRange_139 ?_
      refine lv_goto (tgt := 149) hx hb dX9_reckonRange_140 (by decide) ?_
      exact w_X9_reckonRange_149 hC hR o0 a0 x1 x2 x3 x4 x7 x9 x11 x13 x14 x15 xs0 (x5 &&& (4294967295 : Int64)) _ _ _ _ hi0 hw (lv_sub hl [1, 2, 3, 4, 5, 7, 8, 9, 10, 11, 12, 0] rfl) h
set_option maxHeartbeats 4000000 in
set_option maxRecDepth 100000 in
theorem w_X9_reckonRange_107 {r : Unit} {D' : dt} (hC : Cx RX9 cX9_reckonRange 24 none p s m args meth c) (hR : 5 ≤ R.frames ∧ 139 ≤ R.locals) : ∀ (o0 a0 : Nat) (x1 : Int32) (x2 : Int32) (x3 : Int32) (x4 : Int32) (x5 : Int64) (x7 : Int64) (x9 : Int64) (x11 : Int64) (x13 : Int32) (x14 : Int32) (xs0 : Int32) (D : dt) (H : Heap) (locs : List Loc) (ls : Array Slot), Is S ad o0 a0 8 → Wd G cA S D ad A s H locs → lv_has ls 24 [(0, .ref a0), (1, .int x1), (2, .int x2), (3, .int x3), (4, .int x4), (5, .long x5), (7, .long x7), (9, .long x9), (11, .long x11), (13, .int x13), (14, .int x14)] → f_X9_reckonRange_107 S o0 x1 x2 x3 x4 x5 x7 x9 x11 x13 x14 xs0 D = some (r, D') → W p l e R s m args below meth c H locs 0 0 (MQ below (Qn none True (wpost G cA S D' ad A) A) args s 0 0 A) (F0 m 107 ls [.int xs0]) := by
  obtain ⟨hx, hb, -⟩ := id hC
  intro o0 a0 x1 x2 x3 x4 x5 x7 x9 x11 x13 x14 xs0 D H locs ls hi0 hw hl h
  unfold f_X9_reckonRange_107 at h
  refine lv_istore (lv' := [(15, .int xs0), (0, .ref a0), (1, .int x1), (2, .int x2), (3, .int x3), (4, .int x4), (5, .long x5), (7, .long x7), (9, .long x9), (11, .long x11), (13, .int x13), (14, .int x14)]) hx hb dX9_reckonRange_107 hl (by decide) rfl (fun ls hl => ?_)
  refine lv_lload hx hb dX9_reckonRange_109 (lv_at hl 8 rfl) ?_
  refine lv_lload hx hb dX9_reckonRange_111 (lv_at hl 9 rfl) ?_
  refine W.lcmp hx hb dX9_reckonRange_113 ?_
  refine lv_if_ne (tgt := 121) hx hb dX9_reckonRange_114 (by decide) (fun c263 => ?_) (fun c263 => ?_)
  · have h := i_no c263 h
    refine lv_iconst (v := 0) hx hb dX9_reckonRange_121 (by decide) ?_
    exact w_X9_reckonRange_122 hC hR o0 a0 x1 x2 x3 x4 x5 x7 x9 x11 x13 x14 xs0 (0 : Int32) _ _ _ _ hi0 hw (lv_sub hl [1, 2, 3, 4, 5, 6, 7, 8, 9, 10, 11, 0] rfl) h
  · have h := i_yes c263 h
    refine lv_iconst (v := 1) hx hb dX9_reckonRange_117 (by decide) ?_
    refine lv_goto (tgt := 122) hx hb dX9_reckonRange_118 (by decide) ?_
    exact w_X9_reckonRange_122 hC hR o0 a0 x1 x2 x3 x4 x5 x7 x9 x11 x13 x14 xs0 (1 : Int32) _ _ _ _ hi0 hw (lv_sub hl [1, 2, 3, 4, 5, 6, 7, 8, 9, 10, 11, 0] rfl) h
set_option maxHeartbeats 4000000 in
set_option maxRecDepth 100000 in
theorem w_X9_reckonRange_92 {r : Unit} {D' : dt} (hC : Cx RX9 cX9_reckonRange 24 none p s m args meth c) (hR : 5 ≤ R.frames ∧ 139 ≤ R.locals) : ∀ (o0 a0 : Nat) (x1 : Int32) (x2 : Int32) (x3 : Int32) (x4 : Int32) (x5 : Int64) (x7 : Int64) (x9 : Int64) (x11 : Int64) (x13 : Int32) (xs0 : Int32) (D : dt) (H : Heap) (locs : List Loc) (ls : Array Slot), Is S ad o0 a0 8 → Wd G cA S D ad A s H locs → lv_has ls 24 [(0, .ref a0), (1, .int x1), (2, .int x2), (3, .int x3), (4, .int x4), (5, .long x5), (7, .long x7), (9, .long x9), (11, .long x11), (13, .int x13)] → f_X9_reckonRange_92 S o0 x1 x2 x3 x4 x5 x7 x9 x11 x13 xs0 D = some (r, D') → W p l e R s m args below meth c H locs 0 0 (MQ below (Qn none True (wpost G cA S D' ad A) A) args s 0 0 A) (F0 m 92 ls [.int xs0]) := by
  obtain ⟨hx, hb, -⟩ := id hC
  intro o0 a0 x1 x2 x3 x4 x5 x7 x9 x11 x13 xs0 D H locs ls hi0 hw hl h
  unfold f_X9_reckonRange_92 at h
  refine lv_istore (lv' := [(14, .int xs0), (0, .ref a0), (1, .int x1), (2, .int x2), (3, .int x3), (4, .int x4), (5, .long x5), (7, .long x7), (9, .long x9), (11, .long x11), (13, .int x13)]) hx hb dX9_reckonRange_92 hl (by decide) rfl (fun ls hl => ?_)
  refine lv_lload hx hb dX9_reckonRange_94 (lv_at hl 6 rfl) ?_
  refine lv_lload hx hb dX9_reckonRange_96 (lv_at hl 7 rfl) ?_
  refine W.lcmp hx hb dX9_reckonRange_98 ?_
  refine lv_if_ne (tgt := 106) hx hb dX9_reckonRange_99 (by decide) (fun c264 => ?_) (fun c264 => ?_)
  · have h := i_no c264 h
    refine lv_iconst (v := 0) hx hb dX9_reckonRange_106 (by decide) ?_
    exact w_X9_reckonRange_107 hC hR o0 a0 x1 x2 x3 x4 x5 x7 x9 x11 x13 xs0 (0 : Int32) _ _ _ _ hi0 hw (lv_sub hl [1, 2, 3, 4, 5, 6, 7, 8, 9, 10, 0] rfl) h
  · have h := i_yes c264 h
    refine lv_iconst (v := 1) hx hb dX9_reckonRange_102 (by decide) ?_
    refine lv_goto (tgt := 107) hx hb dX9_reckonRange_103 (by decide) ?_
    exact w_X9_reckonRange_107 hC hR o0 a0 x1 x2 x3 x4 x5 x7 x9 x11 x13 xs0 (1 : Int32) _ _ _ _ hi0 hw (lv_sub hl [1, 2, 3, 4, 5, 6, 7, 8, 9, 10, 0] rfl) h
set_option maxHeartbeats 4000000 in
set_option maxRecDepth 100000 in
theorem w_X9_reckonRange_91 {r : Unit} {D' : dt} (hC : Cx RX9 cX9_reckonRange 24 none p s m args meth c) (hR : 5 ≤ R.frames ∧ 139 ≤ R.locals) : ∀ (o0 a0 : Nat) (x1 : Int32) (x2 : Int32) (x3 : Int32) (x4 : Int32) (x5 : Int64) (x7 : Int64) (x9 : Int64) (x11 : Int64) (x13 : Int32) (D : dt) (H : Heap) (locs : List Loc) (ls : Array Slot), Is S ad o0 a0 8 → Wd G cA S D ad A s H locs → lv_has ls 24 [(0, .ref a0), (1, .int x1), (2, .int x2), (3, .int x3), (4, .int x4), (5, .long x5), (7, .long x7), (9, .long x9), (11, .long x11), (13, .int x13)] → f_X9_reckonRange_91 S o0 x1 x2 x3 x4 x5 x7 x9 x11 x13 D = some (r, D') → W p l e R s m args below meth c H locs 0 0 (MQ below (Qn none True (wpost G cA S D' ad A) A) args s 0 0 A) (F0 m 91 ls []) := by
  obtain ⟨hx, hb, -⟩ := id hC
  intro o0 a0 x1 x2 x3 x4 x5 x7 x9 x11 x13 D H locs ls hi0 hw hl h
  unfold f_X9_reckonRange_91 at h
  refine lv_iconst (v := 0) hx hb dX9_reckonRange_91 (by decide) ?_
  exact w_X9_reckonRange_92 hC hR o0 a0 x1 x2 x3 x4 x5 x7 x9 x11 x13 (0 : Int32) _ _ _ _ hi0 hw (lv_sub hl [0, 1, 2, 3, 4, 5, 6, 7, 8, 9] rfl) h
set_option maxHeartbeats 4000000 in
set_option maxRecDepth 100000 in
theorem w_X9_reckonRange_64 {r : Unit} {D' : dt} (hC : Cx RX9 cX9_reckonRange 24 none p s m args meth c) (hR : 5 ≤ R.frames ∧ 139 ≤ R.locals) : ∀ (o0 a0 : Nat) (x1 : Int32) (x2 : Int32) (x3 : Int32) (x4 : Int32) (x5 : Int64) (x7 : Int64) (x9 : Int64) (x11 : Int64) (xs0 : Int32) (D : dt) (H : Heap) (locs : List Loc) (ls : Array Slot), Is S ad o0 a0 8 → Wd G cA S D ad A s H locs → lv_has ls 24 [(0, .ref a0), (1, .int x1), (2, .int x2), (3, .int x3), (4, .int x4), (5, .long x5), (7, .long x7), (9, .long x9), (11, .long x11)] → f_X9_reckonRange_64 S o0 x1 x2 x3 x4 x5 x7 x9 x11 xs0 D = some (r, D') → W p l e R s m args below meth c H locs 0 0 (MQ below (Qn none True (wpost G cA S D' ad A) A) args s 0 0 A) (F0 m 64 ls [.int xs0]) := by
  obtain ⟨hx, hb, -⟩ := id hC
  intro o0 a0 x1 x2 x3 x4 x5 x7 x9 x11 xs0 D H locs ls hi0 hw hl h
  unfold f_X9_reckonRange_64 at h
  refine lv_istore (lv' := [(13, .int xs0), (0, .ref a0), (1, .int x1), (2, .int x2), (3, .int x3), (4, .int x4), (5, .long x5), (7, .long x7), (9, .long x9), (11, .long x11)]) hx hb dX9_reckonRange_64 hl (by decide) rfl (fun ls hl => ?_)
  refine lv_iload_n hx hb dX9_reckonRange_66 rfl (lv_at hl 4 rfl) ?_
  refine lv_if_ne (tgt := 91) hx hb dX9_reckonRange_67 (by decide) (fun c265 => ?_) (fun c265 => ?_)
  · have h := i_no c265 h
    exact w_X9_reckonRange_91 hC hR o0 a0 x1 x2 x3 x4 x5 x7 x9 x11 xs0 _ _ _ _ hi0 hw (lv_sub hl [1, 2, 3, 4, 5, 6, 7, 8, 9, 0] rfl) h
  · have h := i_yes c265 h
    refine lv_iload_n hx hb dX9_reckonRange_70 rfl (lv_at hl 3 rfl) ?_
    refine lv_bipush (v := 13) hx hb dX9_reckonRange_71 (by decide) ?_
    refine lv_icmp_eq (tgt := 91) hx hb dX9_reckonRange_73 (by decide) (fun c266 => ?_) (fun c266 => ?_)
    · have h := i_yes c266 h
      exact w_X9_reckonRange_91 hC hR o0 a0 x1 x2 x3 x4 x5 x7 x9 x11 xs0 _ _ _ _ hi0 hw (lv_sub hl [1, 2, 3, 4, 5, 6, 7, 8, 9, 0] rfl) h
    · have h := i_no c266 h
      refine lv_ldc2 (v := 4294967295) hx hb hC.2.2.2.1 (hC.2.2.2.2.1 _ lk_1344) dX9_reckonRange_76 ?_
      refine lv_lload hx hb dX9_reckonRange_79 (lv_at hl 9 rfl) ?_
      obtain ⟨r268, hq267, h⟩ := pq_i h
      refine r_cS (st' := [.int r268]) [.long (4294967295 : Int64), .long x11] [] hC hw (k_X9_isBelow _ hq267) mk_X9_isBelow lk_1355 ⟨Nat.le_trans (by decide) hR.1, Nat.le_trans (by decide) hR.2⟩ ⟨Nat.zero_le _, Nat.zero_le _⟩ rfl hl.1 rfl rfl (Nat.le_of_ble_eq_true rfl) dX9_reckonRange_81 (fun hP H locs hw => ?_)
      refine lv_if_eq (tgt := 91) hx hb dX9_reckonRange_84 (by decide) (fun c269 => ?_) (fun c269 => ?_)
      · have h := i_yes c269 h
        exact w_X9_reckonRange_91 hC hR o0 a0 x1 x2 x3 x4 x5 x7 x9 x11 xs0 _ _ _ _ hi0 hw (lv_sub hl [1, 2, 3, 4, 5, 6, 7, 8, 9, 0] rfl) h
      · have h := i_no c269 h
        refine lv_iconst (v := 1) hx hb dX9_reckonRange_87 (by decide) ?_
        refine lv_goto (tgt := 92) hx hb dX9_reckonRange_88 (by decide) ?_
        exact w_X9_reckonRange_92 hC hR o0 a0 x1 x2 x3 x4 x5 x7 x9 x11 xs0 (1 : Int32) _ _ _ _ hi0 hw (lv_sub hl [1, 2, 3, 4, 5, 6, 7, 8, 9, 0] rfl) h
set_option maxHeartbeats 4000000 in
set_option maxRecDepth 100000 in
theorem w_X9_reckonRange_63 {r : Unit} {D' : dt} (hC : Cx RX9 cX9_reckonRange 24 none p s m args meth c) (hR : 5 ≤ R.frames ∧ 139 ≤ R.locals) : ∀ (o0 a0 : Nat) (x1 : Int32) (x2 : Int32) (x3 : Int32) (x4 : Int32) (x5 : Int64) (x7 : Int64) (x9 : Int64) (x11 : Int64) (D : dt) (H : Heap) (locs : List Loc) (ls : Array Slot), Is S ad o0 a0 8 → Wd G cA S D ad A s H locs → lv_has ls 24 [(0, .ref a0), (1, .int x1), (2, .int x2), (3, .int x3), (4, .int x4), (5, .long x5), (7, .long x7), (9, .long x9), (11, .long x11)] → f_X9_reckonRange_63 S o0 x1 x2 x3 x4 x5 x7 x9 x11 D = some (r, D') → W p l e R s m args below meth c H locs 0 0 (MQ below (Qn none True (wpost G cA S D' ad A) A) args s 0 0 A) (F0 m 63 ls []) := by
  obtain ⟨hx, hb, -⟩ := id hC
  intro o0 a0 x1 x2 x3 x4 x5 x7 x9 x11 D H locs ls hi0 hw hl h
  unfold f_X9_reckonRange_63 at h
  refine lv_iconst (v := 0) hx hb dX9_reckonRange_63 (by decide) ?_
  exact w_X9_reckonRange_64 hC hR o0 a0 x1 x2 x3 x4 x5 x7 x9 x11 (0 : Int32) _ _ _ _ hi0 hw (lv_sub hl [0, 1, 2, 3, 4, 5, 6, 7, 8] rfl) h
set_option maxHeartbeats 4000000 in
set_option maxRecDepth 100000 in
theorem w_X9_reckonRange_0 {r : Unit} {D' : dt} (hC : Cx RX9 cX9_reckonRange 24 none p s m args meth c) (hR : 5 ≤ R.frames ∧ 139 ≤ R.locals) : ∀ (o0 a0 : Nat) (x1 : Int32) (x2 : Int32) (x3 : Int32) (D : dt) (H : Heap) (locs : List Loc) (ls : Array Slot), Is S ad o0 a0 8 → Wd G cA S D ad A s H locs → lv_has ls 24 [(0, .ref a0), (1, .int x1), (2, .int x2), (3, .int x3)] → f_X9_reckonRange S o0 x1 x2 x3 D = some (r, D') → W p l e R s m args below meth c H locs 0 0 (MQ below (Qn none True (wpost G cA S D' ad A) A) args s 0 0 A) (F0 m 0 ls []) := by
  obtain ⟨hx, hb, -⟩ := id hC
  intro o0 a0 x1 x2 x3 D H locs ls hi0 hw hl h
  unfold f_X9_reckonRange at h
  refine lv_aload_n hx hb dX9_reckonRange_0 rfl (lv_at hl 0 rfl) ?_
  obtain ⟨o270, ho273, h⟩ := rq_i h
  refine r_getR hC hw kc_8 hi0 2 rfl lk_1071 dX9_reckonRange_1 rfl ho273 (fun a271 hi272 => ?_)
  refine lv_iload_n hx hb dX9_reckonRange_4 rfl (lv_at hl 1 rfl) ?_
  obtain ⟨hn274, h⟩ := ix_i h
  refine r_iald hC hw hi272 hn274 dX9_reckonRange_5 ?_
  refine lv_topi (fun y275 ey275 => ?_)
  have h := nm_i h y275 ey275
  refine lv_istore (lv' := [(4, .int y275), (0, .ref a0), (1, .int x1), (2, .int x2), (3, .int x3)]) hx hb dX9_reckonRange_6 hl (by decide) rfl (fun ls hl => ?_)
  refine lv_aload_n hx hb dX9_reckonRange_8 rfl (lv_at hl 1 rfl) ?_
  obtain ⟨o276, ho279, h⟩ := rq_i h
  refine r_getR hC hw kc_8 hi0 41 rfl lk_1110 dX9_reckonRange_9 rfl ho279 (fun a277 hi278 => ?_)
  refine lv_iload hx hb dX9_reckonRange_12 (lv_at hl 0 rfl) ?_
  obtain ⟨hn280, h⟩ := ix_i h
  refine r_lald hC hw hi278 hn280 dX9_reckonRange_14 ?_
  refine lv_topl (fun y281 ey281 => ?_)
  have h := nm_i h y281 ey281
  refine lv_lstore (lv' := [(5, .long y281), (4, .int y275), (0, .ref a0), (1, .int x1), (2, .int x2), (3, .int x3)]) hx hb dX9_reckonRange_15 hl (by decide) rfl (fun ls hl => ?_)
  refine lv_aload_n hx hb dX9_reckonRange_17 rfl (lv_at hl 2 rfl) ?_
  obtain ⟨o282, ho285, h⟩ := rq_i h
  refine r_getR hC hw kc_8 hi0 42 rfl lk_1111 dX9_reckonRange_18 rfl ho285 (fun a283 hi284 => ?_)
  refine lv_iload hx hb dX9_reckonRange_21 (lv_at hl 1 rfl) ?_
  obtain ⟨hn286, h⟩ := ix_i h
  refine r_lald hC hw hi284 hn286 dX9_reckonRange_23 ?_
  refine lv_topl (fun y287 ey287 => ?_)
  have h := nm_i h y287 ey287
  refine lv_lstore (lv' := [(7, .long y287), (5, .long y281), (4, .int y275), (0, .ref a0), (1, .int x1), (2, .int x2), (3, .int x3)]) hx hb dX9_reckonRange_24 hl (by decide) rfl (fun ls hl => ?_)
  refine lv_aload_n hx hb dX9_reckonRange_26 rfl (lv_at hl 3 rfl) ?_
  refine r_gL hC hw kc_8 hi0 51 rfl lk_1120 dX9_reckonRange_27 ?_
  refine lv_topl (fun y288 ey288 => ?_)
  have h := nm_i h y288 ey288
  refine lv_lstore (lv' := [(9, .long y288), (7, .long y287), (5, .long y281), (4, .int y275), (0, .ref a0), (1, .int x1), (2, .int x2), (3, .int x3)]) hx hb dX9_reckonRange_30 hl (by decide) rfl (fun ls hl => ?_)
  refine lv_aload_n hx hb dX9_reckonRange_32 rfl (lv_at hl 4 rfl) ?_
  refine r_gL hC hw kc_8 hi0 52 rfl lk_1121 dX9_reckonRange_33 ?_
  refine lv_topl (fun y289 ey289 => ?_)
  have h := nm_i h y289 ey289
  refine lv_lstore (lv' := [(11, .long y289), (9, .long y288), (7, .long y287), (5, .long y281), (4, .int y275), (0, .ref a0), (1, .int x1), (2, .int x2), (3, .int x3)]) hx hb dX9_reckonRange_36 hl (by decide) rfl (fun ls hl => ?_)
  refine lv_iload_n hx hb dX9_reckonRange_38 rfl (lv_at hl 8 rfl) ?_
  refine lv_if_ne (tgt := 63) hx hb dX9_reckonRange_39 (by decide) (fun c290 => ?_) (fun c290 => ?_)
  · have h := i_no c290 h
    exact w_X9_reckonRange_63 hC hR o0 a0 x1 x2 x3 y275 y281 y287 y288 y289 _ _ _ _ hi0 hw (lv_sub hl [5, 6, 7, 8, 4, 3, 2, 1, 0] rfl) h
  · have h := i_yes c290 h
    refine lv_iload_n hx hb dX9_reckonRange_42 rfl (lv_at hl 7 rfl) ?_
    refine lv_bipush (v := 13) hx hb dX9_reckonRange_43 (by decide) ?_
    refine lv_icmp_eq (tgt := 63) hx hb dX9_reckonRange_45 (by decide) (fun c291 => ?_) (fun c291 => ?_)
    · have h := i_yes c291 h
      exact w_X9_reckonRange_63 hC hR o0 a0 x1 x2 x3 y275 y281 y287 y288 y289 _ _ _ _ hi0 hw (lv_sub hl [5, 6, 7, 8, 4, 3, 2, 1, 0] rfl) h
    · have h := i_no c291 h
      refine lv_ldc2 (v := 4294967295) hx hb hC.2.2.2.1 (hC.2.2.2.2.1 _ lk_1344) dX9_reckonRange_48 ?_
      refine lv_lload hx hb dX9_reckonRange_51 (lv_at hl 2 rfl) ?_
      obtain ⟨r293, hq292, h⟩ := pq_i h
      refine r_cS (st' := [.int r293]) [.long (4294967295 : Int64), .long y287] [] hC hw (k_X9_isBelow _ hq292) mk_X9_isBelow lk_1355 ⟨Nat.le_trans (by decide) hR.1, Nat.le_trans (by decide) hR.2⟩ ⟨Nat.zero_le _, Nat.zero_le _⟩ rfl hl.1 rfl rfl (Nat.le_of_ble_eq_true rfl) dX9_reckonRange_53 (fun hP H locs hw => ?_)
      refine lv_if_eq (tgt := 63) hx hb dX9_reckonRange_56 (by decide) (fun c294 => ?_) (fun c294 => ?_)
      · have h := i_yes c294 h
        exact w_X9_reckonRange_63 hC hR o0 a0 x1 x2 x3 y275 y281 y287 y288 y289 _ _ _ _ hi0 hw (lv_sub hl [5, 6, 7, 8, 4, 3, 2, 1, 0] rfl) h
      · have h := i_no c294 h
        refine lv_iconst (v := 1) hx hb dX9_reckonRange_59 (by decide) ?_
        refine lv_goto (tgt := 64) hx hb dX9_reckonRange_60 (by decide) ?_
        exact w_X9_reckonRange_64 hC hR o0 a0 x1 x2 x3 y275 y281 y287 y288 y289 (1 : Int32) _ _ _ _ hi0 hw (lv_sub hl [5, 6, 7, 8, 4, 3, 2, 1, 0] rfl) h
set_option maxHeartbeats 4000000 in
set_option maxRecDepth 100000 in
theorem k_X9_reckonRange {l : Launch} {G : va_G} {cA : Nat → ClassId} {S : sh} {D D' : dt} {ad : Nat → Nat} (sz : Nat) {o0 a0 : Nat} {x1 : Int32} {x2 : Int32} {x3 : Int32} {r : Unit} (hi0 : Is S ad o0 a0 8) (h : f_X9_reckonRange S o0 x1 x2 x3 D = some (r, D')) : Co l yX9_reckonRange (Cond.code yX9_reckonRange cX9_reckonRange 24 none :: tb0) 5 139 [.ref a0, .int x1, .int x2, .int x3] G cA S D ad sz none True D' := by
  refine Met.ofW (cc := cX9_reckonRange) (maxL := 24) (ret := none) (by decide) rfl ?_
  intro p e s m args below meth c s₁ B hml hv
  obtain ⟨rfl, hsz, hP, hK, hD0, hT, hX⟩ := hv
  subst hsz
  have hts := atoms_spec (ws := Cond.code yX9_reckonRange cX9_reckonRange 24 none :: tb0) B.pre
  have hC : Cx RX9 cX9_reckonRange 24 none p s m _ meth c := ⟨B.exec, B.bytes, hml, findClass_of_methodNamed B.named, fun w q => hts w (List.mem_cons_of_mem _ q), B.returns, B.notSynchronized⟩
  have hw := Wd.entry hP hK hD0 hT hX
  have hl := lv_entry ([.ref a0, .int x1, .int x2, .int x3]) (n := 24) (Nat.le_of_ble_eq_true rfl)
  rw [lg_entry_eq]
  exact w_X9_reckonRange_0 hC ⟨Nat.le_refl _, Nat.le_refl _⟩ o0 a0 x1 x2 x3 D _ _ _ hi0 hw hl h
set_option maxHeartbeats 4000000 in
set_option maxRecDepth 100000 in
theorem w_X9_isPointer_15 {r : Int32} (hC : Cx RX9 cX9_isPointer 1 (some .boolean) p s m args meth c) (hR : 0 ≤ R.frames ∧ 0 ≤ R.locals) : ∀  (H : Heap) (locs : List Loc) (ls : Array Slot), Wd G cA S D ad A s H locs → lv_has ls 1 [] → f_X9_isPointer_15 = some r → W p l e R s m args below meth c H locs 0 0 (MQ below (Qn (some (.int r)) True (wpost G cA S D ad A) A) args s 0 0 A) (F0 m 15 ls []) := by
  obtain ⟨hx, hb, -⟩ := id hC
  intro H locs ls hw hl h
  unfold f_X9_isPointer_15 at h
  refine lv_iconst (v := 1) hx hb dX9_isPointer_15 (by decide) ?_
  refine lv_goto (tgt := 20) hx hb dX9_isPointer_16 (by decide) ?_
  cases h
  exact r_zret hC hw (Or.inr rfl) dX9_isPointer_20
set_option maxHeartbeats 4000000 in
set_option maxRecDepth 100000 in
theorem w_X9_isPointer_0 {r : Int32} (hC : Cx RX9 cX9_isPointer 1 (some .boolean) p s m args meth c) (hR : 0 ≤ R.frames ∧ 0 ≤ R.locals) : ∀ (x0 : Int32) (H : Heap) (locs : List Loc) (ls : Array Slot), Wd G cA S D ad A s H locs → lv_has ls 1 [(0, .int x0)] → f_X9_isPointer x0 = some r → W p l e R s m args below meth c H locs 0 0 (MQ below (Qn (some (.int r)) True (wpost G cA S D ad A) A) args s 0 0 A) (F0 m 0 ls []) := by
  obtain ⟨hx, hb, -⟩ := id hC
  intro x0 H locs ls hw hl h
  unfold f_X9_isPointer at h
  refine lv_iload_n hx hb dX9_isPointer_0 rfl (lv_at hl 0 rfl) ?_
  refine lv_iconst (v := 2) hx hb dX9_isPointer_1 (by decide) ?_
  refine lv_icmp_eq (tgt := 15) hx hb dX9_isPointer_2 (by decide) (fun c4 => ?_) (fun c4 => ?_)
  · have h := i_yes c4 h
    exact w_X9_isPointer_15 hC hR _ _ _ hw (lv_sub hl [] rfl) h
  · have h := i_no c4 h
    refine lv_iload_n hx hb dX9_isPointer_5 rfl (lv_at hl 0 rfl) ?_
    refine lv_iconst (v := 3) hx hb dX9_isPointer_6 (by decide) ?_
    refine lv_icmp_eq (tgt := 15) hx hb dX9_isPointer_7 (by decide) (fun c5 => ?_) (fun c5 => ?_)
    · have h := i_yes c5 h
      exact w_X9_isPointer_15 hC hR _ _ _ hw (lv_sub hl [] rfl) h
    · have h := i_no c5 h
      refine lv_iload_n hx hb dX9_isPointer_10 rfl (lv_at hl 0 rfl) ?_
      refine lv_iconst (v := 5) hx hb dX9_isPointer_11 (by decide) ?_
      refine lv_icmp_ne (tgt := 19) hx hb dX9_isPointer_12 (by decide) (fun c6 => ?_) (fun c6 => ?_)
      · have h := i_no c6 h
        refine lv_iconst (v := 0) hx hb dX9_isPointer_19 (by decide) ?_
        cases h
        exact r_zret hC hw (Or.inl rfl) dX9_isPointer_20
      · have h := i_yes c6 h
        exact w_X9_isPointer_15 hC hR _ _ _ hw (lv_sub hl [] rfl) h
set_option maxHeartbeats 4000000 in
set_option maxRecDepth 100000 in
theorem k_X9_isPointer {l : Launch} {G : va_G} {cA : Nat → ClassId} {S : sh} {D : dt} {ad : Nat → Nat} (sz : Nat) {x0 : Int32} {r : Int32}  (h : f_X9_isPointer x0 = some r) : Co l yX9_isPointer (Cond.code yX9_isPointer cX9_isPointer 1 (some .boolean) :: tb0) 0 0 [.int x0] G cA S D ad sz (some (.int r)) True D := by
  refine Met.ofW (cc := cX9_isPointer) (maxL := 1) (ret := (some .boolean)) (by decide) rfl ?_
  intro p e s m args below meth c s₁ B hml hv
  obtain ⟨rfl, hsz, hP, hK, hD0, hT, hX⟩ := hv
  subst hsz
  have hts := atoms_spec (ws := Cond.code yX9_isPointer cX9_isPointer 1 (some .boolean) :: tb0) B.pre
  have hC : Cx RX9 cX9_isPointer 1 (some .boolean) p s m _ meth c := ⟨B.exec, B.bytes, hml, findClass_of_methodNamed B.named, fun w q => hts w (List.mem_cons_of_mem _ q), B.returns, B.notSynchronized⟩
  have hw := Wd.entry hP hK hD0 hT hX
  have hl := lv_entry ([.int x0]) (n := 1) (Nat.le_of_ble_eq_true rfl)
  rw [lg_entry_eq]
  exact w_X9_isPointer_0 hC ⟨Nat.le_refl _, Nat.le_refl _⟩ x0 _ _ _ hw hl h
end
