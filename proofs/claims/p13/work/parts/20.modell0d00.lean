theorem dX9_reckonRange_0 : decode cX9_reckonRange 0 = .ok (.aload_n 0, 1) := by decide +kernel
theorem dX9_reckonRange_1 : decode cX9_reckonRange 1 = .ok (.getfield 13, 3) := by decide +kernel
theorem dX9_reckonRange_4 : decode cX9_reckonRange 4 = .ok (.iload_n 1, 1) := by decide +kernel
theorem dX9_reckonRange_5 : decode cX9_reckonRange 5 = .ok (.iaload, 1) := by decide +kernel
theorem dX9_reckonRange_6 : decode cX9_reckonRange 6 = .ok (.istore 4, 2) := by decide +kernel
theorem dX9_reckonRange_8 : decode cX9_reckonRange 8 = .ok (.aload_n 0, 1) := by decide +kernel
theorem dX9_reckonRange_9 : decode cX9_reckonRange 9 = .ok (.getfield 109, 3) := by decide +kernel
theorem dX9_reckonRange_12 : decode cX9_reckonRange 12 = .ok (.iload 4, 2) := by decide +kernel
theorem dX9_reckonRange_14 : decode cX9_reckonRange 14 = .ok (.laload, 1) := by decide +kernel
theorem dX9_reckonRange_15 : decode cX9_reckonRange 15 = .ok (.lstore 5, 2) := by decide +kernel
theorem dX9_reckonRange_17 : decode cX9_reckonRange 17 = .ok (.aload_n 0, 1) := by decide +kernel
theorem dX9_reckonRange_18 : decode cX9_reckonRange 18 = .ok (.getfield 112, 3) := by decide +kernel
theorem dX9_reckonRange_21 : decode cX9_reckonRange 21 = .ok (.iload 4, 2) := by decide +kernel
theorem dX9_reckonRange_23 : decode cX9_reckonRange 23 = .ok (.laload, 1) := by decide +kernel
theorem dX9_reckonRange_24 : decode cX9_reckonRange 24 = .ok (.lstore 7, 2) := by decide +kernel
theorem dX9_reckonRange_26 : decode cX9_reckonRange 26 = .ok (.aload_n 0, 1) := by decide +kernel
theorem dX9_reckonRange_27 : decode cX9_reckonRange 27 = .ok (.getfield 400, 3) := by decide +kernel
theorem dX9_reckonRange_30 : decode cX9_reckonRange 30 = .ok (.lstore 9, 2) := by decide +kernel
theorem dX9_reckonRange_32 : decode cX9_reckonRange 32 = .ok (.aload_n 0, 1) := by decide +kernel
theorem dX9_reckonRange_33 : decode cX9_reckonRange 33 = .ok (.getfield 403, 3) := by decide +kernel
theorem dX9_reckonRange_36 : decode cX9_reckonRange 36 = .ok (.lstore 11, 2) := by decide +kernel
theorem dX9_reckonRange_38 : decode cX9_reckonRange 38 = .ok (.iload_n 3, 1) := by decide +kernel
theorem dX9_reckonRange_39 : decode cX9_reckonRange 39 = .ok (.ifCond .ne 24, 3) := by decide +kernel
theorem dX9_reckonRange_42 : decode cX9_reckonRange 42 = .ok (.iload_n 2, 1) := by decide +kernel
theorem dX9_reckonRange_43 : decode cX9_reckonRange 43 = .ok (.bipush 13, 2) := by decide +kernel
theorem dX9_reckonRange_45 : decode cX9_reckonRange 45 = .ok (.if_icmp .eq 18, 3) := by decide +kernel
theorem dX9_reckonRange_48 : decode cX9_reckonRange 48 = .ok (.ldc2_w 192, 3) := by decide +kernel
theorem dX9_reckonRange_51 : decode cX9_reckonRange 51 = .ok (.lload 7, 2) := by decide +kernel
theorem dX9_reckonRange_53 : decode cX9_reckonRange 53 = .ok (.invokestatic 175, 3) := by decide +kernel
theorem dX9_reckonRange_56 : decode cX9_reckonRange 56 = .ok (.ifCond .eq 7, 3) := by decide +kernel
theorem dX9_reckonRange_59 : decode cX9_reckonRange 59 = .ok (.iconst 1, 1) := by decide +kernel
theorem dX9_reckonRange_60 : decode cX9_reckonRange 60 = .ok (.goto 4, 3) := by decide +kernel
theorem dX9_reckonRange_63 : decode cX9_reckonRange 63 = .ok (.iconst 0, 1) := by decide +kernel
theorem dX9_reckonRange_64 : decode cX9_reckonRange 64 = .ok (.istore 13, 2) := by decide +kernel
theorem dX9_reckonRange_66 : decode cX9_reckonRange 66 = .ok (.iload_n 3, 1) := by decide +kernel
theorem dX9_reckonRange_67 : decode cX9_reckonRange 67 = .ok (.ifCond .ne 24, 3) := by decide +kernel
theorem dX9_reckonRange_70 : decode cX9_reckonRange 70 = .ok (.iload_n 2, 1) := by decide +kernel
theorem dX9_reckonRange_71 : decode cX9_reckonRange 71 = .ok (.bipush 13, 2) := by decide +kernel
theorem dX9_reckonRange_73 : decode cX9_reckonRange 73 = .ok (.if_icmp .eq 18, 3) := by decide +kernel
theorem dX9_reckonRange_76 : decode cX9_reckonRange 76 = .ok (.ldc2_w 192, 3) := by decide +kernel
theorem dX9_reckonRange_79 : decode cX9_reckonRange 79 = .ok (.lload 11, 2) := by decide +kernel
theorem dX9_reckonRange_81 : decode cX9_reckonRange 81 = .ok (.invokestatic 175, 3) := by decide +kernel
theorem dX9_reckonRange_84 : decode cX9_reckonRange 84 = .ok (.ifCond .eq 7, 3) := by decide +kernel
theorem dX9_reckonRange_87 : decode cX9_reckonRange 87 = .ok (.iconst 1, 1) := by decide +kernel
theorem dX9_reckonRange_88 : decode cX9_reckonRange 88 = .ok (.goto 4, 3) := by decide +kernel
theorem dX9_reckonRange_91 : decode cX9_reckonRange 91 = .ok (.iconst 0, 1) := by decide +kernel
theorem dX9_reckonRange_92 : decode cX9_reckonRange 92 = .ok (.istore 14, 2) := by decide +kernel
theorem dX9_reckonRange_94 : decode cX9_reckonRange 94 = .ok (.lload 5, 2) := by decide +kernel
theorem dX9_reckonRange_96 : decode cX9_reckonRange 96 = .ok (.lload 7, 2) := by decide +kernel
theorem dX9_reckonRange_98 : decode cX9_reckonRange 98 = .ok (.lcmp, 1) := by decide +kernel
theorem dX9_reckonRange_99 : decode cX9_reckonRange 99 = .ok (.ifCond .ne 7, 3) := by decide +kernel
theorem dX9_reckonRange_102 : decode cX9_reckonRange 102 = .ok (.iconst 1, 1) := by decide +kernel
theorem dX9_reckonRange_103 : decode cX9_reckonRange 103 = .ok (.goto 4, 3) := by decide +kernel
theorem dX9_reckonRange_106 : decode cX9_reckonRange 106 = .ok (.iconst 0, 1) := by decide +kernel
theorem dX9_reckonRange_107 : decode cX9_reckonRange 107 = .ok (.istore 15, 2) := by decide +kernel
theorem dX9_reckonRange_109 : decode cX9_reckonRange 109 = .ok (.lload 9, 2) := by decide +kernel
theorem dX9_reckonRange_111 : decode cX9_reckonRange 111 = .ok (.lload 11, 2) := by decide +kernel
theorem dX9_reckonRange_113 : decode cX9_reckonRange 113 = .ok (.lcmp, 1) := by decide +kernel
theorem dX9_reckonRange_114 : decode cX9_reckonRange 114 = .ok (.ifCond .ne 7, 3) := by decide +kernel
theorem dX9_reckonRange_117 : decode cX9_reckonRange 117 = .ok (.iconst 1, 1) := by decide +kernel
theorem dX9_reckonRange_118 : decode cX9_reckonRange 118 = .ok (.goto 4, 3) := by decide +kernel
theorem dX9_reckonRange_121 : decode cX9_reckonRange 121 = .ok (.iconst 0, 1) := by decide +kernel
theorem dX9_reckonRange_122 : decode cX9_reckonRange 122 = .ok (.istore 16, 2) := by decide +kernel
theorem dX9_reckonRange_124 : decode cX9_reckonRange 124 = .ok (.iload 13, 2) := by decide +kernel
theorem dX9_reckonRange_126 : decode cX9_reckonRange 126 = .ok (.ifCond .eq 21, 3) := by decide +kernel
theorem dX9_reckonRange_129 : decode cX9_reckonRange 129 = .ok (.iload 15, 2) := by decide +kernel
theorem dX9_reckonRange_131 : decode cX9_reckonRange 131 = .ok (.ifCond .eq 12, 3) := by decide +kernel
theorem dX9_reckonRange_134 : decode cX9_reckonRange 134 = .ok (.lload 5, 2) := by decide +kernel
theorem dX9_reckonRange_136 : decode cX9_reckonRange 136 = .ok (.ldc2_w 192, 3) := by decide +kernel
theorem dX9_reckonRange_139 : decode cX9_reckonRange 139 = .ok (.land, 1) := by decide +kernel
theorem dX9_reckonRange_140 : decode cX9_reckonRange 140 = .ok (.goto 9, 3) := by decide +kernel
theorem dX9_reckonRange_143 : decode cX9_reckonRange 143 = .ok (.lconst 0, 1) := by decide +kernel
theorem dX9_reckonRange_144 : decode cX9_reckonRange 144 = .ok (.goto 5, 3) := by decide +kernel
theorem dX9_reckonRange_147 : decode cX9_reckonRange 147 = .ok (.lload 5, 2) := by decide +kernel
theorem dX9_reckonRange_149 : decode cX9_reckonRange 149 = .ok (.lstore 5, 2) := by decide +kernel
theorem dX9_reckonRange_151 : decode cX9_reckonRange 151 = .ok (.iload 13, 2) := by decide +kernel
theorem dX9_reckonRange_153 : decode cX9_reckonRange 153 = .ok (.ifCond .eq 23, 3) := by decide +kernel
theorem dX9_reckonRange_156 : decode cX9_reckonRange 156 = .ok (.iload 15, 2) := by decide +kernel
theorem dX9_reckonRange_158 : decode cX9_reckonRange 158 = .ok (.ifCond .eq 12, 3) := by decide +kernel
theorem dX9_reckonRange_161 : decode cX9_reckonRange 161 = .ok (.lload 7, 2) := by decide +kernel
theorem dX9_reckonRange_163 : decode cX9_reckonRange 163 = .ok (.ldc2_w 192, 3) := by decide +kernel
theorem dX9_reckonRange_166 : decode cX9_reckonRange 166 = .ok (.land, 1) := by decide +kernel
theorem dX9_reckonRange_167 : decode cX9_reckonRange 167 = .ok (.goto 11, 3) := by decide +kernel
theorem dX9_reckonRange_170 : decode cX9_reckonRange 170 = .ok (.ldc2_w 192, 3) := by decide +kernel
theorem dX9_reckonRange_173 : decode cX9_reckonRange 173 = .ok (.goto 5, 3) := by decide +kernel
theorem dX9_reckonRange_176 : decode cX9_reckonRange 176 = .ok (.lload 7, 2) := by decide +kernel
theorem dX9_reckonRange_178 : decode cX9_reckonRange 178 = .ok (.lstore 7, 2) := by decide +kernel
theorem dX9_reckonRange_180 : decode cX9_reckonRange 180 = .ok (.iload 14, 2) := by decide +kernel
theorem dX9_reckonRange_182 : decode cX9_reckonRange 182 = .ok (.ifCond .eq 21, 3) := by decide +kernel
theorem dX9_reckonRange_185 : decode cX9_reckonRange 185 = .ok (.iload 16, 2) := by decide +kernel
theorem dX9_reckonRange_187 : decode cX9_reckonRange 187 = .ok (.ifCond .eq 12, 3) := by decide +kernel
theorem dX9_reckonRange_190 : decode cX9_reckonRange 190 = .ok (.lload 9, 2) := by decide +kernel
theorem dX9_reckonRange_192 : decode cX9_reckonRange 192 = .ok (.ldc2_w 192, 3) := by decide +kernel
theorem dX9_reckonRange_195 : decode cX9_reckonRange 195 = .ok (.land, 1) := by decide +kernel
theorem dX9_reckonRange_196 : decode cX9_reckonRange 196 = .ok (.goto 9, 3) := by decide +kernel
theorem dX9_reckonRange_199 : decode cX9_reckonRange 199 = .ok (.lconst 0, 1) := by decide +kernel
theorem dX9_reckonRange_200 : decode cX9_reckonRange 200 = .ok (.goto 5, 3) := by decide +kernel
theorem dX9_reckonRange_203 : decode cX9_reckonRange 203 = .ok (.lload 9, 2) := by decide +kernel
theorem dX9_reckonRange_205 : decode cX9_reckonRange 205 = .ok (.lstore 9, 2) := by decide +kernel
theorem dX9_reckonRange_207 : decode cX9_reckonRange 207 = .ok (.iload 14, 2) := by decide +kernel
theorem dX9_reckonRange_209 : decode cX9_reckonRange 209 = .ok (.ifCond .eq 23, 3) := by decide +kernel
theorem dX9_reckonRange_212 : decode cX9_reckonRange 212 = .ok (.iload 16, 2) := by decide +kernel
theorem dX9_reckonRange_214 : decode cX9_reckonRange 214 = .ok (.ifCond .eq 12, 3) := by decide +kernel
theorem dX9_reckonRange_217 : decode cX9_reckonRange 217 = .ok (.lload 11, 2) := by decide +kernel
theorem dX9_reckonRange_219 : decode cX9_reckonRange 219 = .ok (.ldc2_w 192, 3) := by decide +kernel
theorem dX9_reckonRange_222 : decode cX9_reckonRange 222 = .ok (.land, 1) := by decide +kernel
theorem dX9_reckonRange_223 : decode cX9_reckonRange 223 = .ok (.goto 11, 3) := by decide +kernel
theorem dX9_reckonRange_226 : decode cX9_reckonRange 226 = .ok (.ldc2_w 192, 3) := by decide +kernel
theorem dX9_reckonRange_229 : decode cX9_reckonRange 229 = .ok (.goto 5, 3) := by decide +kernel
theorem dX9_reckonRange_232 : decode cX9_reckonRange 232 = .ok (.lload 11, 2) := by decide +kernel
theorem dX9_reckonRange_234 : decode cX9_reckonRange 234 = .ok (.lstore 11, 2) := by decide +kernel
theorem dX9_reckonRange_236 : decode cX9_reckonRange 236 = .ok (.iload_n 2, 1) := by decide +kernel
theorem dX9_reckonRange_237 : decode cX9_reckonRange 237 = .ok (.bipush 11, 2) := by decide +kernel
theorem dX9_reckonRange_239 : decode cX9_reckonRange 239 = .ok (.if_icmp .ne 19, 3) := by decide +kernel
theorem dX9_reckonRange_242 : decode cX9_reckonRange 242 = .ok (.lload 9, 2) := by decide +kernel
theorem dX9_reckonRange_244 : decode cX9_reckonRange 244 = .ok (.lload 11, 2) := by decide +kernel
theorem dX9_reckonRange_246 : decode cX9_reckonRange 246 = .ok (.lcmp, 1) := by decide +kernel
theorem dX9_reckonRange_247 : decode cX9_reckonRange 247 = .ok (.ifCond .ne 7, 3) := by decide +kernel
theorem dX9_reckonRange_250 : decode cX9_reckonRange 250 = .ok (.iconst 1, 1) := by decide +kernel
theorem dX9_reckonRange_251 : decode cX9_reckonRange 251 = .ok (.goto 56, 3) := by decide +kernel
theorem dX9_reckonRange_254 : decode cX9_reckonRange 254 = .ok (.iconst 0, 1) := by decide +kernel
theorem dX9_reckonRange_255 : decode cX9_reckonRange 255 = .ok (.goto 52, 3) := by decide +kernel
theorem dX9_reckonRange_258 : decode cX9_reckonRange 258 = .ok (.iload_n 2, 1) := by decide +kernel
theorem dX9_reckonRange_259 : decode cX9_reckonRange 259 = .ok (.bipush 8, 2) := by decide +kernel
theorem dX9_reckonRange_261 : decode cX9_reckonRange 261 = .ok (.if_icmp .eq 9, 3) := by decide +kernel
theorem dX9_reckonRange_264 : decode cX9_reckonRange 264 = .ok (.iload_n 2, 1) := by decide +kernel
theorem dX9_reckonRange_265 : decode cX9_reckonRange 265 = .ok (.bipush 13, 2) := by decide +kernel
theorem dX9_reckonRange_267 : decode cX9_reckonRange 267 = .ok (.if_icmp .ne 19, 3) := by decide +kernel
theorem dX9_reckonRange_270 : decode cX9_reckonRange 270 = .ok (.lload 5, 2) := by decide +kernel
theorem dX9_reckonRange_272 : decode cX9_reckonRange 272 = .ok (.lload 7, 2) := by decide +kernel
