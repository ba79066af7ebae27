theorem dX9_narrow_0 : decode cX9_narrow 0 = .ok (.aload_n 0, 1) := by decide +kernel
theorem dX9_narrow_1 : decode cX9_narrow 1 = .ok (.getfield 109, 3) := by decide +kernel
theorem dX9_narrow_4 : decode cX9_narrow 4 = .ok (.iload_n 1, 1) := by decide +kernel
theorem dX9_narrow_5 : decode cX9_narrow 5 = .ok (.laload, 1) := by decide +kernel
theorem dX9_narrow_6 : decode cX9_narrow 6 = .ok (.lstore 5, 2) := by decide +kernel
theorem dX9_narrow_8 : decode cX9_narrow 8 = .ok (.aload_n 0, 1) := by decide +kernel
theorem dX9_narrow_9 : decode cX9_narrow 9 = .ok (.getfield 112, 3) := by decide +kernel
theorem dX9_narrow_12 : decode cX9_narrow 12 = .ok (.iload_n 1, 1) := by decide +kernel
theorem dX9_narrow_13 : decode cX9_narrow 13 = .ok (.laload, 1) := by decide +kernel
theorem dX9_narrow_14 : decode cX9_narrow 14 = .ok (.lstore 7, 2) := by decide +kernel
theorem dX9_narrow_16 : decode cX9_narrow 16 = .ok (.iconst 1, 1) := by decide +kernel
theorem dX9_narrow_17 : decode cX9_narrow 17 = .ok (.istore 9, 2) := by decide +kernel
theorem dX9_narrow_19 : decode cX9_narrow 19 = .ok (.iload_n 2, 1) := by decide +kernel
theorem dX9_narrow_20 : decode cX9_narrow 20 = .ok (.tableswitch 222 1 10 #[56, 157, 185, 222, 90, 222, 222, 222, 222, 196], 56) := by decide +kernel
theorem dX9_narrow_76 : decode cX9_narrow 76 = .ok (.lload_n 3, 1) := by decide +kernel
theorem dX9_narrow_77 : decode cX9_narrow 77 = .ok (.lload 5, 2) := by decide +kernel
theorem dX9_narrow_79 : decode cX9_narrow 79 = .ok (.invokestatic 175, 3) := by decide +kernel
theorem dX9_narrow_82 : decode cX9_narrow 82 = .ok (.ifCond .ne 16, 3) := by decide +kernel
theorem dX9_narrow_85 : decode cX9_narrow 85 = .ok (.lload 7, 2) := by decide +kernel
theorem dX9_narrow_87 : decode cX9_narrow 87 = .ok (.lload_n 3, 1) := by decide +kernel
theorem dX9_narrow_88 : decode cX9_narrow 88 = .ok (.invokestatic 175, 3) := by decide +kernel
theorem dX9_narrow_91 : decode cX9_narrow 91 = .ok (.ifCond .ne 7, 3) := by decide +kernel
theorem dX9_narrow_94 : decode cX9_narrow 94 = .ok (.iconst 1, 1) := by decide +kernel
theorem dX9_narrow_95 : decode cX9_narrow 95 = .ok (.goto 4, 3) := by decide +kernel
theorem dX9_narrow_98 : decode cX9_narrow 98 = .ok (.iconst 0, 1) := by decide +kernel
theorem dX9_narrow_99 : decode cX9_narrow 99 = .ok (.istore 9, 2) := by decide +kernel
theorem dX9_narrow_101 : decode cX9_narrow 101 = .ok (.lload_n 3, 1) := by decide +kernel
theorem dX9_narrow_102 : decode cX9_narrow 102 = .ok (.lstore 5, 2) := by decide +kernel
theorem dX9_narrow_104 : decode cX9_narrow 104 = .ok (.lload_n 3, 1) := by decide +kernel
theorem dX9_narrow_105 : decode cX9_narrow 105 = .ok (.lstore 7, 2) := by decide +kernel
theorem dX9_narrow_107 : decode cX9_narrow 107 = .ok (.goto 143, 3) := by decide +kernel
theorem dX9_narrow_110 : decode cX9_narrow 110 = .ok (.lload 5, 2) := by decide +kernel
theorem dX9_narrow_112 : decode cX9_narrow 112 = .ok (.lload_n 3, 1) := by decide +kernel
theorem dX9_narrow_113 : decode cX9_narrow 113 = .ok (.lcmp, 1) := by decide +kernel
theorem dX9_narrow_114 : decode cX9_narrow 114 = .ok (.ifCond .ne 10, 3) := by decide +kernel
theorem dX9_narrow_117 : decode cX9_narrow 117 = .ok (.lload 7, 2) := by decide +kernel
theorem dX9_narrow_119 : decode cX9_narrow 119 = .ok (.lload_n 3, 1) := by decide +kernel
theorem dX9_narrow_120 : decode cX9_narrow 120 = .ok (.lcmp, 1) := by decide +kernel
theorem dX9_narrow_121 : decode cX9_narrow 121 = .ok (.ifCond .eq 7, 3) := by decide +kernel
theorem dX9_narrow_124 : decode cX9_narrow 124 = .ok (.iconst 1, 1) := by decide +kernel
theorem dX9_narrow_125 : decode cX9_narrow 125 = .ok (.goto 4, 3) := by decide +kernel
theorem dX9_narrow_128 : decode cX9_narrow 128 = .ok (.iconst 0, 1) := by decide +kernel
theorem dX9_narrow_129 : decode cX9_narrow 129 = .ok (.istore 9, 2) := by decide +kernel
theorem dX9_narrow_131 : decode cX9_narrow 131 = .ok (.lload 7, 2) := by decide +kernel
theorem dX9_narrow_133 : decode cX9_narrow 133 = .ok (.lload_n 3, 1) := by decide +kernel
theorem dX9_narrow_134 : decode cX9_narrow 134 = .ok (.lcmp, 1) := by decide +kernel
theorem dX9_narrow_135 : decode cX9_narrow 135 = .ok (.ifCond .ne 17, 3) := by decide +kernel
theorem dX9_narrow_138 : decode cX9_narrow 138 = .ok (.lload 5, 2) := by decide +kernel
theorem dX9_narrow_140 : decode cX9_narrow 140 = .ok (.lload_n 3, 1) := by decide +kernel
theorem dX9_narrow_141 : decode cX9_narrow 141 = .ok (.lcmp, 1) := by decide +kernel
theorem dX9_narrow_142 : decode cX9_narrow 142 = .ok (.ifCond .eq 10, 3) := by decide +kernel
theorem dX9_narrow_145 : decode cX9_narrow 145 = .ok (.lload 7, 2) := by decide +kernel
theorem dX9_narrow_147 : decode cX9_narrow 147 = .ok (.lconst 1, 1) := by decide +kernel
theorem dX9_narrow_148 : decode cX9_narrow 148 = .ok (.lsub, 1) := by decide +kernel
theorem dX9_narrow_149 : decode cX9_narrow 149 = .ok (.goto 5, 3) := by decide +kernel
theorem dX9_narrow_152 : decode cX9_narrow 152 = .ok (.lload 7, 2) := by decide +kernel
theorem dX9_narrow_154 : decode cX9_narrow 154 = .ok (.lstore 7, 2) := by decide +kernel
theorem dX9_narrow_156 : decode cX9_narrow 156 = .ok (.lload 5, 2) := by decide +kernel
theorem dX9_narrow_158 : decode cX9_narrow 158 = .ok (.lload_n 3, 1) := by decide +kernel
theorem dX9_narrow_159 : decode cX9_narrow 159 = .ok (.lcmp, 1) := by decide +kernel
theorem dX9_narrow_160 : decode cX9_narrow 160 = .ok (.ifCond .ne 10, 3) := by decide +kernel
theorem dX9_narrow_163 : decode cX9_narrow 163 = .ok (.lload 5, 2) := by decide +kernel
theorem dX9_narrow_165 : decode cX9_narrow 165 = .ok (.lconst 1, 1) := by decide +kernel
theorem dX9_narrow_166 : decode cX9_narrow 166 = .ok (.ladd, 1) := by decide +kernel
theorem dX9_narrow_167 : decode cX9_narrow 167 = .ok (.goto 5, 3) := by decide +kernel
theorem dX9_narrow_170 : decode cX9_narrow 170 = .ok (.lload 5, 2) := by decide +kernel
theorem dX9_narrow_172 : decode cX9_narrow 172 = .ok (.lstore 5, 2) := by decide +kernel
theorem dX9_narrow_174 : decode cX9_narrow 174 = .ok (.goto 76, 3) := by decide +kernel
theorem dX9_narrow_177 : decode cX9_narrow 177 = .ok (.lload_n 3, 1) := by decide +kernel
theorem dX9_narrow_178 : decode cX9_narrow 178 = .ok (.ldc2_w 187, 3) := by decide +kernel
theorem dX9_narrow_181 : decode cX9_narrow 181 = .ok (.lcmp, 1) := by decide +kernel
theorem dX9_narrow_182 : decode cX9_narrow 182 = .ok (.ifCond .eq 7, 3) := by decide +kernel
theorem dX9_narrow_185 : decode cX9_narrow 185 = .ok (.iconst 1, 1) := by decide +kernel
theorem dX9_narrow_186 : decode cX9_narrow 186 = .ok (.goto 4, 3) := by decide +kernel
theorem dX9_narrow_189 : decode cX9_narrow 189 = .ok (.iconst 0, 1) := by decide +kernel
theorem dX9_narrow_190 : decode cX9_narrow 190 = .ok (.istore 9, 2) := by decide +kernel
theorem dX9_narrow_192 : decode cX9_narrow 192 = .ok (.lload 5, 2) := by decide +kernel
theorem dX9_narrow_194 : decode cX9_narrow 194 = .ok (.lload_n 3, 1) := by decide +kernel
theorem dX9_narrow_195 : decode cX9_narrow 195 = .ok (.lconst 1, 1) := by decide +kernel
theorem dX9_narrow_196 : decode cX9_narrow 196 = .ok (.ladd, 1) := by decide +kernel
theorem dX9_narrow_197 : decode cX9_narrow 197 = .ok (.invokestatic 341, 3) := by decide +kernel
theorem dX9_narrow_200 : decode cX9_narrow 200 = .ok (.lstore 5, 2) := by decide +kernel
theorem dX9_narrow_202 : decode cX9_narrow 202 = .ok (.goto 48, 3) := by decide +kernel
theorem dX9_narrow_205 : decode cX9_narrow 205 = .ok (.lload 5, 2) := by decide +kernel
theorem dX9_narrow_207 : decode cX9_narrow 207 = .ok (.lload_n 3, 1) := by decide +kernel
theorem dX9_narrow_208 : decode cX9_narrow 208 = .ok (.invokestatic 341, 3) := by decide +kernel
theorem dX9_narrow_211 : decode cX9_narrow 211 = .ok (.lstore 5, 2) := by decide +kernel
theorem dX9_narrow_213 : decode cX9_narrow 213 = .ok (.goto 37, 3) := by decide +kernel
theorem dX9_narrow_216 : decode cX9_narrow 216 = .ok (.lload_n 3, 1) := by decide +kernel
theorem dX9_narrow_217 : decode cX9_narrow 217 = .ok (.lconst 0, 1) := by decide +kernel
theorem dX9_narrow_218 : decode cX9_narrow 218 = .ok (.lcmp, 1) := by decide +kernel
theorem dX9_narrow_219 : decode cX9_narrow 219 = .ok (.ifCond .eq 7, 3) := by decide +kernel
theorem dX9_narrow_222 : decode cX9_narrow 222 = .ok (.iconst 1, 1) := by decide +kernel
theorem dX9_narrow_223 : decode cX9_narrow 223 = .ok (.goto 4, 3) := by decide +kernel
theorem dX9_narrow_226 : decode cX9_narrow 226 = .ok (.iconst 0, 1) := by decide +kernel
theorem dX9_narrow_227 : decode cX9_narrow 227 = .ok (.istore 9, 2) := by decide +kernel
theorem dX9_narrow_229 : decode cX9_narrow 229 = .ok (.lload 7, 2) := by decide +kernel
theorem dX9_narrow_231 : decode cX9_narrow 231 = .ok (.lload_n 3, 1) := by decide +kernel
theorem dX9_narrow_232 : decode cX9_narrow 232 = .ok (.lconst 1, 1) := by decide +kernel
theorem dX9_narrow_233 : decode cX9_narrow 233 = .ok (.lsub, 1) := by decide +kernel
theorem dX9_narrow_234 : decode cX9_narrow 234 = .ok (.invokestatic 338, 3) := by decide +kernel
theorem dX9_narrow_237 : decode cX9_narrow 237 = .ok (.lstore 7, 2) := by decide +kernel
theorem dX9_narrow_239 : decode cX9_narrow 239 = .ok (.goto 11, 3) := by decide +kernel
theorem dX9_narrow_242 : decode cX9_narrow 242 = .ok (.lload 7, 2) := by decide +kernel
theorem dX9_narrow_244 : decode cX9_narrow 244 = .ok (.lload_n 3, 1) := by decide +kernel
theorem dX9_narrow_245 : decode cX9_narrow 245 = .ok (.invokestatic 338, 3) := by decide +kernel
theorem dX9_narrow_248 : decode cX9_narrow 248 = .ok (.lstore 7, 2) := by decide +kernel
theorem dX9_narrow_250 : decode cX9_narrow 250 = .ok (.iload 9, 2) := by decide +kernel
theorem dX9_narrow_252 : decode cX9_narrow 252 = .ok (.ifCond .eq 17, 3) := by decide +kernel
theorem dX9_narrow_255 : decode cX9_narrow 255 = .ok (.lload 7, 2) := by decide +kernel
theorem dX9_narrow_257 : decode cX9_narrow 257 = .ok (.lload 5, 2) := by decide +kernel
theorem dX9_narrow_259 : decode cX9_narrow 259 = .ok (.invokestatic 175, 3) := by decide +kernel
theorem dX9_narrow_262 : decode cX9_narrow 262 = .ok (.ifCond .ne 7, 3) := by decide +kernel
theorem dX9_narrow_265 : decode cX9_narrow 265 = .ok (.iconst 1, 1) := by decide +kernel
theorem dX9_narrow_266 : decode cX9_narrow 266 = .ok (.goto 4, 3) := by decide +kernel
theorem dX9_narrow_269 : decode cX9_narrow 269 = .ok (.iconst 0, 1) := by decide +kernel
theorem dX9_narrow_270 : decode cX9_narrow 270 = .ok (.istore 9, 2) := by decide +kernel
theorem dX9_narrow_272 : decode cX9_narrow 272 = .ok (.iload 9, 2) := by decide +kernel
theorem dX9_narrow_274 : decode cX9_narrow 274 = .ok (.ifCond .eq 19, 3) := by decide +kernel
theorem dX9_narrow_277 : decode cX9_narrow 277 = .ok (.aload_n 0, 1) := by decide +kernel
theorem dX9_narrow_278 : decode cX9_narrow 278 = .ok (.getfield 109, 3) := by decide +kernel
theorem dX9_narrow_281 : decode cX9_narrow 281 = .ok (.iload_n 1, 1) := by decide +kernel
theorem dX9_narrow_282 : decode cX9_narrow 282 = .ok (.lload 5, 2) := by decide +kernel
theorem dX9_narrow_284 : decode cX9_narrow 284 = .ok (.lastore, 1) := by decide +kernel
theorem dX9_narrow_285 : decode cX9_narrow 285 = .ok (.aload_n 0, 1) := by decide +kernel
theorem dX9_narrow_286 : decode cX9_narrow 286 = .ok (.getfield 112, 3) := by decide +kernel
theorem dX9_narrow_289 : decode cX9_narrow 289 = .ok (.iload_n 1, 1) := by decide +kernel
theorem dX9_narrow_290 : decode cX9_narrow 290 = .ok (.lload 7, 2) := by decide +kernel
theorem dX9_narrow_292 : decode cX9_narrow 292 = .ok (.lastore, 1) := by decide +kernel
theorem dX9_narrow_293 : decode cX9_narrow 293 = .ok (.iload 9, 2) := by decide +kernel
theorem dX9_narrow_295 : decode cX9_narrow 295 = .ok (.ireturn, 1) := by decide +kernel
theorem dX9_changedCode_0 : decode cX9_changedCode 0 = .ok (.iload_n 0, 1) := by decide +kernel
theorem dX9_changedCode_1 : decode cX9_changedCode 1 = .ok (.iconst 2, 1) := by decide +kernel
theorem dX9_changedCode_2 : decode cX9_changedCode 2 = .ok (.if_icmp .ne 8, 3) := by decide +kernel
theorem dX9_changedCode_5 : decode cX9_changedCode 5 = .ok (.bipush 10, 2) := by decide +kernel
theorem dX9_changedCode_7 : decode cX9_changedCode 7 = .ok (.goto 34, 3) := by decide +kernel
theorem dX9_changedCode_10 : decode cX9_changedCode 10 = .ok (.iload_n 0, 1) := by decide +kernel
theorem dX9_changedCode_11 : decode cX9_changedCode 11 = .ok (.iconst 3, 1) := by decide +kernel
theorem dX9_changedCode_12 : decode cX9_changedCode 12 = .ok (.if_icmp .ne 8, 3) := by decide +kernel
theorem dX9_changedCode_15 : decode cX9_changedCode 15 = .ok (.bipush 11, 2) := by decide +kernel
theorem dX9_changedCode_17 : decode cX9_changedCode 17 = .ok (.goto 24, 3) := by decide +kernel
theorem dX9_changedCode_20 : decode cX9_changedCode 20 = .ok (.iload_n 0, 1) := by decide +kernel
theorem dX9_changedCode_21 : decode cX9_changedCode 21 = .ok (.bipush 10, 2) := by decide +kernel
theorem dX9_changedCode_23 : decode cX9_changedCode 23 = .ok (.if_icmp .ne 7, 3) := by decide +kernel
theorem dX9_changedCode_26 : decode cX9_changedCode 26 = .ok (.iconst 2, 1) := by decide +kernel
theorem dX9_changedCode_27 : decode cX9_changedCode 27 = .ok (.goto 14, 3) := by decide +kernel
theorem dX9_changedCode_30 : decode cX9_changedCode 30 = .ok (.iload_n 0, 1) := by decide +kernel
theorem dX9_changedCode_31 : decode cX9_changedCode 31 = .ok (.bipush 11, 2) := by decide +kernel
theorem dX9_changedCode_33 : decode cX9_changedCode 33 = .ok (.if_icmp .ne 7, 3) := by decide +kernel
theorem dX9_changedCode_36 : decode cX9_changedCode 36 = .ok (.iconst 3, 1) := by decide +kernel
theorem dX9_changedCode_37 : decode cX9_changedCode 37 = .ok (.goto 4, 3) := by decide +kernel
theorem dX9_changedCode_40 : decode cX9_changedCode 40 = .ok (.iload_n 0, 1) := by decide +kernel
theorem dX9_changedCode_41 : decode cX9_changedCode 41 = .ok (.ireturn, 1) := by decide +kernel
theorem dX9_goWay_0 : decode cX9_goWay 0 = .ok (.iload_n 2, 1) := by decide +kernel
theorem dX9_goWay_1 : decode cX9_goWay 1 = .ok (.ifCond .eq 14, 3) := by decide +kernel
theorem dX9_goWay_4 : decode cX9_goWay 4 = .ok (.aload_n 0, 1) := by decide +kernel
theorem dX9_goWay_5 : decode cX9_goWay 5 = .ok (.getfield 7, 3) := by decide +kernel
theorem dX9_goWay_8 : decode cX9_goWay 8 = .ok (.iload_n 1, 1) := by decide +kernel
theorem dX9_goWay_9 : decode cX9_goWay 9 = .ok (.iaload, 1) := by decide +kernel
theorem dX9_goWay_10 : decode cX9_goWay 10 = .ok (.iconst 4, 1) := by decide +kernel
theorem dX9_goWay_11 : decode cX9_goWay 11 = .ok (.ishr, 1) := by decide +kernel
theorem dX9_goWay_12 : decode cX9_goWay 12 = .ok (.goto 14, 3) := by decide +kernel
theorem dX9_goWay_15 : decode cX9_goWay 15 = .ok (.aload_n 0, 1) := by decide +kernel
theorem dX9_goWay_16 : decode cX9_goWay 16 = .ok (.getfield 7, 3) := by decide +kernel
theorem dX9_goWay_19 : decode cX9_goWay 19 = .ok (.iload_n 1, 1) := by decide +kernel
theorem dX9_goWay_20 : decode cX9_goWay 20 = .ok (.iaload, 1) := by decide +kernel
theorem dX9_goWay_21 : decode cX9_goWay 21 = .ok (.iconst 4, 1) := by decide +kernel
theorem dX9_goWay_22 : decode cX9_goWay 22 = .ok (.ishr, 1) := by decide +kernel
theorem dX9_goWay_23 : decode cX9_goWay 23 = .ok (.invokestatic 442, 3) := by decide +kernel
theorem dX9_goWay_26 : decode cX9_goWay 26 = .ok (.istore_n 3, 1) := by decide +kernel
theorem dX9_goWay_27 : decode cX9_goWay 27 = .ok (.aload_n 0, 1) := by decide +kernel
theorem dX9_goWay_28 : decode cX9_goWay 28 = .ok (.getfield 445, 3) := by decide +kernel
theorem dX9_goWay_31 : decode cX9_goWay 31 = .ok (.iconst 3, 1) := by decide +kernel
theorem dX9_goWay_32 : decode cX9_goWay 32 = .ok (.if_icmp .ne 30, 3) := by decide +kernel
theorem dX9_goWay_35 : decode cX9_goWay 35 = .ok (.aload_n 0, 1) := by decide +kernel
theorem dX9_goWay_36 : decode cX9_goWay 36 = .ok (.aload_n 0, 1) := by decide +kernel
theorem dX9_goWay_37 : decode cX9_goWay 37 = .ok (.getfield 118, 3) := by decide +kernel
theorem dX9_goWay_40 : decode cX9_goWay 40 = .ok (.aload_n 0, 1) := by decide +kernel
theorem dX9_goWay_41 : decode cX9_goWay 41 = .ok (.getfield 13, 3) := by decide +kernel
theorem dX9_goWay_44 : decode cX9_goWay 44 = .ok (.iload_n 1, 1) := by decide +kernel
theorem dX9_goWay_45 : decode cX9_goWay 45 = .ok (.iaload, 1) := by decide +kernel
theorem dX9_goWay_46 : decode cX9_goWay 46 = .ok (.iaload, 1) := by decide +kernel
theorem dX9_goWay_47 : decode cX9_goWay 47 = .ok (.iload_n 3, 1) := by decide +kernel
theorem dX9_goWay_48 : decode cX9_goWay 48 = .ok (.iconst 1, 1) := by decide +kernel
theorem dX9_goWay_49 : decode cX9_goWay 49 = .ok (.if_icmp .ne 7, 3) := by decide +kernel
theorem dX9_goWay_52 : decode cX9_goWay 52 = .ok (.iconst 1, 1) := by decide +kernel
theorem dX9_goWay_53 : decode cX9_goWay 53 = .ok (.goto 4, 3) := by decide +kernel
theorem dX9_goWay_56 : decode cX9_goWay 56 = .ok (.iconst 0, 1) := by decide +kernel
theorem dX9_goWay_57 : decode cX9_goWay 57 = .ok (.invokevirtual 448, 3) := by decide +kernel
theorem dX9_goWay_60 : decode cX9_goWay 60 = .ok (.iconst 1, 1) := by decide +kernel
theorem dX9_goWay_61 : decode cX9_goWay 61 = .ok (.ireturn, 1) := by decide +kernel
theorem dX9_goWay_62 : decode cX9_goWay 62 = .ok (.aload_n 0, 1) := by decide +kernel
theorem dX9_goWay_63 : decode cX9_goWay 63 = .ok (.getfield 445, 3) := by decide +kernel
theorem dX9_goWay_66 : decode cX9_goWay 66 = .ok (.iconst 1, 1) := by decide +kernel
theorem dX9_goWay_67 : decode cX9_goWay 67 = .ok (.if_icmp .ne 19, 3) := by decide +kernel
theorem dX9_goWay_70 : decode cX9_goWay 70 = .ok (.aload_n 0, 1) := by decide +kernel
theorem dX9_goWay_71 : decode cX9_goWay 71 = .ok (.aload_n 0, 1) := by decide +kernel
theorem dX9_goWay_72 : decode cX9_goWay 72 = .ok (.getfield 13, 3) := by decide +kernel
theorem dX9_goWay_75 : decode cX9_goWay 75 = .ok (.iload_n 1, 1) := by decide +kernel
theorem dX9_goWay_76 : decode cX9_goWay 76 = .ok (.iaload, 1) := by decide +kernel
theorem dX9_goWay_77 : decode cX9_goWay 77 = .ok (.iload_n 3, 1) := by decide +kernel
theorem dX9_goWay_78 : decode cX9_goWay 78 = .ok (.aload_n 0, 1) := by decide +kernel
theorem dX9_goWay_79 : decode cX9_goWay 79 = .ok (.getfield 400, 3) := by decide +kernel
theorem dX9_goWay_82 : decode cX9_goWay 82 = .ok (.invokevirtual 452, 3) := by decide +kernel
theorem dX9_goWay_85 : decode cX9_goWay 85 = .ok (.ireturn, 1) := by decide +kernel
theorem dX9_goWay_86 : decode cX9_goWay 86 = .ok (.aload_n 0, 1) := by decide +kernel
theorem dX9_goWay_87 : decode cX9_goWay 87 = .ok (.getfield 445, 3) := by decide +kernel
theorem dX9_goWay_90 : decode cX9_goWay 90 = .ok (.ifCond .eq 31, 3) := by decide +kernel
theorem dX9_goWay_93 : decode cX9_goWay 93 = .ok (.aload_n 0, 1) := by decide +kernel
theorem dX9_goWay_94 : decode cX9_goWay 94 = .ok (.aload_n 0, 1) := by decide +kernel
theorem dX9_goWay_95 : decode cX9_goWay 95 = .ok (.getfield 16, 3) := by decide +kernel
theorem dX9_goWay_98 : decode cX9_goWay 98 = .ok (.iload_n 1, 1) := by decide +kernel
theorem dX9_goWay_99 : decode cX9_goWay 99 = .ok (.iaload, 1) := by decide +kernel
theorem dX9_goWay_100 : decode cX9_goWay 100 = .ok (.iload_n 3, 1) := by decide +kernel
theorem dX9_goWay_101 : decode cX9_goWay 101 = .ok (.invokestatic 455, 3) := by decide +kernel
theorem dX9_goWay_104 : decode cX9_goWay 104 = .ok (.aload_n 0, 1) := by decide +kernel
theorem dX9_goWay_105 : decode cX9_goWay 105 = .ok (.getfield 109, 3) := by decide +kernel
theorem dX9_goWay_108 : decode cX9_goWay 108 = .ok (.aload_n 0, 1) := by decide +kernel
theorem dX9_goWay_109 : decode cX9_goWay 109 = .ok (.getfield 13, 3) := by decide +kernel
theorem dX9_goWay_112 : decode cX9_goWay 112 = .ok (.iload_n 1, 1) := by decide +kernel
theorem dX9_goWay_113 : decode cX9_goWay 113 = .ok (.iaload, 1) := by decide +kernel
theorem dX9_goWay_114 : decode cX9_goWay 114 = .ok (.laload, 1) := by decide +kernel
theorem dX9_goWay_115 : decode cX9_goWay 115 = .ok (.invokevirtual 452, 3) := by decide +kernel
theorem dX9_goWay_118 : decode cX9_goWay 118 = .ok (.ifCond .eq 7, 3) := by decide +kernel
theorem dX9_goWay_121 : decode cX9_goWay 121 = .ok (.iconst 1, 1) := by decide +kernel
theorem dX9_goWay_122 : decode cX9_goWay 122 = .ok (.goto 4, 3) := by decide +kernel
theorem dX9_goWay_125 : decode cX9_goWay 125 = .ok (.iconst 0, 1) := by decide +kernel
theorem dX9_goWay_126 : decode cX9_goWay 126 = .ok (.ireturn, 1) := by decide +kernel
-- JudgedCodeModel.narrow
def f_X9_narrow_270 (S : sh) (o0 : Nat) (x1 : Int32) (x5 : Int64) (x7 : Int64) (xs0 : Int32) (D : dt) : Option (Int32 × dt) := if xs0 = 0 then (ck (xs0 = 0 ∨ xs0 = 1) <| some (xs0, D)) else (rq (gR D o0 41) fun o66 => ix x1 (sA S o66) <| nm (pL D o66 x1.toNatClampNeg x5) fun D71 => rq (gR D71 o0 42) fun o72 => ix x1 (sA S o72) <| nm (pL D71 o72 x1.toNatClampNeg x7) fun D77 => ck (xs0 = 0 ∨ xs0 = 1) <| some (xs0, D77))
def f_X9_narrow_269 (S : sh) (o0 : Nat) (x1 : Int32) (x5 : Int64) (x7 : Int64) (D : dt) : Option (Int32 × dt) := f_X9_narrow_270 S o0 x1 x5 x7 (0 : Int32) D
def f_X9_narrow_250 (S : sh) (o0 : Nat) (x1 : Int32) (x5 : Int64) (x7 : Int64) (x9 : Int32) (D : dt) : Option (Int32 × dt) := if x9 = 0 then (f_X9_narrow_269 S o0 x1 x5 x7 D) else (pq (f_X9_isBelow x7 x5) fun r81 => if r81 = 0 then (f_X9_narrow_270 S o0 x1 x5 x7 (1 : Int32) D) else (f_X9_narrow_269 S o0 x1 x5 x7 D))
def f_X9_narrow_172 (S : sh) (o0 : Nat) (x1 : Int32) (x7 : Int64) (x9 : Int32) (xs0 : Int64) (D : dt) : Option (Int32 × dt) := f_X9_narrow_250 S o0 x1 xs0 x7 x9 D
def f_X9_narrow_154 (S : sh) (o0 : Nat) (x1 : Int32) (x3 : Int64) (x5 : Int64) (x9 : Int32) (xs0 : Int64) (D : dt) : Option (Int32 × dt) := if (lg_cmp x5 x3) = 0 then (f_X9_narrow_172 S o0 x1 xs0 x9 (x5 + (1 : Int64)) D) else (f_X9_narrow_172 S o0 x1 xs0 x9 x5 D)
def f_X9_narrow_152 (S : sh) (o0 : Nat) (x1 : Int32) (x3 : Int64) (x5 : Int64) (x7 : Int64) (x9 : Int32) (D : dt) : Option (Int32 × dt) := f_X9_narrow_154 S o0 x1 x3 x5 x9 x7 D
def f_X9_narrow_129 (S : sh) (o0 : Nat) (x1 : Int32) (x3 : Int64) (x5 : Int64) (x7 : Int64) (xs0 : Int32) (D : dt) : Option (Int32 × dt) := if (lg_cmp x7 x3) = 0 then (if (lg_cmp x5 x3) = 0 then (f_X9_narrow_152 S o0 x1 x3 x5 x7 xs0 D) else (f_X9_narrow_154 S o0 x1 x3 x5 xs0 (x7 - (1 : Int64)) D)) else (f_X9_narrow_152 S o0 x1 x3 x5 x7 xs0 D)
def f_X9_narrow_99 (S : sh) (o0 : Nat) (x1 : Int32) (x3 : Int64) (xs0 : Int32) (D : dt) : Option (Int32 × dt) := f_X9_narrow_250 S o0 x1 x3 x3 xs0 D
def f_X9_narrow_98 (S : sh) (o0 : Nat) (x1 : Int32) (x3 : Int64) (D : dt) : Option (Int32 × dt) := f_X9_narrow_99 S o0 x1 x3 (0 : Int32) D
def f_X9_narrow_227 (S : sh) (o0 : Nat) (x1 : Int32) (x3 : Int64) (x5 : Int64) (x7 : Int64) (xs0 : Int32) (D : dt) : Option (Int32 × dt) := pq (f_X9_lesser x7 (x3 - (1 : Int64))) fun r87 => f_X9_narrow_250 S o0 x1 x5 r87 xs0 D
def f_X9_narrow_242 (S : sh) (o0 : Nat) (x1 : Int32) (x3 : Int64) (x5 : Int64) (x7 : Int64) (x9 : Int32) (D : dt) : Option (Int32 × dt) := pq (f_X9_lesser x7 x3) fun r89 => f_X9_narrow_250 S o0 x1 x5 r89 x9 D
def f_X9_narrow_124 (S : sh) (o0 : Nat) (x1 : Int32) (x3 : Int64) (x5 : Int64) (x7 : Int64) (D : dt) : Option (Int32 × dt) := f_X9_narrow_129 S o0 x1 x3 x5 x7 (1 : Int32) D
def f_X9_narrow_190 (S : sh) (o0 : Nat) (x1 : Int32) (x3 : Int64) (x5 : Int64) (x7 : Int64) (xs0 : Int32) (D : dt) : Option (Int32 × dt) := pq (f_X9_greater x5 (x3 + (1 : Int64))) fun r91 => f_X9_narrow_250 S o0 x1 r91 x7 xs0 D
def f_X9_narrow (S : sh) (o0 : Nat) (x1 : Int32) (x2 : Int32) (x3 : Int64) (D : dt) : Option (Int32 × dt) := rq (gR D o0 41) fun o92 => ix x1 (sA S o92) <| nm (gL D o92 x1.toNatClampNeg) fun y97 => rq (gR D o0 42) fun o98 => ix x1 (sA S o98) <| nm (gL D o98 x1.toNatClampNeg) fun y103 => nm ((1 : Int32)) fun y104 => if x2 = 1 then (pq (f_X9_isBelow x3 y97) fun r107 => if r107 = 0 then (pq (f_X9_isBelow y103 x3) fun r110 => if r110 = 0 then (f_X9_narrow_99 S o0 x1 x3 (1 : Int32) D) else (f_X9_narrow_98 S o0 x1 x3 D)) else (f_X9_narrow_98 S o0 x1 x3 D)) else if x2 = 2 then (if (lg_cmp x3 (-1 : Int64)) = 0 then (f_X9_narrow_190 S o0 x1 x3 y97 y103 (0 : Int32) D) else (f_X9_narrow_190 S o0 x1 x3 y97 y103 (1 : Int32) D)) else if x2 = 3 then (pq (f_X9_greater y97 x3) fun r116 => f_X9_narrow_250 S o0 x1 r116 y103 y104 D) else if x2 = 4 then (f_X9_narrow_242 S o0 x1 x3 y97 y103 y104 D) else if x2 = 5 then (if (lg_cmp y97 x3) = 0 then (if (lg_cmp y103 x3) = 0 then (f_X9_narrow_129 S o0 x1 x3 y97 y103 (0 : Int32) D) else (f_X9_narrow_124 S o0 x1 x3 y97 y103 D)) else (f_X9_narrow_124 S o0 x1 x3 y97 y103 D)) else if x2 = 6 then (f_X9_narrow_242 S o0 x1 x3 y97 y103 y104 D) else if x2 = 7 then (f_X9_narrow_242 S o0 x1 x3 y97 y103 y104 D) else if x2 = 8 then (f_X9_narrow_242 S o0 x1 x3 y97 y103 y104 D) else if x2 = 9 then (f_X9_narrow_242 S o0 x1 x3 y97 y103 y104 D) else if x2 = 10 then (if (lg_cmp x3 (0 : Int64)) = 0 then (f_X9_narrow_227 S o0 x1 x3 y97 y103 (0 : Int32) D) else (f_X9_narrow_227 S o0 x1 x3 y97 y103 (1 : Int32) D)) else (f_X9_narrow_242 S o0 x1 x3 y97 y103 y104 D)
-- JudgedCodeModel.changedCode
def f_X9_changedCode (x0 : Int32) : Option Int32 := if x0 = (2 : Int32) then (some (10 : Int32)) else (if x0 = (3 : Int32) then (some (11 : Int32)) else (if x0 = (10 : Int32) then (some (2 : Int32)) else (if x0 = (11 : Int32) then (some (3 : Int32)) else (some x0))))
-- JudgedCodeModel.goWay
def f_X9_goWay_57 (S : sh) (os0 : Nat) (xs1 : Int32) (xs2 : Int32) (D : dt) : Option (Int32 × dt) := cq (f_X9_settle S os0 xs1 xs2 D) fun _ D61 => some ((1 : Int32), D61)
def f_X9_goWay_121 (S : sh) (D : dt) : Option (Int32 × dt) := some ((1 : Int32), D)
def f_X9_goWay_26 (S : sh) (o0 : Nat) (x1 : Int32) (xs0 : Int32) (D : dt) : Option (Int32 × dt) := if (gI D o0 53) = (3 : Int32) then (rq (gR D o0 44) fun o95 => rq (gR D o0 2) fun o99 => ix x1 (sA S o99) <| ix (gI D o99 x1.toNatClampNeg) (sA S o95) <| if xs0 = (1 : Int32) then (f_X9_goWay_57 S o0 (gI D o95 (gI D o99 x1.toNatClampNeg).toNatClampNeg) (1 : Int32) D) else (f_X9_goWay_57 S o0 (gI D o95 (gI D o99 x1.toNatClampNeg).toNatClampNeg) (0 : Int32) D)) else (if (gI D o0 53) = (1 : Int32) then (rq (gR D o0 2) fun o86 => ix x1 (sA S o86) <| cq (f_X9_narrow S o0 (gI D o86 x1.toNatClampNeg) xs0 (gL D o0 51) D) fun r92 D93 => ck (r92 = 0 ∨ r92 = 1) <| some (r92, D93)) else (if (gI D o0 53) = 0 then (f_X9_goWay_121 S D) else (rq (gR D o0 3) fun o65 => ix x1 (sA S o65) <| pq (f_X9_changedCode xs0) fun r71 => rq (gR D o0 41) fun o72 => rq (gR D o0 2) fun o76 => ix x1 (sA S o76) <| ix (gI D o76 x1.toNatClampNeg) (sA S o72) <| cq (f_X9_narrow S o0 (gI D o65 x1.toNatClampNeg) r71 (gL D o72 (gI D o76 x1.toNatClampNeg).toNatClampNeg) D) fun r83 D84 => if r83 = 0 then (some ((0 : Int32), D84)) else (f_X9_goWay_121 S D84))))
def f_X9_goWay (S : sh) (o0 : Nat) (x1 : Int32) (x2 : Int32) (D : dt) : Option (Int32 × dt) := if x2 = 0 then (rq (gR D o0 1) fun o107 => ix x1 (sA S o107) <| pq (f_X9_otherCode ((gI D o107 x1.toNatClampNeg) >>> ((4 : Int32) &&& 31))) fun r113 => f_X9_goWay_26 S o0 x1 r113 D) else (rq (gR D o0 1) fun o114 => ix x1 (sA S o114) <| f_X9_goWay_26 S o0 x1 ((gI D o114 x1.toNatClampNeg) >>> ((4 : Int32) &&& 31)) D)
theorem mk_X9_narrow : MkV yX9_narrow RX9 cX9_narrow 10 (some .boolean) 3 := ⟨⟨lk_1548, lk_103, lk_121, (tb_in (i := 1549) (by decide +kernel) (by decide +kernel))⟩, by decide +kernel⟩
theorem mk_X9_changedCode : MkS yX9_changedCode cX9_changedCode 1 (some .int) 1 := ⟨⟨lk_1551, lk_121, (tb_in (i := 1552) (by decide +kernel) (by decide +kernel))⟩, by decide +kernel⟩
theorem mk_X9_goWay : MkV yX9_goWay RX9 cX9_goWay 4 (some .boolean) 2 := ⟨⟨lk_1537, lk_101, lk_121, (tb_in (i := 1538) (by decide +kernel) (by decide +kernel))⟩, by decide +kernel⟩
section
variable {p : Program} {l : Launch} {e : Env} {R : Room} {s : State} {m : MethodId} {args : Array Value} {below : List Frame} {meth : Method} {c : Code} {H : Heap} {locs : List Loc} {G : va_G} {cA : Nat → ClassId} {S : sh} {D : dt} {ad : Nat → Nat} {A : Nat → Prop}
set_option maxHeartbeats 4000000 in
set_option maxRecDepth 100000 in
theorem w_X9_narrow_270 {r : Int32} {D' : dt} (hC : Cx RX9 cX9_narrow 10 (some .boolean) p s m args meth c) (hR : 2 ≤ R.frames ∧ 46 ≤ R.locals) : ∀ (o0 a0 : Nat) (x1 : Int32) (x5 : Int64) (x7 : Int64) (xs0 : Int32) (D : dt) (H : Heap) (locs : List Loc) (ls : Array Slot), Is S ad o0 a0 8 → Wd G cA S D ad A s H locs → lv_has ls 10 [(0, .ref a0), (1, .int x1), (5, .long x5), (7, .long x7)] → f_X9_narrow_270 S o0 x1 x5 x7 xs0 D = some (r, D') → W p l e R s m args below meth c H locs 0 0 (MQ below (Qn (some (.int r)) True (wpost G cA S D' ad A) A) args s 0 0 A) (F0 m 270 ls [.int xs0]) := by
  obtain ⟨hx, hb, -⟩ := id hC
  intro o0 a0 x1 x5 x7 xs0 D H locs ls hi0 hw hl h
  unfold f_X9_narrow_270 at h
  refine lv_istore (lv' := [(9, .int xs0), (0, .ref a0), (1, .int x1), (5, .long x5), (7, .long x7)]) hx hb dX9_narrow_270 hl (by decide) rfl (fun ls hl => ?_)
  refine lv_iload hx hb dX9_narrow_272 (lv_at hl 0 rfl) ?_
  refine lv_if_eq (tgt := 293) hx hb dX9_narrow_274 (by decide) (fun c64 => ?_) (fun c64 => ?_)
  · have h := i_yes c64 h
    refine lv_iload hx hb dX9_narrow_293 (lv_at hl 0 rfl) ?_
    obtain ⟨hz65, h⟩ := ck_i h
    cases h
    exact r_zret hC hw hz65 dX9_narrow_295
  · have h := i_no c64 h
    refine lv_aload_n hx hb dX9_narrow_277 rfl (lv_at hl 1 rfl) ?_
    obtain ⟨o66, ho69, h⟩ := rq_i h
    refine r_getR hC hw kc_8 hi0 41 rfl lk_1113 dX9_narrow_278 rfl ho69 (fun a67 hi68 => ?_)
    refine lv_iload_n hx hb dX9_narrow_281 rfl (lv_at hl 2 rfl) ?_
    refine lv_lload hx hb dX9_narrow_282 (lv_at hl 3 rfl) ?_
    obtain ⟨hn70, h⟩ := ix_i h
    refine r_las hC hw hi68 hn70 dX9_narrow_284 (fun D71 eD71 H locs hw => ?_)
    have h := nm_i h D71 eD71
    refine lv_aload_n hx hb dX9_narrow_285 rfl (lv_at hl 1 rfl) ?_
    obtain ⟨o72, ho75, h⟩ := rq_i h
    refine r_getR hC hw kc_8 hi0 42 rfl lk_1114 dX9_narrow_286 rfl ho75 (fun a73 hi74 => ?_)
    refine lv_iload_n hx hb dX9_narrow_289 rfl (lv_at hl 2 rfl) ?_
    refine lv_lload hx hb dX9_narrow_290 (lv_at hl 4 rfl) ?_
    obtain ⟨hn76, h⟩ := ix_i h
    refine r_las hC hw hi74 hn76 dX9_narrow_292 (fun D77 eD77 H locs hw => ?_)
    have h := nm_i h D77 eD77
    refine lv_iload hx hb dX9_narrow_293 (lv_at hl 0 rfl) ?_
    obtain ⟨hz78, h⟩ := ck_i h
    cases h
    exact r_zret hC hw hz78 dX9_narrow_295
set_option maxHeartbeats 4000000 in
set_option maxRecDepth 100000 in
theorem w_X9_narrow_269 {r : Int32} {D' : dt} (hC : Cx RX9 cX9_narrow 10 (some .boolean) p s m args meth c) (hR : 2 ≤ R.frames ∧ 46 ≤ R.locals) : ∀ (o0 a0 : Nat) (x1 : Int32) (x5 : Int64) (x7 : Int64) (D : dt) (H : Heap) (locs : List Loc) (ls : Array Slot), Is S ad o0 a0 8 → Wd G cA S D ad A s H locs → lv_has ls 10 [(0, .ref a0), (1, .int x1), (5, .long x5), (7, .long x7)] → f_X9_narrow_269 S o0 x1 x5 x7 D = some (r, D') → W p l e R s m args below meth c H locs 0 0 (MQ below (Qn (some (.int r)) True (wpost G cA S D' ad A) A) args s 0 0 A) (F0 m 269 ls []) := by
  obtain ⟨hx, hb, -⟩ := id hC
  intro o0 a0 x1 x5 x7 D H locs ls hi0 hw hl h
  unfold f_X9_narrow_269 at h
  refine lv_iconst (v := 0) hx hb dX9_narrow_269 (by decide) ?_
  exact w_X9_narrow_270 hC hR o0 a0 x1 x5 x7 (0 : Int32) _ _ _ _ hi0 hw (lv_sub hl [0, 1, 2, 3] rfl) h
set_option maxHeartbeats 4000000 in
set_option maxRecDepth 100000 in
theorem w_X9_narrow_250 {r : Int32} {D' : dt} (hC : Cx RX9 cX9_narrow 10 (some .boolean) p s m args meth c) (hR : 2 ≤ R.frames ∧ 46 ≤ R.locals) : ∀ (o0 a0 : Nat) (x1 : Int32) (x5 : Int64) (x7 : Int64) (x9 : Int32) (D : dt) (H : Heap) (locs : List Loc) (ls : Array Slot), Is S ad o0 a0 8 → Wd G cA S D ad A s H locs → lv_has ls 10 [(0, .ref a0), (1, .int x1), (5, .long x5), (7, .long x7), (9, .int x9)] → f_X9_narrow_250 S o0 x1 x5 x7 x9 D = some (r, D') → W p l e R s m args below meth c H locs 0 0 (MQ below (Qn (some (.int r)) True (wpost G cA S D' ad A) A) args s 0 0 A) (F0 m 250 ls []) := by
  obtain ⟨hx, hb, -⟩ := id hC
  intro o0 a0 x1 x5 x7 x9 D H locs ls hi0 hw hl h
  unfold f_X9_narrow_250 at h
  refine lv_iload hx hb dX9_narrow_250 (lv_at hl 4 rfl) ?_
  refine lv_if_eq (tgt := 269) hx hb dX9_narrow_252 (by decide) (fun c79 => ?_) (fun c79 => ?_)
  · have h := i_yes c79 h
    exact w_X9_narrow_269 hC hR o0 a0 x1 x5 x7 _ _ _ _ hi0 hw (lv_sub hl [0, 1, 2, 3] rfl) h
  · have h := i_no c79 h
    refine lv_lload hx hb dX9_narrow_255 (lv_at hl 3 rfl) ?_
    refine lv_lload hx hb dX9_narrow_257 (lv_at hl 2 rfl) ?_
    obtain ⟨r81, hq80, h⟩ := pq_i h
    refine r_cS (st' := [.int r81]) [.long x7, .long x5] [] hC hw (k_X9_isBelow _ hq80) mk_X9_isBelow lk_1358 ⟨Nat.le_trans (by decide) hR.1, Nat.le_trans (by decide) hR.2⟩ ⟨Nat.zero_le _, Nat.zero_le _⟩ rfl hl.1 rfl rfl (Nat.le_of_ble_eq_true rfl) dX9_narrow_259 (fun hP H locs hw => ?_)
    refine lv_if_ne (tgt := 269) hx hb dX9_narrow_262 (by decide) (fun c82 => ?_) (fun c82 => ?_)
    · have h := i_no c82 h
      exact w_X9_narrow_269 hC hR o0 a0 x1 x5 x7 _ _ _ _ hi0 hw (lv_sub hl [0, 1, 2, 3] rfl) h
    · have h := i_yes c82 h
      refine lv_iconst (v := 1) hx hb dX9_narrow_265 (by decide) ?_
      refine lv_goto (tgt := 270) hx hb dX9_narrow_266 (by decide) ?_
      exact w_X9_narrow_270 hC hR o0 a0 x1 x5 x7 (1 : Int32) _ _ _ _ hi0 hw (lv_sub hl [0, 1, 2, 3] rfl) h
set_option maxHeartbeats 4000000 in
set_option maxRecDepth 100000 in
theorem w_X9_narrow_172 {r : Int32} {D' : dt} (hC : Cx RX9 cX9_narrow 10 (some .boolean) p s m args meth c) (hR : 2 ≤ R.frames ∧ 46 ≤ R.locals) : ∀ (o0 a0 : Nat) (x1 : Int32) (x7 : Int64) (x9 : Int32) (xs0 : Int64) (D : dt) (H : Heap) (locs : List Loc) (ls : Array Slot), Is S ad o0 a0 8 → Wd G cA S D ad A s H locs → lv_has ls 10 [(0, .ref a0), (1, .int x1), (7, .long x7), (9, .int x9)] → f_X9_narrow_172 S o0 x1 x7 x9 xs0 D = some (r, D') → W p l e R s m args below meth c H locs 0 0 (MQ below (Qn (some (.int r)) True (wpost G cA S D' ad A) A) args s 0 0 A) (F0 m 172 ls [.long xs0]) := by
  obtain ⟨hx, hb, -⟩ := id hC
  intro o0 a0 x1 x7 x9 xs0 D H locs ls hi0 hw hl h
  unfold f_X9_narrow_172 at h
  refine lv_lstore (lv' := [(5, .long xs0), (0, .ref a0), (1, .int x1), (7, .long x7), (9, .int x9)]) hx hb dX9_narrow_172 hl (by decide) rfl (fun ls hl => ?_)
  refine lv_goto (tgt := 250) hx hb dX9_narrow_174 (by decide) ?_
  exact w_X9_narrow_250 hC hR o0 a0 x1 xs0 x7 x9 _ _ _ _ hi0 hw (lv_sub hl [1, 2, 0, 3, 4] rfl) h
set_option maxHeartbeats 4000000 in
set_option maxRecDepth 100000 in
theorem w_X9_narrow_154 {r : Int32} {D' : dt} (hC : Cx RX9 cX9_narrow 10 (some .boolean) p s m args meth c) (hR : 2 ≤ R.frames ∧ 46 ≤ R.locals) : ∀ (o0 a0 : Nat) (x1 : Int32) (x3 : Int64) (x5 : Int64) (x9 : Int32) (xs0 : Int64) (D : dt) (H : Heap) (locs : List Loc) (ls : Array Slot), Is S ad o0 a0 8 → Wd G cA S D ad A s H locs → lv_has ls 10 [(0, .ref a0), (1, .int x1), (3, .long x3), (5, .long x5), (9, .int x9)] → f_X9_narrow_154 S o0 x1 x3 x5 x9 xs0 D = some (r, D') → W p l e R s m args below meth c H locs 0 0 (MQ below (Qn (some (.int r)) True (wpost G cA S D' ad A) A) args s 0 0 A) (F0 m 154 ls [.long xs0]) := by
  obtain ⟨hx, hb, -⟩ := id hC
  intro o0 a0 x1 x3 x5 x9 xs0 D H locs ls hi0 hw hl h
  unfold f_X9_narrow_154 at h
  refine lv_lstore (lv' := [(7, .long xs0), (0, .ref a0), (1, .int x1), (3, .long x3), (5, .long x5), (9, .int x9)]) hx hb dX9_narrow_154 hl (by decide) rfl (fun ls hl => ?_)
  refine lv_lload hx hb dX9_narrow_156 (lv_at hl 4 rfl) ?_
  refine lv_lload_n hx hb dX9_narrow_158 rfl (lv_at hl 3 rfl) ?_
  refine W.lcmp hx hb dX9_narrow_159 ?_
  refine lv_if_ne (tgt := 170) hx hb dX9_narrow_160 (by decide) (fun c83 => ?_) (fun c83 => ?_)
  · have h := i_no c83 h
    refine lv_lload hx hb dX9_narrow_170 (lv_at hl 4 rfl) ?_
    exact w_X9_narrow_172 hC hR o0 a0 x1 xs0 x9 x5 _ _ _ _ hi0 hw (lv_sub hl [1, 2, 0, 5] rfl) h
  · have h := i_yes c83 h
    refine lv_lload hx hb dX9_narrow_163 (lv_at hl 4 rfl) ?_
    refine lv_lconst (v := 1) hx hb dX9_narrow_165 (by decide) ?_
    refine lv_ladd hx hb dX9_narrow_166 ?_
    refine lv_goto (tgt := 172) hx hb dX9_narrow_167 (by decide) ?_
    exact w_X9_narrow_172 hC hR o0 a0 x1 xs0 x9 (x5 + (1 : Int64)) _ _ _ _ hi0 hw (lv_sub hl [1, 2, 0, 5] rfl) h
set_option maxHeartbeats 4000000 in
set_option maxRecDepth 100000 in
theorem w_X9_narrow_152 {r : Int32} {D' : dt} (hC : Cx RX9 cX9_narrow 10 (some .boolean) p s m args meth c) (hR : 2 ≤ R.frames ∧ 46 ≤ R.locals) : ∀ (o0 a0 : Nat) (x1 : Int32) (x3 : Int64) (x5 : Int64) (x7 : Int64) (x9 : Int32) (D : dt) (H : Heap) (locs : List Loc) (ls : Array Slot), Is S ad o0 a0 8 → Wd G cA S D ad A s H locs → lv_has ls 10 [(0, .ref a0), (1, .int x1), (3, .long x3), (5, .long x5), (7, .long x7), (9, .int x9)] → f_X9_narrow_152 S o0 x1 x3 x5 x7 x9 D = some (r, D') → W p l e R s m args below meth c H locs 0 0 (MQ below (Qn (some (.int r)) True (wpost G cA S D' ad A) A) args s 0 0 A) (F0 m 152 ls []) := by
  obtain ⟨hx, hb, -⟩ := id hC
  intro o0 a0 x1 x3 x5 x7 x9 D H locs ls hi0 hw hl h
  unfold f_X9_narrow_152 at h
  refine lv_lload hx hb dX9_narrow_152 (lv_at hl 4 rfl) ?_
  exact w_X9_narrow_154 hC hR o0 a0 x1 x3 x5 x9 x7 _ _ _ _ hi0 hw (lv_sub hl [0, 1, 2, 3, 5] rfl) h
set_option maxHeartbeats 4000000 in
set_option maxRecDepth 100000 in
theorem w_X9_narrow_129 {r : Int32} {D' : dt} (hC : Cx RX9 cX9_narrow 10 (some .boolean) p s m args meth c) (hR : 2 ≤ R.frames ∧ 46 ≤ R.locals) : ∀ (o0 a0 : Nat) (x1 : Int32) (x3 : Int64) (x5 : Int64) (x7 : Int64) (xs0 : Int32) (D : dt) (H : Heap) (locs : List Loc) (ls : Array Slot), Is S ad o0 a0 8 → Wd G cA S D ad A s H locs → lv_has ls 10 [(0, .ref a0), (1, .int x1), (3, .long x3), (5, .long x5), (7, .long x7)] → f_X9_narrow_129 S o0 x1 x3 x5 x7 xs0 D = some (r, D') → W p l e R s m args below meth c H locs 0 0 (MQ below (Qn (some (.int r)) True (wpost G cA S D' ad A) A) args s 0 0 A) (F0 m 129 ls [.int xs0]) := by
  obtain ⟨hx, hb, -⟩ := id hC
  intro o0 a0 x1 x3 x5 x7 xs0 D H locs ls hi0 hw hl h
  unfold f_X9_narrow_129 at h
  refine lv_istore (lv' := [(9, .int xs0), (0, .ref a0), (1, .int x1), (3, .long x3), (5, .long x5), (7, .long x7)]) hx hb dX9_narrow_129 hl (by decide) rfl (fun ls hl => ?_)
  refine lv_lload hx hb dX9_narrow_131 (lv_at hl 5 rfl) ?_
  refine lv_lload_n hx hb dX9_narrow_133 rfl (lv_at hl 3 rfl) ?_
  refine W.lcmp hx hb dX9_narrow_134 ?_
  refine lv_if_ne (tgt := 152) hx hb dX9_narrow_135 (by decide) (fun c84 => ?_) (fun c84 => ?_)
  · have h := i_no c84 h
    exact w_X9_narrow_152 hC hR o0 a0 x1 x3 x5 x7 xs0 _ _ _ _ hi0 hw (lv_sub hl [1, 2, 3, 4, 5, 0] rfl) h
  · have h := i_yes c84 h
    refine lv_lload hx hb dX9_narrow_138 (lv_at hl 4 rfl) ?_
    refine lv_lload_n hx hb dX9_narrow_140 rfl (lv_at hl 3 rfl) ?_
    refine W.lcmp hx hb dX9_narrow_141 ?_
    refine lv_if_eq (tgt := 152) hx hb dX9_narrow_142 (by decide) (fun c85 => ?_) (fun c85 => ?_)
    · have h := i_yes c85 h
      exact w_X9_narrow_152 hC hR o0 a0 x1 x3 x5 x7 xs0 _ _ _ _ hi0 hw (lv_sub hl [1, 2, 3, 4, 5, 0] rfl) h
    · have h := i_no c85 h
      refine lv_lload hx hb dX9_narrow_145 (lv_at hl 5 rfl) ?_
      refine lv_lconst (v := 1) hx hb dX9_narrow_147 (by decide) ?_
      refine lv_lsub hx hb dX9_narrow_148 ?_
      refine lv_goto (tgt := 154) hx hb dX9_narrow_149 (by decide) ?_
      exact w_X9_narrow_154 hC hR o0 a0 x1 x3 x5 xs0 (x7 - (1 : Int64)) _ _ _ _ hi0 hw (lv_sub hl [1, 2, 3, 4, 0] rfl) h
set_option maxHeartbeats 4000000 in
set_option maxRecDepth 100000 in
theorem w_X9_narrow_99 {r : Int32} {D' : dt} (hC : Cx RX9 cX9_narrow 10 (some .boolean) p s m args meth c) (hR : 2 ≤ R.frames ∧ 46 ≤ R.locals) : ∀ (o0 a0 : Nat) (x1 : Int32) (x3 : Int64) (xs0 : Int32) (D : dt) (H : Heap) (locs : List Loc) (ls : Array Slot), Is S ad o0 a0 8 → Wd G cA S D ad A s H locs → lv_has ls 10 [(0, .ref a0), (1, .int x1), (3, .long x3)] → f_X9_narrow_99 S o0 x1 x3 xs0 D = some (r, D') → W p l e R s m args below meth c H locs 0 0 (MQ below (Qn (some (.int r)) True (wpost G cA S D' ad A) A) args s 0 0 A) (F0 m 99 ls [.int xs0]) := by
  obtain ⟨hx, hb, -⟩ := id hC
  intro o0 a0 x1 x3 xs0 D H locs ls hi0 hw hl h
  unfold f_X9_narrow_99 at h
  refine lv_istore (lv' := [(9, .int xs0), (0, .ref a0), (1, .int x1), (3, .long x3)]) hx hb dX9_narrow_99 hl (by decide) rfl (fun ls hl => ?_)
  refine lv_lload_n hx hb dX9_narrow_101 rfl (lv_at hl 3 rfl) ?_
  refine lv_lstore (lv' := [(5, .long x3), (9, .int xs0), (0, .ref a0), (1, .int x1), (3, .long x3)]) hx hb dX9_narrow_102 hl (by decide) rfl (fun ls hl => ?_)
  refine lv_lload_n hx hb dX9_narrow_104 rfl (lv_at hl 4 rfl) ?_
  refine lv_lstore (lv' := [(7, .long x3), (5, .long x3), (9, .int xs0), (0, .ref a0), (1, .int x1), (3, .long x3)]) hx hb dX9_narrow_105 hl (by decide) rfl (fun ls hl => ?_)
  refine lv_goto (tgt := 250) hx hb dX9_narrow_107 (by decide) ?_
  exact w_X9_narrow_250 hC hR o0 a0 x1 x3 x3 xs0 _ _ _ _ hi0 hw (lv_sub hl [3, 4, 1, 0, 2] rfl) h
set_option maxHeartbeats 4000000 in
set_option maxRecDepth 100000 in
theorem w_X9_narrow_98 {r : Int32} {D' : dt} (hC : Cx RX9 cX9_narrow 10 (some .boolean) p s m args meth c) (hR : 2 ≤ R.frames ∧ 46 ≤ R.locals) : ∀ (o0 a0 : Nat) (x1 : Int32) (x3 : Int64) (D : dt) (H : Heap) (locs : List Loc) (ls : Array Slot), Is S ad o0 a0 8 → Wd G cA S D ad A s H locs → lv_has ls 10 [(0, .ref a0), (1, .int x1), (3, .long x3)] → f_X9_narrow_98 S o0 x1 x3 D = some (r, D') → W p l e R s m args below meth c H locs 0 0 (MQ below (Qn (some (.int r)) True (wpost G cA S D' ad A) A) args s 0 0 A) (F0 m 98 ls []) := by
  obtain ⟨hx, hb, -⟩ := id hC
  intro o0 a0 x1 x3 D H locs ls hi0 hw hl h
  unfold f_X9_narrow_98 at h
  refine lv_iconst (v := 0) hx hb dX9_narrow_98 (by decide) ?_
  exact w_X9_narrow_99 hC hR o0 a0 x1 x3 (0 : Int32) _ _ _ _ hi0 hw (lv_sub hl [0, 1, 2] rfl) h
set_option maxHeartbeats 4000000 in
set_option maxRecDepth 100000 in
theorem w_X9_narrow_227 {r : Int32} {D' : dt} (hC : Cx RX9 cX9_narrow 10 (some .boolean) p s m args meth c) (hR : 2 ≤ R.frames ∧ 46 ≤ R.locals) : ∀ (o0 a0 : Nat) (x1 : Int32) (x3 : Int64) (x5 : Int64) (x7 : Int64) (xs0 : Int32) (D : dt) (H : Heap) (locs : List Loc) (ls : Array Slot), Is S ad o0 a0 8 → Wd G cA S D ad A s H locs → lv_has ls 10 [(0, .ref a0), (1, .int x1), (3, .long x3), (5, .long x5), (7, .long x7)] → f_X9_narrow_227 S o0 x1 x3 x5 x7 xs0 D = some (r, D') → W p l e R s m args below meth c H locs 0 0 (MQ below (Qn (some (.int r)) True (wpost G cA S D' ad A) A) args s 0 0 A) (F0 m 227 ls [.int xs0]) := by
  obtain ⟨hx, hb, -⟩ := id hC
  intro o0 a0 x1 x3 x5 x7 xs0 D H locs ls hi0 hw hl h
  unfold f_X9_narrow_227 at h
  refine lv_istore (lv' := [(9, .int xs0), (0, .ref a0), (1, .int x1), (3, .long x3), (5, .long x5), (7, .long x7)]) hx hb dX9_narrow_227 hl (by decide) rfl (fun ls hl => ?_)
  refine lv_lload hx hb dX9_narrow_229 (lv_at hl 5 rfl) ?_
  refine lv_lload_n hx hb dX9_narrow_231 rfl (lv_at hl 3 rfl) ?_
  refine lv_lconst (v := 1) hx hb dX9_narrow_232 (by decide) ?_
  refine lv_lsub hx hb dX9_narrow_233 ?_
  obtain ⟨r87, hq86, h⟩ := pq_i h
  refine r_cS (st' := [.long r87]) [.long x7, .long (x3 - (1 : Int64))] [] hC hw (k_X9_lesser _ hq86) mk_X9_lesser lk_1466 ⟨Nat.le_trans (by decide) hR.1, Nat.le_trans (by decide) hR.2⟩ ⟨Nat.zero_le _, Nat.zero_le _⟩ rfl hl.1 rfl rfl (Nat.le_of_ble_eq_true rfl) dX9_narrow_234 (fun hP H locs hw => ?_)
  refine lv_lstore (lv' := [(7, .long r87), (9, .int xs0), (0, .ref a0), (1, .int x1), (3, .long x3), (5, .long x5)]) hx hb dX9_narrow_237 hl (by decide) rfl (fun ls hl => ?_)
  refine lv_goto (tgt := 250) hx hb dX9_narrow_239 (by decide) ?_
  exact w_X9_narrow_250 hC hR o0 a0 x1 x5 r87 xs0 _ _ _ _ hi0 hw (lv_sub hl [2, 3, 5, 0, 1] rfl) h
set_option maxHeartbeats 4000000 in
set_option maxRecDepth 100000 in
theorem w_X9_narrow_242 {r : Int32} {D' : dt} (hC : Cx RX9 cX9_narrow 10 (some .boolean) p s m args meth c) (hR : 2 ≤ R.frames ∧ 46 ≤ R.locals) : ∀ (o0 a0 : Nat) (x1 : Int32) (x3 : Int64) (x5 : Int64) (x7 : Int64) (x9 : Int32) (D : dt) (H : Heap) (locs : List Loc) (ls : Array Slot), Is S ad o0 a0 8 → Wd G cA S D ad A s H locs → lv_has ls 10 [(0, .ref a0), (1, .int x1), (3, .long x3), (5, .long x5), (7, .long x7), (9, .int x9)] → f_X9_narrow_242 S o0 x1 x3 x5 x7 x9 D = some (r, D') → W p l e R s m args below meth c H locs 0 0 (MQ below (Qn (some (.int r)) True (wpost G cA S D' ad A) A) args s 0 0 A) (F0 m 242 ls []) := by
  obtain ⟨hx, hb, -⟩ := id hC
  intro o0 a0 x1 x3 x5 x7 x9 D H locs ls hi0 hw hl h
  unfold f_X9_narrow_242 at h
  refine lv_lload hx hb dX9_narrow_242 (lv_at hl 4 rfl) ?_
  refine lv_lload_n hx hb dX9_narrow_244 rfl (lv_at hl 2 rfl) ?_
  obtain ⟨r89, hq88, h⟩ := pq_i h
  refine r_cS (st' := [.long r89]) [.long x7, .long x3] [] hC hw (k_X9_lesser _ hq88) mk_X9_lesser lk_1466 ⟨Nat.le_trans (by decide) hR.1, Nat.le_trans (by decide) hR.2⟩ ⟨Nat.zero_le _, Nat.zero_le _⟩ rfl hl.1 rfl rfl (Nat.le_of_ble_eq_true rfl) dX9_narrow_245 (fun hP H locs hw => ?_)
  refine lv_lstore (lv' := [(7, .long r89), (0, .ref a0), (1, .int x1), (3, .long x3), (5, .long x5), (9, .int x9)]) hx hb dX9_narrow_248 hl (by decide) rfl (fun ls hl => ?_)
  exact w_X9_narrow_250 hC hR o0 a0 x1 x5 r89 x9 _ _ _ _ hi0 hw (lv_sub hl [1, 2, 4, 0, 5] rfl) h
set_option maxHeartbeats 4000000 in
set_option maxRecDepth 100000 in
theorem w_X9_narrow_124 {r : Int32} {D' : dt} (hC : Cx RX9 cX9_narrow 10 (some .boolean) p s m args meth c) (hR : 2 ≤ R.frames ∧ 46 ≤ R.locals) : ∀ (o0 a0 : Nat) (x1 : Int32) (x3 : Int64) (x5 : Int64) (x7 : Int64) (D : dt) (H : Heap) (locs : List Loc) (ls : Array Slot), Is S ad o0 a0 8 → Wd G cA S D ad A s H locs → lv_has ls 10 [(0, .ref a0), (1, .int x1), (3, .long x3), (5, .long x5), (7, .long x7)] → f_X9_narrow_124 S o0 x1 x3 x5 x7 D = some (r, D') → W p l e R s m args below meth c H locs 0 0 (MQ below (Qn (some (.int r)) True (wpost G cA S D' ad A) A) args s 0 0 A) (F0 m 124 ls []) := by
  obtain ⟨hx, hb, -⟩ := id hC
  intro o0 a0 x1 x3 x5 x7 D H locs ls hi0 hw hl h
  unfold f_X9_narrow_124 at h
  refine lv_iconst (v := 1) hx hb dX9_narrow_124 (by decide) ?_
  refine lv_goto (tgt := 129) hx hb dX9_narrow_125 (by decide) ?_
  exact w_X9_narrow_129 hC hR o0 a0 x1 x3 x5 x7 (1 : Int32) _ _ _ _ hi0 hw (lv_sub hl [0, 1, 2, 3, 4] rfl) h
set_option maxHeartbeats 4000000 in
set_option maxRecDepth 100000 in
theorem w_X9_narrow_190 {r : Int32} {D' : dt} (hC : Cx RX9 cX9_narrow 10 (some .boolean) p s m args meth c) (hR : 2 ≤ R.frames ∧ 46 ≤ R.locals) : ∀ (o0 a0 : Nat) (x1 : Int32) (x3 : Int64) (x5 : Int64) (x7 : Int64) (xs0 : Int32) (D : dt) (H : Heap) (locs : List Loc) (ls : Array Slot), Is S ad o0 a0 8 → Wd G cA S D ad A s H locs → lv_has ls 10 [(0, .ref a0), (1, .int x1), (3, .long x3), (5, .long x5), (7, .long x7)] → f_X9_narrow_190 S o0 x1 x3 x5 x7 xs0 D = some (r, D') → W p l e R s m args below meth c H locs 0 0 (MQ below (Qn (some (.int r)) True (wpost G cA S D' ad A) A) args s 0 0 A) (F0 m 190 ls [.int xs0]) := by
  obtain ⟨hx, hb, -⟩ := id hC
  intro o0 a0 x1 x3 x5 x7 xs0 D H locs ls hi0 hw hl h
  unfold f_X9_narrow_190 at h
  refine lv_istore (lv' := [(9, .int xs0), (0, .ref a0), (1, .int x1), (3, .long x3), (5, .long x5), (7, .long x7)]) hx hb dX9_narrow_190 hl (by decide) rfl (fun ls hl => ?_)
  refine lv_lload hx hb dX9_narrow_192 (lv_at hl 4 rfl) ?_
  refine lv_lload_n hx hb dX9_narrow_194 rfl (lv_at hl 3 rfl) ?_
  refine lv_lconst (v := 1) hx hb dX9_narrow_195 (by decide) ?_
  refine lv_ladd hx hb dX9_narrow_196 ?_
  obtain ⟨r91, hq90, h⟩ := pq_i h
  refine r_cS (st' := [.long r91]) [.long x5, .long (x3 + (1 : Int64))] [] hC hw (k_X9_greater _ hq90) mk_X9_greater lk_1469 ⟨Nat.le_trans (by decide) hR.1, Nat.le_trans (by decide) hR.2⟩ ⟨Nat.zero_le _, Nat.zero_le _⟩ rfl hl.1 rfl rfl (Nat.le_of_ble_eq_true rfl) dX9_narrow_197 (fun hP H locs hw => ?_)
  refine lv_lstore (lv' := [(5, .long r91), (9, .int xs0), (0, .ref a0), (1, .int x1), (3, .long x3), (7, .long x7)]) hx hb dX9_narrow_200 hl (by decide) rfl (fun ls hl => ?_)
  refine lv_goto (tgt := 250) hx hb dX9_narrow_202 (by decide) ?_
  exact w_X9_narrow_250 hC hR o0 a0 x1 r91 x7 xs0 _ _ _ _ hi0 hw (lv_sub hl [2, 3, 0, 5, 1] rfl) h
set_option maxHeartbeats 4000000 in
set_option maxRecDepth 100000 in
theorem w_X9_narrow_0 {r : Int32} {D' : dt} (hC : Cx RX9 cX9_narrow 10 (some .boolean) p s m args meth c) (hR : 2 ≤ R.frames ∧ 46 ≤ R.locals) : ∀ (o0 a0 : Nat) (x1 : Int32) (x2 : Int32) (x3 : Int64) (D : dt) (H : Heap) (locs : List Loc) (ls : Array Slot), Is S ad o0 a0 8 → Wd G cA S D ad A s H locs → lv_has ls 10 [(0, .ref a0), (1, .int x1), (2, .int x2), (3, .long x3)] → f_X9_narrow S o0 x1 x2 x3 D = some (r, D') → W p l e R s m args below meth c H locs 0 0 (MQ below (Qn (some (.int r)) True (wpost G cA S D' ad A) A) args s 0 0 A) (F0 m 0 ls []) := by
  obtain ⟨hx, hb, -⟩ := id hC
  intro o0 a0 x1 x2 x3 D H locs ls hi0 hw hl h
  unfold f_X9_narrow at h
  refine lv_aload_n hx hb dX9_narrow_0 rfl (lv_at hl 0 rfl) ?_
  obtain ⟨o92, ho95, h⟩ := rq_i h
  refine r_getR hC hw kc_8 hi0 41 rfl lk_1113 dX9_narrow_1 rfl ho95 (fun a93 hi94 => ?_)
  refine lv_iload_n hx hb dX9_narrow_4 rfl (lv_at hl 1 rfl) ?_
  obtain ⟨hn96, h⟩ := ix_i h
  refine r_lald hC hw hi94 hn96 dX9_narrow_5 ?_
  refine lv_topl (fun y97 ey97 => ?_)
  have h := nm_i h y97 ey97
  refine lv_lstore (lv' := [(5, .long y97), (0, .ref a0), (1, .int x1), (2, .int x2), (3, .long x3)]) hx hb dX9_narrow_6 hl (by decide) rfl (fun ls hl => ?_)
  refine lv_aload_n hx hb dX9_narrow_8 rfl (lv_at hl 1 rfl) ?_
  obtain ⟨o98, ho101, h⟩ := rq_i h
  refine r_getR hC hw kc_8 hi0 42 rfl lk_1114 dX9_narrow_9 rfl ho101 (fun a99 hi100 => ?_)
  refine lv_iload_n hx hb dX9_narrow_12 rfl (lv_at hl 2 rfl) ?_
  obtain ⟨hn102, h⟩ := ix_i h
  refine r_lald hC hw hi100 hn102 dX9_narrow_13 ?_
  refine lv_topl (fun y103 ey103 => ?_)
  have h := nm_i h y103 ey103
  refine lv_lstore (lv' := [(7, .long y103), (5, .long y97), (0, .ref a0), (1, .int x1), (2, .int x2), (3, .long x3)]) hx hb dX9_narrow_14 hl (by decide) rfl (fun ls hl => ?_)
  refine lv_iconst (v := 1) hx hb dX9_narrow_16 (by decide) ?_
  refine lv_topi (fun y104 ey104 => ?_)
  have h := nm_i h y104 ey104
  refine lv_istore (lv' := [(9, .int y104), (7, .long y103), (5, .long y97), (0, .ref a0), (1, .int x1), (2, .int x2), (3, .long x3)]) hx hb dX9_narrow_17 hl (by decide) rfl (fun ls hl => ?_)
  refine lv_iload_n hx hb dX9_narrow_19 rfl (lv_at hl 5 rfl) ?_
  by_cases c105 : x2 = 1
  · have h := i_yes c105 h
    refine lv_tableIn (off := 56) (tgt := 76) hx hb dX9_narrow_20 (by rw [c105]; decide) (by rw [c105]; decide) (by rw [c105] <;> rfl) (by decide) ?_
    refine lv_lload_n hx hb dX9_narrow_76 rfl (lv_at hl 6 rfl) ?_
    refine lv_lload hx hb dX9_narrow_77 (lv_at hl 2 rfl) ?_
    obtain ⟨r107, hq106, h⟩ := pq_i h
    refine r_cS (st' := [.int r107]) [.long x3, .long y97] [] hC hw (k_X9_isBelow _ hq106) mk_X9_isBelow lk_1358 ⟨Nat.le_trans (by decide) hR.1, Nat.le_trans (by decide) hR.2⟩ ⟨Nat.zero_le _, Nat.zero_le _⟩ rfl hl.1 rfl rfl (Nat.le_of_ble_eq_true rfl) dX9_narrow_79 (fun hP H locs hw => ?_)
    refine lv_if_ne (tgt := 98) hx hb dX9_narrow_82 (by decide) (fun c108 => ?_) (fun c108 => ?_)
    · have h := i_no c108 h
      exact w_X9_narrow_98 hC hR o0 a0 x1 x3 _ _ _ _ hi0 hw (lv_sub hl [3, 4, 6] rfl) h
    · have h := i_yes c108 h
      refine lv_lload hx hb dX9_narrow_85 (lv_at hl 1 rfl) ?_
      refine lv_lload_n hx hb dX9_narrow_87 rfl (lv_at hl 6 rfl) ?_
      obtain ⟨r110, hq109, h⟩ := pq_i h
      refine r_cS (st' := [.int r110]) [.long y103, .long x3] [] hC hw (k_X9_isBelow _ hq109) mk_X9_isBelow lk_1358 ⟨Nat.le_trans (by decide) hR.1, Nat.le_trans (by decide) hR.2⟩ ⟨Nat.zero_le _, Nat.zero_le _⟩ rfl hl.1 rfl rfl (Nat.le_of_ble_eq_true rfl) dX9_narrow_88 (fun hP H locs hw => ?_)
      refine lv_if_ne (tgt := 98) hx hb dX9_narrow_91 (by decide) (fun c111 => ?_) (fun c111 => ?_)
      · have h := i_no c111 h
        exact w_X9_narrow_98 hC hR o0 a0 x1 x3 _ _ _ _ hi0 hw (lv_sub hl [3, 4, 6] rfl) h
      · have h := i_yes c111 h
        refine lv_iconst (v := 1) hx hb dX9_narrow_94 (by decide) ?_
        refine lv_goto (tgt := 99) hx hb dX9_narrow_95 (by decide) ?_
        exact w_X9_narrow_99 hC hR o0 a0 x1 x3 (1 : Int32) _ _ _ _ hi0 hw (lv_sub hl [3, 4, 6] rfl) h
  have h := i_no c105 h
  by_cases c112 : x2 = 2
  · have h := i_yes c112 h
    refine lv_tableIn (off := 157) (tgt := 177) hx hb dX9_narrow_20 (by rw [c112]; decide) (by rw [c112]; decide) (by rw [c112] <;> rfl) (by decide) ?_
    refine lv_lload_n hx hb dX9_narrow_177 rfl (lv_at hl 6 rfl) ?_
    refine lv_ldc2 (v := (-1)) hx hb hC.2.2.2.1 (hC.2.2.2.2.1 _ lk_1365) dX9_narrow_178 ?_
    refine W.lcmp hx hb dX9_narrow_181 ?_
    refine lv_if_eq (tgt := 189) hx hb dX9_narrow_182 (by decide) (fun c113 => ?_) (fun c113 => ?_)
    · have h := i_yes c113 h
      refine lv_iconst (v := 0) hx hb dX9_narrow_189 (by decide) ?_
      exact w_X9_narrow_190 hC hR o0 a0 x1 x3 y97 y103 (0 : Int32) _ _ _ _ hi0 hw (lv_sub hl [3, 4, 6, 2, 1] rfl) h
    · have h := i_no c113 h
      refine lv_iconst (v := 1) hx hb dX9_narrow_185 (by decide) ?_
      refine lv_goto (tgt := 190) hx hb dX9_narrow_186 (by decide) ?_
      exact w_X9_narrow_190 hC hR o0 a0 x1 x3 y97 y103 (1 : Int32) _ _ _ _ hi0 hw (lv_sub hl [3, 4, 6, 2, 1] rfl) h
  have h := i_no c112 h
  by_cases c114 : x2 = 3
  · have h := i_yes c114 h
    refine lv_tableIn (off := 185) (tgt := 205) hx hb dX9_narrow_20 (by rw [c114]; decide) (by rw [c114]; decide) (by rw [c114] <;> rfl) (by decide) ?_
    refine lv_lload hx hb dX9_narrow_205 (lv_at hl 2 rfl) ?_
    refine lv_lload_n hx hb dX9_narrow_207 rfl (lv_at hl 6 rfl) ?_
    obtain ⟨r116, hq115, h⟩ := pq_i h
    refine r_cS (st' := [.long r116]) [.long y97, .long x3] [] hC hw (k_X9_greater _ hq115) mk_X9_greater lk_1469 ⟨Nat.le_trans (by decide) hR.1, Nat.le_trans (by decide) hR.2⟩ ⟨Nat.zero_le _, Nat.zero_le _⟩ rfl hl.1 rfl rfl (Nat.le_of_ble_eq_true rfl) dX9_narrow_208 (fun hP H locs hw => ?_)
    refine lv_lstore (lv' := [(5, .long r116), (9, .int y104), (7, .long y103), (0, .ref a0), (1, .int x1), (2, .int x2), (3, .long x3)]) hx hb dX9_narrow_211 hl (by decide) rfl (fun ls hl => ?_)
    refine lv_goto (tgt := 250) hx hb dX9_narrow_213 (by decide) ?_
    exact w_X9_narrow_250 hC hR o0 a0 x1 r116 y103 y104 _ _ _ _ hi0 hw (lv_sub hl [3, 4, 0, 2, 1] rfl) h
  have h := i_no c114 h
  by_cases c117 : x2 = 4
  · have h := i_yes c117 h
    refine lv_tableIn (off := 222) (tgt := 242) hx hb dX9_narrow_20 (by rw [c117]; decide) (by rw [c117]; decide) (by rw [c117] <;> rfl) (by decide) ?_
    exact w_X9_narrow_242 hC hR o0 a0 x1 x3 y97 y103 y104 _ _ _ _ hi0 hw (lv_sub hl [3, 4, 6, 2, 1, 0] rfl) h
  have h := i_no c117 h
  by_cases c118 : x2 = 5
  · have h := i_yes c118 h
    refine lv_tableIn (off := 90) (tgt := 110) hx hb dX9_narrow_20 (by rw [c118]; decide) (by rw [c118]; decide) (by rw [c118] <;> rfl) (by decide) ?_
    refine lv_lload hx hb dX9_narrow_110 (lv_at hl 2 rfl) ?_
    refine lv_lload_n hx hb dX9_narrow_112 rfl (lv_at hl 6 rfl) ?_
    refine W.lcmp hx hb dX9_narrow_113 ?_
    refine lv_if_ne (tgt := 124) hx hb dX9_narrow_114 (by decide) (fun c119 => ?_) (fun c119 => ?_)
    · have h := i_no c119 h
      exact w_X9_narrow_124 hC hR o0 a0 x1 x3 y97 y103 _ _ _ _ hi0 hw (lv_sub hl [3, 4, 6, 2, 1] rfl) h
    · have h := i_yes c119 h
      refine lv_lload hx hb dX9_narrow_117 (lv_at hl 1 rfl) ?_
      refine lv_lload_n hx hb dX9_narrow_119 rfl (lv_at hl 6 rfl) ?_
      refine W.lcmp hx hb dX9_narrow_120 ?_
      refine lv_if_eq (tgt := 128) hx hb dX9_narrow_121 (by decide) (fun c120 => ?_) (fun c120 => ?_)
      · have h := i_yes c120 h
        refine lv_iconst (v := 0) hx hb dX9_narrow_128 (by decide) ?_
        exact w_X9_narrow_129 hC hR o0 a0 x1 x3 y97 y103 (0 : Int32) _ _ _ _ hi0 hw (lv_sub hl [3, 4, 6, 2, 1] rfl) h
      · have h := i_no c120 h
        exact w_X9_narrow_124 hC hR o0 a0 x1 x3 y97 y103 _ _ _ _ hi0 hw (lv_sub hl [3, 4, 6, 2, 1] rfl) h
  have h := i_no c118 h
  by_cases c121 : x2 = 6
  · have h := i_yes c121 h
    refine lv_tableIn (off := 222) (tgt := 242) hx hb dX9_narrow_20 (by rw [c121]; decide) (by rw [c121]; decide) (by rw [c121] <;> rfl) (by decide) ?_
    exact w_X9_narrow_242 hC hR o0 a0 x1 x3 y97 y103 y104 _ _ _ _ hi0 hw (lv_sub hl [3, 4, 6, 2, 1, 0] rfl) h
  have h := i_no c121 h
  by_cases c122 : x2 = 7
  · have h := i_yes c122 h
    refine lv_tableIn (off := 222) (tgt := 242) hx hb dX9_narrow_20 (by rw [c122]; decide) (by rw [c122]; decide) (by rw [c122] <;> rfl) (by decide) ?_
    exact w_X9_narrow_242 hC hR o0 a0 x1 x3 y97 y103 y104 _ _ _ _ hi0 hw (lv_sub hl [3, 4, 6, 2, 1, 0] rfl) h
  have h := i_no c122 h
  by_cases c123 : x2 = 8
  · have h := i_yes c123 h
    refine lv_tableIn (off := 222) (tgt := 242) hx hb dX9_narrow_20 (by rw [c123]; decide) (by rw [c123]; decide) (by rw [c123] <;> rfl) (by decide) ?_
    exact w_X9_narrow_242 hC hR o0 a0 x1 x3 y97 y103 y104 _ _ _ _ hi0 hw (lv_sub hl [3, 4, 6, 2, 1, 0] rfl) h
  have h := i_no c123 h
  by_cases c124 : x2 = 9
  · have h := i_yes c124 h
    refine lv_tableIn (off := 222) (tgt := 242) hx hb dX9_narrow_20 (by rw [c124]; decide) (by rw [c124]; decide) (by rw [c124] <;> rfl) (by decide) ?_
    exact w_X9_narrow_242 hC hR o0 a0 x1 x3 y97 y103 y104 _ _ _ _ hi0 hw (lv_sub hl [3, 4, 6, 2, 1, 0] rfl) h
  have h := i_no c124 h
  by_cases c125 : x2 = 10
  · have h := i_yes c125 h
    refine lv_tableIn (off := 196) (tgt := 216) hx hb dX9_narrow_20 (by rw [c125]; decide) (by rw [c125]; decide) (by rw [c125] <;> rfl) (by decide) ?_
    refine lv_lload_n hx hb dX9_narrow_216 rfl (lv_at hl 6 rfl) ?_
    refine lv_lconst (v := 0) hx hb dX9_narrow_217 (by decide) ?_
    refine W.lcmp hx hb dX9_narrow_218 ?_
    refine lv_if_eq (tgt := 226) hx hb dX9_narrow_219 (by decide) (fun c126 => ?_) (fun c126 => ?_)
    · have h := i_yes c126 h
      refine lv_iconst (v := 0) hx hb dX9_narrow_226 (by decide) ?_
      exact w_X9_narrow_227 hC hR o0 a0 x1 x3 y97 y103 (0 : Int32) _ _ _ _ hi0 hw (lv_sub hl [3, 4, 6, 2, 1] rfl) h
    · have h := i_no c126 h
      refine lv_iconst (v := 1) hx hb dX9_narrow_222 (by decide) ?_
      refine lv_goto (tgt := 227) hx hb dX9_narrow_223 (by decide) ?_
      exact w_X9_narrow_227 hC hR o0 a0 x1 x3 y97 y103 (1 : Int32) _ _ _ _ hi0 hw (lv_sub hl [3, 4, 6, 2, 1] rfl) h
  have h := i_no c125 h
  refine lv_tableOut (tgt := 242) hx hb dX9_narrow_20 (by have nc105 := lv_neT c105 (a := 1) rfl; have nc112 := lv_neT c112 (a := 2) rfl; have nc114 := lv_neT c114 (a := 3) rfl; have nc117 := lv_neT c117 (a := 4) rfl; have nc118 := lv_neT c118 (a := 5) rfl; have nc121 := lv_neT c121 (a := 6) rfl; have nc122 := lv_neT c122 (a := 7) rfl; have nc123 := lv_neT c123 (a := 8) rfl; have nc124 := lv_neT c124 (a := 9) rfl; have nc125 := lv_neT c125 (a := 10) rfl; omega) (by decide) ?_
  exact w_X9_narrow_242 hC hR o0 a0 x1 x3 y97 y103 y104 _ _ _ _ hi0 hw (lv_sub hl [3, 4, 6, 2, 1, 0] rfl) h
set_option maxHeartbeats 4000000 in
set_option maxRecDepth 100000 in
theorem k_X9_narrow {l : Launch} {G : va_G} {cA : Nat → ClassId} {S : sh} {D D' : dt} {ad : Nat → Nat} (sz : Nat) {o0 a0 : Nat} {x1 : Int32} {x2 : Int32} {x3 : Int64} {r : Int32} (hi0 : Is S ad o0 a0 8) (h : f_X9_narrow S o0 x1 x2 x3 D = some (r, D')) : Co l yX9_narrow (Cond.code yX9_narrow cX9_narrow 10 (some .boolean) :: tb0) 2 46 [.ref a0, .int x1, .int x2, .long x3] G cA S D ad sz (some (.int r)) True D' := by
  refine Met.ofW (cc := cX9_narrow) (maxL := 10) (ret := (some .boolean)) (by decide) rfl ?_
  intro p e s m args below meth c s₁ B hml hv
  obtain ⟨rfl, hsz, hP, hK, hD0, hT, hX⟩ := hv
  subst hsz
  have hts := atoms_spec (ws := Cond.code yX9_narrow cX9_narrow 10 (some .boolean) :: tb0) B.pre
  have hC : Cx RX9 cX9_narrow 10 (some .boolean) p s m _ meth c := ⟨B.exec, B.bytes, hml, findClass_of_methodNamed B.named, fun w q => hts w (List.mem_cons_of_mem _ q), B.returns, B.notSynchronized⟩
  have hw := Wd.entry hP hK hD0 hT hX
  have hl := lv_entry ([.ref a0, .int x1, .int x2, .long x3]) (n := 10) (Nat.le_of_ble_eq_true rfl)
  rw [lg_entry_eq]
  exact w_X9_narrow_0 hC ⟨Nat.le_refl _, Nat.le_refl _⟩ o0 a0 x1 x2 x3 D _ _ _ hi0 hw hl h
set_option maxHeartbeats 4000000 in
set_option maxRecDepth 100000 in
theorem w_X9_changedCode_0 {r : Int32} (hC : Cx RX9 cX9_changedCode 1 (some .int) p s m args meth c) (hR : 0 ≤ R.frames ∧ 0 ≤ R.locals) : ∀ (x0 : Int32) (H : Heap) (locs : List Loc) (ls : Array Slot), Wd G cA S D ad A s H locs → lv_has ls 1 [(0, .int x0)] → f_X9_changedCode x0 = some r → W p l e R s m args below meth c H locs 0 0 (MQ below (Qn (some (.int r)) True (wpost G cA S D ad A) A) args s 0 0 A) (F0 m 0 ls []) := by
  obtain ⟨hx, hb, -⟩ := id hC
  intro x0 H locs ls hw hl h
  unfold f_X9_changedCode at h
  refine lv_iload_n hx hb dX9_changedCode_0 rfl (lv_at hl 0 rfl) ?_
  refine lv_iconst (v := 2) hx hb dX9_changedCode_1 (by decide) ?_
  refine lv_icmp_ne (tgt := 10) hx hb dX9_changedCode_2 (by decide) (fun c5 => ?_) (fun c5 => ?_)
  · have h := i_no c5 h
    refine lv_iload_n hx hb dX9_changedCode_10 rfl (lv_at hl 0 rfl) ?_
    refine lv_iconst (v := 3) hx hb dX9_changedCode_11 (by decide) ?_
    refine lv_icmp_ne (tgt := 20) hx hb dX9_changedCode_12 (by decide) (fun c6 => ?_) (fun c6 => ?_)
    · have h := i_no c6 h
      refine lv_iload_n hx hb dX9_changedCode_20 rfl (lv_at hl 0 rfl) ?_
      refine lv_bipush (v := 10) hx hb dX9_changedCode_21 (by decide) ?_
      refine lv_icmp_ne (tgt := 30) hx hb dX9_changedCode_23 (by decide) (fun c7 => ?_) (fun c7 => ?_)
      · have h := i_no c7 h
        refine lv_iload_n hx hb dX9_changedCode_30 rfl (lv_at hl 0 rfl) ?_
        refine lv_bipush (v := 11) hx hb dX9_changedCode_31 (by decide) ?_
        refine lv_icmp_ne (tgt := 40) hx hb dX9_changedCode_33 (by decide) (fun c8 => ?_) (fun c8 => ?_)
        · have h := i_no c8 h
          refine lv_iload_n hx hb dX9_changedCode_40 rfl (lv_at hl 0 rfl) ?_
          cases h
          exact r_iret hC hw dX9_changedCode_41
        · have h := i_yes c8 h
          refine lv_iconst (v := 3) hx hb dX9_changedCode_36 (by decide) ?_
          refine lv_goto (tgt := 41) hx hb dX9_changedCode_37 (by decide) ?_
          cases h
          exact r_iret hC hw dX9_changedCode_41
      · have h := i_yes c7 h
        refine lv_iconst (v := 2) hx hb dX9_changedCode_26 (by decide) ?_
        refine lv_goto (tgt := 41) hx hb dX9_changedCode_27 (by decide) ?_
        cases h
        exact r_iret hC hw dX9_changedCode_41
    · have h := i_yes c6 h
      refine lv_bipush (v := 11) hx hb dX9_changedCode_15 (by decide) ?_
      refine lv_goto (tgt := 41) hx hb dX9_changedCode_17 (by decide) ?_
      cases h
      exact r_iret hC hw dX9_changedCode_41
  · have h := i_yes c5 h
    refine lv_bipush (v := 10) hx hb dX9_changedCode_5 (by decide) ?_
    refine lv_goto (tgt := 41) hx hb dX9_changedCode_7 (by decide) ?_
    cases h
    exact r_iret hC hw dX9_changedCode_41
set_option maxHeartbeats 4000000 in
set_option maxRecDepth 100000 in
theorem k_X9_changedCode {l : Launch} {G : va_G} {cA : Nat → ClassId} {S : sh} {D : dt} {ad : Nat → Nat} (sz : Nat) {x0 : Int32} {r : Int32}  (h : f_X9_changedCode x0 = some r) : Co l yX9_changedCode (Cond.code yX9_changedCode cX9_changedCode 1 (some .int) :: tb0) 0 0 [.int x0] G cA S D ad sz (some (.int r)) True D := by
  refine Met.ofW (cc := cX9_changedCode) (maxL := 1) (ret := (some .int)) (by decide) rfl ?_
  intro p e s m args below meth c s₁ B hml hv
  obtain ⟨rfl, hsz, hP, hK, hD0, hT, hX⟩ := hv
  subst hsz
  have hts := atoms_spec (ws := Cond.code yX9_changedCode cX9_changedCode 1 (some .int) :: tb0) B.pre
  have hC : Cx RX9 cX9_changedCode 1 (some .int) p s m _ meth c := ⟨B.exec, B.bytes, hml, findClass_of_methodNamed B.named, fun w q => hts w (List.mem_cons_of_mem _ q), B.returns, B.notSynchronized⟩
  have hw := Wd.entry hP hK hD0 hT hX
  have hl := lv_entry ([.int x0]) (n := 1) (Nat.le_of_ble_eq_true rfl)
  rw [lg_entry_eq]
  exact w_X9_changedCode_0 hC ⟨Nat.le_refl _, Nat.le_refl _⟩ x0 _ _ _ hw hl h
set_option maxHeartbeats 4000000 in
set_option maxRecDepth 100000 in
theorem w_X9_goWay_57 {r : Int32} {D' : dt} (hC : Cx RX9 cX9_goWay 4 (some .boolean) p s m args meth c) (hR : 3 ≤ R.frames ∧ 75 ≤ R.locals) : ∀ (os0 as0 : Nat) (xs1 : Int32) (xs2 : Int32) (D : dt) (H : Heap) (locs : List Loc) (ls : Array Slot), Is S ad os0 as0 8 → Wd G cA S D ad A s H locs → lv_has ls 4 [] → f_X9_goWay_57 S os0 xs1 xs2 D = some (r, D') → W p l e R s m args below meth c H locs 0 0 (MQ below (Qn (some (.int r)) True (wpost G cA S D' ad A) A) args s 0 0 A) (F0 m 57 ls [.int xs2, .int xs1, .ref as0]) := by
  obtain ⟨hx, hb, -⟩ := id hC
  intro os0 as0 xs1 xs2 D H locs ls his0 hw hl h
  unfold f_X9_goWay_57 at h
  obtain ⟨_, D61, hq60, h⟩ := cq_i h
  refine r_cV (st' := []) [.int xs1, .int xs2] [] hC hw kc_8 his0 (k_X9_settle _ his0 hq60) mk_X9_settle lk_1542 ⟨Nat.le_trans (by decide) hR.1, Nat.le_trans (by decide) hR.2⟩ ⟨Nat.zero_le _, Nat.zero_le _⟩ rfl hl.1 rfl rfl (Nat.le_of_ble_eq_true rfl) dX9_goWay_57 (fun hP H locs hw => ?_)
  refine lv_iconst (v := 1) hx hb dX9_goWay_60 (by decide) ?_
  cases h
  exact r_zret hC hw (Or.inr rfl) dX9_goWay_61
set_option maxHeartbeats 4000000 in
set_option maxRecDepth 100000 in
theorem w_X9_goWay_121 {r : Int32} {D' : dt} (hC : Cx RX9 cX9_goWay 4 (some .boolean) p s m args meth c) (hR : 3 ≤ R.frames ∧ 75 ≤ R.locals) : ∀  (D : dt) (H : Heap) (locs : List Loc) (ls : Array Slot), Wd G cA S D ad A s H locs → lv_has ls 4 [] → f_X9_goWay_121 S D = some (r, D') → W p l e R s m args below meth c H locs 0 0 (MQ below (Qn (some (.int r)) True (wpost G cA S D' ad A) A) args s 0 0 A) (F0 m 121 ls []) := by
  obtain ⟨hx, hb, -⟩ := id hC
  intro D H locs ls  hw hl h
  unfold f_X9_goWay_121 at h
  refine lv_iconst (v := 1) hx hb dX9_goWay_121 (by decide) ?_
  refine lv_goto (tgt := 126) hx hb dX9_goWay_122 (by decide) ?_
  cases h
  exact r_zret hC hw (Or.inr rfl) dX9_goWay_126
set_option maxHeartbeats 4000000 in
set_option maxRecDepth 100000 in
theorem w_X9_goWay_26 {r : Int32} {D' : dt} (hC : Cx RX9 cX9_goWay 4 (some .boolean) p s m args meth c) (hR : 3 ≤ R.frames ∧ 75 ≤ R.locals) : ∀ (o0 a0 : Nat) (x1 : Int32) (xs0 : Int32) (D : dt) (H : Heap) (locs : List Loc) (ls : Array Slot), Is S ad o0 a0 8 → Wd G cA S D ad A s H locs → lv_has ls 4 [(0, .ref a0), (1, .int x1)] → f_X9_goWay_26 S o0 x1 xs0 D = some (r, D') → W p l e R s m args below meth c H locs 0 0 (MQ below (Qn (some (.int r)) True (wpost G cA S D' ad A) A) args s 0 0 A) (F0 m 26 ls [.int xs0]) := by
  obtain ⟨hx, hb, -⟩ := id hC
  intro o0 a0 x1 xs0 D H locs ls hi0 hw hl h
  unfold f_X9_goWay_26 at h
  refine lv_istore_n (lv' := [(3, .int xs0), (0, .ref a0), (1, .int x1)]) hx hb dX9_goWay_26 rfl hl (by decide) rfl (fun ls hl => ?_)
  refine lv_aload_n hx hb dX9_goWay_27 rfl (lv_at hl 1 rfl) ?_
  refine r_gI hC hw kc_8 hi0 53 rfl lk_1125 dX9_goWay_28 ?_
  refine lv_iconst (v := 3) hx hb dX9_goWay_31 (by decide) ?_
  refine lv_icmp_ne (tgt := 62) hx hb dX9_goWay_32 (by decide) (fun c62 => ?_) (fun c62 => ?_)
  · have h := i_no c62 h
    refine lv_aload_n hx hb dX9_goWay_62 rfl (lv_at hl 1 rfl) ?_
    refine r_gI hC hw kc_8 hi0 53 rfl lk_1125 dX9_goWay_63 ?_
    refine lv_iconst (v := 1) hx hb dX9_goWay_66 (by decide) ?_
    refine lv_icmp_ne (tgt := 86) hx hb dX9_goWay_67 (by decide) (fun c63 => ?_) (fun c63 => ?_)
    · have h := i_no c63 h
      refine lv_aload_n hx hb dX9_goWay_86 rfl (lv_at hl 1 rfl) ?_
      refine r_gI hC hw kc_8 hi0 53 rfl lk_1125 dX9_goWay_87 ?_
      refine lv_if_eq (tgt := 121) hx hb dX9_goWay_90 (by decide) (fun c64 => ?_) (fun c64 => ?_)
      · have h := i_yes c64 h
        exact w_X9_goWay_121 hC hR _ _ _ _ hw (lv_sub hl [] rfl) h
      · have h := i_no c64 h
        refine lv_aload_n hx hb dX9_goWay_93 rfl (lv_at hl 1 rfl) ?_
        refine lv_aload_n hx hb dX9_goWay_94 rfl (lv_at hl 1 rfl) ?_
        obtain ⟨o65, ho68, h⟩ := rq_i h
        refine r_getR hC hw kc_8 hi0 3 rfl lk_1075 dX9_goWay_95 rfl ho68 (fun a66 hi67 => ?_)
        refine lv_iload_n hx hb dX9_goWay_98 rfl (lv_at hl 2 rfl) ?_
        obtain ⟨hn69, h⟩ := ix_i h
        refine r_iald hC hw hi67 hn69 dX9_goWay_99 ?_
        refine lv_iload_n hx hb dX9_goWay_100 rfl (lv_at hl 0 rfl) ?_
        obtain ⟨r71, hq70, h⟩ := pq_i h
        refine r_cS (st' := [.int r71, .int (gI D o65 x1.toNatClampNeg), .ref a0]) [.int xs0] [.int (gI D o65 x1.toNatClampNeg), .ref a0] hC hw (k_X9_changedCode _ hq70) mk_X9_changedCode lk_1550 ⟨Nat.le_trans (by decide) hR.1, Nat.le_trans (by decide) hR.2⟩ ⟨Nat.zero_le _, Nat.zero_le _⟩ rfl hl.1 rfl rfl (Nat.le_of_ble_eq_true rfl) dX9_goWay_101 (fun hP H locs hw => ?_)
        refine lv_aload_n hx hb dX9_goWay_104 rfl (lv_at hl 1 rfl) ?_
        obtain ⟨o72, ho75, h⟩ := rq_i h
        refine r_getR hC hw kc_8 hi0 41 rfl lk_1113 dX9_goWay_105 rfl ho75 (fun a73 hi74 => ?_)
        refine lv_aload_n hx hb dX9_goWay_108 rfl (lv_at hl 1 rfl) ?_
        obtain ⟨o76, ho79, h⟩ := rq_i h
        refine r_getR hC hw kc_8 hi0 2 rfl lk_1074 dX9_goWay_109 rfl ho79 (fun a77 hi78 => ?_)
        refine lv_iload_n hx hb dX9_goWay_112 rfl (lv_at hl 2 rfl) ?_
        obtain ⟨hn80, h⟩ := ix_i h
        refine r_iald hC hw hi78 hn80 dX9_goWay_113 ?_
        obtain ⟨hn81, h⟩ := ix_i h
        refine r_lald hC hw hi74 hn81 dX9_goWay_114 ?_
        obtain ⟨r83, D84, hq82, h⟩ := cq_i h
        refine r_cV (st' := [.int r83]) [.int (gI D o65 x1.toNatClampNeg), .int r71, .long (gL D o72 (gI D o76 x1.toNatClampNeg).toNatClampNeg)] [] hC hw kc_8 hi0 (k_X9_narrow _ hi0 hq82) mk_X9_narrow lk_1546 ⟨Nat.le_trans (by decide) hR.1, Nat.le_trans (by decide) hR.2⟩ ⟨Nat.zero_le _, Nat.zero_le _⟩ rfl hl.1 rfl rfl (Nat.le_of_ble_eq_true rfl) dX9_goWay_115 (fun hP H locs hw => ?_)
        refine lv_if_eq (tgt := 125) hx hb dX9_goWay_118 (by decide) (fun c85 => ?_) (fun c85 => ?_)
        · have h := i_yes c85 h
          refine lv_iconst (v := 0) hx hb dX9_goWay_125 (by decide) ?_
          cases h
          exact r_zret hC hw (Or.inl rfl) dX9_goWay_126
        · have h := i_no c85 h
          exact w_X9_goWay_121 hC hR _ _ _ _ hw (lv_sub hl [] rfl) h
    · have h := i_yes c63 h
      refine lv_aload_n hx hb dX9_goWay_70 rfl (lv_at hl 1 rfl) ?_
      refine lv_aload_n hx hb dX9_goWay_71 rfl (lv_at hl 1 rfl) ?_
      obtain ⟨o86, ho89, h⟩ := rq_i h
      refine r_getR hC hw kc_8 hi0 2 rfl lk_1074 dX9_goWay_72 rfl ho89 (fun a87 hi88 => ?_)
      refine lv_iload_n hx hb dX9_goWay_75 rfl (lv_at hl 2 rfl) ?_
      obtain ⟨hn90, h⟩ := ix_i h
      refine r_iald hC hw hi88 hn90 dX9_goWay_76 ?_
      refine lv_iload_n hx hb dX9_goWay_77 rfl (lv_at hl 0 rfl) ?_
      refine lv_aload_n hx hb dX9_goWay_78 rfl (lv_at hl 1 rfl) ?_
      refine r_gL hC hw kc_8 hi0 51 rfl lk_1123 dX9_goWay_79 ?_
      obtain ⟨r92, D93, hq91, h⟩ := cq_i h
      refine r_cV (st' := [.int r92]) [.int (gI D o86 x1.toNatClampNeg), .int xs0, .long (gL D o0 51)] [] hC hw kc_8 hi0 (k_X9_narrow _ hi0 hq91) mk_X9_narrow lk_1546 ⟨Nat.le_trans (by decide) hR.1, Nat.le_trans (by decide) hR.2⟩ ⟨Nat.zero_le _, Nat.zero_le _⟩ rfl hl.1 rfl rfl (Nat.le_of_ble_eq_true rfl) dX9_goWay_82 (fun hP H locs hw => ?_)
      obtain ⟨hz94, h⟩ := ck_i h
      cases h
      exact r_zret hC hw hz94 dX9_goWay_85
  · have h := i_yes c62 h
    refine lv_aload_n hx hb dX9_goWay_35 rfl (lv_at hl 1 rfl) ?_
    refine lv_aload_n hx hb dX9_goWay_36 rfl (lv_at hl 1 rfl) ?_
    obtain ⟨o95, ho98, h⟩ := rq_i h
    refine r_getR hC hw kc_8 hi0 44 rfl lk_1116 dX9_goWay_37 rfl ho98 (fun a96 hi97 => ?_)
    refine lv_aload_n hx hb dX9_goWay_40 rfl (lv_at hl 1 rfl) ?_
    obtain ⟨o99, ho102, h⟩ := rq_i h
    refine r_getR hC hw kc_8 hi0 2 rfl lk_1074 dX9_goWay_41 rfl ho102 (fun a100 hi101 => ?_)
    refine lv_iload_n hx hb dX9_goWay_44 rfl (lv_at hl 2 rfl) ?_
    obtain ⟨hn103, h⟩ := ix_i h
    refine r_iald hC hw hi101 hn103 dX9_goWay_45 ?_
    obtain ⟨hn104, h⟩ := ix_i h
    refine r_iald hC hw hi97 hn104 dX9_goWay_46 ?_
    refine lv_iload_n hx hb dX9_goWay_47 rfl (lv_at hl 0 rfl) ?_
    refine lv_iconst (v := 1) hx hb dX9_goWay_48 (by decide) ?_
    refine lv_icmp_ne (tgt := 56) hx hb dX9_goWay_49 (by decide) (fun c105 => ?_) (fun c105 => ?_)
    · have h := i_no c105 h
      refine lv_iconst (v := 0) hx hb dX9_goWay_56 (by decide) ?_
      exact w_X9_goWay_57 hC hR o0 a0 (gI D o95 (gI D o99 x1.toNatClampNeg).toNatClampNeg) (0 : Int32) _ _ _ _ hi0 hw (lv_sub hl [] rfl) h
    · have h := i_yes c105 h
      refine lv_iconst (v := 1) hx hb dX9_goWay_52 (by decide) ?_
      refine lv_goto (tgt := 57) hx hb dX9_goWay_53 (by decide) ?_
      exact w_X9_goWay_57 hC hR o0 a0 (gI D o95 (gI D o99 x1.toNatClampNeg).toNatClampNeg) (1 : Int32) _ _ _ _ hi0 hw (lv_sub hl [] rfl) h
set_option maxHeartbeats 4000000 in
set_option maxRecDepth 100000 in
theorem w_X9_goWay_0 {r : Int32} {D' : dt} (hC : Cx RX9 cX9_goWay 4 (some .boolean) p s m args meth c) (hR : 3 ≤ R.frames ∧ 75 ≤ R.locals) : ∀ (o0 a0 : Nat) (x1 : Int32) (x2 : Int32) (D : dt) (H : Heap) (locs : List Loc) (ls : Array Slot), Is S ad o0 a0 8 → Wd G cA S D ad A s H locs → lv_has ls 4 [(0, .ref a0), (1, .int x1), (2, .int x2)] → f_X9_goWay S o0 x1 x2 D = some (r, D') → W p l e R s m args below meth c H locs 0 0 (MQ below (Qn (some (.int r)) True (wpost G cA S D' ad A) A) args s 0 0 A) (F0 m 0 ls []) := by
  obtain ⟨hx, hb, -⟩ := id hC
  intro o0 a0 x1 x2 D H locs ls hi0 hw hl h
  unfold f_X9_goWay at h
  refine lv_iload_n hx hb dX9_goWay_0 rfl (lv_at hl 2 rfl) ?_
  refine lv_if_eq (tgt := 15) hx hb dX9_goWay_1 (by decide) (fun c106 => ?_) (fun c106 => ?_)
  · have h := i_yes c106 h
    refine lv_aload_n hx hb dX9_goWay_15 rfl (lv_at hl 0 rfl) ?_
    obtain ⟨o107, ho110, h⟩ := rq_i h
    refine r_getR hC hw kc_8 hi0 1 rfl lk_1073 dX9_goWay_16 rfl ho110 (fun a108 hi109 => ?_)
    refine lv_iload_n hx hb dX9_goWay_19 rfl (lv_at hl 1 rfl) ?_
    obtain ⟨hn111, h⟩ := ix_i h
    refine r_iald hC hw hi109 hn111 dX9_goWay_20 ?_
    refine lv_iconst (v := 4) hx hb dX9_goWay_21 (by decide) ?_
    refine lv_ishr hx hb dX9_goWay_22 ?_
    obtain ⟨r113, hq112, h⟩ := pq_i h
    refine r_cS (st' := [.int r113]) [.int ((gI D o107 x1.toNatClampNeg) >>> ((4 : Int32) &&& 31))] [] hC hw (k_X9_otherCode _ hq112) mk_X9_otherCode lk_1539 ⟨Nat.le_trans (by decide) hR.1, Nat.le_trans (by decide) hR.2⟩ ⟨Nat.zero_le _, Nat.zero_le _⟩ rfl hl.1 rfl rfl (Nat.le_of_ble_eq_true rfl) dX9_goWay_23 (fun hP H locs hw => ?_)
    exact w_X9_goWay_26 hC hR o0 a0 x1 r113 _ _ _ _ hi0 hw (lv_sub hl [0, 1] rfl) h
  · have h := i_no c106 h
    refine lv_aload_n hx hb dX9_goWay_4 rfl (lv_at hl 0 rfl) ?_
    obtain ⟨o114, ho117, h⟩ := rq_i h
    refine r_getR hC hw kc_8 hi0 1 rfl lk_1073 dX9_goWay_5 rfl ho117 (fun a115 hi116 => ?_)
    refine lv_iload_n hx hb dX9_goWay_8 rfl (lv_at hl 1 rfl) ?_
    obtain ⟨hn118, h⟩ := ix_i h
    refine r_iald hC hw hi116 hn118 dX9_goWay_9 ?_
    refine lv_iconst (v := 4) hx hb dX9_goWay_10 (by decide) ?_
    refine lv_ishr hx hb dX9_goWay_11 ?_
    refine lv_goto (tgt := 26) hx hb dX9_goWay_12 (by decide) ?_
    exact w_X9_goWay_26 hC hR o0 a0 x1 ((gI D o114 x1.toNatClampNeg) >>> ((4 : Int32) &&& 31)) _ _ _ _ hi0 hw (lv_sub hl [0, 1] rfl) h
set_option maxHeartbeats 4000000 in
set_option maxRecDepth 100000 in
theorem k_X9_goWay {l : Launch} {G : va_G} {cA : Nat → ClassId} {S : sh} {D D' : dt} {ad : Nat → Nat} (sz : Nat) {o0 a0 : Nat} {x1 : Int32} {x2 : Int32} {r : Int32} (hi0 : Is S ad o0 a0 8) (h : f_X9_goWay S o0 x1 x2 D = some (r, D')) : Co l yX9_goWay (Cond.code yX9_goWay cX9_goWay 4 (some .boolean) :: tb0) 3 75 [.ref a0, .int x1, .int x2] G cA S D ad sz (some (.int r)) True D' := by
  refine Met.ofW (cc := cX9_goWay) (maxL := 4) (ret := (some .boolean)) (by decide) rfl ?_
  intro p e s m args below meth c s₁ B hml hv
  obtain ⟨rfl, hsz, hP, hK, hD0, hT, hX⟩ := hv
  subst hsz
  have hts := atoms_spec (ws := Cond.code yX9_goWay cX9_goWay 4 (some .boolean) :: tb0) B.pre
  have hC : Cx RX9 cX9_goWay 4 (some .boolean) p s m _ meth c := ⟨B.exec, B.bytes, hml, findClass_of_methodNamed B.named, fun w q => hts w (List.mem_cons_of_mem _ q), B.returns, B.notSynchronized⟩
  have hw := Wd.entry hP hK hD0 hT hX
  have hl := lv_entry ([.ref a0, .int x1, .int x2]) (n := 4) (Nat.le_of_ble_eq_true rfl)
  rw [lg_entry_eq]
  exact w_X9_goWay_0 hC ⟨Nat.le_refl _, Nat.le_refl _⟩ o0 a0 x1 x2 D _ _ _ hi0 hw hl h
end
