theorem dX9_init_0 : decode cX9_init 0 = .ok (.aload_n 0, 1) := by decide +kernel
theorem dX9_init_1 : decode cX9_init 1 = .ok (.invokespecial 1, 3) := by decide +kernel
theorem dX9_init_4 : decode cX9_init 4 = .ok (.aload_n 0, 1) := by decide +kernel
theorem dX9_init_5 : decode cX9_init 5 = .ok (.sipush 200, 3) := by decide +kernel
theorem dX9_init_8 : decode cX9_init 8 = .ok (.newarray .int, 2) := by decide +kernel
theorem dX9_init_10 : decode cX9_init 10 = .ok (.putfield 7, 3) := by decide +kernel
theorem dX9_init_13 : decode cX9_init 13 = .ok (.aload_n 0, 1) := by decide +kernel
theorem dX9_init_14 : decode cX9_init 14 = .ok (.sipush 200, 3) := by decide +kernel
theorem dX9_init_17 : decode cX9_init 17 = .ok (.newarray .int, 2) := by decide +kernel
theorem dX9_init_19 : decode cX9_init 19 = .ok (.putfield 13, 3) := by decide +kernel
theorem dX9_init_22 : decode cX9_init 22 = .ok (.aload_n 0, 1) := by decide +kernel
theorem dX9_init_23 : decode cX9_init 23 = .ok (.sipush 200, 3) := by decide +kernel
theorem dX9_init_26 : decode cX9_init 26 = .ok (.newarray .int, 2) := by decide +kernel
theorem dX9_init_28 : decode cX9_init 28 = .ok (.putfield 16, 3) := by decide +kernel
theorem dX9_init_31 : decode cX9_init 31 = .ok (.aload_n 0, 1) := by decide +kernel
theorem dX9_init_32 : decode cX9_init 32 = .ok (.sipush 200, 3) := by decide +kernel
theorem dX9_init_35 : decode cX9_init 35 = .ok (.newarray .int, 2) := by decide +kernel
theorem dX9_init_37 : decode cX9_init 37 = .ok (.putfield 19, 3) := by decide +kernel
theorem dX9_init_40 : decode cX9_init 40 = .ok (.aload_n 0, 1) := by decide +kernel
theorem dX9_init_41 : decode cX9_init 41 = .ok (.sipush 200, 3) := by decide +kernel
theorem dX9_init_44 : decode cX9_init 44 = .ok (.newarray .int, 2) := by decide +kernel
theorem dX9_init_46 : decode cX9_init 46 = .ok (.putfield 22, 3) := by decide +kernel
theorem dX9_init_49 : decode cX9_init 49 = .ok (.aload_n 0, 1) := by decide +kernel
theorem dX9_init_50 : decode cX9_init 50 = .ok (.sipush 256, 3) := by decide +kernel
theorem dX9_init_53 : decode cX9_init 53 = .ok (.newarray .int, 2) := by decide +kernel
theorem dX9_init_55 : decode cX9_init 55 = .ok (.putfield 25, 3) := by decide +kernel
theorem dX9_init_58 : decode cX9_init 58 = .ok (.aload_n 0, 1) := by decide +kernel
theorem dX9_init_59 : decode cX9_init 59 = .ok (.sipush 512, 3) := by decide +kernel
theorem dX9_init_62 : decode cX9_init 62 = .ok (.newarray .int, 2) := by decide +kernel
theorem dX9_init_64 : decode cX9_init 64 = .ok (.putfield 28, 3) := by decide +kernel
theorem dX9_init_67 : decode cX9_init 67 = .ok (.aload_n 0, 1) := by decide +kernel
theorem dX9_init_68 : decode cX9_init 68 = .ok (.iconst 4, 1) := by decide +kernel
theorem dX9_init_69 : decode cX9_init 69 = .ok (.newarray .int, 2) := by decide +kernel
theorem dX9_init_71 : decode cX9_init 71 = .ok (.putfield 31, 3) := by decide +kernel
theorem dX9_init_74 : decode cX9_init 74 = .ok (.aload_n 0, 1) := by decide +kernel
theorem dX9_init_75 : decode cX9_init 75 = .ok (.iconst 4, 1) := by decide +kernel
theorem dX9_init_76 : decode cX9_init 76 = .ok (.newarray .int, 2) := by decide +kernel
theorem dX9_init_78 : decode cX9_init 78 = .ok (.putfield 34, 3) := by decide +kernel
theorem dX9_init_81 : decode cX9_init 81 = .ok (.aload_n 0, 1) := by decide +kernel
theorem dX9_init_82 : decode cX9_init 82 = .ok (.iconst 4, 1) := by decide +kernel
theorem dX9_init_83 : decode cX9_init 83 = .ok (.newarray .int, 2) := by decide +kernel
theorem dX9_init_85 : decode cX9_init 85 = .ok (.putfield 37, 3) := by decide +kernel
theorem dX9_init_88 : decode cX9_init 88 = .ok (.aload_n 0, 1) := by decide +kernel
theorem dX9_init_89 : decode cX9_init 89 = .ok (.iconst 4, 1) := by decide +kernel
theorem dX9_init_90 : decode cX9_init 90 = .ok (.newarray .int, 2) := by decide +kernel
theorem dX9_init_92 : decode cX9_init 92 = .ok (.putfield 40, 3) := by decide +kernel
theorem dX9_init_95 : decode cX9_init 95 = .ok (.aload_n 0, 1) := by decide +kernel
theorem dX9_init_96 : decode cX9_init 96 = .ok (.sipush 4096, 3) := by decide +kernel
theorem dX9_init_99 : decode cX9_init 99 = .ok (.newarray .int, 2) := by decide +kernel
theorem dX9_init_101 : decode cX9_init 101 = .ok (.putfield 43, 3) := by decide +kernel
theorem dX9_init_104 : decode cX9_init 104 = .ok (.aload_n 0, 1) := by decide +kernel
theorem dX9_init_105 : decode cX9_init 105 = .ok (.sipush 128, 3) := by decide +kernel
theorem dX9_init_108 : decode cX9_init 108 = .ok (.newarray .boolean, 2) := by decide +kernel
theorem dX9_init_110 : decode cX9_init 110 = .ok (.putfield 46, 3) := by decide +kernel
theorem dX9_init_113 : decode cX9_init 113 = .ok (.aload_n 0, 1) := by decide +kernel
theorem dX9_init_114 : decode cX9_init 114 = .ok (.sipush 1024, 3) := by decide +kernel
theorem dX9_init_117 : decode cX9_init 117 = .ok (.newarray .int, 2) := by decide +kernel
theorem dX9_init_119 : decode cX9_init 119 = .ok (.putfield 50, 3) := by decide +kernel
theorem dX9_init_122 : decode cX9_init 122 = .ok (.aload_n 0, 1) := by decide +kernel
theorem dX9_init_123 : decode cX9_init 123 = .ok (.bipush 11, 2) := by decide +kernel
theorem dX9_init_125 : decode cX9_init 125 = .ok (.newarray .long, 2) := by decide +kernel
theorem dX9_init_127 : decode cX9_init 127 = .ok (.putfield 53, 3) := by decide +kernel
theorem dX9_init_130 : decode cX9_init 130 = .ok (.aload_n 0, 1) := by decide +kernel
theorem dX9_init_131 : decode cX9_init 131 = .ok (.bipush 32, 2) := by decide +kernel
theorem dX9_init_133 : decode cX9_init 133 = .ok (.newarray .long, 2) := by decide +kernel
theorem dX9_init_135 : decode cX9_init 135 = .ok (.putfield 57, 3) := by decide +kernel
theorem dX9_init_138 : decode cX9_init 138 = .ok (.aload_n 0, 1) := by decide +kernel
theorem dX9_init_139 : decode cX9_init 139 = .ok (.bipush 32, 2) := by decide +kernel
theorem dX9_init_141 : decode cX9_init 141 = .ok (.newarray .int, 2) := by decide +kernel
theorem dX9_init_143 : decode cX9_init 143 = .ok (.putfield 60, 3) := by decide +kernel
theorem dX9_init_146 : decode cX9_init 146 = .ok (.aload_n 0, 1) := by decide +kernel
theorem dX9_init_147 : decode cX9_init 147 = .ok (.bipush 8, 2) := by decide +kernel
theorem dX9_init_149 : decode cX9_init 149 = .ok (.newarray .int, 2) := by decide +kernel
theorem dX9_init_151 : decode cX9_init 151 = .ok (.putfield 63, 3) := by decide +kernel
theorem dX9_init_154 : decode cX9_init 154 = .ok (.aload_n 0, 1) := by decide +kernel
theorem dX9_init_155 : decode cX9_init 155 = .ok (.sipush 200, 3) := by decide +kernel
theorem dX9_init_158 : decode cX9_init 158 = .ok (.newarray .boolean, 2) := by decide +kernel
theorem dX9_init_160 : decode cX9_init 160 = .ok (.putfield 66, 3) := by decide +kernel
theorem dX9_init_163 : decode cX9_init 163 = .ok (.aload_n 0, 1) := by decide +kernel
theorem dX9_init_164 : decode cX9_init 164 = .ok (.sipush 201, 3) := by decide +kernel
theorem dX9_init_167 : decode cX9_init 167 = .ok (.newarray .boolean, 2) := by decide +kernel
theorem dX9_init_169 : decode cX9_init 169 = .ok (.putfield 69, 3) := by decide +kernel
theorem dX9_init_172 : decode cX9_init 172 = .ok (.aload_n 0, 1) := by decide +kernel
theorem dX9_init_173 : decode cX9_init 173 = .ok (.sipush 2200, 3) := by decide +kernel
theorem dX9_init_176 : decode cX9_init 176 = .ok (.newarray .int, 2) := by decide +kernel
theorem dX9_init_178 : decode cX9_init 178 = .ok (.putfield 72, 3) := by decide +kernel
theorem dX9_init_181 : decode cX9_init 181 = .ok (.aload_n 0, 1) := by decide +kernel
theorem dX9_init_182 : decode cX9_init 182 = .ok (.sipush 2200, 3) := by decide +kernel
theorem dX9_init_185 : decode cX9_init 185 = .ok (.newarray .long, 2) := by decide +kernel
theorem dX9_init_187 : decode cX9_init 187 = .ok (.putfield 75, 3) := by decide +kernel
theorem dX9_init_190 : decode cX9_init 190 = .ok (.aload_n 0, 1) := by decide +kernel
theorem dX9_init_191 : decode cX9_init 191 = .ok (.sipush 2200, 3) := by decide +kernel
theorem dX9_init_194 : decode cX9_init 194 = .ok (.newarray .long, 2) := by decide +kernel
theorem dX9_init_196 : decode cX9_init 196 = .ok (.putfield 78, 3) := by decide +kernel
theorem dX9_init_199 : decode cX9_init 199 = .ok (.aload_n 0, 1) := by decide +kernel
theorem dX9_init_200 : decode cX9_init 200 = .ok (.sipush 2200, 3) := by decide +kernel
theorem dX9_init_203 : decode cX9_init 203 = .ok (.newarray .int, 2) := by decide +kernel
theorem dX9_init_205 : decode cX9_init 205 = .ok (.putfield 81, 3) := by decide +kernel
theorem dX9_init_208 : decode cX9_init 208 = .ok (.aload_n 0, 1) := by decide +kernel
theorem dX9_init_209 : decode cX9_init 209 = .ok (.sipush 2200, 3) := by decide +kernel
theorem dX9_init_212 : decode cX9_init 212 = .ok (.newarray .int, 2) := by decide +kernel
theorem dX9_init_214 : decode cX9_init 214 = .ok (.putfield 84, 3) := by decide +kernel
theorem dX9_init_217 : decode cX9_init 217 = .ok (.aload_n 0, 1) := by decide +kernel
theorem dX9_init_218 : decode cX9_init 218 = .ok (.ldc 87, 2) := by decide +kernel
theorem dX9_init_220 : decode cX9_init 220 = .ok (.newarray .boolean, 2) := by decide +kernel
theorem dX9_init_222 : decode cX9_init 222 = .ok (.putfield 88, 3) := by decide +kernel
theorem dX9_init_225 : decode cX9_init 225 = .ok (.aload_n 0, 1) := by decide +kernel
theorem dX9_init_226 : decode cX9_init 226 = .ok (.sipush 12800, 3) := by decide +kernel
theorem dX9_init_229 : decode cX9_init 229 = .ok (.newarray .int, 2) := by decide +kernel
theorem dX9_init_231 : decode cX9_init 231 = .ok (.putfield 91, 3) := by decide +kernel
theorem dX9_init_234 : decode cX9_init 234 = .ok (.aload_n 0, 1) := by decide +kernel
theorem dX9_init_235 : decode cX9_init 235 = .ok (.sipush 12800, 3) := by decide +kernel
theorem dX9_init_238 : decode cX9_init 238 = .ok (.newarray .long, 2) := by decide +kernel
theorem dX9_init_240 : decode cX9_init 240 = .ok (.putfield 94, 3) := by decide +kernel
theorem dX9_init_243 : decode cX9_init 243 = .ok (.aload_n 0, 1) := by decide +kernel
theorem dX9_init_244 : decode cX9_init 244 = .ok (.sipush 12800, 3) := by decide +kernel
theorem dX9_init_247 : decode cX9_init 247 = .ok (.newarray .long, 2) := by decide +kernel
theorem dX9_init_249 : decode cX9_init 249 = .ok (.putfield 97, 3) := by decide +kernel
theorem dX9_init_252 : decode cX9_init 252 = .ok (.aload_n 0, 1) := by decide +kernel
theorem dX9_init_253 : decode cX9_init 253 = .ok (.sipush 12800, 3) := by decide +kernel
theorem dX9_init_256 : decode cX9_init 256 = .ok (.newarray .int, 2) := by decide +kernel
theorem dX9_init_258 : decode cX9_init 258 = .ok (.putfield 100, 3) := by decide +kernel
theorem dX9_init_261 : decode cX9_init 261 = .ok (.aload_n 0, 1) := by decide +kernel
theorem dX9_init_262 : decode cX9_init 262 = .ok (.sipush 12800, 3) := by decide +kernel
theorem dX9_init_265 : decode cX9_init 265 = .ok (.newarray .int, 2) := by decide +kernel
theorem dX9_init_267 : decode cX9_init 267 = .ok (.putfield 103, 3) := by decide +kernel
theorem dX9_init_270 : decode cX9_init 270 = .ok (.aload_n 0, 1) := by decide +kernel
theorem dX9_init_271 : decode cX9_init 271 = .ok (.sipush 150, 3) := by decide +kernel
theorem dX9_init_274 : decode cX9_init 274 = .ok (.newarray .int, 2) := by decide +kernel
theorem dX9_init_276 : decode cX9_init 276 = .ok (.putfield 106, 3) := by decide +kernel
theorem dX9_init_279 : decode cX9_init 279 = .ok (.aload_n 0, 1) := by decide +kernel
theorem dX9_init_280 : decode cX9_init 280 = .ok (.sipush 150, 3) := by decide +kernel
theorem dX9_init_283 : decode cX9_init 283 = .ok (.newarray .long, 2) := by decide +kernel
theorem dX9_init_285 : decode cX9_init 285 = .ok (.putfield 109, 3) := by decide +kernel
theorem dX9_init_288 : decode cX9_init 288 = .ok (.aload_n 0, 1) := by decide +kernel
theorem dX9_init_289 : decode cX9_init 289 = .ok (.sipush 150, 3) := by decide +kernel
theorem dX9_init_292 : decode cX9_init 292 = .ok (.newarray .long, 2) := by decide +kernel
theorem dX9_init_294 : decode cX9_init 294 = .ok (.putfield 112, 3) := by decide +kernel
theorem dX9_init_297 : decode cX9_init 297 = .ok (.aload_n 0, 1) := by decide +kernel
theorem dX9_init_298 : decode cX9_init 298 = .ok (.sipush 150, 3) := by decide +kernel
theorem dX9_init_301 : decode cX9_init 301 = .ok (.newarray .int, 2) := by decide +kernel
theorem dX9_init_303 : decode cX9_init 303 = .ok (.putfield 115, 3) := by decide +kernel
theorem dX9_init_306 : decode cX9_init 306 = .ok (.aload_n 0, 1) := by decide +kernel
theorem dX9_init_307 : decode cX9_init 307 = .ok (.sipush 150, 3) := by decide +kernel
theorem dX9_init_310 : decode cX9_init 310 = .ok (.newarray .int, 2) := by decide +kernel
theorem dX9_init_312 : decode cX9_init 312 = .ok (.putfield 118, 3) := by decide +kernel
theorem dX9_init_315 : decode cX9_init 315 = .ok (.aload_n 0, 1) := by decide +kernel
theorem dX9_init_316 : decode cX9_init 316 = .ok (.sipush 1024, 3) := by decide +kernel
theorem dX9_init_319 : decode cX9_init 319 = .ok (.newarray .boolean, 2) := by decide +kernel
theorem dX9_init_321 : decode cX9_init 321 = .ok (.putfield 121, 3) := by decide +kernel
theorem dX9_init_324 : decode cX9_init 324 = .ok (.aload_n 0, 1) := by decide +kernel
theorem dX9_init_325 : decode cX9_init 325 = .ok (.iconst (-1), 1) := by decide +kernel
theorem dX9_init_326 : decode cX9_init 326 = .ok (.putfield 124, 3) := by decide +kernel
theorem dX9_init_329 : decode cX9_init 329 = .ok (.return_, 1) := by decide +kernel
theorem dX9_in_0 : decode cX9_in 0 = .ok (.lload_n 0, 1) := by decide +kernel
theorem dX9_in_1 : decode cX9_in 1 = .ok (.lload_n 2, 1) := by decide +kernel
theorem dX9_in_2 : decode cX9_in 2 = .ok (.lcmp, 1) := by decide +kernel
theorem dX9_in_3 : decode cX9_in 3 = .ok (.ifCond .lt 14, 3) := by decide +kernel
theorem dX9_in_6 : decode cX9_in 6 = .ok (.lload_n 0, 1) := by decide +kernel
theorem dX9_in_7 : decode cX9_in 7 = .ok (.lload 4, 2) := by decide +kernel
theorem dX9_in_9 : decode cX9_in 9 = .ok (.lcmp, 1) := by decide +kernel
theorem dX9_in_10 : decode cX9_in 10 = .ok (.ifCond .gt 7, 3) := by decide +kernel
theorem dX9_in_13 : decode cX9_in 13 = .ok (.iconst 1, 1) := by decide +kernel
theorem dX9_in_14 : decode cX9_in 14 = .ok (.goto 4, 3) := by decide +kernel
theorem dX9_in_17 : decode cX9_in 17 = .ok (.iconst 0, 1) := by decide +kernel
theorem dX9_in_18 : decode cX9_in 18 = .ok (.ireturn, 1) := by decide +kernel
theorem dX9_isBelow_0 : decode cX9_isBelow 0 = .ok (.lload_n 0, 1) := by decide +kernel
theorem dX9_isBelow_1 : decode cX9_isBelow 1 = .ok (.ldc2_w 128, 3) := by decide +kernel
theorem dX9_isBelow_4 : decode cX9_isBelow 4 = .ok (.lxor, 1) := by decide +kernel
theorem dX9_isBelow_5 : decode cX9_isBelow 5 = .ok (.lload_n 2, 1) := by decide +kernel
theorem dX9_isBelow_6 : decode cX9_isBelow 6 = .ok (.ldc2_w 128, 3) := by decide +kernel
theorem dX9_isBelow_9 : decode cX9_isBelow 9 = .ok (.lxor, 1) := by decide +kernel
theorem dX9_isBelow_10 : decode cX9_isBelow 10 = .ok (.lcmp, 1) := by decide +kernel
theorem dX9_isBelow_11 : decode cX9_isBelow 11 = .ok (.ifCond .ge 7, 3) := by decide +kernel
theorem dX9_isBelow_14 : decode cX9_isBelow 14 = .ok (.iconst 1, 1) := by decide +kernel
theorem dX9_isBelow_15 : decode cX9_isBelow 15 = .ok (.goto 4, 3) := by decide +kernel
theorem dX9_isBelow_18 : decode cX9_isBelow 18 = .ok (.iconst 0, 1) := by decide +kernel
theorem dX9_isBelow_19 : decode cX9_isBelow 19 = .ok (.ireturn, 1) := by decide +kernel
theorem dX9_isSlot_0 : decode cX9_isSlot 0 = .ok (.iload_n 0, 1) := by decide +kernel
theorem dX9_isSlot_1 : decode cX9_isSlot 1 = .ok (.i2l, 1) := by decide +kernel
theorem dX9_isSlot_2 : decode cX9_isSlot 2 = .ok (.lconst 0, 1) := by decide +kernel
theorem dX9_isSlot_3 : decode cX9_isSlot 3 = .ok (.ldc2_w 130, 3) := by decide +kernel
theorem dX9_isSlot_6 : decode cX9_isSlot 6 = .ok (.invokestatic 132, 3) := by decide +kernel
theorem dX9_isSlot_9 : decode cX9_isSlot 9 = .ok (.ifCond .eq 33, 3) := by decide +kernel
theorem dX9_isSlot_12 : decode cX9_isSlot 12 = .ok (.iload_n 1, 1) := by decide +kernel
theorem dX9_isSlot_13 : decode cX9_isSlot 13 = .ok (.i2l, 1) := by decide +kernel
theorem dX9_isSlot_14 : decode cX9_isSlot 14 = .ok (.lconst 0, 1) := by decide +kernel
theorem dX9_isSlot_15 : decode cX9_isSlot 15 = .ok (.ldc2_w 130, 3) := by decide +kernel
theorem dX9_isSlot_18 : decode cX9_isSlot 18 = .ok (.invokestatic 132, 3) := by decide +kernel
theorem dX9_isSlot_21 : decode cX9_isSlot 21 = .ok (.ifCond .eq 21, 3) := by decide +kernel
theorem dX9_isSlot_24 : decode cX9_isSlot 24 = .ok (.iload_n 2, 1) := by decide +kernel
theorem dX9_isSlot_25 : decode cX9_isSlot 25 = .ok (.i2l, 1) := by decide +kernel
theorem dX9_isSlot_26 : decode cX9_isSlot 26 = .ok (.ldc2_w 136, 3) := by decide +kernel
theorem dX9_isSlot_29 : decode cX9_isSlot 29 = .ok (.ldc2_w 138, 3) := by decide +kernel
theorem dX9_isSlot_32 : decode cX9_isSlot 32 = .ok (.invokestatic 132, 3) := by decide +kernel
theorem dX9_isSlot_35 : decode cX9_isSlot 35 = .ok (.ifCond .eq 7, 3) := by decide +kernel
theorem dX9_isSlot_38 : decode cX9_isSlot 38 = .ok (.iconst 1, 1) := by decide +kernel
theorem dX9_isSlot_39 : decode cX9_isSlot 39 = .ok (.goto 4, 3) := by decide +kernel
theorem dX9_isSlot_42 : decode cX9_isSlot 42 = .ok (.iconst 0, 1) := by decide +kernel
theorem dX9_isSlot_43 : decode cX9_isSlot 43 = .ok (.ireturn, 1) := by decide +kernel
theorem dX9_set_0 : decode cX9_set 0 = .ok (.aload_n 0, 1) := by decide +kernel
theorem dX9_set_1 : decode cX9_set 1 = .ok (.getfield 7, 3) := by decide +kernel
theorem dX9_set_4 : decode cX9_set 4 = .ok (.iload_n 1, 1) := by decide +kernel
theorem dX9_set_5 : decode cX9_set 5 = .ok (.iload_n 2, 1) := by decide +kernel
theorem dX9_set_6 : decode cX9_set 6 = .ok (.iastore, 1) := by decide +kernel
theorem dX9_set_7 : decode cX9_set 7 = .ok (.aload_n 0, 1) := by decide +kernel
theorem dX9_set_8 : decode cX9_set 8 = .ok (.getfield 13, 3) := by decide +kernel
theorem dX9_set_11 : decode cX9_set 11 = .ok (.iload_n 1, 1) := by decide +kernel
theorem dX9_set_12 : decode cX9_set 12 = .ok (.iload_n 3, 1) := by decide +kernel
theorem dX9_set_13 : decode cX9_set 13 = .ok (.bipush 15, 2) := by decide +kernel
theorem dX9_set_15 : decode cX9_set 15 = .ok (.iand, 1) := by decide +kernel
theorem dX9_set_16 : decode cX9_set 16 = .ok (.iastore, 1) := by decide +kernel
theorem dX9_set_17 : decode cX9_set 17 = .ok (.aload_n 0, 1) := by decide +kernel
theorem dX9_set_18 : decode cX9_set 18 = .ok (.getfield 16, 3) := by decide +kernel
theorem dX9_set_21 : decode cX9_set 21 = .ok (.iload_n 1, 1) := by decide +kernel
theorem dX9_set_22 : decode cX9_set 22 = .ok (.iload_n 3, 1) := by decide +kernel
theorem dX9_set_23 : decode cX9_set 23 = .ok (.iconst 4, 1) := by decide +kernel
theorem dX9_set_24 : decode cX9_set 24 = .ok (.ishr, 1) := by decide +kernel
theorem dX9_set_25 : decode cX9_set 25 = .ok (.iastore, 1) := by decide +kernel
theorem dX9_set_26 : decode cX9_set 26 = .ok (.aload_n 0, 1) := by decide +kernel
theorem dX9_set_27 : decode cX9_set 27 = .ok (.getfield 19, 3) := by decide +kernel
theorem dX9_set_30 : decode cX9_set 30 = .ok (.iload_n 1, 1) := by decide +kernel
theorem dX9_set_31 : decode cX9_set 31 = .ok (.iload 4, 2) := by decide +kernel
theorem dX9_set_33 : decode cX9_set 33 = .ok (.iastore, 1) := by decide +kernel
theorem dX9_set_34 : decode cX9_set 34 = .ok (.aload_n 0, 1) := by decide +kernel
theorem dX9_set_35 : decode cX9_set 35 = .ok (.getfield 22, 3) := by decide +kernel
theorem dX9_set_38 : decode cX9_set 38 = .ok (.iload_n 1, 1) := by decide +kernel
theorem dX9_set_39 : decode cX9_set 39 = .ok (.iload 5, 2) := by decide +kernel
theorem dX9_set_41 : decode cX9_set 41 = .ok (.iastore, 1) := by decide +kernel
theorem dX9_set_42 : decode cX9_set 42 = .ok (.aload_n 0, 1) := by decide +kernel
theorem dX9_set_43 : decode cX9_set 43 = .ok (.iconst 0, 1) := by decide +kernel
theorem dX9_set_44 : decode cX9_set 44 = .ok (.putfield 140, 3) := by decide +kernel
theorem dX9_set_47 : decode cX9_set 47 = .ok (.return_, 1) := by decide +kernel
theorem dX9_feed_0 : decode cX9_feed 0 = .ok (.iload_n 1, 1) := by decide +kernel
theorem dX9_feed_1 : decode cX9_feed 1 = .ok (.iload_n 2, 1) := by decide +kernel
theorem dX9_feed_2 : decode cX9_feed 2 = .ok (.iload_n 3, 1) := by decide +kernel
theorem dX9_feed_3 : decode cX9_feed 3 = .ok (.invokestatic 143, 3) := by decide +kernel
theorem dX9_feed_6 : decode cX9_feed 6 = .ok (.ifCond .ne 6, 3) := by decide +kernel
theorem dX9_feed_9 : decode cX9_feed 9 = .ok (.bipush (-2), 2) := by decide +kernel
theorem dX9_feed_11 : decode cX9_feed 11 = .ok (.ireturn, 1) := by decide +kernel
theorem dX9_feed_12 : decode cX9_feed 12 = .ok (.aload_n 0, 1) := by decide +kernel
theorem dX9_feed_13 : decode cX9_feed 13 = .ok (.getfield 147, 3) := by decide +kernel
theorem dX9_feed_16 : decode cX9_feed 16 = .ok (.sipush 200, 3) := by decide +kernel
theorem dX9_feed_19 : decode cX9_feed 19 = .ok (.if_icmp .ne 6, 3) := by decide +kernel
theorem dX9_feed_22 : decode cX9_feed 22 = .ok (.bipush (-4), 2) := by decide +kernel
theorem dX9_feed_24 : decode cX9_feed 24 = .ok (.ireturn, 1) := by decide +kernel
theorem dX9_feed_25 : decode cX9_feed 25 = .ok (.aload_n 0, 1) := by decide +kernel
theorem dX9_feed_26 : decode cX9_feed 26 = .ok (.aload_n 0, 1) := by decide +kernel
theorem dX9_feed_27 : decode cX9_feed 27 = .ok (.getfield 147, 3) := by decide +kernel
theorem dX9_feed_30 : decode cX9_feed 30 = .ok (.iload_n 1, 1) := by decide +kernel
theorem dX9_feed_31 : decode cX9_feed 31 = .ok (.iload_n 2, 1) := by decide +kernel
theorem dX9_feed_32 : decode cX9_feed 32 = .ok (.iload_n 3, 1) := by decide +kernel
theorem dX9_feed_33 : decode cX9_feed 33 = .ok (.iload 4, 2) := by decide +kernel
theorem dX9_feed_35 : decode cX9_feed 35 = .ok (.invokevirtual 150, 3) := by decide +kernel
theorem dX9_feed_38 : decode cX9_feed 38 = .ok (.aload_n 0, 1) := by decide +kernel
theorem dX9_feed_39 : decode cX9_feed 39 = .ok (.dup, 1) := by decide +kernel
theorem dX9_feed_40 : decode cX9_feed 40 = .ok (.getfield 147, 3) := by decide +kernel
theorem dX9_feed_43 : decode cX9_feed 43 = .ok (.iconst 1, 1) := by decide +kernel
theorem dX9_feed_44 : decode cX9_feed 44 = .ok (.iadd, 1) := by decide +kernel
theorem dX9_feed_45 : decode cX9_feed 45 = .ok (.putfield 147, 3) := by decide +kernel
theorem dX9_feed_48 : decode cX9_feed 48 = .ok (.aload_n 0, 1) := by decide +kernel
theorem dX9_feed_49 : decode cX9_feed 49 = .ok (.getfield 147, 3) := by decide +kernel
theorem dX9_feed_52 : decode cX9_feed 52 = .ok (.iconst 1, 1) := by decide +kernel
theorem dX9_feed_53 : decode cX9_feed 53 = .ok (.isub, 1) := by decide +kernel
theorem dX9_feed_54 : decode cX9_feed 54 = .ok (.ireturn, 1) := by decide +kernel
theorem dX9_alter_0 : decode cX9_alter 0 = .ok (.iload_n 1, 1) := by decide +kernel
theorem dX9_alter_1 : decode cX9_alter 1 = .ok (.i2l, 1) := by decide +kernel
theorem dX9_alter_2 : decode cX9_alter 2 = .ok (.lconst 0, 1) := by decide +kernel
theorem dX9_alter_3 : decode cX9_alter 3 = .ok (.aload_n 0, 1) := by decide +kernel
theorem dX9_alter_4 : decode cX9_alter 4 = .ok (.getfield 147, 3) := by decide +kernel
theorem dX9_alter_7 : decode cX9_alter 7 = .ok (.iconst 1, 1) := by decide +kernel
theorem dX9_alter_8 : decode cX9_alter 8 = .ok (.isub, 1) := by decide +kernel
theorem dX9_alter_9 : decode cX9_alter 9 = .ok (.i2l, 1) := by decide +kernel
theorem dX9_alter_10 : decode cX9_alter 10 = .ok (.invokestatic 132, 3) := by decide +kernel
theorem dX9_alter_13 : decode cX9_alter 13 = .ok (.ifCond .ne 5, 3) := by decide +kernel
theorem dX9_alter_16 : decode cX9_alter 16 = .ok (.iconst (-1), 1) := by decide +kernel
theorem dX9_alter_17 : decode cX9_alter 17 = .ok (.ireturn, 1) := by decide +kernel
theorem dX9_alter_18 : decode cX9_alter 18 = .ok (.iload_n 2, 1) := by decide +kernel
theorem dX9_alter_19 : decode cX9_alter 19 = .ok (.iload_n 3, 1) := by decide +kernel
theorem dX9_alter_20 : decode cX9_alter 20 = .ok (.iload 4, 2) := by decide +kernel
theorem dX9_alter_22 : decode cX9_alter 22 = .ok (.invokestatic 143, 3) := by decide +kernel
theorem dX9_alter_25 : decode cX9_alter 25 = .ok (.ifCond .ne 6, 3) := by decide +kernel
theorem dX9_alter_28 : decode cX9_alter 28 = .ok (.bipush (-2), 2) := by decide +kernel
theorem dX9_alter_30 : decode cX9_alter 30 = .ok (.ireturn, 1) := by decide +kernel
theorem dX9_alter_31 : decode cX9_alter 31 = .ok (.aload_n 0, 1) := by decide +kernel
theorem dX9_alter_32 : decode cX9_alter 32 = .ok (.iload_n 1, 1) := by decide +kernel
theorem dX9_alter_33 : decode cX9_alter 33 = .ok (.iload_n 2, 1) := by decide +kernel
theorem dX9_alter_34 : decode cX9_alter 34 = .ok (.iload_n 3, 1) := by decide +kernel
theorem dX9_alter_35 : decode cX9_alter 35 = .ok (.iload 4, 2) := by decide +kernel
theorem dX9_alter_37 : decode cX9_alter 37 = .ok (.iload 5, 2) := by decide +kernel
theorem dX9_alter_39 : decode cX9_alter 39 = .ok (.invokevirtual 150, 3) := by decide +kernel
theorem dX9_alter_42 : decode cX9_alter 42 = .ok (.iconst 1, 1) := by decide +kernel
theorem dX9_alter_43 : decode cX9_alter 43 = .ok (.ireturn, 1) := by decide +kernel
theorem dX9_cut_0 : decode cX9_cut 0 = .ok (.iload_n 1, 1) := by decide +kernel
theorem dX9_cut_1 : decode cX9_cut 1 = .ok (.i2l, 1) := by decide +kernel
theorem dX9_cut_2 : decode cX9_cut 2 = .ok (.lconst 0, 1) := by decide +kernel
theorem dX9_cut_3 : decode cX9_cut 3 = .ok (.aload_n 0, 1) := by decide +kernel
theorem dX9_cut_4 : decode cX9_cut 4 = .ok (.getfield 147, 3) := by decide +kernel
theorem dX9_cut_7 : decode cX9_cut 7 = .ok (.i2l, 1) := by decide +kernel
theorem dX9_cut_8 : decode cX9_cut 8 = .ok (.invokestatic 132, 3) := by decide +kernel
theorem dX9_cut_11 : decode cX9_cut 11 = .ok (.ifCond .ne 6, 3) := by decide +kernel
theorem dX9_cut_14 : decode cX9_cut 14 = .ok (.bipush (-2), 2) := by decide +kernel
theorem dX9_cut_16 : decode cX9_cut 16 = .ok (.ireturn, 1) := by decide +kernel
theorem dX9_cut_17 : decode cX9_cut 17 = .ok (.aload_n 0, 1) := by decide +kernel
theorem dX9_cut_18 : decode cX9_cut 18 = .ok (.getfield 147, 3) := by decide +kernel
theorem dX9_cut_21 : decode cX9_cut 21 = .ok (.istore_n 2, 1) := by decide +kernel
theorem dX9_cut_22 : decode cX9_cut 22 = .ok (.aload_n 0, 1) := by decide +kernel
theorem dX9_cut_23 : decode cX9_cut 23 = .ok (.iload_n 1, 1) := by decide +kernel
theorem dX9_cut_24 : decode cX9_cut 24 = .ok (.putfield 147, 3) := by decide +kernel
theorem dX9_cut_27 : decode cX9_cut 27 = .ok (.aload_n 0, 1) := by decide +kernel
theorem dX9_cut_28 : decode cX9_cut 28 = .ok (.iconst 0, 1) := by decide +kernel
theorem dX9_cut_29 : decode cX9_cut 29 = .ok (.putfield 140, 3) := by decide +kernel
theorem dX9_cut_32 : decode cX9_cut 32 = .ok (.iload_n 2, 1) := by decide +kernel
theorem dX9_cut_33 : decode cX9_cut 33 = .ok (.ireturn, 1) := by decide +kernel
theorem dX9_isRegister_0 : decode cX9_isRegister 0 = .ok (.aload_n 0, 1) := by decide +kernel
theorem dX9_isRegister_1 : decode cX9_isRegister 1 = .ok (.getfield 7, 3) := by decide +kernel
theorem dX9_isRegister_4 : decode cX9_isRegister 4 = .ok (.iload_n 1, 1) := by decide +kernel
theorem dX9_isRegister_5 : decode cX9_isRegister 5 = .ok (.iaload, 1) := by decide +kernel
theorem dX9_isRegister_6 : decode cX9_isRegister 6 = .ok (.iconst 4, 1) := by decide +kernel
theorem dX9_isRegister_7 : decode cX9_isRegister 7 = .ok (.ishr, 1) := by decide +kernel
theorem dX9_isRegister_8 : decode cX9_isRegister 8 = .ok (.istore_n 3, 1) := by decide +kernel
theorem dX9_isRegister_9 : decode cX9_isRegister 9 = .ok (.aload_n 0, 1) := by decide +kernel
theorem dX9_isRegister_10 : decode cX9_isRegister 10 = .ok (.getfield 7, 3) := by decide +kernel
theorem dX9_isRegister_13 : decode cX9_isRegister 13 = .ok (.iload_n 1, 1) := by decide +kernel
theorem dX9_isRegister_14 : decode cX9_isRegister 14 = .ok (.iaload, 1) := by decide +kernel
theorem dX9_isRegister_15 : decode cX9_isRegister 15 = .ok (.bipush 8, 2) := by decide +kernel
theorem dX9_isRegister_17 : decode cX9_isRegister 17 = .ok (.iand, 1) := by decide +kernel
theorem dX9_isRegister_18 : decode cX9_isRegister 18 = .ok (.ifCond .eq 7, 3) := by decide +kernel
theorem dX9_isRegister_21 : decode cX9_isRegister 21 = .ok (.iconst 1, 1) := by decide +kernel
theorem dX9_isRegister_22 : decode cX9_isRegister 22 = .ok (.goto 4, 3) := by decide +kernel
theorem dX9_isRegister_25 : decode cX9_isRegister 25 = .ok (.iconst 0, 1) := by decide +kernel
theorem dX9_isRegister_26 : decode cX9_isRegister 26 = .ok (.istore 4, 2) := by decide +kernel
theorem dX9_isRegister_28 : decode cX9_isRegister 28 = .ok (.iload_n 3, 1) := by decide +kernel
theorem dX9_isRegister_29 : decode cX9_isRegister 29 = .ok (.bipush 13, 2) := by decide +kernel
theorem dX9_isRegister_31 : decode cX9_isRegister 31 = .ok (.if_icmp .gt 14, 3) := by decide +kernel
theorem dX9_isRegister_34 : decode cX9_isRegister 34 = .ok (.aload_n 0, 1) := by decide +kernel
theorem dX9_isRegister_35 : decode cX9_isRegister 35 = .ok (.getfield 13, 3) := by decide +kernel
theorem dX9_isRegister_38 : decode cX9_isRegister 38 = .ok (.iload_n 1, 1) := by decide +kernel
theorem dX9_isRegister_39 : decode cX9_isRegister 39 = .ok (.iaload, 1) := by decide +kernel
theorem dX9_isRegister_40 : decode cX9_isRegister 40 = .ok (.bipush 9, 2) := by decide +kernel
theorem dX9_isRegister_42 : decode cX9_isRegister 42 = .ok (.if_icmp .le 5, 3) := by decide +kernel
theorem dX9_isRegister_45 : decode cX9_isRegister 45 = .ok (.iconst 0, 1) := by decide +kernel
theorem dX9_isRegister_46 : decode cX9_isRegister 46 = .ok (.ireturn, 1) := by decide +kernel
theorem dX9_isRegister_47 : decode cX9_isRegister 47 = .ok (.iload_n 3, 1) := by decide +kernel
theorem dX9_isRegister_48 : decode cX9_isRegister 48 = .ok (.bipush 13, 2) := by decide +kernel
theorem dX9_isRegister_50 : decode cX9_isRegister 50 = .ok (.if_icmp .ne 69, 3) := by decide +kernel
theorem dX9_isRegister_53 : decode cX9_isRegister 53 = .ok (.aload_n 0, 1) := by decide +kernel
theorem dX9_isRegister_54 : decode cX9_isRegister 54 = .ok (.getfield 16, 3) := by decide +kernel
theorem dX9_isRegister_57 : decode cX9_isRegister 57 = .ok (.iload_n 1, 1) := by decide +kernel
theorem dX9_isRegister_58 : decode cX9_isRegister 58 = .ok (.iaload, 1) := by decide +kernel
theorem dX9_isRegister_59 : decode cX9_isRegister 59 = .ok (.ifCond .ne 58, 3) := by decide +kernel
theorem dX9_isRegister_62 : decode cX9_isRegister 62 = .ok (.aload_n 0, 1) := by decide +kernel
theorem dX9_isRegister_63 : decode cX9_isRegister 63 = .ok (.getfield 19, 3) := by decide +kernel
theorem dX9_isRegister_66 : decode cX9_isRegister 66 = .ok (.iload_n 1, 1) := by decide +kernel
theorem dX9_isRegister_67 : decode cX9_isRegister 67 = .ok (.iaload, 1) := by decide +kernel
theorem dX9_isRegister_68 : decode cX9_isRegister 68 = .ok (.ifCond .ne 49, 3) := by decide +kernel
theorem dX9_isRegister_71 : decode cX9_isRegister 71 = .ok (.aload_n 0, 1) := by decide +kernel
theorem dX9_isRegister_72 : decode cX9_isRegister 72 = .ok (.getfield 22, 3) := by decide +kernel
theorem dX9_isRegister_75 : decode cX9_isRegister 75 = .ok (.iload_n 1, 1) := by decide +kernel
theorem dX9_isRegister_76 : decode cX9_isRegister 76 = .ok (.iaload, 1) := by decide +kernel
theorem dX9_isRegister_77 : decode cX9_isRegister 77 = .ok (.bipush 16, 2) := by decide +kernel
theorem dX9_isRegister_79 : decode cX9_isRegister 79 = .ok (.if_icmp .eq 25, 3) := by decide +kernel
theorem dX9_isRegister_82 : decode cX9_isRegister 82 = .ok (.aload_n 0, 1) := by decide +kernel
theorem dX9_isRegister_83 : decode cX9_isRegister 83 = .ok (.getfield 22, 3) := by decide +kernel
theorem dX9_isRegister_86 : decode cX9_isRegister 86 = .ok (.iload_n 1, 1) := by decide +kernel
theorem dX9_isRegister_87 : decode cX9_isRegister 87 = .ok (.iaload, 1) := by decide +kernel
theorem dX9_isRegister_88 : decode cX9_isRegister 88 = .ok (.bipush 32, 2) := by decide +kernel
theorem dX9_isRegister_90 : decode cX9_isRegister 90 = .ok (.if_icmp .eq 14, 3) := by decide +kernel
theorem dX9_isRegister_93 : decode cX9_isRegister 93 = .ok (.aload_n 0, 1) := by decide +kernel
theorem dX9_isRegister_94 : decode cX9_isRegister 94 = .ok (.getfield 22, 3) := by decide +kernel
theorem dX9_isRegister_97 : decode cX9_isRegister 97 = .ok (.iload_n 1, 1) := by decide +kernel
theorem dX9_isRegister_98 : decode cX9_isRegister 98 = .ok (.iaload, 1) := by decide +kernel
theorem dX9_isRegister_99 : decode cX9_isRegister 99 = .ok (.bipush 64, 2) := by decide +kernel
theorem dX9_isRegister_101 : decode cX9_isRegister 101 = .ok (.if_icmp .ne 16, 3) := by decide +kernel
theorem dX9_isRegister_104 : decode cX9_isRegister 104 = .ok (.iload_n 2, 1) := by decide +kernel
theorem dX9_isRegister_105 : decode cX9_isRegister 105 = .ok (.ifCond .eq 8, 3) := by decide +kernel
theorem dX9_isRegister_108 : decode cX9_isRegister 108 = .ok (.iload 4, 2) := by decide +kernel
theorem dX9_isRegister_110 : decode cX9_isRegister 110 = .ok (.ifCond .ne 7, 3) := by decide +kernel
theorem dX9_isRegister_113 : decode cX9_isRegister 113 = .ok (.iconst 1, 1) := by decide +kernel
theorem dX9_isRegister_114 : decode cX9_isRegister 114 = .ok (.goto 4, 3) := by decide +kernel
theorem dX9_isRegister_117 : decode cX9_isRegister 117 = .ok (.iconst 0, 1) := by decide +kernel
theorem dX9_isRegister_118 : decode cX9_isRegister 118 = .ok (.ireturn, 1) := by decide +kernel
theorem dX9_isRegister_119 : decode cX9_isRegister 119 = .ok (.iload 4, 2) := by decide +kernel
theorem dX9_isRegister_121 : decode cX9_isRegister 121 = .ok (.ifCond .eq 31, 3) := by decide +kernel
theorem dX9_isRegister_124 : decode cX9_isRegister 124 = .ok (.aload_n 0, 1) := by decide +kernel
theorem dX9_isRegister_125 : decode cX9_isRegister 125 = .ok (.getfield 22, 3) := by decide +kernel
theorem dX9_isRegister_128 : decode cX9_isRegister 128 = .ok (.iload_n 1, 1) := by decide +kernel
theorem dX9_isRegister_129 : decode cX9_isRegister 129 = .ok (.iaload, 1) := by decide +kernel
theorem dX9_isRegister_130 : decode cX9_isRegister 130 = .ok (.ifCond .ne 18, 3) := by decide +kernel
theorem dX9_isRegister_133 : decode cX9_isRegister 133 = .ok (.aload_n 0, 1) := by decide +kernel
theorem dX9_isRegister_134 : decode cX9_isRegister 134 = .ok (.getfield 16, 3) := by decide +kernel
theorem dX9_isRegister_137 : decode cX9_isRegister 137 = .ok (.iload_n 1, 1) := by decide +kernel
theorem dX9_isRegister_138 : decode cX9_isRegister 138 = .ok (.iaload, 1) := by decide +kernel
theorem dX9_isRegister_139 : decode cX9_isRegister 139 = .ok (.bipush 11, 2) := by decide +kernel
theorem dX9_isRegister_141 : decode cX9_isRegister 141 = .ok (.if_icmp .ge 7, 3) := by decide +kernel
theorem dX9_isRegister_144 : decode cX9_isRegister 144 = .ok (.iconst 1, 1) := by decide +kernel
theorem dX9_isRegister_145 : decode cX9_isRegister 145 = .ok (.goto 21, 3) := by decide +kernel
theorem dX9_isRegister_148 : decode cX9_isRegister 148 = .ok (.iconst 0, 1) := by decide +kernel
theorem dX9_isRegister_149 : decode cX9_isRegister 149 = .ok (.goto 17, 3) := by decide +kernel
theorem dX9_isRegister_152 : decode cX9_isRegister 152 = .ok (.aload_n 0, 1) := by decide +kernel
theorem dX9_isRegister_153 : decode cX9_isRegister 153 = .ok (.getfield 16, 3) := by decide +kernel
theorem dX9_isRegister_156 : decode cX9_isRegister 156 = .ok (.iload_n 1, 1) := by decide +kernel
theorem dX9_isRegister_157 : decode cX9_isRegister 157 = .ok (.iaload, 1) := by decide +kernel
theorem dX9_isRegister_158 : decode cX9_isRegister 158 = .ok (.ifCond .ne 7, 3) := by decide +kernel
theorem dX9_isRegister_161 : decode cX9_isRegister 161 = .ok (.iconst 1, 1) := by decide +kernel
theorem dX9_isRegister_162 : decode cX9_isRegister 162 = .ok (.goto 4, 3) := by decide +kernel
theorem dX9_isRegister_165 : decode cX9_isRegister 165 = .ok (.iconst 0, 1) := by decide +kernel
theorem dX9_isRegister_166 : decode cX9_isRegister 166 = .ok (.istore 5, 2) := by decide +kernel
theorem dX9_isRegister_168 : decode cX9_isRegister 168 = .ok (.iload_n 3, 1) := by decide +kernel
theorem dX9_isRegister_169 : decode cX9_isRegister 169 = .ok (.bipush 8, 2) := by decide +kernel
theorem dX9_isRegister_171 : decode cX9_isRegister 171 = .ok (.if_icmp .ne 37, 3) := by decide +kernel
theorem dX9_isRegister_174 : decode cX9_isRegister 174 = .ok (.iload 5, 2) := by decide +kernel
theorem dX9_isRegister_176 : decode cX9_isRegister 176 = .ok (.ifCond .eq 30, 3) := by decide +kernel
theorem dX9_isRegister_179 : decode cX9_isRegister 179 = .ok (.iload 4, 2) := by decide +kernel
theorem dX9_isRegister_181 : decode cX9_isRegister 181 = .ok (.ifCond .ne 25, 3) := by decide +kernel
theorem dX9_isRegister_184 : decode cX9_isRegister 184 = .ok (.aload_n 0, 1) := by decide +kernel
theorem dX9_isRegister_185 : decode cX9_isRegister 185 = .ok (.getfield 22, 3) := by decide +kernel
theorem dX9_isRegister_188 : decode cX9_isRegister 188 = .ok (.iload_n 1, 1) := by decide +kernel
theorem dX9_isRegister_189 : decode cX9_isRegister 189 = .ok (.iaload, 1) := by decide +kernel
theorem dX9_isRegister_190 : decode cX9_isRegister 190 = .ok (.ifCond .ne 16, 3) := by decide +kernel
theorem dX9_isRegister_193 : decode cX9_isRegister 193 = .ok (.aload_n 0, 1) := by decide +kernel
theorem dX9_isRegister_194 : decode cX9_isRegister 194 = .ok (.getfield 19, 3) := by decide +kernel
theorem dX9_isRegister_197 : decode cX9_isRegister 197 = .ok (.iload_n 1, 1) := by decide +kernel
theorem dX9_isRegister_198 : decode cX9_isRegister 198 = .ok (.iaload, 1) := by decide +kernel
theorem dX9_isRegister_199 : decode cX9_isRegister 199 = .ok (.ifCond .ne 7, 3) := by decide +kernel
theorem dX9_isRegister_202 : decode cX9_isRegister 202 = .ok (.iconst 1, 1) := by decide +kernel
theorem dX9_isRegister_203 : decode cX9_isRegister 203 = .ok (.goto 4, 3) := by decide +kernel
theorem dX9_isRegister_206 : decode cX9_isRegister 206 = .ok (.iconst 0, 1) := by decide +kernel
theorem dX9_isRegister_207 : decode cX9_isRegister 207 = .ok (.ireturn, 1) := by decide +kernel
theorem dX9_isRegister_208 : decode cX9_isRegister 208 = .ok (.iload_n 3, 1) := by decide +kernel
theorem dX9_isRegister_209 : decode cX9_isRegister 209 = .ok (.iconst 3, 1) := by decide +kernel
theorem dX9_isRegister_210 : decode cX9_isRegister 210 = .ok (.if_icmp .eq 9, 3) := by decide +kernel
theorem dX9_isRegister_213 : decode cX9_isRegister 213 = .ok (.iload_n 3, 1) := by decide +kernel
theorem dX9_isRegister_214 : decode cX9_isRegister 214 = .ok (.bipush 9, 2) := by decide +kernel
theorem dX9_isRegister_216 : decode cX9_isRegister 216 = .ok (.if_icmp .ne 29, 3) := by decide +kernel
theorem dX9_isRegister_219 : decode cX9_isRegister 219 = .ok (.iload 5, 2) := by decide +kernel
theorem dX9_isRegister_221 : decode cX9_isRegister 221 = .ok (.ifCond .eq 22, 3) := by decide +kernel
theorem dX9_isRegister_224 : decode cX9_isRegister 224 = .ok (.aload_n 0, 1) := by decide +kernel
theorem dX9_isRegister_225 : decode cX9_isRegister 225 = .ok (.getfield 19, 3) := by decide +kernel
theorem dX9_isRegister_228 : decode cX9_isRegister 228 = .ok (.iload_n 1, 1) := by decide +kernel
theorem dX9_isRegister_229 : decode cX9_isRegister 229 = .ok (.iaload, 1) := by decide +kernel
theorem dX9_isRegister_230 : decode cX9_isRegister 230 = .ok (.i2l, 1) := by decide +kernel
theorem dX9_isRegister_231 : decode cX9_isRegister 231 = .ok (.lconst 0, 1) := by decide +kernel
theorem dX9_isRegister_232 : decode cX9_isRegister 232 = .ok (.lconst 1, 1) := by decide +kernel
theorem dX9_isRegister_233 : decode cX9_isRegister 233 = .ok (.invokestatic 132, 3) := by decide +kernel
theorem dX9_isRegister_236 : decode cX9_isRegister 236 = .ok (.ifCond .eq 7, 3) := by decide +kernel
theorem dX9_isRegister_239 : decode cX9_isRegister 239 = .ok (.iconst 1, 1) := by decide +kernel
theorem dX9_isRegister_240 : decode cX9_isRegister 240 = .ok (.goto 4, 3) := by decide +kernel
theorem dX9_isRegister_243 : decode cX9_isRegister 243 = .ok (.iconst 0, 1) := by decide +kernel
theorem dX9_isRegister_244 : decode cX9_isRegister 244 = .ok (.ireturn, 1) := by decide +kernel
theorem dX9_isRegister_245 : decode cX9_isRegister 245 = .ok (.iload_n 3, 1) := by decide +kernel
theorem dX9_isRegister_246 : decode cX9_isRegister 246 = .ok (.bipush 11, 2) := by decide +kernel
theorem dX9_isRegister_248 : decode cX9_isRegister 248 = .ok (.if_icmp .ne 65, 3) := by decide +kernel
theorem dX9_isRegister_251 : decode cX9_isRegister 251 = .ok (.iload 4, 2) := by decide +kernel
theorem dX9_isRegister_253 : decode cX9_isRegister 253 = .ok (.ifCond .eq 60, 3) := by decide +kernel
theorem dX9_isRegister_256 : decode cX9_isRegister 256 = .ok (.iload 5, 2) := by decide +kernel
theorem dX9_isRegister_258 : decode cX9_isRegister 258 = .ok (.ifCond .eq 53, 3) := by decide +kernel
theorem dX9_isRegister_261 : decode cX9_isRegister 261 = .ok (.aload_n 0, 1) := by decide +kernel
theorem dX9_isRegister_262 : decode cX9_isRegister 262 = .ok (.getfield 19, 3) := by decide +kernel
theorem dX9_isRegister_265 : decode cX9_isRegister 265 = .ok (.iload_n 1, 1) := by decide +kernel
theorem dX9_isRegister_266 : decode cX9_isRegister 266 = .ok (.iaload, 1) := by decide +kernel
theorem dX9_isRegister_267 : decode cX9_isRegister 267 = .ok (.ifCond .eq 40, 3) := by decide +kernel
theorem dX9_isRegister_270 : decode cX9_isRegister 270 = .ok (.aload_n 0, 1) := by decide +kernel
theorem dX9_isRegister_271 : decode cX9_isRegister 271 = .ok (.getfield 19, 3) := by decide +kernel
theorem dX9_isRegister_274 : decode cX9_isRegister 274 = .ok (.iload_n 1, 1) := by decide +kernel
theorem dX9_isRegister_275 : decode cX9_isRegister 275 = .ok (.iaload, 1) := by decide +kernel
theorem dX9_isRegister_276 : decode cX9_isRegister 276 = .ok (.bipush 8, 2) := by decide +kernel
theorem dX9_isRegister_278 : decode cX9_isRegister 278 = .ok (.if_icmp .eq 29, 3) := by decide +kernel
theorem dX9_isRegister_281 : decode cX9_isRegister 281 = .ok (.aload_n 0, 1) := by decide +kernel
theorem dX9_isRegister_282 : decode cX9_isRegister 282 = .ok (.getfield 19, 3) := by decide +kernel
theorem dX9_isRegister_285 : decode cX9_isRegister 285 = .ok (.iload_n 1, 1) := by decide +kernel
theorem dX9_isRegister_286 : decode cX9_isRegister 286 = .ok (.iaload, 1) := by decide +kernel
theorem dX9_isRegister_287 : decode cX9_isRegister 287 = .ok (.bipush 16, 2) := by decide +kernel
theorem dX9_isRegister_289 : decode cX9_isRegister 289 = .ok (.if_icmp .eq 18, 3) := by decide +kernel
theorem dX9_isRegister_292 : decode cX9_isRegister 292 = .ok (.aload_n 0, 1) := by decide +kernel
theorem dX9_isRegister_293 : decode cX9_isRegister 293 = .ok (.getfield 19, 3) := by decide +kernel
theorem dX9_isRegister_296 : decode cX9_isRegister 296 = .ok (.iload_n 1, 1) := by decide +kernel
theorem dX9_isRegister_297 : decode cX9_isRegister 297 = .ok (.iaload, 1) := by decide +kernel
theorem dX9_isRegister_298 : decode cX9_isRegister 298 = .ok (.bipush 32, 2) := by decide +kernel
theorem dX9_isRegister_300 : decode cX9_isRegister 300 = .ok (.if_icmp .ne 11, 3) := by decide +kernel
theorem dX9_isRegister_303 : decode cX9_isRegister 303 = .ok (.iload_n 2, 1) := by decide +kernel
theorem dX9_isRegister_304 : decode cX9_isRegister 304 = .ok (.ifCond .eq 7, 3) := by decide +kernel
theorem dX9_isRegister_307 : decode cX9_isRegister 307 = .ok (.iconst 1, 1) := by decide +kernel
theorem dX9_isRegister_308 : decode cX9_isRegister 308 = .ok (.goto 4, 3) := by decide +kernel
theorem dX9_isRegister_311 : decode cX9_isRegister 311 = .ok (.iconst 0, 1) := by decide +kernel
theorem dX9_isRegister_312 : decode cX9_isRegister 312 = .ok (.ireturn, 1) := by decide +kernel
theorem dX9_isRegister_313 : decode cX9_isRegister 313 = .ok (.iload 5, 2) := by decide +kernel
theorem dX9_isRegister_315 : decode cX9_isRegister 315 = .ok (.ifCond .eq 16, 3) := by decide +kernel
theorem dX9_isRegister_318 : decode cX9_isRegister 318 = .ok (.aload_n 0, 1) := by decide +kernel
theorem dX9_isRegister_319 : decode cX9_isRegister 319 = .ok (.getfield 19, 3) := by decide +kernel
theorem dX9_isRegister_322 : decode cX9_isRegister 322 = .ok (.iload_n 1, 1) := by decide +kernel
theorem dX9_isRegister_323 : decode cX9_isRegister 323 = .ok (.iaload, 1) := by decide +kernel
theorem dX9_isRegister_324 : decode cX9_isRegister 324 = .ok (.ifCond .ne 7, 3) := by decide +kernel
theorem dX9_isRegister_327 : decode cX9_isRegister 327 = .ok (.iconst 1, 1) := by decide +kernel
theorem dX9_isRegister_328 : decode cX9_isRegister 328 = .ok (.goto 4, 3) := by decide +kernel
theorem dX9_isRegister_331 : decode cX9_isRegister 331 = .ok (.iconst 0, 1) := by decide +kernel
theorem dX9_isRegister_332 : decode cX9_isRegister 332 = .ok (.ireturn, 1) := by decide +kernel
-- JudgedCodeModel.<init>
def f_X9_init_321 (o0 : Nat) (os0 : Nat) (os1 : Nat) (S : sh) (D : dt) : Option (Unit × sh × dt) := nm (pR D os0 45 (some os1)) fun D224 => nm (pI D224 o0 26 (-1 : Int32)) fun D225 => some ((), S, D225)
def f_X9_init_312 (o0 : Nat) (os0 : Nat) (os1 : Nat) (S : sh) (D : dt) : Option (Unit × sh × dt) := nm (pR D os0 44 (some os1)) fun D226 => f_X9_init_321 o0 o0 (sN S) (aS S 103 1024 1024) (aD S D226)
def f_X9_init_303 (o0 : Nat) (os0 : Nat) (os1 : Nat) (S : sh) (D : dt) : Option (Unit × sh × dt) := nm (pR D os0 43 (some os1)) fun D232 => f_X9_init_312 o0 o0 (sN S) (aS S 100 150 150) (aD S D232)
def f_X9_init_294 (o0 : Nat) (os0 : Nat) (os1 : Nat) (S : sh) (D : dt) : Option (Unit × sh × dt) := nm (pR D os0 42 (some os1)) fun D238 => f_X9_init_303 o0 o0 (sN S) (aS S 100 150 150) (aD S D238)
def f_X9_init_285 (o0 : Nat) (os0 : Nat) (os1 : Nat) (S : sh) (D : dt) : Option (Unit × sh × dt) := nm (pR D os0 41 (some os1)) fun D244 => f_X9_init_294 o0 o0 (sN S) (aS S 101 150 150) (aD S D244)
def f_X9_init_276 (o0 : Nat) (os0 : Nat) (os1 : Nat) (S : sh) (D : dt) : Option (Unit × sh × dt) := nm (pR D os0 40 (some os1)) fun D250 => f_X9_init_285 o0 o0 (sN S) (aS S 101 150 150) (aD S D250)
def f_X9_init_267 (o0 : Nat) (os0 : Nat) (os1 : Nat) (S : sh) (D : dt) : Option (Unit × sh × dt) := nm (pR D os0 39 (some os1)) fun D256 => f_X9_init_276 o0 o0 (sN S) (aS S 100 150 150) (aD S D256)
def f_X9_init_258 (o0 : Nat) (os0 : Nat) (os1 : Nat) (S : sh) (D : dt) : Option (Unit × sh × dt) := nm (pR D os0 38 (some os1)) fun D262 => f_X9_init_267 o0 o0 (sN S) (aS S 100 12800 12800) (aD S D262)
def f_X9_init_249 (o0 : Nat) (os0 : Nat) (os1 : Nat) (S : sh) (D : dt) : Option (Unit × sh × dt) := nm (pR D os0 37 (some os1)) fun D268 => f_X9_init_258 o0 o0 (sN S) (aS S 100 12800 12800) (aD S D268)
def f_X9_init_240 (o0 : Nat) (os0 : Nat) (os1 : Nat) (S : sh) (D : dt) : Option (Unit × sh × dt) := nm (pR D os0 36 (some os1)) fun D274 => f_X9_init_249 o0 o0 (sN S) (aS S 101 12800 12800) (aD S D274)
def f_X9_init_231 (o0 : Nat) (os0 : Nat) (os1 : Nat) (S : sh) (D : dt) : Option (Unit × sh × dt) := nm (pR D os0 35 (some os1)) fun D280 => f_X9_init_240 o0 o0 (sN S) (aS S 101 12800 12800) (aD S D280)
def f_X9_init_222 (o0 : Nat) (os0 : Nat) (os1 : Nat) (S : sh) (D : dt) : Option (Unit × sh × dt) := nm (pR D os0 34 (some os1)) fun D286 => f_X9_init_231 o0 o0 (sN S) (aS S 100 12800 12800) (aD S D286)
def f_X9_init_214 (o0 : Nat) (os0 : Nat) (os1 : Nat) (S : sh) (D : dt) : Option (Unit × sh × dt) := nm (pR D os0 33 (some os1)) fun D292 => f_X9_init_222 o0 o0 (sN S) (aS S 103 102400 102400) (aD S D292)
def f_X9_init_205 (o0 : Nat) (os0 : Nat) (os1 : Nat) (S : sh) (D : dt) : Option (Unit × sh × dt) := nm (pR D os0 32 (some os1)) fun D298 => f_X9_init_214 o0 o0 (sN S) (aS S 100 2200 2200) (aD S D298)
def f_X9_init_196 (o0 : Nat) (os0 : Nat) (os1 : Nat) (S : sh) (D : dt) : Option (Unit × sh × dt) := nm (pR D os0 31 (some os1)) fun D304 => f_X9_init_205 o0 o0 (sN S) (aS S 100 2200 2200) (aD S D304)
def f_X9_init_187 (o0 : Nat) (os0 : Nat) (os1 : Nat) (S : sh) (D : dt) : Option (Unit × sh × dt) := nm (pR D os0 30 (some os1)) fun D310 => f_X9_init_196 o0 o0 (sN S) (aS S 101 2200 2200) (aD S D310)
def f_X9_init_178 (o0 : Nat) (os0 : Nat) (os1 : Nat) (S : sh) (D : dt) : Option (Unit × sh × dt) := nm (pR D os0 29 (some os1)) fun D316 => f_X9_init_187 o0 o0 (sN S) (aS S 101 2200 2200) (aD S D316)
def f_X9_init_169 (o0 : Nat) (os0 : Nat) (os1 : Nat) (S : sh) (D : dt) : Option (Unit × sh × dt) := nm (pR D os0 28 (some os1)) fun D322 => f_X9_init_178 o0 o0 (sN S) (aS S 100 2200 2200) (aD S D322)
def f_X9_init_160 (o0 : Nat) (os0 : Nat) (os1 : Nat) (S : sh) (D : dt) : Option (Unit × sh × dt) := nm (pR D os0 27 (some os1)) fun D328 => f_X9_init_169 o0 o0 (sN S) (aS S 103 201 201) (aD S D328)
def f_X9_init_151 (o0 : Nat) (os0 : Nat) (os1 : Nat) (S : sh) (D : dt) : Option (Unit × sh × dt) := nm (pR D os0 25 (some os1)) fun D334 => f_X9_init_160 o0 o0 (sN S) (aS S 103 200 200) (aD S D334)
def f_X9_init_143 (o0 : Nat) (os0 : Nat) (os1 : Nat) (S : sh) (D : dt) : Option (Unit × sh × dt) := nm (pR D os0 24 (some os1)) fun D340 => f_X9_init_151 o0 o0 (sN S) (aS S 100 8 8) (aD S D340)
def f_X9_init_135 (o0 : Nat) (os0 : Nat) (os1 : Nat) (S : sh) (D : dt) : Option (Unit × sh × dt) := nm (pR D os0 23 (some os1)) fun D346 => f_X9_init_143 o0 o0 (sN S) (aS S 100 32 32) (aD S D346)
def f_X9_init_127 (o0 : Nat) (os0 : Nat) (os1 : Nat) (S : sh) (D : dt) : Option (Unit × sh × dt) := nm (pR D os0 21 (some os1)) fun D352 => f_X9_init_135 o0 o0 (sN S) (aS S 101 32 32) (aD S D352)
def f_X9_init_119 (o0 : Nat) (os0 : Nat) (os1 : Nat) (S : sh) (D : dt) : Option (Unit × sh × dt) := nm (pR D os0 16 (some os1)) fun D358 => f_X9_init_127 o0 o0 (sN S) (aS S 101 11 11) (aD S D358)
def f_X9_init_110 (o0 : Nat) (os0 : Nat) (os1 : Nat) (S : sh) (D : dt) : Option (Unit × sh × dt) := nm (pR D os0 15 (some os1)) fun D364 => f_X9_init_119 o0 o0 (sN S) (aS S 100 1024 1024) (aD S D364)
def f_X9_init_101 (o0 : Nat) (os0 : Nat) (os1 : Nat) (S : sh) (D : dt) : Option (Unit × sh × dt) := nm (pR D os0 14 (some os1)) fun D370 => f_X9_init_110 o0 o0 (sN S) (aS S 103 128 128) (aD S D370)
def f_X9_init_92 (o0 : Nat) (os0 : Nat) (os1 : Nat) (S : sh) (D : dt) : Option (Unit × sh × dt) := nm (pR D os0 13 (some os1)) fun D376 => f_X9_init_101 o0 o0 (sN S) (aS S 100 4096 4096) (aD S D376)
def f_X9_init_85 (o0 : Nat) (os0 : Nat) (os1 : Nat) (S : sh) (D : dt) : Option (Unit × sh × dt) := nm (pR D os0 12 (some os1)) fun D382 => f_X9_init_92 o0 o0 (sN S) (aS S 100 4 4) (aD S D382)
def f_X9_init_78 (o0 : Nat) (os0 : Nat) (os1 : Nat) (S : sh) (D : dt) : Option (Unit × sh × dt) := nm (pR D os0 11 (some os1)) fun D388 => f_X9_init_85 o0 o0 (sN S) (aS S 100 4 4) (aD S D388)
def f_X9_init_71 (o0 : Nat) (os0 : Nat) (os1 : Nat) (S : sh) (D : dt) : Option (Unit × sh × dt) := nm (pR D os0 10 (some os1)) fun D394 => f_X9_init_78 o0 o0 (sN S) (aS S 100 4 4) (aD S D394)
def f_X9_init_64 (o0 : Nat) (os0 : Nat) (os1 : Nat) (S : sh) (D : dt) : Option (Unit × sh × dt) := nm (pR D os0 8 (some os1)) fun D400 => f_X9_init_71 o0 o0 (sN S) (aS S 100 4 4) (aD S D400)
def f_X9_init_55 (o0 : Nat) (os0 : Nat) (os1 : Nat) (S : sh) (D : dt) : Option (Unit × sh × dt) := nm (pR D os0 6 (some os1)) fun D406 => f_X9_init_64 o0 o0 (sN S) (aS S 100 512 512) (aD S D406)
def f_X9_init_46 (o0 : Nat) (os0 : Nat) (os1 : Nat) (S : sh) (D : dt) : Option (Unit × sh × dt) := nm (pR D os0 5 (some os1)) fun D412 => f_X9_init_55 o0 o0 (sN S) (aS S 100 256 256) (aD S D412)
def f_X9_init_37 (o0 : Nat) (os0 : Nat) (os1 : Nat) (S : sh) (D : dt) : Option (Unit × sh × dt) := nm (pR D os0 4 (some os1)) fun D418 => f_X9_init_46 o0 o0 (sN S) (aS S 100 200 200) (aD S D418)
def f_X9_init_28 (o0 : Nat) (os0 : Nat) (os1 : Nat) (S : sh) (D : dt) : Option (Unit × sh × dt) := nm (pR D os0 3 (some os1)) fun D424 => f_X9_init_37 o0 o0 (sN S) (aS S 100 200 200) (aD S D424)
def f_X9_init_19 (o0 : Nat) (os0 : Nat) (os1 : Nat) (S : sh) (D : dt) : Option (Unit × sh × dt) := nm (pR D os0 2 (some os1)) fun D430 => f_X9_init_28 o0 o0 (sN S) (aS S 100 200 200) (aD S D430)
def f_X9_init_10 (o0 : Nat) (os0 : Nat) (os1 : Nat) (S : sh) (D : dt) : Option (Unit × sh × dt) := nm (pR D os0 1 (some os1)) fun D436 => f_X9_init_19 o0 o0 (sN S) (aS S 100 200 200) (aD S D436)
def f_X9_init (o0 : Nat) (S : sh) (D : dt) : Option (Unit × sh × dt) := f_X9_init_10 o0 o0 (sN S) (aS S 100 200 200) (aD S D)
-- JudgedCodeModel.in
def f_X9_in (x0 : Int64) (x2 : Int64) (x4 : Int64) : Option Int32 := if (lg_cmp x0 x2) < 0 then (some (0 : Int32)) else (if 0 < (lg_cmp x0 x4) then (some (0 : Int32)) else (some (1 : Int32)))
-- JudgedCodeModel.isBelow
def f_X9_isBelow (x0 : Int64) (x2 : Int64) : Option Int32 := if 0 ≤ (lg_cmp (x0 ^^^ (-9223372036854775808 : Int64)) (x2 ^^^ (-9223372036854775808 : Int64))) then (some (0 : Int32)) else (some (1 : Int32))
-- JudgedCodeModel.isSlot
def f_X9_isSlot (x0 : Int32) (x1 : Int32) (x2 : Int32) : Option Int32 := pq (f_X9_in x0.toInt64 (0 : Int64) (255 : Int64)) fun r11 => if r11 = 0 then (some (0 : Int32)) else (pq (f_X9_in x1.toInt64 (0 : Int64) (255 : Int64)) fun r14 => if r14 = 0 then (some (0 : Int32)) else (pq (f_X9_in x2.toInt64 (-32768 : Int64) (32767 : Int64)) fun r17 => if r17 = 0 then (some (0 : Int32)) else (some (1 : Int32))))
-- JudgedCodeModel.set
def f_X9_set (S : sh) (o0 : Nat) (x1 : Int32) (x2 : Int32) (x3 : Int32) (x4 : Int32) (x5 : Int32) (D : dt) : Option (Unit × dt) := rq (gR D o0 1) fun o32 => ix x1 (sA S o32) <| nm (pI D o32 x1.toNatClampNeg x2) fun D37 => rq (gR D37 o0 2) fun o38 => ix x1 (sA S o38) <| nm (pI D37 o38 x1.toNatClampNeg (x3 &&& (15 : Int32))) fun D43 => rq (gR D43 o0 3) fun o44 => ix x1 (sA S o44) <| nm (pI D43 o44 x1.toNatClampNeg (x3 >>> ((4 : Int32) &&& 31))) fun D49 => rq (gR D49 o0 4) fun o50 => ix x1 (sA S o50) <| nm (pI D49 o50 x1.toNatClampNeg x4) fun D55 => rq (gR D55 o0 5) fun o56 => ix x1 (sA S o56) <| nm (pI D55 o56 x1.toNatClampNeg x5) fun D61 => nm (pI D61 o0 18 (0 : Int32)) fun D62 => some ((), D62)
-- JudgedCodeModel.feed
def f_X9_feed (S : sh) (o0 : Nat) (x1 : Int32) (x2 : Int32) (x3 : Int32) (x4 : Int32) (D : dt) : Option (Int32 × dt) := pq (f_X9_isSlot x1 x2 x3) fun r9 => if r9 = 0 then (some ((-2 : Int32), D)) else (if (gI D o0 0) = (200 : Int32) then (some ((-4 : Int32), D)) else (cq (f_X9_set S o0 (gI D o0 0) x1 x2 x3 x4 D) fun _ D13 => nm (pI D13 o0 0 ((gI D13 o0 0) + (1 : Int32))) fun D14 => some (((gI D14 o0 0) - (1 : Int32)), D14)))
-- JudgedCodeModel.alter
def f_X9_alter (S : sh) (o0 : Nat) (x1 : Int32) (x2 : Int32) (x3 : Int32) (x4 : Int32) (x5 : Int32) (D : dt) : Option (Int32 × dt) := pq (f_X9_in x1.toInt64 (0 : Int64) (((gI D o0 0) - (1 : Int32)).toInt64)) fun r10 => if r10 = 0 then (some ((-1 : Int32), D)) else (pq (f_X9_isSlot x2 x3 x4) fun r13 => if r13 = 0 then (some ((-2 : Int32), D)) else (cq (f_X9_set S o0 x1 x2 x3 x4 x5 D) fun _ D16 => some ((1 : Int32), D16)))
-- JudgedCodeModel.cut
def f_X9_cut (S : sh) (o0 : Nat) (x1 : Int32) (D : dt) : Option (Int32 × dt) := pq (f_X9_in x1.toInt64 (0 : Int64) ((gI D o0 0).toInt64)) fun r8 => if r8 = 0 then (some ((-2 : Int32), D)) else (nm (gI D o0 0) fun y10 => nm (pI D o0 0 x1) fun D11 => nm (pI D11 o0 18 (0 : Int32)) fun D12 => some (y10, D12))
-- JudgedCodeModel.isRegister
def f_X9_isRegister_113 (S : sh) (D : dt) : Option Int32 := some (1 : Int32)
def f_X9_isRegister_104 (S : sh) (D : dt) (x2 : Int32) (x4 : Int32) : Option Int32 := if x2 = 0 then (f_X9_isRegister_113 S D) else (if x4 = 0 then (f_X9_isRegister_113 S D) else (some (0 : Int32)))
def f_X9_isRegister_313 (S : sh) (D : dt) (o0 : Nat) (x1 : Int32) (x5 : Int32) : Option Int32 := if x5 = 0 then (some (0 : Int32)) else (rq (gR D o0 4) fun o136 => ix x1 (sA S o136) <| if (gI D o136 x1.toNatClampNeg) = 0 then (some (1 : Int32)) else (some (0 : Int32)))
def f_X9_isRegister_307 (S : sh) (D : dt) : Option Int32 := some (1 : Int32)
def f_X9_isRegister_219 (S : sh) (D : dt) (o0 : Nat) (x1 : Int32) (x5 : Int32) : Option Int32 := if x5 = 0 then (some (0 : Int32)) else (rq (gR D o0 4) fun o143 => ix x1 (sA S o143) <| pq (f_X9_in ((gI D o143 x1.toNatClampNeg).toInt64) (0 : Int64) (1 : Int64)) fun r149 => if r149 = 0 then (some (0 : Int32)) else (some (1 : Int32)))
def f_X9_isRegister_166 (S : sh) (D : dt) (o0 : Nat) (x1 : Int32) (x2 : Int32) (x3 : Int32) (x4 : Int32) (xs0 : Int32) : Option Int32 := if x3 = (8 : Int32) then (if xs0 = 0 then (some (0 : Int32)) else (if x4 = 0 then (rq (gR D o0 5) fun o184 => ix x1 (sA S o184) <| if (gI D o184 x1.toNatClampNeg) = 0 then (rq (gR D o0 4) fun o190 => ix x1 (sA S o190) <| if (gI D o190 x1.toNatClampNeg) = 0 then (some (1 : Int32)) else (some (0 : Int32))) else (some (0 : Int32))) else (some (0 : Int32)))) else (if x3 = (3 : Int32) then (f_X9_isRegister_219 S D o0 x1 xs0) else (if x3 = (9 : Int32) then (f_X9_isRegister_219 S D o0 x1 xs0) else (if x3 = (11 : Int32) then (if x4 = 0 then (f_X9_isRegister_313 S D o0 x1 xs0) else (if xs0 = 0 then (some (0 : Int32)) else (rq (gR D o0 4) fun o157 => ix x1 (sA S o157) <| if (gI D o157 x1.toNatClampNeg) = 0 then (f_X9_isRegister_307 S D) else (rq (gR D o0 4) fun o163 => ix x1 (sA S o163) <| if (gI D o163 x1.toNatClampNeg) = (8 : Int32) then (f_X9_isRegister_307 S D) else (rq (gR D o0 4) fun o169 => ix x1 (sA S o169) <| if (gI D o169 x1.toNatClampNeg) = (16 : Int32) then (f_X9_isRegister_307 S D) else (rq (gR D o0 4) fun o175 => ix x1 (sA S o175) <| if (gI D o175 x1.toNatClampNeg) = (32 : Int32) then (if x2 = 0 then (some (0 : Int32)) else (f_X9_isRegister_307 S D)) else (some (0 : Int32)))))))) else (f_X9_isRegister_313 S D o0 x1 xs0))))
def f_X9_isRegister_148 (S : sh) (D : dt) (o0 : Nat) (x1 : Int32) (x2 : Int32) (x3 : Int32) (x4 : Int32) : Option Int32 := f_X9_isRegister_166 S D o0 x1 x2 x3 x4 (0 : Int32)
def f_X9_isRegister_26 (S : sh) (D : dt) (o0 : Nat) (x1 : Int32) (x2 : Int32) (x3 : Int32) (xs0 : Int32) : Option Int32 := if (13 : Int32) < x3 then (some (0 : Int32)) else (rq (gR D o0 2) fun o197 => ix x1 (sA S o197) <| if (gI D o197 x1.toNatClampNeg) ≤ (9 : Int32) then (if x3 = (13 : Int32) then (rq (gR D o0 3) fun o223 => ix x1 (sA S o223) <| if (gI D o223 x1.toNatClampNeg) = 0 then (rq (gR D o0 4) fun o229 => ix x1 (sA S o229) <| if (gI D o229 x1.toNatClampNeg) = 0 then (rq (gR D o0 5) fun o235 => ix x1 (sA S o235) <| if (gI D o235 x1.toNatClampNeg) = (16 : Int32) then (f_X9_isRegister_104 S D x2 xs0) else (rq (gR D o0 5) fun o241 => ix x1 (sA S o241) <| if (gI D o241 x1.toNatClampNeg) = (32 : Int32) then (f_X9_isRegister_104 S D x2 xs0) else (rq (gR D o0 5) fun o247 => ix x1 (sA S o247) <| if (gI D o247 x1.toNatClampNeg) = (64 : Int32) then (f_X9_isRegister_104 S D x2 xs0) else (some (0 : Int32))))) else (some (0 : Int32))) else (some (0 : Int32))) else (if xs0 = 0 then (rq (gR D o0 3) fun o205 => ix x1 (sA S o205) <| if (gI D o205 x1.toNatClampNeg) = 0 then (f_X9_isRegister_166 S D o0 x1 x2 x3 xs0 (1 : Int32)) else (f_X9_isRegister_166 S D o0 x1 x2 x3 xs0 (0 : Int32))) else (rq (gR D o0 5) fun o211 => ix x1 (sA S o211) <| if (gI D o211 x1.toNatClampNeg) = 0 then (rq (gR D o0 3) fun o217 => ix x1 (sA S o217) <| if (11 : Int32) ≤ (gI D o217 x1.toNatClampNeg) then (f_X9_isRegister_148 S D o0 x1 x2 x3 xs0) else (f_X9_isRegister_166 S D o0 x1 x2 x3 xs0 (1 : Int32))) else (f_X9_isRegister_148 S D o0 x1 x2 x3 xs0)))) else (some (0 : Int32)))
def f_X9_isRegister (S : sh) (D : dt) (o0 : Nat) (x1 : Int32) (x2 : Int32) : Option Int32 := rq (gR D o0 1) fun o253 => ix x1 (sA S o253) <| nm ((gI D o253 x1.toNatClampNeg) >>> ((4 : Int32) &&& 31)) fun y258 => rq (gR D o0 1) fun o259 => ix x1 (sA S o259) <| if ((gI D o259 x1.toNatClampNeg) &&& (8 : Int32)) = 0 then (f_X9_isRegister_26 S D o0 x1 x2 y258 (0 : Int32)) else (f_X9_isRegister_26 S D o0 x1 x2 y258 (1 : Int32))
theorem mk_X9_init : MkI yX9_init cX9_init 1 0 := ⟨⟨lk_1068, lk_121, (tb_in (i := 1069) (by decide +kernel) (by decide +kernel))⟩, rfl, by decide +kernel⟩
theorem mk_X9_in : MkS yX9_in cX9_in 6 (some .boolean) 3 := ⟨⟨lk_1244, lk_121, (tb_in (i := 1245) (by decide +kernel) (by decide +kernel))⟩, by decide +kernel⟩
theorem mk_X9_isBelow : MkS yX9_isBelow cX9_isBelow 4 (some .boolean) 2 := ⟨⟨lk_1359, lk_121, (tb_in (i := 1360) (by decide +kernel) (by decide +kernel))⟩, by decide +kernel⟩
theorem mk_X9_isSlot : MkS yX9_isSlot cX9_isSlot 3 (some .boolean) 3 := ⟨⟨lk_1240, lk_121, (tb_in (i := 1241) (by decide +kernel) (by decide +kernel))⟩, by decide +kernel⟩
theorem mk_X9_set : MkV yX9_set RX9 cX9_set 6 none 5 := ⟨⟨lk_1250, lk_58, lk_121, (tb_in (i := 1251) (by decide +kernel) (by decide +kernel))⟩, by decide +kernel⟩
theorem mk_X9_feed : MkV yX9_feed RX9 cX9_feed 5 (some .int) 4 := ⟨⟨lk_1236, lk_1237, lk_121, (tb_in (i := 1238) (by decide +kernel) (by decide +kernel))⟩, by decide +kernel⟩
theorem mk_X9_alter : MkV yX9_alter RX9 cX9_alter 6 (some .int) 5 := ⟨⟨lk_1253, lk_1254, lk_121, (tb_in (i := 1255) (by decide +kernel) (by decide +kernel))⟩, by decide +kernel⟩
theorem mk_X9_cut : MkV yX9_cut RX9 cX9_cut 3 (some .int) 1 := ⟨⟨lk_1257, lk_1258, lk_121, (tb_in (i := 1259) (by decide +kernel) (by decide +kernel))⟩, by decide +kernel⟩
theorem mk_X9_isRegister : MkV yX9_isRegister RX9 cX9_isRegister 6 (some .boolean) 2 := ⟨⟨lk_1318, lk_66, lk_121, (tb_in (i := 1319) (by decide +kernel) (by decide +kernel))⟩, by decide +kernel⟩
section
variable {p : Program} {l : Launch} {e : Env} {R : Room} {s : State} {m : MethodId} {args : Array Value} {below : List Frame} {meth : Method} {c : Code} {H : Heap} {locs : List Loc} {G : va_G} {cA : Nat → ClassId} {S : sh} {D : dt} {ad : Nat → Nat} {A : Nat → Prop}
theorem mn_X9_init_321 {r : Unit} {S' : sh} {D' : dt} {o0 : Nat} {os0 : Nat} {os1 : Nat} {S : sh} {D : dt} (h : f_X9_init_321 o0 os0 os1 S D = some (r, S', D')) : Ext S S' := by
  unfold f_X9_init_321 at h
  have h := nm_i h _ rfl
  have h := nm_i h _ rfl
  cases h
  exact Ext.rf _
set_option maxHeartbeats 4000000 in
set_option maxRecDepth 100000 in
theorem w_X9_init_321 {r : Unit} {S' : sh} {D' : dt} {S0 : sh} {ad0 : Nat → Nat} (hC : Cx RX9 cX9_init 1 none p s m args meth c) (hin : meth.name = "<init>") (hR : 1 ≤ R.frames ∧ 20 ≤ R.locals) (ho : R.cells = sN S' - sN S0 ∧ R.slots = sZ S' - sZ S0) : ∀ (o0 a0 : Nat) (os0 as0 : Nat) (os1 as1 : Nat) (S : sh) (D : dt) (ad : Nat → Nat) (H : Heap) (locs : List Loc) (ls : Array Slot) (cells slots : Nat), Is S ad o0 a0 8 → Is S ad os0 as0 8 → Is S ad os1 as1 103 → Wd G cA S D ad A s H locs → Al S0 ad0 S ad cells slots → lv_has ls 1 [(0, .ref a0)] → f_X9_init_321 o0 os0 os1 S D = some (r, S', D') → W p l e R s m args below meth c H locs cells slots (MQ below (Qa (fun _ => none) (fun ad' => (∀ k, k < sN S0 → ad' k = ad0 k) ∧ True) (fun ad' => wpost G cA S' D' ad' A) A) args s (sN S' - sN S0) (sZ S' - sZ S0) A) (F0 m 321 ls [.ref as1, .ref as0]) := by
  obtain ⟨hx, hb, -⟩ := id hC
  intro o0 a0 os0 as0 os1 as1 S D ad H locs ls cells slots hi0 his0 his1 hw hc hl h
  have hE : Ext S S' := mn_X9_init_321  h
  unfold f_X9_init_321 at h
  refine r_pRF hC hin hw kc_8 his0 45 rfl lk_1117 rfl rfl rfl rfl rfl his1 dX9_init_321 (fun D224 eD224 H locs hw => ?_)
  have h := nm_i h D224 eD224
  refine lv_aload_n hx hb dX9_init_324 rfl (lv_at hl 0 rfl) ?_
  refine lv_iconst (v := (-1)) hx hb dX9_init_325 (by decide) ?_
  refine r_pI hC hw kc_8 hi0 26 rfl lk_1098 rfl rfl rfl dX9_init_326 (fun D225 eD225 H locs hw => ?_)
  have h := nm_i h D225 eD225
  cases h
  exact r_vretA hC hw hc dX9_init_329
theorem mn_X9_init_312 {r : Unit} {S' : sh} {D' : dt} {o0 : Nat} {os0 : Nat} {os1 : Nat} {S : sh} {D : dt} (h : f_X9_init_312 o0 os0 os1 S D = some (r, S', D')) : Ext S S' := by
  unfold f_X9_init_312 at h
  have h := nm_i h _ rfl
  have hA := (Ext.aS S 103 1024 1024)
  exact hA.tr (mn_X9_init_321 h)
set_option maxHeartbeats 4000000 in
set_option maxRecDepth 100000 in
theorem w_X9_init_312 {r : Unit} {S' : sh} {D' : dt} {S0 : sh} {ad0 : Nat → Nat} (hC : Cx RX9 cX9_init 1 none p s m args meth c) (hin : meth.name = "<init>") (hR : 1 ≤ R.frames ∧ 20 ≤ R.locals) (ho : R.cells = sN S' - sN S0 ∧ R.slots = sZ S' - sZ S0) : ∀ (o0 a0 : Nat) (os0 as0 : Nat) (os1 as1 : Nat) (S : sh) (D : dt) (ad : Nat → Nat) (H : Heap) (locs : List Loc) (ls : Array Slot) (cells slots : Nat), Is S ad o0 a0 8 → Is S ad os0 as0 8 → Is S ad os1 as1 100 → Wd G cA S D ad A s H locs → Al S0 ad0 S ad cells slots → lv_has ls 1 [(0, .ref a0)] → f_X9_init_312 o0 os0 os1 S D = some (r, S', D') → W p l e R s m args below meth c H locs cells slots (MQ below (Qa (fun _ => none) (fun ad' => (∀ k, k < sN S0 → ad' k = ad0 k) ∧ True) (fun ad' => wpost G cA S' D' ad' A) A) args s (sN S' - sN S0) (sZ S' - sZ S0) A) (F0 m 312 ls [.ref as1, .ref as0]) := by
  obtain ⟨hx, hb, -⟩ := id hC
  intro o0 a0 os0 as0 os1 as1 S D ad H locs ls cells slots hi0 his0 his1 hw hc hl h
  have hE : Ext S S' := mn_X9_init_312  h
  unfold f_X9_init_312 at h
  refine r_pRF hC hin hw kc_8 his0 44 rfl lk_1116 rfl rfl rfl rfl rfl his1 dX9_init_312 (fun D226 eD226 H locs hw => ?_)
  have h := nm_i h D226 eD226
  refine lv_aload_n hx hb dX9_init_315 rfl (lv_at hl 0 rfl) ?_
  refine lv_sipush (v := 1024) hx hb dX9_init_316 (by decide) ?_
  have hE229 := mn_X9_init_321 h
  refine r_newZ hC hw lk_286 (by decide) (by decide) (by decide) (hc.room ho hE229).1 (hc.room ho hE229).2 dX9_init_319 (fun q227 H hw hi228 => ?_)
  have hi230 := Is.up hi0 (Ext.aS S 103 1024 1024) (up_lt (q := q227))
  have hc := hc.new 103 1024 1024 q227
  exact w_X9_init_321 hC hin hR ho o0 a0 o0 a0 (sN S) q227 _ _ _ _ _ _ _ _ hi230 hi230 hi228 hw hc (lv_sub hl [0] rfl) h --j231
theorem mn_X9_init_303 {r : Unit} {S' : sh} {D' : dt} {o0 : Nat} {os0 : Nat} {os1 : Nat} {S : sh} {D : dt} (h : f_X9_init_303 o0 os0 os1 S D = some (r, S', D')) : Ext S S' := by
  unfold f_X9_init_303 at h
  have h := nm_i h _ rfl
  have hA := (Ext.aS S 100 150 150)
  exact hA.tr (mn_X9_init_312 h)
set_option maxHeartbeats 4000000 in
set_option maxRecDepth 100000 in
theorem w_X9_init_303 {r : Unit} {S' : sh} {D' : dt} {S0 : sh} {ad0 : Nat → Nat} (hC : Cx RX9 cX9_init 1 none p s m args meth c) (hin : meth.name = "<init>") (hR : 1 ≤ R.frames ∧ 20 ≤ R.locals) (ho : R.cells = sN S' - sN S0 ∧ R.slots = sZ S' - sZ S0) : ∀ (o0 a0 : Nat) (os0 as0 : Nat) (os1 as1 : Nat) (S : sh) (D : dt) (ad : Nat → Nat) (H : Heap) (locs : List Loc) (ls : Array Slot) (cells slots : Nat), Is S ad o0 a0 8 → Is S ad os0 as0 8 → Is S ad os1 as1 100 → Wd G cA S D ad A s H locs → Al S0 ad0 S ad cells slots → lv_has ls 1 [(0, .ref a0)] → f_X9_init_303 o0 os0 os1 S D = some (r, S', D') → W p l e R s m args below meth c H locs cells slots (MQ below (Qa (fun _ => none) (fun ad' => (∀ k, k < sN S0 → ad' k = ad0 k) ∧ True) (fun ad' => wpost G cA S' D' ad' A) A) args s (sN S' - sN S0) (sZ S' - sZ S0) A) (F0 m 303 ls [.ref as1, .ref as0]) := by
  obtain ⟨hx, hb, -⟩ := id hC
  intro o0 a0 os0 as0 os1 as1 S D ad H locs ls cells slots hi0 his0 his1 hw hc hl h
  have hE : Ext S S' := mn_X9_init_303  h
  unfold f_X9_init_303 at h
  refine r_pRF hC hin hw kc_8 his0 43 rfl lk_1115 rfl rfl rfl rfl rfl his1 dX9_init_303 (fun D232 eD232 H locs hw => ?_)
  have h := nm_i h D232 eD232
  refine lv_aload_n hx hb dX9_init_306 rfl (lv_at hl 0 rfl) ?_
  refine lv_sipush (v := 150) hx hb dX9_init_307 (by decide) ?_
  have hE235 := mn_X9_init_312 h
  refine r_newI hC hw lk_172 (by decide) (by decide) (by decide) (hc.room ho hE235).1 (hc.room ho hE235).2 dX9_init_310 (fun q233 H hw hi234 => ?_)
  have hi236 := Is.up hi0 (Ext.aS S 100 150 150) (up_lt (q := q233))
  have hc := hc.new 100 150 150 q233
  exact w_X9_init_312 hC hin hR ho o0 a0 o0 a0 (sN S) q233 _ _ _ _ _ _ _ _ hi236 hi236 hi234 hw hc (lv_sub hl [0] rfl) h --j237
theorem mn_X9_init_294 {r : Unit} {S' : sh} {D' : dt} {o0 : Nat} {os0 : Nat} {os1 : Nat} {S : sh} {D : dt} (h : f_X9_init_294 o0 os0 os1 S D = some (r, S', D')) : Ext S S' := by
  unfold f_X9_init_294 at h
  have h := nm_i h _ rfl
  have hA := (Ext.aS S 100 150 150)
  exact hA.tr (mn_X9_init_303 h)
set_option maxHeartbeats 4000000 in
set_option maxRecDepth 100000 in
theorem w_X9_init_294 {r : Unit} {S' : sh} {D' : dt} {S0 : sh} {ad0 : Nat → Nat} (hC : Cx RX9 cX9_init 1 none p s m args meth c) (hin : meth.name = "<init>") (hR : 1 ≤ R.frames ∧ 20 ≤ R.locals) (ho : R.cells = sN S' - sN S0 ∧ R.slots = sZ S' - sZ S0) : ∀ (o0 a0 : Nat) (os0 as0 : Nat) (os1 as1 : Nat) (S : sh) (D : dt) (ad : Nat → Nat) (H : Heap) (locs : List Loc) (ls : Array Slot) (cells slots : Nat), Is S ad o0 a0 8 → Is S ad os0 as0 8 → Is S ad os1 as1 101 → Wd G cA S D ad A s H locs → Al S0 ad0 S ad cells slots → lv_has ls 1 [(0, .ref a0)] → f_X9_init_294 o0 os0 os1 S D = some (r, S', D') → W p l e R s m args below meth c H locs cells slots (MQ below (Qa (fun _ => none) (fun ad' => (∀ k, k < sN S0 → ad' k = ad0 k) ∧ True) (fun ad' => wpost G cA S' D' ad' A) A) args s (sN S' - sN S0) (sZ S' - sZ S0) A) (F0 m 294 ls [.ref as1, .ref as0]) := by
  obtain ⟨hx, hb, -⟩ := id hC
  intro o0 a0 os0 as0 os1 as1 S D ad H locs ls cells slots hi0 his0 his1 hw hc hl h
  have hE : Ext S S' := mn_X9_init_294  h
  unfold f_X9_init_294 at h
  refine r_pRF hC hin hw kc_8 his0 42 rfl lk_1114 rfl rfl rfl rfl rfl his1 dX9_init_294 (fun D238 eD238 H locs hw => ?_)
  have h := nm_i h D238 eD238
  refine lv_aload_n hx hb dX9_init_297 rfl (lv_at hl 0 rfl) ?_
  refine lv_sipush (v := 150) hx hb dX9_init_298 (by decide) ?_
  have hE241 := mn_X9_init_303 h
  refine r_newI hC hw lk_172 (by decide) (by decide) (by decide) (hc.room ho hE241).1 (hc.room ho hE241).2 dX9_init_301 (fun q239 H hw hi240 => ?_)
  have hi242 := Is.up hi0 (Ext.aS S 100 150 150) (up_lt (q := q239))
  have hc := hc.new 100 150 150 q239
  exact w_X9_init_303 hC hin hR ho o0 a0 o0 a0 (sN S) q239 _ _ _ _ _ _ _ _ hi242 hi242 hi240 hw hc (lv_sub hl [0] rfl) h --j243
theorem mn_X9_init_285 {r : Unit} {S' : sh} {D' : dt} {o0 : Nat} {os0 : Nat} {os1 : Nat} {S : sh} {D : dt} (h : f_X9_init_285 o0 os0 os1 S D = some (r, S', D')) : Ext S S' := by
  unfold f_X9_init_285 at h
  have h := nm_i h _ rfl
  have hA := (Ext.aS S 101 150 150)
  exact hA.tr (mn_X9_init_294 h)
set_option maxHeartbeats 4000000 in
set_option maxRecDepth 100000 in
theorem w_X9_init_285 {r : Unit} {S' : sh} {D' : dt} {S0 : sh} {ad0 : Nat → Nat} (hC : Cx RX9 cX9_init 1 none p s m args meth c) (hin : meth.name = "<init>") (hR : 1 ≤ R.frames ∧ 20 ≤ R.locals) (ho : R.cells = sN S' - sN S0 ∧ R.slots = sZ S' - sZ S0) : ∀ (o0 a0 : Nat) (os0 as0 : Nat) (os1 as1 : Nat) (S : sh) (D : dt) (ad : Nat → Nat) (H : Heap) (locs : List Loc) (ls : Array Slot) (cells slots : Nat), Is S ad o0 a0 8 → Is S ad os0 as0 8 → Is S ad os1 as1 101 → Wd G cA S D ad A s H locs → Al S0 ad0 S ad cells slots → lv_has ls 1 [(0, .ref a0)] → f_X9_init_285 o0 os0 os1 S D = some (r, S', D') → W p l e R s m args below meth c H locs cells slots (MQ below (Qa (fun _ => none) (fun ad' => (∀ k, k < sN S0 → ad' k = ad0 k) ∧ True) (fun ad' => wpost G cA S' D' ad' A) A) args s (sN S' - sN S0) (sZ S' - sZ S0) A) (F0 m 285 ls [.ref as1, .ref as0]) := by
  obtain ⟨hx, hb, -⟩ := id hC
  intro o0 a0 os0 as0 os1 as1 S D ad H locs ls cells slots hi0 his0 his1 hw hc hl h
  have hE : Ext S S' := mn_X9_init_285  h
  unfold f_X9_init_285 at h
  refine r_pRF hC hin hw kc_8 his0 41 rfl lk_1113 rfl rfl rfl rfl rfl his1 dX9_init_285 (fun D244 eD244 H locs hw => ?_)
  have h := nm_i h D244 eD244
  refine lv_aload_n hx hb dX9_init_288 rfl (lv_at hl 0 rfl) ?_
  refine lv_sipush (v := 150) hx hb dX9_init_289 (by decide) ?_
  have hE247 := mn_X9_init_294 h
  refine r_newL hC hw lk_249 (by decide) (by decide) (by decide) (hc.room ho hE247).1 (hc.room ho hE247).2 dX9_init_292 (fun q245 H hw hi246 => ?_)
  have hi248 := Is.up hi0 (Ext.aS S 101 150 150) (up_lt (q := q245))
  have hc := hc.new 101 150 150 q245
  exact w_X9_init_294 hC hin hR ho o0 a0 o0 a0 (sN S) q245 _ _ _ _ _ _ _ _ hi248 hi248 hi246 hw hc (lv_sub hl [0] rfl) h --j249
theorem mn_X9_init_276 {r : Unit} {S' : sh} {D' : dt} {o0 : Nat} {os0 : Nat} {os1 : Nat} {S : sh} {D : dt} (h : f_X9_init_276 o0 os0 os1 S D = some (r, S', D')) : Ext S S' := by
  unfold f_X9_init_276 at h
  have h := nm_i h _ rfl
  have hA := (Ext.aS S 101 150 150)
  exact hA.tr (mn_X9_init_285 h)
set_option maxHeartbeats 4000000 in
set_option maxRecDepth 100000 in
theorem w_X9_init_276 {r : Unit} {S' : sh} {D' : dt} {S0 : sh} {ad0 : Nat → Nat} (hC : Cx RX9 cX9_init 1 none p s m args meth c) (hin : meth.name = "<init>") (hR : 1 ≤ R.frames ∧ 20 ≤ R.locals) (ho : R.cells = sN S' - sN S0 ∧ R.slots = sZ S' - sZ S0) : ∀ (o0 a0 : Nat) (os0 as0 : Nat) (os1 as1 : Nat) (S : sh) (D : dt) (ad : Nat → Nat) (H : Heap) (locs : List Loc) (ls : Array Slot) (cells slots : Nat), Is S ad o0 a0 8 → Is S ad os0 as0 8 → Is S ad os1 as1 100 → Wd G cA S D ad A s H locs → Al S0 ad0 S ad cells slots → lv_has ls 1 [(0, .ref a0)] → f_X9_init_276 o0 os0 os1 S D = some (r, S', D') → W p l e R s m args below meth c H locs cells slots (MQ below (Qa (fun _ => none) (fun ad' => (∀ k, k < sN S0 → ad' k = ad0 k) ∧ True) (fun ad' => wpost G cA S' D' ad' A) A) args s (sN S' - sN S0) (sZ S' - sZ S0) A) (F0 m 276 ls [.ref as1, .ref as0]) := by
  obtain ⟨hx, hb, -⟩ := id hC
  intro o0 a0 os0 as0 os1 as1 S D ad H locs ls cells slots hi0 his0 his1 hw hc hl h
  have hE : Ext S S' := mn_X9_init_276  h
  unfold f_X9_init_276 at h
  refine r_pRF hC hin hw kc_8 his0 40 rfl lk_1112 rfl rfl rfl rfl rfl his1 dX9_init_276 (fun D250 eD250 H locs hw => ?_)
  have h := nm_i h D250 eD250
  refine lv_aload_n hx hb dX9_init_279 rfl (lv_at hl 0 rfl) ?_
  refine lv_sipush (v := 150) hx hb dX9_init_280 (by decide) ?_
  have hE253 := mn_X9_init_285 h
  refine r_newL hC hw lk_249 (by decide) (by decide) (by decide) (hc.room ho hE253).1 (hc.room ho hE253).2 dX9_init_283 (fun q251 H hw hi252 => ?_)
  have hi254 := Is.up hi0 (Ext.aS S 101 150 150) (up_lt (q := q251))
  have hc := hc.new 101 150 150 q251
  exact w_X9_init_285 hC hin hR ho o0 a0 o0 a0 (sN S) q251 _ _ _ _ _ _ _ _ hi254 hi254 hi252 hw hc (lv_sub hl [0] rfl) h --j255
theorem mn_X9_init_267 {r : Unit} {S' : sh} {D' : dt} {o0 : Nat} {os0 : Nat} {os1 : Nat} {S : sh} {D : dt} (h : f_X9_init_267 o0 os0 os1 S D = some (r, S', D')) : Ext S S' := by
  unfold f_X9_init_267 at h
  have h := nm_i h _ rfl
  have hA := (Ext.aS S 100 150 150)
  exact hA.tr (mn_X9_init_276 h)
set_option maxHeartbeats 4000000 in
set_option maxRecDepth 100000 in
theorem w_X9_init_267 {r : Unit} {S' : sh} {D' : dt} {S0 : sh} {ad0 : Nat → Nat} (hC : Cx RX9 cX9_init 1 none p s m args meth c) (hin : meth.name = "<init>") (hR : 1 ≤ R.frames ∧ 20 ≤ R.locals) (ho : R.cells = sN S' - sN S0 ∧ R.slots = sZ S' - sZ S0) : ∀ (o0 a0 : Nat) (os0 as0 : Nat) (os1 as1 : Nat) (S : sh) (D : dt) (ad : Nat → Nat) (H : Heap) (locs : List Loc) (ls : Array Slot) (cells slots : Nat), Is S ad o0 a0 8 → Is S ad os0 as0 8 → Is S ad os1 as1 100 → Wd G cA S D ad A s H locs → Al S0 ad0 S ad cells slots → lv_has ls 1 [(0, .ref a0)] → f_X9_init_267 o0 os0 os1 S D = some (r, S', D') → W p l e R s m args below meth c H locs cells slots (MQ below (Qa (fun _ => none) (fun ad' => (∀ k, k < sN S0 → ad' k = ad0 k) ∧ True) (fun ad' => wpost G cA S' D' ad' A) A) args s (sN S' - sN S0) (sZ S' - sZ S0) A) (F0 m 267 ls [.ref as1, .ref as0]) := by
  obtain ⟨hx, hb, -⟩ := id hC
  intro o0 a0 os0 as0 os1 as1 S D ad H locs ls cells slots hi0 his0 his1 hw hc hl h
  have hE : Ext S S' := mn_X9_init_267  h
  unfold f_X9_init_267 at h
  refine r_pRF hC hin hw kc_8 his0 39 rfl lk_1111 rfl rfl rfl rfl rfl his1 dX9_init_267 (fun D256 eD256 H locs hw => ?_)
  have h := nm_i h D256 eD256
  refine lv_aload_n hx hb dX9_init_270 rfl (lv_at hl 0 rfl) ?_
  refine lv_sipush (v := 150) hx hb dX9_init_271 (by decide) ?_
  have hE259 := mn_X9_init_276 h
  refine r_newI hC hw lk_172 (by decide) (by decide) (by decide) (hc.room ho hE259).1 (hc.room ho hE259).2 dX9_init_274 (fun q257 H hw hi258 => ?_)
  have hi260 := Is.up hi0 (Ext.aS S 100 150 150) (up_lt (q := q257))
  have hc := hc.new 100 150 150 q257
  exact w_X9_init_276 hC hin hR ho o0 a0 o0 a0 (sN S) q257 _ _ _ _ _ _ _ _ hi260 hi260 hi258 hw hc (lv_sub hl [0] rfl) h --j261
theorem mn_X9_init_258 {r : Unit} {S' : sh} {D' : dt} {o0 : Nat} {os0 : Nat} {os1 : Nat} {S : sh} {D : dt} (h : f_X9_init_258 o0 os0 os1 S D = some (r, S', D')) : Ext S S' := by
  unfold f_X9_init_258 at h
  have h := nm_i h _ rfl
  have hA := (Ext.aS S 100 12800 12800)
  exact hA.tr (mn_X9_init_267 h)
set_option maxHeartbeats 4000000 in
set_option maxRecDepth 100000 in
theorem w_X9_init_258 {r : Unit} {S' : sh} {D' : dt} {S0 : sh} {ad0 : Nat → Nat} (hC : Cx RX9 cX9_init 1 none p s m args meth c) (hin : meth.name = "<init>") (hR : 1 ≤ R.frames ∧ 20 ≤ R.locals) (ho : R.cells = sN S' - sN S0 ∧ R.slots = sZ S' - sZ S0) : ∀ (o0 a0 : Nat) (os0 as0 : Nat) (os1 as1 : Nat) (S : sh) (D : dt) (ad : Nat → Nat) (H : Heap) (locs : List Loc) (ls : Array Slot) (cells slots : Nat), Is S ad o0 a0 8 → Is S ad os0 as0 8 → Is S ad os1 as1 100 → Wd G cA S D ad A s H locs → Al S0 ad0 S ad cells slots → lv_has ls 1 [(0, .ref a0)] → f_X9_init_258 o0 os0 os1 S D = some (r, S', D') → W p l e R s m args below meth c H locs cells slots (MQ below (Qa (fun _ => none) (fun ad' => (∀ k, k < sN S0 → ad' k = ad0 k) ∧ True) (fun ad' => wpost G cA S' D' ad' A) A) args s (sN S' - sN S0) (sZ S' - sZ S0) A) (F0 m 258 ls [.ref as1, .ref as0]) := by
  obtain ⟨hx, hb, -⟩ := id hC
  intro o0 a0 os0 as0 os1 as1 S D ad H locs ls cells slots hi0 his0 his1 hw hc hl h
  have hE : Ext S S' := mn_X9_init_258  h
  unfold f_X9_init_258 at h
  refine r_pRF hC hin hw kc_8 his0 38 rfl lk_1110 rfl rfl rfl rfl rfl his1 dX9_init_258 (fun D262 eD262 H locs hw => ?_)
  have h := nm_i h D262 eD262
  refine lv_aload_n hx hb dX9_init_261 rfl (lv_at hl 0 rfl) ?_
  refine lv_sipush (v := 12800) hx hb dX9_init_262 (by decide) ?_
  have hE265 := mn_X9_init_267 h
  refine r_newI hC hw lk_172 (by decide) (by decide) (by decide) (hc.room ho hE265).1 (hc.room ho hE265).2 dX9_init_265 (fun q263 H hw hi264 => ?_)
  have hi266 := Is.up hi0 (Ext.aS S 100 12800 12800) (up_lt (q := q263))
  have hc := hc.new 100 12800 12800 q263
  exact w_X9_init_267 hC hin hR ho o0 a0 o0 a0 (sN S) q263 _ _ _ _ _ _ _ _ hi266 hi266 hi264 hw hc (lv_sub hl [0] rfl) h --j267
theorem mn_X9_init_249 {r : Unit} {S' : sh} {D' : dt} {o0 : Nat} {os0 : Nat} {os1 : Nat} {S : sh} {D : dt} (h : f_X9_init_249 o0 os0 os1 S D = some (r, S', D')) : Ext S S' := by
  unfold f_X9_init_249 at h
  have h := nm_i h _ rfl
  have hA := (Ext.aS S 100 12800 12800)
  exact hA.tr (mn_X9_init_258 h)
set_option maxHeartbeats 4000000 in
set_option maxRecDepth 100000 in
theorem w_X9_init_249 {r : Unit} {S' : sh} {D' : dt} {S0 : sh} {ad0 : Nat → Nat} (hC : Cx RX9 cX9_init 1 none p s m args meth c) (hin : meth.name = "<init>") (hR : 1 ≤ R.frames ∧ 20 ≤ R.locals) (ho : R.cells = sN S' - sN S0 ∧ R.slots = sZ S' - sZ S0) : ∀ (o0 a0 : Nat) (os0 as0 : Nat) (os1 as1 : Nat) (S : sh) (D : dt) (ad : Nat → Nat) (H : Heap) (locs : List Loc) (ls : Array Slot) (cells slots : Nat), Is S ad o0 a0 8 → Is S ad os0 as0 8 → Is S ad os1 as1 101 → Wd G cA S D ad A s H locs → Al S0 ad0 S ad cells slots → lv_has ls 1 [(0, .ref a0)] → f_X9_init_249 o0 os0 os1 S D = some (r, S', D') → W p l e R s m args below meth c H locs cells slots (MQ below (Qa (fun _ => none) (fun ad' => (∀ k, k < sN S0 → ad' k = ad0 k) ∧ True) (fun ad' => wpost G cA S' D' ad' A) A) args s (sN S' - sN S0) (sZ S' - sZ S0) A) (F0 m 249 ls [.ref as1, .ref as0]) := by
  obtain ⟨hx, hb, -⟩ := id hC
  intro o0 a0 os0 as0 os1 as1 S D ad H locs ls cells slots hi0 his0 his1 hw hc hl h
  have hE : Ext S S' := mn_X9_init_249  h
  unfold f_X9_init_249 at h
  refine r_pRF hC hin hw kc_8 his0 37 rfl lk_1109 rfl rfl rfl rfl rfl his1 dX9_init_249 (fun D268 eD268 H locs hw => ?_)
  have h := nm_i h D268 eD268
  refine lv_aload_n hx hb dX9_init_252 rfl (lv_at hl 0 rfl) ?_
  refine lv_sipush (v := 12800) hx hb dX9_init_253 (by decide) ?_
  have hE271 := mn_X9_init_258 h
  refine r_newI hC hw lk_172 (by decide) (by decide) (by decide) (hc.room ho hE271).1 (hc.room ho hE271).2 dX9_init_256 (fun q269 H hw hi270 => ?_)
  have hi272 := Is.up hi0 (Ext.aS S 100 12800 12800) (up_lt (q := q269))
  have hc := hc.new 100 12800 12800 q269
  exact w_X9_init_258 hC hin hR ho o0 a0 o0 a0 (sN S) q269 _ _ _ _ _ _ _ _ hi272 hi272 hi270 hw hc (lv_sub hl [0] rfl) h --j273
theorem mn_X9_init_240 {r : Unit} {S' : sh} {D' : dt} {o0 : Nat} {os0 : Nat} {os1 : Nat} {S : sh} {D : dt} (h : f_X9_init_240 o0 os0 os1 S D = some (r, S', D')) : Ext S S' := by
  unfold f_X9_init_240 at h
  have h := nm_i h _ rfl
  have hA := (Ext.aS S 101 12800 12800)
  exact hA.tr (mn_X9_init_249 h)
set_option maxHeartbeats 4000000 in
set_option maxRecDepth 100000 in
theorem w_X9_init_240 {r : Unit} {S' : sh} {D' : dt} {S0 : sh} {ad0 : Nat → Nat} (hC : Cx RX9 cX9_init 1 none p s m args meth c) (hin : meth.name = "<init>") (hR : 1 ≤ R.frames ∧ 20 ≤ R.locals) (ho : R.cells = sN S' - sN S0 ∧ R.slots = sZ S' - sZ S0) : ∀ (o0 a0 : Nat) (os0 as0 : Nat) (os1 as1 : Nat) (S : sh) (D : dt) (ad : Nat → Nat) (H : Heap) (locs : List Loc) (ls : Array Slot) (cells slots : Nat), Is S ad o0 a0 8 → Is S ad os0 as0 8 → Is S ad os1 as1 101 → Wd G cA S D ad A s H locs → Al S0 ad0 S ad cells slots → lv_has ls 1 [(0, .ref a0)] → f_X9_init_240 o0 os0 os1 S D = some (r, S', D') → W p l e R s m args below meth c H locs cells slots (MQ below (Qa (fun _ => none) (fun ad' => (∀ k, k < sN S0 → ad' k = ad0 k) ∧ True) (fun ad' => wpost G cA S' D' ad' A) A) args s (sN S' - sN S0) (sZ S' - sZ S0) A) (F0 m 240 ls [.ref as1, .ref as0]) := by
  obtain ⟨hx, hb, -⟩ := id hC
  intro o0 a0 os0 as0 os1 as1 S D ad H locs ls cells slots hi0 his0 his1 hw hc hl h
  have hE : Ext S S' := mn_X9_init_240  h
  unfold f_X9_init_240 at h
  refine r_pRF hC hin hw kc_8 his0 36 rfl lk_1108 rfl rfl rfl rfl rfl his1 dX9_init_240 (fun D274 eD274 H locs hw => ?_)
  have h := nm_i h D274 eD274
  refine lv_aload_n hx hb dX9_init_243 rfl (lv_at hl 0 rfl) ?_
  refine lv_sipush (v := 12800) hx hb dX9_init_244 (by decide) ?_
  have hE277 := mn_X9_init_249 h
  refine r_newL hC hw lk_249 (by decide) (by decide) (by decide) (hc.room ho hE277).1 (hc.room ho hE277).2 dX9_init_247 (fun q275 H hw hi276 => ?_)
  have hi278 := Is.up hi0 (Ext.aS S 101 12800 12800) (up_lt (q := q275))
  have hc := hc.new 101 12800 12800 q275
  exact w_X9_init_249 hC hin hR ho o0 a0 o0 a0 (sN S) q275 _ _ _ _ _ _ _ _ hi278 hi278 hi276 hw hc (lv_sub hl [0] rfl) h --j279
theorem mn_X9_init_231 {r : Unit} {S' : sh} {D' : dt} {o0 : Nat} {os0 : Nat} {os1 : Nat} {S : sh} {D : dt} (h : f_X9_init_231 o0 os0 os1 S D = some (r, S', D')) : Ext S S' := by
  unfold f_X9_init_231 at h
  have h := nm_i h _ rfl
  have hA := (Ext.aS S 101 12800 12800)
  exact hA.tr (mn_X9_init_240 h)
set_option maxHeartbeats 4000000 in
set_option maxRecDepth 100000 in
theorem w_X9_init_231 {r : Unit} {S' : sh} {D' : dt} {S0 : sh} {ad0 : Nat → Nat} (hC : Cx RX9 cX9_init 1 none p s m args meth c) (hin : meth.name = "<init>") (hR : 1 ≤ R.frames ∧ 20 ≤ R.locals) (ho : R.cells = sN S' - sN S0 ∧ R.slots = sZ S' - sZ S0) : ∀ (o0 a0 : Nat) (os0 as0 : Nat) (os1 as1 : Nat) (S : sh) (D : dt) (ad : Nat → Nat) (H : Heap) (locs : List Loc) (ls : Array Slot) (cells slots : Nat), Is S ad o0 a0 8 → Is S ad os0 as0 8 → Is S ad os1 as1 100 → Wd G cA S D ad A s H locs → Al S0 ad0 S ad cells slots → lv_has ls 1 [(0, .ref a0)] → f_X9_init_231 o0 os0 os1 S D = some (r, S', D') → W p l e R s m args below meth c H locs cells slots (MQ below (Qa (fun _ => none) (fun ad' => (∀ k, k < sN S0 → ad' k = ad0 k) ∧ True) (fun ad' => wpost G cA S' D' ad' A) A) args s (sN S' - sN S0) (sZ S' - sZ S0) A) (F0 m 231 ls [.ref as1, .ref as0]) := by
  obtain ⟨hx, hb, -⟩ := id hC
  intro o0 a0 os0 as0 os1 as1 S D ad H locs ls cells slots hi0 his0 his1 hw hc hl h
  have hE : Ext S S' := mn_X9_init_231  h
  unfold f_X9_init_231 at h
  refine r_pRF hC hin hw kc_8 his0 35 rfl lk_1107 rfl rfl rfl rfl rfl his1 dX9_init_231 (fun D280 eD280 H locs hw => ?_)
  have h := nm_i h D280 eD280
  refine lv_aload_n hx hb dX9_init_234 rfl (lv_at hl 0 rfl) ?_
  refine lv_sipush (v := 12800) hx hb dX9_init_235 (by decide) ?_
  have hE283 := mn_X9_init_240 h
  refine r_newL hC hw lk_249 (by decide) (by decide) (by decide) (hc.room ho hE283).1 (hc.room ho hE283).2 dX9_init_238 (fun q281 H hw hi282 => ?_)
  have hi284 := Is.up hi0 (Ext.aS S 101 12800 12800) (up_lt (q := q281))
  have hc := hc.new 101 12800 12800 q281
  exact w_X9_init_240 hC hin hR ho o0 a0 o0 a0 (sN S) q281 _ _ _ _ _ _ _ _ hi284 hi284 hi282 hw hc (lv_sub hl [0] rfl) h --j285
theorem mn_X9_init_222 {r : Unit} {S' : sh} {D' : dt} {o0 : Nat} {os0 : Nat} {os1 : Nat} {S : sh} {D : dt} (h : f_X9_init_222 o0 os0 os1 S D = some (r, S', D')) : Ext S S' := by
  unfold f_X9_init_222 at h
  have h := nm_i h _ rfl
  have hA := (Ext.aS S 100 12800 12800)
  exact hA.tr (mn_X9_init_231 h)
set_option maxHeartbeats 4000000 in
set_option maxRecDepth 100000 in
theorem w_X9_init_222 {r : Unit} {S' : sh} {D' : dt} {S0 : sh} {ad0 : Nat → Nat} (hC : Cx RX9 cX9_init 1 none p s m args meth c) (hin : meth.name = "<init>") (hR : 1 ≤ R.frames ∧ 20 ≤ R.locals) (ho : R.cells = sN S' - sN S0 ∧ R.slots = sZ S' - sZ S0) : ∀ (o0 a0 : Nat) (os0 as0 : Nat) (os1 as1 : Nat) (S : sh) (D : dt) (ad : Nat → Nat) (H : Heap) (locs : List Loc) (ls : Array Slot) (cells slots : Nat), Is S ad o0 a0 8 → Is S ad os0 as0 8 → Is S ad os1 as1 103 → Wd G cA S D ad A s H locs → Al S0 ad0 S ad cells slots → lv_has ls 1 [(0, .ref a0)] → f_X9_init_222 o0 os0 os1 S D = some (r, S', D') → W p l e R s m args below meth c H locs cells slots (MQ below (Qa (fun _ => none) (fun ad' => (∀ k, k < sN S0 → ad' k = ad0 k) ∧ True) (fun ad' => wpost G cA S' D' ad' A) A) args s (sN S' - sN S0) (sZ S' - sZ S0) A) (F0 m 222 ls [.ref as1, .ref as0]) := by
  obtain ⟨hx, hb, -⟩ := id hC
  intro o0 a0 os0 as0 os1 as1 S D ad H locs ls cells slots hi0 his0 his1 hw hc hl h
  have hE : Ext S S' := mn_X9_init_222  h
  unfold f_X9_init_222 at h
  refine r_pRF hC hin hw kc_8 his0 34 rfl lk_1106 rfl rfl rfl rfl rfl his1 dX9_init_222 (fun D286 eD286 H locs hw => ?_)
  have h := nm_i h D286 eD286
  refine lv_aload_n hx hb dX9_init_225 rfl (lv_at hl 0 rfl) ?_
  refine lv_sipush (v := 12800) hx hb dX9_init_226 (by decide) ?_
  have hE289 := mn_X9_init_231 h
  refine r_newI hC hw lk_172 (by decide) (by decide) (by decide) (hc.room ho hE289).1 (hc.room ho hE289).2 dX9_init_229 (fun q287 H hw hi288 => ?_)
  have hi290 := Is.up hi0 (Ext.aS S 100 12800 12800) (up_lt (q := q287))
  have hc := hc.new 100 12800 12800 q287
  exact w_X9_init_231 hC hin hR ho o0 a0 o0 a0 (sN S) q287 _ _ _ _ _ _ _ _ hi290 hi290 hi288 hw hc (lv_sub hl [0] rfl) h --j291
theorem mn_X9_init_214 {r : Unit} {S' : sh} {D' : dt} {o0 : Nat} {os0 : Nat} {os1 : Nat} {S : sh} {D : dt} (h : f_X9_init_214 o0 os0 os1 S D = some (r, S', D')) : Ext S S' := by
  unfold f_X9_init_214 at h
  have h := nm_i h _ rfl
  have hA := (Ext.aS S 103 102400 102400)
  exact hA.tr (mn_X9_init_222 h)
set_option maxHeartbeats 4000000 in
set_option maxRecDepth 100000 in
theorem w_X9_init_214 {r : Unit} {S' : sh} {D' : dt} {S0 : sh} {ad0 : Nat → Nat} (hC : Cx RX9 cX9_init 1 none p s m args meth c) (hin : meth.name = "<init>") (hR : 1 ≤ R.frames ∧ 20 ≤ R.locals) (ho : R.cells = sN S' - sN S0 ∧ R.slots = sZ S' - sZ S0) : ∀ (o0 a0 : Nat) (os0 as0 : Nat) (os1 as1 : Nat) (S : sh) (D : dt) (ad : Nat → Nat) (H : Heap) (locs : List Loc) (ls : Array Slot) (cells slots : Nat), Is S ad o0 a0 8 → Is S ad os0 as0 8 → Is S ad os1 as1 100 → Wd G cA S D ad A s H locs → Al S0 ad0 S ad cells slots → lv_has ls 1 [(0, .ref a0)] → f_X9_init_214 o0 os0 os1 S D = some (r, S', D') → W p l e R s m args below meth c H locs cells slots (MQ below (Qa (fun _ => none) (fun ad' => (∀ k, k < sN S0 → ad' k = ad0 k) ∧ True) (fun ad' => wpost G cA S' D' ad' A) A) args s (sN S' - sN S0) (sZ S' - sZ S0) A) (F0 m 214 ls [.ref as1, .ref as0]) := by
  obtain ⟨hx, hb, -⟩ := id hC
  intro o0 a0 os0 as0 os1 as1 S D ad H locs ls cells slots hi0 his0 his1 hw hc hl h
  have hE : Ext S S' := mn_X9_init_214  h
  unfold f_X9_init_214 at h
  refine r_pRF hC hin hw kc_8 his0 33 rfl lk_1105 rfl rfl rfl rfl rfl his1 dX9_init_214 (fun D292 eD292 H locs hw => ?_)
  have h := nm_i h D292 eD292
  refine lv_aload_n hx hb dX9_init_217 rfl (lv_at hl 0 rfl) ?_
  refine lv_ldc (v := 102400) hx hb hC.2.2.2.1 (hC.2.2.2.2.1 _ lk_1071) dX9_init_218 ?_
  have hE295 := mn_X9_init_222 h
  refine r_newZ hC hw lk_286 (by decide) (by decide) (by decide) (hc.room ho hE295).1 (hc.room ho hE295).2 dX9_init_220 (fun q293 H hw hi294 => ?_)
  have hi296 := Is.up hi0 (Ext.aS S 103 102400 102400) (up_lt (q := q293))
  have hc := hc.new 103 102400 102400 q293
  exact w_X9_init_222 hC hin hR ho o0 a0 o0 a0 (sN S) q293 _ _ _ _ _ _ _ _ hi296 hi296 hi294 hw hc (lv_sub hl [0] rfl) h --j297
theorem mn_X9_init_205 {r : Unit} {S' : sh} {D' : dt} {o0 : Nat} {os0 : Nat} {os1 : Nat} {S : sh} {D : dt} (h : f_X9_init_205 o0 os0 os1 S D = some (r, S', D')) : Ext S S' := by
  unfold f_X9_init_205 at h
  have h := nm_i h _ rfl
  have hA := (Ext.aS S 100 2200 2200)
  exact hA.tr (mn_X9_init_214 h)
set_option maxHeartbeats 4000000 in
set_option maxRecDepth 100000 in
theorem w_X9_init_205 {r : Unit} {S' : sh} {D' : dt} {S0 : sh} {ad0 : Nat → Nat} (hC : Cx RX9 cX9_init 1 none p s m args meth c) (hin : meth.name = "<init>") (hR : 1 ≤ R.frames ∧ 20 ≤ R.locals) (ho : R.cells = sN S' - sN S0 ∧ R.slots = sZ S' - sZ S0) : ∀ (o0 a0 : Nat) (os0 as0 : Nat) (os1 as1 : Nat) (S : sh) (D : dt) (ad : Nat → Nat) (H : Heap) (locs : List Loc) (ls : Array Slot) (cells slots : Nat), Is S ad o0 a0 8 → Is S ad os0 as0 8 → Is S ad os1 as1 100 → Wd G cA S D ad A s H locs → Al S0 ad0 S ad cells slots → lv_has ls 1 [(0, .ref a0)] → f_X9_init_205 o0 os0 os1 S D = some (r, S', D') → W p l e R s m args below meth c H locs cells slots (MQ below (Qa (fun _ => none) (fun ad' => (∀ k, k < sN S0 → ad' k = ad0 k) ∧ True) (fun ad' => wpost G cA S' D' ad' A) A) args s (sN S' - sN S0) (sZ S' - sZ S0) A) (F0 m 205 ls [.ref as1, .ref as0]) := by
  obtain ⟨hx, hb, -⟩ := id hC
  intro o0 a0 os0 as0 os1 as1 S D ad H locs ls cells slots hi0 his0 his1 hw hc hl h
  have hE : Ext S S' := mn_X9_init_205  h
  unfold f_X9_init_205 at h
  refine r_pRF hC hin hw kc_8 his0 32 rfl lk_1104 rfl rfl rfl rfl rfl his1 dX9_init_205 (fun D298 eD298 H locs hw => ?_)
  have h := nm_i h D298 eD298
  refine lv_aload_n hx hb dX9_init_208 rfl (lv_at hl 0 rfl) ?_
  refine lv_sipush (v := 2200) hx hb dX9_init_209 (by decide) ?_
  have hE301 := mn_X9_init_214 h
  refine r_newI hC hw lk_172 (by decide) (by decide) (by decide) (hc.room ho hE301).1 (hc.room ho hE301).2 dX9_init_212 (fun q299 H hw hi300 => ?_)
  have hi302 := Is.up hi0 (Ext.aS S 100 2200 2200) (up_lt (q := q299))
  have hc := hc.new 100 2200 2200 q299
  exact w_X9_init_214 hC hin hR ho o0 a0 o0 a0 (sN S) q299 _ _ _ _ _ _ _ _ hi302 hi302 hi300 hw hc (lv_sub hl [0] rfl) h --j303
theorem mn_X9_init_196 {r : Unit} {S' : sh} {D' : dt} {o0 : Nat} {os0 : Nat} {os1 : Nat} {S : sh} {D : dt} (h : f_X9_init_196 o0 os0 os1 S D = some (r, S', D')) : Ext S S' := by
  unfold f_X9_init_196 at h
  have h := nm_i h _ rfl
  have hA := (Ext.aS S 100 2200 2200)
  exact hA.tr (mn_X9_init_205 h)
set_option maxHeartbeats 4000000 in
set_option maxRecDepth 100000 in
theorem w_X9_init_196 {r : Unit} {S' : sh} {D' : dt} {S0 : sh} {ad0 : Nat → Nat} (hC : Cx RX9 cX9_init 1 none p s m args meth c) (hin : meth.name = "<init>") (hR : 1 ≤ R.frames ∧ 20 ≤ R.locals) (ho : R.cells = sN S' - sN S0 ∧ R.slots = sZ S' - sZ S0) : ∀ (o0 a0 : Nat) (os0 as0 : Nat) (os1 as1 : Nat) (S : sh) (D : dt) (ad : Nat → Nat) (H : Heap) (locs : List Loc) (ls : Array Slot) (cells slots : Nat), Is S ad o0 a0 8 → Is S ad os0 as0 8 → Is S ad os1 as1 101 → Wd G cA S D ad A s H locs → Al S0 ad0 S ad cells slots → lv_has ls 1 [(0, .ref a0)] → f_X9_init_196 o0 os0 os1 S D = some (r, S', D') → W p l e R s m args below meth c H locs cells slots (MQ below (Qa (fun _ => none) (fun ad' => (∀ k, k < sN S0 → ad' k = ad0 k) ∧ True) (fun ad' => wpost G cA S' D' ad' A) A) args s (sN S' - sN S0) (sZ S' - sZ S0) A) (F0 m 196 ls [.ref as1, .ref as0]) := by
  obtain ⟨hx, hb, -⟩ := id hC
  intro o0 a0 os0 as0 os1 as1 S D ad H locs ls cells slots hi0 his0 his1 hw hc hl h
  have hE : Ext S S' := mn_X9_init_196  h
  unfold f_X9_init_196 at h
  refine r_pRF hC hin hw kc_8 his0 31 rfl lk_1103 rfl rfl rfl rfl rfl his1 dX9_init_196 (fun D304 eD304 H locs hw => ?_)
  have h := nm_i h D304 eD304
  refine lv_aload_n hx hb dX9_init_199 rfl (lv_at hl 0 rfl) ?_
  refine lv_sipush (v := 2200) hx hb dX9_init_200 (by decide) ?_
  have hE307 := mn_X9_init_205 h
  refine r_newI hC hw lk_172 (by decide) (by decide) (by decide) (hc.room ho hE307).1 (hc.room ho hE307).2 dX9_init_203 (fun q305 H hw hi306 => ?_)
  have hi308 := Is.up hi0 (Ext.aS S 100 2200 2200) (up_lt (q := q305))
  have hc := hc.new 100 2200 2200 q305
  exact w_X9_init_205 hC hin hR ho o0 a0 o0 a0 (sN S) q305 _ _ _ _ _ _ _ _ hi308 hi308 hi306 hw hc (lv_sub hl [0] rfl) h --j309
theorem mn_X9_init_187 {r : Unit} {S' : sh} {D' : dt} {o0 : Nat} {os0 : Nat} {os1 : Nat} {S : sh} {D : dt} (h : f_X9_init_187 o0 os0 os1 S D = some (r, S', D')) : Ext S S' := by
  unfold f_X9_init_187 at h
  have h := nm_i h _ rfl
  have hA := (Ext.aS S 101 2200 2200)
  exact hA.tr (mn_X9_init_196 h)
set_option maxHeartbeats 4000000 in
set_option maxRecDepth 100000 in
theorem w_X9_init_187 {r : Unit} {S' : sh} {D' : dt} {S0 : sh} {ad0 : Nat → Nat} (hC : Cx RX9 cX9_init 1 none p s m args meth c) (hin : meth.name = "<init>") (hR : 1 ≤ R.frames ∧ 20 ≤ R.locals) (ho : R.cells = sN S' - sN S0 ∧ R.slots = sZ S' - sZ S0) : ∀ (o0 a0 : Nat) (os0 as0 : Nat) (os1 as1 : Nat) (S : sh) (D : dt) (ad : Nat → Nat) (H : Heap) (locs : List Loc) (ls : Array Slot) (cells slots : Nat), Is S ad o0 a0 8 → Is S ad os0 as0 8 → Is S ad os1 as1 101 → Wd G cA S D ad A s H locs → Al S0 ad0 S ad cells slots → lv_has ls 1 [(0, .ref a0)] → f_X9_init_187 o0 os0 os1 S D = some (r, S', D') → W p l e R s m args below meth c H locs cells slots (MQ below (Qa (fun _ => none) (fun ad' => (∀ k, k < sN S0 → ad' k = ad0 k) ∧ True) (fun ad' => wpost G cA S' D' ad' A) A) args s (sN S' - sN S0) (sZ S' - sZ S0) A) (F0 m 187 ls [.ref as1, .ref as0]) := by
  obtain ⟨hx, hb, -⟩ := id hC
  intro o0 a0 os0 as0 os1 as1 S D ad H locs ls cells slots hi0 his0 his1 hw hc hl h
  have hE : Ext S S' := mn_X9_init_187  h
  unfold f_X9_init_187 at h
  refine r_pRF hC hin hw kc_8 his0 30 rfl lk_1102 rfl rfl rfl rfl rfl his1 dX9_init_187 (fun D310 eD310 H locs hw => ?_)
  have h := nm_i h D310 eD310
  refine lv_aload_n hx hb dX9_init_190 rfl (lv_at hl 0 rfl) ?_
  refine lv_sipush (v := 2200) hx hb dX9_init_191 (by decide) ?_
  have hE313 := mn_X9_init_196 h
  refine r_newL hC hw lk_249 (by decide) (by decide) (by decide) (hc.room ho hE313).1 (hc.room ho hE313).2 dX9_init_194 (fun q311 H hw hi312 => ?_)
  have hi314 := Is.up hi0 (Ext.aS S 101 2200 2200) (up_lt (q := q311))
  have hc := hc.new 101 2200 2200 q311
  exact w_X9_init_196 hC hin hR ho o0 a0 o0 a0 (sN S) q311 _ _ _ _ _ _ _ _ hi314 hi314 hi312 hw hc (lv_sub hl [0] rfl) h --j315
theorem mn_X9_init_178 {r : Unit} {S' : sh} {D' : dt} {o0 : Nat} {os0 : Nat} {os1 : Nat} {S : sh} {D : dt} (h : f_X9_init_178 o0 os0 os1 S D = some (r, S', D')) : Ext S S' := by
  unfold f_X9_init_178 at h
  have h := nm_i h _ rfl
  have hA := (Ext.aS S 101 2200 2200)
  exact hA.tr (mn_X9_init_187 h)
set_option maxHeartbeats 4000000 in
set_option maxRecDepth 100000 in
theorem w_X9_init_178 {r : Unit} {S' : sh} {D' : dt} {S0 : sh} {ad0 : Nat → Nat} (hC : Cx RX9 cX9_init 1 none p s m args meth c) (hin : meth.name = "<init>") (hR : 1 ≤ R.frames ∧ 20 ≤ R.locals) (ho : R.cells = sN S' - sN S0 ∧ R.slots = sZ S' - sZ S0) : ∀ (o0 a0 : Nat) (os0 as0 : Nat) (os1 as1 : Nat) (S : sh) (D : dt) (ad : Nat → Nat) (H : Heap) (locs : List Loc) (ls : Array Slot) (cells slots : Nat), Is S ad o0 a0 8 → Is S ad os0 as0 8 → Is S ad os1 as1 100 → Wd G cA S D ad A s H locs → Al S0 ad0 S ad cells slots → lv_has ls 1 [(0, .ref a0)] → f_X9_init_178 o0 os0 os1 S D = some (r, S', D') → W p l e R s m args below meth c H locs cells slots (MQ below (Qa (fun _ => none) (fun ad' => (∀ k, k < sN S0 → ad' k = ad0 k) ∧ True) (fun ad' => wpost G cA S' D' ad' A) A) args s (sN S' - sN S0) (sZ S' - sZ S0) A) (F0 m 178 ls [.ref as1, .ref as0]) := by
  obtain ⟨hx, hb, -⟩ := id hC
  intro o0 a0 os0 as0 os1 as1 S D ad H locs ls cells slots hi0 his0 his1 hw hc hl h
  have hE : Ext S S' := mn_X9_init_178  h
  unfold f_X9_init_178 at h
  refine r_pRF hC hin hw kc_8 his0 29 rfl lk_1101 rfl rfl rfl rfl rfl his1 dX9_init_178 (fun D316 eD316 H locs hw => ?_)
  have h := nm_i h D316 eD316
  refine lv_aload_n hx hb dX9_init_181 rfl (lv_at hl 0 rfl) ?_
  refine lv_sipush (v := 2200) hx hb dX9_init_182 (by decide) ?_
  have hE319 := mn_X9_init_187 h
  refine r_newL hC hw lk_249 (by decide) (by decide) (by decide) (hc.room ho hE319).1 (hc.room ho hE319).2 dX9_init_185 (fun q317 H hw hi318 => ?_)
  have hi320 := Is.up hi0 (Ext.aS S 101 2200 2200) (up_lt (q := q317))
  have hc := hc.new 101 2200 2200 q317
  exact w_X9_init_187 hC hin hR ho o0 a0 o0 a0 (sN S) q317 _ _ _ _ _ _ _ _ hi320 hi320 hi318 hw hc (lv_sub hl [0] rfl) h --j321
theorem mn_X9_init_169 {r : Unit} {S' : sh} {D' : dt} {o0 : Nat} {os0 : Nat} {os1 : Nat} {S : sh} {D : dt} (h : f_X9_init_169 o0 os0 os1 S D = some (r, S', D')) : Ext S S' := by
  unfold f_X9_init_169 at h
  have h := nm_i h _ rfl
  have hA := (Ext.aS S 100 2200 2200)
  exact hA.tr (mn_X9_init_178 h)
set_option maxHeartbeats 4000000 in
set_option maxRecDepth 100000 in
theorem w_X9_init_169 {r : Unit} {S' : sh} {D' : dt} {S0 : sh} {ad0 : Nat → Nat} (hC : Cx RX9 cX9_init 1 none p s m args meth c) (hin : meth.name = "<init>") (hR : 1 ≤ R.frames ∧ 20 ≤ R.locals) (ho : R.cells = sN S' - sN S0 ∧ R.slots = sZ S' - sZ S0) : ∀ (o0 a0 : Nat) (os0 as0 : Nat) (os1 as1 : Nat) (S : sh) (D : dt) (ad : Nat → Nat) (H : Heap) (locs : List Loc) (ls : Array Slot) (cells slots : Nat), Is S ad o0 a0 8 → Is S ad os0 as0 8 → Is S ad os1 as1 103 → Wd G cA S D ad A s H locs → Al S0 ad0 S ad cells slots → lv_has ls 1 [(0, .ref a0)] → f_X9_init_169 o0 os0 os1 S D = some (r, S', D') → W p l e R s m args below meth c H locs cells slots (MQ below (Qa (fun _ => none) (fun ad' => (∀ k, k < sN S0 → ad' k = ad0 k) ∧ True) (fun ad' => wpost G cA S' D' ad' A) A) args s (sN S' - sN S0) (sZ S' - sZ S0) A) (F0 m 169 ls [.ref as1, .ref as0]) := by
  obtain ⟨hx, hb, -⟩ := id hC
  intro o0 a0 os0 as0 os1 as1 S D ad H locs ls cells slots hi0 his0 his1 hw hc hl h
  have hE : Ext S S' := mn_X9_init_169  h
  unfold f_X9_init_169 at h
  refine r_pRF hC hin hw kc_8 his0 28 rfl lk_1100 rfl rfl rfl rfl rfl his1 dX9_init_169 (fun D322 eD322 H locs hw => ?_)
  have h := nm_i h D322 eD322
  refine lv_aload_n hx hb dX9_init_172 rfl (lv_at hl 0 rfl) ?_
  refine lv_sipush (v := 2200) hx hb dX9_init_173 (by decide) ?_
  have hE325 := mn_X9_init_178 h
  refine r_newI hC hw lk_172 (by decide) (by decide) (by decide) (hc.room ho hE325).1 (hc.room ho hE325).2 dX9_init_176 (fun q323 H hw hi324 => ?_)
  have hi326 := Is.up hi0 (Ext.aS S 100 2200 2200) (up_lt (q := q323))
  have hc := hc.new 100 2200 2200 q323
  exact w_X9_init_178 hC hin hR ho o0 a0 o0 a0 (sN S) q323 _ _ _ _ _ _ _ _ hi326 hi326 hi324 hw hc (lv_sub hl [0] rfl) h --j327
theorem mn_X9_init_160 {r : Unit} {S' : sh} {D' : dt} {o0 : Nat} {os0 : Nat} {os1 : Nat} {S : sh} {D : dt} (h : f_X9_init_160 o0 os0 os1 S D = some (r, S', D')) : Ext S S' := by
  unfold f_X9_init_160 at h
  have h := nm_i h _ rfl
  have hA := (Ext.aS S 103 201 201)
  exact hA.tr (mn_X9_init_169 h)
set_option maxHeartbeats 4000000 in
set_option maxRecDepth 100000 in
theorem w_X9_init_160 {r : Unit} {S' : sh} {D' : dt} {S0 : sh} {ad0 : Nat → Nat} (hC : Cx RX9 cX9_init 1 none p s m args meth c) (hin : meth.name = "<init>") (hR : 1 ≤ R.frames ∧ 20 ≤ R.locals) (ho : R.cells = sN S' - sN S0 ∧ R.slots = sZ S' - sZ S0) : ∀ (o0 a0 : Nat) (os0 as0 : Nat) (os1 as1 : Nat) (S : sh) (D : dt) (ad : Nat → Nat) (H : Heap) (locs : List Loc) (ls : Array Slot) (cells slots : Nat), Is S ad o0 a0 8 → Is S ad os0 as0 8 → Is S ad os1 as1 103 → Wd G cA S D ad A s H locs → Al S0 ad0 S ad cells slots → lv_has ls 1 [(0, .ref a0)] → f_X9_init_160 o0 os0 os1 S D = some (r, S', D') → W p l e R s m args below meth c H locs cells slots (MQ below (Qa (fun _ => none) (fun ad' => (∀ k, k < sN S0 → ad' k = ad0 k) ∧ True) (fun ad' => wpost G cA S' D' ad' A) A) args s (sN S' - sN S0) (sZ S' - sZ S0) A) (F0 m 160 ls [.ref as1, .ref as0]) := by
  obtain ⟨hx, hb, -⟩ := id hC
  intro o0 a0 os0 as0 os1 as1 S D ad H locs ls cells slots hi0 his0 his1 hw hc hl h
  have hE : Ext S S' := mn_X9_init_160  h
  unfold f_X9_init_160 at h
  refine r_pRF hC hin hw kc_8 his0 27 rfl lk_1099 rfl rfl rfl rfl rfl his1 dX9_init_160 (fun D328 eD328 H locs hw => ?_)
  have h := nm_i h D328 eD328
  refine lv_aload_n hx hb dX9_init_163 rfl (lv_at hl 0 rfl) ?_
  refine lv_sipush (v := 201) hx hb dX9_init_164 (by decide) ?_
  have hE331 := mn_X9_init_169 h
  refine r_newZ hC hw lk_286 (by decide) (by decide) (by decide) (hc.room ho hE331).1 (hc.room ho hE331).2 dX9_init_167 (fun q329 H hw hi330 => ?_)
  have hi332 := Is.up hi0 (Ext.aS S 103 201 201) (up_lt (q := q329))
  have hc := hc.new 103 201 201 q329
  exact w_X9_init_169 hC hin hR ho o0 a0 o0 a0 (sN S) q329 _ _ _ _ _ _ _ _ hi332 hi332 hi330 hw hc (lv_sub hl [0] rfl) h --j333
theorem mn_X9_init_151 {r : Unit} {S' : sh} {D' : dt} {o0 : Nat} {os0 : Nat} {os1 : Nat} {S : sh} {D : dt} (h : f_X9_init_151 o0 os0 os1 S D = some (r, S', D')) : Ext S S' := by
  unfold f_X9_init_151 at h
  have h := nm_i h _ rfl
  have hA := (Ext.aS S 103 200 200)
  exact hA.tr (mn_X9_init_160 h)
set_option maxHeartbeats 4000000 in
set_option maxRecDepth 100000 in
theorem w_X9_init_151 {r : Unit} {S' : sh} {D' : dt} {S0 : sh} {ad0 : Nat → Nat} (hC : Cx RX9 cX9_init 1 none p s m args meth c) (hin : meth.name = "<init>") (hR : 1 ≤ R.frames ∧ 20 ≤ R.locals) (ho : R.cells = sN S' - sN S0 ∧ R.slots = sZ S' - sZ S0) : ∀ (o0 a0 : Nat) (os0 as0 : Nat) (os1 as1 : Nat) (S : sh) (D : dt) (ad : Nat → Nat) (H : Heap) (locs : List Loc) (ls : Array Slot) (cells slots : Nat), Is S ad o0 a0 8 → Is S ad os0 as0 8 → Is S ad os1 as1 100 → Wd G cA S D ad A s H locs → Al S0 ad0 S ad cells slots → lv_has ls 1 [(0, .ref a0)] → f_X9_init_151 o0 os0 os1 S D = some (r, S', D') → W p l e R s m args below meth c H locs cells slots (MQ below (Qa (fun _ => none) (fun ad' => (∀ k, k < sN S0 → ad' k = ad0 k) ∧ True) (fun ad' => wpost G cA S' D' ad' A) A) args s (sN S' - sN S0) (sZ S' - sZ S0) A) (F0 m 151 ls [.ref as1, .ref as0]) := by
  obtain ⟨hx, hb, -⟩ := id hC
  intro o0 a0 os0 as0 os1 as1 S D ad H locs ls cells slots hi0 his0 his1 hw hc hl h
  have hE : Ext S S' := mn_X9_init_151  h
  unfold f_X9_init_151 at h
  refine r_pRF hC hin hw kc_8 his0 25 rfl lk_1097 rfl rfl rfl rfl rfl his1 dX9_init_151 (fun D334 eD334 H locs hw => ?_)
  have h := nm_i h D334 eD334
  refine lv_aload_n hx hb dX9_init_154 rfl (lv_at hl 0 rfl) ?_
  refine lv_sipush (v := 200) hx hb dX9_init_155 (by decide) ?_
  have hE337 := mn_X9_init_160 h
  refine r_newZ hC hw lk_286 (by decide) (by decide) (by decide) (hc.room ho hE337).1 (hc.room ho hE337).2 dX9_init_158 (fun q335 H hw hi336 => ?_)
  have hi338 := Is.up hi0 (Ext.aS S 103 200 200) (up_lt (q := q335))
  have hc := hc.new 103 200 200 q335
  exact w_X9_init_160 hC hin hR ho o0 a0 o0 a0 (sN S) q335 _ _ _ _ _ _ _ _ hi338 hi338 hi336 hw hc (lv_sub hl [0] rfl) h --j339
theorem mn_X9_init_143 {r : Unit} {S' : sh} {D' : dt} {o0 : Nat} {os0 : Nat} {os1 : Nat} {S : sh} {D : dt} (h : f_X9_init_143 o0 os0 os1 S D = some (r, S', D')) : Ext S S' := by
  unfold f_X9_init_143 at h
  have h := nm_i h _ rfl
  have hA := (Ext.aS S 100 8 8)
  exact hA.tr (mn_X9_init_151 h)
set_option maxHeartbeats 4000000 in
set_option maxRecDepth 100000 in
theorem w_X9_init_143 {r : Unit} {S' : sh} {D' : dt} {S0 : sh} {ad0 : Nat → Nat} (hC : Cx RX9 cX9_init 1 none p s m args meth c) (hin : meth.name = "<init>") (hR : 1 ≤ R.frames ∧ 20 ≤ R.locals) (ho : R.cells = sN S' - sN S0 ∧ R.slots = sZ S' - sZ S0) : ∀ (o0 a0 : Nat) (os0 as0 : Nat) (os1 as1 : Nat) (S : sh) (D : dt) (ad : Nat → Nat) (H : Heap) (locs : List Loc) (ls : Array Slot) (cells slots : Nat), Is S ad o0 a0 8 → Is S ad os0 as0 8 → Is S ad os1 as1 100 → Wd G cA S D ad A s H locs → Al S0 ad0 S ad cells slots → lv_has ls 1 [(0, .ref a0)] → f_X9_init_143 o0 os0 os1 S D = some (r, S', D') → W p l e R s m args below meth c H locs cells slots (MQ below (Qa (fun _ => none) (fun ad' => (∀ k, k < sN S0 → ad' k = ad0 k) ∧ True) (fun ad' => wpost G cA S' D' ad' A) A) args s (sN S' - sN S0) (sZ S' - sZ S0) A) (F0 m 143 ls [.ref as1, .ref as0]) := by
  obtain ⟨hx, hb, -⟩ := id hC
  intro o0 a0 os0 as0 os1 as1 S D ad H locs ls cells slots hi0 his0 his1 hw hc hl h
  have hE : Ext S S' := mn_X9_init_143  h
  unfold f_X9_init_143 at h
  refine r_pRF hC hin hw kc_8 his0 24 rfl lk_1096 rfl rfl rfl rfl rfl his1 dX9_init_143 (fun D340 eD340 H locs hw => ?_)
  have h := nm_i h D340 eD340
  refine lv_aload_n hx hb dX9_init_146 rfl (lv_at hl 0 rfl) ?_
  refine lv_bipush (v := 8) hx hb dX9_init_147 (by decide) ?_
  have hE343 := mn_X9_init_151 h
  refine r_newI hC hw lk_172 (by decide) (by decide) (by decide) (hc.room ho hE343).1 (hc.room ho hE343).2 dX9_init_149 (fun q341 H hw hi342 => ?_)
  have hi344 := Is.up hi0 (Ext.aS S 100 8 8) (up_lt (q := q341))
  have hc := hc.new 100 8 8 q341
  exact w_X9_init_151 hC hin hR ho o0 a0 o0 a0 (sN S) q341 _ _ _ _ _ _ _ _ hi344 hi344 hi342 hw hc (lv_sub hl [0] rfl) h --j345
theorem mn_X9_init_135 {r : Unit} {S' : sh} {D' : dt} {o0 : Nat} {os0 : Nat} {os1 : Nat} {S : sh} {D : dt} (h : f_X9_init_135 o0 os0 os1 S D = some (r, S', D')) : Ext S S' := by
  unfold f_X9_init_135 at h
  have h := nm_i h _ rfl
  have hA := (Ext.aS S 100 32 32)
  exact hA.tr (mn_X9_init_143 h)
set_option maxHeartbeats 4000000 in
set_option maxRecDepth 100000 in
theorem w_X9_init_135 {r : Unit} {S' : sh} {D' : dt} {S0 : sh} {ad0 : Nat → Nat} (hC : Cx RX9 cX9_init 1 none p s m args meth c) (hin : meth.name = "<init>") (hR : 1 ≤ R.frames ∧ 20 ≤ R.locals) (ho : R.cells = sN S' - sN S0 ∧ R.slots = sZ S' - sZ S0) : ∀ (o0 a0 : Nat) (os0 as0 : Nat) (os1 as1 : Nat) (S : sh) (D : dt) (ad : Nat → Nat) (H : Heap) (locs : List Loc) (ls : Array Slot) (cells slots : Nat), Is S ad o0 a0 8 → Is S ad os0 as0 8 → Is S ad os1 as1 101 → Wd G cA S D ad A s H locs → Al S0 ad0 S ad cells slots → lv_has ls 1 [(0, .ref a0)] → f_X9_init_135 o0 os0 os1 S D = some (r, S', D') → W p l e R s m args below meth c H locs cells slots (MQ below (Qa (fun _ => none) (fun ad' => (∀ k, k < sN S0 → ad' k = ad0 k) ∧ True) (fun ad' => wpost G cA S' D' ad' A) A) args s (sN S' - sN S0) (sZ S' - sZ S0) A) (F0 m 135 ls [.ref as1, .ref as0]) := by
  obtain ⟨hx, hb, -⟩ := id hC
  intro o0 a0 os0 as0 os1 as1 S D ad H locs ls cells slots hi0 his0 his1 hw hc hl h
  have hE : Ext S S' := mn_X9_init_135  h
  unfold f_X9_init_135 at h
  refine r_pRF hC hin hw kc_8 his0 23 rfl lk_1095 rfl rfl rfl rfl rfl his1 dX9_init_135 (fun D346 eD346 H locs hw => ?_)
  have h := nm_i h D346 eD346
  refine lv_aload_n hx hb dX9_init_138 rfl (lv_at hl 0 rfl) ?_
  refine lv_bipush (v := 32) hx hb dX9_init_139 (by decide) ?_
  have hE349 := mn_X9_init_143 h
  refine r_newI hC hw lk_172 (by decide) (by decide) (by decide) (hc.room ho hE349).1 (hc.room ho hE349).2 dX9_init_141 (fun q347 H hw hi348 => ?_)
  have hi350 := Is.up hi0 (Ext.aS S 100 32 32) (up_lt (q := q347))
  have hc := hc.new 100 32 32 q347
  exact w_X9_init_143 hC hin hR ho o0 a0 o0 a0 (sN S) q347 _ _ _ _ _ _ _ _ hi350 hi350 hi348 hw hc (lv_sub hl [0] rfl) h --j351
theorem mn_X9_init_127 {r : Unit} {S' : sh} {D' : dt} {o0 : Nat} {os0 : Nat} {os1 : Nat} {S : sh} {D : dt} (h : f_X9_init_127 o0 os0 os1 S D = some (r, S', D')) : Ext S S' := by
  unfold f_X9_init_127 at h
  have h := nm_i h _ rfl
  have hA := (Ext.aS S 101 32 32)
  exact hA.tr (mn_X9_init_135 h)
set_option maxHeartbeats 4000000 in
set_option maxRecDepth 100000 in
theorem w_X9_init_127 {r : Unit} {S' : sh} {D' : dt} {S0 : sh} {ad0 : Nat → Nat} (hC : Cx RX9 cX9_init 1 none p s m args meth c) (hin : meth.name = "<init>") (hR : 1 ≤ R.frames ∧ 20 ≤ R.locals) (ho : R.cells = sN S' - sN S0 ∧ R.slots = sZ S' - sZ S0) : ∀ (o0 a0 : Nat) (os0 as0 : Nat) (os1 as1 : Nat) (S : sh) (D : dt) (ad : Nat → Nat) (H : Heap) (locs : List Loc) (ls : Array Slot) (cells slots : Nat), Is S ad o0 a0 8 → Is S ad os0 as0 8 → Is S ad os1 as1 101 → Wd G cA S D ad A s H locs → Al S0 ad0 S ad cells slots → lv_has ls 1 [(0, .ref a0)] → f_X9_init_127 o0 os0 os1 S D = some (r, S', D') → W p l e R s m args below meth c H locs cells slots (MQ below (Qa (fun _ => none) (fun ad' => (∀ k, k < sN S0 → ad' k = ad0 k) ∧ True) (fun ad' => wpost G cA S' D' ad' A) A) args s (sN S' - sN S0) (sZ S' - sZ S0) A) (F0 m 127 ls [.ref as1, .ref as0]) := by
  obtain ⟨hx, hb, -⟩ := id hC
  intro o0 a0 os0 as0 os1 as1 S D ad H locs ls cells slots hi0 his0 his1 hw hc hl h
  have hE : Ext S S' := mn_X9_init_127  h
  unfold f_X9_init_127 at h
  refine r_pRF hC hin hw kc_8 his0 21 rfl lk_1093 rfl rfl rfl rfl rfl his1 dX9_init_127 (fun D352 eD352 H locs hw => ?_)
  have h := nm_i h D352 eD352
  refine lv_aload_n hx hb dX9_init_130 rfl (lv_at hl 0 rfl) ?_
  refine lv_bipush (v := 32) hx hb dX9_init_131 (by decide) ?_
  have hE355 := mn_X9_init_135 h
  refine r_newL hC hw lk_249 (by decide) (by decide) (by decide) (hc.room ho hE355).1 (hc.room ho hE355).2 dX9_init_133 (fun q353 H hw hi354 => ?_)
  have hi356 := Is.up hi0 (Ext.aS S 101 32 32) (up_lt (q := q353))
  have hc := hc.new 101 32 32 q353
  exact w_X9_init_135 hC hin hR ho o0 a0 o0 a0 (sN S) q353 _ _ _ _ _ _ _ _ hi356 hi356 hi354 hw hc (lv_sub hl [0] rfl) h --j357
theorem mn_X9_init_119 {r : Unit} {S' : sh} {D' : dt} {o0 : Nat} {os0 : Nat} {os1 : Nat} {S : sh} {D : dt} (h : f_X9_init_119 o0 os0 os1 S D = some (r, S', D')) : Ext S S' := by
  unfold f_X9_init_119 at h
  have h := nm_i h _ rfl
  have hA := (Ext.aS S 101 11 11)
  exact hA.tr (mn_X9_init_127 h)
set_option maxHeartbeats 4000000 in
set_option maxRecDepth 100000 in
theorem w_X9_init_119 {r : Unit} {S' : sh} {D' : dt} {S0 : sh} {ad0 : Nat → Nat} (hC : Cx RX9 cX9_init 1 none p s m args meth c) (hin : meth.name = "<init>") (hR : 1 ≤ R.frames ∧ 20 ≤ R.locals) (ho : R.cells = sN S' - sN S0 ∧ R.slots = sZ S' - sZ S0) : ∀ (o0 a0 : Nat) (os0 as0 : Nat) (os1 as1 : Nat) (S : sh) (D : dt) (ad : Nat → Nat) (H : Heap) (locs : List Loc) (ls : Array Slot) (cells slots : Nat), Is S ad o0 a0 8 → Is S ad os0 as0 8 → Is S ad os1 as1 100 → Wd G cA S D ad A s H locs → Al S0 ad0 S ad cells slots → lv_has ls 1 [(0, .ref a0)] → f_X9_init_119 o0 os0 os1 S D = some (r, S', D') → W p l e R s m args below meth c H locs cells slots (MQ below (Qa (fun _ => none) (fun ad' => (∀ k, k < sN S0 → ad' k = ad0 k) ∧ True) (fun ad' => wpost G cA S' D' ad' A) A) args s (sN S' - sN S0) (sZ S' - sZ S0) A) (F0 m 119 ls [.ref as1, .ref as0]) := by
  obtain ⟨hx, hb, -⟩ := id hC
  intro o0 a0 os0 as0 os1 as1 S D ad H locs ls cells slots hi0 his0 his1 hw hc hl h
  have hE : Ext S S' := mn_X9_init_119  h
  unfold f_X9_init_119 at h
  refine r_pRF hC hin hw kc_8 his0 16 rfl lk_1088 rfl rfl rfl rfl rfl his1 dX9_init_119 (fun D358 eD358 H locs hw => ?_)
  have h := nm_i h D358 eD358
  refine lv_aload_n hx hb dX9_init_122 rfl (lv_at hl 0 rfl) ?_
  refine lv_bipush (v := 11) hx hb dX9_init_123 (by decide) ?_
  have hE361 := mn_X9_init_127 h
  refine r_newL hC hw lk_249 (by decide) (by decide) (by decide) (hc.room ho hE361).1 (hc.room ho hE361).2 dX9_init_125 (fun q359 H hw hi360 => ?_)
  have hi362 := Is.up hi0 (Ext.aS S 101 11 11) (up_lt (q := q359))
  have hc := hc.new 101 11 11 q359
  exact w_X9_init_127 hC hin hR ho o0 a0 o0 a0 (sN S) q359 _ _ _ _ _ _ _ _ hi362 hi362 hi360 hw hc (lv_sub hl [0] rfl) h --j363
theorem mn_X9_init_110 {r : Unit} {S' : sh} {D' : dt} {o0 : Nat} {os0 : Nat} {os1 : Nat} {S : sh} {D : dt} (h : f_X9_init_110 o0 os0 os1 S D = some (r, S', D')) : Ext S S' := by
  unfold f_X9_init_110 at h
  have h := nm_i h _ rfl
  have hA := (Ext.aS S 100 1024 1024)
  exact hA.tr (mn_X9_init_119 h)
set_option maxHeartbeats 4000000 in
set_option maxRecDepth 100000 in
theorem w_X9_init_110 {r : Unit} {S' : sh} {D' : dt} {S0 : sh} {ad0 : Nat → Nat} (hC : Cx RX9 cX9_init 1 none p s m args meth c) (hin : meth.name = "<init>") (hR : 1 ≤ R.frames ∧ 20 ≤ R.locals) (ho : R.cells = sN S' - sN S0 ∧ R.slots = sZ S' - sZ S0) : ∀ (o0 a0 : Nat) (os0 as0 : Nat) (os1 as1 : Nat) (S : sh) (D : dt) (ad : Nat → Nat) (H : Heap) (locs : List Loc) (ls : Array Slot) (cells slots : Nat), Is S ad o0 a0 8 → Is S ad os0 as0 8 → Is S ad os1 as1 103 → Wd G cA S D ad A s H locs → Al S0 ad0 S ad cells slots → lv_has ls 1 [(0, .ref a0)] → f_X9_init_110 o0 os0 os1 S D = some (r, S', D') → W p l e R s m args below meth c H locs cells slots (MQ below (Qa (fun _ => none) (fun ad' => (∀ k, k < sN S0 → ad' k = ad0 k) ∧ True) (fun ad' => wpost G cA S' D' ad' A) A) args s (sN S' - sN S0) (sZ S' - sZ S0) A) (F0 m 110 ls [.ref as1, .ref as0]) := by
  obtain ⟨hx, hb, -⟩ := id hC
  intro o0 a0 os0 as0 os1 as1 S D ad H locs ls cells slots hi0 his0 his1 hw hc hl h
  have hE : Ext S S' := mn_X9_init_110  h
  unfold f_X9_init_110 at h
  refine r_pRF hC hin hw kc_8 his0 15 rfl lk_1087 rfl rfl rfl rfl rfl his1 dX9_init_110 (fun D364 eD364 H locs hw => ?_)
  have h := nm_i h D364 eD364
  refine lv_aload_n hx hb dX9_init_113 rfl (lv_at hl 0 rfl) ?_
  refine lv_sipush (v := 1024) hx hb dX9_init_114 (by decide) ?_
  have hE367 := mn_X9_init_119 h
  refine r_newI hC hw lk_172 (by decide) (by decide) (by decide) (hc.room ho hE367).1 (hc.room ho hE367).2 dX9_init_117 (fun q365 H hw hi366 => ?_)
  have hi368 := Is.up hi0 (Ext.aS S 100 1024 1024) (up_lt (q := q365))
  have hc := hc.new 100 1024 1024 q365
  exact w_X9_init_119 hC hin hR ho o0 a0 o0 a0 (sN S) q365 _ _ _ _ _ _ _ _ hi368 hi368 hi366 hw hc (lv_sub hl [0] rfl) h --j369
theorem mn_X9_init_101 {r : Unit} {S' : sh} {D' : dt} {o0 : Nat} {os0 : Nat} {os1 : Nat} {S : sh} {D : dt} (h : f_X9_init_101 o0 os0 os1 S D = some (r, S', D')) : Ext S S' := by
  unfold f_X9_init_101 at h
  have h := nm_i h _ rfl
  have hA := (Ext.aS S 103 128 128)
  exact hA.tr (mn_X9_init_110 h)
set_option maxHeartbeats 4000000 in
set_option maxRecDepth 100000 in
theorem w_X9_init_101 {r : Unit} {S' : sh} {D' : dt} {S0 : sh} {ad0 : Nat → Nat} (hC : Cx RX9 cX9_init 1 none p s m args meth c) (hin : meth.name = "<init>") (hR : 1 ≤ R.frames ∧ 20 ≤ R.locals) (ho : R.cells = sN S' - sN S0 ∧ R.slots = sZ S' - sZ S0) : ∀ (o0 a0 : Nat) (os0 as0 : Nat) (os1 as1 : Nat) (S : sh) (D : dt) (ad : Nat → Nat) (H : Heap) (locs : List Loc) (ls : Array Slot) (cells slots : Nat), Is S ad o0 a0 8 → Is S ad os0 as0 8 → Is S ad os1 as1 100 → Wd G cA S D ad A s H locs → Al S0 ad0 S ad cells slots → lv_has ls 1 [(0, .ref a0)] → f_X9_init_101 o0 os0 os1 S D = some (r, S', D') → W p l e R s m args below meth c H locs cells slots (MQ below (Qa (fun _ => none) (fun ad' => (∀ k, k < sN S0 → ad' k = ad0 k) ∧ True) (fun ad' => wpost G cA S' D' ad' A) A) args s (sN S' - sN S0) (sZ S' - sZ S0) A) (F0 m 101 ls [.ref as1, .ref as0]) := by
  obtain ⟨hx, hb, -⟩ := id hC
  intro o0 a0 os0 as0 os1 as1 S D ad H locs ls cells slots hi0 his0 his1 hw hc hl h
  have hE : Ext S S' := mn_X9_init_101  h
  unfold f_X9_init_101 at h
  refine r_pRF hC hin hw kc_8 his0 14 rfl lk_1086 rfl rfl rfl rfl rfl his1 dX9_init_101 (fun D370 eD370 H locs hw => ?_)
  have h := nm_i h D370 eD370
  refine lv_aload_n hx hb dX9_init_104 rfl (lv_at hl 0 rfl) ?_
  refine lv_sipush (v := 128) hx hb dX9_init_105 (by decide) ?_
  have hE373 := mn_X9_init_110 h
  refine r_newZ hC hw lk_286 (by decide) (by decide) (by decide) (hc.room ho hE373).1 (hc.room ho hE373).2 dX9_init_108 (fun q371 H hw hi372 => ?_)
  have hi374 := Is.up hi0 (Ext.aS S 103 128 128) (up_lt (q := q371))
  have hc := hc.new 103 128 128 q371
  exact w_X9_init_110 hC hin hR ho o0 a0 o0 a0 (sN S) q371 _ _ _ _ _ _ _ _ hi374 hi374 hi372 hw hc (lv_sub hl [0] rfl) h --j375
theorem mn_X9_init_92 {r : Unit} {S' : sh} {D' : dt} {o0 : Nat} {os0 : Nat} {os1 : Nat} {S : sh} {D : dt} (h : f_X9_init_92 o0 os0 os1 S D = some (r, S', D')) : Ext S S' := by
  unfold f_X9_init_92 at h
  have h := nm_i h _ rfl
  have hA := (Ext.aS S 100 4096 4096)
  exact hA.tr (mn_X9_init_101 h)
set_option maxHeartbeats 4000000 in
set_option maxRecDepth 100000 in
theorem w_X9_init_92 {r : Unit} {S' : sh} {D' : dt} {S0 : sh} {ad0 : Nat → Nat} (hC : Cx RX9 cX9_init 1 none p s m args meth c) (hin : meth.name = "<init>") (hR : 1 ≤ R.frames ∧ 20 ≤ R.locals) (ho : R.cells = sN S' - sN S0 ∧ R.slots = sZ S' - sZ S0) : ∀ (o0 a0 : Nat) (os0 as0 : Nat) (os1 as1 : Nat) (S : sh) (D : dt) (ad : Nat → Nat) (H : Heap) (locs : List Loc) (ls : Array Slot) (cells slots : Nat), Is S ad o0 a0 8 → Is S ad os0 as0 8 → Is S ad os1 as1 100 → Wd G cA S D ad A s H locs → Al S0 ad0 S ad cells slots → lv_has ls 1 [(0, .ref a0)] → f_X9_init_92 o0 os0 os1 S D = some (r, S', D') → W p l e R s m args below meth c H locs cells slots (MQ below (Qa (fun _ => none) (fun ad' => (∀ k, k < sN S0 → ad' k = ad0 k) ∧ True) (fun ad' => wpost G cA S' D' ad' A) A) args s (sN S' - sN S0) (sZ S' - sZ S0) A) (F0 m 92 ls [.ref as1, .ref as0]) := by
  obtain ⟨hx, hb, -⟩ := id hC
  intro o0 a0 os0 as0 os1 as1 S D ad H locs ls cells slots hi0 his0 his1 hw hc hl h
  have hE : Ext S S' := mn_X9_init_92  h
  unfold f_X9_init_92 at h
  refine r_pRF hC hin hw kc_8 his0 13 rfl lk_1085 rfl rfl rfl rfl rfl his1 dX9_init_92 (fun D376 eD376 H locs hw => ?_)
  have h := nm_i h D376 eD376
  refine lv_aload_n hx hb dX9_init_95 rfl (lv_at hl 0 rfl) ?_
  refine lv_sipush (v := 4096) hx hb dX9_init_96 (by decide) ?_
  have hE379 := mn_X9_init_101 h
  refine r_newI hC hw lk_172 (by decide) (by decide) (by decide) (hc.room ho hE379).1 (hc.room ho hE379).2 dX9_init_99 (fun q377 H hw hi378 => ?_)
  have hi380 := Is.up hi0 (Ext.aS S 100 4096 4096) (up_lt (q := q377))
  have hc := hc.new 100 4096 4096 q377
  exact w_X9_init_101 hC hin hR ho o0 a0 o0 a0 (sN S) q377 _ _ _ _ _ _ _ _ hi380 hi380 hi378 hw hc (lv_sub hl [0] rfl) h --j381
theorem mn_X9_init_85 {r : Unit} {S' : sh} {D' : dt} {o0 : Nat} {os0 : Nat} {os1 : Nat} {S : sh} {D : dt} (h : f_X9_init_85 o0 os0 os1 S D = some (r, S', D')) : Ext S S' := by
  unfold f_X9_init_85 at h
  have h := nm_i h _ rfl
  have hA := (Ext.aS S 100 4 4)
  exact hA.tr (mn_X9_init_92 h)
set_option maxHeartbeats 4000000 in
set_option maxRecDepth 100000 in
theorem w_X9_init_85 {r : Unit} {S' : sh} {D' : dt} {S0 : sh} {ad0 : Nat → Nat} (hC : Cx RX9 cX9_init 1 none p s m args meth c) (hin : meth.name = "<init>") (hR : 1 ≤ R.frames ∧ 20 ≤ R.locals) (ho : R.cells = sN S' - sN S0 ∧ R.slots = sZ S' - sZ S0) : ∀ (o0 a0 : Nat) (os0 as0 : Nat) (os1 as1 : Nat) (S : sh) (D : dt) (ad : Nat → Nat) (H : Heap) (locs : List Loc) (ls : Array Slot) (cells slots : Nat), Is S ad o0 a0 8 → Is S ad os0 as0 8 → Is S ad os1 as1 100 → Wd G cA S D ad A s H locs → Al S0 ad0 S ad cells slots → lv_has ls 1 [(0, .ref a0)] → f_X9_init_85 o0 os0 os1 S D = some (r, S', D') → W p l e R s m args below meth c H locs cells slots (MQ below (Qa (fun _ => none) (fun ad' => (∀ k, k < sN S0 → ad' k = ad0 k) ∧ True) (fun ad' => wpost G cA S' D' ad' A) A) args s (sN S' - sN S0) (sZ S' - sZ S0) A) (F0 m 85 ls [.ref as1, .ref as0]) := by
  obtain ⟨hx, hb, -⟩ := id hC
  intro o0 a0 os0 as0 os1 as1 S D ad H locs ls cells slots hi0 his0 his1 hw hc hl h
  have hE : Ext S S' := mn_X9_init_85  h
  unfold f_X9_init_85 at h
  refine r_pRF hC hin hw kc_8 his0 12 rfl lk_1084 rfl rfl rfl rfl rfl his1 dX9_init_85 (fun D382 eD382 H locs hw => ?_)
  have h := nm_i h D382 eD382
  refine lv_aload_n hx hb dX9_init_88 rfl (lv_at hl 0 rfl) ?_
  refine lv_iconst (v := 4) hx hb dX9_init_89 (by decide) ?_
  have hE385 := mn_X9_init_92 h
  refine r_newI hC hw lk_172 (by decide) (by decide) (by decide) (hc.room ho hE385).1 (hc.room ho hE385).2 dX9_init_90 (fun q383 H hw hi384 => ?_)
  have hi386 := Is.up hi0 (Ext.aS S 100 4 4) (up_lt (q := q383))
  have hc := hc.new 100 4 4 q383
  exact w_X9_init_92 hC hin hR ho o0 a0 o0 a0 (sN S) q383 _ _ _ _ _ _ _ _ hi386 hi386 hi384 hw hc (lv_sub hl [0] rfl) h --j387
theorem mn_X9_init_78 {r : Unit} {S' : sh} {D' : dt} {o0 : Nat} {os0 : Nat} {os1 : Nat} {S : sh} {D : dt} (h : f_X9_init_78 o0 os0 os1 S D = some (r, S', D')) : Ext S S' := by
  unfold f_X9_init_78 at h
  have h := nm_i h _ rfl
  have hA := (Ext.aS S 100 4 4)
  exact hA.tr (mn_X9_init_85 h)
set_option maxHeartbeats 4000000 in
set_option maxRecDepth 100000 in
theorem w_X9_init_78 {r : Unit} {S' : sh} {D' : dt} {S0 : sh} {ad0 : Nat → Nat} (hC : Cx RX9 cX9_init 1 none p s m args meth c) (hin : meth.name = "<init>") (hR : 1 ≤ R.frames ∧ 20 ≤ R.locals) (ho : R.cells = sN S' - sN S0 ∧ R.slots = sZ S' - sZ S0) : ∀ (o0 a0 : Nat) (os0 as0 : Nat) (os1 as1 : Nat) (S : sh) (D : dt) (ad : Nat → Nat) (H : Heap) (locs : List Loc) (ls : Array Slot) (cells slots : Nat), Is S ad o0 a0 8 → Is S ad os0 as0 8 → Is S ad os1 as1 100 → Wd G cA S D ad A s H locs → Al S0 ad0 S ad cells slots → lv_has ls 1 [(0, .ref a0)] → f_X9_init_78 o0 os0 os1 S D = some (r, S', D') → W p l e R s m args below meth c H locs cells slots (MQ below (Qa (fun _ => none) (fun ad' => (∀ k, k < sN S0 → ad' k = ad0 k) ∧ True) (fun ad' => wpost G cA S' D' ad' A) A) args s (sN S' - sN S0) (sZ S' - sZ S0) A) (F0 m 78 ls [.ref as1, .ref as0]) := by
  obtain ⟨hx, hb, -⟩ := id hC
  intro o0 a0 os0 as0 os1 as1 S D ad H locs ls cells slots hi0 his0 his1 hw hc hl h
  have hE : Ext S S' := mn_X9_init_78  h
  unfold f_X9_init_78 at h
  refine r_pRF hC hin hw kc_8 his0 11 rfl lk_1083 rfl rfl rfl rfl rfl his1 dX9_init_78 (fun D388 eD388 H locs hw => ?_)
  have h := nm_i h D388 eD388
  refine lv_aload_n hx hb dX9_init_81 rfl (lv_at hl 0 rfl) ?_
  refine lv_iconst (v := 4) hx hb dX9_init_82 (by decide) ?_
  have hE391 := mn_X9_init_85 h
  refine r_newI hC hw lk_172 (by decide) (by decide) (by decide) (hc.room ho hE391).1 (hc.room ho hE391).2 dX9_init_83 (fun q389 H hw hi390 => ?_)
  have hi392 := Is.up hi0 (Ext.aS S 100 4 4) (up_lt (q := q389))
  have hc := hc.new 100 4 4 q389
  exact w_X9_init_85 hC hin hR ho o0 a0 o0 a0 (sN S) q389 _ _ _ _ _ _ _ _ hi392 hi392 hi390 hw hc (lv_sub hl [0] rfl) h --j393
theorem mn_X9_init_71 {r : Unit} {S' : sh} {D' : dt} {o0 : Nat} {os0 : Nat} {os1 : Nat} {S : sh} {D : dt} (h : f_X9_init_71 o0 os0 os1 S D = some (r, S', D')) : Ext S S' := by
  unfold f_X9_init_71 at h
  have h := nm_i h _ rfl
  have hA := (Ext.aS S 100 4 4)
  exact hA.tr (mn_X9_init_78 h)
set_option maxHeartbeats 4000000 in
set_option maxRecDepth 100000 in
theorem w_X9_init_71 {r : Unit} {S' : sh} {D' : dt} {S0 : sh} {ad0 : Nat → Nat} (hC : Cx RX9 cX9_init 1 none p s m args meth c) (hin : meth.name = "<init>") (hR : 1 ≤ R.frames ∧ 20 ≤ R.locals) (ho : R.cells = sN S' - sN S0 ∧ R.slots = sZ S' - sZ S0) : ∀ (o0 a0 : Nat) (os0 as0 : Nat) (os1 as1 : Nat) (S : sh) (D : dt) (ad : Nat → Nat) (H : Heap) (locs : List Loc) (ls : Array Slot) (cells slots : Nat), Is S ad o0 a0 8 → Is S ad os0 as0 8 → Is S ad os1 as1 100 → Wd G cA S D ad A s H locs → Al S0 ad0 S ad cells slots → lv_has ls 1 [(0, .ref a0)] → f_X9_init_71 o0 os0 os1 S D = some (r, S', D') → W p l e R s m args below meth c H locs cells slots (MQ below (Qa (fun _ => none) (fun ad' => (∀ k, k < sN S0 → ad' k = ad0 k) ∧ True) (fun ad' => wpost G cA S' D' ad' A) A) args s (sN S' - sN S0) (sZ S' - sZ S0) A) (F0 m 71 ls [.ref as1, .ref as0]) := by
  obtain ⟨hx, hb, -⟩ := id hC
  intro o0 a0 os0 as0 os1 as1 S D ad H locs ls cells slots hi0 his0 his1 hw hc hl h
  have hE : Ext S S' := mn_X9_init_71  h
  unfold f_X9_init_71 at h
  refine r_pRF hC hin hw kc_8 his0 10 rfl lk_1082 rfl rfl rfl rfl rfl his1 dX9_init_71 (fun D394 eD394 H locs hw => ?_)
  have h := nm_i h D394 eD394
  refine lv_aload_n hx hb dX9_init_74 rfl (lv_at hl 0 rfl) ?_
  refine lv_iconst (v := 4) hx hb dX9_init_75 (by decide) ?_
  have hE397 := mn_X9_init_78 h
  refine r_newI hC hw lk_172 (by decide) (by decide) (by decide) (hc.room ho hE397).1 (hc.room ho hE397).2 dX9_init_76 (fun q395 H hw hi396 => ?_)
  have hi398 := Is.up hi0 (Ext.aS S 100 4 4) (up_lt (q := q395))
  have hc := hc.new 100 4 4 q395
  exact w_X9_init_78 hC hin hR ho o0 a0 o0 a0 (sN S) q395 _ _ _ _ _ _ _ _ hi398 hi398 hi396 hw hc (lv_sub hl [0] rfl) h --j399
theorem mn_X9_init_64 {r : Unit} {S' : sh} {D' : dt} {o0 : Nat} {os0 : Nat} {os1 : Nat} {S : sh} {D : dt} (h : f_X9_init_64 o0 os0 os1 S D = some (r, S', D')) : Ext S S' := by
  unfold f_X9_init_64 at h
  have h := nm_i h _ rfl
  have hA := (Ext.aS S 100 4 4)
  exact hA.tr (mn_X9_init_71 h)
set_option maxHeartbeats 4000000 in
set_option maxRecDepth 100000 in
theorem w_X9_init_64 {r : Unit} {S' : sh} {D' : dt} {S0 : sh} {ad0 : Nat → Nat} (hC : Cx RX9 cX9_init 1 none p s m args meth c) (hin : meth.name = "<init>") (hR : 1 ≤ R.frames ∧ 20 ≤ R.locals) (ho : R.cells = sN S' - sN S0 ∧ R.slots = sZ S' - sZ S0) : ∀ (o0 a0 : Nat) (os0 as0 : Nat) (os1 as1 : Nat) (S : sh) (D : dt) (ad : Nat → Nat) (H : Heap) (locs : List Loc) (ls : Array Slot) (cells slots : Nat), Is S ad o0 a0 8 → Is S ad os0 as0 8 → Is S ad os1 as1 100 → Wd G cA S D ad A s H locs → Al S0 ad0 S ad cells slots → lv_has ls 1 [(0, .ref a0)] → f_X9_init_64 o0 os0 os1 S D = some (r, S', D') → W p l e R s m args below meth c H locs cells slots (MQ below (Qa (fun _ => none) (fun ad' => (∀ k, k < sN S0 → ad' k = ad0 k) ∧ True) (fun ad' => wpost G cA S' D' ad' A) A) args s (sN S' - sN S0) (sZ S' - sZ S0) A) (F0 m 64 ls [.ref as1, .ref as0]) := by
  obtain ⟨hx, hb, -⟩ := id hC
  intro o0 a0 os0 as0 os1 as1 S D ad H locs ls cells slots hi0 his0 his1 hw hc hl h
  have hE : Ext S S' := mn_X9_init_64  h
  unfold f_X9_init_64 at h
  refine r_pRF hC hin hw kc_8 his0 8 rfl lk_1080 rfl rfl rfl rfl rfl his1 dX9_init_64 (fun D400 eD400 H locs hw => ?_)
  have h := nm_i h D400 eD400
  refine lv_aload_n hx hb dX9_init_67 rfl (lv_at hl 0 rfl) ?_
  refine lv_iconst (v := 4) hx hb dX9_init_68 (by decide) ?_
  have hE403 := mn_X9_init_71 h
  refine r_newI hC hw lk_172 (by decide) (by decide) (by decide) (hc.room ho hE403).1 (hc.room ho hE403).2 dX9_init_69 (fun q401 H hw hi402 => ?_)
  have hi404 := Is.up hi0 (Ext.aS S 100 4 4) (up_lt (q := q401))
  have hc := hc.new 100 4 4 q401
  exact w_X9_init_71 hC hin hR ho o0 a0 o0 a0 (sN S) q401 _ _ _ _ _ _ _ _ hi404 hi404 hi402 hw hc (lv_sub hl [0] rfl) h --j405
theorem mn_X9_init_55 {r : Unit} {S' : sh} {D' : dt} {o0 : Nat} {os0 : Nat} {os1 : Nat} {S : sh} {D : dt} (h : f_X9_init_55 o0 os0 os1 S D = some (r, S', D')) : Ext S S' := by
  unfold f_X9_init_55 at h
  have h := nm_i h _ rfl
  have hA := (Ext.aS S 100 512 512)
  exact hA.tr (mn_X9_init_64 h)
set_option maxHeartbeats 4000000 in
set_option maxRecDepth 100000 in
theorem w_X9_init_55 {r : Unit} {S' : sh} {D' : dt} {S0 : sh} {ad0 : Nat → Nat} (hC : Cx RX9 cX9_init 1 none p s m args meth c) (hin : meth.name = "<init>") (hR : 1 ≤ R.frames ∧ 20 ≤ R.locals) (ho : R.cells = sN S' - sN S0 ∧ R.slots = sZ S' - sZ S0) : ∀ (o0 a0 : Nat) (os0 as0 : Nat) (os1 as1 : Nat) (S : sh) (D : dt) (ad : Nat → Nat) (H : Heap) (locs : List Loc) (ls : Array Slot) (cells slots : Nat), Is S ad o0 a0 8 → Is S ad os0 as0 8 → Is S ad os1 as1 100 → Wd G cA S D ad A s H locs → Al S0 ad0 S ad cells slots → lv_has ls 1 [(0, .ref a0)] → f_X9_init_55 o0 os0 os1 S D = some (r, S', D') → W p l e R s m args below meth c H locs cells slots (MQ below (Qa (fun _ => none) (fun ad' => (∀ k, k < sN S0 → ad' k = ad0 k) ∧ True) (fun ad' => wpost G cA S' D' ad' A) A) args s (sN S' - sN S0) (sZ S' - sZ S0) A) (F0 m 55 ls [.ref as1, .ref as0]) := by
  obtain ⟨hx, hb, -⟩ := id hC
  intro o0 a0 os0 as0 os1 as1 S D ad H locs ls cells slots hi0 his0 his1 hw hc hl h
  have hE : Ext S S' := mn_X9_init_55  h
  unfold f_X9_init_55 at h
  refine r_pRF hC hin hw kc_8 his0 6 rfl lk_1078 rfl rfl rfl rfl rfl his1 dX9_init_55 (fun D406 eD406 H locs hw => ?_)
  have h := nm_i h D406 eD406
  refine lv_aload_n hx hb dX9_init_58 rfl (lv_at hl 0 rfl) ?_
  refine lv_sipush (v := 512) hx hb dX9_init_59 (by decide) ?_
  have hE409 := mn_X9_init_64 h
  refine r_newI hC hw lk_172 (by decide) (by decide) (by decide) (hc.room ho hE409).1 (hc.room ho hE409).2 dX9_init_62 (fun q407 H hw hi408 => ?_)
  have hi410 := Is.up hi0 (Ext.aS S 100 512 512) (up_lt (q := q407))
  have hc := hc.new 100 512 512 q407
  exact w_X9_init_64 hC hin hR ho o0 a0 o0 a0 (sN S) q407 _ _ _ _ _ _ _ _ hi410 hi410 hi408 hw hc (lv_sub hl [0] rfl) h --j411
theorem mn_X9_init_46 {r : Unit} {S' : sh} {D' : dt} {o0 : Nat} {os0 : Nat} {os1 : Nat} {S : sh} {D : dt} (h : f_X9_init_46 o0 os0 os1 S D = some (r, S', D')) : Ext S S' := by
  unfold f_X9_init_46 at h
  have h := nm_i h _ rfl
  have hA := (Ext.aS S 100 256 256)
  exact hA.tr (mn_X9_init_55 h)
set_option maxHeartbeats 4000000 in
set_option maxRecDepth 100000 in
theorem w_X9_init_46 {r : Unit} {S' : sh} {D' : dt} {S0 : sh} {ad0 : Nat → Nat} (hC : Cx RX9 cX9_init 1 none p s m args meth c) (hin : meth.name = "<init>") (hR : 1 ≤ R.frames ∧ 20 ≤ R.locals) (ho : R.cells = sN S' - sN S0 ∧ R.slots = sZ S' - sZ S0) : ∀ (o0 a0 : Nat) (os0 as0 : Nat) (os1 as1 : Nat) (S : sh) (D : dt) (ad : Nat → Nat) (H : Heap) (locs : List Loc) (ls : Array Slot) (cells slots : Nat), Is S ad o0 a0 8 → Is S ad os0 as0 8 → Is S ad os1 as1 100 → Wd G cA S D ad A s H locs → Al S0 ad0 S ad cells slots → lv_has ls 1 [(0, .ref a0)] → f_X9_init_46 o0 os0 os1 S D = some (r, S', D') → W p l e R s m args below meth c H locs cells slots (MQ below (Qa (fun _ => none) (fun ad' => (∀ k, k < sN S0 → ad' k = ad0 k) ∧ True) (fun ad' => wpost G cA S' D' ad' A) A) args s (sN S' - sN S0) (sZ S' - sZ S0) A) (F0 m 46 ls [.ref as1, .ref as0]) := by
  obtain ⟨hx, hb, -⟩ := id hC
  intro o0 a0 os0 as0 os1 as1 S D ad H locs ls cells slots hi0 his0 his1 hw hc hl h
  have hE : Ext S S' := mn_X9_init_46  h
  unfold f_X9_init_46 at h
  refine r_pRF hC hin hw kc_8 his0 5 rfl lk_1077 rfl rfl rfl rfl rfl his1 dX9_init_46 (fun D412 eD412 H locs hw => ?_)
  have h := nm_i h D412 eD412
  refine lv_aload_n hx hb dX9_init_49 rfl (lv_at hl 0 rfl) ?_
  refine lv_sipush (v := 256) hx hb dX9_init_50 (by decide) ?_
  have hE415 := mn_X9_init_55 h
  refine r_newI hC hw lk_172 (by decide) (by decide) (by decide) (hc.room ho hE415).1 (hc.room ho hE415).2 dX9_init_53 (fun q413 H hw hi414 => ?_)
  have hi416 := Is.up hi0 (Ext.aS S 100 256 256) (up_lt (q := q413))
  have hc := hc.new 100 256 256 q413
  exact w_X9_init_55 hC hin hR ho o0 a0 o0 a0 (sN S) q413 _ _ _ _ _ _ _ _ hi416 hi416 hi414 hw hc (lv_sub hl [0] rfl) h --j417
theorem mn_X9_init_37 {r : Unit} {S' : sh} {D' : dt} {o0 : Nat} {os0 : Nat} {os1 : Nat} {S : sh} {D : dt} (h : f_X9_init_37 o0 os0 os1 S D = some (r, S', D')) : Ext S S' := by
  unfold f_X9_init_37 at h
  have h := nm_i h _ rfl
  have hA := (Ext.aS S 100 200 200)
  exact hA.tr (mn_X9_init_46 h)
set_option maxHeartbeats 4000000 in
set_option maxRecDepth 100000 in
theorem w_X9_init_37 {r : Unit} {S' : sh} {D' : dt} {S0 : sh} {ad0 : Nat → Nat} (hC : Cx RX9 cX9_init 1 none p s m args meth c) (hin : meth.name = "<init>") (hR : 1 ≤ R.frames ∧ 20 ≤ R.locals) (ho : R.cells = sN S' - sN S0 ∧ R.slots = sZ S' - sZ S0) : ∀ (o0 a0 : Nat) (os0 as0 : Nat) (os1 as1 : Nat) (S : sh) (D : dt) (ad : Nat → Nat) (H : Heap) (locs : List Loc) (ls : Array Slot) (cells slots : Nat), Is S ad o0 a0 8 → Is S ad os0 as0 8 → Is S ad os1 as1 100 → Wd G cA S D ad A s H locs → Al S0 ad0 S ad cells slots → lv_has ls 1 [(0, .ref a0)] → f_X9_init_37 o0 os0 os1 S D = some (r, S', D') → W p l e R s m args below meth c H locs cells slots (MQ below (Qa (fun _ => none) (fun ad' => (∀ k, k < sN S0 → ad' k = ad0 k) ∧ True) (fun ad' => wpost G cA S' D' ad' A) A) args s (sN S' - sN S0) (sZ S' - sZ S0) A) (F0 m 37 ls [.ref as1, .ref as0]) := by
  obtain ⟨hx, hb, -⟩ := id hC
  intro o0 a0 os0 as0 os1 as1 S D ad H locs ls cells slots hi0 his0 his1 hw hc hl h
  have hE : Ext S S' := mn_X9_init_37  h
  unfold f_X9_init_37 at h
  refine r_pRF hC hin hw kc_8 his0 4 rfl lk_1076 rfl rfl rfl rfl rfl his1 dX9_init_37 (fun D418 eD418 H locs hw => ?_)
  have h := nm_i h D418 eD418
  refine lv_aload_n hx hb dX9_init_40 rfl (lv_at hl 0 rfl) ?_
  refine lv_sipush (v := 200) hx hb dX9_init_41 (by decide) ?_
  have hE421 := mn_X9_init_46 h
  refine r_newI hC hw lk_172 (by decide) (by decide) (by decide) (hc.room ho hE421).1 (hc.room ho hE421).2 dX9_init_44 (fun q419 H hw hi420 => ?_)
  have hi422 := Is.up hi0 (Ext.aS S 100 200 200) (up_lt (q := q419))
  have hc := hc.new 100 200 200 q419
  exact w_X9_init_46 hC hin hR ho o0 a0 o0 a0 (sN S) q419 _ _ _ _ _ _ _ _ hi422 hi422 hi420 hw hc (lv_sub hl [0] rfl) h --j423
theorem mn_X9_init_28 {r : Unit} {S' : sh} {D' : dt} {o0 : Nat} {os0 : Nat} {os1 : Nat} {S : sh} {D : dt} (h : f_X9_init_28 o0 os0 os1 S D = some (r, S', D')) : Ext S S' := by
  unfold f_X9_init_28 at h
  have h := nm_i h _ rfl
  have hA := (Ext.aS S 100 200 200)
  exact hA.tr (mn_X9_init_37 h)
set_option maxHeartbeats 4000000 in
set_option maxRecDepth 100000 in
theorem w_X9_init_28 {r : Unit} {S' : sh} {D' : dt} {S0 : sh} {ad0 : Nat → Nat} (hC : Cx RX9 cX9_init 1 none p s m args meth c) (hin : meth.name = "<init>") (hR : 1 ≤ R.frames ∧ 20 ≤ R.locals) (ho : R.cells = sN S' - sN S0 ∧ R.slots = sZ S' - sZ S0) : ∀ (o0 a0 : Nat) (os0 as0 : Nat) (os1 as1 : Nat) (S : sh) (D : dt) (ad : Nat → Nat) (H : Heap) (locs : List Loc) (ls : Array Slot) (cells slots : Nat), Is S ad o0 a0 8 → Is S ad os0 as0 8 → Is S ad os1 as1 100 → Wd G cA S D ad A s H locs → Al S0 ad0 S ad cells slots → lv_has ls 1 [(0, .ref a0)] → f_X9_init_28 o0 os0 os1 S D = some (r, S', D') → W p l e R s m args below meth c H locs cells slots (MQ below (Qa (fun _ => none) (fun ad' => (∀ k, k < sN S0 → ad' k = ad0 k) ∧ True) (fun ad' => wpost G cA S' D' ad' A) A) args s (sN S' - sN S0) (sZ S' - sZ S0) A) (F0 m 28 ls [.ref as1, .ref as0]) := by
  obtain ⟨hx, hb, -⟩ := id hC
  intro o0 a0 os0 as0 os1 as1 S D ad H locs ls cells slots hi0 his0 his1 hw hc hl h
  have hE : Ext S S' := mn_X9_init_28  h
  unfold f_X9_init_28 at h
  refine r_pRF hC hin hw kc_8 his0 3 rfl lk_1075 rfl rfl rfl rfl rfl his1 dX9_init_28 (fun D424 eD424 H locs hw => ?_)
  have h := nm_i h D424 eD424
  refine lv_aload_n hx hb dX9_init_31 rfl (lv_at hl 0 rfl) ?_
  refine lv_sipush (v := 200) hx hb dX9_init_32 (by decide) ?_
  have hE427 := mn_X9_init_37 h
  refine r_newI hC hw lk_172 (by decide) (by decide) (by decide) (hc.room ho hE427).1 (hc.room ho hE427).2 dX9_init_35 (fun q425 H hw hi426 => ?_)
  have hi428 := Is.up hi0 (Ext.aS S 100 200 200) (up_lt (q := q425))
  have hc := hc.new 100 200 200 q425
  exact w_X9_init_37 hC hin hR ho o0 a0 o0 a0 (sN S) q425 _ _ _ _ _ _ _ _ hi428 hi428 hi426 hw hc (lv_sub hl [0] rfl) h --j429
theorem mn_X9_init_19 {r : Unit} {S' : sh} {D' : dt} {o0 : Nat} {os0 : Nat} {os1 : Nat} {S : sh} {D : dt} (h : f_X9_init_19 o0 os0 os1 S D = some (r, S', D')) : Ext S S' := by
  unfold f_X9_init_19 at h
  have h := nm_i h _ rfl
  have hA := (Ext.aS S 100 200 200)
  exact hA.tr (mn_X9_init_28 h)
set_option maxHeartbeats 4000000 in
set_option maxRecDepth 100000 in
theorem w_X9_init_19 {r : Unit} {S' : sh} {D' : dt} {S0 : sh} {ad0 : Nat → Nat} (hC : Cx RX9 cX9_init 1 none p s m args meth c) (hin : meth.name = "<init>") (hR : 1 ≤ R.frames ∧ 20 ≤ R.locals) (ho : R.cells = sN S' - sN S0 ∧ R.slots = sZ S' - sZ S0) : ∀ (o0 a0 : Nat) (os0 as0 : Nat) (os1 as1 : Nat) (S : sh) (D : dt) (ad : Nat → Nat) (H : Heap) (locs : List Loc) (ls : Array Slot) (cells slots : Nat), Is S ad o0 a0 8 → Is S ad os0 as0 8 → Is S ad os1 as1 100 → Wd G cA S D ad A s H locs → Al S0 ad0 S ad cells slots → lv_has ls 1 [(0, .ref a0)] → f_X9_init_19 o0 os0 os1 S D = some (r, S', D') → W p l e R s m args below meth c H locs cells slots (MQ below (Qa (fun _ => none) (fun ad' => (∀ k, k < sN S0 → ad' k = ad0 k) ∧ True) (fun ad' => wpost G cA S' D' ad' A) A) args s (sN S' - sN S0) (sZ S' - sZ S0) A) (F0 m 19 ls [.ref as1, .ref as0]) := by
  obtain ⟨hx, hb, -⟩ := id hC
  intro o0 a0 os0 as0 os1 as1 S D ad H locs ls cells slots hi0 his0 his1 hw hc hl h
  have hE : Ext S S' := mn_X9_init_19  h
  unfold f_X9_init_19 at h
  refine r_pRF hC hin hw kc_8 his0 2 rfl lk_1074 rfl rfl rfl rfl rfl his1 dX9_init_19 (fun D430 eD430 H locs hw => ?_)
  have h := nm_i h D430 eD430
  refine lv_aload_n hx hb dX9_init_22 rfl (lv_at hl 0 rfl) ?_
  refine lv_sipush (v := 200) hx hb dX9_init_23 (by decide) ?_
  have hE433 := mn_X9_init_28 h
  refine r_newI hC hw lk_172 (by decide) (by decide) (by decide) (hc.room ho hE433).1 (hc.room ho hE433).2 dX9_init_26 (fun q431 H hw hi432 => ?_)
  have hi434 := Is.up hi0 (Ext.aS S 100 200 200) (up_lt (q := q431))
  have hc := hc.new 100 200 200 q431
  exact w_X9_init_28 hC hin hR ho o0 a0 o0 a0 (sN S) q431 _ _ _ _ _ _ _ _ hi434 hi434 hi432 hw hc (lv_sub hl [0] rfl) h --j435
theorem mn_X9_init_10 {r : Unit} {S' : sh} {D' : dt} {o0 : Nat} {os0 : Nat} {os1 : Nat} {S : sh} {D : dt} (h : f_X9_init_10 o0 os0 os1 S D = some (r, S', D')) : Ext S S' := by
  unfold f_X9_init_10 at h
  have h := nm_i h _ rfl
  have hA := (Ext.aS S 100 200 200)
  exact hA.tr (mn_X9_init_19 h)
set_option maxHeartbeats 4000000 in
set_option maxRecDepth 100000 in
theorem w_X9_init_10 {r : Unit} {S' : sh} {D' : dt} {S0 : sh} {ad0 : Nat → Nat} (hC : Cx RX9 cX9_init 1 none p s m args meth c) (hin : meth.name = "<init>") (hR : 1 ≤ R.frames ∧ 20 ≤ R.locals) (ho : R.cells = sN S' - sN S0 ∧ R.slots = sZ S' - sZ S0) : ∀ (o0 a0 : Nat) (os0 as0 : Nat) (os1 as1 : Nat) (S : sh) (D : dt) (ad : Nat → Nat) (H : Heap) (locs : List Loc) (ls : Array Slot) (cells slots : Nat), Is S ad o0 a0 8 → Is S ad os0 as0 8 → Is S ad os1 as1 100 → Wd G cA S D ad A s H locs → Al S0 ad0 S ad cells slots → lv_has ls 1 [(0, .ref a0)] → f_X9_init_10 o0 os0 os1 S D = some (r, S', D') → W p l e R s m args below meth c H locs cells slots (MQ below (Qa (fun _ => none) (fun ad' => (∀ k, k < sN S0 → ad' k = ad0 k) ∧ True) (fun ad' => wpost G cA S' D' ad' A) A) args s (sN S' - sN S0) (sZ S' - sZ S0) A) (F0 m 10 ls [.ref as1, .ref as0]) := by
  obtain ⟨hx, hb, -⟩ := id hC
  intro o0 a0 os0 as0 os1 as1 S D ad H locs ls cells slots hi0 his0 his1 hw hc hl h
  have hE : Ext S S' := mn_X9_init_10  h
  unfold f_X9_init_10 at h
  refine r_pRF hC hin hw kc_8 his0 1 rfl lk_1073 rfl rfl rfl rfl rfl his1 dX9_init_10 (fun D436 eD436 H locs hw => ?_)
  have h := nm_i h D436 eD436
  refine lv_aload_n hx hb dX9_init_13 rfl (lv_at hl 0 rfl) ?_
  refine lv_sipush (v := 200) hx hb dX9_init_14 (by decide) ?_
  have hE439 := mn_X9_init_19 h
  refine r_newI hC hw lk_172 (by decide) (by decide) (by decide) (hc.room ho hE439).1 (hc.room ho hE439).2 dX9_init_17 (fun q437 H hw hi438 => ?_)
  have hi440 := Is.up hi0 (Ext.aS S 100 200 200) (up_lt (q := q437))
  have hc := hc.new 100 200 200 q437
  exact w_X9_init_19 hC hin hR ho o0 a0 o0 a0 (sN S) q437 _ _ _ _ _ _ _ _ hi440 hi440 hi438 hw hc (lv_sub hl [0] rfl) h --j441
theorem mn_X9_init_0 {r : Unit} {S' : sh} {D' : dt} {o0 : Nat} {S : sh} {D : dt} (h : f_X9_init o0 S D = some (r, S', D')) : Ext S S' := by
  unfold f_X9_init at h
  have hA := (Ext.aS S 100 200 200)
  exact hA.tr (mn_X9_init_10 h)
set_option maxHeartbeats 4000000 in
set_option maxRecDepth 100000 in
theorem w_X9_init_0 {r : Unit} {S' : sh} {D' : dt} {S0 : sh} {ad0 : Nat → Nat} (hC : Cx RX9 cX9_init 1 none p s m args meth c) (hin : meth.name = "<init>") (hR : 1 ≤ R.frames ∧ 20 ≤ R.locals) (ho : R.cells = sN S' - sN S0 ∧ R.slots = sZ S' - sZ S0) : ∀ (o0 a0 : Nat) (S : sh) (D : dt) (ad : Nat → Nat) (H : Heap) (locs : List Loc) (ls : Array Slot) (cells slots : Nat), Is S ad o0 a0 8 → Wd G cA S D ad A s H locs → Al S0 ad0 S ad cells slots → lv_has ls 1 [(0, .ref a0)] → f_X9_init o0 S D = some (r, S', D') → W p l e R s m args below meth c H locs cells slots (MQ below (Qa (fun _ => none) (fun ad' => (∀ k, k < sN S0 → ad' k = ad0 k) ∧ True) (fun ad' => wpost G cA S' D' ad' A) A) args s (sN S' - sN S0) (sZ S' - sZ S0) A) (F0 m 0 ls []) := by
  obtain ⟨hx, hb, -⟩ := id hC
  intro o0 a0 S D ad H locs ls cells slots hi0 hw hc hl h
  have hE : Ext S S' := mn_X9_init_0  h
  unfold f_X9_init at h
  refine lv_aload_n hx hb dX9_init_0 rfl (lv_at hl 0 rfl) ?_
  refine W.objInit hx hb hC.2.2.2.1 (hC.2.2.2.2.1 _ lk_1070) (hC.2.2.2.2.1 _ lk_133) (hC.2.2.2.2.1 _ cd_obj) rfl (by rw [hC.2.2.1]; exact hl.1) rfl dX9_init_1 (Nat.le_trans (by decide) hR.1) (Nat.le_trans (Nat.le_of_ble_eq_true rfl) hR.2) ?_
  refine W.eq (g2 := F0 m 4 ls []) rfl ?_
  refine lv_aload_n hx hb dX9_init_4 rfl (lv_at hl 0 rfl) ?_
  refine lv_sipush (v := 200) hx hb dX9_init_5 (by decide) ?_
  have hE444 := mn_X9_init_10 h
  refine r_newI hC hw lk_172 (by decide) (by decide) (by decide) (hc.room ho hE444).1 (hc.room ho hE444).2 dX9_init_8 (fun q442 H hw hi443 => ?_)
  have hi445 := Is.up hi0 (Ext.aS S 100 200 200) (up_lt (q := q442))
  have hc := hc.new 100 200 200 q442
  exact w_X9_init_10 hC hin hR ho o0 a0 o0 a0 (sN S) q442 _ _ _ _ _ _ _ _ hi445 hi445 hi443 hw hc (lv_sub hl [0] rfl) h --j446
set_option maxHeartbeats 4000000 in
set_option maxRecDepth 100000 in
theorem k_X9_init {l : Launch} {G : va_G} {cA : Nat → ClassId} {S S' : sh} {D D' : dt} {ad : Nat → Nat} (sz : Nat) {o0 a0 : Nat} {r : Unit} (hi0 : Is S ad o0 a0 8) (h : f_X9_init o0 S D = some (r, S', D')) : CoA l yX9_init (Cond.code yX9_init cX9_init 1 none :: tb0) 1 20 [.ref a0] G cA S D ad sz (fun _ => none) True S' D' := by
  refine Met.ofW (cc := cX9_init) (maxL := 1) (ret := none) (by decide) rfl ?_
  intro p e s m args below meth c s₁ B hml hv
  obtain ⟨rfl, hsz, hP, hK, hD0, hT, hX⟩ := hv
  subst hsz
  have hts := atoms_spec (ws := Cond.code yX9_init cX9_init 1 none :: tb0) B.pre
  have hC : Cx RX9 cX9_init 1 none p s m _ meth c := ⟨B.exec, B.bytes, hml, findClass_of_methodNamed B.named, fun w q => hts w (List.mem_cons_of_mem _ q), B.returns, B.notSynchronized⟩
  have hin : meth.name = "<init>" := (name_of_methodNamed B.named B.method).1
  have hw := Wd.entry hP hK hD0 hT hX
  have hl := lv_entry ([.ref a0]) (n := 1) (Nat.le_of_ble_eq_true rfl)
  rw [lg_entry_eq]
  exact w_X9_init_0 hC hin ⟨Nat.le_refl _, Nat.le_refl _⟩ ⟨rfl, rfl⟩ o0 a0 S D ad _ _ _ 0 0 hi0 hw (Al.rf S ad) hl h
set_option maxHeartbeats 4000000 in
set_option maxRecDepth 100000 in
theorem w_X9_in_0 {r : Int32} (hC : Cx RX9 cX9_in 6 (some .boolean) p s m args meth c) (hR : 0 ≤ R.frames ∧ 0 ≤ R.locals) : ∀ (x0 : Int64) (x2 : Int64) (x4 : Int64) (H : Heap) (locs : List Loc) (ls : Array Slot), Wd G cA S D ad A s H locs → lv_has ls 6 [(0, .long x0), (2, .long x2), (4, .long x4)] → f_X9_in x0 x2 x4 = some r → W p l e R s m args below meth c H locs 0 0 (MQ below (Qn (some (.int r)) True (wpost G cA S D ad A) A) args s 0 0 A) (F0 m 0 ls []) := by
  obtain ⟨hx, hb, -⟩ := id hC
  intro x0 x2 x4 H locs ls hw hl h
  unfold f_X9_in at h
  refine lv_lload_n hx hb dX9_in_0 rfl (lv_at hl 0 rfl) ?_
  refine lv_lload_n hx hb dX9_in_1 rfl (lv_at hl 1 rfl) ?_
  refine W.lcmp hx hb dX9_in_2 ?_
  refine lv_if_lt (tgt := 17) hx hb dX9_in_3 (by decide) (fun c3 => ?_) (fun c3 => ?_)
  · have h := i_yes c3 h
    refine lv_iconst (v := 0) hx hb dX9_in_17 (by decide) ?_
    cases h
    exact r_zret hC hw (Or.inl rfl) dX9_in_18
  · have h := i_no c3 h
    refine lv_lload_n hx hb dX9_in_6 rfl (lv_at hl 0 rfl) ?_
    refine lv_lload hx hb dX9_in_7 (lv_at hl 2 rfl) ?_
    refine W.lcmp hx hb dX9_in_9 ?_
    refine lv_if_gt (tgt := 17) hx hb dX9_in_10 (by decide) (fun c4 => ?_) (fun c4 => ?_)
    · have h := i_yes c4 h
      refine lv_iconst (v := 0) hx hb dX9_in_17 (by decide) ?_
      cases h
      exact r_zret hC hw (Or.inl rfl) dX9_in_18
    · have h := i_no c4 h
      refine lv_iconst (v := 1) hx hb dX9_in_13 (by decide) ?_
      refine lv_goto (tgt := 18) hx hb dX9_in_14 (by decide) ?_
      cases h
      exact r_zret hC hw (Or.inr rfl) dX9_in_18
set_option maxHeartbeats 4000000 in
set_option maxRecDepth 100000 in
theorem k_X9_in {l : Launch} {G : va_G} {cA : Nat → ClassId} {S : sh} {D : dt} {ad : Nat → Nat} (sz : Nat) {x0 : Int64} {x2 : Int64} {x4 : Int64} {r : Int32}  (h : f_X9_in x0 x2 x4 = some r) : Co l yX9_in (Cond.code yX9_in cX9_in 6 (some .boolean) :: tb0) 0 0 [.long x0, .long x2, .long x4] G cA S D ad sz (some (.int r)) True D := by
  refine Met.ofW (cc := cX9_in) (maxL := 6) (ret := (some .boolean)) (by decide) rfl ?_
  intro p e s m args below meth c s₁ B hml hv
  obtain ⟨rfl, hsz, hP, hK, hD0, hT, hX⟩ := hv
  subst hsz
  have hts := atoms_spec (ws := Cond.code yX9_in cX9_in 6 (some .boolean) :: tb0) B.pre
  have hC : Cx RX9 cX9_in 6 (some .boolean) p s m _ meth c := ⟨B.exec, B.bytes, hml, findClass_of_methodNamed B.named, fun w q => hts w (List.mem_cons_of_mem _ q), B.returns, B.notSynchronized⟩
  have hw := Wd.entry hP hK hD0 hT hX
  have hl := lv_entry ([.long x0, .long x2, .long x4]) (n := 6) (Nat.le_of_ble_eq_true rfl)
  rw [lg_entry_eq]
  exact w_X9_in_0 hC ⟨Nat.le_refl _, Nat.le_refl _⟩ x0 x2 x4 _ _ _ hw hl h
set_option maxHeartbeats 4000000 in
set_option maxRecDepth 100000 in
theorem w_X9_isBelow_0 {r : Int32} (hC : Cx RX9 cX9_isBelow 4 (some .boolean) p s m args meth c) (hR : 0 ≤ R.frames ∧ 0 ≤ R.locals) : ∀ (x0 : Int64) (x2 : Int64) (H : Heap) (locs : List Loc) (ls : Array Slot), Wd G cA S D ad A s H locs → lv_has ls 4 [(0, .long x0), (2, .long x2)] → f_X9_isBelow x0 x2 = some r → W p l e R s m args below meth c H locs 0 0 (MQ below (Qn (some (.int r)) True (wpost G cA S D ad A) A) args s 0 0 A) (F0 m 0 ls []) := by
  obtain ⟨hx, hb, -⟩ := id hC
  intro x0 x2 H locs ls hw hl h
  unfold f_X9_isBelow at h
  refine lv_lload_n hx hb dX9_isBelow_0 rfl (lv_at hl 0 rfl) ?_
  refine lv_ldc2 (v := (-9223372036854775808)) hx hb hC.2.2.2.1 (hC.2.2.2.2.1 _ lk_1361) dX9_isBelow_1 ?_
  refine lv_lxor hx hb dX9_isBelow_4 ?_
  refine lv_lload_n hx hb dX9_isBelow_5 rfl (lv_at hl 1 rfl) ?_
  refine lv_ldc2 (v := (-9223372036854775808)) hx hb hC.2.2.2.1 (hC.2.2.2.2.1 _ lk_1361) dX9_isBelow_6 ?_
  refine lv_lxor hx hb dX9_isBelow_9 ?_
  refine W.lcmp hx hb dX9_isBelow_10 ?_
  refine lv_if_ge (tgt := 18) hx hb dX9_isBelow_11 (by decide) (fun c2 => ?_) (fun c2 => ?_)
  · have h := i_yes c2 h
    refine lv_iconst (v := 0) hx hb dX9_isBelow_18 (by decide) ?_
    cases h
    exact r_zret hC hw (Or.inl rfl) dX9_isBelow_19
  · have h := i_no c2 h
    refine lv_iconst (v := 1) hx hb dX9_isBelow_14 (by decide) ?_
    refine lv_goto (tgt := 19) hx hb dX9_isBelow_15 (by decide) ?_
    cases h
    exact r_zret hC hw (Or.inr rfl) dX9_isBelow_19
set_option maxHeartbeats 4000000 in
set_option maxRecDepth 100000 in
theorem k_X9_isBelow {l : Launch} {G : va_G} {cA : Nat → ClassId} {S : sh} {D : dt} {ad : Nat → Nat} (sz : Nat) {x0 : Int64} {x2 : Int64} {r : Int32}  (h : f_X9_isBelow x0 x2 = some r) : Co l yX9_isBelow (Cond.code yX9_isBelow cX9_isBelow 4 (some .boolean) :: tb0) 0 0 [.long x0, .long x2] G cA S D ad sz (some (.int r)) True D := by
  refine Met.ofW (cc := cX9_isBelow) (maxL := 4) (ret := (some .boolean)) (by decide) rfl ?_
  intro p e s m args below meth c s₁ B hml hv
  obtain ⟨rfl, hsz, hP, hK, hD0, hT, hX⟩ := hv
  subst hsz
  have hts := atoms_spec (ws := Cond.code yX9_isBelow cX9_isBelow 4 (some .boolean) :: tb0) B.pre
  have hC : Cx RX9 cX9_isBelow 4 (some .boolean) p s m _ meth c := ⟨B.exec, B.bytes, hml, findClass_of_methodNamed B.named, fun w q => hts w (List.mem_cons_of_mem _ q), B.returns, B.notSynchronized⟩
  have hw := Wd.entry hP hK hD0 hT hX
  have hl := lv_entry ([.long x0, .long x2]) (n := 4) (Nat.le_of_ble_eq_true rfl)
  rw [lg_entry_eq]
  exact w_X9_isBelow_0 hC ⟨Nat.le_refl _, Nat.le_refl _⟩ x0 x2 _ _ _ hw hl h
set_option maxHeartbeats 4000000 in
set_option maxRecDepth 100000 in
theorem w_X9_isSlot_0 {r : Int32} (hC : Cx RX9 cX9_isSlot 3 (some .boolean) p s m args meth c) (hR : 1 ≤ R.frames ∧ 25 ≤ R.locals) : ∀ (x0 : Int32) (x1 : Int32) (x2 : Int32) (H : Heap) (locs : List Loc) (ls : Array Slot), Wd G cA S D ad A s H locs → lv_has ls 3 [(0, .int x0), (1, .int x1), (2, .int x2)] → f_X9_isSlot x0 x1 x2 = some r → W p l e R s m args below meth c H locs 0 0 (MQ below (Qn (some (.int r)) True (wpost G cA S D ad A) A) args s 0 0 A) (F0 m 0 ls []) := by
  obtain ⟨hx, hb, -⟩ := id hC
  intro x0 x1 x2 H locs ls hw hl h
  unfold f_X9_isSlot at h
  refine lv_iload_n hx hb dX9_isSlot_0 rfl (lv_at hl 0 rfl) ?_
  refine lv_i2l (v := x0.toInt64) hx hb dX9_isSlot_1 rfl ?_
  refine lv_lconst (v := 0) hx hb dX9_isSlot_2 (by decide) ?_
  refine lv_ldc2 (v := 255) hx hb hC.2.2.2.1 (hC.2.2.2.2.1 _ lk_1242) dX9_isSlot_3 ?_
  obtain ⟨r11, hq10, h⟩ := pq_i h
  refine r_cS (st' := [.int r11]) [.long x0.toInt64, .long (0 : Int64), .long (255 : Int64)] [] hC hw (k_X9_in _ hq10) mk_X9_in lk_1243 ⟨Nat.le_trans (by decide) hR.1, Nat.le_trans (by decide) hR.2⟩ ⟨Nat.zero_le _, Nat.zero_le _⟩ rfl hl.1 rfl rfl (Nat.le_of_ble_eq_true rfl) dX9_isSlot_6 (fun hP H locs hw => ?_)
  refine lv_if_eq (tgt := 42) hx hb dX9_isSlot_9 (by decide) (fun c12 => ?_) (fun c12 => ?_)
  · have h := i_yes c12 h
    refine lv_iconst (v := 0) hx hb dX9_isSlot_42 (by decide) ?_
    cases h
    exact r_zret hC hw (Or.inl rfl) dX9_isSlot_43
  · have h := i_no c12 h
    refine lv_iload_n hx hb dX9_isSlot_12 rfl (lv_at hl 1 rfl) ?_
    refine lv_i2l (v := x1.toInt64) hx hb dX9_isSlot_13 rfl ?_
    refine lv_lconst (v := 0) hx hb dX9_isSlot_14 (by decide) ?_
    refine lv_ldc2 (v := 255) hx hb hC.2.2.2.1 (hC.2.2.2.2.1 _ lk_1242) dX9_isSlot_15 ?_
    obtain ⟨r14, hq13, h⟩ := pq_i h
    refine r_cS (st' := [.int r14]) [.long x1.toInt64, .long (0 : Int64), .long (255 : Int64)] [] hC hw (k_X9_in _ hq13) mk_X9_in lk_1243 ⟨Nat.le_trans (by decide) hR.1, Nat.le_trans (by decide) hR.2⟩ ⟨Nat.zero_le _, Nat.zero_le _⟩ rfl hl.1 rfl rfl (Nat.le_of_ble_eq_true rfl) dX9_isSlot_18 (fun hP H locs hw => ?_)
    refine lv_if_eq (tgt := 42) hx hb dX9_isSlot_21 (by decide) (fun c15 => ?_) (fun c15 => ?_)
    · have h := i_yes c15 h
      refine lv_iconst (v := 0) hx hb dX9_isSlot_42 (by decide) ?_
      cases h
      exact r_zret hC hw (Or.inl rfl) dX9_isSlot_43
    · have h := i_no c15 h
      refine lv_iload_n hx hb dX9_isSlot_24 rfl (lv_at hl 2 rfl) ?_
      refine lv_i2l (v := x2.toInt64) hx hb dX9_isSlot_25 rfl ?_
      refine lv_ldc2 (v := (-32768)) hx hb hC.2.2.2.1 (hC.2.2.2.2.1 _ lk_1246) dX9_isSlot_26 ?_
      refine lv_ldc2 (v := 32767) hx hb hC.2.2.2.1 (hC.2.2.2.2.1 _ lk_1247) dX9_isSlot_29 ?_
      obtain ⟨r17, hq16, h⟩ := pq_i h
      refine r_cS (st' := [.int r17]) [.long x2.toInt64, .long (-32768 : Int64), .long (32767 : Int64)] [] hC hw (k_X9_in _ hq16) mk_X9_in lk_1243 ⟨Nat.le_trans (by decide) hR.1, Nat.le_trans (by decide) hR.2⟩ ⟨Nat.zero_le _, Nat.zero_le _⟩ rfl hl.1 rfl rfl (Nat.le_of_ble_eq_true rfl) dX9_isSlot_32 (fun hP H locs hw => ?_)
      refine lv_if_eq (tgt := 42) hx hb dX9_isSlot_35 (by decide) (fun c18 => ?_) (fun c18 => ?_)
      · have h := i_yes c18 h
        refine lv_iconst (v := 0) hx hb dX9_isSlot_42 (by decide) ?_
        cases h
        exact r_zret hC hw (Or.inl rfl) dX9_isSlot_43
      · have h := i_no c18 h
        refine lv_iconst (v := 1) hx hb dX9_isSlot_38 (by decide) ?_
        refine lv_goto (tgt := 43) hx hb dX9_isSlot_39 (by decide) ?_
        cases h
        exact r_zret hC hw (Or.inr rfl) dX9_isSlot_43
set_option maxHeartbeats 4000000 in
set_option maxRecDepth 100000 in
theorem k_X9_isSlot {l : Launch} {G : va_G} {cA : Nat → ClassId} {S : sh} {D : dt} {ad : Nat → Nat} (sz : Nat) {x0 : Int32} {x1 : Int32} {x2 : Int32} {r : Int32}  (h : f_X9_isSlot x0 x1 x2 = some r) : Co l yX9_isSlot (Cond.code yX9_isSlot cX9_isSlot 3 (some .boolean) :: tb0) 1 25 [.int x0, .int x1, .int x2] G cA S D ad sz (some (.int r)) True D := by
  refine Met.ofW (cc := cX9_isSlot) (maxL := 3) (ret := (some .boolean)) (by decide) rfl ?_
  intro p e s m args below meth c s₁ B hml hv
  obtain ⟨rfl, hsz, hP, hK, hD0, hT, hX⟩ := hv
  subst hsz
  have hts := atoms_spec (ws := Cond.code yX9_isSlot cX9_isSlot 3 (some .boolean) :: tb0) B.pre
  have hC : Cx RX9 cX9_isSlot 3 (some .boolean) p s m _ meth c := ⟨B.exec, B.bytes, hml, findClass_of_methodNamed B.named, fun w q => hts w (List.mem_cons_of_mem _ q), B.returns, B.notSynchronized⟩
  have hw := Wd.entry hP hK hD0 hT hX
  have hl := lv_entry ([.int x0, .int x1, .int x2]) (n := 3) (Nat.le_of_ble_eq_true rfl)
  rw [lg_entry_eq]
  exact w_X9_isSlot_0 hC ⟨Nat.le_refl _, Nat.le_refl _⟩ x0 x1 x2 _ _ _ hw hl h
set_option maxHeartbeats 4000000 in
set_option maxRecDepth 100000 in
theorem w_X9_set_0 {r : Unit} {D' : dt} (hC : Cx RX9 cX9_set 6 none p s m args meth c) (hR : 0 ≤ R.frames ∧ 0 ≤ R.locals) : ∀ (o0 a0 : Nat) (x1 : Int32) (x2 : Int32) (x3 : Int32) (x4 : Int32) (x5 : Int32) (D : dt) (H : Heap) (locs : List Loc) (ls : Array Slot), Is S ad o0 a0 8 → Wd G cA S D ad A s H locs → lv_has ls 6 [(0, .ref a0), (1, .int x1), (2, .int x2), (3, .int x3), (4, .int x4), (5, .int x5)] → f_X9_set S o0 x1 x2 x3 x4 x5 D = some (r, D') → W p l e R s m args below meth c H locs 0 0 (MQ below (Qn none True (wpost G cA S D' ad A) A) args s 0 0 A) (F0 m 0 ls []) := by
  obtain ⟨hx, hb, -⟩ := id hC
  intro o0 a0 x1 x2 x3 x4 x5 D H locs ls hi0 hw hl h
  unfold f_X9_set at h
  refine lv_aload_n hx hb dX9_set_0 rfl (lv_at hl 0 rfl) ?_
  obtain ⟨o32, ho35, h⟩ := rq_i h
  refine r_getR hC hw kc_8 hi0 1 rfl lk_1073 dX9_set_1 rfl ho35 (fun a33 hi34 => ?_)
  refine lv_iload_n hx hb dX9_set_4 rfl (lv_at hl 1 rfl) ?_
  refine lv_iload_n hx hb dX9_set_5 rfl (lv_at hl 2 rfl) ?_
  obtain ⟨hn36, h⟩ := ix_i h
  refine r_ias hC hw hi34 hn36 dX9_set_6 (fun D37 eD37 H locs hw => ?_)
  have h := nm_i h D37 eD37
  refine lv_aload_n hx hb dX9_set_7 rfl (lv_at hl 0 rfl) ?_
  obtain ⟨o38, ho41, h⟩ := rq_i h
  refine r_getR hC hw kc_8 hi0 2 rfl lk_1074 dX9_set_8 rfl ho41 (fun a39 hi40 => ?_)
  refine lv_iload_n hx hb dX9_set_11 rfl (lv_at hl 1 rfl) ?_
  refine lv_iload_n hx hb dX9_set_12 rfl (lv_at hl 3 rfl) ?_
  refine lv_bipush (v := 15) hx hb dX9_set_13 (by decide) ?_
  refine lv_iand hx hb dX9_set_15 ?_
  obtain ⟨hn42, h⟩ := ix_i h
  refine r_ias hC hw hi40 hn42 dX9_set_16 (fun D43 eD43 H locs hw => ?_)
  have h := nm_i h D43 eD43
  refine lv_aload_n hx hb dX9_set_17 rfl (lv_at hl 0 rfl) ?_
  obtain ⟨o44, ho47, h⟩ := rq_i h
  refine r_getR hC hw kc_8 hi0 3 rfl lk_1075 dX9_set_18 rfl ho47 (fun a45 hi46 => ?_)
  refine lv_iload_n hx hb dX9_set_21 rfl (lv_at hl 1 rfl) ?_
  refine lv_iload_n hx hb dX9_set_22 rfl (lv_at hl 3 rfl) ?_
  refine lv_iconst (v := 4) hx hb dX9_set_23 (by decide) ?_
  refine lv_ishr hx hb dX9_set_24 ?_
  obtain ⟨hn48, h⟩ := ix_i h
  refine r_ias hC hw hi46 hn48 dX9_set_25 (fun D49 eD49 H locs hw => ?_)
  have h := nm_i h D49 eD49
  refine lv_aload_n hx hb dX9_set_26 rfl (lv_at hl 0 rfl) ?_
  obtain ⟨o50, ho53, h⟩ := rq_i h
  refine r_getR hC hw kc_8 hi0 4 rfl lk_1076 dX9_set_27 rfl ho53 (fun a51 hi52 => ?_)
  refine lv_iload_n hx hb dX9_set_30 rfl (lv_at hl 1 rfl) ?_
  refine lv_iload hx hb dX9_set_31 (lv_at hl 4 rfl) ?_
  obtain ⟨hn54, h⟩ := ix_i h
  refine r_ias hC hw hi52 hn54 dX9_set_33 (fun D55 eD55 H locs hw => ?_)
  have h := nm_i h D55 eD55
  refine lv_aload_n hx hb dX9_set_34 rfl (lv_at hl 0 rfl) ?_
  obtain ⟨o56, ho59, h⟩ := rq_i h
  refine r_getR hC hw kc_8 hi0 5 rfl lk_1077 dX9_set_35 rfl ho59 (fun a57 hi58 => ?_)
  refine lv_iload_n hx hb dX9_set_38 rfl (lv_at hl 1 rfl) ?_
  refine lv_iload hx hb dX9_set_39 (lv_at hl 5 rfl) ?_
  obtain ⟨hn60, h⟩ := ix_i h
  refine r_ias hC hw hi58 hn60 dX9_set_41 (fun D61 eD61 H locs hw => ?_)
  have h := nm_i h D61 eD61
  refine lv_aload_n hx hb dX9_set_42 rfl (lv_at hl 0 rfl) ?_
  refine lv_iconst (v := 0) hx hb dX9_set_43 (by decide) ?_
  refine r_pI hC hw kc_8 hi0 18 rfl lk_1090 rfl rfl rfl dX9_set_44 (fun D62 eD62 H locs hw => ?_)
  have h := nm_i h D62 eD62
  cases h
  exact r_vret hC hw dX9_set_47
set_option maxHeartbeats 4000000 in
set_option maxRecDepth 100000 in
theorem k_X9_set {l : Launch} {G : va_G} {cA : Nat → ClassId} {S : sh} {D D' : dt} {ad : Nat → Nat} (sz : Nat) {o0 a0 : Nat} {x1 : Int32} {x2 : Int32} {x3 : Int32} {x4 : Int32} {x5 : Int32} {r : Unit} (hi0 : Is S ad o0 a0 8) (h : f_X9_set S o0 x1 x2 x3 x4 x5 D = some (r, D')) : Co l yX9_set (Cond.code yX9_set cX9_set 6 none :: tb0) 0 0 [.ref a0, .int x1, .int x2, .int x3, .int x4, .int x5] G cA S D ad sz none True D' := by
  refine Met.ofW (cc := cX9_set) (maxL := 6) (ret := none) (by decide) rfl ?_
  intro p e s m args below meth c s₁ B hml hv
  obtain ⟨rfl, hsz, hP, hK, hD0, hT, hX⟩ := hv
  subst hsz
  have hts := atoms_spec (ws := Cond.code yX9_set cX9_set 6 none :: tb0) B.pre
  have hC : Cx RX9 cX9_set 6 none p s m _ meth c := ⟨B.exec, B.bytes, hml, findClass_of_methodNamed B.named, fun w q => hts w (List.mem_cons_of_mem _ q), B.returns, B.notSynchronized⟩
  have hw := Wd.entry hP hK hD0 hT hX
  have hl := lv_entry ([.ref a0, .int x1, .int x2, .int x3, .int x4, .int x5]) (n := 6) (Nat.le_of_ble_eq_true rfl)
  rw [lg_entry_eq]
  exact w_X9_set_0 hC ⟨Nat.le_refl _, Nat.le_refl _⟩ o0 a0 x1 x2 x3 x4 x5 D _ _ _ hi0 hw hl h
set_option maxHeartbeats 4000000 in
set_option maxRecDepth 100000 in
theorem w_X9_feed_0 {r : Int32} {D' : dt} (hC : Cx RX9 cX9_feed 5 (some .int) p s m args meth c) (hR : 2 ≤ R.frames ∧ 47 ≤ R.locals) : ∀ (o0 a0 : Nat) (x1 : Int32) (x2 : Int32) (x3 : Int32) (x4 : Int32) (D : dt) (H : Heap) (locs : List Loc) (ls : Array Slot), Is S ad o0 a0 8 → Wd G cA S D ad A s H locs → lv_has ls 5 [(0, .ref a0), (1, .int x1), (2, .int x2), (3, .int x3), (4, .int x4)] → f_X9_feed S o0 x1 x2 x3 x4 D = some (r, D') → W p l e R s m args below meth c H locs 0 0 (MQ below (Qn (some (.int r)) True (wpost G cA S D' ad A) A) args s 0 0 A) (F0 m 0 ls []) := by
  obtain ⟨hx, hb, -⟩ := id hC
  intro o0 a0 x1 x2 x3 x4 D H locs ls hi0 hw hl h
  unfold f_X9_feed at h
  refine lv_iload_n hx hb dX9_feed_0 rfl (lv_at hl 1 rfl) ?_
  refine lv_iload_n hx hb dX9_feed_1 rfl (lv_at hl 2 rfl) ?_
  refine lv_iload_n hx hb dX9_feed_2 rfl (lv_at hl 3 rfl) ?_
  obtain ⟨r9, hq8, h⟩ := pq_i h
  refine r_cS (st' := [.int r9]) [.int x1, .int x2, .int x3] [] hC hw (k_X9_isSlot _ hq8) mk_X9_isSlot lk_1239 ⟨Nat.le_trans (by decide) hR.1, Nat.le_trans (by decide) hR.2⟩ ⟨Nat.zero_le _, Nat.zero_le _⟩ rfl hl.1 rfl rfl (Nat.le_of_ble_eq_true rfl) dX9_feed_3 (fun hP H locs hw => ?_)
  refine lv_if_ne (tgt := 12) hx hb dX9_feed_6 (by decide) (fun c10 => ?_) (fun c10 => ?_)
  · have h := i_no c10 h
    refine lv_aload_n hx hb dX9_feed_12 rfl (lv_at hl 0 rfl) ?_
    refine r_gI hC hw kc_8 hi0 0 rfl lk_1072 dX9_feed_13 ?_
    refine lv_sipush (v := 200) hx hb dX9_feed_16 (by decide) ?_
    refine lv_icmp_ne (tgt := 25) hx hb dX9_feed_19 (by decide) (fun c11 => ?_) (fun c11 => ?_)
    · have h := i_no c11 h
      refine lv_aload_n hx hb dX9_feed_25 rfl (lv_at hl 0 rfl) ?_
      refine lv_aload_n hx hb dX9_feed_26 rfl (lv_at hl 0 rfl) ?_
      refine r_gI hC hw kc_8 hi0 0 rfl lk_1072 dX9_feed_27 ?_
      refine lv_iload_n hx hb dX9_feed_30 rfl (lv_at hl 1 rfl) ?_
      refine lv_iload_n hx hb dX9_feed_31 rfl (lv_at hl 2 rfl) ?_
      refine lv_iload_n hx hb dX9_feed_32 rfl (lv_at hl 3 rfl) ?_
      refine lv_iload hx hb dX9_feed_33 (lv_at hl 4 rfl) ?_
      obtain ⟨_, D13, hq12, h⟩ := cq_i h
      refine r_cV (st' := []) [.int (gI D o0 0), .int x1, .int x2, .int x3, .int x4] [] hC hw kc_8 hi0 (k_X9_set _ hi0 hq12) mk_X9_set lk_1248 ⟨Nat.le_trans (by decide) hR.1, Nat.le_trans (by decide) hR.2⟩ ⟨Nat.zero_le _, Nat.zero_le _⟩ rfl hl.1 rfl rfl (Nat.le_of_ble_eq_true rfl) dX9_feed_35 (fun hP H locs hw => ?_)
      refine lv_aload_n hx hb dX9_feed_38 rfl (lv_at hl 0 rfl) ?_
      refine lv_dup hx hb dX9_feed_39 rfl ?_
      refine r_gI hC hw kc_8 hi0 0 rfl lk_1072 dX9_feed_40 ?_
      refine lv_iconst (v := 1) hx hb dX9_feed_43 (by decide) ?_
      refine lv_iadd hx hb dX9_feed_44 ?_
      refine r_pI hC hw kc_8 hi0 0 rfl lk_1072 rfl rfl rfl dX9_feed_45 (fun D14 eD14 H locs hw => ?_)
      have h := nm_i h D14 eD14
      refine lv_aload_n hx hb dX9_feed_48 rfl (lv_at hl 0 rfl) ?_
      refine r_gI hC hw kc_8 hi0 0 rfl lk_1072 dX9_feed_49 ?_
      refine lv_iconst (v := 1) hx hb dX9_feed_52 (by decide) ?_
      refine lv_isub hx hb dX9_feed_53 ?_
      cases h
      exact r_iret hC hw dX9_feed_54
    · have h := i_yes c11 h
      refine lv_bipush (v := (-4)) hx hb dX9_feed_22 (by decide) ?_
      cases h
      exact r_iret hC hw dX9_feed_24
  · have h := i_yes c10 h
    refine lv_bipush (v := (-2)) hx hb dX9_feed_9 (by decide) ?_
    cases h
    exact r_iret hC hw dX9_feed_11
set_option maxHeartbeats 4000000 in
set_option maxRecDepth 100000 in
theorem k_X9_feed {l : Launch} {G : va_G} {cA : Nat → ClassId} {S : sh} {D D' : dt} {ad : Nat → Nat} (sz : Nat) {o0 a0 : Nat} {x1 : Int32} {x2 : Int32} {x3 : Int32} {x4 : Int32} {r : Int32} (hi0 : Is S ad o0 a0 8) (h : f_X9_feed S o0 x1 x2 x3 x4 D = some (r, D')) : Co l yX9_feed (Cond.code yX9_feed cX9_feed 5 (some .int) :: tb0) 2 47 [.ref a0, .int x1, .int x2, .int x3, .int x4] G cA S D ad sz (some (.int r)) True D' := by
  refine Met.ofW (cc := cX9_feed) (maxL := 5) (ret := (some .int)) (by decide) rfl ?_
  intro p e s m args below meth c s₁ B hml hv
  obtain ⟨rfl, hsz, hP, hK, hD0, hT, hX⟩ := hv
  subst hsz
  have hts := atoms_spec (ws := Cond.code yX9_feed cX9_feed 5 (some .int) :: tb0) B.pre
  have hC : Cx RX9 cX9_feed 5 (some .int) p s m _ meth c := ⟨B.exec, B.bytes, hml, findClass_of_methodNamed B.named, fun w q => hts w (List.mem_cons_of_mem _ q), B.returns, B.notSynchronized⟩
  have hw := Wd.entry hP hK hD0 hT hX
  have hl := lv_entry ([.ref a0, .int x1, .int x2, .int x3, .int x4]) (n := 5) (Nat.le_of_ble_eq_true rfl)
  rw [lg_entry_eq]
  exact w_X9_feed_0 hC ⟨Nat.le_refl _, Nat.le_refl _⟩ o0 a0 x1 x2 x3 x4 D _ _ _ hi0 hw hl h
set_option maxHeartbeats 4000000 in
set_option maxRecDepth 100000 in
theorem w_X9_alter_0 {r : Int32} {D' : dt} (hC : Cx RX9 cX9_alter 6 (some .int) p s m args meth c) (hR : 2 ≤ R.frames ∧ 47 ≤ R.locals) : ∀ (o0 a0 : Nat) (x1 : Int32) (x2 : Int32) (x3 : Int32) (x4 : Int32) (x5 : Int32) (D : dt) (H : Heap) (locs : List Loc) (ls : Array Slot), Is S ad o0 a0 8 → Wd G cA S D ad A s H locs → lv_has ls 6 [(0, .ref a0), (1, .int x1), (2, .int x2), (3, .int x3), (4, .int x4), (5, .int x5)] → f_X9_alter S o0 x1 x2 x3 x4 x5 D = some (r, D') → W p l e R s m args below meth c H locs 0 0 (MQ below (Qn (some (.int r)) True (wpost G cA S D' ad A) A) args s 0 0 A) (F0 m 0 ls []) := by
  obtain ⟨hx, hb, -⟩ := id hC
  intro o0 a0 x1 x2 x3 x4 x5 D H locs ls hi0 hw hl h
  unfold f_X9_alter at h
  refine lv_iload_n hx hb dX9_alter_0 rfl (lv_at hl 1 rfl) ?_
  refine lv_i2l (v := x1.toInt64) hx hb dX9_alter_1 rfl ?_
  refine lv_lconst (v := 0) hx hb dX9_alter_2 (by decide) ?_
  refine lv_aload_n hx hb dX9_alter_3 rfl (lv_at hl 0 rfl) ?_
  refine r_gI hC hw kc_8 hi0 0 rfl lk_1072 dX9_alter_4 ?_
  refine lv_iconst (v := 1) hx hb dX9_alter_7 (by decide) ?_
  refine lv_isub hx hb dX9_alter_8 ?_
  refine lv_i2l (v := ((gI D o0 0) - (1 : Int32)).toInt64) hx hb dX9_alter_9 rfl ?_
  obtain ⟨r10, hq9, h⟩ := pq_i h
  refine r_cS (st' := [.int r10]) [.long x1.toInt64, .long (0 : Int64), .long (((gI D o0 0) - (1 : Int32)).toInt64)] [] hC hw (k_X9_in _ hq9) mk_X9_in lk_1243 ⟨Nat.le_trans (by decide) hR.1, Nat.le_trans (by decide) hR.2⟩ ⟨Nat.zero_le _, Nat.zero_le _⟩ rfl hl.1 rfl rfl (Nat.le_of_ble_eq_true rfl) dX9_alter_10 (fun hP H locs hw => ?_)
  refine lv_if_ne (tgt := 18) hx hb dX9_alter_13 (by decide) (fun c11 => ?_) (fun c11 => ?_)
  · have h := i_no c11 h
    refine lv_iload_n hx hb dX9_alter_18 rfl (lv_at hl 2 rfl) ?_
    refine lv_iload_n hx hb dX9_alter_19 rfl (lv_at hl 3 rfl) ?_
    refine lv_iload hx hb dX9_alter_20 (lv_at hl 4 rfl) ?_
    obtain ⟨r13, hq12, h⟩ := pq_i h
    refine r_cS (st' := [.int r13]) [.int x2, .int x3, .int x4] [] hC hw (k_X9_isSlot _ hq12) mk_X9_isSlot lk_1239 ⟨Nat.le_trans (by decide) hR.1, Nat.le_trans (by decide) hR.2⟩ ⟨Nat.zero_le _, Nat.zero_le _⟩ rfl hl.1 rfl rfl (Nat.le_of_ble_eq_true rfl) dX9_alter_22 (fun hP H locs hw => ?_)
    refine lv_if_ne (tgt := 31) hx hb dX9_alter_25 (by decide) (fun c14 => ?_) (fun c14 => ?_)
    · have h := i_no c14 h
      refine lv_aload_n hx hb dX9_alter_31 rfl (lv_at hl 0 rfl) ?_
      refine lv_iload_n hx hb dX9_alter_32 rfl (lv_at hl 1 rfl) ?_
      refine lv_iload_n hx hb dX9_alter_33 rfl (lv_at hl 2 rfl) ?_
      refine lv_iload_n hx hb dX9_alter_34 rfl (lv_at hl 3 rfl) ?_
      refine lv_iload hx hb dX9_alter_35 (lv_at hl 4 rfl) ?_
      refine lv_iload hx hb dX9_alter_37 (lv_at hl 5 rfl) ?_
      obtain ⟨_, D16, hq15, h⟩ := cq_i h
      refine r_cV (st' := []) [.int x1, .int x2, .int x3, .int x4, .int x5] [] hC hw kc_8 hi0 (k_X9_set _ hi0 hq15) mk_X9_set lk_1248 ⟨Nat.le_trans (by decide) hR.1, Nat.le_trans (by decide) hR.2⟩ ⟨Nat.zero_le _, Nat.zero_le _⟩ rfl hl.1 rfl rfl (Nat.le_of_ble_eq_true rfl) dX9_alter_39 (fun hP H locs hw => ?_)
      refine lv_iconst (v := 1) hx hb dX9_alter_42 (by decide) ?_
      cases h
      exact r_iret hC hw dX9_alter_43
    · have h := i_yes c14 h
      refine lv_bipush (v := (-2)) hx hb dX9_alter_28 (by decide) ?_
      cases h
      exact r_iret hC hw dX9_alter_30
  · have h := i_yes c11 h
    refine lv_iconst (v := (-1)) hx hb dX9_alter_16 (by decide) ?_
    cases h
    exact r_iret hC hw dX9_alter_17
set_option maxHeartbeats 4000000 in
set_option maxRecDepth 100000 in
theorem k_X9_alter {l : Launch} {G : va_G} {cA : Nat → ClassId} {S : sh} {D D' : dt} {ad : Nat → Nat} (sz : Nat) {o0 a0 : Nat} {x1 : Int32} {x2 : Int32} {x3 : Int32} {x4 : Int32} {x5 : Int32} {r : Int32} (hi0 : Is S ad o0 a0 8) (h : f_X9_alter S o0 x1 x2 x3 x4 x5 D = some (r, D')) : Co l yX9_alter (Cond.code yX9_alter cX9_alter 6 (some .int) :: tb0) 2 47 [.ref a0, .int x1, .int x2, .int x3, .int x4, .int x5] G cA S D ad sz (some (.int r)) True D' := by
  refine Met.ofW (cc := cX9_alter) (maxL := 6) (ret := (some .int)) (by decide) rfl ?_
  intro p e s m args below meth c s₁ B hml hv
  obtain ⟨rfl, hsz, hP, hK, hD0, hT, hX⟩ := hv
  subst hsz
  have hts := atoms_spec (ws := Cond.code yX9_alter cX9_alter 6 (some .int) :: tb0) B.pre
  have hC : Cx RX9 cX9_alter 6 (some .int) p s m _ meth c := ⟨B.exec, B.bytes, hml, findClass_of_methodNamed B.named, fun w q => hts w (List.mem_cons_of_mem _ q), B.returns, B.notSynchronized⟩
  have hw := Wd.entry hP hK hD0 hT hX
  have hl := lv_entry ([.ref a0, .int x1, .int x2, .int x3, .int x4, .int x5]) (n := 6) (Nat.le_of_ble_eq_true rfl)
  rw [lg_entry_eq]
  exact w_X9_alter_0 hC ⟨Nat.le_refl _, Nat.le_refl _⟩ o0 a0 x1 x2 x3 x4 x5 D _ _ _ hi0 hw hl h
set_option maxHeartbeats 4000000 in
set_option maxRecDepth 100000 in
theorem w_X9_cut_0 {r : Int32} {D' : dt} (hC : Cx RX9 cX9_cut 3 (some .int) p s m args meth c) (hR : 1 ≤ R.frames ∧ 25 ≤ R.locals) : ∀ (o0 a0 : Nat) (x1 : Int32) (D : dt) (H : Heap) (locs : List Loc) (ls : Array Slot), Is S ad o0 a0 8 → Wd G cA S D ad A s H locs → lv_has ls 3 [(0, .ref a0), (1, .int x1)] → f_X9_cut S o0 x1 D = some (r, D') → W p l e R s m args below meth c H locs 0 0 (MQ below (Qn (some (.int r)) True (wpost G cA S D' ad A) A) args s 0 0 A) (F0 m 0 ls []) := by
  obtain ⟨hx, hb, -⟩ := id hC
  intro o0 a0 x1 D H locs ls hi0 hw hl h
  unfold f_X9_cut at h
  refine lv_iload_n hx hb dX9_cut_0 rfl (lv_at hl 1 rfl) ?_
  refine lv_i2l (v := x1.toInt64) hx hb dX9_cut_1 rfl ?_
  refine lv_lconst (v := 0) hx hb dX9_cut_2 (by decide) ?_
  refine lv_aload_n hx hb dX9_cut_3 rfl (lv_at hl 0 rfl) ?_
  refine r_gI hC hw kc_8 hi0 0 rfl lk_1072 dX9_cut_4 ?_
  refine lv_i2l (v := (gI D o0 0).toInt64) hx hb dX9_cut_7 rfl ?_
  obtain ⟨r8, hq7, h⟩ := pq_i h
  refine r_cS (st' := [.int r8]) [.long x1.toInt64, .long (0 : Int64), .long ((gI D o0 0).toInt64)] [] hC hw (k_X9_in _ hq7) mk_X9_in lk_1243 ⟨Nat.le_trans (by decide) hR.1, Nat.le_trans (by decide) hR.2⟩ ⟨Nat.zero_le _, Nat.zero_le _⟩ rfl hl.1 rfl rfl (Nat.le_of_ble_eq_true rfl) dX9_cut_8 (fun hP H locs hw => ?_)
  refine lv_if_ne (tgt := 17) hx hb dX9_cut_11 (by decide) (fun c9 => ?_) (fun c9 => ?_)
  · have h := i_no c9 h
    refine lv_aload_n hx hb dX9_cut_17 rfl (lv_at hl 0 rfl) ?_
    refine r_gI hC hw kc_8 hi0 0 rfl lk_1072 dX9_cut_18 ?_
    refine lv_topi (fun y10 ey10 => ?_)
    have h := nm_i h y10 ey10
    refine lv_istore_n (lv' := [(2, .int y10), (0, .ref a0), (1, .int x1)]) hx hb dX9_cut_21 rfl hl (by decide) rfl (fun ls hl => ?_)
    refine lv_aload_n hx hb dX9_cut_22 rfl (lv_at hl 1 rfl) ?_
    refine lv_iload_n hx hb dX9_cut_23 rfl (lv_at hl 2 rfl) ?_
    refine r_pI hC hw kc_8 hi0 0 rfl lk_1072 rfl rfl rfl dX9_cut_24 (fun D11 eD11 H locs hw => ?_)
    have h := nm_i h D11 eD11
    refine lv_aload_n hx hb dX9_cut_27 rfl (lv_at hl 1 rfl) ?_
    refine lv_iconst (v := 0) hx hb dX9_cut_28 (by decide) ?_
    refine r_pI hC hw kc_8 hi0 18 rfl lk_1090 rfl rfl rfl dX9_cut_29 (fun D12 eD12 H locs hw => ?_)
    have h := nm_i h D12 eD12
    refine lv_iload_n hx hb dX9_cut_32 rfl (lv_at hl 0 rfl) ?_
    cases h
    exact r_iret hC hw dX9_cut_33
  · have h := i_yes c9 h
    refine lv_bipush (v := (-2)) hx hb dX9_cut_14 (by decide) ?_
    cases h
    exact r_iret hC hw dX9_cut_16
set_option maxHeartbeats 4000000 in
set_option maxRecDepth 100000 in
theorem k_X9_cut {l : Launch} {G : va_G} {cA : Nat → ClassId} {S : sh} {D D' : dt} {ad : Nat → Nat} (sz : Nat) {o0 a0 : Nat} {x1 : Int32} {r : Int32} (hi0 : Is S ad o0 a0 8) (h : f_X9_cut S o0 x1 D = some (r, D')) : Co l yX9_cut (Cond.code yX9_cut cX9_cut 3 (some .int) :: tb0) 1 25 [.ref a0, .int x1] G cA S D ad sz (some (.int r)) True D' := by
  refine Met.ofW (cc := cX9_cut) (maxL := 3) (ret := (some .int)) (by decide) rfl ?_
  intro p e s m args below meth c s₁ B hml hv
  obtain ⟨rfl, hsz, hP, hK, hD0, hT, hX⟩ := hv
  subst hsz
  have hts := atoms_spec (ws := Cond.code yX9_cut cX9_cut 3 (some .int) :: tb0) B.pre
  have hC : Cx RX9 cX9_cut 3 (some .int) p s m _ meth c := ⟨B.exec, B.bytes, hml, findClass_of_methodNamed B.named, fun w q => hts w (List.mem_cons_of_mem _ q), B.returns, B.notSynchronized⟩
  have hw := Wd.entry hP hK hD0 hT hX
  have hl := lv_entry ([.ref a0, .int x1]) (n := 3) (Nat.le_of_ble_eq_true rfl)
  rw [lg_entry_eq]
  exact w_X9_cut_0 hC ⟨Nat.le_refl _, Nat.le_refl _⟩ o0 a0 x1 D _ _ _ hi0 hw hl h
set_option maxHeartbeats 4000000 in
set_option maxRecDepth 100000 in
theorem w_X9_isRegister_113 {r : Int32} (hC : Cx RX9 cX9_isRegister 6 (some .boolean) p s m args meth c) (hR : 1 ≤ R.frames ∧ 25 ≤ R.locals) : ∀  (H : Heap) (locs : List Loc) (ls : Array Slot), Wd G cA S D ad A s H locs → lv_has ls 6 [] → f_X9_isRegister_113 S D = some r → W p l e R s m args below meth c H locs 0 0 (MQ below (Qn (some (.int r)) True (wpost G cA S D ad A) A) args s 0 0 A) (F0 m 113 ls []) := by
  obtain ⟨hx, hb, -⟩ := id hC
  intro H locs ls  hw hl h
  unfold f_X9_isRegister_113 at h
  refine lv_iconst (v := 1) hx hb dX9_isRegister_113 (by decide) ?_
  refine lv_goto (tgt := 118) hx hb dX9_isRegister_114 (by decide) ?_
  cases h
  exact r_zret hC hw (Or.inr rfl) dX9_isRegister_118
set_option maxHeartbeats 4000000 in
set_option maxRecDepth 100000 in
theorem w_X9_isRegister_104 {r : Int32} (hC : Cx RX9 cX9_isRegister 6 (some .boolean) p s m args meth c) (hR : 1 ≤ R.frames ∧ 25 ≤ R.locals) : ∀ (x2 : Int32) (x4 : Int32) (H : Heap) (locs : List Loc) (ls : Array Slot), Wd G cA S D ad A s H locs → lv_has ls 6 [(2, .int x2), (4, .int x4)] → f_X9_isRegister_104 S D x2 x4 = some r → W p l e R s m args below meth c H locs 0 0 (MQ below (Qn (some (.int r)) True (wpost G cA S D ad A) A) args s 0 0 A) (F0 m 104 ls []) := by
  obtain ⟨hx, hb, -⟩ := id hC
  intro x2 x4 H locs ls  hw hl h
  unfold f_X9_isRegister_104 at h
  refine lv_iload_n hx hb dX9_isRegister_104 rfl (lv_at hl 0 rfl) ?_
  refine lv_if_eq (tgt := 113) hx hb dX9_isRegister_105 (by decide) (fun c133 => ?_) (fun c133 => ?_)
  · have h := i_yes c133 h
    exact w_X9_isRegister_113 hC hR _ _ _ hw (lv_sub hl [] rfl) h
  · have h := i_no c133 h
    refine lv_iload hx hb dX9_isRegister_108 (lv_at hl 1 rfl) ?_
    refine lv_if_ne (tgt := 117) hx hb dX9_isRegister_110 (by decide) (fun c134 => ?_) (fun c134 => ?_)
    · have h := i_no c134 h
      refine lv_iconst (v := 0) hx hb dX9_isRegister_117 (by decide) ?_
      cases h
      exact r_zret hC hw (Or.inl rfl) dX9_isRegister_118
    · have h := i_yes c134 h
      exact w_X9_isRegister_113 hC hR _ _ _ hw (lv_sub hl [] rfl) h
set_option maxHeartbeats 4000000 in
set_option maxRecDepth 100000 in
theorem w_X9_isRegister_313 {r : Int32} (hC : Cx RX9 cX9_isRegister 6 (some .boolean) p s m args meth c) (hR : 1 ≤ R.frames ∧ 25 ≤ R.locals) : ∀ (o0 a0 : Nat) (x1 : Int32) (x5 : Int32) (H : Heap) (locs : List Loc) (ls : Array Slot), Is S ad o0 a0 8 → Wd G cA S D ad A s H locs → lv_has ls 6 [(0, .ref a0), (1, .int x1), (5, .int x5)] → f_X9_isRegister_313 S D o0 x1 x5 = some r → W p l e R s m args below meth c H locs 0 0 (MQ below (Qn (some (.int r)) True (wpost G cA S D ad A) A) args s 0 0 A) (F0 m 313 ls []) := by
  obtain ⟨hx, hb, -⟩ := id hC
  intro o0 a0 x1 x5 H locs ls hi0 hw hl h
  unfold f_X9_isRegister_313 at h
  refine lv_iload hx hb dX9_isRegister_313 (lv_at hl 2 rfl) ?_
  refine lv_if_eq (tgt := 331) hx hb dX9_isRegister_315 (by decide) (fun c135 => ?_) (fun c135 => ?_)
  · have h := i_yes c135 h
    refine lv_iconst (v := 0) hx hb dX9_isRegister_331 (by decide) ?_
    cases h
    exact r_zret hC hw (Or.inl rfl) dX9_isRegister_332
  · have h := i_no c135 h
    refine lv_aload_n hx hb dX9_isRegister_318 rfl (lv_at hl 0 rfl) ?_
    obtain ⟨o136, ho139, h⟩ := rq_i h
    refine r_getR hC hw kc_8 hi0 4 rfl lk_1076 dX9_isRegister_319 rfl ho139 (fun a137 hi138 => ?_)
    refine lv_iload_n hx hb dX9_isRegister_322 rfl (lv_at hl 1 rfl) ?_
    obtain ⟨hn140, h⟩ := ix_i h
    refine r_iald hC hw hi138 hn140 dX9_isRegister_323 ?_
    refine lv_if_ne (tgt := 331) hx hb dX9_isRegister_324 (by decide) (fun c141 => ?_) (fun c141 => ?_)
    · have h := i_no c141 h
      refine lv_iconst (v := 0) hx hb dX9_isRegister_331 (by decide) ?_
      cases h
      exact r_zret hC hw (Or.inl rfl) dX9_isRegister_332
    · have h := i_yes c141 h
      refine lv_iconst (v := 1) hx hb dX9_isRegister_327 (by decide) ?_
      refine lv_goto (tgt := 332) hx hb dX9_isRegister_328 (by decide) ?_
      cases h
      exact r_zret hC hw (Or.inr rfl) dX9_isRegister_332
set_option maxHeartbeats 4000000 in
set_option maxRecDepth 100000 in
theorem w_X9_isRegister_307 {r : Int32} (hC : Cx RX9 cX9_isRegister 6 (some .boolean) p s m args meth c) (hR : 1 ≤ R.frames ∧ 25 ≤ R.locals) : ∀  (H : Heap) (locs : List Loc) (ls : Array Slot), Wd G cA S D ad A s H locs → lv_has ls 6 [] → f_X9_isRegister_307 S D = some r → W p l e R s m args below meth c H locs 0 0 (MQ below (Qn (some (.int r)) True (wpost G cA S D ad A) A) args s 0 0 A) (F0 m 307 ls []) := by
  obtain ⟨hx, hb, -⟩ := id hC
  intro H locs ls  hw hl h
  unfold f_X9_isRegister_307 at h
  refine lv_iconst (v := 1) hx hb dX9_isRegister_307 (by decide) ?_
  refine lv_goto (tgt := 312) hx hb dX9_isRegister_308 (by decide) ?_
  cases h
  exact r_zret hC hw (Or.inr rfl) dX9_isRegister_312
set_option maxHeartbeats 4000000 in
set_option maxRecDepth 100000 in
theorem w_X9_isRegister_219 {r : Int32} (hC : Cx RX9 cX9_isRegister 6 (some .boolean) p s m args meth c) (hR : 1 ≤ R.frames ∧ 25 ≤ R.locals) : ∀ (o0 a0 : Nat) (x1 : Int32) (x5 : Int32) (H : Heap) (locs : List Loc) (ls : Array Slot), Is S ad o0 a0 8 → Wd G cA S D ad A s H locs → lv_has ls 6 [(0, .ref a0), (1, .int x1), (5, .int x5)] → f_X9_isRegister_219 S D o0 x1 x5 = some r → W p l e R s m args below meth c H locs 0 0 (MQ below (Qn (some (.int r)) True (wpost G cA S D ad A) A) args s 0 0 A) (F0 m 219 ls []) := by
  obtain ⟨hx, hb, -⟩ := id hC
  intro o0 a0 x1 x5 H locs ls hi0 hw hl h
  unfold f_X9_isRegister_219 at h
  refine lv_iload hx hb dX9_isRegister_219 (lv_at hl 2 rfl) ?_
  refine lv_if_eq (tgt := 243) hx hb dX9_isRegister_221 (by decide) (fun c142 => ?_) (fun c142 => ?_)
  · have h := i_yes c142 h
    refine lv_iconst (v := 0) hx hb dX9_isRegister_243 (by decide) ?_
    cases h
    exact r_zret hC hw (Or.inl rfl) dX9_isRegister_244
  · have h := i_no c142 h
    refine lv_aload_n hx hb dX9_isRegister_224 rfl (lv_at hl 0 rfl) ?_
    obtain ⟨o143, ho146, h⟩ := rq_i h
    refine r_getR hC hw kc_8 hi0 4 rfl lk_1076 dX9_isRegister_225 rfl ho146 (fun a144 hi145 => ?_)
    refine lv_iload_n hx hb dX9_isRegister_228 rfl (lv_at hl 1 rfl) ?_
    obtain ⟨hn147, h⟩ := ix_i h
    refine r_iald hC hw hi145 hn147 dX9_isRegister_229 ?_
    refine lv_i2l (v := (gI D o143 x1.toNatClampNeg).toInt64) hx hb dX9_isRegister_230 rfl ?_
    refine lv_lconst (v := 0) hx hb dX9_isRegister_231 (by decide) ?_
    refine lv_lconst (v := 1) hx hb dX9_isRegister_232 (by decide) ?_
    obtain ⟨r149, hq148, h⟩ := pq_i h
    refine r_cS (st' := [.int r149]) [.long ((gI D o143 x1.toNatClampNeg).toInt64), .long (0 : Int64), .long (1 : Int64)] [] hC hw (k_X9_in _ hq148) mk_X9_in lk_1243 ⟨Nat.le_trans (by decide) hR.1, Nat.le_trans (by decide) hR.2⟩ ⟨Nat.zero_le _, Nat.zero_le _⟩ rfl hl.1 rfl rfl (Nat.le_of_ble_eq_true rfl) dX9_isRegister_233 (fun hP H locs hw => ?_)
    refine lv_if_eq (tgt := 243) hx hb dX9_isRegister_236 (by decide) (fun c150 => ?_) (fun c150 => ?_)
    · have h := i_yes c150 h
      refine lv_iconst (v := 0) hx hb dX9_isRegister_243 (by decide) ?_
      cases h
      exact r_zret hC hw (Or.inl rfl) dX9_isRegister_244
    · have h := i_no c150 h
      refine lv_iconst (v := 1) hx hb dX9_isRegister_239 (by decide) ?_
      refine lv_goto (tgt := 244) hx hb dX9_isRegister_240 (by decide) ?_
      cases h
      exact r_zret hC hw (Or.inr rfl) dX9_isRegister_244
set_option maxHeartbeats 4000000 in
set_option maxRecDepth 100000 in
theorem w_X9_isRegister_166 {r : Int32} (hC : Cx RX9 cX9_isRegister 6 (some .boolean) p s m args meth c) (hR : 1 ≤ R.frames ∧ 25 ≤ R.locals) : ∀ (o0 a0 : Nat) (x1 : Int32) (x2 : Int32) (x3 : Int32) (x4 : Int32) (xs0 : Int32) (H : Heap) (locs : List Loc) (ls : Array Slot), Is S ad o0 a0 8 → Wd G cA S D ad A s H locs → lv_has ls 6 [(0, .ref a0), (1, .int x1), (2, .int x2), (3, .int x3), (4, .int x4)] → f_X9_isRegister_166 S D o0 x1 x2 x3 x4 xs0 = some r → W p l e R s m args below meth c H locs 0 0 (MQ below (Qn (some (.int r)) True (wpost G cA S D ad A) A) args s 0 0 A) (F0 m 166 ls [.int xs0]) := by
  obtain ⟨hx, hb, -⟩ := id hC
  intro o0 a0 x1 x2 x3 x4 xs0 H locs ls hi0 hw hl h
  unfold f_X9_isRegister_166 at h
  refine lv_istore (lv' := [(5, .int xs0), (0, .ref a0), (1, .int x1), (2, .int x2), (3, .int x3), (4, .int x4)]) hx hb dX9_isRegister_166 hl (by decide) rfl (fun ls hl => ?_)
  refine lv_iload_n hx hb dX9_isRegister_168 rfl (lv_at hl 4 rfl) ?_
  refine lv_bipush (v := 8) hx hb dX9_isRegister_169 (by decide) ?_
  refine lv_icmp_ne (tgt := 208) hx hb dX9_isRegister_171 (by decide) (fun c151 => ?_) (fun c151 => ?_)
  · have h := i_no c151 h
    refine lv_iload_n hx hb dX9_isRegister_208 rfl (lv_at hl 4 rfl) ?_
    refine lv_iconst (v := 3) hx hb dX9_isRegister_209 (by decide) ?_
    refine lv_icmp_eq (tgt := 219) hx hb dX9_isRegister_210 (by decide) (fun c152 => ?_) (fun c152 => ?_)
    · have h := i_yes c152 h
      exact w_X9_isRegister_219 hC hR o0 a0 x1 xs0 _ _ _ hi0 hw (lv_sub hl [1, 2, 0] rfl) h
    · have h := i_no c152 h
      refine lv_iload_n hx hb dX9_isRegister_213 rfl (lv_at hl 4 rfl) ?_
      refine lv_bipush (v := 9) hx hb dX9_isRegister_214 (by decide) ?_
      refine lv_icmp_ne (tgt := 245) hx hb dX9_isRegister_216 (by decide) (fun c153 => ?_) (fun c153 => ?_)
      · have h := i_no c153 h
        refine lv_iload_n hx hb dX9_isRegister_245 rfl (lv_at hl 4 rfl) ?_
        refine lv_bipush (v := 11) hx hb dX9_isRegister_246 (by decide) ?_
        refine lv_icmp_ne (tgt := 313) hx hb dX9_isRegister_248 (by decide) (fun c154 => ?_) (fun c154 => ?_)
        · have h := i_no c154 h
          exact w_X9_isRegister_313 hC hR o0 a0 x1 xs0 _ _ _ hi0 hw (lv_sub hl [1, 2, 0] rfl) h
        · have h := i_yes c154 h
          refine lv_iload hx hb dX9_isRegister_251 (lv_at hl 5 rfl) ?_
          refine lv_if_eq (tgt := 313) hx hb dX9_isRegister_253 (by decide) (fun c155 => ?_) (fun c155 => ?_)
          · have h := i_yes c155 h
            exact w_X9_isRegister_313 hC hR o0 a0 x1 xs0 _ _ _ hi0 hw (lv_sub hl [1, 2, 0] rfl) h
          · have h := i_no c155 h
            refine lv_iload hx hb dX9_isRegister_256 (lv_at hl 0 rfl) ?_
            refine lv_if_eq (tgt := 311) hx hb dX9_isRegister_258 (by decide) (fun c156 => ?_) (fun c156 => ?_)
            · have h := i_yes c156 h
              refine lv_iconst (v := 0) hx hb dX9_isRegister_311 (by decide) ?_
              cases h
              exact r_zret hC hw (Or.inl rfl) dX9_isRegister_312
            · have h := i_no c156 h
              refine lv_aload_n hx hb dX9_isRegister_261 rfl (lv_at hl 1 rfl) ?_
              obtain ⟨o157, ho160, h⟩ := rq_i h
              refine r_getR hC hw kc_8 hi0 4 rfl lk_1076 dX9_isRegister_262 rfl ho160 (fun a158 hi159 => ?_)
              refine lv_iload_n hx hb dX9_isRegister_265 rfl (lv_at hl 2 rfl) ?_
              obtain ⟨hn161, h⟩ := ix_i h
              refine r_iald hC hw hi159 hn161 dX9_isRegister_266 ?_
              refine lv_if_eq (tgt := 307) hx hb dX9_isRegister_267 (by decide) (fun c162 => ?_) (fun c162 => ?_)
              · have h := i_yes c162 h
                exact w_X9_isRegister_307 hC hR _ _ _ hw (lv_sub hl [] rfl) h
              · have h := i_no c162 h
                refine lv_aload_n hx hb dX9_isRegister_270 rfl (lv_at hl 1 rfl) ?_
                obtain ⟨o163, ho166, h⟩ := rq_i h
                refine r_getR hC hw kc_8 hi0 4 rfl lk_1076 dX9_isRegister_271 rfl ho166 (fun a164 hi165 => ?_)
                refine lv_iload_n hx hb dX9_isRegister_274 rfl (lv_at hl 2 rfl) ?_
                obtain ⟨hn167, h⟩ := ix_i h
                refine r_iald hC hw hi165 hn167 dX9_isRegister_275 ?_
                refine lv_bipush (v := 8) hx hb dX9_isRegister_276 (by decide) ?_
                refine lv_icmp_eq (tgt := 307) hx hb dX9_isRegister_278 (by decide) (fun c168 => ?_) (fun c168 => ?_)
                · have h := i_yes c168 h
                  exact w_X9_isRegister_307 hC hR _ _ _ hw (lv_sub hl [] rfl) h
                · have h := i_no c168 h
                  refine lv_aload_n hx hb dX9_isRegister_281 rfl (lv_at hl 1 rfl) ?_
                  obtain ⟨o169, ho172, h⟩ := rq_i h
                  refine r_getR hC hw kc_8 hi0 4 rfl lk_1076 dX9_isRegister_282 rfl ho172 (fun a170 hi171 => ?_)
                  refine lv_iload_n hx hb dX9_isRegister_285 rfl (lv_at hl 2 rfl) ?_
                  obtain ⟨hn173, h⟩ := ix_i h
                  refine r_iald hC hw hi171 hn173 dX9_isRegister_286 ?_
                  refine lv_bipush (v := 16) hx hb dX9_isRegister_287 (by decide) ?_
                  refine lv_icmp_eq (tgt := 307) hx hb dX9_isRegister_289 (by decide) (fun c174 => ?_) (fun c174 => ?_)
                  · have h := i_yes c174 h
                    exact w_X9_isRegister_307 hC hR _ _ _ hw (lv_sub hl [] rfl) h
                  · have h := i_no c174 h
                    refine lv_aload_n hx hb dX9_isRegister_292 rfl (lv_at hl 1 rfl) ?_
                    obtain ⟨o175, ho178, h⟩ := rq_i h
                    refine r_getR hC hw kc_8 hi0 4 rfl lk_1076 dX9_isRegister_293 rfl ho178 (fun a176 hi177 => ?_)
                    refine lv_iload_n hx hb dX9_isRegister_296 rfl (lv_at hl 2 rfl) ?_
                    obtain ⟨hn179, h⟩ := ix_i h
                    refine r_iald hC hw hi177 hn179 dX9_isRegister_297 ?_
                    refine lv_bipush (v := 32) hx hb dX9_isRegister_298 (by decide) ?_
                    refine lv_icmp_ne (tgt := 311) hx hb dX9_isRegister_300 (by decide) (fun c180 => ?_) (fun c180 => ?_)
                    · have h := i_no c180 h
                      refine lv_iconst (v := 0) hx hb dX9_isRegister_311 (by decide) ?_
                      cases h
                      exact r_zret hC hw (Or.inl rfl) dX9_isRegister_312
                    · have h := i_yes c180 h
                      refine lv_iload_n hx hb dX9_isRegister_303 rfl (lv_at hl 3 rfl) ?_
                      refine lv_if_eq (tgt := 311) hx hb dX9_isRegister_304 (by decide) (fun c181 => ?_) (fun c181 => ?_)
                      · have h := i_yes c181 h
                        refine lv_iconst (v := 0) hx hb dX9_isRegister_311 (by decide) ?_
                        cases h
                        exact r_zret hC hw (Or.inl rfl) dX9_isRegister_312
                      · have h := i_no c181 h
                        exact w_X9_isRegister_307 hC hR _ _ _ hw (lv_sub hl [] rfl) h
      · have h := i_yes c153 h
        exact w_X9_isRegister_219 hC hR o0 a0 x1 xs0 _ _ _ hi0 hw (lv_sub hl [1, 2, 0] rfl) h
  · have h := i_yes c151 h
    refine lv_iload hx hb dX9_isRegister_174 (lv_at hl 0 rfl) ?_
    refine lv_if_eq (tgt := 206) hx hb dX9_isRegister_176 (by decide) (fun c182 => ?_) (fun c182 => ?_)
    · have h := i_yes c182 h
      refine lv_iconst (v := 0) hx hb dX9_isRegister_206 (by decide) ?_
      cases h
      exact r_zret hC hw (Or.inl rfl) dX9_isRegister_207
    · have h := i_no c182 h
      refine lv_iload hx hb dX9_isRegister_179 (lv_at hl 5 rfl) ?_
      refine lv_if_ne (tgt := 206) hx hb dX9_isRegister_181 (by decide) (fun c183 => ?_) (fun c183 => ?_)
      · have h := i_no c183 h
        refine lv_iconst (v := 0) hx hb dX9_isRegister_206 (by decide) ?_
        cases h
        exact r_zret hC hw (Or.inl rfl) dX9_isRegister_207
      · have h := i_yes c183 h
        refine lv_aload_n hx hb dX9_isRegister_184 rfl (lv_at hl 1 rfl) ?_
        obtain ⟨o184, ho187, h⟩ := rq_i h
        refine r_getR hC hw kc_8 hi0 5 rfl lk_1077 dX9_isRegister_185 rfl ho187 (fun a185 hi186 => ?_)
        refine lv_iload_n hx hb dX9_isRegister_188 rfl (lv_at hl 2 rfl) ?_
        obtain ⟨hn188, h⟩ := ix_i h
        refine r_iald hC hw hi186 hn188 dX9_isRegister_189 ?_
        refine lv_if_ne (tgt := 206) hx hb dX9_isRegister_190 (by decide) (fun c189 => ?_) (fun c189 => ?_)
        · have h := i_no c189 h
          refine lv_iconst (v := 0) hx hb dX9_isRegister_206 (by decide) ?_
          cases h
          exact r_zret hC hw (Or.inl rfl) dX9_isRegister_207
        · have h := i_yes c189 h
          refine lv_aload_n hx hb dX9_isRegister_193 rfl (lv_at hl 1 rfl) ?_
          obtain ⟨o190, ho193, h⟩ := rq_i h
          refine r_getR hC hw kc_8 hi0 4 rfl lk_1076 dX9_isRegister_194 rfl ho193 (fun a191 hi192 => ?_)
          refine lv_iload_n hx hb dX9_isRegister_197 rfl (lv_at hl 2 rfl) ?_
          obtain ⟨hn194, h⟩ := ix_i h
          refine r_iald hC hw hi192 hn194 dX9_isRegister_198 ?_
          refine lv_if_ne (tgt := 206) hx hb dX9_isRegister_199 (by decide) (fun c195 => ?_) (fun c195 => ?_)
          · have h := i_no c195 h
            refine lv_iconst (v := 0) hx hb dX9_isRegister_206 (by decide) ?_
            cases h
            exact r_zret hC hw (Or.inl rfl) dX9_isRegister_207
          · have h := i_yes c195 h
            refine lv_iconst (v := 1) hx hb dX9_isRegister_202 (by decide) ?_
            refine lv_goto (tgt := 207) hx hb dX9_isRegister_203 (by decide) ?_
            cases h
            exact r_zret hC hw (Or.inr rfl) dX9_isRegister_207
set_option maxHeartbeats 4000000 in
set_option maxRecDepth 100000 in
theorem w_X9_isRegister_148 {r : Int32} (hC : Cx RX9 cX9_isRegister 6 (some .boolean) p s m args meth c) (hR : 1 ≤ R.frames ∧ 25 ≤ R.locals) : ∀ (o0 a0 : Nat) (x1 : Int32) (x2 : Int32) (x3 : Int32) (x4 : Int32) (H : Heap) (locs : List Loc) (ls : Array Slot), Is S ad o0 a0 8 → Wd G cA S D ad A s H locs → lv_has ls 6 [(0, .ref a0), (1, .int x1), (2, .int x2), (3, .int x3), (4, .int x4)] → f_X9_isRegister_148 S D o0 x1 x2 x3 x4 = some r → W p l e R s m args below meth c H locs 0 0 (MQ below (Qn (some (.int r)) True (wpost G cA S D ad A) A) args s 0 0 A) (F0 m 148 ls []) := by
  obtain ⟨hx, hb, -⟩ := id hC
  intro o0 a0 x1 x2 x3 x4 H locs ls hi0 hw hl h
  unfold f_X9_isRegister_148 at h
  refine lv_iconst (v := 0) hx hb dX9_isRegister_148 (by decide) ?_
  refine lv_goto (tgt := 166) hx hb dX9_isRegister_149 (by decide) ?_
  exact w_X9_isRegister_166 hC hR o0 a0 x1 x2 x3 x4 (0 : Int32) _ _ _ hi0 hw (lv_sub hl [0, 1, 2, 3, 4] rfl) h
set_option maxHeartbeats 4000000 in
set_option maxRecDepth 100000 in
theorem w_X9_isRegister_26 {r : Int32} (hC : Cx RX9 cX9_isRegister 6 (some .boolean) p s m args meth c) (hR : 1 ≤ R.frames ∧ 25 ≤ R.locals) : ∀ (o0 a0 : Nat) (x1 : Int32) (x2 : Int32) (x3 : Int32) (xs0 : Int32) (H : Heap) (locs : List Loc) (ls : Array Slot), Is S ad o0 a0 8 → Wd G cA S D ad A s H locs → lv_has ls 6 [(0, .ref a0), (1, .int x1), (2, .int x2), (3, .int x3)] → f_X9_isRegister_26 S D o0 x1 x2 x3 xs0 = some r → W p l e R s m args below meth c H locs 0 0 (MQ below (Qn (some (.int r)) True (wpost G cA S D ad A) A) args s 0 0 A) (F0 m 26 ls [.int xs0]) := by
  obtain ⟨hx, hb, -⟩ := id hC
  intro o0 a0 x1 x2 x3 xs0 H locs ls hi0 hw hl h
  unfold f_X9_isRegister_26 at h
  refine lv_istore (lv' := [(4, .int xs0), (0, .ref a0), (1, .int x1), (2, .int x2), (3, .int x3)]) hx hb dX9_isRegister_26 hl (by decide) rfl (fun ls hl => ?_)
  refine lv_iload_n hx hb dX9_isRegister_28 rfl (lv_at hl 4 rfl) ?_
  refine lv_bipush (v := 13) hx hb dX9_isRegister_29 (by decide) ?_
  refine lv_icmp_gt (tgt := 45) hx hb dX9_isRegister_31 (by decide) (fun c196 => ?_) (fun c196 => ?_)
  · have h := i_yes c196 h
    refine lv_iconst (v := 0) hx hb dX9_isRegister_45 (by decide) ?_
    cases h
    exact r_zret hC hw (Or.inl rfl) dX9_isRegister_46
  · have h := i_no c196 h
    refine lv_aload_n hx hb dX9_isRegister_34 rfl (lv_at hl 1 rfl) ?_
    obtain ⟨o197, ho200, h⟩ := rq_i h
    refine r_getR hC hw kc_8 hi0 2 rfl lk_1074 dX9_isRegister_35 rfl ho200 (fun a198 hi199 => ?_)
    refine lv_iload_n hx hb dX9_isRegister_38 rfl (lv_at hl 2 rfl) ?_
    obtain ⟨hn201, h⟩ := ix_i h
    refine r_iald hC hw hi199 hn201 dX9_isRegister_39 ?_
    refine lv_bipush (v := 9) hx hb dX9_isRegister_40 (by decide) ?_
    refine lv_icmp_le (tgt := 47) hx hb dX9_isRegister_42 (by decide) (fun c202 => ?_) (fun c202 => ?_)
    · have h := i_yes c202 h
      refine lv_iload_n hx hb dX9_isRegister_47 rfl (lv_at hl 4 rfl) ?_
      refine lv_bipush (v := 13) hx hb dX9_isRegister_48 (by decide) ?_
      refine lv_icmp_ne (tgt := 119) hx hb dX9_isRegister_50 (by decide) (fun c203 => ?_) (fun c203 => ?_)
      · have h := i_no c203 h
        refine lv_iload hx hb dX9_isRegister_119 (lv_at hl 0 rfl) ?_
        refine lv_if_eq (tgt := 152) hx hb dX9_isRegister_121 (by decide) (fun c204 => ?_) (fun c204 => ?_)
        · have h := i_yes c204 h
          refine lv_aload_n hx hb dX9_isRegister_152 rfl (lv_at hl 1 rfl) ?_
          obtain ⟨o205, ho208, h⟩ := rq_i h
          refine r_getR hC hw kc_8 hi0 3 rfl lk_1075 dX9_isRegister_153 rfl ho208 (fun a206 hi207 => ?_)
          refine lv_iload_n hx hb dX9_isRegister_156 rfl (lv_at hl 2 rfl) ?_
          obtain ⟨hn209, h⟩ := ix_i h
          refine r_iald hC hw hi207 hn209 dX9_isRegister_157 ?_
          refine lv_if_ne (tgt := 165) hx hb dX9_isRegister_158 (by decide) (fun c210 => ?_) (fun c210 => ?_)
          · have h := i_no c210 h
            refine lv_iconst (v := 0) hx hb dX9_isRegister_165 (by decide) ?_
            exact w_X9_isRegister_166 hC hR o0 a0 x1 x2 x3 xs0 (0 : Int32) _ _ _ hi0 hw (lv_sub hl [1, 2, 3, 4, 0] rfl) h
          · have h := i_yes c210 h
            refine lv_iconst (v := 1) hx hb dX9_isRegister_161 (by decide) ?_
            refine lv_goto (tgt := 166) hx hb dX9_isRegister_162 (by decide) ?_
            exact w_X9_isRegister_166 hC hR o0 a0 x1 x2 x3 xs0 (1 : Int32) _ _ _ hi0 hw (lv_sub hl [1, 2, 3, 4, 0] rfl) h
        · have h := i_no c204 h
          refine lv_aload_n hx hb dX9_isRegister_124 rfl (lv_at hl 1 rfl) ?_
          obtain ⟨o211, ho214, h⟩ := rq_i h
          refine r_getR hC hw kc_8 hi0 5 rfl lk_1077 dX9_isRegister_125 rfl ho214 (fun a212 hi213 => ?_)
          refine lv_iload_n hx hb dX9_isRegister_128 rfl (lv_at hl 2 rfl) ?_
          obtain ⟨hn215, h⟩ := ix_i h
          refine r_iald hC hw hi213 hn215 dX9_isRegister_129 ?_
          refine lv_if_ne (tgt := 148) hx hb dX9_isRegister_130 (by decide) (fun c216 => ?_) (fun c216 => ?_)
          · have h := i_no c216 h
            exact w_X9_isRegister_148 hC hR o0 a0 x1 x2 x3 xs0 _ _ _ hi0 hw (lv_sub hl [1, 2, 3, 4, 0] rfl) h
          · have h := i_yes c216 h
            refine lv_aload_n hx hb dX9_isRegister_133 rfl (lv_at hl 1 rfl) ?_
            obtain ⟨o217, ho220, h⟩ := rq_i h
            refine r_getR hC hw kc_8 hi0 3 rfl lk_1075 dX9_isRegister_134 rfl ho220 (fun a218 hi219 => ?_)
            refine lv_iload_n hx hb dX9_isRegister_137 rfl (lv_at hl 2 rfl) ?_
            obtain ⟨hn221, h⟩ := ix_i h
            refine r_iald hC hw hi219 hn221 dX9_isRegister_138 ?_
            refine lv_bipush (v := 11) hx hb dX9_isRegister_139 (by decide) ?_
            refine lv_icmp_ge (tgt := 148) hx hb dX9_isRegister_141 (by decide) (fun c222 => ?_) (fun c222 => ?_)
            · have h := i_yes c222 h
              exact w_X9_isRegister_148 hC hR o0 a0 x1 x2 x3 xs0 _ _ _ hi0 hw (lv_sub hl [1, 2, 3, 4, 0] rfl) h
            · have h := i_no c222 h
              refine lv_iconst (v := 1) hx hb dX9_isRegister_144 (by decide) ?_
              refine lv_goto (tgt := 166) hx hb dX9_isRegister_145 (by decide) ?_
              exact w_X9_isRegister_166 hC hR o0 a0 x1 x2 x3 xs0 (1 : Int32) _ _ _ hi0 hw (lv_sub hl [1, 2, 3, 4, 0] rfl) h
      · have h := i_yes c203 h
        refine lv_aload_n hx hb dX9_isRegister_53 rfl (lv_at hl 1 rfl) ?_
        obtain ⟨o223, ho226, h⟩ := rq_i h
        refine r_getR hC hw kc_8 hi0 3 rfl lk_1075 dX9_isRegister_54 rfl ho226 (fun a224 hi225 => ?_)
        refine lv_iload_n hx hb dX9_isRegister_57 rfl (lv_at hl 2 rfl) ?_
        obtain ⟨hn227, h⟩ := ix_i h
        refine r_iald hC hw hi225 hn227 dX9_isRegister_58 ?_
        refine lv_if_ne (tgt := 117) hx hb dX9_isRegister_59 (by decide) (fun c228 => ?_) (fun c228 => ?_)
        · have h := i_no c228 h
          refine lv_iconst (v := 0) hx hb dX9_isRegister_117 (by decide) ?_
          cases h
          exact r_zret hC hw (Or.inl rfl) dX9_isRegister_118
        · have h := i_yes c228 h
          refine lv_aload_n hx hb dX9_isRegister_62 rfl (lv_at hl 1 rfl) ?_
          obtain ⟨o229, ho232, h⟩ := rq_i h
          refine r_getR hC hw kc_8 hi0 4 rfl lk_1076 dX9_isRegister_63 rfl ho232 (fun a230 hi231 => ?_)
          refine lv_iload_n hx hb dX9_isRegister_66 rfl (lv_at hl 2 rfl) ?_
          obtain ⟨hn233, h⟩ := ix_i h
          refine r_iald hC hw hi231 hn233 dX9_isRegister_67 ?_
          refine lv_if_ne (tgt := 117) hx hb dX9_isRegister_68 (by decide) (fun c234 => ?_) (fun c234 => ?_)
          · have h := i_no c234 h
            refine lv_iconst (v := 0) hx hb dX9_isRegister_117 (by decide) ?_
            cases h
            exact r_zret hC hw (Or.inl rfl) dX9_isRegister_118
          · have h := i_yes c234 h
            refine lv_aload_n hx hb dX9_isRegister_71 rfl (lv_at hl 1 rfl) ?_
            obtain ⟨o235, ho238, h⟩ := rq_i h
            refine r_getR hC hw kc_8 hi0 5 rfl lk_1077 dX9_isRegister_72 rfl ho238 (fun a236 hi237 => ?_)
            refine lv_iload_n hx hb dX9_isRegister_75 rfl (lv_at hl 2 rfl) ?_
            obtain ⟨hn239, h⟩ := ix_i h
            refine r_iald hC hw hi237 hn239 dX9_isRegister_76 ?_
            refine lv_bipush (v := 16) hx hb dX9_isRegister_77 (by decide) ?_
            refine lv_icmp_eq (tgt := 104) hx hb dX9_isRegister_79 (by decide) (fun c240 => ?_) (fun c240 => ?_)
            · have h := i_yes c240 h
              exact w_X9_isRegister_104 hC hR x2 xs0 _ _ _ hw (lv_sub hl [3, 0] rfl) h
            · have h := i_no c240 h
              refine lv_aload_n hx hb dX9_isRegister_82 rfl (lv_at hl 1 rfl) ?_
              obtain ⟨o241, ho244, h⟩ := rq_i h
              refine r_getR hC hw kc_8 hi0 5 rfl lk_1077 dX9_isRegister_83 rfl ho244 (fun a242 hi243 => ?_)
              refine lv_iload_n hx hb dX9_isRegister_86 rfl (lv_at hl 2 rfl) ?_
              obtain ⟨hn245, h⟩ := ix_i h
              refine r_iald hC hw hi243 hn245 dX9_isRegister_87 ?_
              refine lv_bipush (v := 32) hx hb dX9_isRegister_88 (by decide) ?_
              refine lv_icmp_eq (tgt := 104) hx hb dX9_isRegister_90 (by decide) (fun c246 => ?_) (fun c246 => ?_)
              · have h := i_yes c246 h
                exact w_X9_isRegister_104 hC hR x2 xs0 _ _ _ hw (lv_sub hl [3, 0] rfl) h
              · have h := i_no c246 h
                refine lv_aload_n hx hb dX9_isRegister_93 rfl (lv_at hl 1 rfl) ?_
                obtain ⟨o247, ho250, h⟩ := rq_i h
                refine r_getR hC hw kc_8 hi0 5 rfl lk_1077 dX9_isRegister_94 rfl ho250 (fun a248 hi249 => ?_)
                refine lv_iload_n hx hb dX9_isRegister_97 rfl (lv_at hl 2 rfl) ?_
                obtain ⟨hn251, h⟩ := ix_i h
                refine r_iald hC hw hi249 hn251 dX9_isRegister_98 ?_
                refine lv_bipush (v := 64) hx hb dX9_isRegister_99 (by decide) ?_
                refine lv_icmp_ne (tgt := 117) hx hb dX9_isRegister_101 (by decide) (fun c252 => ?_) (fun c252 => ?_)
                · have h := i_no c252 h
                  refine lv_iconst (v := 0) hx hb dX9_isRegister_117 (by decide) ?_
                  cases h
                  exact r_zret hC hw (Or.inl rfl) dX9_isRegister_118
                · have h := i_yes c252 h
                  exact w_X9_isRegister_104 hC hR x2 xs0 _ _ _ hw (lv_sub hl [3, 0] rfl) h
    · have h := i_no c202 h
      refine lv_iconst (v := 0) hx hb dX9_isRegister_45 (by decide) ?_
      cases h
      exact r_zret hC hw (Or.inl rfl) dX9_isRegister_46
set_option maxHeartbeats 4000000 in
set_option maxRecDepth 100000 in
theorem w_X9_isRegister_0 {r : Int32} (hC : Cx RX9 cX9_isRegister 6 (some .boolean) p s m args meth c) (hR : 1 ≤ R.frames ∧ 25 ≤ R.locals) : ∀ (o0 a0 : Nat) (x1 : Int32) (x2 : Int32) (H : Heap) (locs : List Loc) (ls : Array Slot), Is S ad o0 a0 8 → Wd G cA S D ad A s H locs → lv_has ls 6 [(0, .ref a0), (1, .int x1), (2, .int x2)] → f_X9_isRegister S D o0 x1 x2 = some r → W p l e R s m args below meth c H locs 0 0 (MQ below (Qn (some (.int r)) True (wpost G cA S D ad A) A) args s 0 0 A) (F0 m 0 ls []) := by
  obtain ⟨hx, hb, -⟩ := id hC
  intro o0 a0 x1 x2 H locs ls hi0 hw hl h
  unfold f_X9_isRegister at h
  refine lv_aload_n hx hb dX9_isRegister_0 rfl (lv_at hl 0 rfl) ?_
  obtain ⟨o253, ho256, h⟩ := rq_i h
  refine r_getR hC hw kc_8 hi0 1 rfl lk_1073 dX9_isRegister_1 rfl ho256 (fun a254 hi255 => ?_)
  refine lv_iload_n hx hb dX9_isRegister_4 rfl (lv_at hl 1 rfl) ?_
  obtain ⟨hn257, h⟩ := ix_i h
  refine r_iald hC hw hi255 hn257 dX9_isRegister_5 ?_
  refine lv_iconst (v := 4) hx hb dX9_isRegister_6 (by decide) ?_
  refine lv_ishr hx hb dX9_isRegister_7 ?_
  refine lv_topi (fun y258 ey258 => ?_)
  have h := nm_i h y258 ey258
  refine lv_istore_n (lv' := [(3, .int y258), (0, .ref a0), (1, .int x1), (2, .int x2)]) hx hb dX9_isRegister_8 rfl hl (by decide) rfl (fun ls hl => ?_)
  refine lv_aload_n hx hb dX9_isRegister_9 rfl (lv_at hl 1 rfl) ?_
  obtain ⟨o259, ho262, h⟩ := rq_i h
  refine r_getR hC hw kc_8 hi0 1 rfl lk_1073 dX9_isRegister_10 rfl ho262 (fun a260 hi261 => ?_)
  refine lv_iload_n hx hb dX9_isRegister_13 rfl (lv_at hl 2 rfl) ?_
  obtain ⟨hn263, h⟩ := ix_i h
  refine r_iald hC hw hi261 hn263 dX9_isRegister_14 ?_
  refine lv_bipush (v := 8) hx hb dX9_isRegister_15 (by decide) ?_
  refine lv_iand hx hb dX9_isRegister_17 ?_
  refine lv_if_eq (tgt := 25) hx hb dX9_isRegister_18 (by decide) (fun c264 => ?_) (fun c264 => ?_)
  · have h := i_yes c264 h
    refine lv_iconst (v := 0) hx hb dX9_isRegister_25 (by decide) ?_
    exact w_X9_isRegister_26 hC hR o0 a0 x1 x2 y258 (0 : Int32) _ _ _ hi0 hw (lv_sub hl [1, 2, 3, 0] rfl) h
  · have h := i_no c264 h
    refine lv_iconst (v := 1) hx hb dX9_isRegister_21 (by decide) ?_
    refine lv_goto (tgt := 26) hx hb dX9_isRegister_22 (by decide) ?_
    exact w_X9_isRegister_26 hC hR o0 a0 x1 x2 y258 (1 : Int32) _ _ _ hi0 hw (lv_sub hl [1, 2, 3, 0] rfl) h
set_option maxHeartbeats 4000000 in
set_option maxRecDepth 100000 in
theorem k_X9_isRegister {l : Launch} {G : va_G} {cA : Nat → ClassId} {S : sh} {D : dt} {ad : Nat → Nat} (sz : Nat) {o0 a0 : Nat} {x1 : Int32} {x2 : Int32} {r : Int32} (hi0 : Is S ad o0 a0 8) (h : f_X9_isRegister S D o0 x1 x2 = some r) : Co l yX9_isRegister (Cond.code yX9_isRegister cX9_isRegister 6 (some .boolean) :: tb0) 1 25 [.ref a0, .int x1, .int x2] G cA S D ad sz (some (.int r)) True D := by
  refine Met.ofW (cc := cX9_isRegister) (maxL := 6) (ret := (some .boolean)) (by decide) rfl ?_
  intro p e s m args below meth c s₁ B hml hv
  obtain ⟨rfl, hsz, hP, hK, hD0, hT, hX⟩ := hv
  subst hsz
  have hts := atoms_spec (ws := Cond.code yX9_isRegister cX9_isRegister 6 (some .boolean) :: tb0) B.pre
  have hC : Cx RX9 cX9_isRegister 6 (some .boolean) p s m _ meth c := ⟨B.exec, B.bytes, hml, findClass_of_methodNamed B.named, fun w q => hts w (List.mem_cons_of_mem _ q), B.returns, B.notSynchronized⟩
  have hw := Wd.entry hP hK hD0 hT hX
  have hl := lv_entry ([.ref a0, .int x1, .int x2]) (n := 6) (Nat.le_of_ble_eq_true rfl)
  rw [lg_entry_eq]
  exact w_X9_isRegister_0 hC ⟨Nat.le_refl _, Nat.le_refl _⟩ o0 a0 x1 x2 _ _ _ hi0 hw hl h
end
