theorem dX9_isPointer_0 : decode cX9_isPointer 0 = .ok (.iload_n 0, 1) := by decide +kernel
theorem dX9_isPointer_1 : decode cX9_isPointer 1 = .ok (.iconst 2, 1) := by decide +kernel
theorem dX9_isPointer_2 : decode cX9_isPointer 2 = .ok (.if_icmp .eq 13, 3) := by decide +kernel
theorem dX9_isPointer_5 : decode cX9_isPointer 5 = .ok (.iload_n 0, 1) := by decide +kernel
theorem dX9_isPointer_6 : decode cX9_isPointer 6 = .ok (.iconst 3, 1) := by decide +kernel
theorem dX9_isPointer_7 : decode cX9_isPointer 7 = .ok (.if_icmp .eq 8, 3) := by decide +kernel
theorem dX9_isPointer_10 : decode cX9_isPointer 10 = .ok (.iload_n 0, 1) := by decide +kernel
theorem dX9_isPointer_11 : decode cX9_isPointer 11 = .ok (.iconst 5, 1) := by decide +kernel
theorem dX9_isPointer_12 : decode cX9_isPointer 12 = .ok (.if_icmp .ne 7, 3) := by decide +kernel
theorem dX9_isPointer_15 : decode cX9_isPointer 15 = .ok (.iconst 1, 1) := by decide +kernel
theorem dX9_isPointer_16 : decode cX9_isPointer 16 = .ok (.goto 4, 3) := by decide +kernel
theorem dX9_isPointer_19 : decode cX9_isPointer 19 = .ok (.iconst 0, 1) := by decide +kernel
theorem dX9_isPointer_20 : decode cX9_isPointer 20 = .ok (.ireturn, 1) := by decide +kernel
theorem dX9_lookPointer_0 : decode cX9_lookPointer 0 = .ok (.aload_n 0, 1) := by decide +kernel
theorem dX9_lookPointer_1 : decode cX9_lookPointer 1 = .ok (.getfield 13, 3) := by decide +kernel
theorem dX9_lookPointer_4 : decode cX9_lookPointer 4 = .ok (.iload_n 1, 1) := by decide +kernel
theorem dX9_lookPointer_5 : decode cX9_lookPointer 5 = .ok (.iaload, 1) := by decide +kernel
theorem dX9_lookPointer_6 : decode cX9_lookPointer 6 = .ok (.istore 4, 2) := by decide +kernel
theorem dX9_lookPointer_8 : decode cX9_lookPointer 8 = .ok (.iload_n 2, 1) := by decide +kernel
theorem dX9_lookPointer_9 : decode cX9_lookPointer 9 = .ok (.ifCond .ne 18, 3) := by decide +kernel
theorem dX9_lookPointer_12 : decode cX9_lookPointer 12 = .ok (.aload_n 0, 1) := by decide +kernel
theorem dX9_lookPointer_13 : decode cX9_lookPointer 13 = .ok (.getfield 106, 3) := by decide +kernel
theorem dX9_lookPointer_16 : decode cX9_lookPointer 16 = .ok (.iload 4, 2) := by decide +kernel
theorem dX9_lookPointer_18 : decode cX9_lookPointer 18 = .ok (.iaload, 1) := by decide +kernel
theorem dX9_lookPointer_19 : decode cX9_lookPointer 19 = .ok (.iconst 1, 1) := by decide +kernel
theorem dX9_lookPointer_20 : decode cX9_lookPointer 20 = .ok (.if_icmp .ne 7, 3) := by decide +kernel
theorem dX9_lookPointer_23 : decode cX9_lookPointer 23 = .ok (.iconst 1, 1) := by decide +kernel
theorem dX9_lookPointer_24 : decode cX9_lookPointer 24 = .ok (.goto 4, 3) := by decide +kernel
theorem dX9_lookPointer_27 : decode cX9_lookPointer 27 = .ok (.iconst 0, 1) := by decide +kernel
theorem dX9_lookPointer_28 : decode cX9_lookPointer 28 = .ok (.istore 5, 2) := by decide +kernel
theorem dX9_lookPointer_30 : decode cX9_lookPointer 30 = .ok (.iload 5, 2) := by decide +kernel
theorem dX9_lookPointer_32 : decode cX9_lookPointer 32 = .ok (.ifCond .eq 12, 3) := by decide +kernel
theorem dX9_lookPointer_35 : decode cX9_lookPointer 35 = .ok (.aload_n 0, 1) := by decide +kernel
theorem dX9_lookPointer_36 : decode cX9_lookPointer 36 = .ok (.getfield 16, 3) := by decide +kernel
theorem dX9_lookPointer_39 : decode cX9_lookPointer 39 = .ok (.iload_n 1, 1) := by decide +kernel
theorem dX9_lookPointer_40 : decode cX9_lookPointer 40 = .ok (.iaload, 1) := by decide +kernel
theorem dX9_lookPointer_41 : decode cX9_lookPointer 41 = .ok (.goto 5, 3) := by decide +kernel
theorem dX9_lookPointer_44 : decode cX9_lookPointer 44 = .ok (.iload 4, 2) := by decide +kernel
theorem dX9_lookPointer_46 : decode cX9_lookPointer 46 = .ok (.istore 6, 2) := by decide +kernel
theorem dX9_lookPointer_48 : decode cX9_lookPointer 48 = .ok (.iload 5, 2) := by decide +kernel
theorem dX9_lookPointer_50 : decode cX9_lookPointer 50 = .ok (.ifCond .eq 13, 3) := by decide +kernel
theorem dX9_lookPointer_53 : decode cX9_lookPointer 53 = .ok (.aload_n 0, 1) := by decide +kernel
theorem dX9_lookPointer_54 : decode cX9_lookPointer 54 = .ok (.getfield 109, 3) := by decide +kernel
theorem dX9_lookPointer_57 : decode cX9_lookPointer 57 = .ok (.iload 4, 2) := by decide +kernel
theorem dX9_lookPointer_59 : decode cX9_lookPointer 59 = .ok (.laload, 1) := by decide +kernel
theorem dX9_lookPointer_60 : decode cX9_lookPointer 60 = .ok (.goto 7, 3) := by decide +kernel
theorem dX9_lookPointer_63 : decode cX9_lookPointer 63 = .ok (.aload_n 0, 1) := by decide +kernel
theorem dX9_lookPointer_64 : decode cX9_lookPointer 64 = .ok (.getfield 400, 3) := by decide +kernel
theorem dX9_lookPointer_67 : decode cX9_lookPointer 67 = .ok (.lstore 7, 2) := by decide +kernel
theorem dX9_lookPointer_69 : decode cX9_lookPointer 69 = .ok (.iload 5, 2) := by decide +kernel
theorem dX9_lookPointer_71 : decode cX9_lookPointer 71 = .ok (.ifCond .eq 13, 3) := by decide +kernel
theorem dX9_lookPointer_74 : decode cX9_lookPointer 74 = .ok (.aload_n 0, 1) := by decide +kernel
theorem dX9_lookPointer_75 : decode cX9_lookPointer 75 = .ok (.getfield 112, 3) := by decide +kernel
theorem dX9_lookPointer_78 : decode cX9_lookPointer 78 = .ok (.iload 4, 2) := by decide +kernel
theorem dX9_lookPointer_80 : decode cX9_lookPointer 80 = .ok (.laload, 1) := by decide +kernel
theorem dX9_lookPointer_81 : decode cX9_lookPointer 81 = .ok (.goto 7, 3) := by decide +kernel
theorem dX9_lookPointer_84 : decode cX9_lookPointer 84 = .ok (.aload_n 0, 1) := by decide +kernel
theorem dX9_lookPointer_85 : decode cX9_lookPointer 85 = .ok (.getfield 403, 3) := by decide +kernel
theorem dX9_lookPointer_88 : decode cX9_lookPointer 88 = .ok (.lstore 9, 2) := by decide +kernel
theorem dX9_lookPointer_90 : decode cX9_lookPointer 90 = .ok (.aload_n 0, 1) := by decide +kernel
theorem dX9_lookPointer_91 : decode cX9_lookPointer 91 = .ok (.getfield 106, 3) := by decide +kernel
theorem dX9_lookPointer_94 : decode cX9_lookPointer 94 = .ok (.iload 6, 2) := by decide +kernel
theorem dX9_lookPointer_96 : decode cX9_lookPointer 96 = .ok (.iaload, 1) := by decide +kernel
theorem dX9_lookPointer_97 : decode cX9_lookPointer 97 = .ok (.invokestatic 421, 3) := by decide +kernel
theorem dX9_lookPointer_100 : decode cX9_lookPointer 100 = .ok (.ifCond .eq 20, 3) := by decide +kernel
theorem dX9_lookPointer_103 : decode cX9_lookPointer 103 = .ok (.iload 5, 2) := by decide +kernel
theorem dX9_lookPointer_105 : decode cX9_lookPointer 105 = .ok (.ifCond .ne 11, 3) := by decide +kernel
theorem dX9_lookPointer_108 : decode cX9_lookPointer 108 = .ok (.aload_n 0, 1) := by decide +kernel
theorem dX9_lookPointer_109 : decode cX9_lookPointer 109 = .ok (.getfield 397, 3) := by decide +kernel
theorem dX9_lookPointer_112 : decode cX9_lookPointer 112 = .ok (.iconst 1, 1) := by decide +kernel
theorem dX9_lookPointer_113 : decode cX9_lookPointer 113 = .ok (.if_icmp .ne 7, 3) := by decide +kernel
theorem dX9_lookPointer_116 : decode cX9_lookPointer 116 = .ok (.iconst 1, 1) := by decide +kernel
theorem dX9_lookPointer_117 : decode cX9_lookPointer 117 = .ok (.goto 4, 3) := by decide +kernel
theorem dX9_lookPointer_120 : decode cX9_lookPointer 120 = .ok (.iconst 0, 1) := by decide +kernel
theorem dX9_lookPointer_121 : decode cX9_lookPointer 121 = .ok (.istore 11, 2) := by decide +kernel
theorem dX9_lookPointer_123 : decode cX9_lookPointer 123 = .ok (.iload 11, 2) := by decide +kernel
theorem dX9_lookPointer_125 : decode cX9_lookPointer 125 = .ok (.ifCond .ne 5, 3) := by decide +kernel
theorem dX9_lookPointer_128 : decode cX9_lookPointer 128 = .ok (.iconst 3, 1) := by decide +kernel
theorem dX9_lookPointer_129 : decode cX9_lookPointer 129 = .ok (.ireturn, 1) := by decide +kernel
theorem dX9_lookPointer_130 : decode cX9_lookPointer 130 = .ok (.iload_n 3, 1) := by decide +kernel
theorem dX9_lookPointer_131 : decode cX9_lookPointer 131 = .ok (.ifCond .eq 22, 3) := by decide +kernel
theorem dX9_lookPointer_134 : decode cX9_lookPointer 134 = .ok (.ldc2_w 424, 3) := by decide +kernel
theorem dX9_lookPointer_137 : decode cX9_lookPointer 137 = .ok (.lload 9, 2) := by decide +kernel
theorem dX9_lookPointer_139 : decode cX9_lookPointer 139 = .ok (.invokestatic 175, 3) := by decide +kernel
theorem dX9_lookPointer_142 : decode cX9_lookPointer 142 = .ok (.ifCond .ne 7, 3) := by decide +kernel
theorem dX9_lookPointer_145 : decode cX9_lookPointer 145 = .ok (.iconst 1, 1) := by decide +kernel
theorem dX9_lookPointer_146 : decode cX9_lookPointer 146 = .ok (.goto 18, 3) := by decide +kernel
theorem dX9_lookPointer_149 : decode cX9_lookPointer 149 = .ok (.iconst 0, 1) := by decide +kernel
theorem dX9_lookPointer_150 : decode cX9_lookPointer 150 = .ok (.goto 14, 3) := by decide +kernel
theorem dX9_lookPointer_153 : decode cX9_lookPointer 153 = .ok (.lload 7, 2) := by decide +kernel
theorem dX9_lookPointer_155 : decode cX9_lookPointer 155 = .ok (.ldc2_w 426, 3) := by decide +kernel
theorem dX9_lookPointer_158 : decode cX9_lookPointer 158 = .ok (.ldc2_w 424, 3) := by decide +kernel
theorem dX9_lookPointer_161 : decode cX9_lookPointer 161 = .ok (.invokestatic 132, 3) := by decide +kernel
theorem dX9_lookPointer_164 : decode cX9_lookPointer 164 = .ok (.istore 12, 2) := by decide +kernel
theorem dX9_lookPointer_166 : decode cX9_lookPointer 166 = .ok (.iload 12, 2) := by decide +kernel
theorem dX9_lookPointer_168 : decode cX9_lookPointer 168 = .ok (.ifCond .eq 22, 3) := by decide +kernel
theorem dX9_lookPointer_171 : decode cX9_lookPointer 171 = .ok (.aload_n 0, 1) := by decide +kernel
theorem dX9_lookPointer_172 : decode cX9_lookPointer 172 = .ok (.getfield 106, 3) := by decide +kernel
theorem dX9_lookPointer_175 : decode cX9_lookPointer 175 = .ok (.iload 6, 2) := by decide +kernel
theorem dX9_lookPointer_177 : decode cX9_lookPointer 177 = .ok (.iaload, 1) := by decide +kernel
theorem dX9_lookPointer_178 : decode cX9_lookPointer 178 = .ok (.iconst 3, 1) := by decide +kernel
theorem dX9_lookPointer_179 : decode cX9_lookPointer 179 = .ok (.if_icmp .ne 13, 3) := by decide +kernel
theorem dX9_lookPointer_182 : decode cX9_lookPointer 182 = .ok (.lload 7, 2) := by decide +kernel
theorem dX9_lookPointer_184 : decode cX9_lookPointer 184 = .ok (.lload 9, 2) := by decide +kernel
theorem dX9_lookPointer_186 : decode cX9_lookPointer 186 = .ok (.lcmp, 1) := by decide +kernel
theorem dX9_lookPointer_187 : decode cX9_lookPointer 187 = .ok (.ifCond .eq 5, 3) := by decide +kernel
theorem dX9_lookPointer_190 : decode cX9_lookPointer 190 = .ok (.iconst 3, 1) := by decide +kernel
theorem dX9_lookPointer_191 : decode cX9_lookPointer 191 = .ok (.ireturn, 1) := by decide +kernel
theorem dX9_lookPointer_192 : decode cX9_lookPointer 192 = .ok (.iload_n 2, 1) := by decide +kernel
theorem dX9_lookPointer_193 : decode cX9_lookPointer 193 = .ok (.ifCond .ne 16, 3) := by decide +kernel
theorem dX9_lookPointer_196 : decode cX9_lookPointer 196 = .ok (.aload_n 0, 1) := by decide +kernel
theorem dX9_lookPointer_197 : decode cX9_lookPointer 197 = .ok (.getfield 109, 3) := by decide +kernel
theorem dX9_lookPointer_200 : decode cX9_lookPointer 200 = .ok (.iload 6, 2) := by decide +kernel
theorem dX9_lookPointer_202 : decode cX9_lookPointer 202 = .ok (.laload, 1) := by decide +kernel
theorem dX9_lookPointer_203 : decode cX9_lookPointer 203 = .ok (.lload 7, 2) := by decide +kernel
theorem dX9_lookPointer_205 : decode cX9_lookPointer 205 = .ok (.ladd, 1) := by decide +kernel
theorem dX9_lookPointer_206 : decode cX9_lookPointer 206 = .ok (.goto 13, 3) := by decide +kernel
theorem dX9_lookPointer_209 : decode cX9_lookPointer 209 = .ok (.aload_n 0, 1) := by decide +kernel
theorem dX9_lookPointer_210 : decode cX9_lookPointer 210 = .ok (.getfield 109, 3) := by decide +kernel
theorem dX9_lookPointer_213 : decode cX9_lookPointer 213 = .ok (.iload 6, 2) := by decide +kernel
theorem dX9_lookPointer_215 : decode cX9_lookPointer 215 = .ok (.laload, 1) := by decide +kernel
theorem dX9_lookPointer_216 : decode cX9_lookPointer 216 = .ok (.lload 9, 2) := by decide +kernel
theorem dX9_lookPointer_218 : decode cX9_lookPointer 218 = .ok (.lsub, 1) := by decide +kernel
theorem dX9_lookPointer_219 : decode cX9_lookPointer 219 = .ok (.lstore 13, 2) := by decide +kernel
theorem dX9_lookPointer_221 : decode cX9_lookPointer 221 = .ok (.iload_n 2, 1) := by decide +kernel
theorem dX9_lookPointer_222 : decode cX9_lookPointer 222 = .ok (.ifCond .ne 16, 3) := by decide +kernel
theorem dX9_lookPointer_225 : decode cX9_lookPointer 225 = .ok (.aload_n 0, 1) := by decide +kernel
theorem dX9_lookPointer_226 : decode cX9_lookPointer 226 = .ok (.getfield 112, 3) := by decide +kernel
theorem dX9_lookPointer_229 : decode cX9_lookPointer 229 = .ok (.iload 6, 2) := by decide +kernel
theorem dX9_lookPointer_231 : decode cX9_lookPointer 231 = .ok (.laload, 1) := by decide +kernel
theorem dX9_lookPointer_232 : decode cX9_lookPointer 232 = .ok (.lload 9, 2) := by decide +kernel
theorem dX9_lookPointer_234 : decode cX9_lookPointer 234 = .ok (.ladd, 1) := by decide +kernel
theorem dX9_lookPointer_235 : decode cX9_lookPointer 235 = .ok (.goto 13, 3) := by decide +kernel
theorem dX9_lookPointer_238 : decode cX9_lookPointer 238 = .ok (.aload_n 0, 1) := by decide +kernel
theorem dX9_lookPointer_239 : decode cX9_lookPointer 239 = .ok (.getfield 112, 3) := by decide +kernel
theorem dX9_lookPointer_242 : decode cX9_lookPointer 242 = .ok (.iload 6, 2) := by decide +kernel
theorem dX9_lookPointer_244 : decode cX9_lookPointer 244 = .ok (.laload, 1) := by decide +kernel
theorem dX9_lookPointer_245 : decode cX9_lookPointer 245 = .ok (.lload 7, 2) := by decide +kernel
theorem dX9_lookPointer_247 : decode cX9_lookPointer 247 = .ok (.lsub, 1) := by decide +kernel
theorem dX9_lookPointer_248 : decode cX9_lookPointer 248 = .ok (.lstore 15, 2) := by decide +kernel
theorem dX9_lookPointer_250 : decode cX9_lookPointer 250 = .ok (.aload_n 0, 1) := by decide +kernel
theorem dX9_lookPointer_251 : decode cX9_lookPointer 251 = .ok (.getfield 106, 3) := by decide +kernel
theorem dX9_lookPointer_254 : decode cX9_lookPointer 254 = .ok (.iload 6, 2) := by decide +kernel
theorem dX9_lookPointer_256 : decode cX9_lookPointer 256 = .ok (.iaload, 1) := by decide +kernel
theorem dX9_lookPointer_257 : decode cX9_lookPointer 257 = .ok (.iconst 3, 1) := by decide +kernel
theorem dX9_lookPointer_258 : decode cX9_lookPointer 258 = .ok (.if_icmp .ne 8, 3) := by decide +kernel
theorem dX9_lookPointer_261 : decode cX9_lookPointer 261 = .ok (.lload 13, 2) := by decide +kernel
theorem dX9_lookPointer_263 : decode cX9_lookPointer 263 = .ok (.goto 5, 3) := by decide +kernel
theorem dX9_lookPointer_266 : decode cX9_lookPointer 266 = .ok (.lload 15, 2) := by decide +kernel
theorem dX9_lookPointer_268 : decode cX9_lookPointer 268 = .ok (.lstore 15, 2) := by decide +kernel
theorem dX9_lookPointer_270 : decode cX9_lookPointer 270 = .ok (.lload 13, 2) := by decide +kernel
theorem dX9_lookPointer_272 : decode cX9_lookPointer 272 = .ok (.ldc2_w 428, 3) := by decide +kernel
theorem dX9_lookPointer_275 : decode cX9_lookPointer 275 = .ok (.ldc2_w 430, 3) := by decide +kernel
theorem dX9_lookPointer_278 : decode cX9_lookPointer 278 = .ok (.invokestatic 132, 3) := by decide +kernel
theorem dX9_lookPointer_281 : decode cX9_lookPointer 281 = .ok (.ifCond .eq 17, 3) := by decide +kernel
theorem dX9_lookPointer_284 : decode cX9_lookPointer 284 = .ok (.lload 15, 2) := by decide +kernel
theorem dX9_lookPointer_286 : decode cX9_lookPointer 286 = .ok (.ldc2_w 428, 3) := by decide +kernel
theorem dX9_lookPointer_289 : decode cX9_lookPointer 289 = .ok (.ldc2_w 430, 3) := by decide +kernel
theorem dX9_lookPointer_292 : decode cX9_lookPointer 292 = .ok (.invokestatic 132, 3) := by decide +kernel
theorem dX9_lookPointer_295 : decode cX9_lookPointer 295 = .ok (.ifCond .ne 5, 3) := by decide +kernel
theorem dX9_lookPointer_298 : decode cX9_lookPointer 298 = .ok (.iconst 3, 1) := by decide +kernel
theorem dX9_lookPointer_299 : decode cX9_lookPointer 299 = .ok (.ireturn, 1) := by decide +kernel
theorem dX9_lookPointer_300 : decode cX9_lookPointer 300 = .ok (.aload_n 0, 1) := by decide +kernel
theorem dX9_lookPointer_301 : decode cX9_lookPointer 301 = .ok (.getfield 106, 3) := by decide +kernel
theorem dX9_lookPointer_304 : decode cX9_lookPointer 304 = .ok (.iload 6, 2) := by decide +kernel
theorem dX9_lookPointer_306 : decode cX9_lookPointer 306 = .ok (.iaload, 1) := by decide +kernel
theorem dX9_lookPointer_307 : decode cX9_lookPointer 307 = .ok (.istore 17, 2) := by decide +kernel
theorem dX9_lookPointer_309 : decode cX9_lookPointer 309 = .ok (.aload_n 0, 1) := by decide +kernel
theorem dX9_lookPointer_310 : decode cX9_lookPointer 310 = .ok (.getfield 115, 3) := by decide +kernel
theorem dX9_lookPointer_313 : decode cX9_lookPointer 313 = .ok (.iload 6, 2) := by decide +kernel
theorem dX9_lookPointer_315 : decode cX9_lookPointer 315 = .ok (.iaload, 1) := by decide +kernel
theorem dX9_lookPointer_316 : decode cX9_lookPointer 316 = .ok (.istore 18, 2) := by decide +kernel
theorem dX9_lookPointer_318 : decode cX9_lookPointer 318 = .ok (.aload_n 0, 1) := by decide +kernel
theorem dX9_lookPointer_319 : decode cX9_lookPointer 319 = .ok (.iload 4, 2) := by decide +kernel
theorem dX9_lookPointer_321 : decode cX9_lookPointer 321 = .ok (.invokevirtual 351, 3) := by decide +kernel
theorem dX9_lookPointer_324 : decode cX9_lookPointer 324 = .ok (.aload_n 0, 1) := by decide +kernel
theorem dX9_lookPointer_325 : decode cX9_lookPointer 325 = .ok (.getfield 106, 3) := by decide +kernel
theorem dX9_lookPointer_328 : decode cX9_lookPointer 328 = .ok (.iload 4, 2) := by decide +kernel
theorem dX9_lookPointer_330 : decode cX9_lookPointer 330 = .ok (.iload 17, 2) := by decide +kernel
theorem dX9_lookPointer_332 : decode cX9_lookPointer 332 = .ok (.iastore, 1) := by decide +kernel
theorem dX9_lookPointer_333 : decode cX9_lookPointer 333 = .ok (.aload_n 0, 1) := by decide +kernel
theorem dX9_lookPointer_334 : decode cX9_lookPointer 334 = .ok (.getfield 109, 3) := by decide +kernel
theorem dX9_lookPointer_337 : decode cX9_lookPointer 337 = .ok (.iload 4, 2) := by decide +kernel
theorem dX9_lookPointer_339 : decode cX9_lookPointer 339 = .ok (.lload 13, 2) := by decide +kernel
theorem dX9_lookPointer_341 : decode cX9_lookPointer 341 = .ok (.lastore, 1) := by decide +kernel
theorem dX9_lookPointer_342 : decode cX9_lookPointer 342 = .ok (.aload_n 0, 1) := by decide +kernel
theorem dX9_lookPointer_343 : decode cX9_lookPointer 343 = .ok (.getfield 112, 3) := by decide +kernel
theorem dX9_lookPointer_346 : decode cX9_lookPointer 346 = .ok (.iload 4, 2) := by decide +kernel
theorem dX9_lookPointer_348 : decode cX9_lookPointer 348 = .ok (.iload 17, 2) := by decide +kernel
theorem dX9_lookPointer_350 : decode cX9_lookPointer 350 = .ok (.iconst 3, 1) := by decide +kernel
theorem dX9_lookPointer_351 : decode cX9_lookPointer 351 = .ok (.if_icmp .ne 7, 3) := by decide +kernel
theorem dX9_lookPointer_354 : decode cX9_lookPointer 354 = .ok (.lconst 0, 1) := by decide +kernel
theorem dX9_lookPointer_355 : decode cX9_lookPointer 355 = .ok (.goto 5, 3) := by decide +kernel
theorem dX9_lookPointer_358 : decode cX9_lookPointer 358 = .ok (.lload 15, 2) := by decide +kernel
theorem dX9_lookPointer_360 : decode cX9_lookPointer 360 = .ok (.lastore, 1) := by decide +kernel
theorem dX9_lookPointer_361 : decode cX9_lookPointer 361 = .ok (.aload_n 0, 1) := by decide +kernel
theorem dX9_lookPointer_362 : decode cX9_lookPointer 362 = .ok (.getfield 115, 3) := by decide +kernel
theorem dX9_lookPointer_365 : decode cX9_lookPointer 365 = .ok (.iload 4, 2) := by decide +kernel
theorem dX9_lookPointer_367 : decode cX9_lookPointer 367 = .ok (.iload 18, 2) := by decide +kernel
theorem dX9_lookPointer_369 : decode cX9_lookPointer 369 = .ok (.iastore, 1) := by decide +kernel
theorem dX9_lookPointer_370 : decode cX9_lookPointer 370 = .ok (.iconst 0, 1) := by decide +kernel
theorem dX9_lookPointer_371 : decode cX9_lookPointer 371 = .ok (.ireturn, 1) := by decide +kernel
theorem dX9_lookRegister_0 : decode cX9_lookRegister 0 = .ok (.aload_n 0, 1) := by decide +kernel
theorem dX9_lookRegister_1 : decode cX9_lookRegister 1 = .ok (.getfield 7, 3) := by decide +kernel
theorem dX9_lookRegister_4 : decode cX9_lookRegister 4 = .ok (.iload_n 1, 1) := by decide +kernel
theorem dX9_lookRegister_5 : decode cX9_lookRegister 5 = .ok (.iaload, 1) := by decide +kernel
theorem dX9_lookRegister_6 : decode cX9_lookRegister 6 = .ok (.iconst 4, 1) := by decide +kernel
theorem dX9_lookRegister_7 : decode cX9_lookRegister 7 = .ok (.ishr, 1) := by decide +kernel
theorem dX9_lookRegister_8 : decode cX9_lookRegister 8 = .ok (.istore_n 2, 1) := by decide +kernel
theorem dX9_lookRegister_9 : decode cX9_lookRegister 9 = .ok (.aload_n 0, 1) := by decide +kernel
theorem dX9_lookRegister_10 : decode cX9_lookRegister 10 = .ok (.getfield 7, 3) := by decide +kernel
theorem dX9_lookRegister_13 : decode cX9_lookRegister 13 = .ok (.iload_n 1, 1) := by decide +kernel
theorem dX9_lookRegister_14 : decode cX9_lookRegister 14 = .ok (.iaload, 1) := by decide +kernel
theorem dX9_lookRegister_15 : decode cX9_lookRegister 15 = .ok (.bipush 7, 2) := by decide +kernel
theorem dX9_lookRegister_17 : decode cX9_lookRegister 17 = .ok (.iand, 1) := by decide +kernel
theorem dX9_lookRegister_18 : decode cX9_lookRegister 18 = .ok (.bipush 7, 2) := by decide +kernel
theorem dX9_lookRegister_20 : decode cX9_lookRegister 20 = .ok (.if_icmp .ne 7, 3) := by decide +kernel
theorem dX9_lookRegister_23 : decode cX9_lookRegister 23 = .ok (.iconst 1, 1) := by decide +kernel
theorem dX9_lookRegister_24 : decode cX9_lookRegister 24 = .ok (.goto 4, 3) := by decide +kernel
theorem dX9_lookRegister_27 : decode cX9_lookRegister 27 = .ok (.iconst 0, 1) := by decide +kernel
theorem dX9_lookRegister_28 : decode cX9_lookRegister 28 = .ok (.istore_n 3, 1) := by decide +kernel
theorem dX9_lookRegister_29 : decode cX9_lookRegister 29 = .ok (.aload_n 0, 1) := by decide +kernel
theorem dX9_lookRegister_30 : decode cX9_lookRegister 30 = .ok (.getfield 7, 3) := by decide +kernel
theorem dX9_lookRegister_33 : decode cX9_lookRegister 33 = .ok (.iload_n 1, 1) := by decide +kernel
theorem dX9_lookRegister_34 : decode cX9_lookRegister 34 = .ok (.iaload, 1) := by decide +kernel
theorem dX9_lookRegister_35 : decode cX9_lookRegister 35 = .ok (.bipush 8, 2) := by decide +kernel
theorem dX9_lookRegister_37 : decode cX9_lookRegister 37 = .ok (.iand, 1) := by decide +kernel
theorem dX9_lookRegister_38 : decode cX9_lookRegister 38 = .ok (.ifCond .eq 13, 3) := by decide +kernel
theorem dX9_lookRegister_41 : decode cX9_lookRegister 41 = .ok (.iload_n 2, 1) := by decide +kernel
theorem dX9_lookRegister_42 : decode cX9_lookRegister 42 = .ok (.bipush 13, 2) := by decide +kernel
theorem dX9_lookRegister_44 : decode cX9_lookRegister 44 = .ok (.if_icmp .eq 7, 3) := by decide +kernel
theorem dX9_lookRegister_47 : decode cX9_lookRegister 47 = .ok (.iconst 1, 1) := by decide +kernel
theorem dX9_lookRegister_48 : decode cX9_lookRegister 48 = .ok (.goto 4, 3) := by decide +kernel
theorem dX9_lookRegister_51 : decode cX9_lookRegister 51 = .ok (.iconst 0, 1) := by decide +kernel
theorem dX9_lookRegister_52 : decode cX9_lookRegister 52 = .ok (.istore 4, 2) := by decide +kernel
theorem dX9_lookRegister_54 : decode cX9_lookRegister 54 = .ok (.aload_n 0, 1) := by decide +kernel
theorem dX9_lookRegister_55 : decode cX9_lookRegister 55 = .ok (.getfield 13, 3) := by decide +kernel
theorem dX9_lookRegister_58 : decode cX9_lookRegister 58 = .ok (.iload_n 1, 1) := by decide +kernel
theorem dX9_lookRegister_59 : decode cX9_lookRegister 59 = .ok (.iaload, 1) := by decide +kernel
theorem dX9_lookRegister_60 : decode cX9_lookRegister 60 = .ok (.istore 5, 2) := by decide +kernel
theorem dX9_lookRegister_62 : decode cX9_lookRegister 62 = .ok (.aload_n 0, 1) := by decide +kernel
theorem dX9_lookRegister_63 : decode cX9_lookRegister 63 = .ok (.iload_n 1, 1) := by decide +kernel
theorem dX9_lookRegister_64 : decode cX9_lookRegister 64 = .ok (.invokevirtual 406, 3) := by decide +kernel
theorem dX9_lookRegister_67 : decode cX9_lookRegister 67 = .ok (.iload_n 2, 1) := by decide +kernel
theorem dX9_lookRegister_68 : decode cX9_lookRegister 68 = .ok (.bipush 11, 2) := by decide +kernel
theorem dX9_lookRegister_70 : decode cX9_lookRegister 70 = .ok (.if_icmp .eq 13, 3) := by decide +kernel
theorem dX9_lookRegister_73 : decode cX9_lookRegister 73 = .ok (.aload_n 0, 1) := by decide +kernel
theorem dX9_lookRegister_74 : decode cX9_lookRegister 74 = .ok (.getfield 106, 3) := by decide +kernel
theorem dX9_lookRegister_77 : decode cX9_lookRegister 77 = .ok (.iload 5, 2) := by decide +kernel
theorem dX9_lookRegister_79 : decode cX9_lookRegister 79 = .ok (.iaload, 1) := by decide +kernel
theorem dX9_lookRegister_80 : decode cX9_lookRegister 80 = .ok (.ifCond .eq 15, 3) := by decide +kernel
theorem dX9_lookRegister_83 : decode cX9_lookRegister 83 = .ok (.iload 4, 2) := by decide +kernel
theorem dX9_lookRegister_85 : decode cX9_lookRegister 85 = .ok (.ifCond .eq 12, 3) := by decide +kernel
theorem dX9_lookRegister_88 : decode cX9_lookRegister 88 = .ok (.aload_n 0, 1) := by decide +kernel
theorem dX9_lookRegister_89 : decode cX9_lookRegister 89 = .ok (.getfield 397, 3) := by decide +kernel
theorem dX9_lookRegister_92 : decode cX9_lookRegister 92 = .ok (.ifCond .ne 5, 3) := by decide +kernel
theorem dX9_lookRegister_95 : decode cX9_lookRegister 95 = .ok (.iconst 2, 1) := by decide +kernel
theorem dX9_lookRegister_96 : decode cX9_lookRegister 96 = .ok (.ireturn, 1) := by decide +kernel
theorem dX9_lookRegister_97 : decode cX9_lookRegister 97 = .ok (.iload_n 2, 1) := by decide +kernel
theorem dX9_lookRegister_98 : decode cX9_lookRegister 98 = .ok (.bipush 11, 2) := by decide +kernel
theorem dX9_lookRegister_100 : decode cX9_lookRegister 100 = .ok (.if_icmp .ne 35, 3) := by decide +kernel
theorem dX9_lookRegister_103 : decode cX9_lookRegister 103 = .ok (.iload_n 3, 1) := by decide +kernel
theorem dX9_lookRegister_104 : decode cX9_lookRegister 104 = .ok (.ifCond .eq 31, 3) := by decide +kernel
theorem dX9_lookRegister_107 : decode cX9_lookRegister 107 = .ok (.iload 4, 2) := by decide +kernel
theorem dX9_lookRegister_109 : decode cX9_lookRegister 109 = .ok (.ifCond .eq 26, 3) := by decide +kernel
theorem dX9_lookRegister_112 : decode cX9_lookRegister 112 = .ok (.aload_n 0, 1) := by decide +kernel
theorem dX9_lookRegister_113 : decode cX9_lookRegister 113 = .ok (.getfield 19, 3) := by decide +kernel
theorem dX9_lookRegister_116 : decode cX9_lookRegister 116 = .ok (.iload_n 1, 1) := by decide +kernel
theorem dX9_lookRegister_117 : decode cX9_lookRegister 117 = .ok (.iaload, 1) := by decide +kernel
theorem dX9_lookRegister_118 : decode cX9_lookRegister 118 = .ok (.ifCond .ne 17, 3) := by decide +kernel
theorem dX9_lookRegister_121 : decode cX9_lookRegister 121 = .ok (.aload_n 0, 1) := by decide +kernel
theorem dX9_lookRegister_122 : decode cX9_lookRegister 122 = .ok (.aload_n 0, 1) := by decide +kernel
theorem dX9_lookRegister_123 : decode cX9_lookRegister 123 = .ok (.getfield 16, 3) := by decide +kernel
theorem dX9_lookRegister_126 : decode cX9_lookRegister 126 = .ok (.iload_n 1, 1) := by decide +kernel
theorem dX9_lookRegister_127 : decode cX9_lookRegister 127 = .ok (.iaload, 1) := by decide +kernel
theorem dX9_lookRegister_128 : decode cX9_lookRegister 128 = .ok (.iload 5, 2) := by decide +kernel
theorem dX9_lookRegister_130 : decode cX9_lookRegister 130 = .ok (.invokevirtual 409, 3) := by decide +kernel
theorem dX9_lookRegister_133 : decode cX9_lookRegister 133 = .ok (.iconst 0, 1) := by decide +kernel
theorem dX9_lookRegister_134 : decode cX9_lookRegister 134 = .ok (.ireturn, 1) := by decide +kernel
theorem dX9_lookRegister_135 : decode cX9_lookRegister 135 = .ok (.aload_n 0, 1) := by decide +kernel
theorem dX9_lookRegister_136 : decode cX9_lookRegister 136 = .ok (.getfield 397, 3) := by decide +kernel
theorem dX9_lookRegister_139 : decode cX9_lookRegister 139 = .ok (.iconst 1, 1) := by decide +kernel
theorem dX9_lookRegister_140 : decode cX9_lookRegister 140 = .ok (.if_icmp .ne 29, 3) := by decide +kernel
theorem dX9_lookRegister_143 : decode cX9_lookRegister 143 = .ok (.iload_n 2, 1) := by decide +kernel
theorem dX9_lookRegister_144 : decode cX9_lookRegister 144 = .ok (.bipush 11, 2) := by decide +kernel
theorem dX9_lookRegister_146 : decode cX9_lookRegister 146 = .ok (.if_icmp .eq 14, 3) := by decide +kernel
theorem dX9_lookRegister_149 : decode cX9_lookRegister 149 = .ok (.aload_n 0, 1) := by decide +kernel
theorem dX9_lookRegister_150 : decode cX9_lookRegister 150 = .ok (.getfield 106, 3) := by decide +kernel
theorem dX9_lookRegister_153 : decode cX9_lookRegister 153 = .ok (.iload 5, 2) := by decide +kernel
theorem dX9_lookRegister_155 : decode cX9_lookRegister 155 = .ok (.iaload, 1) := by decide +kernel
theorem dX9_lookRegister_156 : decode cX9_lookRegister 156 = .ok (.iconst 1, 1) := by decide +kernel
theorem dX9_lookRegister_157 : decode cX9_lookRegister 157 = .ok (.if_icmp .ne 12, 3) := by decide +kernel
theorem dX9_lookRegister_160 : decode cX9_lookRegister 160 = .ok (.aload_n 0, 1) := by decide +kernel
theorem dX9_lookRegister_161 : decode cX9_lookRegister 161 = .ok (.iload_n 1, 1) := by decide +kernel
theorem dX9_lookRegister_162 : decode cX9_lookRegister 162 = .ok (.iload_n 2, 1) := by decide +kernel
theorem dX9_lookRegister_163 : decode cX9_lookRegister 163 = .ok (.iload_n 3, 1) := by decide +kernel
theorem dX9_lookRegister_164 : decode cX9_lookRegister 164 = .ok (.invokevirtual 413, 3) := by decide +kernel
theorem dX9_lookRegister_167 : decode cX9_lookRegister 167 = .ok (.iconst 0, 1) := by decide +kernel
theorem dX9_lookRegister_168 : decode cX9_lookRegister 168 = .ok (.ireturn, 1) := by decide +kernel
theorem dX9_lookRegister_169 : decode cX9_lookRegister 169 = .ok (.iload_n 3, 1) := by decide +kernel
theorem dX9_lookRegister_170 : decode cX9_lookRegister 170 = .ok (.ifCond .eq 19, 3) := by decide +kernel
theorem dX9_lookRegister_173 : decode cX9_lookRegister 173 = .ok (.iload_n 2, 1) := by decide +kernel
theorem dX9_lookRegister_174 : decode cX9_lookRegister 174 = .ok (.iconst 2, 1) := by decide +kernel
theorem dX9_lookRegister_175 : decode cX9_lookRegister 175 = .ok (.if_icmp .ge 14, 3) := by decide +kernel
theorem dX9_lookRegister_178 : decode cX9_lookRegister 178 = .ok (.aload_n 0, 1) := by decide +kernel
theorem dX9_lookRegister_179 : decode cX9_lookRegister 179 = .ok (.iload_n 1, 1) := by decide +kernel
theorem dX9_lookRegister_180 : decode cX9_lookRegister 180 = .ok (.iload_n 2, 1) := by decide +kernel
theorem dX9_lookRegister_181 : decode cX9_lookRegister 181 = .ok (.iload 4, 2) := by decide +kernel
theorem dX9_lookRegister_183 : decode cX9_lookRegister 183 = .ok (.invokevirtual 417, 3) := by decide +kernel
theorem dX9_lookRegister_186 : decode cX9_lookRegister 186 = .ok (.goto 4, 3) := by decide +kernel
theorem dX9_lookRegister_189 : decode cX9_lookRegister 189 = .ok (.iconst 3, 1) := by decide +kernel
theorem dX9_lookRegister_190 : decode cX9_lookRegister 190 = .ok (.ireturn, 1) := by decide +kernel
theorem dX9_onward_0 : decode cX9_onward 0 = .ok (.iload_n 1, 1) := by decide +kernel
theorem dX9_onward_1 : decode cX9_onward 1 = .ok (.ifCond .le 5, 3) := by decide +kernel
theorem dX9_onward_4 : decode cX9_onward 4 = .ok (.iload_n 1, 1) := by decide +kernel
theorem dX9_onward_5 : decode cX9_onward 5 = .ok (.ireturn, 1) := by decide +kernel
theorem dX9_onward_6 : decode cX9_onward 6 = .ok (.aload_n 0, 1) := by decide +kernel
theorem dX9_onward_7 : decode cX9_onward 7 = .ok (.iload_n 2, 1) := by decide +kernel
theorem dX9_onward_8 : decode cX9_onward 8 = .ok (.invokevirtual 390, 3) := by decide +kernel
theorem dX9_onward_11 : decode cX9_onward 11 = .ok (.ifCond .ne 6, 3) := by decide +kernel
theorem dX9_onward_14 : decode cX9_onward 14 = .ok (.bipush 6, 2) := by decide +kernel
theorem dX9_onward_16 : decode cX9_onward 16 = .ok (.ireturn, 1) := by decide +kernel
theorem dX9_onward_17 : decode cX9_onward 17 = .ok (.aload_n 0, 1) := by decide +kernel
theorem dX9_onward_18 : decode cX9_onward 18 = .ok (.iload_n 2, 1) := by decide +kernel
theorem dX9_onward_19 : decode cX9_onward 19 = .ok (.invokevirtual 355, 3) := by decide +kernel
theorem dX9_onward_22 : decode cX9_onward 22 = .ok (.iconst 0, 1) := by decide +kernel
theorem dX9_onward_23 : decode cX9_onward 23 = .ok (.ireturn, 1) := by decide +kernel
theorem dX9_otherCode_0 : decode cX9_otherCode 0 = .ok (.iload_n 0, 1) := by decide +kernel
theorem dX9_otherCode_1 : decode cX9_otherCode 1 = .ok (.iconst 1, 1) := by decide +kernel
theorem dX9_otherCode_2 : decode cX9_otherCode 2 = .ok (.if_icmp .ne 7, 3) := by decide +kernel
theorem dX9_otherCode_5 : decode cX9_otherCode 5 = .ok (.iconst 5, 1) := by decide +kernel
theorem dX9_otherCode_6 : decode cX9_otherCode 6 = .ok (.goto 43, 3) := by decide +kernel
theorem dX9_otherCode_9 : decode cX9_otherCode 9 = .ok (.iload_n 0, 1) := by decide +kernel
theorem dX9_otherCode_10 : decode cX9_otherCode 10 = .ok (.iconst 5, 1) := by decide +kernel
theorem dX9_otherCode_11 : decode cX9_otherCode 11 = .ok (.if_icmp .ne 7, 3) := by decide +kernel
theorem dX9_otherCode_14 : decode cX9_otherCode 14 = .ok (.iconst 1, 1) := by decide +kernel
theorem dX9_otherCode_15 : decode cX9_otherCode 15 = .ok (.goto 34, 3) := by decide +kernel
theorem dX9_otherCode_18 : decode cX9_otherCode 18 = .ok (.iload_n 0, 1) := by decide +kernel
theorem dX9_otherCode_19 : decode cX9_otherCode 19 = .ok (.iconst 2, 1) := by decide +kernel
theorem dX9_otherCode_20 : decode cX9_otherCode 20 = .ok (.if_icmp .ne 8, 3) := by decide +kernel
theorem dX9_otherCode_23 : decode cX9_otherCode 23 = .ok (.bipush 11, 2) := by decide +kernel
theorem dX9_otherCode_25 : decode cX9_otherCode 25 = .ok (.goto 24, 3) := by decide +kernel
theorem dX9_otherCode_28 : decode cX9_otherCode 28 = .ok (.iload_n 0, 1) := by decide +kernel
theorem dX9_otherCode_29 : decode cX9_otherCode 29 = .ok (.bipush 11, 2) := by decide +kernel
theorem dX9_otherCode_31 : decode cX9_otherCode 31 = .ok (.if_icmp .ne 7, 3) := by decide +kernel
theorem dX9_otherCode_34 : decode cX9_otherCode 34 = .ok (.iconst 2, 1) := by decide +kernel
theorem dX9_otherCode_35 : decode cX9_otherCode 35 = .ok (.goto 14, 3) := by decide +kernel
theorem dX9_otherCode_38 : decode cX9_otherCode 38 = .ok (.iload_n 0, 1) := by decide +kernel
theorem dX9_otherCode_39 : decode cX9_otherCode 39 = .ok (.iconst 3, 1) := by decide +kernel
theorem dX9_otherCode_40 : decode cX9_otherCode 40 = .ok (.if_icmp .ne 8, 3) := by decide +kernel
theorem dX9_otherCode_43 : decode cX9_otherCode 43 = .ok (.bipush 10, 2) := by decide +kernel
theorem dX9_otherCode_45 : decode cX9_otherCode 45 = .ok (.goto 4, 3) := by decide +kernel
theorem dX9_otherCode_48 : decode cX9_otherCode 48 = .ok (.iconst 3, 1) := by decide +kernel
theorem dX9_otherCode_49 : decode cX9_otherCode 49 = .ok (.ireturn, 1) := by decide +kernel
theorem dX9_settle_0 : decode cX9_settle 0 = .ok (.iconst 0, 1) := by decide +kernel
theorem dX9_settle_1 : decode cX9_settle 1 = .ok (.istore_n 3, 1) := by decide +kernel
theorem dX9_settle_2 : decode cX9_settle 2 = .ok (.iload_n 3, 1) := by decide +kernel
theorem dX9_settle_3 : decode cX9_settle 3 = .ok (.bipush 75, 2) := by decide +kernel
theorem dX9_settle_5 : decode cX9_settle 5 = .ok (.if_icmp .ge 115, 3) := by decide +kernel
theorem dX9_settle_8 : decode cX9_settle 8 = .ok (.aload_n 0, 1) := by decide +kernel
theorem dX9_settle_9 : decode cX9_settle 9 = .ok (.getfield 106, 3) := by decide +kernel
theorem dX9_settle_12 : decode cX9_settle 12 = .ok (.iload_n 3, 1) := by decide +kernel
theorem dX9_settle_13 : decode cX9_settle 13 = .ok (.iaload, 1) := by decide +kernel
theorem dX9_settle_14 : decode cX9_settle 14 = .ok (.bipush 6, 2) := by decide +kernel
theorem dX9_settle_16 : decode cX9_settle 16 = .ok (.if_icmp .ne 98, 3) := by decide +kernel
theorem dX9_settle_19 : decode cX9_settle 19 = .ok (.aload_n 0, 1) := by decide +kernel
theorem dX9_settle_20 : decode cX9_settle 20 = .ok (.getfield 118, 3) := by decide +kernel
theorem dX9_settle_23 : decode cX9_settle 23 = .ok (.iload_n 3, 1) := by decide +kernel
theorem dX9_settle_24 : decode cX9_settle 24 = .ok (.iaload, 1) := by decide +kernel
theorem dX9_settle_25 : decode cX9_settle 25 = .ok (.iload_n 1, 1) := by decide +kernel
theorem dX9_settle_26 : decode cX9_settle 26 = .ok (.if_icmp .ne 88, 3) := by decide +kernel
theorem dX9_settle_29 : decode cX9_settle 29 = .ok (.aload_n 0, 1) := by decide +kernel
theorem dX9_settle_30 : decode cX9_settle 30 = .ok (.getfield 115, 3) := by decide +kernel
theorem dX9_settle_33 : decode cX9_settle 33 = .ok (.iload_n 3, 1) := by decide +kernel
theorem dX9_settle_34 : decode cX9_settle 34 = .ok (.iaload, 1) := by decide +kernel
theorem dX9_settle_35 : decode cX9_settle 35 = .ok (.istore 4, 2) := by decide +kernel
theorem dX9_settle_37 : decode cX9_settle 37 = .ok (.iload_n 2, 1) := by decide +kernel
theorem dX9_settle_38 : decode cX9_settle 38 = .ok (.ifCond .eq 56, 3) := by decide +kernel
theorem dX9_settle_41 : decode cX9_settle 41 = .ok (.aload_n 0, 1) := by decide +kernel
theorem dX9_settle_42 : decode cX9_settle 42 = .ok (.iload_n 3, 1) := by decide +kernel
theorem dX9_settle_43 : decode cX9_settle 43 = .ok (.lconst 0, 1) := by decide +kernel
theorem dX9_settle_44 : decode cX9_settle 44 = .ok (.lconst 0, 1) := by decide +kernel
theorem dX9_settle_45 : decode cX9_settle 45 = .ok (.invokevirtual 393, 3) := by decide +kernel
theorem dX9_settle_48 : decode cX9_settle 48 = .ok (.bipush 8, 2) := by decide +kernel
theorem dX9_settle_50 : decode cX9_settle 50 = .ok (.iload_n 3, 1) := by decide +kernel
theorem dX9_settle_51 : decode cX9_settle 51 = .ok (.bipush 11, 2) := by decide +kernel
theorem dX9_settle_53 : decode cX9_settle 53 = .ok (.isub, 1) := by decide +kernel
theorem dX9_settle_54 : decode cX9_settle 54 = .ok (.imul, 1) := by decide +kernel
theorem dX9_settle_55 : decode cX9_settle 55 = .ok (.istore 5, 2) := by decide +kernel
theorem dX9_settle_57 : decode cX9_settle 57 = .ok (.iload 5, 2) := by decide +kernel
theorem dX9_settle_59 : decode cX9_settle 59 = .ok (.ifCond .lt 32, 3) := by decide +kernel
theorem dX9_settle_62 : decode cX9_settle 62 = .ok (.iload 5, 2) := by decide +kernel
theorem dX9_settle_64 : decode cX9_settle 64 = .ok (.bipush 8, 2) := by decide +kernel
theorem dX9_settle_66 : decode cX9_settle 66 = .ok (.iload_n 3, 1) := by decide +kernel
theorem dX9_settle_67 : decode cX9_settle 67 = .ok (.bipush 11, 2) := by decide +kernel
theorem dX9_settle_69 : decode cX9_settle 69 = .ok (.isub, 1) := by decide +kernel
theorem dX9_settle_70 : decode cX9_settle 70 = .ok (.imul, 1) := by decide +kernel
theorem dX9_settle_71 : decode cX9_settle 71 = .ok (.bipush 8, 2) := by decide +kernel
theorem dX9_settle_73 : decode cX9_settle 73 = .ok (.iadd, 1) := by decide +kernel
theorem dX9_settle_74 : decode cX9_settle 74 = .ok (.if_icmp .ge 17, 3) := by decide +kernel
theorem dX9_settle_77 : decode cX9_settle 77 = .ok (.aload_n 0, 1) := by decide +kernel
theorem dX9_settle_78 : decode cX9_settle 78 = .ok (.getfield 121, 3) := by decide +kernel
theorem dX9_settle_81 : decode cX9_settle 81 = .ok (.iload 5, 2) := by decide +kernel
theorem dX9_settle_83 : decode cX9_settle 83 = .ok (.iconst 1, 1) := by decide +kernel
theorem dX9_settle_84 : decode cX9_settle 84 = .ok (.bastore, 1) := by decide +kernel
theorem dX9_settle_85 : decode cX9_settle 85 = .ok (.iinc 5 1, 3) := by decide +kernel
theorem dX9_settle_88 : decode cX9_settle 88 = .ok (.goto (-31), 3) := by decide +kernel
theorem dX9_settle_91 : decode cX9_settle 91 = .ok (.goto 23, 3) := by decide +kernel
theorem dX9_settle_94 : decode cX9_settle 94 = .ok (.aload_n 0, 1) := by decide +kernel
theorem dX9_settle_95 : decode cX9_settle 95 = .ok (.iload_n 3, 1) := by decide +kernel
theorem dX9_settle_96 : decode cX9_settle 96 = .ok (.invokevirtual 351, 3) := by decide +kernel
theorem dX9_settle_99 : decode cX9_settle 99 = .ok (.aload_n 0, 1) := by decide +kernel
theorem dX9_settle_100 : decode cX9_settle 100 = .ok (.getfield 106, 3) := by decide +kernel
theorem dX9_settle_103 : decode cX9_settle 103 = .ok (.iload_n 3, 1) := by decide +kernel
theorem dX9_settle_104 : decode cX9_settle 104 = .ok (.iconst 5, 1) := by decide +kernel
theorem dX9_settle_105 : decode cX9_settle 105 = .ok (.iastore, 1) := by decide +kernel
theorem dX9_settle_106 : decode cX9_settle 106 = .ok (.aload_n 0, 1) := by decide +kernel
theorem dX9_settle_107 : decode cX9_settle 107 = .ok (.getfield 115, 3) := by decide +kernel
theorem dX9_settle_110 : decode cX9_settle 110 = .ok (.iload_n 3, 1) := by decide +kernel
theorem dX9_settle_111 : decode cX9_settle 111 = .ok (.iload 4, 2) := by decide +kernel
theorem dX9_settle_113 : decode cX9_settle 113 = .ok (.iastore, 1) := by decide +kernel
theorem dX9_settle_114 : decode cX9_settle 114 = .ok (.iinc 3 1, 3) := by decide +kernel
theorem dX9_settle_117 : decode cX9_settle 117 = .ok (.goto (-115), 3) := by decide +kernel
theorem dX9_settle_120 : decode cX9_settle 120 = .ok (.return_, 1) := by decide +kernel
-- JudgedCodeModel.isPointer
def f_X9_isPointer_15 : Option Int32 := some (1 : Int32)
def f_X9_isPointer (x0 : Int32) : Option Int32 := if x0 = (2 : Int32) then (f_X9_isPointer_15) else (if x0 = (3 : Int32) then (f_X9_isPointer_15) else (if x0 = (5 : Int32) then (f_X9_isPointer_15) else (some (0 : Int32))))
-- JudgedCodeModel.lookPointer
def f_X9_lookPointer_360 (S : sh) (o0 : Nat) (x4 : Int32) (x18 : Int32) (os0 : Nat) (xs1 : Int32) (xs2 : Int64) (D : dt) : Option (Int32 × dt) := ix xs1 (sA S os0) <| nm (pL D os0 xs1.toNatClampNeg xs2) fun D131 => rq (gR D131 o0 43) fun o132 => ix x4 (sA S o132) <| nm (pI D131 o132 x4.toNatClampNeg x18) fun D137 => some ((0 : Int32), D137)
def f_X9_lookPointer_268 (S : sh) (o0 : Nat) (x4 : Int32) (x6 : Int32) (x13 : Int64) (xs0 : Int64) (D : dt) : Option (Int32 × dt) := pq (f_X9_in x13 (-1048576 : Int64) (1048576 : Int64)) fun r139 => if r139 = 0 then (some ((3 : Int32), D)) else (pq (f_X9_in xs0 (-1048576 : Int64) (1048576 : Int64)) fun r142 => if r142 = 0 then (some ((3 : Int32), D)) else (rq (gR D o0 40) fun o144 => ix x6 (sA S o144) <| nm (gI D o144 x6.toNatClampNeg) fun y149 => rq (gR D o0 43) fun o150 => ix x6 (sA S o150) <| nm (gI D o150 x6.toNatClampNeg) fun y155 => cq (f_X9_forget S o0 x4 D) fun _ D157 => rq (gR D157 o0 40) fun o158 => ix x4 (sA S o158) <| nm (pI D157 o158 x4.toNatClampNeg y149) fun D163 => rq (gR D163 o0 41) fun o164 => ix x4 (sA S o164) <| nm (pL D163 o164 x4.toNatClampNeg x13) fun D169 => rq (gR D169 o0 42) fun o170 => if y149 = (3 : Int32) then (f_X9_lookPointer_360 S o0 x4 y155 o170 x4 (0 : Int64) D169) else (f_X9_lookPointer_360 S o0 x4 y155 o170 x4 xs0 D169)))
def f_X9_lookPointer_248 (S : sh) (o0 : Nat) (x4 : Int32) (x6 : Int32) (x13 : Int64) (xs0 : Int64) (D : dt) : Option (Int32 × dt) := rq (gR D o0 40) fun o175 => ix x6 (sA S o175) <| if (gI D o175 x6.toNatClampNeg) = (3 : Int32) then (f_X9_lookPointer_268 S o0 x4 x6 x13 x13 D) else (f_X9_lookPointer_268 S o0 x4 x6 x13 xs0 D)
def f_X9_lookPointer_219 (S : sh) (o0 : Nat) (x2 : Int32) (x4 : Int32) (x6 : Int32) (x7 : Int64) (x9 : Int64) (xs0 : Int64) (D : dt) : Option (Int32 × dt) := if x2 = 0 then (rq (gR D o0 42) fun o187 => ix x6 (sA S o187) <| f_X9_lookPointer_248 S o0 x4 x6 xs0 ((gL D o187 x6.toNatClampNeg) + x9) D) else (rq (gR D o0 42) fun o182 => ix x6 (sA S o182) <| f_X9_lookPointer_248 S o0 x4 x6 xs0 ((gL D o182 x6.toNatClampNeg) - x7) D)
def f_X9_lookPointer_192 (S : sh) (o0 : Nat) (x2 : Int32) (x4 : Int32) (x6 : Int32) (x7 : Int64) (x9 : Int64) (D : dt) : Option (Int32 × dt) := if x2 = 0 then (rq (gR D o0 41) fun o198 => ix x6 (sA S o198) <| f_X9_lookPointer_219 S o0 x2 x4 x6 x7 x9 ((gL D o198 x6.toNatClampNeg) + x7) D) else (rq (gR D o0 41) fun o193 => ix x6 (sA S o193) <| f_X9_lookPointer_219 S o0 x2 x4 x6 x7 x9 ((gL D o193 x6.toNatClampNeg) - x9) D)
def f_X9_lookPointer_164 (S : sh) (o0 : Nat) (x2 : Int32) (x4 : Int32) (x6 : Int32) (x7 : Int64) (x9 : Int64) (xs0 : Int32) (D : dt) : Option (Int32 × dt) := if xs0 = 0 then (some ((3 : Int32), D)) else (rq (gR D o0 40) fun o204 => ix x6 (sA S o204) <| if (gI D o204 x6.toNatClampNeg) = (3 : Int32) then (if (lg_cmp x7 x9) = 0 then (f_X9_lookPointer_192 S o0 x2 x4 x6 x7 x9 D) else (some ((3 : Int32), D))) else (f_X9_lookPointer_192 S o0 x2 x4 x6 x7 x9 D))
def f_X9_lookPointer_121 (S : sh) (o0 : Nat) (x2 : Int32) (x3 : Int32) (x4 : Int32) (x6 : Int32) (x7 : Int64) (x9 : Int64) (xs0 : Int32) (D : dt) : Option (Int32 × dt) := if xs0 = 0 then (some ((3 : Int32), D)) else (if x3 = 0 then (pq (f_X9_in x7 (-65536 : Int64) (65536 : Int64)) fun r214 => f_X9_lookPointer_164 S o0 x2 x4 x6 x7 x9 r214 D) else (pq (f_X9_isBelow (65536 : Int64) x9) fun r216 => if r216 = 0 then (f_X9_lookPointer_164 S o0 x2 x4 x6 x7 x9 (1 : Int32) D) else (f_X9_lookPointer_164 S o0 x2 x4 x6 x7 x9 (0 : Int32) D)))
def f_X9_lookPointer_120 (S : sh) (o0 : Nat) (x2 : Int32) (x3 : Int32) (x4 : Int32) (x6 : Int32) (x7 : Int64) (x9 : Int64) (D : dt) : Option (Int32 × dt) := f_X9_lookPointer_121 S o0 x2 x3 x4 x6 x7 x9 (0 : Int32) D
def f_X9_lookPointer_116 (S : sh) (o0 : Nat) (x2 : Int32) (x3 : Int32) (x4 : Int32) (x6 : Int32) (x7 : Int64) (x9 : Int64) (D : dt) : Option (Int32 × dt) := f_X9_lookPointer_121 S o0 x2 x3 x4 x6 x7 x9 (1 : Int32) D
def f_X9_lookPointer_88 (S : sh) (o0 : Nat) (x2 : Int32) (x3 : Int32) (x4 : Int32) (x5 : Int32) (x6 : Int32) (x7 : Int64) (xs0 : Int64) (D : dt) : Option (Int32 × dt) := rq (gR D o0 40) fun o218 => ix x6 (sA S o218) <| pq (f_X9_isPointer (gI D o218 x6.toNatClampNeg)) fun r224 => if r224 = 0 then (f_X9_lookPointer_120 S o0 x2 x3 x4 x6 x7 xs0 D) else (if x5 = 0 then (if (gI D o0 50) = (1 : Int32) then (f_X9_lookPointer_116 S o0 x2 x3 x4 x6 x7 xs0 D) else (f_X9_lookPointer_120 S o0 x2 x3 x4 x6 x7 xs0 D)) else (f_X9_lookPointer_116 S o0 x2 x3 x4 x6 x7 xs0 D))
def f_X9_lookPointer_67 (S : sh) (o0 : Nat) (x2 : Int32) (x3 : Int32) (x4 : Int32) (x5 : Int32) (x6 : Int32) (xs0 : Int64) (D : dt) : Option (Int32 × dt) := if x5 = 0 then (f_X9_lookPointer_88 S o0 x2 x3 x4 x5 x6 xs0 (gL D o0 52) D) else (rq (gR D o0 42) fun o229 => ix x4 (sA S o229) <| f_X9_lookPointer_88 S o0 x2 x3 x4 x5 x6 xs0 (gL D o229 x4.toNatClampNeg) D)
def f_X9_lookPointer_46 (S : sh) (o0 : Nat) (x2 : Int32) (x3 : Int32) (x4 : Int32) (x5 : Int32) (xs0 : Int32) (D : dt) : Option (Int32 × dt) := if x5 = 0 then (f_X9_lookPointer_67 S o0 x2 x3 x4 x5 xs0 (gL D o0 51) D) else (rq (gR D o0 41) fun o235 => ix x4 (sA S o235) <| f_X9_lookPointer_67 S o0 x2 x3 x4 x5 xs0 (gL D o235 x4.toNatClampNeg) D)
def f_X9_lookPointer_28 (S : sh) (o0 : Nat) (x1 : Int32) (x2 : Int32) (x3 : Int32) (x4 : Int32) (xs0 : Int32) (D : dt) : Option (Int32 × dt) := if xs0 = 0 then (f_X9_lookPointer_46 S o0 x2 x3 x4 xs0 x4 D) else (rq (gR D o0 3) fun o241 => ix x1 (sA S o241) <| f_X9_lookPointer_46 S o0 x2 x3 x4 xs0 (gI D o241 x1.toNatClampNeg) D)
def f_X9_lookPointer_27 (S : sh) (o0 : Nat) (x1 : Int32) (x2 : Int32) (x3 : Int32) (x4 : Int32) (D : dt) : Option (Int32 × dt) := f_X9_lookPointer_28 S o0 x1 x2 x3 x4 (0 : Int32) D
def f_X9_lookPointer (S : sh) (o0 : Nat) (x1 : Int32) (x2 : Int32) (x3 : Int32) (D : dt) : Option (Int32 × dt) := rq (gR D o0 2) fun o246 => ix x1 (sA S o246) <| nm (gI D o246 x1.toNatClampNeg) fun y251 => if x2 = 0 then (rq (gR D o0 40) fun o253 => ix y251 (sA S o253) <| if (gI D o253 y251.toNatClampNeg) = (1 : Int32) then (f_X9_lookPointer_28 S o0 x1 x2 x3 y251 (1 : Int32) D) else (f_X9_lookPointer_27 S o0 x1 x2 x3 y251 D)) else (f_X9_lookPointer_27 S o0 x1 x2 x3 y251 D)
-- JudgedCodeModel.lookRegister
def f_X9_lookRegister_160 (S : sh) (o0 : Nat) (x1 : Int32) (x2 : Int32) (x3 : Int32) (D : dt) : Option (Int32 × dt) := cq (f_X9_reckonRange S o0 x1 x2 x3 D) fun _ D69 => some ((0 : Int32), D69)
def f_X9_lookRegister_169 (S : sh) (o0 : Nat) (x1 : Int32) (x2 : Int32) (x3 : Int32) (x4 : Int32) (D : dt) : Option (Int32 × dt) := if x3 = 0 then (some ((3 : Int32), D)) else (if (2 : Int32) ≤ x2 then (some ((3 : Int32), D)) else (cq (f_X9_lookPointer S o0 x1 x2 x4 D) fun r73 D74 => some (r73, D74)))
def f_X9_lookRegister_135 (S : sh) (o0 : Nat) (x1 : Int32) (x2 : Int32) (x3 : Int32) (x4 : Int32) (x5 : Int32) (D : dt) : Option (Int32 × dt) := if (gI D o0 50) = (1 : Int32) then (if x2 = (11 : Int32) then (f_X9_lookRegister_160 S o0 x1 x2 x3 D) else (rq (gR D o0 40) fun o77 => ix x5 (sA S o77) <| if (gI D o77 x5.toNatClampNeg) = (1 : Int32) then (f_X9_lookRegister_160 S o0 x1 x2 x3 D) else (f_X9_lookRegister_169 S o0 x1 x2 x3 x4 D))) else (f_X9_lookRegister_169 S o0 x1 x2 x3 x4 D)
def f_X9_lookRegister_97 (S : sh) (o0 : Nat) (x1 : Int32) (x2 : Int32) (x3 : Int32) (x4 : Int32) (x5 : Int32) (D : dt) : Option (Int32 × dt) := if x2 = (11 : Int32) then (if x3 = 0 then (f_X9_lookRegister_135 S o0 x1 x2 x3 x4 x5 D) else (if x4 = 0 then (f_X9_lookRegister_135 S o0 x1 x2 x3 x4 x5 D) else (rq (gR D o0 4) fun o86 => ix x1 (sA S o86) <| if (gI D o86 x1.toNatClampNeg) = 0 then (rq (gR D o0 3) fun o92 => ix x1 (sA S o92) <| cq (f_X9_same S o0 (gI D o92 x1.toNatClampNeg) x5 D) fun _ D98 => some ((0 : Int32), D98)) else (f_X9_lookRegister_135 S o0 x1 x2 x3 x4 x5 D)))) else (f_X9_lookRegister_135 S o0 x1 x2 x3 x4 x5 D)
def f_X9_lookRegister_83 (S : sh) (o0 : Nat) (x1 : Int32) (x2 : Int32) (x3 : Int32) (x4 : Int32) (x5 : Int32) (D : dt) : Option (Int32 × dt) := if x4 = 0 then (f_X9_lookRegister_97 S o0 x1 x2 x3 x4 x5 D) else (if (gI D o0 50) = 0 then (some ((2 : Int32), D)) else (f_X9_lookRegister_97 S o0 x1 x2 x3 x4 x5 D))
def f_X9_lookRegister_52 (S : sh) (o0 : Nat) (x1 : Int32) (x2 : Int32) (x3 : Int32) (xs0 : Int32) (D : dt) : Option (Int32 × dt) := rq (gR D o0 2) fun o101 => ix x1 (sA S o101) <| nm (gI D o101 x1.toNatClampNeg) fun y106 => cq (f_X9_takeSecond S o0 x1 D) fun _ D108 => if x2 = (11 : Int32) then (f_X9_lookRegister_83 S o0 x1 x2 x3 xs0 y106 D108) else (rq (gR D108 o0 40) fun o110 => ix y106 (sA S o110) <| if (gI D108 o110 y106.toNatClampNeg) = 0 then (some ((2 : Int32), D108)) else (f_X9_lookRegister_83 S o0 x1 x2 x3 xs0 y106 D108))
def f_X9_lookRegister_51 (S : sh) (o0 : Nat) (x1 : Int32) (x2 : Int32) (x3 : Int32) (D : dt) : Option (Int32 × dt) := f_X9_lookRegister_52 S o0 x1 x2 x3 (0 : Int32) D
def f_X9_lookRegister_28 (S : sh) (o0 : Nat) (x1 : Int32) (x2 : Int32) (xs0 : Int32) (D : dt) : Option (Int32 × dt) := rq (gR D o0 1) fun o116 => ix x1 (sA S o116) <| if ((gI D o116 x1.toNatClampNeg) &&& (8 : Int32)) = 0 then (f_X9_lookRegister_51 S o0 x1 x2 xs0 D) else (if x2 = (13 : Int32) then (f_X9_lookRegister_51 S o0 x1 x2 xs0 D) else (f_X9_lookRegister_52 S o0 x1 x2 xs0 (1 : Int32) D))
def f_X9_lookRegister (S : sh) (o0 : Nat) (x1 : Int32) (D : dt) : Option (Int32 × dt) := rq (gR D o0 1) fun o123 => ix x1 (sA S o123) <| nm ((gI D o123 x1.toNatClampNeg) >>> ((4 : Int32) &&& 31)) fun y128 => rq (gR D o0 1) fun o129 => ix x1 (sA S o129) <| if ((gI D o129 x1.toNatClampNeg) &&& (7 : Int32)) = (7 : Int32) then (f_X9_lookRegister_28 S o0 x1 y128 (1 : Int32) D) else (f_X9_lookRegister_28 S o0 x1 y128 (0 : Int32) D)
-- JudgedCodeModel.onward
def f_X9_onward (S : sh) (o0 : Nat) (x1 : Int32) (x2 : Int32) (D : dt) : Option (Int32 × dt) := if x1 ≤ 0 then (pq (f_X9_isWay S D o0 x2) fun r9 => if r9 = 0 then (some ((6 : Int32), D)) else (cq (f_X9_goTo S o0 x2 D) fun _ D12 => some ((0 : Int32), D12))) else (some (x1, D))
-- JudgedCodeModel.otherCode
def f_X9_otherCode (x0 : Int32) : Option Int32 := if x0 = (1 : Int32) then (some (5 : Int32)) else (if x0 = (5 : Int32) then (some (1 : Int32)) else (if x0 = (2 : Int32) then (some (11 : Int32)) else (if x0 = (11 : Int32) then (some (2 : Int32)) else (if x0 = (3 : Int32) then (some (10 : Int32)) else (some (3 : Int32))))))
-- JudgedCodeModel.settle
def f_X9_settle_114 (S : sh) (k2 : Nat → Int32 → Int32 → Int32 → dt → Option (Unit × dt)) (o0 : Nat) (x1 : Int32) (x2 : Int32) (x3 : Int32) (D : dt) : Option (Unit × dt) := nm (x3 + 1) fun y49 => k2 o0 x1 x2 y49 D
def f_X9_settle_91 (S : sh) (k2 : Nat → Int32 → Int32 → Int32 → dt → Option (Unit × dt)) (o0 : Nat) (x1 : Int32) (x2 : Int32) (x3 : Int32) (D : dt) : Option (Unit × dt) := f_X9_settle_114 S k2 o0 x1 x2 x3 D
def f_X9_settle_57 (S : sh) (k2 : Nat → Int32 → Int32 → Int32 → dt → Option (Unit × dt)) : Nat → Nat → Int32 → Int32 → Int32 → Int32 → dt → Option (Unit × dt)
  | 0, _, _, _, _, _, _ => none
  | n + 1, o0, x1, x2, x3, x5, D => if x5 < 0 then (f_X9_settle_91 S k2 o0 x1 x2 x3 D) else (if (((8 : Int32) * (x3 - (11 : Int32))) + (8 : Int32)) ≤ x5 then (f_X9_settle_91 S k2 o0 x1 x2 x3 D) else (rq (gR D o0 45) fun o52 => ix x5 (sA S o52) <| nm (pI D o52 x5.toNatClampNeg (vp_nar .boolean (1 : Int32))) fun D57 => nm (x5 + 1) fun y58 => f_X9_settle_57 S k2 n o0 x1 x2 x3 y58 D57))
def f_X9_settle_2 (S : sh) : Nat → Nat → Int32 → Int32 → Int32 → dt → Option (Unit × dt)
  | 0, _, _, _, _, _ => none
  | n + 1, o0, x1, x2, x3, D => if (75 : Int32) ≤ x3 then (some ((), D)) else (rq (gR D o0 40) fun o60 => ix x3 (sA S o60) <| if (gI D o60 x3.toNatClampNeg) = (6 : Int32) then (rq (gR D o0 44) fun o66 => ix x3 (sA S o66) <| if (gI D o66 x3.toNatClampNeg) = x1 then (rq (gR D o0 43) fun o72 => ix x3 (sA S o72) <| nm (gI D o72 x3.toNatClampNeg) fun y77 => if x2 = 0 then (cq (f_X9_forget S o0 x3 D) fun _ D80 => rq (gR D80 o0 40) fun o81 => ix x3 (sA S o81) <| nm (pI D80 o81 x3.toNatClampNeg (5 : Int32)) fun D86 => rq (gR D86 o0 43) fun o87 => ix x3 (sA S o87) <| nm (pI D86 o87 x3.toNatClampNeg y77) fun D92 => f_X9_settle_114 S (f_X9_settle_2 S n) o0 x1 x2 x3 D92) else (cq (f_X9_number S o0 x3 (0 : Int64) (0 : Int64) D) fun _ D94 => nm ((8 : Int32) * (x3 - (11 : Int32))) fun y95 => f_X9_settle_57 S (f_X9_settle_2 S n) LF o0 x1 x2 x3 y95 D94)) else (f_X9_settle_114 S (f_X9_settle_2 S n) o0 x1 x2 x3 D)) else (f_X9_settle_114 S (f_X9_settle_2 S n) o0 x1 x2 x3 D))
def f_X9_settle (S : sh) (o0 : Nat) (x1 : Int32) (x2 : Int32) (D : dt) : Option (Unit × dt) := nm ((0 : Int32)) fun y96 => f_X9_settle_2 S LF o0 x1 x2 y96 D
theorem mk_X9_isPointer : MkS yX9_isPointer cX9_isPointer 1 (some .boolean) 1 := ⟨⟨lk_1513, lk_121, (tb_in (i := 1514) (by decide +kernel) (by decide +kernel))⟩, by decide +kernel⟩
theorem mk_X9_lookPointer : MkV yX9_lookPointer RX9 cX9_lookPointer 19 (some .int) 3 := ⟨⟨lk_1510, lk_96, lk_121, (tb_in (i := 1511) (by decide +kernel) (by decide +kernel))⟩, by decide +kernel⟩
theorem mk_X9_lookRegister : MkV yX9_lookRegister RX9 cX9_lookRegister 6 (some .int) 1 := ⟨⟨lk_1482, lk_90, lk_121, (tb_in (i := 1483) (by decide +kernel) (by decide +kernel))⟩, by decide +kernel⟩
theorem mk_X9_onward : MkV yX9_onward RX9 cX9_onward 3 (some .int) 2 := ⟨⟨lk_1521, lk_97, lk_121, (tb_in (i := 1522) (by decide +kernel) (by decide +kernel))⟩, by decide +kernel⟩
theorem mk_X9_otherCode : MkS yX9_otherCode cX9_otherCode 1 (some .int) 1 := ⟨⟨lk_1540, lk_121, (tb_in (i := 1541) (by decide +kernel) (by decide +kernel))⟩, by decide +kernel⟩
theorem mk_X9_settle : MkV yX9_settle RX9 cX9_settle 6 none 2 := ⟨⟨lk_1544, lk_102, lk_121, (tb_in (i := 1545) (by decide +kernel) (by decide +kernel))⟩, by decide +kernel⟩
section
variable {p : Program} {l : Launch} {e : Env} {R : Room} {s : State} {m : MethodId} {args : Array Value} {below : List Frame} {meth : Method} {c : Code} {H : Heap} {locs : List Loc} {G : va_G} {cA : Nat → ClassId} {S : sh} {D : dt} {ad : Nat → Nat} {A : Nat → Prop}
set_option maxHeartbeats 4000000 in
set_option maxRecDepth 100000 in
theorem w_X9_isPointer_15 {r : Int32} (hC : Cx RX9 cX9_isPointer 1 (some .boolean) p s m args meth c) (hR : 0 ≤ R.frames ∧ 0 ≤ R.locals) : ∀  (H : Heap) (locs : List Loc) (ls : Array Slot), Wd G cA S D ad A s H locs → lv_has ls 1 [] → f_X9_isPointer_15 = some r → W p l e R s m args below meth c H locs 0 0 (MQ below (Qn (some (.int r)) True (wpost G cA S D ad A) A) args s 0 0 A) (F0 m 15 ls []) := by
  obtain ⟨hx, hb, -⟩ := id hC
  intro H locs ls hw hl h
  unfold f_X9_isPointer_15 at h
  refine lv_iconst (v := 1) hx hb dX9_isPointer_15 (by decide) ?_
  refine lv_goto (tgt := 20) hx hb dX9_isPointer_16 (by decide) ?_
  cases h
  exact r_zret hC hw (Or.inr rfl) dX9_isPointer_20
set_option maxHeartbeats 4000000 in
set_option maxRecDepth 100000 in
theorem w_X9_isPointer_0 {r : Int32} (hC : Cx RX9 cX9_isPointer 1 (some .boolean) p s m args meth c) (hR : 0 ≤ R.frames ∧ 0 ≤ R.locals) : ∀ (x0 : Int32) (H : Heap) (locs : List Loc) (ls : Array Slot), Wd G cA S D ad A s H locs → lv_has ls 1 [(0, .int x0)] → f_X9_isPointer x0 = some r → W p l e R s m args below meth c H locs 0 0 (MQ below (Qn (some (.int r)) True (wpost G cA S D ad A) A) args s 0 0 A) (F0 m 0 ls []) := by
  obtain ⟨hx, hb, -⟩ := id hC
  intro x0 H locs ls hw hl h
  unfold f_X9_isPointer at h
  refine lv_iload_n hx hb dX9_isPointer_0 rfl (lv_at hl 0 rfl) ?_
  refine lv_iconst (v := 2) hx hb dX9_isPointer_1 (by decide) ?_
  refine lv_icmp_eq (tgt := 15) hx hb dX9_isPointer_2 (by decide) (fun c4 => ?_) (fun c4 => ?_)
  · have h := i_yes c4 h
    exact w_X9_isPointer_15 hC hR _ _ _ hw (lv_sub hl [] rfl) h
  · have h := i_no c4 h
    refine lv_iload_n hx hb dX9_isPointer_5 rfl (lv_at hl 0 rfl) ?_
    refine lv_iconst (v := 3) hx hb dX9_isPointer_6 (by decide) ?_
    refine lv_icmp_eq (tgt := 15) hx hb dX9_isPointer_7 (by decide) (fun c5 => ?_) (fun c5 => ?_)
    · have h := i_yes c5 h
      exact w_X9_isPointer_15 hC hR _ _ _ hw (lv_sub hl [] rfl) h
    · have h := i_no c5 h
      refine lv_iload_n hx hb dX9_isPointer_10 rfl (lv_at hl 0 rfl) ?_
      refine lv_iconst (v := 5) hx hb dX9_isPointer_11 (by decide) ?_
      refine lv_icmp_ne (tgt := 19) hx hb dX9_isPointer_12 (by decide) (fun c6 => ?_) (fun c6 => ?_)
      · have h := i_no c6 h
        refine lv_iconst (v := 0) hx hb dX9_isPointer_19 (by decide) ?_
        cases h
        exact r_zret hC hw (Or.inl rfl) dX9_isPointer_20
      · have h := i_yes c6 h
        exact w_X9_isPointer_15 hC hR _ _ _ hw (lv_sub hl [] rfl) h
set_option maxHeartbeats 4000000 in
set_option maxRecDepth 100000 in
theorem k_X9_isPointer {l : Launch} {G : va_G} {cA : Nat → ClassId} {S : sh} {D : dt} {ad : Nat → Nat} (sz : Nat) {x0 : Int32} {r : Int32}  (h : f_X9_isPointer x0 = some r) : Co l yX9_isPointer (Cond.code yX9_isPointer cX9_isPointer 1 (some .boolean) :: tb0) 0 0 [.int x0] G cA S D ad sz (some (.int r)) True D := by
  refine Met.ofW (cc := cX9_isPointer) (maxL := 1) (ret := (some .boolean)) (by decide) rfl ?_
  intro p e s m args below meth c s₁ B hml hv
  obtain ⟨rfl, hsz, hP, hK, hD0, hT, hX⟩ := hv
  subst hsz
  have hts := atoms_spec (ws := Cond.code yX9_isPointer cX9_isPointer 1 (some .boolean) :: tb0) B.pre
  have hC : Cx RX9 cX9_isPointer 1 (some .boolean) p s m _ meth c := ⟨B.exec, B.bytes, hml, findClass_of_methodNamed B.named, fun w q => hts w (List.mem_cons_of_mem _ q), B.returns, B.notSynchronized⟩
  have hw := Wd.entry hP hK hD0 hT hX
  have hl := lv_entry ([.int x0]) (n := 1) (Nat.le_of_ble_eq_true rfl)
  rw [lg_entry_eq]
  exact w_X9_isPointer_0 hC ⟨Nat.le_refl _, Nat.le_refl _⟩ x0 _ _ _ hw hl h
set_option maxHeartbeats 4000000 in
set_option maxRecDepth 100000 in
theorem w_X9_lookPointer_360 {r : Int32} {D' : dt} (hC : Cx RX9 cX9_lookPointer 19 (some .int) p s m args meth c) (hR : 1 ≤ R.frames ∧ 25 ≤ R.locals) : ∀ (o0 a0 : Nat) (x4 : Int32) (x18 : Int32) (os0 as0 : Nat) (xs1 : Int32) (xs2 : Int64) (D : dt) (H : Heap) (locs : List Loc) (ls : Array Slot), Is S ad o0 a0 8 → Is S ad os0 as0 101 → Wd G cA S D ad A s H locs → lv_has ls 19 [(0, .ref a0), (4, .int x4), (18, .int x18)] → f_X9_lookPointer_360 S o0 x4 x18 os0 xs1 xs2 D = some (r, D') → W p l e R s m args below meth c H locs 0 0 (MQ below (Qn (some (.int r)) True (wpost G cA S D' ad A) A) args s 0 0 A) (F0 m 360 ls [.long xs2, .int xs1, .ref as0]) := by
  obtain ⟨hx, hb, -⟩ := id hC
  intro o0 a0 x4 x18 os0 as0 xs1 xs2 D H locs ls hi0 his0 hw hl h
  unfold f_X9_lookPointer_360 at h
  obtain ⟨hn130, h⟩ := ix_i h
  refine r_las hC hw his0 hn130 dX9_lookPointer_360 (fun D131 eD131 H locs hw => ?_)
  have h := nm_i h D131 eD131
  refine lv_aload_n hx hb dX9_lookPointer_361 rfl (lv_at hl 0 rfl) ?_
  obtain ⟨o132, ho135, h⟩ := rq_i h
  refine r_getR hC hw kc_8 hi0 43 rfl lk_1115 dX9_lookPointer_362 rfl ho135 (fun a133 hi134 => ?_)
  refine lv_iload hx hb dX9_lookPointer_365 (lv_at hl 1 rfl) ?_
  refine lv_iload hx hb dX9_lookPointer_367 (lv_at hl 2 rfl) ?_
  obtain ⟨hn136, h⟩ := ix_i h
  refine r_ias hC hw hi134 hn136 dX9_lookPointer_369 (fun D137 eD137 H locs hw => ?_)
  have h := nm_i h D137 eD137
  refine lv_iconst (v := 0) hx hb dX9_lookPointer_370 (by decide) ?_
  cases h
  exact r_iret hC hw dX9_lookPointer_371
set_option maxHeartbeats 4000000 in
set_option maxRecDepth 100000 in
theorem w_X9_lookPointer_268 {r : Int32} {D' : dt} (hC : Cx RX9 cX9_lookPointer 19 (some .int) p s m args meth c) (hR : 1 ≤ R.frames ∧ 25 ≤ R.locals) : ∀ (o0 a0 : Nat) (x4 : Int32) (x6 : Int32) (x13 : Int64) (xs0 : Int64) (D : dt) (H : Heap) (locs : List Loc) (ls : Array Slot), Is S ad o0 a0 8 → Wd G cA S D ad A s H locs → lv_has ls 19 [(0, .ref a0), (4, .int x4), (6, .int x6), (13, .long x13)] → f_X9_lookPointer_268 S o0 x4 x6 x13 xs0 D = some (r, D') → W p l e R s m args below meth c H locs 0 0 (MQ below (Qn (some (.int r)) True (wpost G cA S D' ad A) A) args s 0 0 A) (F0 m 268 ls [.long xs0]) := by
  obtain ⟨hx, hb, -⟩ := id hC
  intro o0 a0 x4 x6 x13 xs0 D H locs ls hi0 hw hl h
  unfold f_X9_lookPointer_268 at h
  refine lv_lstore (lv' := [(15, .long xs0), (0, .ref a0), (4, .int x4), (6, .int x6), (13, .long x13)]) hx hb dX9_lookPointer_268 hl (by decide) rfl (fun ls hl => ?_)
  refine lv_lload hx hb dX9_lookPointer_270 (lv_at hl 4 rfl) ?_
  refine lv_ldc2 (v := (-1048576)) hx hb hC.2.2.2.1 (hC.2.2.2.2.1 _ lk_1517) dX9_lookPointer_272 ?_
  refine lv_ldc2 (v := 1048576) hx hb hC.2.2.2.1 (hC.2.2.2.2.1 _ lk_1518) dX9_lookPointer_275 ?_
  obtain ⟨r139, hq138, h⟩ := pq_i h
  refine r_cS (st' := [.int r139]) [.long x13, .long (-1048576 : Int64), .long (1048576 : Int64)] [] hC hw (k_X9_in _ hq138) mk_X9_in lk_1243 ⟨Nat.le_trans (by decide) hR.1, Nat.le_trans (by decide) hR.2⟩ ⟨Nat.zero_le _, Nat.zero_le _⟩ rfl hl.1 rfl rfl (Nat.le_of_ble_eq_true rfl) dX9_lookPointer_278 (fun hP H locs hw => ?_)
  refine lv_if_eq (tgt := 298) hx hb dX9_lookPointer_281 (by decide) (fun c140 => ?_) (fun c140 => ?_)
  · have h := i_yes c140 h
    refine lv_iconst (v := 3) hx hb dX9_lookPointer_298 (by decide) ?_
    cases h
    exact r_iret hC hw dX9_lookPointer_299
  · have h := i_no c140 h
    refine lv_lload hx hb dX9_lookPointer_284 (lv_at hl 0 rfl) ?_
    refine lv_ldc2 (v := (-1048576)) hx hb hC.2.2.2.1 (hC.2.2.2.2.1 _ lk_1517) dX9_lookPointer_286 ?_
    refine lv_ldc2 (v := 1048576) hx hb hC.2.2.2.1 (hC.2.2.2.2.1 _ lk_1518) dX9_lookPointer_289 ?_
    obtain ⟨r142, hq141, h⟩ := pq_i h
    refine r_cS (st' := [.int r142]) [.long xs0, .long (-1048576 : Int64), .long (1048576 : Int64)] [] hC hw (k_X9_in _ hq141) mk_X9_in lk_1243 ⟨Nat.le_trans (by decide) hR.1, Nat.le_trans (by decide) hR.2⟩ ⟨Nat.zero_le _, Nat.zero_le _⟩ rfl hl.1 rfl rfl (Nat.le_of_ble_eq_true rfl) dX9_lookPointer_292 (fun hP H locs hw => ?_)
    refine lv_if_ne (tgt := 300) hx hb dX9_lookPointer_295 (by decide) (fun c143 => ?_) (fun c143 => ?_)
    · have h := i_no c143 h
      refine lv_aload_n hx hb dX9_lookPointer_300 rfl (lv_at hl 1 rfl) ?_
      obtain ⟨o144, ho147, h⟩ := rq_i h
      refine r_getR hC hw kc_8 hi0 40 rfl lk_1112 dX9_lookPointer_301 rfl ho147 (fun a145 hi146 => ?_)
      refine lv_iload hx hb dX9_lookPointer_304 (lv_at hl 3 rfl) ?_
      obtain ⟨hn148, h⟩ := ix_i h
      refine r_iald hC hw hi146 hn148 dX9_lookPointer_306 ?_
      refine lv_topi (fun y149 ey149 => ?_)
      have h := nm_i h y149 ey149
      refine lv_istore (lv' := [(17, .int y149), (15, .long xs0), (0, .ref a0), (4, .int x4), (6, .int x6), (13, .long x13)]) hx hb dX9_lookPointer_307 hl (by decide) rfl (fun ls hl => ?_)
      refine lv_aload_n hx hb dX9_lookPointer_309 rfl (lv_at hl 2 rfl) ?_
      obtain ⟨o150, ho153, h⟩ := rq_i h
      refine r_getR hC hw kc_8 hi0 43 rfl lk_1115 dX9_lookPointer_310 rfl ho153 (fun a151 hi152 => ?_)
      refine lv_iload hx hb dX9_lookPointer_313 (lv_at hl 4 rfl) ?_
      obtain ⟨hn154, h⟩ := ix_i h
      refine r_iald hC hw hi152 hn154 dX9_lookPointer_315 ?_
      refine lv_topi (fun y155 ey155 => ?_)
      have h := nm_i h y155 ey155
      refine lv_istore (lv' := [(18, .int y155), (17, .int y149), (15, .long xs0), (0, .ref a0), (4, .int x4), (6, .int x6), (13, .long x13)]) hx hb dX9_lookPointer_316 hl (by decide) rfl (fun ls hl => ?_)
      refine lv_aload_n hx hb dX9_lookPointer_318 rfl (lv_at hl 3 rfl) ?_
      refine lv_iload hx hb dX9_lookPointer_319 (lv_at hl 4 rfl) ?_
      obtain ⟨_, D157, hq156, h⟩ := cq_i h
      refine r_cV (st' := []) [.int x4] [] hC hw kc_8 hi0 (k_X9_forget _ hi0 hq156) mk_X9_forget lk_1454 ⟨Nat.le_trans (by decide) hR.1, Nat.le_trans (by decide) hR.2⟩ ⟨Nat.zero_le _, Nat.zero_le _⟩ rfl hl.1 rfl rfl (Nat.le_of_ble_eq_true rfl) dX9_lookPointer_321 (fun hP H locs hw => ?_)
      refine lv_aload_n hx hb dX9_lookPointer_324 rfl (lv_at hl 3 rfl) ?_
      obtain ⟨o158, ho161, h⟩ := rq_i h
      refine r_getR hC hw kc_8 hi0 40 rfl lk_1112 dX9_lookPointer_325 rfl ho161 (fun a159 hi160 => ?_)
      refine lv_iload hx hb dX9_lookPointer_328 (lv_at hl 4 rfl) ?_
      refine lv_iload hx hb dX9_lookPointer_330 (lv_at hl 1 rfl) ?_
      obtain ⟨hn162, h⟩ := ix_i h
      refine r_ias hC hw hi160 hn162 dX9_lookPointer_332 (fun D163 eD163 H locs hw => ?_)
      have h := nm_i h D163 eD163
      refine lv_aload_n hx hb dX9_lookPointer_333 rfl (lv_at hl 3 rfl) ?_
      obtain ⟨o164, ho167, h⟩ := rq_i h
      refine r_getR hC hw kc_8 hi0 41 rfl lk_1113 dX9_lookPointer_334 rfl ho167 (fun a165 hi166 => ?_)
      refine lv_iload hx hb dX9_lookPointer_337 (lv_at hl 4 rfl) ?_
      refine lv_lload hx hb dX9_lookPointer_339 (lv_at hl 6 rfl) ?_
      obtain ⟨hn168, h⟩ := ix_i h
      refine r_las hC hw hi166 hn168 dX9_lookPointer_341 (fun D169 eD169 H locs hw => ?_)
      have h := nm_i h D169 eD169
      refine lv_aload_n hx hb dX9_lookPointer_342 rfl (lv_at hl 3 rfl) ?_
      obtain ⟨o170, ho173, h⟩ := rq_i h
      refine r_getR hC hw kc_8 hi0 42 rfl lk_1114 dX9_lookPointer_343 rfl ho173 (fun a171 hi172 => ?_)
      refine lv_iload hx hb dX9_lookPointer_346 (lv_at hl 4 rfl) ?_
      refine lv_iload hx hb dX9_lookPointer_348 (lv_at hl 1 rfl) ?_
      refine lv_iconst (v := 3) hx hb dX9_lookPointer_350 (by decide) ?_
      refine lv_icmp_ne (tgt := 358) hx hb dX9_lookPointer_351 (by decide) (fun c174 => ?_) (fun c174 => ?_)
      · have h := i_no c174 h
        refine lv_lload hx hb dX9_lookPointer_358 (lv_at hl 2 rfl) ?_
        exact w_X9_lookPointer_360 hC hR o0 a0 x4 y155 o170 a171 x4 xs0 _ _ _ _ hi0 hi172 hw (lv_sub hl [3, 4, 0] rfl) h
      · have h := i_yes c174 h
        refine lv_lconst (v := 0) hx hb dX9_lookPointer_354 (by decide) ?_
        refine lv_goto (tgt := 360) hx hb dX9_lookPointer_355 (by decide) ?_
        exact w_X9_lookPointer_360 hC hR o0 a0 x4 y155 o170 a171 x4 (0 : Int64) _ _ _ _ hi0 hi172 hw (lv_sub hl [3, 4, 0] rfl) h
    · have h := i_yes c143 h
      refine lv_iconst (v := 3) hx hb dX9_lookPointer_298 (by decide) ?_
      cases h
      exact r_iret hC hw dX9_lookPointer_299
set_option maxHeartbeats 4000000 in
set_option maxRecDepth 100000 in
theorem w_X9_lookPointer_248 {r : Int32} {D' : dt} (hC : Cx RX9 cX9_lookPointer 19 (some .int) p s m args meth c) (hR : 1 ≤ R.frames ∧ 25 ≤ R.locals) : ∀ (o0 a0 : Nat) (x4 : Int32) (x6 : Int32) (x13 : Int64) (xs0 : Int64) (D : dt) (H : Heap) (locs : List Loc) (ls : Array Slot), Is S ad o0 a0 8 → Wd G cA S D ad A s H locs → lv_has ls 19 [(0, .ref a0), (4, .int x4), (6, .int x6), (13, .long x13)] → f_X9_lookPointer_248 S o0 x4 x6 x13 xs0 D = some (r, D') → W p l e R s m args below meth c H locs 0 0 (MQ below (Qn (some (.int r)) True (wpost G cA S D' ad A) A) args s 0 0 A) (F0 m 248 ls [.long xs0]) := by
  obtain ⟨hx, hb, -⟩ := id hC
  intro o0 a0 x4 x6 x13 xs0 D H locs ls hi0 hw hl h
  unfold f_X9_lookPointer_248 at h
  refine lv_lstore (lv' := [(15, .long xs0), (0, .ref a0), (4, .int x4), (6, .int x6), (13, .long x13)]) hx hb dX9_lookPointer_248 hl (by decide) rfl (fun ls hl => ?_)
  refine lv_aload_n hx hb dX9_lookPointer_250 rfl (lv_at hl 1 rfl) ?_
  obtain ⟨o175, ho178, h⟩ := rq_i h
  refine r_getR hC hw kc_8 hi0 40 rfl lk_1112 dX9_lookPointer_251 rfl ho178 (fun a176 hi177 => ?_)
  refine lv_iload hx hb dX9_lookPointer_254 (lv_at hl 3 rfl) ?_
  obtain ⟨hn179, h⟩ := ix_i h
  refine r_iald hC hw hi177 hn179 dX9_lookPointer_256 ?_
  refine lv_iconst (v := 3) hx hb dX9_lookPointer_257 (by decide) ?_
  refine lv_icmp_ne (tgt := 266) hx hb dX9_lookPointer_258 (by decide) (fun c180 => ?_) (fun c180 => ?_)
  · have h := i_no c180 h
    refine lv_lload hx hb dX9_lookPointer_266 (lv_at hl 0 rfl) ?_
    exact w_X9_lookPointer_268 hC hR o0 a0 x4 x6 x13 xs0 _ _ _ _ hi0 hw (lv_sub hl [1, 2, 3, 4] rfl) h
  · have h := i_yes c180 h
    refine lv_lload hx hb dX9_lookPointer_261 (lv_at hl 4 rfl) ?_
    refine lv_goto (tgt := 268) hx hb dX9_lookPointer_263 (by decide) ?_
    exact w_X9_lookPointer_268 hC hR o0 a0 x4 x6 x13 x13 _ _ _ _ hi0 hw (lv_sub hl [1, 2, 3, 4] rfl) h
set_option maxHeartbeats 4000000 in
set_option maxRecDepth 100000 in
theorem w_X9_lookPointer_219 {r : Int32} {D' : dt} (hC : Cx RX9 cX9_lookPointer 19 (some .int) p s m args meth c) (hR : 1 ≤ R.frames ∧ 25 ≤ R.locals) : ∀ (o0 a0 : Nat) (x2 : Int32) (x4 : Int32) (x6 : Int32) (x7 : Int64) (x9 : Int64) (xs0 : Int64) (D : dt) (H : Heap) (locs : List Loc) (ls : Array Slot), Is S ad o0 a0 8 → Wd G cA S D ad A s H locs → lv_has ls 19 [(0, .ref a0), (2, .int x2), (4, .int x4), (6, .int x6), (7, .long x7), (9, .long x9)] → f_X9_lookPointer_219 S o0 x2 x4 x6 x7 x9 xs0 D = some (r, D') → W p l e R s m args below meth c H locs 0 0 (MQ below (Qn (some (.int r)) True (wpost G cA S D' ad A) A) args s 0 0 A) (F0 m 219 ls [.long xs0]) := by
  obtain ⟨hx, hb, -⟩ := id hC
  intro o0 a0 x2 x4 x6 x7 x9 xs0 D H locs ls hi0 hw hl h
  unfold f_X9_lookPointer_219 at h
  refine lv_lstore (lv' := [(13, .long xs0), (0, .ref a0), (2, .int x2), (4, .int x4), (6, .int x6), (7, .long x7), (9, .long x9)]) hx hb dX9_lookPointer_219 hl (by decide) rfl (fun ls hl => ?_)
  refine lv_iload_n hx hb dX9_lookPointer_221 rfl (lv_at hl 2 rfl) ?_
  refine lv_if_ne (tgt := 238) hx hb dX9_lookPointer_222 (by decide) (fun c181 => ?_) (fun c181 => ?_)
  · have h := i_no c181 h
    refine lv_aload_n hx hb dX9_lookPointer_238 rfl (lv_at hl 1 rfl) ?_
    obtain ⟨o182, ho185, h⟩ := rq_i h
    refine r_getR hC hw kc_8 hi0 42 rfl lk_1114 dX9_lookPointer_239 rfl ho185 (fun a183 hi184 => ?_)
    refine lv_iload hx hb dX9_lookPointer_242 (lv_at hl 4 rfl) ?_
    obtain ⟨hn186, h⟩ := ix_i h
    refine r_lald hC hw hi184 hn186 dX9_lookPointer_244 ?_
    refine lv_lload hx hb dX9_lookPointer_245 (lv_at hl 5 rfl) ?_
    refine lv_lsub hx hb dX9_lookPointer_247 ?_
    exact w_X9_lookPointer_248 hC hR o0 a0 x4 x6 xs0 ((gL D o182 x6.toNatClampNeg) - x7) _ _ _ _ hi0 hw (lv_sub hl [1, 3, 4, 0] rfl) h
  · have h := i_yes c181 h
    refine lv_aload_n hx hb dX9_lookPointer_225 rfl (lv_at hl 1 rfl) ?_
    obtain ⟨o187, ho190, h⟩ := rq_i h
    refine r_getR hC hw kc_8 hi0 42 rfl lk_1114 dX9_lookPointer_226 rfl ho190 (fun a188 hi189 => ?_)
    refine lv_iload hx hb dX9_lookPointer_229 (lv_at hl 4 rfl) ?_
    obtain ⟨hn191, h⟩ := ix_i h
    refine r_lald hC hw hi189 hn191 dX9_lookPointer_231 ?_
    refine lv_lload hx hb dX9_lookPointer_232 (lv_at hl 6 rfl) ?_
    refine lv_ladd hx hb dX9_lookPointer_234 ?_
    refine lv_goto (tgt := 248) hx hb dX9_lookPointer_235 (by decide) ?_
    exact w_X9_lookPointer_248 hC hR o0 a0 x4 x6 xs0 ((gL D o187 x6.toNatClampNeg) + x9) _ _ _ _ hi0 hw (lv_sub hl [1, 3, 4, 0] rfl) h
set_option maxHeartbeats 4000000 in
set_option maxRecDepth 100000 in
theorem w_X9_lookPointer_192 {r : Int32} {D' : dt} (hC : Cx RX9 cX9_lookPointer 19 (some .int) p s m args meth c) (hR : 1 ≤ R.frames ∧ 25 ≤ R.locals) : ∀ (o0 a0 : Nat) (x2 : Int32) (x4 : Int32) (x6 : Int32) (x7 : Int64) (x9 : Int64) (D : dt) (H : Heap) (locs : List Loc) (ls : Array Slot), Is S ad o0 a0 8 → Wd G cA S D ad A s H locs → lv_has ls 19 [(0, .ref a0), (2, .int x2), (4, .int x4), (6, .int x6), (7, .long x7), (9, .long x9)] → f_X9_lookPointer_192 S o0 x2 x4 x6 x7 x9 D = some (r, D') → W p l e R s m args below meth c H locs 0 0 (MQ below (Qn (some (.int r)) True (wpost G cA S D' ad A) A) args s 0 0 A) (F0 m 192 ls []) := by
  obtain ⟨hx, hb, -⟩ := id hC
  intro o0 a0 x2 x4 x6 x7 x9 D H locs ls hi0 hw hl h
  unfold f_X9_lookPointer_192 at h
  refine lv_iload_n hx hb dX9_lookPointer_192 rfl (lv_at hl 1 rfl) ?_
  refine lv_if_ne (tgt := 209) hx hb dX9_lookPointer_193 (by decide) (fun c192 => ?_) (fun c192 => ?_)
  · have h := i_no c192 h
    refine lv_aload_n hx hb dX9_lookPointer_209 rfl (lv_at hl 0 rfl) ?_
    obtain ⟨o193, ho196, h⟩ := rq_i h
    refine r_getR hC hw kc_8 hi0 41 rfl lk_1113 dX9_lookPointer_210 rfl ho196 (fun a194 hi195 => ?_)
    refine lv_iload hx hb dX9_lookPointer_213 (lv_at hl 3 rfl) ?_
    obtain ⟨hn197, h⟩ := ix_i h
    refine r_lald hC hw hi195 hn197 dX9_lookPointer_215 ?_
    refine lv_lload hx hb dX9_lookPointer_216 (lv_at hl 5 rfl) ?_
    refine lv_lsub hx hb dX9_lookPointer_218 ?_
    exact w_X9_lookPointer_219 hC hR o0 a0 x2 x4 x6 x7 x9 ((gL D o193 x6.toNatClampNeg) - x9) _ _ _ _ hi0 hw (lv_sub hl [0, 1, 2, 3, 4, 5] rfl) h
  · have h := i_yes c192 h
    refine lv_aload_n hx hb dX9_lookPointer_196 rfl (lv_at hl 0 rfl) ?_
    obtain ⟨o198, ho201, h⟩ := rq_i h
    refine r_getR hC hw kc_8 hi0 41 rfl lk_1113 dX9_lookPointer_197 rfl ho201 (fun a199 hi200 => ?_)
    refine lv_iload hx hb dX9_lookPointer_200 (lv_at hl 3 rfl) ?_
    obtain ⟨hn202, h⟩ := ix_i h
    refine r_lald hC hw hi200 hn202 dX9_lookPointer_202 ?_
    refine lv_lload hx hb dX9_lookPointer_203 (lv_at hl 4 rfl) ?_
    refine lv_ladd hx hb dX9_lookPointer_205 ?_
    refine lv_goto (tgt := 219) hx hb dX9_lookPointer_206 (by decide) ?_
    exact w_X9_lookPointer_219 hC hR o0 a0 x2 x4 x6 x7 x9 ((gL D o198 x6.toNatClampNeg) + x7) _ _ _ _ hi0 hw (lv_sub hl [0, 1, 2, 3, 4, 5] rfl) h
set_option maxHeartbeats 4000000 in
set_option maxRecDepth 100000 in
theorem w_X9_lookPointer_164 {r : Int32} {D' : dt} (hC : Cx RX9 cX9_lookPointer 19 (some .int) p s m args meth c) (hR : 1 ≤ R.frames ∧ 25 ≤ R.locals) : ∀ (o0 a0 : Nat) (x2 : Int32) (x4 : Int32) (x6 : Int32) (x7 : Int64) (x9 : Int64) (xs0 : Int32) (D : dt) (H : Heap) (locs : List Loc) (ls : Array Slot), Is S ad o0 a0 8 → Wd G cA S D ad A s H locs → lv_has ls 19 [(0, .ref a0), (2, .int x2), (4, .int x4), (6, .int x6), (7, .long x7), (9, .long x9)] → f_X9_lookPointer_164 S o0 x2 x4 x6 x7 x9 xs0 D = some (r, D') → W p l e R s m args below meth c H locs 0 0 (MQ below (Qn (some (.int r)) True (wpost G cA S D' ad A) A) args s 0 0 A) (F0 m 164 ls [.int xs0]) := by
  obtain ⟨hx, hb, -⟩ := id hC
  intro o0 a0 x2 x4 x6 x7 x9 xs0 D H locs ls hi0 hw hl h
  unfold f_X9_lookPointer_164 at h
  refine lv_istore (lv' := [(12, .int xs0), (0, .ref a0), (2, .int x2), (4, .int x4), (6, .int x6), (7, .long x7), (9, .long x9)]) hx hb dX9_lookPointer_164 hl (by decide) rfl (fun ls hl => ?_)
  refine lv_iload hx hb dX9_lookPointer_166 (lv_at hl 0 rfl) ?_
  refine lv_if_eq (tgt := 190) hx hb dX9_lookPointer_168 (by decide) (fun c203 => ?_) (fun c203 => ?_)
  · have h := i_yes c203 h
    refine lv_iconst (v := 3) hx hb dX9_lookPointer_190 (by decide) ?_
    cases h
    exact r_iret hC hw dX9_lookPointer_191
  · have h := i_no c203 h
    refine lv_aload_n hx hb dX9_lookPointer_171 rfl (lv_at hl 1 rfl) ?_
    obtain ⟨o204, ho207, h⟩ := rq_i h
    refine r_getR hC hw kc_8 hi0 40 rfl lk_1112 dX9_lookPointer_172 rfl ho207 (fun a205 hi206 => ?_)
    refine lv_iload hx hb dX9_lookPointer_175 (lv_at hl 4 rfl) ?_
    obtain ⟨hn208, h⟩ := ix_i h
    refine r_iald hC hw hi206 hn208 dX9_lookPointer_177 ?_
    refine lv_iconst (v := 3) hx hb dX9_lookPointer_178 (by decide) ?_
    refine lv_icmp_ne (tgt := 192) hx hb dX9_lookPointer_179 (by decide) (fun c209 => ?_) (fun c209 => ?_)
    · have h := i_no c209 h
      exact w_X9_lookPointer_192 hC hR o0 a0 x2 x4 x6 x7 x9 _ _ _ _ hi0 hw (lv_sub hl [1, 2, 3, 4, 5, 6] rfl) h
    · have h := i_yes c209 h
      refine lv_lload hx hb dX9_lookPointer_182 (lv_at hl 5 rfl) ?_
      refine lv_lload hx hb dX9_lookPointer_184 (lv_at hl 6 rfl) ?_
      refine W.lcmp hx hb dX9_lookPointer_186 ?_
      refine lv_if_eq (tgt := 192) hx hb dX9_lookPointer_187 (by decide) (fun c210 => ?_) (fun c210 => ?_)
      · have h := i_yes c210 h
        exact w_X9_lookPointer_192 hC hR o0 a0 x2 x4 x6 x7 x9 _ _ _ _ hi0 hw (lv_sub hl [1, 2, 3, 4, 5, 6] rfl) h
      · have h := i_no c210 h
        refine lv_iconst (v := 3) hx hb dX9_lookPointer_190 (by decide) ?_
        cases h
        exact r_iret hC hw dX9_lookPointer_191
set_option maxHeartbeats 4000000 in
set_option maxRecDepth 100000 in
theorem w_X9_lookPointer_121 {r : Int32} {D' : dt} (hC : Cx RX9 cX9_lookPointer 19 (some .int) p s m args meth c) (hR : 1 ≤ R.frames ∧ 25 ≤ R.locals) : ∀ (o0 a0 : Nat) (x2 : Int32) (x3 : Int32) (x4 : Int32) (x6 : Int32) (x7 : Int64) (x9 : Int64) (xs0 : Int32) (D : dt) (H : Heap) (locs : List Loc) (ls : Array Slot), Is S ad o0 a0 8 → Wd G cA S D ad A s H locs → lv_has ls 19 [(0, .ref a0), (2, .int x2), (3, .int x3), (4, .int x4), (6, .int x6), (7, .long x7), (9, .long x9)] → f_X9_lookPointer_121 S o0 x2 x3 x4 x6 x7 x9 xs0 D = some (r, D') → W p l e R s m args below meth c H locs 0 0 (MQ below (Qn (some (.int r)) True (wpost G cA S D' ad A) A) args s 0 0 A) (F0 m 121 ls [.int xs0]) := by
  obtain ⟨hx, hb, -⟩ := id hC
  intro o0 a0 x2 x3 x4 x6 x7 x9 xs0 D H locs ls hi0 hw hl h
  unfold f_X9_lookPointer_121 at h
  refine lv_istore (lv' := [(11, .int xs0), (0, .ref a0), (2, .int x2), (3, .int x3), (4, .int x4), (6, .int x6), (7, .long x7), (9, .long x9)]) hx hb dX9_lookPointer_121 hl (by decide) rfl (fun ls hl => ?_)
  refine lv_iload hx hb dX9_lookPointer_123 (lv_at hl 0 rfl) ?_
  refine lv_if_ne (tgt := 130) hx hb dX9_lookPointer_125 (by decide) (fun c211 => ?_) (fun c211 => ?_)
  · have h := i_no c211 h
    refine lv_iload_n hx hb dX9_lookPointer_130 rfl (lv_at hl 3 rfl) ?_
    refine lv_if_eq (tgt := 153) hx hb dX9_lookPointer_131 (by decide) (fun c212 => ?_) (fun c212 => ?_)
    · have h := i_yes c212 h
      refine lv_lload hx hb dX9_lookPointer_153 (lv_at hl 6 rfl) ?_
      refine lv_ldc2 (v := (-65536)) hx hb hC.2.2.2.1 (hC.2.2.2.2.1 _ lk_1516) dX9_lookPointer_155 ?_
      refine lv_ldc2 (v := 65536) hx hb hC.2.2.2.1 (hC.2.2.2.2.1 _ lk_1515) dX9_lookPointer_158 ?_
      obtain ⟨r214, hq213, h⟩ := pq_i h
      refine r_cS (st' := [.int r214]) [.long x7, .long (-65536 : Int64), .long (65536 : Int64)] [] hC hw (k_X9_in _ hq213) mk_X9_in lk_1243 ⟨Nat.le_trans (by decide) hR.1, Nat.le_trans (by decide) hR.2⟩ ⟨Nat.zero_le _, Nat.zero_le _⟩ rfl hl.1 rfl rfl (Nat.le_of_ble_eq_true rfl) dX9_lookPointer_161 (fun hP H locs hw => ?_)
      exact w_X9_lookPointer_164 hC hR o0 a0 x2 x4 x6 x7 x9 r214 _ _ _ _ hi0 hw (lv_sub hl [1, 2, 4, 5, 6, 7] rfl) h
    · have h := i_no c212 h
      refine lv_ldc2 (v := 65536) hx hb hC.2.2.2.1 (hC.2.2.2.2.1 _ lk_1515) dX9_lookPointer_134 ?_
      refine lv_lload hx hb dX9_lookPointer_137 (lv_at hl 7 rfl) ?_
      obtain ⟨r216, hq215, h⟩ := pq_i h
      refine r_cS (st' := [.int r216]) [.long (65536 : Int64), .long x9] [] hC hw (k_X9_isBelow _ hq215) mk_X9_isBelow lk_1358 ⟨Nat.le_trans (by decide) hR.1, Nat.le_trans (by decide) hR.2⟩ ⟨Nat.zero_le _, Nat.zero_le _⟩ rfl hl.1 rfl rfl (Nat.le_of_ble_eq_true rfl) dX9_lookPointer_139 (fun hP H locs hw => ?_)
      refine lv_if_ne (tgt := 149) hx hb dX9_lookPointer_142 (by decide) (fun c217 => ?_) (fun c217 => ?_)
      · have h := i_no c217 h
        refine lv_iconst (v := 0) hx hb dX9_lookPointer_149 (by decide) ?_
        refine lv_goto (tgt := 164) hx hb dX9_lookPointer_150 (by decide) ?_
        exact w_X9_lookPointer_164 hC hR o0 a0 x2 x4 x6 x7 x9 (0 : Int32) _ _ _ _ hi0 hw (lv_sub hl [1, 2, 4, 5, 6, 7] rfl) h
      · have h := i_yes c217 h
        refine lv_iconst (v := 1) hx hb dX9_lookPointer_145 (by decide) ?_
        refine lv_goto (tgt := 164) hx hb dX9_lookPointer_146 (by decide) ?_
        exact w_X9_lookPointer_164 hC hR o0 a0 x2 x4 x6 x7 x9 (1 : Int32) _ _ _ _ hi0 hw (lv_sub hl [1, 2, 4, 5, 6, 7] rfl) h
  · have h := i_yes c211 h
    refine lv_iconst (v := 3) hx hb dX9_lookPointer_128 (by decide) ?_
    cases h
    exact r_iret hC hw dX9_lookPointer_129
set_option maxHeartbeats 4000000 in
set_option maxRecDepth 100000 in
theorem w_X9_lookPointer_120 {r : Int32} {D' : dt} (hC : Cx RX9 cX9_lookPointer 19 (some .int) p s m args meth c) (hR : 1 ≤ R.frames ∧ 25 ≤ R.locals) : ∀ (o0 a0 : Nat) (x2 : Int32) (x3 : Int32) (x4 : Int32) (x6 : Int32) (x7 : Int64) (x9 : Int64) (D : dt) (H : Heap) (locs : List Loc) (ls : Array Slot), Is S ad o0 a0 8 → Wd G cA S D ad A s H locs → lv_has ls 19 [(0, .ref a0), (2, .int x2), (3, .int x3), (4, .int x4), (6, .int x6), (7, .long x7), (9, .long x9)] → f_X9_lookPointer_120 S o0 x2 x3 x4 x6 x7 x9 D = some (r, D') → W p l e R s m args below meth c H locs 0 0 (MQ below (Qn (some (.int r)) True (wpost G cA S D' ad A) A) args s 0 0 A) (F0 m 120 ls []) := by
  obtain ⟨hx, hb, -⟩ := id hC
  intro o0 a0 x2 x3 x4 x6 x7 x9 D H locs ls hi0 hw hl h
  unfold f_X9_lookPointer_120 at h
  refine lv_iconst (v := 0) hx hb dX9_lookPointer_120 (by decide) ?_
  exact w_X9_lookPointer_121 hC hR o0 a0 x2 x3 x4 x6 x7 x9 (0 : Int32) _ _ _ _ hi0 hw (lv_sub hl [0, 1, 2, 3, 4, 5, 6] rfl) h
set_option maxHeartbeats 4000000 in
set_option maxRecDepth 100000 in
theorem w_X9_lookPointer_116 {r : Int32} {D' : dt} (hC : Cx RX9 cX9_lookPointer 19 (some .int) p s m args meth c) (hR : 1 ≤ R.frames ∧ 25 ≤ R.locals) : ∀ (o0 a0 : Nat) (x2 : Int32) (x3 : Int32) (x4 : Int32) (x6 : Int32) (x7 : Int64) (x9 : Int64) (D : dt) (H : Heap) (locs : List Loc) (ls : Array Slot), Is S ad o0 a0 8 → Wd G cA S D ad A s H locs → lv_has ls 19 [(0, .ref a0), (2, .int x2), (3, .int x3), (4, .int x4), (6, .int x6), (7, .long x7), (9, .long x9)] → f_X9_lookPointer_116 S o0 x2 x3 x4 x6 x7 x9 D = some (r, D') → W p l e R s m args below meth c H locs 0 0 (MQ below (Qn (some (.int r)) True (wpost G cA S D' ad A) A) args s 0 0 A) (F0 m 116 ls []) := by
  obtain ⟨hx, hb, -⟩ := id hC
  intro o0 a0 x2 x3 x4 x6 x7 x9 D H locs ls hi0 hw hl h
  unfold f_X9_lookPointer_116 at h
  refine lv_iconst (v := 1) hx hb dX9_lookPointer_116 (by decide) ?_
  refine lv_goto (tgt := 121) hx hb dX9_lookPointer_117 (by decide) ?_
  exact w_X9_lookPointer_121 hC hR o0 a0 x2 x3 x4 x6 x7 x9 (1 : Int32) _ _ _ _ hi0 hw (lv_sub hl [0, 1, 2, 3, 4, 5, 6] rfl) h
set_option maxHeartbeats 4000000 in
set_option maxRecDepth 100000 in
theorem w_X9_lookPointer_88 {r : Int32} {D' : dt} (hC : Cx RX9 cX9_lookPointer 19 (some .int) p s m args meth c) (hR : 1 ≤ R.frames ∧ 25 ≤ R.locals) : ∀ (o0 a0 : Nat) (x2 : Int32) (x3 : Int32) (x4 : Int32) (x5 : Int32) (x6 : Int32) (x7 : Int64) (xs0 : Int64) (D : dt) (H : Heap) (locs : List Loc) (ls : Array Slot), Is S ad o0 a0 8 → Wd G cA S D ad A s H locs → lv_has ls 19 [(0, .ref a0), (2, .int x2), (3, .int x3), (4, .int x4), (5, .int x5), (6, .int x6), (7, .long x7)] → f_X9_lookPointer_88 S o0 x2 x3 x4 x5 x6 x7 xs0 D = some (r, D') → W p l e R s m args below meth c H locs 0 0 (MQ below (Qn (some (.int r)) True (wpost G cA S D' ad A) A) args s 0 0 A) (F0 m 88 ls [.long xs0]) := by
  obtain ⟨hx, hb, -⟩ := id hC
  intro o0 a0 x2 x3 x4 x5 x6 x7 xs0 D H locs ls hi0 hw hl h
  unfold f_X9_lookPointer_88 at h
  refine lv_lstore (lv' := [(9, .long xs0), (0, .ref a0), (2, .int x2), (3, .int x3), (4, .int x4), (5, .int x5), (6, .int x6), (7, .long x7)]) hx hb dX9_lookPointer_88 hl (by decide) rfl (fun ls hl => ?_)
  refine lv_aload_n hx hb dX9_lookPointer_90 rfl (lv_at hl 1 rfl) ?_
  obtain ⟨o218, ho221, h⟩ := rq_i h
  refine r_getR hC hw kc_8 hi0 40 rfl lk_1112 dX9_lookPointer_91 rfl ho221 (fun a219 hi220 => ?_)
  refine lv_iload hx hb dX9_lookPointer_94 (lv_at hl 6 rfl) ?_
  obtain ⟨hn222, h⟩ := ix_i h
  refine r_iald hC hw hi220 hn222 dX9_lookPointer_96 ?_
  obtain ⟨r224, hq223, h⟩ := pq_i h
  refine r_cS (st' := [.int r224]) [.int (gI D o218 x6.toNatClampNeg)] [] hC hw (k_X9_isPointer _ hq223) mk_X9_isPointer lk_1512 ⟨Nat.le_trans (by decide) hR.1, Nat.le_trans (by decide) hR.2⟩ ⟨Nat.zero_le _, Nat.zero_le _⟩ rfl hl.1 rfl rfl (Nat.le_of_ble_eq_true rfl) dX9_lookPointer_97 (fun hP H locs hw => ?_)
  refine lv_if_eq (tgt := 120) hx hb dX9_lookPointer_100 (by decide) (fun c225 => ?_) (fun c225 => ?_)
  · have h := i_yes c225 h
    exact w_X9_lookPointer_120 hC hR o0 a0 x2 x3 x4 x6 x7 xs0 _ _ _ _ hi0 hw (lv_sub hl [1, 2, 3, 4, 6, 7, 0] rfl) h
  · have h := i_no c225 h
    refine lv_iload hx hb dX9_lookPointer_103 (lv_at hl 5 rfl) ?_
    refine lv_if_ne (tgt := 116) hx hb dX9_lookPointer_105 (by decide) (fun c226 => ?_) (fun c226 => ?_)
    · have h := i_no c226 h
      exact w_X9_lookPointer_116 hC hR o0 a0 x2 x3 x4 x6 x7 xs0 _ _ _ _ hi0 hw (lv_sub hl [1, 2, 3, 4, 6, 7, 0] rfl) h
    · have h := i_yes c226 h
      refine lv_aload_n hx hb dX9_lookPointer_108 rfl (lv_at hl 1 rfl) ?_
      refine r_gI hC hw kc_8 hi0 50 rfl lk_1122 dX9_lookPointer_109 ?_
      refine lv_iconst (v := 1) hx hb dX9_lookPointer_112 (by decide) ?_
      refine lv_icmp_ne (tgt := 120) hx hb dX9_lookPointer_113 (by decide) (fun c227 => ?_) (fun c227 => ?_)
      · have h := i_no c227 h
        exact w_X9_lookPointer_120 hC hR o0 a0 x2 x3 x4 x6 x7 xs0 _ _ _ _ hi0 hw (lv_sub hl [1, 2, 3, 4, 6, 7, 0] rfl) h
      · have h := i_yes c227 h
        exact w_X9_lookPointer_116 hC hR o0 a0 x2 x3 x4 x6 x7 xs0 _ _ _ _ hi0 hw (lv_sub hl [1, 2, 3, 4, 6, 7, 0] rfl) h
set_option maxHeartbeats 4000000 in
set_option maxRecDepth 100000 in
theorem w_X9_lookPointer_67 {r : Int32} {D' : dt} (hC : Cx RX9 cX9_lookPointer 19 (some .int) p s m args meth c) (hR : 1 ≤ R.frames ∧ 25 ≤ R.locals) : ∀ (o0 a0 : Nat) (x2 : Int32) (x3 : Int32) (x4 : Int32) (x5 : Int32) (x6 : Int32) (xs0 : Int64) (D : dt) (H : Heap) (locs : List Loc) (ls : Array Slot), Is S ad o0 a0 8 → Wd G cA S D ad A s H locs → lv_has ls 19 [(0, .ref a0), (2, .int x2), (3, .int x3), (4, .int x4), (5, .int x5), (6, .int x6)] → f_X9_lookPointer_67 S o0 x2 x3 x4 x5 x6 xs0 D = some (r, D') → W p l e R s m args below meth c H locs 0 0 (MQ below (Qn (some (.int r)) True (wpost G cA S D' ad A) A) args s 0 0 A) (F0 m 67 ls [.long xs0]) := by
  obtain ⟨hx, hb, -⟩ := id hC
  intro o0 a0 x2 x3 x4 x5 x6 xs0 D H locs ls hi0 hw hl h
  unfold f_X9_lookPointer_67 at h
  refine lv_lstore (lv' := [(7, .long xs0), (0, .ref a0), (2, .int x2), (3, .int x3), (4, .int x4), (5, .int x5), (6, .int x6)]) hx hb dX9_lookPointer_67 hl (by decide) rfl (fun ls hl => ?_)
  refine lv_iload hx hb dX9_lookPointer_69 (lv_at hl 5 rfl) ?_
  refine lv_if_eq (tgt := 84) hx hb dX9_lookPointer_71 (by decide) (fun c228 => ?_) (fun c228 => ?_)
  · have h := i_yes c228 h
    refine lv_aload_n hx hb dX9_lookPointer_84 rfl (lv_at hl 1 rfl) ?_
    refine r_gL hC hw kc_8 hi0 52 rfl lk_1124 dX9_lookPointer_85 ?_
    exact w_X9_lookPointer_88 hC hR o0 a0 x2 x3 x4 x5 x6 xs0 (gL D o0 52) _ _ _ _ hi0 hw (lv_sub hl [1, 2, 3, 4, 5, 6, 0] rfl) h
  · have h := i_no c228 h
    refine lv_aload_n hx hb dX9_lookPointer_74 rfl (lv_at hl 1 rfl) ?_
    obtain ⟨o229, ho232, h⟩ := rq_i h
    refine r_getR hC hw kc_8 hi0 42 rfl lk_1114 dX9_lookPointer_75 rfl ho232 (fun a230 hi231 => ?_)
    refine lv_iload hx hb dX9_lookPointer_78 (lv_at hl 4 rfl) ?_
    obtain ⟨hn233, h⟩ := ix_i h
    refine r_lald hC hw hi231 hn233 dX9_lookPointer_80 ?_
    refine lv_goto (tgt := 88) hx hb dX9_lookPointer_81 (by decide) ?_
    exact w_X9_lookPointer_88 hC hR o0 a0 x2 x3 x4 x5 x6 xs0 (gL D o229 x4.toNatClampNeg) _ _ _ _ hi0 hw (lv_sub hl [1, 2, 3, 4, 5, 6, 0] rfl) h
set_option maxHeartbeats 4000000 in
set_option maxRecDepth 100000 in
theorem w_X9_lookPointer_46 {r : Int32} {D' : dt} (hC : Cx RX9 cX9_lookPointer 19 (some .int) p s m args meth c) (hR : 1 ≤ R.frames ∧ 25 ≤ R.locals) : ∀ (o0 a0 : Nat) (x2 : Int32) (x3 : Int32) (x4 : Int32) (x5 : Int32) (xs0 : Int32) (D : dt) (H : Heap) (locs : List Loc) (ls : Array Slot), Is S ad o0 a0 8 → Wd G cA S D ad A s H locs → lv_has ls 19 [(0, .ref a0), (2, .int x2), (3, .int x3), (4, .int x4), (5, .int x5)] → f_X9_lookPointer_46 S o0 x2 x3 x4 x5 xs0 D = some (r, D') → W p l e R s m args below meth c H locs 0 0 (MQ below (Qn (some (.int r)) True (wpost G cA S D' ad A) A) args s 0 0 A) (F0 m 46 ls [.int xs0]) := by
  obtain ⟨hx, hb, -⟩ := id hC
  intro o0 a0 x2 x3 x4 x5 xs0 D H locs ls hi0 hw hl h
  unfold f_X9_lookPointer_46 at h
  refine lv_istore (lv' := [(6, .int xs0), (0, .ref a0), (2, .int x2), (3, .int x3), (4, .int x4), (5, .int x5)]) hx hb dX9_lookPointer_46 hl (by decide) rfl (fun ls hl => ?_)
  refine lv_iload hx hb dX9_lookPointer_48 (lv_at hl 5 rfl) ?_
  refine lv_if_eq (tgt := 63) hx hb dX9_lookPointer_50 (by decide) (fun c234 => ?_) (fun c234 => ?_)
  · have h := i_yes c234 h
    refine lv_aload_n hx hb dX9_lookPointer_63 rfl (lv_at hl 1 rfl) ?_
    refine r_gL hC hw kc_8 hi0 51 rfl lk_1123 dX9_lookPointer_64 ?_
    exact w_X9_lookPointer_67 hC hR o0 a0 x2 x3 x4 x5 xs0 (gL D o0 51) _ _ _ _ hi0 hw (lv_sub hl [1, 2, 3, 4, 5, 0] rfl) h
  · have h := i_no c234 h
    refine lv_aload_n hx hb dX9_lookPointer_53 rfl (lv_at hl 1 rfl) ?_
    obtain ⟨o235, ho238, h⟩ := rq_i h
    refine r_getR hC hw kc_8 hi0 41 rfl lk_1113 dX9_lookPointer_54 rfl ho238 (fun a236 hi237 => ?_)
    refine lv_iload hx hb dX9_lookPointer_57 (lv_at hl 4 rfl) ?_
    obtain ⟨hn239, h⟩ := ix_i h
    refine r_lald hC hw hi237 hn239 dX9_lookPointer_59 ?_
    refine lv_goto (tgt := 67) hx hb dX9_lookPointer_60 (by decide) ?_
    exact w_X9_lookPointer_67 hC hR o0 a0 x2 x3 x4 x5 xs0 (gL D o235 x4.toNatClampNeg) _ _ _ _ hi0 hw (lv_sub hl [1, 2, 3, 4, 5, 0] rfl) h
set_option maxHeartbeats 4000000 in
set_option maxRecDepth 100000 in
theorem w_X9_lookPointer_28 {r : Int32} {D' : dt} (hC : Cx RX9 cX9_lookPointer 19 (some .int) p s m args meth c) (hR : 1 ≤ R.frames ∧ 25 ≤ R.locals) : ∀ (o0 a0 : Nat) (x1 : Int32) (x2 : Int32) (x3 : Int32) (x4 : Int32) (xs0 : Int32) (D : dt) (H : Heap) (locs : List Loc) (ls : Array Slot), Is S ad o0 a0 8 → Wd G cA S D ad A s H locs → lv_has ls 19 [(0, .ref a0), (1, .int x1), (2, .int x2), (3, .int x3), (4, .int x4)] → f_X9_lookPointer_28 S o0 x1 x2 x3 x4 xs0 D = some (r, D') → W p l e R s m args below meth c H locs 0 0 (MQ below (Qn (some (.int r)) True (wpost G cA S D' ad A) A) args s 0 0 A) (F0 m 28 ls [.int xs0]) := by
  obtain ⟨hx, hb, -⟩ := id hC
  intro o0 a0 x1 x2 x3 x4 xs0 D H locs ls hi0 hw hl h
  unfold f_X9_lookPointer_28 at h
  refine lv_istore (lv' := [(5, .int xs0), (0, .ref a0), (1, .int x1), (2, .int x2), (3, .int x3), (4, .int x4)]) hx hb dX9_lookPointer_28 hl (by decide) rfl (fun ls hl => ?_)
  refine lv_iload hx hb dX9_lookPointer_30 (lv_at hl 0 rfl) ?_
  refine lv_if_eq (tgt := 44) hx hb dX9_lookPointer_32 (by decide) (fun c240 => ?_) (fun c240 => ?_)
  · have h := i_yes c240 h
    refine lv_iload hx hb dX9_lookPointer_44 (lv_at hl 5 rfl) ?_
    exact w_X9_lookPointer_46 hC hR o0 a0 x2 x3 x4 xs0 x4 _ _ _ _ hi0 hw (lv_sub hl [1, 3, 4, 5, 0] rfl) h
  · have h := i_no c240 h
    refine lv_aload_n hx hb dX9_lookPointer_35 rfl (lv_at hl 1 rfl) ?_
    obtain ⟨o241, ho244, h⟩ := rq_i h
    refine r_getR hC hw kc_8 hi0 3 rfl lk_1075 dX9_lookPointer_36 rfl ho244 (fun a242 hi243 => ?_)
    refine lv_iload_n hx hb dX9_lookPointer_39 rfl (lv_at hl 2 rfl) ?_
    obtain ⟨hn245, h⟩ := ix_i h
    refine r_iald hC hw hi243 hn245 dX9_lookPointer_40 ?_
    refine lv_goto (tgt := 46) hx hb dX9_lookPointer_41 (by decide) ?_
    exact w_X9_lookPointer_46 hC hR o0 a0 x2 x3 x4 xs0 (gI D o241 x1.toNatClampNeg) _ _ _ _ hi0 hw (lv_sub hl [1, 3, 4, 5, 0] rfl) h
set_option maxHeartbeats 4000000 in
set_option maxRecDepth 100000 in
theorem w_X9_lookPointer_27 {r : Int32} {D' : dt} (hC : Cx RX9 cX9_lookPointer 19 (some .int) p s m args meth c) (hR : 1 ≤ R.frames ∧ 25 ≤ R.locals) : ∀ (o0 a0 : Nat) (x1 : Int32) (x2 : Int32) (x3 : Int32) (x4 : Int32) (D : dt) (H : Heap) (locs : List Loc) (ls : Array Slot), Is S ad o0 a0 8 → Wd G cA S D ad A s H locs → lv_has ls 19 [(0, .ref a0), (1, .int x1), (2, .int x2), (3, .int x3), (4, .int x4)] → f_X9_lookPointer_27 S o0 x1 x2 x3 x4 D = some (r, D') → W p l e R s m args below meth c H locs 0 0 (MQ below (Qn (some (.int r)) True (wpost G cA S D' ad A) A) args s 0 0 A) (F0 m 27 ls []) := by
  obtain ⟨hx, hb, -⟩ := id hC
  intro o0 a0 x1 x2 x3 x4 D H locs ls hi0 hw hl h
  unfold f_X9_lookPointer_27 at h
  refine lv_iconst (v := 0) hx hb dX9_lookPointer_27 (by decide) ?_
  exact w_X9_lookPointer_28 hC hR o0 a0 x1 x2 x3 x4 (0 : Int32) _ _ _ _ hi0 hw (lv_sub hl [0, 1, 2, 3, 4] rfl) h
set_option maxHeartbeats 4000000 in
set_option maxRecDepth 100000 in
theorem w_X9_lookPointer_0 {r : Int32} {D' : dt} (hC : Cx RX9 cX9_lookPointer 19 (some .int) p s m args meth c) (hR : 1 ≤ R.frames ∧ 25 ≤ R.locals) : ∀ (o0 a0 : Nat) (x1 : Int32) (x2 : Int32) (x3 : Int32) (D : dt) (H : Heap) (locs : List Loc) (ls : Array Slot), Is S ad o0 a0 8 → Wd G cA S D ad A s H locs → lv_has ls 19 [(0, .ref a0), (1, .int x1), (2, .int x2), (3, .int x3)] → f_X9_lookPointer S o0 x1 x2 x3 D = some (r, D') → W p l e R s m args below meth c H locs 0 0 (MQ below (Qn (some (.int r)) True (wpost G cA S D' ad A) A) args s 0 0 A) (F0 m 0 ls []) := by
  obtain ⟨hx, hb, -⟩ := id hC
  intro o0 a0 x1 x2 x3 D H locs ls hi0 hw hl h
  unfold f_X9_lookPointer at h
  refine lv_aload_n hx hb dX9_lookPointer_0 rfl (lv_at hl 0 rfl) ?_
  obtain ⟨o246, ho249, h⟩ := rq_i h
  refine r_getR hC hw kc_8 hi0 2 rfl lk_1074 dX9_lookPointer_1 rfl ho249 (fun a247 hi248 => ?_)
  refine lv_iload_n hx hb dX9_lookPointer_4 rfl (lv_at hl 1 rfl) ?_
  obtain ⟨hn250, h⟩ := ix_i h
  refine r_iald hC hw hi248 hn250 dX9_lookPointer_5 ?_
  refine lv_topi (fun y251 ey251 => ?_)
  have h := nm_i h y251 ey251
  refine lv_istore (lv' := [(4, .int y251), (0, .ref a0), (1, .int x1), (2, .int x2), (3, .int x3)]) hx hb dX9_lookPointer_6 hl (by decide) rfl (fun ls hl => ?_)
  refine lv_iload_n hx hb dX9_lookPointer_8 rfl (lv_at hl 3 rfl) ?_
  refine lv_if_ne (tgt := 27) hx hb dX9_lookPointer_9 (by decide) (fun c252 => ?_) (fun c252 => ?_)
  · have h := i_no c252 h
    exact w_X9_lookPointer_27 hC hR o0 a0 x1 x2 x3 y251 _ _ _ _ hi0 hw (lv_sub hl [1, 2, 3, 4, 0] rfl) h
  · have h := i_yes c252 h
    refine lv_aload_n hx hb dX9_lookPointer_12 rfl (lv_at hl 1 rfl) ?_
    obtain ⟨o253, ho256, h⟩ := rq_i h
    refine r_getR hC hw kc_8 hi0 40 rfl lk_1112 dX9_lookPointer_13 rfl ho256 (fun a254 hi255 => ?_)
    refine lv_iload hx hb dX9_lookPointer_16 (lv_at hl 0 rfl) ?_
    obtain ⟨hn257, h⟩ := ix_i h
    refine r_iald hC hw hi255 hn257 dX9_lookPointer_18 ?_
    refine lv_iconst (v := 1) hx hb dX9_lookPointer_19 (by decide) ?_
    refine lv_icmp_ne (tgt := 27) hx hb dX9_lookPointer_20 (by decide) (fun c258 => ?_) (fun c258 => ?_)
    · have h := i_no c258 h
      exact w_X9_lookPointer_27 hC hR o0 a0 x1 x2 x3 y251 _ _ _ _ hi0 hw (lv_sub hl [1, 2, 3, 4, 0] rfl) h
    · have h := i_yes c258 h
      refine lv_iconst (v := 1) hx hb dX9_lookPointer_23 (by decide) ?_
      refine lv_goto (tgt := 28) hx hb dX9_lookPointer_24 (by decide) ?_
      exact w_X9_lookPointer_28 hC hR o0 a0 x1 x2 x3 y251 (1 : Int32) _ _ _ _ hi0 hw (lv_sub hl [1, 2, 3, 4, 0] rfl) h
set_option maxHeartbeats 4000000 in
set_option maxRecDepth 100000 in
theorem k_X9_lookPointer {l : Launch} {G : va_G} {cA : Nat → ClassId} {S : sh} {D D' : dt} {ad : Nat → Nat} (sz : Nat) {o0 a0 : Nat} {x1 : Int32} {x2 : Int32} {x3 : Int32} {r : Int32} (hi0 : Is S ad o0 a0 8) (h : f_X9_lookPointer S o0 x1 x2 x3 D = some (r, D')) : Co l yX9_lookPointer (Cond.code yX9_lookPointer cX9_lookPointer 19 (some .int) :: tb0) 1 25 [.ref a0, .int x1, .int x2, .int x3] G cA S D ad sz (some (.int r)) True D' := by
  refine Met.ofW (cc := cX9_lookPointer) (maxL := 19) (ret := (some .int)) (by decide) rfl ?_
  intro p e s m args below meth c s₁ B hml hv
  obtain ⟨rfl, hsz, hP, hK, hD0, hT, hX⟩ := hv
  subst hsz
  have hts := atoms_spec (ws := Cond.code yX9_lookPointer cX9_lookPointer 19 (some .int) :: tb0) B.pre
  have hC : Cx RX9 cX9_lookPointer 19 (some .int) p s m _ meth c := ⟨B.exec, B.bytes, hml, findClass_of_methodNamed B.named, fun w q => hts w (List.mem_cons_of_mem _ q), B.returns, B.notSynchronized⟩
  have hw := Wd.entry hP hK hD0 hT hX
  have hl := lv_entry ([.ref a0, .int x1, .int x2, .int x3]) (n := 19) (Nat.le_of_ble_eq_true rfl)
  rw [lg_entry_eq]
  exact w_X9_lookPointer_0 hC ⟨Nat.le_refl _, Nat.le_refl _⟩ o0 a0 x1 x2 x3 D _ _ _ hi0 hw hl h
set_option maxHeartbeats 4000000 in
set_option maxRecDepth 100000 in
theorem w_X9_lookRegister_160 {r : Int32} {D' : dt} (hC : Cx RX9 cX9_lookRegister 6 (some .int) p s m args meth c) (hR : 6 ≤ R.frames ∧ 182 ≤ R.locals) : ∀ (o0 a0 : Nat) (x1 : Int32) (x2 : Int32) (x3 : Int32) (D : dt) (H : Heap) (locs : List Loc) (ls : Array Slot), Is S ad o0 a0 8 → Wd G cA S D ad A s H locs → lv_has ls 6 [(0, .ref a0), (1, .int x1), (2, .int x2), (3, .int x3)] → f_X9_lookRegister_160 S o0 x1 x2 x3 D = some (r, D') → W p l e R s m args below meth c H locs 0 0 (MQ below (Qn (some (.int r)) True (wpost G cA S D' ad A) A) args s 0 0 A) (F0 m 160 ls []) := by
  obtain ⟨hx, hb, -⟩ := id hC
  intro o0 a0 x1 x2 x3 D H locs ls hi0 hw hl h
  unfold f_X9_lookRegister_160 at h
  refine lv_aload_n hx hb dX9_lookRegister_160 rfl (lv_at hl 0 rfl) ?_
  refine lv_iload_n hx hb dX9_lookRegister_161 rfl (lv_at hl 1 rfl) ?_
  refine lv_iload_n hx hb dX9_lookRegister_162 rfl (lv_at hl 2 rfl) ?_
  refine lv_iload_n hx hb dX9_lookRegister_163 rfl (lv_at hl 3 rfl) ?_
  obtain ⟨_, D69, hq68, h⟩ := cq_i h
  refine r_cV (st' := []) [.int x1, .int x2, .int x3] [] hC hw kc_8 hi0 (k_X9_reckonRange _ hi0 hq68) mk_X9_reckonRange lk_1492 ⟨Nat.le_trans (by decide) hR.1, Nat.le_trans (by decide) hR.2⟩ ⟨Nat.zero_le _, Nat.zero_le _⟩ rfl hl.1 rfl rfl (Nat.le_of_ble_eq_true rfl) dX9_lookRegister_164 (fun hP H locs hw => ?_)
  refine lv_iconst (v := 0) hx hb dX9_lookRegister_167 (by decide) ?_
  cases h
  exact r_iret hC hw dX9_lookRegister_168
set_option maxHeartbeats 4000000 in
set_option maxRecDepth 100000 in
theorem w_X9_lookRegister_169 {r : Int32} {D' : dt} (hC : Cx RX9 cX9_lookRegister 6 (some .int) p s m args meth c) (hR : 6 ≤ R.frames ∧ 182 ≤ R.locals) : ∀ (o0 a0 : Nat) (x1 : Int32) (x2 : Int32) (x3 : Int32) (x4 : Int32) (D : dt) (H : Heap) (locs : List Loc) (ls : Array Slot), Is S ad o0 a0 8 → Wd G cA S D ad A s H locs → lv_has ls 6 [(0, .ref a0), (1, .int x1), (2, .int x2), (3, .int x3), (4, .int x4)] → f_X9_lookRegister_169 S o0 x1 x2 x3 x4 D = some (r, D') → W p l e R s m args below meth c H locs 0 0 (MQ below (Qn (some (.int r)) True (wpost G cA S D' ad A) A) args s 0 0 A) (F0 m 169 ls []) := by
  obtain ⟨hx, hb, -⟩ := id hC
  intro o0 a0 x1 x2 x3 x4 D H locs ls hi0 hw hl h
  unfold f_X9_lookRegister_169 at h
  refine lv_iload_n hx hb dX9_lookRegister_169 rfl (lv_at hl 3 rfl) ?_
  refine lv_if_eq (tgt := 189) hx hb dX9_lookRegister_170 (by decide) (fun c70 => ?_) (fun c70 => ?_)
  · have h := i_yes c70 h
    refine lv_iconst (v := 3) hx hb dX9_lookRegister_189 (by decide) ?_
    cases h
    exact r_iret hC hw dX9_lookRegister_190
  · have h := i_no c70 h
    refine lv_iload_n hx hb dX9_lookRegister_173 rfl (lv_at hl 2 rfl) ?_
    refine lv_iconst (v := 2) hx hb dX9_lookRegister_174 (by decide) ?_
    refine lv_icmp_ge (tgt := 189) hx hb dX9_lookRegister_175 (by decide) (fun c71 => ?_) (fun c71 => ?_)
    · have h := i_yes c71 h
      refine lv_iconst (v := 3) hx hb dX9_lookRegister_189 (by decide) ?_
      cases h
      exact r_iret hC hw dX9_lookRegister_190
    · have h := i_no c71 h
      refine lv_aload_n hx hb dX9_lookRegister_178 rfl (lv_at hl 0 rfl) ?_
      refine lv_iload_n hx hb dX9_lookRegister_179 rfl (lv_at hl 1 rfl) ?_
      refine lv_iload_n hx hb dX9_lookRegister_180 rfl (lv_at hl 2 rfl) ?_
      refine lv_iload hx hb dX9_lookRegister_181 (lv_at hl 4 rfl) ?_
      obtain ⟨r73, D74, hq72, h⟩ := cq_i h
      refine r_cV (st' := [.int r73]) [.int x1, .int x2, .int x4] [] hC hw kc_8 hi0 (k_X9_lookPointer _ hi0 hq72) mk_X9_lookPointer lk_1508 ⟨Nat.le_trans (by decide) hR.1, Nat.le_trans (by decide) hR.2⟩ ⟨Nat.zero_le _, Nat.zero_le _⟩ rfl hl.1 rfl rfl (Nat.le_of_ble_eq_true rfl) dX9_lookRegister_183 (fun hP H locs hw => ?_)
      refine lv_goto (tgt := 190) hx hb dX9_lookRegister_186 (by decide) ?_
      cases h
      exact r_iret hC hw dX9_lookRegister_190
set_option maxHeartbeats 4000000 in
set_option maxRecDepth 100000 in
theorem w_X9_lookRegister_135 {r : Int32} {D' : dt} (hC : Cx RX9 cX9_lookRegister 6 (some .int) p s m args meth c) (hR : 6 ≤ R.frames ∧ 182 ≤ R.locals) : ∀ (o0 a0 : Nat) (x1 : Int32) (x2 : Int32) (x3 : Int32) (x4 : Int32) (x5 : Int32) (D : dt) (H : Heap) (locs : List Loc) (ls : Array Slot), Is S ad o0 a0 8 → Wd G cA S D ad A s H locs → lv_has ls 6 [(0, .ref a0), (1, .int x1), (2, .int x2), (3, .int x3), (4, .int x4), (5, .int x5)] → f_X9_lookRegister_135 S o0 x1 x2 x3 x4 x5 D = some (r, D') → W p l e R s m args below meth c H locs 0 0 (MQ below (Qn (some (.int r)) True (wpost G cA S D' ad A) A) args s 0 0 A) (F0 m 135 ls []) := by
  obtain ⟨hx, hb, -⟩ := id hC
  intro o0 a0 x1 x2 x3 x4 x5 D H locs ls hi0 hw hl h
  unfold f_X9_lookRegister_135 at h
  refine lv_aload_n hx hb dX9_lookRegister_135 rfl (lv_at hl 0 rfl) ?_
  refine r_gI hC hw kc_8 hi0 50 rfl lk_1122 dX9_lookRegister_136 ?_
  refine lv_iconst (v := 1) hx hb dX9_lookRegister_139 (by decide) ?_
  refine lv_icmp_ne (tgt := 169) hx hb dX9_lookRegister_140 (by decide) (fun c75 => ?_) (fun c75 => ?_)
  · have h := i_no c75 h
    exact w_X9_lookRegister_169 hC hR o0 a0 x1 x2 x3 x4 _ _ _ _ hi0 hw (lv_sub hl [0, 1, 2, 3, 4] rfl) h
  · have h := i_yes c75 h
    refine lv_iload_n hx hb dX9_lookRegister_143 rfl (lv_at hl 2 rfl) ?_
    refine lv_bipush (v := 11) hx hb dX9_lookRegister_144 (by decide) ?_
    refine lv_icmp_eq (tgt := 160) hx hb dX9_lookRegister_146 (by decide) (fun c76 => ?_) (fun c76 => ?_)
    · have h := i_yes c76 h
      exact w_X9_lookRegister_160 hC hR o0 a0 x1 x2 x3 _ _ _ _ hi0 hw (lv_sub hl [0, 1, 2, 3] rfl) h
    · have h := i_no c76 h
      refine lv_aload_n hx hb dX9_lookRegister_149 rfl (lv_at hl 0 rfl) ?_
      obtain ⟨o77, ho80, h⟩ := rq_i h
      refine r_getR hC hw kc_8 hi0 40 rfl lk_1112 dX9_lookRegister_150 rfl ho80 (fun a78 hi79 => ?_)
      refine lv_iload hx hb dX9_lookRegister_153 (lv_at hl 5 rfl) ?_
      obtain ⟨hn81, h⟩ := ix_i h
      refine r_iald hC hw hi79 hn81 dX9_lookRegister_155 ?_
      refine lv_iconst (v := 1) hx hb dX9_lookRegister_156 (by decide) ?_
      refine lv_icmp_ne (tgt := 169) hx hb dX9_lookRegister_157 (by decide) (fun c82 => ?_) (fun c82 => ?_)
      · have h := i_no c82 h
        exact w_X9_lookRegister_169 hC hR o0 a0 x1 x2 x3 x4 _ _ _ _ hi0 hw (lv_sub hl [0, 1, 2, 3, 4] rfl) h
      · have h := i_yes c82 h
        exact w_X9_lookRegister_160 hC hR o0 a0 x1 x2 x3 _ _ _ _ hi0 hw (lv_sub hl [0, 1, 2, 3] rfl) h
set_option maxHeartbeats 4000000 in
set_option maxRecDepth 100000 in
theorem w_X9_lookRegister_97 {r : Int32} {D' : dt} (hC : Cx RX9 cX9_lookRegister 6 (some .int) p s m args meth c) (hR : 6 ≤ R.frames ∧ 182 ≤ R.locals) : ∀ (o0 a0 : Nat) (x1 : Int32) (x2 : Int32) (x3 : Int32) (x4 : Int32) (x5 : Int32) (D : dt) (H : Heap) (locs : List Loc) (ls : Array Slot), Is S ad o0 a0 8 → Wd G cA S D ad A s H locs → lv_has ls 6 [(0, .ref a0), (1, .int x1), (2, .int x2), (3, .int x3), (4, .int x4), (5, .int x5)] → f_X9_lookRegister_97 S o0 x1 x2 x3 x4 x5 D = some (r, D') → W p l e R s m args below meth c H locs 0 0 (MQ below (Qn (some (.int r)) True (wpost G cA S D' ad A) A) args s 0 0 A) (F0 m 97 ls []) := by
  obtain ⟨hx, hb, -⟩ := id hC
  intro o0 a0 x1 x2 x3 x4 x5 D H locs ls hi0 hw hl h
  unfold f_X9_lookRegister_97 at h
  refine lv_iload_n hx hb dX9_lookRegister_97 rfl (lv_at hl 2 rfl) ?_
  refine lv_bipush (v := 11) hx hb dX9_lookRegister_98 (by decide) ?_
  refine lv_icmp_ne (tgt := 135) hx hb dX9_lookRegister_100 (by decide) (fun c83 => ?_) (fun c83 => ?_)
  · have h := i_no c83 h
    exact w_X9_lookRegister_135 hC hR o0 a0 x1 x2 x3 x4 x5 _ _ _ _ hi0 hw (lv_sub hl [0, 1, 2, 3, 4, 5] rfl) h
  · have h := i_yes c83 h
    refine lv_iload_n hx hb dX9_lookRegister_103 rfl (lv_at hl 3 rfl) ?_
    refine lv_if_eq (tgt := 135) hx hb dX9_lookRegister_104 (by decide) (fun c84 => ?_) (fun c84 => ?_)
    · have h := i_yes c84 h
      exact w_X9_lookRegister_135 hC hR o0 a0 x1 x2 x3 x4 x5 _ _ _ _ hi0 hw (lv_sub hl [0, 1, 2, 3, 4, 5] rfl) h
    · have h := i_no c84 h
      refine lv_iload hx hb dX9_lookRegister_107 (lv_at hl 4 rfl) ?_
      refine lv_if_eq (tgt := 135) hx hb dX9_lookRegister_109 (by decide) (fun c85 => ?_) (fun c85 => ?_)
      · have h := i_yes c85 h
        exact w_X9_lookRegister_135 hC hR o0 a0 x1 x2 x3 x4 x5 _ _ _ _ hi0 hw (lv_sub hl [0, 1, 2, 3, 4, 5] rfl) h
      · have h := i_no c85 h
        refine lv_aload_n hx hb dX9_lookRegister_112 rfl (lv_at hl 0 rfl) ?_
        obtain ⟨o86, ho89, h⟩ := rq_i h
        refine r_getR hC hw kc_8 hi0 4 rfl lk_1076 dX9_lookRegister_113 rfl ho89 (fun a87 hi88 => ?_)
        refine lv_iload_n hx hb dX9_lookRegister_116 rfl (lv_at hl 1 rfl) ?_
        obtain ⟨hn90, h⟩ := ix_i h
        refine r_iald hC hw hi88 hn90 dX9_lookRegister_117 ?_
        refine lv_if_ne (tgt := 135) hx hb dX9_lookRegister_118 (by decide) (fun c91 => ?_) (fun c91 => ?_)
        · have h := i_no c91 h
          exact w_X9_lookRegister_135 hC hR o0 a0 x1 x2 x3 x4 x5 _ _ _ _ hi0 hw (lv_sub hl [0, 1, 2, 3, 4, 5] rfl) h
        · have h := i_yes c91 h
          refine lv_aload_n hx hb dX9_lookRegister_121 rfl (lv_at hl 0 rfl) ?_
          refine lv_aload_n hx hb dX9_lookRegister_122 rfl (lv_at hl 0 rfl) ?_
          obtain ⟨o92, ho95, h⟩ := rq_i h
          refine r_getR hC hw kc_8 hi0 3 rfl lk_1075 dX9_lookRegister_123 rfl ho95 (fun a93 hi94 => ?_)
          refine lv_iload_n hx hb dX9_lookRegister_126 rfl (lv_at hl 1 rfl) ?_
          obtain ⟨hn96, h⟩ := ix_i h
          refine r_iald hC hw hi94 hn96 dX9_lookRegister_127 ?_
          refine lv_iload hx hb dX9_lookRegister_128 (lv_at hl 5 rfl) ?_
          obtain ⟨_, D98, hq97, h⟩ := cq_i h
          refine r_cV (st' := []) [.int (gI D o92 x1.toNatClampNeg), .int x5] [] hC hw kc_8 hi0 (k_X9_same _ hi0 hq97) mk_X9_same lk_1488 ⟨Nat.le_trans (by decide) hR.1, Nat.le_trans (by decide) hR.2⟩ ⟨Nat.zero_le _, Nat.zero_le _⟩ rfl hl.1 rfl rfl (Nat.le_of_ble_eq_true rfl) dX9_lookRegister_130 (fun hP H locs hw => ?_)
          refine lv_iconst (v := 0) hx hb dX9_lookRegister_133 (by decide) ?_
          cases h
          exact r_iret hC hw dX9_lookRegister_134
set_option maxHeartbeats 4000000 in
set_option maxRecDepth 100000 in
theorem w_X9_lookRegister_83 {r : Int32} {D' : dt} (hC : Cx RX9 cX9_lookRegister 6 (some .int) p s m args meth c) (hR : 6 ≤ R.frames ∧ 182 ≤ R.locals) : ∀ (o0 a0 : Nat) (x1 : Int32) (x2 : Int32) (x3 : Int32) (x4 : Int32) (x5 : Int32) (D : dt) (H : Heap) (locs : List Loc) (ls : Array Slot), Is S ad o0 a0 8 → Wd G cA S D ad A s H locs → lv_has ls 6 [(0, .ref a0), (1, .int x1), (2, .int x2), (3, .int x3), (4, .int x4), (5, .int x5)] → f_X9_lookRegister_83 S o0 x1 x2 x3 x4 x5 D = some (r, D') → W p l e R s m args below meth c H locs 0 0 (MQ below (Qn (some (.int r)) True (wpost G cA S D' ad A) A) args s 0 0 A) (F0 m 83 ls []) := by
  obtain ⟨hx, hb, -⟩ := id hC
  intro o0 a0 x1 x2 x3 x4 x5 D H locs ls hi0 hw hl h
  unfold f_X9_lookRegister_83 at h
  refine lv_iload hx hb dX9_lookRegister_83 (lv_at hl 4 rfl) ?_
  refine lv_if_eq (tgt := 97) hx hb dX9_lookRegister_85 (by decide) (fun c99 => ?_) (fun c99 => ?_)
  · have h := i_yes c99 h
    exact w_X9_lookRegister_97 hC hR o0 a0 x1 x2 x3 x4 x5 _ _ _ _ hi0 hw (lv_sub hl [0, 1, 2, 3, 4, 5] rfl) h
  · have h := i_no c99 h
    refine lv_aload_n hx hb dX9_lookRegister_88 rfl (lv_at hl 0 rfl) ?_
    refine r_gI hC hw kc_8 hi0 50 rfl lk_1122 dX9_lookRegister_89 ?_
    refine lv_if_ne (tgt := 97) hx hb dX9_lookRegister_92 (by decide) (fun c100 => ?_) (fun c100 => ?_)
    · have h := i_no c100 h
      exact w_X9_lookRegister_97 hC hR o0 a0 x1 x2 x3 x4 x5 _ _ _ _ hi0 hw (lv_sub hl [0, 1, 2, 3, 4, 5] rfl) h
    · have h := i_yes c100 h
      refine lv_iconst (v := 2) hx hb dX9_lookRegister_95 (by decide) ?_
      cases h
      exact r_iret hC hw dX9_lookRegister_96
set_option maxHeartbeats 4000000 in
set_option maxRecDepth 100000 in
theorem w_X9_lookRegister_52 {r : Int32} {D' : dt} (hC : Cx RX9 cX9_lookRegister 6 (some .int) p s m args meth c) (hR : 6 ≤ R.frames ∧ 182 ≤ R.locals) : ∀ (o0 a0 : Nat) (x1 : Int32) (x2 : Int32) (x3 : Int32) (xs0 : Int32) (D : dt) (H : Heap) (locs : List Loc) (ls : Array Slot), Is S ad o0 a0 8 → Wd G cA S D ad A s H locs → lv_has ls 6 [(0, .ref a0), (1, .int x1), (2, .int x2), (3, .int x3)] → f_X9_lookRegister_52 S o0 x1 x2 x3 xs0 D = some (r, D') → W p l e R s m args below meth c H locs 0 0 (MQ below (Qn (some (.int r)) True (wpost G cA S D' ad A) A) args s 0 0 A) (F0 m 52 ls [.int xs0]) := by
  obtain ⟨hx, hb, -⟩ := id hC
  intro o0 a0 x1 x2 x3 xs0 D H locs ls hi0 hw hl h
  unfold f_X9_lookRegister_52 at h
  refine lv_istore (lv' := [(4, .int xs0), (0, .ref a0), (1, .int x1), (2, .int x2), (3, .int x3)]) hx hb dX9_lookRegister_52 hl (by decide) rfl (fun ls hl => ?_)
  refine lv_aload_n hx hb dX9_lookRegister_54 rfl (lv_at hl 1 rfl) ?_
  obtain ⟨o101, ho104, h⟩ := rq_i h
  refine r_getR hC hw kc_8 hi0 2 rfl lk_1074 dX9_lookRegister_55 rfl ho104 (fun a102 hi103 => ?_)
  refine lv_iload_n hx hb dX9_lookRegister_58 rfl (lv_at hl 2 rfl) ?_
  obtain ⟨hn105, h⟩ := ix_i h
  refine r_iald hC hw hi103 hn105 dX9_lookRegister_59 ?_
  refine lv_topi (fun y106 ey106 => ?_)
  have h := nm_i h y106 ey106
  refine lv_istore (lv' := [(5, .int y106), (4, .int xs0), (0, .ref a0), (1, .int x1), (2, .int x2), (3, .int x3)]) hx hb dX9_lookRegister_60 hl (by decide) rfl (fun ls hl => ?_)
  refine lv_aload_n hx hb dX9_lookRegister_62 rfl (lv_at hl 2 rfl) ?_
  refine lv_iload_n hx hb dX9_lookRegister_63 rfl (lv_at hl 3 rfl) ?_
  obtain ⟨_, D108, hq107, h⟩ := cq_i h
  refine r_cV (st' := []) [.int x1] [] hC hw kc_8 hi0 (k_X9_takeSecond _ hi0 hq107) mk_X9_takeSecond lk_1484 ⟨Nat.le_trans (by decide) hR.1, Nat.le_trans (by decide) hR.2⟩ ⟨Nat.zero_le _, Nat.zero_le _⟩ rfl hl.1 rfl rfl (Nat.le_of_ble_eq_true rfl) dX9_lookRegister_64 (fun hP H locs hw => ?_)
  refine lv_iload_n hx hb dX9_lookRegister_67 rfl (lv_at hl 4 rfl) ?_
  refine lv_bipush (v := 11) hx hb dX9_lookRegister_68 (by decide) ?_
  refine lv_icmp_eq (tgt := 83) hx hb dX9_lookRegister_70 (by decide) (fun c109 => ?_) (fun c109 => ?_)
  · have h := i_yes c109 h
    exact w_X9_lookRegister_83 hC hR o0 a0 x1 x2 x3 xs0 y106 _ _ _ _ hi0 hw (lv_sub hl [2, 3, 4, 5, 1, 0] rfl) h
  · have h := i_no c109 h
    refine lv_aload_n hx hb dX9_lookRegister_73 rfl (lv_at hl 2 rfl) ?_
    obtain ⟨o110, ho113, h⟩ := rq_i h
    refine r_getR hC hw kc_8 hi0 40 rfl lk_1112 dX9_lookRegister_74 rfl ho113 (fun a111 hi112 => ?_)
    refine lv_iload hx hb dX9_lookRegister_77 (lv_at hl 0 rfl) ?_
    obtain ⟨hn114, h⟩ := ix_i h
    refine r_iald hC hw hi112 hn114 dX9_lookRegister_79 ?_
    refine lv_if_eq (tgt := 95) hx hb dX9_lookRegister_80 (by decide) (fun c115 => ?_) (fun c115 => ?_)
    · have h := i_yes c115 h
      refine lv_iconst (v := 2) hx hb dX9_lookRegister_95 (by decide) ?_
      cases h
      exact r_iret hC hw dX9_lookRegister_96
    · have h := i_no c115 h
      exact w_X9_lookRegister_83 hC hR o0 a0 x1 x2 x3 xs0 y106 _ _ _ _ hi0 hw (lv_sub hl [2, 3, 4, 5, 1, 0] rfl) h
set_option maxHeartbeats 4000000 in
set_option maxRecDepth 100000 in
theorem w_X9_lookRegister_51 {r : Int32} {D' : dt} (hC : Cx RX9 cX9_lookRegister 6 (some .int) p s m args meth c) (hR : 6 ≤ R.frames ∧ 182 ≤ R.locals) : ∀ (o0 a0 : Nat) (x1 : Int32) (x2 : Int32) (x3 : Int32) (D : dt) (H : Heap) (locs : List Loc) (ls : Array Slot), Is S ad o0 a0 8 → Wd G cA S D ad A s H locs → lv_has ls 6 [(0, .ref a0), (1, .int x1), (2, .int x2), (3, .int x3)] → f_X9_lookRegister_51 S o0 x1 x2 x3 D = some (r, D') → W p l e R s m args below meth c H locs 0 0 (MQ below (Qn (some (.int r)) True (wpost G cA S D' ad A) A) args s 0 0 A) (F0 m 51 ls []) := by
  obtain ⟨hx, hb, -⟩ := id hC
  intro o0 a0 x1 x2 x3 D H locs ls hi0 hw hl h
  unfold f_X9_lookRegister_51 at h
  refine lv_iconst (v := 0) hx hb dX9_lookRegister_51 (by decide) ?_
  exact w_X9_lookRegister_52 hC hR o0 a0 x1 x2 x3 (0 : Int32) _ _ _ _ hi0 hw (lv_sub hl [0, 1, 2, 3] rfl) h
set_option maxHeartbeats 4000000 in
set_option maxRecDepth 100000 in
theorem w_X9_lookRegister_28 {r : Int32} {D' : dt} (hC : Cx RX9 cX9_lookRegister 6 (some .int) p s m args meth c) (hR : 6 ≤ R.frames ∧ 182 ≤ R.locals) : ∀ (o0 a0 : Nat) (x1 : Int32) (x2 : Int32) (xs0 : Int32) (D : dt) (H : Heap) (locs : List Loc) (ls : Array Slot), Is S ad o0 a0 8 → Wd G cA S D ad A s H locs → lv_has ls 6 [(0, .ref a0), (1, .int x1), (2, .int x2)] → f_X9_lookRegister_28 S o0 x1 x2 xs0 D = some (r, D') → W p l e R s m args below meth c H locs 0 0 (MQ below (Qn (some (.int r)) True (wpost G cA S D' ad A) A) args s 0 0 A) (F0 m 28 ls [.int xs0]) := by
  obtain ⟨hx, hb, -⟩ := id hC
  intro o0 a0 x1 x2 xs0 D H locs ls hi0 hw hl h
  unfold f_X9_lookRegister_28 at h
  refine lv_istore_n (lv' := [(3, .int xs0), (0, .ref a0), (1, .int x1), (2, .int x2)]) hx hb dX9_lookRegister_28 rfl hl (by decide) rfl (fun ls hl => ?_)
  refine lv_aload_n hx hb dX9_lookRegister_29 rfl (lv_at hl 1 rfl) ?_
  obtain ⟨o116, ho119, h⟩ := rq_i h
  refine r_getR hC hw kc_8 hi0 1 rfl lk_1073 dX9_lookRegister_30 rfl ho119 (fun a117 hi118 => ?_)
  refine lv_iload_n hx hb dX9_lookRegister_33 rfl (lv_at hl 2 rfl) ?_
  obtain ⟨hn120, h⟩ := ix_i h
  refine r_iald hC hw hi118 hn120 dX9_lookRegister_34 ?_
  refine lv_bipush (v := 8) hx hb dX9_lookRegister_35 (by decide) ?_
  refine lv_iand hx hb dX9_lookRegister_37 ?_
  refine lv_if_eq (tgt := 51) hx hb dX9_lookRegister_38 (by decide) (fun c121 => ?_) (fun c121 => ?_)
  · have h := i_yes c121 h
    exact w_X9_lookRegister_51 hC hR o0 a0 x1 x2 xs0 _ _ _ _ hi0 hw (lv_sub hl [1, 2, 3, 0] rfl) h
  · have h := i_no c121 h
    refine lv_iload_n hx hb dX9_lookRegister_41 rfl (lv_at hl 3 rfl) ?_
    refine lv_bipush (v := 13) hx hb dX9_lookRegister_42 (by decide) ?_
    refine lv_icmp_eq (tgt := 51) hx hb dX9_lookRegister_44 (by decide) (fun c122 => ?_) (fun c122 => ?_)
    · have h := i_yes c122 h
      exact w_X9_lookRegister_51 hC hR o0 a0 x1 x2 xs0 _ _ _ _ hi0 hw (lv_sub hl [1, 2, 3, 0] rfl) h
    · have h := i_no c122 h
      refine lv_iconst (v := 1) hx hb dX9_lookRegister_47 (by decide) ?_
      refine lv_goto (tgt := 52) hx hb dX9_lookRegister_48 (by decide) ?_
      exact w_X9_lookRegister_52 hC hR o0 a0 x1 x2 xs0 (1 : Int32) _ _ _ _ hi0 hw (lv_sub hl [1, 2, 3, 0] rfl) h
set_option maxHeartbeats 4000000 in
set_option maxRecDepth 100000 in
theorem w_X9_lookRegister_0 {r : Int32} {D' : dt} (hC : Cx RX9 cX9_lookRegister 6 (some .int) p s m args meth c) (hR : 6 ≤ R.frames ∧ 182 ≤ R.locals) : ∀ (o0 a0 : Nat) (x1 : Int32) (D : dt) (H : Heap) (locs : List Loc) (ls : Array Slot), Is S ad o0 a0 8 → Wd G cA S D ad A s H locs → lv_has ls 6 [(0, .ref a0), (1, .int x1)] → f_X9_lookRegister S o0 x1 D = some (r, D') → W p l e R s m args below meth c H locs 0 0 (MQ below (Qn (some (.int r)) True (wpost G cA S D' ad A) A) args s 0 0 A) (F0 m 0 ls []) := by
  obtain ⟨hx, hb, -⟩ := id hC
  intro o0 a0 x1 D H locs ls hi0 hw hl h
  unfold f_X9_lookRegister at h
  refine lv_aload_n hx hb dX9_lookRegister_0 rfl (lv_at hl 0 rfl) ?_
  obtain ⟨o123, ho126, h⟩ := rq_i h
  refine r_getR hC hw kc_8 hi0 1 rfl lk_1073 dX9_lookRegister_1 rfl ho126 (fun a124 hi125 => ?_)
  refine lv_iload_n hx hb dX9_lookRegister_4 rfl (lv_at hl 1 rfl) ?_
  obtain ⟨hn127, h⟩ := ix_i h
  refine r_iald hC hw hi125 hn127 dX9_lookRegister_5 ?_
  refine lv_iconst (v := 4) hx hb dX9_lookRegister_6 (by decide) ?_
  refine lv_ishr hx hb dX9_lookRegister_7 ?_
  refine lv_topi (fun y128 ey128 => ?_)
  have h := nm_i h y128 ey128
  refine lv_istore_n (lv' := [(2, .int y128), (0, .ref a0), (1, .int x1)]) hx hb dX9_lookRegister_8 rfl hl (by decide) rfl (fun ls hl => ?_)
  refine lv_aload_n hx hb dX9_lookRegister_9 rfl (lv_at hl 1 rfl) ?_
  obtain ⟨o129, ho132, h⟩ := rq_i h
  refine r_getR hC hw kc_8 hi0 1 rfl lk_1073 dX9_lookRegister_10 rfl ho132 (fun a130 hi131 => ?_)
  refine lv_iload_n hx hb dX9_lookRegister_13 rfl (lv_at hl 2 rfl) ?_
  obtain ⟨hn133, h⟩ := ix_i h
  refine r_iald hC hw hi131 hn133 dX9_lookRegister_14 ?_
  refine lv_bipush (v := 7) hx hb dX9_lookRegister_15 (by decide) ?_
  refine lv_iand hx hb dX9_lookRegister_17 ?_
  refine lv_bipush (v := 7) hx hb dX9_lookRegister_18 (by decide) ?_
  refine lv_icmp_ne (tgt := 27) hx hb dX9_lookRegister_20 (by decide) (fun c134 => ?_) (fun c134 => ?_)
  · have h := i_no c134 h
    refine lv_iconst (v := 0) hx hb dX9_lookRegister_27 (by decide) ?_
    exact w_X9_lookRegister_28 hC hR o0 a0 x1 y128 (0 : Int32) _ _ _ _ hi0 hw (lv_sub hl [1, 2, 0] rfl) h
  · have h := i_yes c134 h
    refine lv_iconst (v := 1) hx hb dX9_lookRegister_23 (by decide) ?_
    refine lv_goto (tgt := 28) hx hb dX9_lookRegister_24 (by decide) ?_
    exact w_X9_lookRegister_28 hC hR o0 a0 x1 y128 (1 : Int32) _ _ _ _ hi0 hw (lv_sub hl [1, 2, 0] rfl) h
set_option maxHeartbeats 4000000 in
set_option maxRecDepth 100000 in
theorem k_X9_lookRegister {l : Launch} {G : va_G} {cA : Nat → ClassId} {S : sh} {D D' : dt} {ad : Nat → Nat} (sz : Nat) {o0 a0 : Nat} {x1 : Int32} {r : Int32} (hi0 : Is S ad o0 a0 8) (h : f_X9_lookRegister S o0 x1 D = some (r, D')) : Co l yX9_lookRegister (Cond.code yX9_lookRegister cX9_lookRegister 6 (some .int) :: tb0) 6 182 [.ref a0, .int x1] G cA S D ad sz (some (.int r)) True D' := by
  refine Met.ofW (cc := cX9_lookRegister) (maxL := 6) (ret := (some .int)) (by decide) rfl ?_
  intro p e s m args below meth c s₁ B hml hv
  obtain ⟨rfl, hsz, hP, hK, hD0, hT, hX⟩ := hv
  subst hsz
  have hts := atoms_spec (ws := Cond.code yX9_lookRegister cX9_lookRegister 6 (some .int) :: tb0) B.pre
  have hC : Cx RX9 cX9_lookRegister 6 (some .int) p s m _ meth c := ⟨B.exec, B.bytes, hml, findClass_of_methodNamed B.named, fun w q => hts w (List.mem_cons_of_mem _ q), B.returns, B.notSynchronized⟩
  have hw := Wd.entry hP hK hD0 hT hX
  have hl := lv_entry ([.ref a0, .int x1]) (n := 6) (Nat.le_of_ble_eq_true rfl)
  rw [lg_entry_eq]
  exact w_X9_lookRegister_0 hC ⟨Nat.le_refl _, Nat.le_refl _⟩ o0 a0 x1 D _ _ _ hi0 hw hl h
set_option maxHeartbeats 4000000 in
set_option maxRecDepth 100000 in
theorem w_X9_onward_0 {r : Int32} {D' : dt} (hC : Cx RX9 cX9_onward 3 (some .int) p s m args meth c) (hR : 4 ≤ R.frames ∧ 99 ≤ R.locals) : ∀ (o0 a0 : Nat) (x1 : Int32) (x2 : Int32) (D : dt) (H : Heap) (locs : List Loc) (ls : Array Slot), Is S ad o0 a0 8 → Wd G cA S D ad A s H locs → lv_has ls 3 [(0, .ref a0), (1, .int x1), (2, .int x2)] → f_X9_onward S o0 x1 x2 D = some (r, D') → W p l e R s m args below meth c H locs 0 0 (MQ below (Qn (some (.int r)) True (wpost G cA S D' ad A) A) args s 0 0 A) (F0 m 0 ls []) := by
  obtain ⟨hx, hb, -⟩ := id hC
  intro o0 a0 x1 x2 D H locs ls hi0 hw hl h
  unfold f_X9_onward at h
  refine lv_iload_n hx hb dX9_onward_0 rfl (lv_at hl 1 rfl) ?_
  refine lv_if_le (tgt := 6) hx hb dX9_onward_1 (by decide) (fun c7 => ?_) (fun c7 => ?_)
  · have h := i_yes c7 h
    refine lv_aload_n hx hb dX9_onward_6 rfl (lv_at hl 0 rfl) ?_
    refine lv_iload_n hx hb dX9_onward_7 rfl (lv_at hl 2 rfl) ?_
    obtain ⟨r9, hq8, h⟩ := pq_i h
    refine r_cV (st' := [.int r9]) [.int x2] [] hC hw kc_8 hi0 (k_X9_isWay _ hi0 hq8) mk_X9_isWay lk_1523 ⟨Nat.le_trans (by decide) hR.1, Nat.le_trans (by decide) hR.2⟩ ⟨Nat.zero_le _, Nat.zero_le _⟩ rfl hl.1 rfl rfl (Nat.le_of_ble_eq_true rfl) dX9_onward_8 (fun hP H locs hw => ?_)
    refine lv_if_ne (tgt := 17) hx hb dX9_onward_11 (by decide) (fun c10 => ?_) (fun c10 => ?_)
    · have h := i_no c10 h
      refine lv_aload_n hx hb dX9_onward_17 rfl (lv_at hl 0 rfl) ?_
      refine lv_iload_n hx hb dX9_onward_18 rfl (lv_at hl 2 rfl) ?_
      obtain ⟨_, D12, hq11, h⟩ := cq_i h
      refine r_cV (st' := []) [.int x2] [] hC hw kc_8 hi0 (k_X9_goTo _ hi0 hq11) mk_X9_goTo lk_1458 ⟨Nat.le_trans (by decide) hR.1, Nat.le_trans (by decide) hR.2⟩ ⟨Nat.zero_le _, Nat.zero_le _⟩ rfl hl.1 rfl rfl (Nat.le_of_ble_eq_true rfl) dX9_onward_19 (fun hP H locs hw => ?_)
      refine lv_iconst (v := 0) hx hb dX9_onward_22 (by decide) ?_
      cases h
      exact r_iret hC hw dX9_onward_23
    · have h := i_yes c10 h
      refine lv_bipush (v := 6) hx hb dX9_onward_14 (by decide) ?_
      cases h
      exact r_iret hC hw dX9_onward_16
  · have h := i_no c7 h
    refine lv_iload_n hx hb dX9_onward_4 rfl (lv_at hl 1 rfl) ?_
    cases h
    exact r_iret hC hw dX9_onward_5
set_option maxHeartbeats 4000000 in
set_option maxRecDepth 100000 in
theorem k_X9_onward {l : Launch} {G : va_G} {cA : Nat → ClassId} {S : sh} {D D' : dt} {ad : Nat → Nat} (sz : Nat) {o0 a0 : Nat} {x1 : Int32} {x2 : Int32} {r : Int32} (hi0 : Is S ad o0 a0 8) (h : f_X9_onward S o0 x1 x2 D = some (r, D')) : Co l yX9_onward (Cond.code yX9_onward cX9_onward 3 (some .int) :: tb0) 4 99 [.ref a0, .int x1, .int x2] G cA S D ad sz (some (.int r)) True D' := by
  refine Met.ofW (cc := cX9_onward) (maxL := 3) (ret := (some .int)) (by decide) rfl ?_
  intro p e s m args below meth c s₁ B hml hv
  obtain ⟨rfl, hsz, hP, hK, hD0, hT, hX⟩ := hv
  subst hsz
  have hts := atoms_spec (ws := Cond.code yX9_onward cX9_onward 3 (some .int) :: tb0) B.pre
  have hC : Cx RX9 cX9_onward 3 (some .int) p s m _ meth c := ⟨B.exec, B.bytes, hml, findClass_of_methodNamed B.named, fun w q => hts w (List.mem_cons_of_mem _ q), B.returns, B.notSynchronized⟩
  have hw := Wd.entry hP hK hD0 hT hX
  have hl := lv_entry ([.ref a0, .int x1, .int x2]) (n := 3) (Nat.le_of_ble_eq_true rfl)
  rw [lg_entry_eq]
  exact w_X9_onward_0 hC ⟨Nat.le_refl _, Nat.le_refl _⟩ o0 a0 x1 x2 D _ _ _ hi0 hw hl h
set_option maxHeartbeats 4000000 in
set_option maxRecDepth 100000 in
theorem w_X9_otherCode_0 {r : Int32} (hC : Cx RX9 cX9_otherCode 1 (some .int) p s m args meth c) (hR : 0 ≤ R.frames ∧ 0 ≤ R.locals) : ∀ (x0 : Int32) (H : Heap) (locs : List Loc) (ls : Array Slot), Wd G cA S D ad A s H locs → lv_has ls 1 [(0, .int x0)] → f_X9_otherCode x0 = some r → W p l e R s m args below meth c H locs 0 0 (MQ below (Qn (some (.int r)) True (wpost G cA S D ad A) A) args s 0 0 A) (F0 m 0 ls []) := by
  obtain ⟨hx, hb, -⟩ := id hC
  intro x0 H locs ls hw hl h
  unfold f_X9_otherCode at h
  refine lv_iload_n hx hb dX9_otherCode_0 rfl (lv_at hl 0 rfl) ?_
  refine lv_iconst (v := 1) hx hb dX9_otherCode_1 (by decide) ?_
  refine lv_icmp_ne (tgt := 9) hx hb dX9_otherCode_2 (by decide) (fun c6 => ?_) (fun c6 => ?_)
  · have h := i_no c6 h
    refine lv_iload_n hx hb dX9_otherCode_9 rfl (lv_at hl 0 rfl) ?_
    refine lv_iconst (v := 5) hx hb dX9_otherCode_10 (by decide) ?_
    refine lv_icmp_ne (tgt := 18) hx hb dX9_otherCode_11 (by decide) (fun c7 => ?_) (fun c7 => ?_)
    · have h := i_no c7 h
      refine lv_iload_n hx hb dX9_otherCode_18 rfl (lv_at hl 0 rfl) ?_
      refine lv_iconst (v := 2) hx hb dX9_otherCode_19 (by decide) ?_
      refine lv_icmp_ne (tgt := 28) hx hb dX9_otherCode_20 (by decide) (fun c8 => ?_) (fun c8 => ?_)
      · have h := i_no c8 h
        refine lv_iload_n hx hb dX9_otherCode_28 rfl (lv_at hl 0 rfl) ?_
        refine lv_bipush (v := 11) hx hb dX9_otherCode_29 (by decide) ?_
        refine lv_icmp_ne (tgt := 38) hx hb dX9_otherCode_31 (by decide) (fun c9 => ?_) (fun c9 => ?_)
        · have h := i_no c9 h
          refine lv_iload_n hx hb dX9_otherCode_38 rfl (lv_at hl 0 rfl) ?_
          refine lv_iconst (v := 3) hx hb dX9_otherCode_39 (by decide) ?_
          refine lv_icmp_ne (tgt := 48) hx hb dX9_otherCode_40 (by decide) (fun c10 => ?_) (fun c10 => ?_)
          · have h := i_no c10 h
            refine lv_iconst (v := 3) hx hb dX9_otherCode_48 (by decide) ?_
            cases h
            exact r_iret hC hw dX9_otherCode_49
          · have h := i_yes c10 h
            refine lv_bipush (v := 10) hx hb dX9_otherCode_43 (by decide) ?_
            refine lv_goto (tgt := 49) hx hb dX9_otherCode_45 (by decide) ?_
            cases h
            exact r_iret hC hw dX9_otherCode_49
        · have h := i_yes c9 h
          refine lv_iconst (v := 2) hx hb dX9_otherCode_34 (by decide) ?_
          refine lv_goto (tgt := 49) hx hb dX9_otherCode_35 (by decide) ?_
          cases h
          exact r_iret hC hw dX9_otherCode_49
      · have h := i_yes c8 h
        refine lv_bipush (v := 11) hx hb dX9_otherCode_23 (by decide) ?_
        refine lv_goto (tgt := 49) hx hb dX9_otherCode_25 (by decide) ?_
        cases h
        exact r_iret hC hw dX9_otherCode_49
    · have h := i_yes c7 h
      refine lv_iconst (v := 1) hx hb dX9_otherCode_14 (by decide) ?_
      refine lv_goto (tgt := 49) hx hb dX9_otherCode_15 (by decide) ?_
      cases h
      exact r_iret hC hw dX9_otherCode_49
  · have h := i_yes c6 h
    refine lv_iconst (v := 5) hx hb dX9_otherCode_5 (by decide) ?_
    refine lv_goto (tgt := 49) hx hb dX9_otherCode_6 (by decide) ?_
    cases h
    exact r_iret hC hw dX9_otherCode_49
set_option maxHeartbeats 4000000 in
set_option maxRecDepth 100000 in
theorem k_X9_otherCode {l : Launch} {G : va_G} {cA : Nat → ClassId} {S : sh} {D : dt} {ad : Nat → Nat} (sz : Nat) {x0 : Int32} {r : Int32}  (h : f_X9_otherCode x0 = some r) : Co l yX9_otherCode (Cond.code yX9_otherCode cX9_otherCode 1 (some .int) :: tb0) 0 0 [.int x0] G cA S D ad sz (some (.int r)) True D := by
  refine Met.ofW (cc := cX9_otherCode) (maxL := 1) (ret := (some .int)) (by decide) rfl ?_
  intro p e s m args below meth c s₁ B hml hv
  obtain ⟨rfl, hsz, hP, hK, hD0, hT, hX⟩ := hv
  subst hsz
  have hts := atoms_spec (ws := Cond.code yX9_otherCode cX9_otherCode 1 (some .int) :: tb0) B.pre
  have hC : Cx RX9 cX9_otherCode 1 (some .int) p s m _ meth c := ⟨B.exec, B.bytes, hml, findClass_of_methodNamed B.named, fun w q => hts w (List.mem_cons_of_mem _ q), B.returns, B.notSynchronized⟩
  have hw := Wd.entry hP hK hD0 hT hX
  have hl := lv_entry ([.int x0]) (n := 1) (Nat.le_of_ble_eq_true rfl)
  rw [lg_entry_eq]
  exact w_X9_otherCode_0 hC ⟨Nat.le_refl _, Nat.le_refl _⟩ x0 _ _ _ hw hl h
set_option maxHeartbeats 4000000 in
set_option maxRecDepth 100000 in
theorem w_X9_settle_114 {r : Unit} {D' : dt} (hC : Cx RX9 cX9_settle 6 none p s m args meth c) (hR : 1 ≤ R.frames ∧ 25 ≤ R.locals) {k2 : Nat → Int32 → Int32 → Int32 → dt → Option (Unit × dt)} (hk2 : ∀ (o0 a0 : Nat) (x1 : Int32) (x2 : Int32) (x3 : Int32) (D : dt) (H : Heap) (locs : List Loc) (ls : Array Slot), Is S ad o0 a0 8 → Wd G cA S D ad A s H locs → lv_has ls 6 [(0, .ref a0), (1, .int x1), (2, .int x2), (3, .int x3)] → k2 o0 x1 x2 x3 D = some (r, D') → W p l e R s m args below meth c H locs 0 0 (MQ below (Qn none True (wpost G cA S D' ad A) A) args s 0 0 A) (F0 m 2 ls [])) : ∀ (o0 a0 : Nat) (x1 : Int32) (x2 : Int32) (x3 : Int32) (D : dt) (H : Heap) (locs : List Loc) (ls : Array Slot), Is S ad o0 a0 8 → Wd G cA S D ad A s H locs → lv_has ls 6 [(0, .ref a0), (1, .int x1), (2, .int x2), (3, .int x3)] → f_X9_settle_114 S k2 o0 x1 x2 x3 D = some (r, D') → W p l e R s m args below meth c H locs 0 0 (MQ below (Qn none True (wpost G cA S D' ad A) A) args s 0 0 A) (F0 m 114 ls []) := by
  obtain ⟨hx, hb, -⟩ := id hC
  intro o0 a0 x1 x2 x3 D H locs ls hi0 hw hl h
  unfold f_X9_settle_114 at h
  obtain ⟨y49, ey49⟩ : ∃ z : Int32, z = x3 + 1 := ⟨_, rfl⟩
  have h := nm_i h y49 ey49
  refine lv_iinc (v := y49) (lv' := [(3, .int y49), (0, .ref a0), (1, .int x1), (2, .int x2)]) hx hb dX9_settle_114 hl (k := 3) rfl (by rw [ey49]; rfl) (by decide) rfl (fun ls hl => ?_)
  refine lv_goto (tgt := 2) hx hb dX9_settle_117 (by decide) ?_
  exact hk2 o0 a0 x1 x2 y49 _ _ _ _ hi0 hw (lv_sub hl [1, 2, 3, 0] rfl) h
set_option maxHeartbeats 4000000 in
set_option maxRecDepth 100000 in
theorem w_X9_settle_91 {r : Unit} {D' : dt} (hC : Cx RX9 cX9_settle 6 none p s m args meth c) (hR : 1 ≤ R.frames ∧ 25 ≤ R.locals) {k2 : Nat → Int32 → Int32 → Int32 → dt → Option (Unit × dt)} (hk2 : ∀ (o0 a0 : Nat) (x1 : Int32) (x2 : Int32) (x3 : Int32) (D : dt) (H : Heap) (locs : List Loc) (ls : Array Slot), Is S ad o0 a0 8 → Wd G cA S D ad A s H locs → lv_has ls 6 [(0, .ref a0), (1, .int x1), (2, .int x2), (3, .int x3)] → k2 o0 x1 x2 x3 D = some (r, D') → W p l e R s m args below meth c H locs 0 0 (MQ below (Qn none True (wpost G cA S D' ad A) A) args s 0 0 A) (F0 m 2 ls [])) : ∀ (o0 a0 : Nat) (x1 : Int32) (x2 : Int32) (x3 : Int32) (D : dt) (H : Heap) (locs : List Loc) (ls : Array Slot), Is S ad o0 a0 8 → Wd G cA S D ad A s H locs → lv_has ls 6 [(0, .ref a0), (1, .int x1), (2, .int x2), (3, .int x3)] → f_X9_settle_91 S k2 o0 x1 x2 x3 D = some (r, D') → W p l e R s m args below meth c H locs 0 0 (MQ below (Qn none True (wpost G cA S D' ad A) A) args s 0 0 A) (F0 m 91 ls []) := by
  obtain ⟨hx, hb, -⟩ := id hC
  intro o0 a0 x1 x2 x3 D H locs ls hi0 hw hl h
  unfold f_X9_settle_91 at h
  refine lv_goto (tgt := 114) hx hb dX9_settle_91 (by decide) ?_
  exact w_X9_settle_114 hC hR hk2 o0 a0 x1 x2 x3 _ _ _ _ hi0 hw (lv_sub hl [0, 1, 2, 3] rfl) h
set_option maxHeartbeats 4000000 in
set_option maxRecDepth 100000 in
theorem w_X9_settle_57 {r : Unit} {D' : dt} (hC : Cx RX9 cX9_settle 6 none p s m args meth c) (hR : 1 ≤ R.frames ∧ 25 ≤ R.locals) {k2 : Nat → Int32 → Int32 → Int32 → dt → Option (Unit × dt)} (hk2 : ∀ (o0 a0 : Nat) (x1 : Int32) (x2 : Int32) (x3 : Int32) (D : dt) (H : Heap) (locs : List Loc) (ls : Array Slot), Is S ad o0 a0 8 → Wd G cA S D ad A s H locs → lv_has ls 6 [(0, .ref a0), (1, .int x1), (2, .int x2), (3, .int x3)] → k2 o0 x1 x2 x3 D = some (r, D') → W p l e R s m args below meth c H locs 0 0 (MQ below (Qn none True (wpost G cA S D' ad A) A) args s 0 0 A) (F0 m 2 ls [])) : ∀ (n : Nat), ∀ (o0 a0 : Nat) (x1 : Int32) (x2 : Int32) (x3 : Int32) (x5 : Int32) (D : dt) (H : Heap) (locs : List Loc) (ls : Array Slot), Is S ad o0 a0 8 → Wd G cA S D ad A s H locs → lv_has ls 6 [(0, .ref a0), (1, .int x1), (2, .int x2), (3, .int x3), (5, .int x5)] → f_X9_settle_57 S k2 n o0 x1 x2 x3 x5 D = some (r, D') → W p l e R s m args below meth c H locs 0 0 (MQ below (Qn none True (wpost G cA S D' ad A) A) args s 0 0 A) (F0 m 57 ls []) := by
  obtain ⟨hx, hb, -⟩ := id hC
  intro n
  induction n with
  | zero =>
    intro o0 a0 x1 x2 x3 x5 D H locs ls hi0 hw hl h
    rw [f_X9_settle_57.eq_1] at h
    cases h
  | succ n ih =>
    intro o0 a0 x1 x2 x3 x5 D H locs ls hi0 hw hl h
    rw [f_X9_settle_57.eq_2] at h
    refine lv_iload hx hb dX9_settle_57 (lv_at hl 4 rfl) ?_
    refine lv_if_lt (tgt := 91) hx hb dX9_settle_59 (by decide) (fun c50 => ?_) (fun c50 => ?_)
    · have h := i_yes c50 h
      exact w_X9_settle_91 hC hR hk2 o0 a0 x1 x2 x3 _ _ _ _ hi0 hw (lv_sub hl [0, 1, 2, 3] rfl) h
    · have h := i_no c50 h
      refine lv_iload hx hb dX9_settle_62 (lv_at hl 4 rfl) ?_
      refine lv_bipush (v := 8) hx hb dX9_settle_64 (by decide) ?_
      refine lv_iload_n hx hb dX9_settle_66 rfl (lv_at hl 3 rfl) ?_
      refine lv_bipush (v := 11) hx hb dX9_settle_67 (by decide) ?_
      refine lv_isub hx hb dX9_settle_69 ?_
      refine lv_imul hx hb dX9_settle_70 ?_
      refine lv_bipush (v := 8) hx hb dX9_settle_71 (by decide) ?_
      refine lv_iadd hx hb dX9_settle_73 ?_
      refine lv_icmp_ge (tgt := 91) hx hb dX9_settle_74 (by decide) (fun c51 => ?_) (fun c51 => ?_)
      · have h := i_yes c51 h
        exact w_X9_settle_91 hC hR hk2 o0 a0 x1 x2 x3 _ _ _ _ hi0 hw (lv_sub hl [0, 1, 2, 3] rfl) h
      · have h := i_no c51 h
        refine lv_aload_n hx hb dX9_settle_77 rfl (lv_at hl 0 rfl) ?_
        obtain ⟨o52, ho55, h⟩ := rq_i h
        refine r_getR hC hw kc_8 hi0 45 rfl lk_1117 dX9_settle_78 rfl ho55 (fun a53 hi54 => ?_)
        refine lv_iload hx hb dX9_settle_81 (lv_at hl 4 rfl) ?_
        refine lv_iconst (v := 1) hx hb dX9_settle_83 (by decide) ?_
        obtain ⟨hn56, h⟩ := ix_i h
        refine r_zas hC hw hi54 hn56 dX9_settle_84 (fun D57 eD57 H locs hw => ?_)
        have h := nm_i h D57 eD57
        obtain ⟨y58, ey58⟩ : ∃ z : Int32, z = x5 + 1 := ⟨_, rfl⟩
        have h := nm_i h y58 ey58
        refine lv_iinc (v := y58) (lv' := [(5, .int y58), (0, .ref a0), (1, .int x1), (2, .int x2), (3, .int x3)]) hx hb dX9_settle_85 hl (k := 4) rfl (by rw [ey58]; rfl) (by decide) rfl (fun ls hl => ?_)
        refine lv_goto (tgt := 57) hx hb dX9_settle_88 (by decide) ?_
        exact ih o0 a0 x1 x2 x3 y58 _ _ _ _ hi0 hw (lv_sub hl [1, 2, 3, 4, 0] rfl) h
set_option maxHeartbeats 4000000 in
set_option maxRecDepth 100000 in
theorem w_X9_settle_2 {r : Unit} {D' : dt} (hC : Cx RX9 cX9_settle 6 none p s m args meth c) (hR : 1 ≤ R.frames ∧ 25 ≤ R.locals) : ∀ (n : Nat), ∀ (o0 a0 : Nat) (x1 : Int32) (x2 : Int32) (x3 : Int32) (D : dt) (H : Heap) (locs : List Loc) (ls : Array Slot), Is S ad o0 a0 8 → Wd G cA S D ad A s H locs → lv_has ls 6 [(0, .ref a0), (1, .int x1), (2, .int x2), (3, .int x3)] → f_X9_settle_2 S n o0 x1 x2 x3 D = some (r, D') → W p l e R s m args below meth c H locs 0 0 (MQ below (Qn none True (wpost G cA S D' ad A) A) args s 0 0 A) (F0 m 2 ls []) := by
  obtain ⟨hx, hb, -⟩ := id hC
  intro n
  induction n with
  | zero =>
    intro o0 a0 x1 x2 x3 D H locs ls hi0 hw hl h
    rw [f_X9_settle_2.eq_1] at h
    cases h
  | succ n ih =>
    intro o0 a0 x1 x2 x3 D H locs ls hi0 hw hl h
    rw [f_X9_settle_2.eq_2] at h
    refine lv_iload_n hx hb dX9_settle_2 rfl (lv_at hl 3 rfl) ?_
    refine lv_bipush (v := 75) hx hb dX9_settle_3 (by decide) ?_
    refine lv_icmp_ge (tgt := 120) hx hb dX9_settle_5 (by decide) (fun c59 => ?_) (fun c59 => ?_)
    · have h := i_yes c59 h
      cases h
      exact r_vret hC hw dX9_settle_120
    · have h := i_no c59 h
      refine lv_aload_n hx hb dX9_settle_8 rfl (lv_at hl 0 rfl) ?_
      obtain ⟨o60, ho63, h⟩ := rq_i h
      refine r_getR hC hw kc_8 hi0 40 rfl lk_1112 dX9_settle_9 rfl ho63 (fun a61 hi62 => ?_)
      refine lv_iload_n hx hb dX9_settle_12 rfl (lv_at hl 3 rfl) ?_
      obtain ⟨hn64, h⟩ := ix_i h
      refine r_iald hC hw hi62 hn64 dX9_settle_13 ?_
      refine lv_bipush (v := 6) hx hb dX9_settle_14 (by decide) ?_
      refine lv_icmp_ne (tgt := 114) hx hb dX9_settle_16 (by decide) (fun c65 => ?_) (fun c65 => ?_)
      · have h := i_no c65 h
        exact w_X9_settle_114 hC hR ih o0 a0 x1 x2 x3 _ _ _ _ hi0 hw (lv_sub hl [0, 1, 2, 3] rfl) h
      · have h := i_yes c65 h
        refine lv_aload_n hx hb dX9_settle_19 rfl (lv_at hl 0 rfl) ?_
        obtain ⟨o66, ho69, h⟩ := rq_i h
        refine r_getR hC hw kc_8 hi0 44 rfl lk_1116 dX9_settle_20 rfl ho69 (fun a67 hi68 => ?_)
        refine lv_iload_n hx hb dX9_settle_23 rfl (lv_at hl 3 rfl) ?_
        obtain ⟨hn70, h⟩ := ix_i h
        refine r_iald hC hw hi68 hn70 dX9_settle_24 ?_
        refine lv_iload_n hx hb dX9_settle_25 rfl (lv_at hl 1 rfl) ?_
        refine lv_icmp_ne (tgt := 114) hx hb dX9_settle_26 (by decide) (fun c71 => ?_) (fun c71 => ?_)
        · have h := i_no c71 h
          exact w_X9_settle_114 hC hR ih o0 a0 x1 x2 x3 _ _ _ _ hi0 hw (lv_sub hl [0, 1, 2, 3] rfl) h
        · have h := i_yes c71 h
          refine lv_aload_n hx hb dX9_settle_29 rfl (lv_at hl 0 rfl) ?_
          obtain ⟨o72, ho75, h⟩ := rq_i h
          refine r_getR hC hw kc_8 hi0 43 rfl lk_1115 dX9_settle_30 rfl ho75 (fun a73 hi74 => ?_)
          refine lv_iload_n hx hb dX9_settle_33 rfl (lv_at hl 3 rfl) ?_
          obtain ⟨hn76, h⟩ := ix_i h
          refine r_iald hC hw hi74 hn76 dX9_settle_34 ?_
          refine lv_topi (fun y77 ey77 => ?_)
          have h := nm_i h y77 ey77
          refine lv_istore (lv' := [(4, .int y77), (0, .ref a0), (1, .int x1), (2, .int x2), (3, .int x3)]) hx hb dX9_settle_35 hl (by decide) rfl (fun ls hl => ?_)
          refine lv_iload_n hx hb dX9_settle_37 rfl (lv_at hl 3 rfl) ?_
          refine lv_if_eq (tgt := 94) hx hb dX9_settle_38 (by decide) (fun c78 => ?_) (fun c78 => ?_)
          · have h := i_yes c78 h
            refine lv_aload_n hx hb dX9_settle_94 rfl (lv_at hl 1 rfl) ?_
            refine lv_iload_n hx hb dX9_settle_95 rfl (lv_at hl 4 rfl) ?_
            obtain ⟨_, D80, hq79, h⟩ := cq_i h
            refine r_cV (st' := []) [.int x3] [] hC hw kc_8 hi0 (k_X9_forget _ hi0 hq79) mk_X9_forget lk_1454 ⟨Nat.le_trans (by decide) hR.1, Nat.le_trans (by decide) hR.2⟩ ⟨Nat.zero_le _, Nat.zero_le _⟩ rfl hl.1 rfl rfl (Nat.le_of_ble_eq_true rfl) dX9_settle_96 (fun hP H locs hw => ?_)
            refine lv_aload_n hx hb dX9_settle_99 rfl (lv_at hl 1 rfl) ?_
            obtain ⟨o81, ho84, h⟩ := rq_i h
            refine r_getR hC hw kc_8 hi0 40 rfl lk_1112 dX9_settle_100 rfl ho84 (fun a82 hi83 => ?_)
            refine lv_iload_n hx hb dX9_settle_103 rfl (lv_at hl 4 rfl) ?_
            refine lv_iconst (v := 5) hx hb dX9_settle_104 (by decide) ?_
            obtain ⟨hn85, h⟩ := ix_i h
            refine r_ias hC hw hi83 hn85 dX9_settle_105 (fun D86 eD86 H locs hw => ?_)
            have h := nm_i h D86 eD86
            refine lv_aload_n hx hb dX9_settle_106 rfl (lv_at hl 1 rfl) ?_
            obtain ⟨o87, ho90, h⟩ := rq_i h
            refine r_getR hC hw kc_8 hi0 43 rfl lk_1115 dX9_settle_107 rfl ho90 (fun a88 hi89 => ?_)
            refine lv_iload_n hx hb dX9_settle_110 rfl (lv_at hl 4 rfl) ?_
            refine lv_iload hx hb dX9_settle_111 (lv_at hl 0 rfl) ?_
            obtain ⟨hn91, h⟩ := ix_i h
            refine r_ias hC hw hi89 hn91 dX9_settle_113 (fun D92 eD92 H locs hw => ?_)
            have h := nm_i h D92 eD92
            exact w_X9_settle_114 hC hR ih o0 a0 x1 x2 x3 _ _ _ _ hi0 hw (lv_sub hl [1, 2, 3, 4] rfl) h
          · have h := i_no c78 h
            refine lv_aload_n hx hb dX9_settle_41 rfl (lv_at hl 1 rfl) ?_
            refine lv_iload_n hx hb dX9_settle_42 rfl (lv_at hl 4 rfl) ?_
            refine lv_lconst (v := 0) hx hb dX9_settle_43 (by decide) ?_
            refine lv_lconst (v := 0) hx hb dX9_settle_44 (by decide) ?_
            obtain ⟨_, D94, hq93, h⟩ := cq_i h
            refine r_cV (st' := []) [.int x3, .long (0 : Int64), .long (0 : Int64)] [] hC hw kc_8 hi0 (k_X9_number _ hi0 hq93) mk_X9_number lk_1496 ⟨Nat.le_trans (by decide) hR.1, Nat.le_trans (by decide) hR.2⟩ ⟨Nat.zero_le _, Nat.zero_le _⟩ rfl hl.1 rfl rfl (Nat.le_of_ble_eq_true rfl) dX9_settle_45 (fun hP H locs hw => ?_)
            refine lv_bipush (v := 8) hx hb dX9_settle_48 (by decide) ?_
            refine lv_iload_n hx hb dX9_settle_50 rfl (lv_at hl 4 rfl) ?_
            refine lv_bipush (v := 11) hx hb dX9_settle_51 (by decide) ?_
            refine lv_isub hx hb dX9_settle_53 ?_
            refine lv_imul hx hb dX9_settle_54 ?_
            refine lv_topi (fun y95 ey95 => ?_)
            have h := nm_i h y95 ey95
            refine lv_istore (lv' := [(5, .int y95), (4, .int y77), (0, .ref a0), (1, .int x1), (2, .int x2), (3, .int x3)]) hx hb dX9_settle_55 hl (by decide) rfl (fun ls hl => ?_)
            exact w_X9_settle_57 hC hR ih LF o0 a0 x1 x2 x3 y95 _ _ _ _ hi0 hw (lv_sub hl [2, 3, 4, 5, 0] rfl) h
set_option maxHeartbeats 4000000 in
set_option maxRecDepth 100000 in
theorem w_X9_settle_0 {r : Unit} {D' : dt} (hC : Cx RX9 cX9_settle 6 none p s m args meth c) (hR : 1 ≤ R.frames ∧ 25 ≤ R.locals) : ∀ (o0 a0 : Nat) (x1 : Int32) (x2 : Int32) (D : dt) (H : Heap) (locs : List Loc) (ls : Array Slot), Is S ad o0 a0 8 → Wd G cA S D ad A s H locs → lv_has ls 6 [(0, .ref a0), (1, .int x1), (2, .int x2)] → f_X9_settle S o0 x1 x2 D = some (r, D') → W p l e R s m args below meth c H locs 0 0 (MQ below (Qn none True (wpost G cA S D' ad A) A) args s 0 0 A) (F0 m 0 ls []) := by
  obtain ⟨hx, hb, -⟩ := id hC
  intro o0 a0 x1 x2 D H locs ls hi0 hw hl h
  unfold f_X9_settle at h
  refine lv_iconst (v := 0) hx hb dX9_settle_0 (by decide) ?_
  refine lv_topi (fun y96 ey96 => ?_)
  have h := nm_i h y96 ey96
  refine lv_istore_n (lv' := [(3, .int y96), (0, .ref a0), (1, .int x1), (2, .int x2)]) hx hb dX9_settle_1 rfl hl (by decide) rfl (fun ls hl => ?_)
  exact w_X9_settle_2 hC hR LF o0 a0 x1 x2 y96 _ _ _ _ hi0 hw (lv_sub hl [1, 2, 3, 0] rfl) h
set_option maxHeartbeats 4000000 in
set_option maxRecDepth 100000 in
theorem k_X9_settle {l : Launch} {G : va_G} {cA : Nat → ClassId} {S : sh} {D D' : dt} {ad : Nat → Nat} (sz : Nat) {o0 a0 : Nat} {x1 : Int32} {x2 : Int32} {r : Unit} (hi0 : Is S ad o0 a0 8) (h : f_X9_settle S o0 x1 x2 D = some (r, D')) : Co l yX9_settle (Cond.code yX9_settle cX9_settle 6 none :: tb0) 1 25 [.ref a0, .int x1, .int x2] G cA S D ad sz none True D' := by
  refine Met.ofW (cc := cX9_settle) (maxL := 6) (ret := none) (by decide) rfl ?_
  intro p e s m args below meth c s₁ B hml hv
  obtain ⟨rfl, hsz, hP, hK, hD0, hT, hX⟩ := hv
  subst hsz
  have hts := atoms_spec (ws := Cond.code yX9_settle cX9_settle 6 none :: tb0) B.pre
  have hC : Cx RX9 cX9_settle 6 none p s m _ meth c := ⟨B.exec, B.bytes, hml, findClass_of_methodNamed B.named, fun w q => hts w (List.mem_cons_of_mem _ q), B.returns, B.notSynchronized⟩
  have hw := Wd.entry hP hK hD0 hT hX
  have hl := lv_entry ([.ref a0, .int x1, .int x2]) (n := 6) (Nat.le_of_ble_eq_true rfl)
  rw [lg_entry_eq]
  exact w_X9_settle_0 hC ⟨Nat.le_refl _, Nat.le_refl _⟩ o0 a0 x1 x2 D _ _ _ hi0 hw hl h
end
