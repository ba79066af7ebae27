theorem dX9_lookJump_0 : decode cX9_lookJump 0 = .ok (.aload_n 0, 1) := by decide +kernel
theorem dX9_lookJump_1 : decode cX9_lookJump 1 = .ok (.getfield 7, 3) := by decide +kernel
theorem dX9_lookJump_4 : decode cX9_lookJump 4 = .ok (.iload_n 1, 1) := by decide +kernel
theorem dX9_lookJump_5 : decode cX9_lookJump 5 = .ok (.iaload, 1) := by decide +kernel
theorem dX9_lookJump_6 : decode cX9_lookJump 6 = .ok (.iconst 4, 1) := by decide +kernel
theorem dX9_lookJump_7 : decode cX9_lookJump 7 = .ok (.ishr, 1) := by decide +kernel
theorem dX9_lookJump_8 : decode cX9_lookJump 8 = .ok (.istore_n 2, 1) := by decide +kernel
theorem dX9_lookJump_9 : decode cX9_lookJump 9 = .ok (.aload_n 0, 1) := by decide +kernel
theorem dX9_lookJump_10 : decode cX9_lookJump 10 = .ok (.getfield 7, 3) := by decide +kernel
theorem dX9_lookJump_13 : decode cX9_lookJump 13 = .ok (.iload_n 1, 1) := by decide +kernel
theorem dX9_lookJump_14 : decode cX9_lookJump 14 = .ok (.iaload, 1) := by decide +kernel
theorem dX9_lookJump_15 : decode cX9_lookJump 15 = .ok (.bipush 7, 2) := by decide +kernel
theorem dX9_lookJump_17 : decode cX9_lookJump 17 = .ok (.iand, 1) := by decide +kernel
theorem dX9_lookJump_18 : decode cX9_lookJump 18 = .ok (.iconst 5, 1) := by decide +kernel
theorem dX9_lookJump_19 : decode cX9_lookJump 19 = .ok (.if_icmp .ne 7, 3) := by decide +kernel
theorem dX9_lookJump_22 : decode cX9_lookJump 22 = .ok (.iconst 1, 1) := by decide +kernel
theorem dX9_lookJump_23 : decode cX9_lookJump 23 = .ok (.goto 4, 3) := by decide +kernel
theorem dX9_lookJump_26 : decode cX9_lookJump 26 = .ok (.iconst 0, 1) := by decide +kernel
theorem dX9_lookJump_27 : decode cX9_lookJump 27 = .ok (.istore_n 3, 1) := by decide +kernel
theorem dX9_lookJump_28 : decode cX9_lookJump 28 = .ok (.aload_n 0, 1) := by decide +kernel
theorem dX9_lookJump_29 : decode cX9_lookJump 29 = .ok (.getfield 7, 3) := by decide +kernel
theorem dX9_lookJump_32 : decode cX9_lookJump 32 = .ok (.iload_n 1, 1) := by decide +kernel
theorem dX9_lookJump_33 : decode cX9_lookJump 33 = .ok (.iaload, 1) := by decide +kernel
theorem dX9_lookJump_34 : decode cX9_lookJump 34 = .ok (.bipush 8, 2) := by decide +kernel
theorem dX9_lookJump_36 : decode cX9_lookJump 36 = .ok (.iand, 1) := by decide +kernel
theorem dX9_lookJump_37 : decode cX9_lookJump 37 = .ok (.ifCond .eq 7, 3) := by decide +kernel
theorem dX9_lookJump_40 : decode cX9_lookJump 40 = .ok (.iconst 1, 1) := by decide +kernel
theorem dX9_lookJump_41 : decode cX9_lookJump 41 = .ok (.goto 4, 3) := by decide +kernel
theorem dX9_lookJump_44 : decode cX9_lookJump 44 = .ok (.iconst 0, 1) := by decide +kernel
theorem dX9_lookJump_45 : decode cX9_lookJump 45 = .ok (.istore 4, 2) := by decide +kernel
theorem dX9_lookJump_47 : decode cX9_lookJump 47 = .ok (.aload_n 0, 1) := by decide +kernel
theorem dX9_lookJump_48 : decode cX9_lookJump 48 = .ok (.getfield 13, 3) := by decide +kernel
theorem dX9_lookJump_51 : decode cX9_lookJump 51 = .ok (.iload_n 1, 1) := by decide +kernel
theorem dX9_lookJump_52 : decode cX9_lookJump 52 = .ok (.iaload, 1) := by decide +kernel
theorem dX9_lookJump_53 : decode cX9_lookJump 53 = .ok (.istore 5, 2) := by decide +kernel
theorem dX9_lookJump_55 : decode cX9_lookJump 55 = .ok (.aload_n 0, 1) := by decide +kernel
theorem dX9_lookJump_56 : decode cX9_lookJump 56 = .ok (.iload_n 1, 1) := by decide +kernel
theorem dX9_lookJump_57 : decode cX9_lookJump 57 = .ok (.invokevirtual 406, 3) := by decide +kernel
theorem dX9_lookJump_60 : decode cX9_lookJump 60 = .ok (.aload_n 0, 1) := by decide +kernel
theorem dX9_lookJump_61 : decode cX9_lookJump 61 = .ok (.getfield 106, 3) := by decide +kernel
theorem dX9_lookJump_64 : decode cX9_lookJump 64 = .ok (.iload 5, 2) := by decide +kernel
theorem dX9_lookJump_66 : decode cX9_lookJump 66 = .ok (.iaload, 1) := by decide +kernel
theorem dX9_lookJump_67 : decode cX9_lookJump 67 = .ok (.ifCond .eq 10, 3) := by decide +kernel
theorem dX9_lookJump_70 : decode cX9_lookJump 70 = .ok (.aload_n 0, 1) := by decide +kernel
theorem dX9_lookJump_71 : decode cX9_lookJump 71 = .ok (.getfield 397, 3) := by decide +kernel
theorem dX9_lookJump_74 : decode cX9_lookJump 74 = .ok (.ifCond .ne 5, 3) := by decide +kernel
theorem dX9_lookJump_77 : decode cX9_lookJump 77 = .ok (.iconst 2, 1) := by decide +kernel
theorem dX9_lookJump_78 : decode cX9_lookJump 78 = .ok (.ireturn, 1) := by decide +kernel
theorem dX9_lookJump_79 : decode cX9_lookJump 79 = .ok (.aload_n 0, 1) := by decide +kernel
theorem dX9_lookJump_80 : decode cX9_lookJump 80 = .ok (.getfield 106, 3) := by decide +kernel
theorem dX9_lookJump_83 : decode cX9_lookJump 83 = .ok (.iload 5, 2) := by decide +kernel
theorem dX9_lookJump_85 : decode cX9_lookJump 85 = .ok (.iaload, 1) := by decide +kernel
theorem dX9_lookJump_86 : decode cX9_lookJump 86 = .ok (.bipush 6, 2) := by decide +kernel
theorem dX9_lookJump_88 : decode cX9_lookJump 88 = .ok (.if_icmp .ne 35, 3) := by decide +kernel
theorem dX9_lookJump_91 : decode cX9_lookJump 91 = .ok (.iload 4, 2) := by decide +kernel
theorem dX9_lookJump_93 : decode cX9_lookJump 93 = .ok (.ifCond .ne 30, 3) := by decide +kernel
theorem dX9_lookJump_96 : decode cX9_lookJump 96 = .ok (.aload_n 0, 1) := by decide +kernel
theorem dX9_lookJump_97 : decode cX9_lookJump 97 = .ok (.getfield 22, 3) := by decide +kernel
theorem dX9_lookJump_100 : decode cX9_lookJump 100 = .ok (.iload_n 1, 1) := by decide +kernel
theorem dX9_lookJump_101 : decode cX9_lookJump 101 = .ok (.iaload, 1) := by decide +kernel
theorem dX9_lookJump_102 : decode cX9_lookJump 102 = .ok (.ifCond .ne 21, 3) := by decide +kernel
theorem dX9_lookJump_105 : decode cX9_lookJump 105 = .ok (.iload_n 3, 1) := by decide +kernel
theorem dX9_lookJump_106 : decode cX9_lookJump 106 = .ok (.ifCond .eq 17, 3) := by decide +kernel
theorem dX9_lookJump_109 : decode cX9_lookJump 109 = .ok (.iload_n 2, 1) := by decide +kernel
theorem dX9_lookJump_110 : decode cX9_lookJump 110 = .ok (.iconst 1, 1) := by decide +kernel
theorem dX9_lookJump_111 : decode cX9_lookJump 111 = .ok (.if_icmp .eq 8, 3) := by decide +kernel
theorem dX9_lookJump_114 : decode cX9_lookJump 114 = .ok (.iload_n 2, 1) := by decide +kernel
theorem dX9_lookJump_115 : decode cX9_lookJump 115 = .ok (.iconst 5, 1) := by decide +kernel
theorem dX9_lookJump_116 : decode cX9_lookJump 116 = .ok (.if_icmp .ne 7, 3) := by decide +kernel
theorem dX9_lookJump_119 : decode cX9_lookJump 119 = .ok (.iconst 1, 1) := by decide +kernel
theorem dX9_lookJump_120 : decode cX9_lookJump 120 = .ok (.goto 4, 3) := by decide +kernel
theorem dX9_lookJump_123 : decode cX9_lookJump 123 = .ok (.iconst 0, 1) := by decide +kernel
theorem dX9_lookJump_124 : decode cX9_lookJump 124 = .ok (.istore 6, 2) := by decide +kernel
theorem dX9_lookJump_126 : decode cX9_lookJump 126 = .ok (.iload 6, 2) := by decide +kernel
theorem dX9_lookJump_128 : decode cX9_lookJump 128 = .ok (.ifCond .ne 24, 3) := by decide +kernel
theorem dX9_lookJump_131 : decode cX9_lookJump 131 = .ok (.aload_n 0, 1) := by decide +kernel
theorem dX9_lookJump_132 : decode cX9_lookJump 132 = .ok (.getfield 106, 3) := by decide +kernel
theorem dX9_lookJump_135 : decode cX9_lookJump 135 = .ok (.iload 5, 2) := by decide +kernel
theorem dX9_lookJump_137 : decode cX9_lookJump 137 = .ok (.iaload, 1) := by decide +kernel
theorem dX9_lookJump_138 : decode cX9_lookJump 138 = .ok (.iconst 1, 1) := by decide +kernel
theorem dX9_lookJump_139 : decode cX9_lookJump 139 = .ok (.if_icmp .ne 11, 3) := by decide +kernel
theorem dX9_lookJump_142 : decode cX9_lookJump 142 = .ok (.aload_n 0, 1) := by decide +kernel
theorem dX9_lookJump_143 : decode cX9_lookJump 143 = .ok (.getfield 397, 3) := by decide +kernel
theorem dX9_lookJump_146 : decode cX9_lookJump 146 = .ok (.iconst 1, 1) := by decide +kernel
theorem dX9_lookJump_147 : decode cX9_lookJump 147 = .ok (.if_icmp .eq 5, 3) := by decide +kernel
theorem dX9_lookJump_150 : decode cX9_lookJump 150 = .ok (.iconst 3, 1) := by decide +kernel
theorem dX9_lookJump_151 : decode cX9_lookJump 151 = .ok (.ireturn, 1) := by decide +kernel
theorem dX9_lookJump_152 : decode cX9_lookJump 152 = .ok (.iload_n 2, 1) := by decide +kernel
theorem dX9_lookJump_153 : decode cX9_lookJump 153 = .ok (.iconst 1, 1) := by decide +kernel
theorem dX9_lookJump_154 : decode cX9_lookJump 154 = .ok (.if_icmp .eq 30, 3) := by decide +kernel
theorem dX9_lookJump_157 : decode cX9_lookJump 157 = .ok (.iload_n 2, 1) := by decide +kernel
theorem dX9_lookJump_158 : decode cX9_lookJump 158 = .ok (.iconst 5, 1) := by decide +kernel
theorem dX9_lookJump_159 : decode cX9_lookJump 159 = .ok (.if_icmp .eq 25, 3) := by decide +kernel
theorem dX9_lookJump_162 : decode cX9_lookJump 162 = .ok (.iload_n 2, 1) := by decide +kernel
theorem dX9_lookJump_163 : decode cX9_lookJump 163 = .ok (.iconst 2, 1) := by decide +kernel
theorem dX9_lookJump_164 : decode cX9_lookJump 164 = .ok (.if_icmp .eq 20, 3) := by decide +kernel
theorem dX9_lookJump_167 : decode cX9_lookJump 167 = .ok (.iload_n 2, 1) := by decide +kernel
theorem dX9_lookJump_168 : decode cX9_lookJump 168 = .ok (.iconst 3, 1) := by decide +kernel
theorem dX9_lookJump_169 : decode cX9_lookJump 169 = .ok (.if_icmp .eq 15, 3) := by decide +kernel
theorem dX9_lookJump_172 : decode cX9_lookJump 172 = .ok (.iload_n 2, 1) := by decide +kernel
theorem dX9_lookJump_173 : decode cX9_lookJump 173 = .ok (.bipush 10, 2) := by decide +kernel
theorem dX9_lookJump_175 : decode cX9_lookJump 175 = .ok (.if_icmp .eq 9, 3) := by decide +kernel
theorem dX9_lookJump_178 : decode cX9_lookJump 178 = .ok (.iload_n 2, 1) := by decide +kernel
theorem dX9_lookJump_179 : decode cX9_lookJump 179 = .ok (.bipush 11, 2) := by decide +kernel
theorem dX9_lookJump_181 : decode cX9_lookJump 181 = .ok (.if_icmp .ne 7, 3) := by decide +kernel
theorem dX9_lookJump_184 : decode cX9_lookJump 184 = .ok (.iconst 1, 1) := by decide +kernel
theorem dX9_lookJump_185 : decode cX9_lookJump 185 = .ok (.goto 4, 3) := by decide +kernel
theorem dX9_lookJump_188 : decode cX9_lookJump 188 = .ok (.iconst 0, 1) := by decide +kernel
theorem dX9_lookJump_189 : decode cX9_lookJump 189 = .ok (.istore 7, 2) := by decide +kernel
theorem dX9_lookJump_191 : decode cX9_lookJump 191 = .ok (.aload_n 0, 1) := by decide +kernel
theorem dX9_lookJump_192 : decode cX9_lookJump 192 = .ok (.iload 6, 2) := by decide +kernel
theorem dX9_lookJump_194 : decode cX9_lookJump 194 = .ok (.ifCond .eq 7, 3) := by decide +kernel
theorem dX9_lookJump_197 : decode cX9_lookJump 197 = .ok (.iconst 3, 1) := by decide +kernel
theorem dX9_lookJump_198 : decode cX9_lookJump 198 = .ok (.goto 55, 3) := by decide +kernel
theorem dX9_lookJump_201 : decode cX9_lookJump 201 = .ok (.iload_n 3, 1) := by decide +kernel
theorem dX9_lookJump_202 : decode cX9_lookJump 202 = .ok (.ifCond .eq 8, 3) := by decide +kernel
theorem dX9_lookJump_205 : decode cX9_lookJump 205 = .ok (.iload 7, 2) := by decide +kernel
theorem dX9_lookJump_207 : decode cX9_lookJump 207 = .ok (.ifCond .ne 7, 3) := by decide +kernel
theorem dX9_lookJump_210 : decode cX9_lookJump 210 = .ok (.iconst 0, 1) := by decide +kernel
theorem dX9_lookJump_211 : decode cX9_lookJump 211 = .ok (.goto 42, 3) := by decide +kernel
theorem dX9_lookJump_214 : decode cX9_lookJump 214 = .ok (.aload_n 0, 1) := by decide +kernel
theorem dX9_lookJump_215 : decode cX9_lookJump 215 = .ok (.getfield 400, 3) := by decide +kernel
theorem dX9_lookJump_218 : decode cX9_lookJump 218 = .ok (.aload_n 0, 1) := by decide +kernel
theorem dX9_lookJump_219 : decode cX9_lookJump 219 = .ok (.getfield 403, 3) := by decide +kernel
theorem dX9_lookJump_222 : decode cX9_lookJump 222 = .ok (.lcmp, 1) := by decide +kernel
theorem dX9_lookJump_223 : decode cX9_lookJump 223 = .ok (.ifCond .ne 7, 3) := by decide +kernel
theorem dX9_lookJump_226 : decode cX9_lookJump 226 = .ok (.iconst 1, 1) := by decide +kernel
theorem dX9_lookJump_227 : decode cX9_lookJump 227 = .ok (.goto 26, 3) := by decide +kernel
theorem dX9_lookJump_230 : decode cX9_lookJump 230 = .ok (.aload_n 0, 1) := by decide +kernel
theorem dX9_lookJump_231 : decode cX9_lookJump 231 = .ok (.getfield 109, 3) := by decide +kernel
theorem dX9_lookJump_234 : decode cX9_lookJump 234 = .ok (.iload 5, 2) := by decide +kernel
theorem dX9_lookJump_236 : decode cX9_lookJump 236 = .ok (.laload, 1) := by decide +kernel
theorem dX9_lookJump_237 : decode cX9_lookJump 237 = .ok (.aload_n 0, 1) := by decide +kernel
theorem dX9_lookJump_238 : decode cX9_lookJump 238 = .ok (.getfield 112, 3) := by decide +kernel
theorem dX9_lookJump_241 : decode cX9_lookJump 241 = .ok (.iload 5, 2) := by decide +kernel
theorem dX9_lookJump_243 : decode cX9_lookJump 243 = .ok (.laload, 1) := by decide +kernel
theorem dX9_lookJump_244 : decode cX9_lookJump 244 = .ok (.lcmp, 1) := by decide +kernel
theorem dX9_lookJump_245 : decode cX9_lookJump 245 = .ok (.ifCond .ne 7, 3) := by decide +kernel
theorem dX9_lookJump_248 : decode cX9_lookJump 248 = .ok (.iconst 2, 1) := by decide +kernel
theorem dX9_lookJump_249 : decode cX9_lookJump 249 = .ok (.goto 4, 3) := by decide +kernel
theorem dX9_lookJump_252 : decode cX9_lookJump 252 = .ok (.iconst 0, 1) := by decide +kernel
theorem dX9_lookJump_253 : decode cX9_lookJump 253 = .ok (.putfield 445, 3) := by decide +kernel
theorem dX9_lookJump_256 : decode cX9_lookJump 256 = .ok (.aload_n 0, 1) := by decide +kernel
theorem dX9_lookJump_257 : decode cX9_lookJump 257 = .ok (.iconst 0, 1) := by decide +kernel
theorem dX9_lookJump_258 : decode cX9_lookJump 258 = .ok (.bipush 75, 2) := by decide +kernel
theorem dX9_lookJump_260 : decode cX9_lookJump 260 = .ok (.invokevirtual 458, 3) := by decide +kernel
theorem dX9_lookJump_263 : decode cX9_lookJump 263 = .ok (.aload_n 0, 1) := by decide +kernel
theorem dX9_lookJump_264 : decode cX9_lookJump 264 = .ok (.iload_n 1, 1) := by decide +kernel
theorem dX9_lookJump_265 : decode cX9_lookJump 265 = .ok (.iconst 0, 1) := by decide +kernel
theorem dX9_lookJump_266 : decode cX9_lookJump 266 = .ok (.invokevirtual 461, 3) := by decide +kernel
theorem dX9_lookJump_269 : decode cX9_lookJump 269 = .ok (.istore 8, 2) := by decide +kernel
theorem dX9_lookJump_271 : decode cX9_lookJump 271 = .ok (.aload_n 0, 1) := by decide +kernel
theorem dX9_lookJump_272 : decode cX9_lookJump 272 = .ok (.bipush 75, 2) := by decide +kernel
theorem dX9_lookJump_274 : decode cX9_lookJump 274 = .ok (.iconst 0, 1) := by decide +kernel
theorem dX9_lookJump_275 : decode cX9_lookJump 275 = .ok (.invokevirtual 458, 3) := by decide +kernel
theorem dX9_lookJump_278 : decode cX9_lookJump 278 = .ok (.aload_n 0, 1) := by decide +kernel
theorem dX9_lookJump_279 : decode cX9_lookJump 279 = .ok (.iload_n 1, 1) := by decide +kernel
theorem dX9_lookJump_280 : decode cX9_lookJump 280 = .ok (.iconst 1, 1) := by decide +kernel
theorem dX9_lookJump_281 : decode cX9_lookJump 281 = .ok (.invokevirtual 461, 3) := by decide +kernel
theorem dX9_lookJump_284 : decode cX9_lookJump 284 = .ok (.istore 9, 2) := by decide +kernel
theorem dX9_lookJump_286 : decode cX9_lookJump 286 = .ok (.aload_n 0, 1) := by decide +kernel
theorem dX9_lookJump_287 : decode cX9_lookJump 287 = .ok (.bipush 75, 2) := by decide +kernel
theorem dX9_lookJump_289 : decode cX9_lookJump 289 = .ok (.iconst 0, 1) := by decide +kernel
theorem dX9_lookJump_290 : decode cX9_lookJump 290 = .ok (.invokevirtual 458, 3) := by decide +kernel
theorem dX9_lookJump_293 : decode cX9_lookJump 293 = .ok (.iload 8, 2) := by decide +kernel
theorem dX9_lookJump_295 : decode cX9_lookJump 295 = .ok (.ifCond .eq 13, 3) := by decide +kernel
theorem dX9_lookJump_298 : decode cX9_lookJump 298 = .ok (.aload_n 0, 1) := by decide +kernel
theorem dX9_lookJump_299 : decode cX9_lookJump 299 = .ok (.iload_n 1, 1) := by decide +kernel
theorem dX9_lookJump_300 : decode cX9_lookJump 300 = .ok (.iconst 1, 1) := by decide +kernel
theorem dX9_lookJump_301 : decode cX9_lookJump 301 = .ok (.iadd, 1) := by decide +kernel
theorem dX9_lookJump_302 : decode cX9_lookJump 302 = .ok (.invokevirtual 390, 3) := by decide +kernel
theorem dX9_lookJump_305 : decode cX9_lookJump 305 = .ok (.ifCond .eq 25, 3) := by decide +kernel
theorem dX9_lookJump_308 : decode cX9_lookJump 308 = .ok (.iload 9, 2) := by decide +kernel
theorem dX9_lookJump_310 : decode cX9_lookJump 310 = .ok (.ifCond .eq 23, 3) := by decide +kernel
theorem dX9_lookJump_313 : decode cX9_lookJump 313 = .ok (.aload_n 0, 1) := by decide +kernel
theorem dX9_lookJump_314 : decode cX9_lookJump 314 = .ok (.iload_n 1, 1) := by decide +kernel
theorem dX9_lookJump_315 : decode cX9_lookJump 315 = .ok (.iconst 1, 1) := by decide +kernel
theorem dX9_lookJump_316 : decode cX9_lookJump 316 = .ok (.iadd, 1) := by decide +kernel
theorem dX9_lookJump_317 : decode cX9_lookJump 317 = .ok (.aload_n 0, 1) := by decide +kernel
theorem dX9_lookJump_318 : decode cX9_lookJump 318 = .ok (.getfield 19, 3) := by decide +kernel
theorem dX9_lookJump_321 : decode cX9_lookJump 321 = .ok (.iload_n 1, 1) := by decide +kernel
theorem dX9_lookJump_322 : decode cX9_lookJump 322 = .ok (.iaload, 1) := by decide +kernel
theorem dX9_lookJump_323 : decode cX9_lookJump 323 = .ok (.iadd, 1) := by decide +kernel
theorem dX9_lookJump_324 : decode cX9_lookJump 324 = .ok (.invokevirtual 390, 3) := by decide +kernel
theorem dX9_lookJump_327 : decode cX9_lookJump 327 = .ok (.ifCond .ne 6, 3) := by decide +kernel
theorem dX9_lookJump_330 : decode cX9_lookJump 330 = .ok (.bipush 6, 2) := by decide +kernel
theorem dX9_lookJump_332 : decode cX9_lookJump 332 = .ok (.ireturn, 1) := by decide +kernel
theorem dX9_lookJump_333 : decode cX9_lookJump 333 = .ok (.iload 8, 2) := by decide +kernel
theorem dX9_lookJump_335 : decode cX9_lookJump 335 = .ok (.ifCond .eq 19, 3) := by decide +kernel
theorem dX9_lookJump_338 : decode cX9_lookJump 338 = .ok (.aload_n 0, 1) := by decide +kernel
theorem dX9_lookJump_339 : decode cX9_lookJump 339 = .ok (.iload_n 1, 1) := by decide +kernel
theorem dX9_lookJump_340 : decode cX9_lookJump 340 = .ok (.iconst 0, 1) := by decide +kernel
theorem dX9_lookJump_341 : decode cX9_lookJump 341 = .ok (.invokevirtual 461, 3) := by decide +kernel
theorem dX9_lookJump_344 : decode cX9_lookJump 344 = .ok (.ifCond .eq 10, 3) := by decide +kernel
theorem dX9_lookJump_347 : decode cX9_lookJump 347 = .ok (.aload_n 0, 1) := by decide +kernel
theorem dX9_lookJump_348 : decode cX9_lookJump 348 = .ok (.iload_n 1, 1) := by decide +kernel
theorem dX9_lookJump_349 : decode cX9_lookJump 349 = .ok (.iconst 1, 1) := by decide +kernel
theorem dX9_lookJump_350 : decode cX9_lookJump 350 = .ok (.iadd, 1) := by decide +kernel
theorem dX9_lookJump_351 : decode cX9_lookJump 351 = .ok (.invokevirtual 355, 3) := by decide +kernel
theorem dX9_lookJump_354 : decode cX9_lookJump 354 = .ok (.aload_n 0, 1) := by decide +kernel
theorem dX9_lookJump_355 : decode cX9_lookJump 355 = .ok (.bipush 75, 2) := by decide +kernel
theorem dX9_lookJump_357 : decode cX9_lookJump 357 = .ok (.iconst 0, 1) := by decide +kernel
theorem dX9_lookJump_358 : decode cX9_lookJump 358 = .ok (.invokevirtual 458, 3) := by decide +kernel
theorem dX9_lookJump_361 : decode cX9_lookJump 361 = .ok (.iload 9, 2) := by decide +kernel
theorem dX9_lookJump_363 : decode cX9_lookJump 363 = .ok (.ifCond .eq 26, 3) := by decide +kernel
theorem dX9_lookJump_366 : decode cX9_lookJump 366 = .ok (.aload_n 0, 1) := by decide +kernel
theorem dX9_lookJump_367 : decode cX9_lookJump 367 = .ok (.iload_n 1, 1) := by decide +kernel
theorem dX9_lookJump_368 : decode cX9_lookJump 368 = .ok (.iconst 1, 1) := by decide +kernel
theorem dX9_lookJump_369 : decode cX9_lookJump 369 = .ok (.invokevirtual 461, 3) := by decide +kernel
theorem dX9_lookJump_372 : decode cX9_lookJump 372 = .ok (.ifCond .eq 17, 3) := by decide +kernel
theorem dX9_lookJump_375 : decode cX9_lookJump 375 = .ok (.aload_n 0, 1) := by decide +kernel
theorem dX9_lookJump_376 : decode cX9_lookJump 376 = .ok (.iload_n 1, 1) := by decide +kernel
theorem dX9_lookJump_377 : decode cX9_lookJump 377 = .ok (.iconst 1, 1) := by decide +kernel
theorem dX9_lookJump_378 : decode cX9_lookJump 378 = .ok (.iadd, 1) := by decide +kernel
theorem dX9_lookJump_379 : decode cX9_lookJump 379 = .ok (.aload_n 0, 1) := by decide +kernel
theorem dX9_lookJump_380 : decode cX9_lookJump 380 = .ok (.getfield 19, 3) := by decide +kernel
theorem dX9_lookJump_383 : decode cX9_lookJump 383 = .ok (.iload_n 1, 1) := by decide +kernel
theorem dX9_lookJump_384 : decode cX9_lookJump 384 = .ok (.iaload, 1) := by decide +kernel
theorem dX9_lookJump_385 : decode cX9_lookJump 385 = .ok (.iadd, 1) := by decide +kernel
theorem dX9_lookJump_386 : decode cX9_lookJump 386 = .ok (.invokevirtual 355, 3) := by decide +kernel
theorem dX9_lookJump_389 : decode cX9_lookJump 389 = .ok (.iconst 0, 1) := by decide +kernel
theorem dX9_lookJump_390 : decode cX9_lookJump 390 = .ok (.ireturn, 1) := by decide +kernel
theorem dX9_access_0 : decode cX9_access 0 = .ok (.aload_n 0, 1) := by decide +kernel
theorem dX9_access_1 : decode cX9_access 1 = .ok (.getfield 109, 3) := by decide +kernel
theorem dX9_access_4 : decode cX9_access 4 = .ok (.iload_n 1, 1) := by decide +kernel
theorem dX9_access_5 : decode cX9_access 5 = .ok (.laload, 1) := by decide +kernel
theorem dX9_access_6 : decode cX9_access 6 = .ok (.iload_n 2, 1) := by decide +kernel
theorem dX9_access_7 : decode cX9_access 7 = .ok (.i2l, 1) := by decide +kernel
theorem dX9_access_8 : decode cX9_access 8 = .ok (.ladd, 1) := by decide +kernel
theorem dX9_access_9 : decode cX9_access 9 = .ok (.lstore 5, 2) := by decide +kernel
theorem dX9_access_11 : decode cX9_access 11 = .ok (.aload_n 0, 1) := by decide +kernel
theorem dX9_access_12 : decode cX9_access 12 = .ok (.getfield 112, 3) := by decide +kernel
theorem dX9_access_15 : decode cX9_access 15 = .ok (.iload_n 1, 1) := by decide +kernel
theorem dX9_access_16 : decode cX9_access 16 = .ok (.laload, 1) := by decide +kernel
theorem dX9_access_17 : decode cX9_access 17 = .ok (.iload_n 2, 1) := by decide +kernel
theorem dX9_access_18 : decode cX9_access 18 = .ok (.i2l, 1) := by decide +kernel
theorem dX9_access_19 : decode cX9_access 19 = .ok (.ladd, 1) := by decide +kernel
theorem dX9_access_20 : decode cX9_access 20 = .ok (.iload_n 3, 1) := by decide +kernel
theorem dX9_access_21 : decode cX9_access 21 = .ok (.i2l, 1) := by decide +kernel
theorem dX9_access_22 : decode cX9_access 22 = .ok (.ladd, 1) := by decide +kernel
theorem dX9_access_23 : decode cX9_access 23 = .ok (.lstore 7, 2) := by decide +kernel
theorem dX9_access_25 : decode cX9_access 25 = .ok (.aload_n 0, 1) := by decide +kernel
theorem dX9_access_26 : decode cX9_access 26 = .ok (.getfield 106, 3) := by decide +kernel
theorem dX9_access_29 : decode cX9_access 29 = .ok (.iload_n 1, 1) := by decide +kernel
theorem dX9_access_30 : decode cX9_access 30 = .ok (.iaload, 1) := by decide +kernel
theorem dX9_access_31 : decode cX9_access 31 = .ok (.tableswitch 114 2 5 #[29, 89, 114, 58], 29) := by decide +kernel
theorem dX9_access_60 : decode cX9_access 60 = .ok (.iload 4, 2) := by decide +kernel
theorem dX9_access_62 : decode cX9_access 62 = .ok (.ifCond .ne 25, 3) := by decide +kernel
theorem dX9_access_65 : decode cX9_access 65 = .ok (.lload 5, 2) := by decide +kernel
theorem dX9_access_67 : decode cX9_access 67 = .ok (.lconst 0, 1) := by decide +kernel
theorem dX9_access_68 : decode cX9_access 68 = .ok (.lcmp, 1) := by decide +kernel
theorem dX9_access_69 : decode cX9_access 69 = .ok (.ifCond .lt 18, 3) := by decide +kernel
theorem dX9_access_72 : decode cX9_access 72 = .ok (.lload 7, 2) := by decide +kernel
theorem dX9_access_74 : decode cX9_access 74 = .ok (.aload_n 0, 1) := by decide +kernel
theorem dX9_access_75 : decode cX9_access 75 = .ok (.getfield 209, 3) := by decide +kernel
theorem dX9_access_78 : decode cX9_access 78 = .ok (.i2l, 1) := by decide +kernel
theorem dX9_access_79 : decode cX9_access 79 = .ok (.lcmp, 1) := by decide +kernel
theorem dX9_access_80 : decode cX9_access 80 = .ok (.ifCond .gt 7, 3) := by decide +kernel
theorem dX9_access_83 : decode cX9_access 83 = .ok (.iconst 0, 1) := by decide +kernel
theorem dX9_access_84 : decode cX9_access 84 = .ok (.goto 4, 3) := by decide +kernel
theorem dX9_access_87 : decode cX9_access 87 = .ok (.iconst 4, 1) := by decide +kernel
theorem dX9_access_88 : decode cX9_access 88 = .ok (.ireturn, 1) := by decide +kernel
theorem dX9_access_89 : decode cX9_access 89 = .ok (.lload 5, 2) := by decide +kernel
theorem dX9_access_91 : decode cX9_access 91 = .ok (.lconst 0, 1) := by decide +kernel
theorem dX9_access_92 : decode cX9_access 92 = .ok (.lcmp, 1) := by decide +kernel
theorem dX9_access_93 : decode cX9_access 93 = .ok (.ifCond .lt 25, 3) := by decide +kernel
theorem dX9_access_96 : decode cX9_access 96 = .ok (.lload 7, 2) := by decide +kernel
theorem dX9_access_98 : decode cX9_access 98 = .ok (.aload_n 0, 1) := by decide +kernel
theorem dX9_access_99 : decode cX9_access 99 = .ok (.getfield 37, 3) := by decide +kernel
theorem dX9_access_102 : decode cX9_access 102 = .ok (.aload_n 0, 1) := by decide +kernel
theorem dX9_access_103 : decode cX9_access 103 = .ok (.getfield 115, 3) := by decide +kernel
theorem dX9_access_106 : decode cX9_access 106 = .ok (.iload_n 1, 1) := by decide +kernel
theorem dX9_access_107 : decode cX9_access 107 = .ok (.iaload, 1) := by decide +kernel
theorem dX9_access_108 : decode cX9_access 108 = .ok (.iaload, 1) := by decide +kernel
theorem dX9_access_109 : decode cX9_access 109 = .ok (.i2l, 1) := by decide +kernel
theorem dX9_access_110 : decode cX9_access 110 = .ok (.lcmp, 1) := by decide +kernel
theorem dX9_access_111 : decode cX9_access 111 = .ok (.ifCond .gt 7, 3) := by decide +kernel
theorem dX9_access_114 : decode cX9_access 114 = .ok (.iconst 0, 1) := by decide +kernel
theorem dX9_access_115 : decode cX9_access 115 = .ok (.goto 4, 3) := by decide +kernel
theorem dX9_access_118 : decode cX9_access 118 = .ok (.iconst 4, 1) := by decide +kernel
theorem dX9_access_119 : decode cX9_access 119 = .ok (.ireturn, 1) := by decide +kernel
theorem dX9_access_120 : decode cX9_access 120 = .ok (.lload 5, 2) := by decide +kernel
theorem dX9_access_122 : decode cX9_access 122 = .ok (.ldc2_w 464, 3) := by decide +kernel
theorem dX9_access_125 : decode cX9_access 125 = .ok (.lcmp, 1) := by decide +kernel
theorem dX9_access_126 : decode cX9_access 126 = .ok (.ifCond .lt 17, 3) := by decide +kernel
theorem dX9_access_129 : decode cX9_access 129 = .ok (.lload 5, 2) := by decide +kernel
theorem dX9_access_131 : decode cX9_access 131 = .ok (.iload_n 3, 1) := by decide +kernel
theorem dX9_access_132 : decode cX9_access 132 = .ok (.i2l, 1) := by decide +kernel
theorem dX9_access_133 : decode cX9_access 133 = .ok (.ladd, 1) := by decide +kernel
theorem dX9_access_134 : decode cX9_access 134 = .ok (.lconst 0, 1) := by decide +kernel
theorem dX9_access_135 : decode cX9_access 135 = .ok (.lcmp, 1) := by decide +kernel
theorem dX9_access_136 : decode cX9_access 136 = .ok (.ifCond .gt 7, 3) := by decide +kernel
theorem dX9_access_139 : decode cX9_access 139 = .ok (.iconst 0, 1) := by decide +kernel
theorem dX9_access_140 : decode cX9_access 140 = .ok (.goto 4, 3) := by decide +kernel
theorem dX9_access_143 : decode cX9_access 143 = .ok (.iconst 4, 1) := by decide +kernel
theorem dX9_access_144 : decode cX9_access 144 = .ok (.ireturn, 1) := by decide +kernel
theorem dX9_access_145 : decode cX9_access 145 = .ok (.iconst 3, 1) := by decide +kernel
theorem dX9_access_146 : decode cX9_access 146 = .ok (.ireturn, 1) := by decide +kernel
theorem dX9_areKnown_0 : decode cX9_areKnown 0 = .ok (.iconst 1, 1) := by decide +kernel
theorem dX9_areKnown_1 : decode cX9_areKnown 1 = .ok (.istore_n 3, 1) := by decide +kernel
theorem dX9_areKnown_2 : decode cX9_areKnown 2 = .ok (.iload_n 1, 1) := by decide +kernel
theorem dX9_areKnown_3 : decode cX9_areKnown 3 = .ok (.istore 4, 2) := by decide +kernel
theorem dX9_areKnown_5 : decode cX9_areKnown 5 = .ok (.iload 4, 2) := by decide +kernel
theorem dX9_areKnown_7 : decode cX9_areKnown 7 = .ok (.iload_n 1, 1) := by decide +kernel
theorem dX9_areKnown_8 : decode cX9_areKnown 8 = .ok (.iload_n 2, 1) := by decide +kernel
theorem dX9_areKnown_9 : decode cX9_areKnown 9 = .ok (.iadd, 1) := by decide +kernel
theorem dX9_areKnown_10 : decode cX9_areKnown 10 = .ok (.if_icmp .ge 29, 3) := by decide +kernel
theorem dX9_areKnown_13 : decode cX9_areKnown 13 = .ok (.iload_n 3, 1) := by decide +kernel
theorem dX9_areKnown_14 : decode cX9_areKnown 14 = .ok (.ifCond .eq 17, 3) := by decide +kernel
theorem dX9_areKnown_17 : decode cX9_areKnown 17 = .ok (.aload_n 0, 1) := by decide +kernel
theorem dX9_areKnown_18 : decode cX9_areKnown 18 = .ok (.getfield 121, 3) := by decide +kernel
theorem dX9_areKnown_21 : decode cX9_areKnown 21 = .ok (.iload 4, 2) := by decide +kernel
theorem dX9_areKnown_23 : decode cX9_areKnown 23 = .ok (.baload, 1) := by decide +kernel
theorem dX9_areKnown_24 : decode cX9_areKnown 24 = .ok (.ifCond .eq 7, 3) := by decide +kernel
theorem dX9_areKnown_27 : decode cX9_areKnown 27 = .ok (.iconst 1, 1) := by decide +kernel
theorem dX9_areKnown_28 : decode cX9_areKnown 28 = .ok (.goto 4, 3) := by decide +kernel
theorem dX9_areKnown_31 : decode cX9_areKnown 31 = .ok (.iconst 0, 1) := by decide +kernel
theorem dX9_areKnown_32 : decode cX9_areKnown 32 = .ok (.istore_n 3, 1) := by decide +kernel
theorem dX9_areKnown_33 : decode cX9_areKnown 33 = .ok (.iinc 4 1, 3) := by decide +kernel
theorem dX9_areKnown_36 : decode cX9_areKnown 36 = .ok (.goto (-31), 3) := by decide +kernel
theorem dX9_areKnown_39 : decode cX9_areKnown 39 = .ok (.iload_n 3, 1) := by decide +kernel
theorem dX9_areKnown_40 : decode cX9_areKnown 40 = .ok (.ireturn, 1) := by decide +kernel
theorem dX9_reads_0 : decode cX9_reads 0 = .ok (.aload_n 0, 1) := by decide +kernel
theorem dX9_reads_1 : decode cX9_reads 1 = .ok (.iload_n 1, 1) := by decide +kernel
theorem dX9_reads_2 : decode cX9_reads 2 = .ok (.iconst 0, 1) := by decide +kernel
theorem dX9_reads_3 : decode cX9_reads 3 = .ok (.iload_n 2, 1) := by decide +kernel
theorem dX9_reads_4 : decode cX9_reads 4 = .ok (.iconst 0, 1) := by decide +kernel
theorem dX9_reads_5 : decode cX9_reads 5 = .ok (.invokevirtual 466, 3) := by decide +kernel
theorem dX9_reads_8 : decode cX9_reads 8 = .ok (.istore_n 3, 1) := by decide +kernel
theorem dX9_reads_9 : decode cX9_reads 9 = .ok (.iload_n 3, 1) := by decide +kernel
theorem dX9_reads_10 : decode cX9_reads 10 = .ok (.ifCond .ne 36, 3) := by decide +kernel
theorem dX9_reads_13 : decode cX9_reads 13 = .ok (.aload_n 0, 1) := by decide +kernel
theorem dX9_reads_14 : decode cX9_reads 14 = .ok (.getfield 106, 3) := by decide +kernel
theorem dX9_reads_17 : decode cX9_reads 17 = .ok (.iload_n 1, 1) := by decide +kernel
theorem dX9_reads_18 : decode cX9_reads 18 = .ok (.iaload, 1) := by decide +kernel
theorem dX9_reads_19 : decode cX9_reads 19 = .ok (.iconst 3, 1) := by decide +kernel
theorem dX9_reads_20 : decode cX9_reads 20 = .ok (.if_icmp .ne 26, 3) := by decide +kernel
theorem dX9_reads_23 : decode cX9_reads 23 = .ok (.aload_n 0, 1) := by decide +kernel
theorem dX9_reads_24 : decode cX9_reads 24 = .ok (.aload_n 0, 1) := by decide +kernel
theorem dX9_reads_25 : decode cX9_reads 25 = .ok (.getfield 109, 3) := by decide +kernel
theorem dX9_reads_28 : decode cX9_reads 28 = .ok (.iload_n 1, 1) := by decide +kernel
theorem dX9_reads_29 : decode cX9_reads 29 = .ok (.laload, 1) := by decide +kernel
theorem dX9_reads_30 : decode cX9_reads 30 = .ok (.l2i, 1) := by decide +kernel
theorem dX9_reads_31 : decode cX9_reads 31 = .ok (.sipush 512, 3) := by decide +kernel
theorem dX9_reads_34 : decode cX9_reads 34 = .ok (.iadd, 1) := by decide +kernel
theorem dX9_reads_35 : decode cX9_reads 35 = .ok (.iload_n 2, 1) := by decide +kernel
theorem dX9_reads_36 : decode cX9_reads 36 = .ok (.invokevirtual 470, 3) := by decide +kernel
theorem dX9_reads_39 : decode cX9_reads 39 = .ok (.ifCond .ne 7, 3) := by decide +kernel
theorem dX9_reads_42 : decode cX9_reads 42 = .ok (.iconst 1, 1) := by decide +kernel
theorem dX9_reads_43 : decode cX9_reads 43 = .ok (.goto 4, 3) := by decide +kernel
theorem dX9_reads_46 : decode cX9_reads 46 = .ok (.iconst 0, 1) := by decide +kernel
theorem dX9_reads_47 : decode cX9_reads 47 = .ok (.istore 4, 2) := by decide +kernel
theorem dX9_reads_49 : decode cX9_reads 49 = .ok (.iload 4, 2) := by decide +kernel
theorem dX9_reads_51 : decode cX9_reads 51 = .ok (.ifCond .eq 7, 3) := by decide +kernel
theorem dX9_reads_54 : decode cX9_reads 54 = .ok (.iconst 4, 1) := by decide +kernel
theorem dX9_reads_55 : decode cX9_reads 55 = .ok (.goto 4, 3) := by decide +kernel
theorem dX9_reads_58 : decode cX9_reads 58 = .ok (.iload_n 3, 1) := by decide +kernel
theorem dX9_reads_59 : decode cX9_reads 59 = .ok (.ireturn, 1) := by decide +kernel
theorem dX9_lookCall_0 : decode cX9_lookCall 0 = .ok (.iload_n 2, 1) := by decide +kernel
theorem dX9_lookCall_1 : decode cX9_lookCall 1 = .ok (.iconst 2, 1) := by decide +kernel
theorem dX9_lookCall_2 : decode cX9_lookCall 2 = .ok (.if_icmp .ne 7, 3) := by decide +kernel
theorem dX9_lookCall_5 : decode cX9_lookCall 5 = .ok (.iconst 4, 1) := by decide +kernel
theorem dX9_lookCall_6 : decode cX9_lookCall 6 = .ok (.goto 23, 3) := by decide +kernel
theorem dX9_lookCall_9 : decode cX9_lookCall 9 = .ok (.iload_n 2, 1) := by decide +kernel
theorem dX9_lookCall_10 : decode cX9_lookCall 10 = .ok (.iconst 5, 1) := by decide +kernel
theorem dX9_lookCall_11 : decode cX9_lookCall 11 = .ok (.if_icmp .ne 7, 3) := by decide +kernel
theorem dX9_lookCall_14 : decode cX9_lookCall 14 = .ok (.iconst 0, 1) := by decide +kernel
theorem dX9_lookCall_15 : decode cX9_lookCall 15 = .ok (.goto 14, 3) := by decide +kernel
theorem dX9_lookCall_18 : decode cX9_lookCall 18 = .ok (.iload_n 2, 1) := by decide +kernel
theorem dX9_lookCall_19 : decode cX9_lookCall 19 = .ok (.bipush 6, 2) := by decide +kernel
theorem dX9_lookCall_21 : decode cX9_lookCall 21 = .ok (.if_icmp .ne 7, 3) := by decide +kernel
theorem dX9_lookCall_24 : decode cX9_lookCall 24 = .ok (.iconst 1, 1) := by decide +kernel
theorem dX9_lookCall_25 : decode cX9_lookCall 25 = .ok (.goto 4, 3) := by decide +kernel
theorem dX9_lookCall_28 : decode cX9_lookCall 28 = .ok (.iconst 2, 1) := by decide +kernel
theorem dX9_lookCall_29 : decode cX9_lookCall 29 = .ok (.istore_n 3, 1) := by decide +kernel
theorem dX9_lookCall_30 : decode cX9_lookCall 30 = .ok (.iconst 1, 1) := by decide +kernel
theorem dX9_lookCall_31 : decode cX9_lookCall 31 = .ok (.istore 4, 2) := by decide +kernel
theorem dX9_lookCall_33 : decode cX9_lookCall 33 = .ok (.iload 4, 2) := by decide +kernel
theorem dX9_lookCall_35 : decode cX9_lookCall 35 = .ok (.iload_n 3, 1) := by decide +kernel
theorem dX9_lookCall_36 : decode cX9_lookCall 36 = .ok (.if_icmp .gt 21, 3) := by decide +kernel
theorem dX9_lookCall_39 : decode cX9_lookCall 39 = .ok (.aload_n 0, 1) := by decide +kernel
theorem dX9_lookCall_40 : decode cX9_lookCall 40 = .ok (.getfield 106, 3) := by decide +kernel
theorem dX9_lookCall_43 : decode cX9_lookCall 43 = .ok (.iload 4, 2) := by decide +kernel
theorem dX9_lookCall_45 : decode cX9_lookCall 45 = .ok (.iaload, 1) := by decide +kernel
theorem dX9_lookCall_46 : decode cX9_lookCall 46 = .ok (.ifCond .ne 5, 3) := by decide +kernel
theorem dX9_lookCall_49 : decode cX9_lookCall 49 = .ok (.iconst 2, 1) := by decide +kernel
theorem dX9_lookCall_50 : decode cX9_lookCall 50 = .ok (.ireturn, 1) := by decide +kernel
theorem dX9_lookCall_51 : decode cX9_lookCall 51 = .ok (.iinc 4 1, 3) := by decide +kernel
theorem dX9_lookCall_54 : decode cX9_lookCall 54 = .ok (.goto (-21), 3) := by decide +kernel
theorem dX9_lookCall_57 : decode cX9_lookCall 57 = .ok (.aload_n 0, 1) := by decide +kernel
theorem dX9_lookCall_58 : decode cX9_lookCall 58 = .ok (.getfield 115, 3) := by decide +kernel
theorem dX9_lookCall_61 : decode cX9_lookCall 61 = .ok (.iconst 1, 1) := by decide +kernel
theorem dX9_lookCall_62 : decode cX9_lookCall 62 = .ok (.iaload, 1) := by decide +kernel
theorem dX9_lookCall_63 : decode cX9_lookCall 63 = .ok (.istore 4, 2) := by decide +kernel
theorem dX9_lookCall_65 : decode cX9_lookCall 65 = .ok (.iload_n 2, 1) := by decide +kernel
theorem dX9_lookCall_66 : decode cX9_lookCall 66 = .ok (.bipush 6, 2) := by decide +kernel
theorem dX9_lookCall_68 : decode cX9_lookCall 68 = .ok (.if_icmp .ne 13, 3) := by decide +kernel
theorem dX9_lookCall_71 : decode cX9_lookCall 71 = .ok (.aload_n 0, 1) := by decide +kernel
theorem dX9_lookCall_72 : decode cX9_lookCall 72 = .ok (.getfield 106, 3) := by decide +kernel
theorem dX9_lookCall_75 : decode cX9_lookCall 75 = .ok (.iconst 1, 1) := by decide +kernel
theorem dX9_lookCall_76 : decode cX9_lookCall 76 = .ok (.iaload, 1) := by decide +kernel
theorem dX9_lookCall_77 : decode cX9_lookCall 77 = .ok (.iconst 1, 1) := by decide +kernel
theorem dX9_lookCall_78 : decode cX9_lookCall 78 = .ok (.if_icmp .ne 18, 3) := by decide +kernel
theorem dX9_lookCall_81 : decode cX9_lookCall 81 = .ok (.iload_n 2, 1) := by decide +kernel
theorem dX9_lookCall_82 : decode cX9_lookCall 82 = .ok (.iconst 4, 1) := by decide +kernel
theorem dX9_lookCall_83 : decode cX9_lookCall 83 = .ok (.if_icmp .ge 15, 3) := by decide +kernel
theorem dX9_lookCall_86 : decode cX9_lookCall 86 = .ok (.aload_n 0, 1) := by decide +kernel
theorem dX9_lookCall_87 : decode cX9_lookCall 87 = .ok (.getfield 106, 3) := by decide +kernel
theorem dX9_lookCall_90 : decode cX9_lookCall 90 = .ok (.iconst 1, 1) := by decide +kernel
theorem dX9_lookCall_91 : decode cX9_lookCall 91 = .ok (.iaload, 1) := by decide +kernel
theorem dX9_lookCall_92 : decode cX9_lookCall 92 = .ok (.iconst 4, 1) := by decide +kernel
theorem dX9_lookCall_93 : decode cX9_lookCall 93 = .ok (.if_icmp .eq 5, 3) := by decide +kernel
theorem dX9_lookCall_96 : decode cX9_lookCall 96 = .ok (.iconst 3, 1) := by decide +kernel
theorem dX9_lookCall_97 : decode cX9_lookCall 97 = .ok (.ireturn, 1) := by decide +kernel
theorem dX9_lookCall_98 : decode cX9_lookCall 98 = .ok (.iload_n 2, 1) := by decide +kernel
theorem dX9_lookCall_99 : decode cX9_lookCall 99 = .ok (.iconst 4, 1) := by decide +kernel
theorem dX9_lookCall_100 : decode cX9_lookCall 100 = .ok (.if_icmp .ge 81, 3) := by decide +kernel
theorem dX9_lookCall_103 : decode cX9_lookCall 103 = .ok (.aload_n 0, 1) := by decide +kernel
theorem dX9_lookCall_104 : decode cX9_lookCall 104 = .ok (.iconst 2, 1) := by decide +kernel
theorem dX9_lookCall_105 : decode cX9_lookCall 105 = .ok (.aload_n 0, 1) := by decide +kernel
theorem dX9_lookCall_106 : decode cX9_lookCall 106 = .ok (.getfield 34, 3) := by decide +kernel
theorem dX9_lookCall_109 : decode cX9_lookCall 109 = .ok (.iload 4, 2) := by decide +kernel
theorem dX9_lookCall_111 : decode cX9_lookCall 111 = .ok (.iaload, 1) := by decide +kernel
theorem dX9_lookCall_112 : decode cX9_lookCall 112 = .ok (.invokevirtual 482, 3) := by decide +kernel
theorem dX9_lookCall_115 : decode cX9_lookCall 115 = .ok (.istore 5, 2) := by decide +kernel
theorem dX9_lookCall_117 : decode cX9_lookCall 117 = .ok (.iload_n 2, 1) := by decide +kernel
theorem dX9_lookCall_118 : decode cX9_lookCall 118 = .ok (.iconst 2, 1) := by decide +kernel
theorem dX9_lookCall_119 : decode cX9_lookCall 119 = .ok (.if_icmp .ne 18, 3) := by decide +kernel
theorem dX9_lookCall_122 : decode cX9_lookCall 122 = .ok (.aload_n 0, 1) := by decide +kernel
theorem dX9_lookCall_123 : decode cX9_lookCall 123 = .ok (.iconst 3, 1) := by decide +kernel
theorem dX9_lookCall_124 : decode cX9_lookCall 124 = .ok (.aload_n 0, 1) := by decide +kernel
theorem dX9_lookCall_125 : decode cX9_lookCall 125 = .ok (.getfield 37, 3) := by decide +kernel
theorem dX9_lookCall_128 : decode cX9_lookCall 128 = .ok (.iload 4, 2) := by decide +kernel
theorem dX9_lookCall_130 : decode cX9_lookCall 130 = .ok (.iaload, 1) := by decide +kernel
theorem dX9_lookCall_131 : decode cX9_lookCall 131 = .ok (.invokevirtual 482, 3) := by decide +kernel
theorem dX9_lookCall_134 : decode cX9_lookCall 134 = .ok (.goto 4, 3) := by decide +kernel
theorem dX9_lookCall_137 : decode cX9_lookCall 137 = .ok (.iconst 0, 1) := by decide +kernel
theorem dX9_lookCall_138 : decode cX9_lookCall 138 = .ok (.istore 6, 2) := by decide +kernel
theorem dX9_lookCall_140 : decode cX9_lookCall 140 = .ok (.iload 5, 2) := by decide +kernel
theorem dX9_lookCall_142 : decode cX9_lookCall 142 = .ok (.iconst 3, 1) := by decide +kernel
theorem dX9_lookCall_143 : decode cX9_lookCall 143 = .ok (.if_icmp .eq 24, 3) := by decide +kernel
theorem dX9_lookCall_146 : decode cX9_lookCall 146 = .ok (.iload 6, 2) := by decide +kernel
theorem dX9_lookCall_148 : decode cX9_lookCall 148 = .ok (.iconst 3, 1) := by decide +kernel
theorem dX9_lookCall_149 : decode cX9_lookCall 149 = .ok (.if_icmp .eq 18, 3) := by decide +kernel
theorem dX9_lookCall_152 : decode cX9_lookCall 152 = .ok (.iload_n 2, 1) := by decide +kernel
theorem dX9_lookCall_153 : decode cX9_lookCall 153 = .ok (.iconst 2, 1) := by decide +kernel
theorem dX9_lookCall_154 : decode cX9_lookCall 154 = .ok (.if_icmp .ne 15, 3) := by decide +kernel
theorem dX9_lookCall_157 : decode cX9_lookCall 157 = .ok (.aload_n 0, 1) := by decide +kernel
theorem dX9_lookCall_158 : decode cX9_lookCall 158 = .ok (.getfield 106, 3) := by decide +kernel
theorem dX9_lookCall_161 : decode cX9_lookCall 161 = .ok (.iconst 4, 1) := by decide +kernel
theorem dX9_lookCall_162 : decode cX9_lookCall 162 = .ok (.iaload, 1) := by decide +kernel
theorem dX9_lookCall_163 : decode cX9_lookCall 163 = .ok (.iconst 1, 1) := by decide +kernel
theorem dX9_lookCall_164 : decode cX9_lookCall 164 = .ok (.if_icmp .eq 5, 3) := by decide +kernel
theorem dX9_lookCall_167 : decode cX9_lookCall 167 = .ok (.iconst 3, 1) := by decide +kernel
theorem dX9_lookCall_168 : decode cX9_lookCall 168 = .ok (.ireturn, 1) := by decide +kernel
theorem dX9_lookCall_169 : decode cX9_lookCall 169 = .ok (.iload 5, 2) := by decide +kernel
theorem dX9_lookCall_171 : decode cX9_lookCall 171 = .ok (.ifCond .gt 8, 3) := by decide +kernel
theorem dX9_lookCall_174 : decode cX9_lookCall 174 = .ok (.iload 6, 2) := by decide +kernel
theorem dX9_lookCall_176 : decode cX9_lookCall 176 = .ok (.ifCond .le 5, 3) := by decide +kernel
theorem dX9_lookCall_179 : decode cX9_lookCall 179 = .ok (.iconst 4, 1) := by decide +kernel
theorem dX9_lookCall_180 : decode cX9_lookCall 180 = .ok (.ireturn, 1) := by decide +kernel
theorem dX9_lookCall_181 : decode cX9_lookCall 181 = .ok (.iload_n 2, 1) := by decide +kernel
theorem dX9_lookCall_182 : decode cX9_lookCall 182 = .ok (.iconst 1, 1) := by decide +kernel
theorem dX9_lookCall_183 : decode cX9_lookCall 183 = .ok (.if_icmp .ne 34, 3) := by decide +kernel
theorem dX9_lookCall_186 : decode cX9_lookCall 186 = .ok (.aload_n 0, 1) := by decide +kernel
theorem dX9_lookCall_187 : decode cX9_lookCall 187 = .ok (.iconst 0, 1) := by decide +kernel
theorem dX9_lookCall_188 : decode cX9_lookCall 188 = .ok (.invokevirtual 351, 3) := by decide +kernel
theorem dX9_lookCall_191 : decode cX9_lookCall 191 = .ok (.aload_n 0, 1) := by decide +kernel
theorem dX9_lookCall_192 : decode cX9_lookCall 192 = .ok (.getfield 106, 3) := by decide +kernel
theorem dX9_lookCall_195 : decode cX9_lookCall 195 = .ok (.iconst 0, 1) := by decide +kernel
theorem dX9_lookCall_196 : decode cX9_lookCall 196 = .ok (.bipush 6, 2) := by decide +kernel
theorem dX9_lookCall_198 : decode cX9_lookCall 198 = .ok (.iastore, 1) := by decide +kernel
theorem dX9_lookCall_199 : decode cX9_lookCall 199 = .ok (.aload_n 0, 1) := by decide +kernel
theorem dX9_lookCall_200 : decode cX9_lookCall 200 = .ok (.getfield 115, 3) := by decide +kernel
theorem dX9_lookCall_203 : decode cX9_lookCall 203 = .ok (.iconst 0, 1) := by decide +kernel
theorem dX9_lookCall_204 : decode cX9_lookCall 204 = .ok (.iload 4, 2) := by decide +kernel
theorem dX9_lookCall_206 : decode cX9_lookCall 206 = .ok (.iastore, 1) := by decide +kernel
theorem dX9_lookCall_207 : decode cX9_lookCall 207 = .ok (.aload_n 0, 1) := by decide +kernel
theorem dX9_lookCall_208 : decode cX9_lookCall 208 = .ok (.getfield 118, 3) := by decide +kernel
theorem dX9_lookCall_211 : decode cX9_lookCall 211 = .ok (.iconst 0, 1) := by decide +kernel
theorem dX9_lookCall_212 : decode cX9_lookCall 212 = .ok (.iload_n 1, 1) := by decide +kernel
theorem dX9_lookCall_213 : decode cX9_lookCall 213 = .ok (.iastore, 1) := by decide +kernel
theorem dX9_lookCall_214 : decode cX9_lookCall 214 = .ok (.goto 12, 3) := by decide +kernel
theorem dX9_lookCall_217 : decode cX9_lookCall 217 = .ok (.aload_n 0, 1) := by decide +kernel
theorem dX9_lookCall_218 : decode cX9_lookCall 218 = .ok (.iconst 0, 1) := by decide +kernel
theorem dX9_lookCall_219 : decode cX9_lookCall 219 = .ok (.lconst 0, 1) := by decide +kernel
theorem dX9_lookCall_220 : decode cX9_lookCall 220 = .ok (.ldc2_w 187, 3) := by decide +kernel
theorem dX9_lookCall_223 : decode cX9_lookCall 223 = .ok (.invokevirtual 393, 3) := by decide +kernel
theorem dX9_lookCall_226 : decode cX9_lookCall 226 = .ok (.iconst 1, 1) := by decide +kernel
theorem dX9_lookCall_227 : decode cX9_lookCall 227 = .ok (.istore 5, 2) := by decide +kernel
theorem dX9_lookCall_229 : decode cX9_lookCall 229 = .ok (.iload 5, 2) := by decide +kernel
theorem dX9_lookCall_231 : decode cX9_lookCall 231 = .ok (.bipush 6, 2) := by decide +kernel
theorem dX9_lookCall_233 : decode cX9_lookCall 233 = .ok (.if_icmp .ge 15, 3) := by decide +kernel
theorem dX9_lookCall_236 : decode cX9_lookCall 236 = .ok (.aload_n 0, 1) := by decide +kernel
theorem dX9_lookCall_237 : decode cX9_lookCall 237 = .ok (.iload 5, 2) := by decide +kernel
theorem dX9_lookCall_239 : decode cX9_lookCall 239 = .ok (.invokevirtual 351, 3) := by decide +kernel
theorem dX9_lookCall_242 : decode cX9_lookCall 242 = .ok (.iinc 5 1, 3) := by decide +kernel
theorem dX9_lookCall_245 : decode cX9_lookCall 245 = .ok (.goto (-16), 3) := by decide +kernel
theorem dX9_lookCall_248 : decode cX9_lookCall 248 = .ok (.iconst 0, 1) := by decide +kernel
theorem dX9_lookCall_249 : decode cX9_lookCall 249 = .ok (.ireturn, 1) := by decide +kernel
theorem dX9_mostOf_0 : decode cX9_mostOf 0 = .ok (.iload_n 0, 1) := by decide +kernel
theorem dX9_mostOf_1 : decode cX9_mostOf 1 = .ok (.bipush 8, 2) := by decide +kernel
theorem dX9_mostOf_3 : decode cX9_mostOf 3 = .ok (.if_icmp .ne 9, 3) := by decide +kernel
theorem dX9_mostOf_6 : decode cX9_mostOf 6 = .ok (.ldc2_w 187, 3) := by decide +kernel
theorem dX9_mostOf_9 : decode cX9_mostOf 9 = .ok (.goto 11, 3) := by decide +kernel
theorem dX9_mostOf_12 : decode cX9_mostOf 12 = .ok (.lconst 1, 1) := by decide +kernel
theorem dX9_mostOf_13 : decode cX9_mostOf 13 = .ok (.bipush 8, 2) := by decide +kernel
theorem dX9_mostOf_15 : decode cX9_mostOf 15 = .ok (.iload_n 0, 1) := by decide +kernel
theorem dX9_mostOf_16 : decode cX9_mostOf 16 = .ok (.imul, 1) := by decide +kernel
theorem dX9_mostOf_17 : decode cX9_mostOf 17 = .ok (.lshl, 1) := by decide +kernel
theorem dX9_mostOf_18 : decode cX9_mostOf 18 = .ok (.lconst 1, 1) := by decide +kernel
theorem dX9_mostOf_19 : decode cX9_mostOf 19 = .ok (.lsub, 1) := by decide +kernel
theorem dX9_mostOf_20 : decode cX9_mostOf 20 = .ok (.lreturn, 1) := by decide +kernel
theorem dX9_lookLoad_0 : decode cX9_lookLoad 0 = .ok (.aload_n 0, 1) := by decide +kernel
theorem dX9_lookLoad_1 : decode cX9_lookLoad 1 = .ok (.getfield 16, 3) := by decide +kernel
theorem dX9_lookLoad_4 : decode cX9_lookLoad 4 = .ok (.iload_n 1, 1) := by decide +kernel
theorem dX9_lookLoad_5 : decode cX9_lookLoad 5 = .ok (.iaload, 1) := by decide +kernel
theorem dX9_lookLoad_6 : decode cX9_lookLoad 6 = .ok (.istore_n 3, 1) := by decide +kernel
theorem dX9_lookLoad_7 : decode cX9_lookLoad 7 = .ok (.aload_n 0, 1) := by decide +kernel
theorem dX9_lookLoad_8 : decode cX9_lookLoad 8 = .ok (.iload_n 1, 1) := by decide +kernel
theorem dX9_lookLoad_9 : decode cX9_lookLoad 9 = .ok (.invokevirtual 273, 3) := by decide +kernel
theorem dX9_lookLoad_12 : decode cX9_lookLoad 12 = .ok (.istore 4, 2) := by decide +kernel
theorem dX9_lookLoad_14 : decode cX9_lookLoad 14 = .ok (.aload_n 0, 1) := by decide +kernel
theorem dX9_lookLoad_15 : decode cX9_lookLoad 15 = .ok (.getfield 106, 3) := by decide +kernel
theorem dX9_lookLoad_18 : decode cX9_lookLoad 18 = .ok (.iload_n 3, 1) := by decide +kernel
theorem dX9_lookLoad_19 : decode cX9_lookLoad 19 = .ok (.iaload, 1) := by decide +kernel
theorem dX9_lookLoad_20 : decode cX9_lookLoad 20 = .ok (.ifCond .ne 5, 3) := by decide +kernel
theorem dX9_lookLoad_23 : decode cX9_lookLoad 23 = .ok (.iconst 2, 1) := by decide +kernel
theorem dX9_lookLoad_24 : decode cX9_lookLoad 24 = .ok (.ireturn, 1) := by decide +kernel
theorem dX9_lookLoad_25 : decode cX9_lookLoad 25 = .ok (.aload_n 0, 1) := by decide +kernel
theorem dX9_lookLoad_26 : decode cX9_lookLoad 26 = .ok (.iload_n 3, 1) := by decide +kernel
theorem dX9_lookLoad_27 : decode cX9_lookLoad 27 = .ok (.aload_n 0, 1) := by decide +kernel
theorem dX9_lookLoad_28 : decode cX9_lookLoad 28 = .ok (.getfield 19, 3) := by decide +kernel
theorem dX9_lookLoad_31 : decode cX9_lookLoad 31 = .ok (.iload_n 1, 1) := by decide +kernel
theorem dX9_lookLoad_32 : decode cX9_lookLoad 32 = .ok (.iaload, 1) := by decide +kernel
theorem dX9_lookLoad_33 : decode cX9_lookLoad 33 = .ok (.iload 4, 2) := by decide +kernel
theorem dX9_lookLoad_35 : decode cX9_lookLoad 35 = .ok (.iconst 0, 1) := by decide +kernel
theorem dX9_lookLoad_36 : decode cX9_lookLoad 36 = .ok (.invokevirtual 466, 3) := by decide +kernel
theorem dX9_lookLoad_39 : decode cX9_lookLoad 39 = .ok (.istore 5, 2) := by decide +kernel
theorem dX9_lookLoad_41 : decode cX9_lookLoad 41 = .ok (.iload 5, 2) := by decide +kernel
theorem dX9_lookLoad_43 : decode cX9_lookLoad 43 = .ok (.ifCond .le 6, 3) := by decide +kernel
theorem dX9_lookLoad_46 : decode cX9_lookLoad 46 = .ok (.iload 5, 2) := by decide +kernel
theorem dX9_lookLoad_48 : decode cX9_lookLoad 48 = .ok (.ireturn, 1) := by decide +kernel
theorem dX9_lookLoad_49 : decode cX9_lookLoad 49 = .ok (.aload_n 0, 1) := by decide +kernel
theorem dX9_lookLoad_50 : decode cX9_lookLoad 50 = .ok (.getfield 106, 3) := by decide +kernel
theorem dX9_lookLoad_53 : decode cX9_lookLoad 53 = .ok (.iload_n 3, 1) := by decide +kernel
theorem dX9_lookLoad_54 : decode cX9_lookLoad 54 = .ok (.iaload, 1) := by decide +kernel
theorem dX9_lookLoad_55 : decode cX9_lookLoad 55 = .ok (.iconst 3, 1) := by decide +kernel
theorem dX9_lookLoad_56 : decode cX9_lookLoad 56 = .ok (.if_icmp .ne 85, 3) := by decide +kernel
theorem dX9_lookLoad_59 : decode cX9_lookLoad 59 = .ok (.aload_n 0, 1) := by decide +kernel
theorem dX9_lookLoad_60 : decode cX9_lookLoad 60 = .ok (.getfield 109, 3) := by decide +kernel
theorem dX9_lookLoad_63 : decode cX9_lookLoad 63 = .ok (.iload_n 3, 1) := by decide +kernel
theorem dX9_lookLoad_64 : decode cX9_lookLoad 64 = .ok (.laload, 1) := by decide +kernel
theorem dX9_lookLoad_65 : decode cX9_lookLoad 65 = .ok (.l2i, 1) := by decide +kernel
theorem dX9_lookLoad_66 : decode cX9_lookLoad 66 = .ok (.aload_n 0, 1) := by decide +kernel
theorem dX9_lookLoad_67 : decode cX9_lookLoad 67 = .ok (.getfield 19, 3) := by decide +kernel
theorem dX9_lookLoad_70 : decode cX9_lookLoad 70 = .ok (.iload_n 1, 1) := by decide +kernel
theorem dX9_lookLoad_71 : decode cX9_lookLoad 71 = .ok (.iaload, 1) := by decide +kernel
theorem dX9_lookLoad_72 : decode cX9_lookLoad 72 = .ok (.iadd, 1) := by decide +kernel
theorem dX9_lookLoad_73 : decode cX9_lookLoad 73 = .ok (.sipush 512, 3) := by decide +kernel
theorem dX9_lookLoad_76 : decode cX9_lookLoad 76 = .ok (.iadd, 1) := by decide +kernel
theorem dX9_lookLoad_77 : decode cX9_lookLoad 77 = .ok (.istore 6, 2) := by decide +kernel
theorem dX9_lookLoad_79 : decode cX9_lookLoad 79 = .ok (.bipush 11, 2) := by decide +kernel
theorem dX9_lookLoad_81 : decode cX9_lookLoad 81 = .ok (.iload 6, 2) := by decide +kernel
theorem dX9_lookLoad_83 : decode cX9_lookLoad 83 = .ok (.bipush 8, 2) := by decide +kernel
theorem dX9_lookLoad_85 : decode cX9_lookLoad 85 = .ok (.idiv, 1) := by decide +kernel
theorem dX9_lookLoad_86 : decode cX9_lookLoad 86 = .ok (.iadd, 1) := by decide +kernel
theorem dX9_lookLoad_87 : decode cX9_lookLoad 87 = .ok (.istore 7, 2) := by decide +kernel
theorem dX9_lookLoad_89 : decode cX9_lookLoad 89 = .ok (.iload 4, 2) := by decide +kernel
theorem dX9_lookLoad_91 : decode cX9_lookLoad 91 = .ok (.bipush 8, 2) := by decide +kernel
theorem dX9_lookLoad_93 : decode cX9_lookLoad 93 = .ok (.if_icmp .ne 35, 3) := by decide +kernel
theorem dX9_lookLoad_96 : decode cX9_lookLoad 96 = .ok (.iload 6, 2) := by decide +kernel
theorem dX9_lookLoad_98 : decode cX9_lookLoad 98 = .ok (.bipush 8, 2) := by decide +kernel
theorem dX9_lookLoad_100 : decode cX9_lookLoad 100 = .ok (.irem, 1) := by decide +kernel
theorem dX9_lookLoad_101 : decode cX9_lookLoad 101 = .ok (.ifCond .ne 27, 3) := by decide +kernel
theorem dX9_lookLoad_104 : decode cX9_lookLoad 104 = .ok (.aload_n 0, 1) := by decide +kernel
theorem dX9_lookLoad_105 : decode cX9_lookLoad 105 = .ok (.getfield 106, 3) := by decide +kernel
theorem dX9_lookLoad_108 : decode cX9_lookLoad 108 = .ok (.iload 7, 2) := by decide +kernel
theorem dX9_lookLoad_110 : decode cX9_lookLoad 110 = .ok (.iaload, 1) := by decide +kernel
theorem dX9_lookLoad_111 : decode cX9_lookLoad 111 = .ok (.ifCond .eq 17, 3) := by decide +kernel
theorem dX9_lookLoad_114 : decode cX9_lookLoad 114 = .ok (.aload_n 0, 1) := by decide +kernel
theorem dX9_lookLoad_115 : decode cX9_lookLoad 115 = .ok (.iload 7, 2) := by decide +kernel
theorem dX9_lookLoad_117 : decode cX9_lookLoad 117 = .ok (.aload_n 0, 1) := by decide +kernel
theorem dX9_lookLoad_118 : decode cX9_lookLoad 118 = .ok (.getfield 13, 3) := by decide +kernel
theorem dX9_lookLoad_121 : decode cX9_lookLoad 121 = .ok (.iload_n 1, 1) := by decide +kernel
theorem dX9_lookLoad_122 : decode cX9_lookLoad 122 = .ok (.iaload, 1) := by decide +kernel
theorem dX9_lookLoad_123 : decode cX9_lookLoad 123 = .ok (.invokevirtual 409, 3) := by decide +kernel
theorem dX9_lookLoad_126 : decode cX9_lookLoad 126 = .ok (.iconst 0, 1) := by decide +kernel
theorem dX9_lookLoad_127 : decode cX9_lookLoad 127 = .ok (.ireturn, 1) := by decide +kernel
theorem dX9_lookLoad_128 : decode cX9_lookLoad 128 = .ok (.aload_n 0, 1) := by decide +kernel
theorem dX9_lookLoad_129 : decode cX9_lookLoad 129 = .ok (.iload 6, 2) := by decide +kernel
theorem dX9_lookLoad_131 : decode cX9_lookLoad 131 = .ok (.iload 4, 2) := by decide +kernel
theorem dX9_lookLoad_133 : decode cX9_lookLoad 133 = .ok (.invokevirtual 470, 3) := by decide +kernel
theorem dX9_lookLoad_136 : decode cX9_lookLoad 136 = .ok (.ifCond .ne 5, 3) := by decide +kernel
theorem dX9_lookLoad_139 : decode cX9_lookLoad 139 = .ok (.iconst 4, 1) := by decide +kernel
theorem dX9_lookLoad_140 : decode cX9_lookLoad 140 = .ok (.ireturn, 1) := by decide +kernel
theorem dX9_lookLoad_141 : decode cX9_lookLoad 141 = .ok (.aload_n 0, 1) := by decide +kernel
theorem dX9_lookLoad_142 : decode cX9_lookLoad 142 = .ok (.aload_n 0, 1) := by decide +kernel
theorem dX9_lookLoad_143 : decode cX9_lookLoad 143 = .ok (.getfield 13, 3) := by decide +kernel
theorem dX9_lookLoad_146 : decode cX9_lookLoad 146 = .ok (.iload_n 1, 1) := by decide +kernel
theorem dX9_lookLoad_147 : decode cX9_lookLoad 147 = .ok (.iaload, 1) := by decide +kernel
theorem dX9_lookLoad_148 : decode cX9_lookLoad 148 = .ok (.lconst 0, 1) := by decide +kernel
theorem dX9_lookLoad_149 : decode cX9_lookLoad 149 = .ok (.iload_n 2, 1) := by decide +kernel
theorem dX9_lookLoad_150 : decode cX9_lookLoad 150 = .ok (.ifCond .eq 9, 3) := by decide +kernel
theorem dX9_lookLoad_153 : decode cX9_lookLoad 153 = .ok (.ldc2_w 187, 3) := by decide +kernel
theorem dX9_lookLoad_156 : decode cX9_lookLoad 156 = .ok (.goto 8, 3) := by decide +kernel
theorem dX9_lookLoad_159 : decode cX9_lookLoad 159 = .ok (.iload 4, 2) := by decide +kernel
theorem dX9_lookLoad_161 : decode cX9_lookLoad 161 = .ok (.invokestatic 473, 3) := by decide +kernel
theorem dX9_lookLoad_164 : decode cX9_lookLoad 164 = .ok (.invokevirtual 393, 3) := by decide +kernel
theorem dX9_lookLoad_167 : decode cX9_lookLoad 167 = .ok (.iconst 0, 1) := by decide +kernel
theorem dX9_lookLoad_168 : decode cX9_lookLoad 168 = .ok (.ireturn, 1) := by decide +kernel
theorem dX9_put__0 : decode cX9_put_ 0 = .ok (.iload_n 1, 1) := by decide +kernel
theorem dX9_put__1 : decode cX9_put_ 1 = .ok (.istore_n 3, 1) := by decide +kernel
theorem dX9_put__2 : decode cX9_put_ 2 = .ok (.iload_n 3, 1) := by decide +kernel
theorem dX9_put__3 : decode cX9_put_ 3 = .ok (.iload_n 1, 1) := by decide +kernel
theorem dX9_put__4 : decode cX9_put_ 4 = .ok (.iload_n 2, 1) := by decide +kernel
theorem dX9_put__5 : decode cX9_put_ 5 = .ok (.iadd, 1) := by decide +kernel
theorem dX9_put__6 : decode cX9_put_ 6 = .ok (.if_icmp .ge 27, 3) := by decide +kernel
theorem dX9_put__9 : decode cX9_put_ 9 = .ok (.aload_n 0, 1) := by decide +kernel
theorem dX9_put__10 : decode cX9_put_ 10 = .ok (.bipush 11, 2) := by decide +kernel
theorem dX9_put__12 : decode cX9_put_ 12 = .ok (.iload_n 3, 1) := by decide +kernel
theorem dX9_put__13 : decode cX9_put_ 13 = .ok (.bipush 8, 2) := by decide +kernel
theorem dX9_put__15 : decode cX9_put_ 15 = .ok (.idiv, 1) := by decide +kernel
theorem dX9_put__16 : decode cX9_put_ 16 = .ok (.iadd, 1) := by decide +kernel
theorem dX9_put__17 : decode cX9_put_ 17 = .ok (.invokevirtual 351, 3) := by decide +kernel
theorem dX9_put__20 : decode cX9_put_ 20 = .ok (.aload_n 0, 1) := by decide +kernel
theorem dX9_put__21 : decode cX9_put_ 21 = .ok (.getfield 121, 3) := by decide +kernel
theorem dX9_put__24 : decode cX9_put_ 24 = .ok (.iload_n 3, 1) := by decide +kernel
theorem dX9_put__25 : decode cX9_put_ 25 = .ok (.iconst 1, 1) := by decide +kernel
theorem dX9_put__26 : decode cX9_put_ 26 = .ok (.bastore, 1) := by decide +kernel
theorem dX9_put__27 : decode cX9_put_ 27 = .ok (.iinc 3 1, 3) := by decide +kernel
theorem dX9_put__30 : decode cX9_put_ 30 = .ok (.goto (-28), 3) := by decide +kernel
theorem dX9_put__33 : decode cX9_put_ 33 = .ok (.return_, 1) := by decide +kernel
-- JudgedCodeModel.lookJump
def f_X9_lookJump_354 (S : sh) (o0 : Nat) (x1 : Int32) (x9 : Int32) (D : dt) : Option (Int32 × dt) := cq (f_X9_copy S o0 (75 : Int32) (0 : Int32) D) fun _ D129 => if x9 = 0 then (some ((0 : Int32), D129)) else (cq (f_X9_goWay S o0 x1 (1 : Int32) D129) fun r132 D133 => if r132 = 0 then (some ((0 : Int32), D133)) else (rq (gR D133 o0 4) fun o135 => ix x1 (sA S o135) <| cq (f_X9_goTo S o0 ((x1 + (1 : Int32)) + (gI D133 o135 x1.toNatClampNeg)) D133) fun _ D141 => some ((0 : Int32), D141)))
def f_X9_lookJump_333 (S : sh) (o0 : Nat) (x1 : Int32) (x8 : Int32) (x9 : Int32) (D : dt) : Option (Int32 × dt) := if x8 = 0 then (f_X9_lookJump_354 S o0 x1 x9 D) else (cq (f_X9_goWay S o0 x1 (0 : Int32) D) fun r144 D145 => if r144 = 0 then (f_X9_lookJump_354 S o0 x1 x9 D145) else (cq (f_X9_goTo S o0 (x1 + (1 : Int32)) D145) fun _ D148 => f_X9_lookJump_354 S o0 x1 x9 D148))
def f_X9_lookJump_308 (S : sh) (o0 : Nat) (x1 : Int32) (x8 : Int32) (x9 : Int32) (D : dt) : Option (Int32 × dt) := if x9 = 0 then (f_X9_lookJump_333 S o0 x1 x8 x9 D) else (rq (gR D o0 4) fun o150 => ix x1 (sA S o150) <| cq (f_X9_isWay S o0 ((x1 + (1 : Int32)) + (gI D o150 x1.toNatClampNeg)) D) fun r156 D157 => if r156 = 0 then (some ((6 : Int32), D157)) else (f_X9_lookJump_333 S o0 x1 x8 x9 D157))
def f_X9_lookJump_253 (S : sh) (o0 : Nat) (x1 : Int32) (os0 : Nat) (xs1 : Int32) (D : dt) : Option (Int32 × dt) := nm (pI D os0 53 xs1) fun D159 => cq (f_X9_copy S o0 (0 : Int32) (75 : Int32) D159) fun _ D161 => cq (f_X9_goWay S o0 x1 (0 : Int32) D161) fun r163 D164 => cq (f_X9_copy S o0 (75 : Int32) (0 : Int32) D164) fun _ D166 => cq (f_X9_goWay S o0 x1 (1 : Int32) D166) fun r168 D169 => cq (f_X9_copy S o0 (75 : Int32) (0 : Int32) D169) fun _ D171 => if r163 = 0 then (f_X9_lookJump_308 S o0 x1 r163 r168 D171) else (cq (f_X9_isWay S o0 (x1 + (1 : Int32)) D171) fun r174 D175 => if r174 = 0 then (some ((6 : Int32), D175)) else (f_X9_lookJump_308 S o0 x1 r163 r168 D175))
def f_X9_lookJump_210 (S : sh) (o0 : Nat) (x1 : Int32) (os0 : Nat) (D : dt) : Option (Int32 × dt) := f_X9_lookJump_253 S o0 x1 os0 (0 : Int32) D
def f_X9_lookJump_189 (S : sh) (o0 : Nat) (x1 : Int32) (x3 : Int32) (x5 : Int32) (x6 : Int32) (xs0 : Int32) (D : dt) : Option (Int32 × dt) := if x6 = 0 then (if x3 = 0 then (f_X9_lookJump_210 S o0 x1 o0 D) else (if xs0 = 0 then (f_X9_lookJump_210 S o0 x1 o0 D) else (if (lg_cmp (gL D o0 51) (gL D o0 52)) = 0 then (f_X9_lookJump_253 S o0 x1 o0 (1 : Int32) D) else (rq (gR D o0 41) fun o181 => ix x5 (sA S o181) <| rq (gR D o0 42) fun o186 => ix x5 (sA S o186) <| if (lg_cmp (gL D o181 x5.toNatClampNeg) (gL D o186 x5.toNatClampNeg)) = 0 then (f_X9_lookJump_253 S o0 x1 o0 (2 : Int32) D) else (f_X9_lookJump_253 S o0 x1 o0 (0 : Int32) D))))) else (f_X9_lookJump_253 S o0 x1 o0 (3 : Int32) D)
def f_X9_lookJump_184 (S : sh) (o0 : Nat) (x1 : Int32) (x3 : Int32) (x5 : Int32) (x6 : Int32) (D : dt) : Option (Int32 × dt) := f_X9_lookJump_189 S o0 x1 x3 x5 x6 (1 : Int32) D
def f_X9_lookJump_152 (S : sh) (o0 : Nat) (x1 : Int32) (x2 : Int32) (x3 : Int32) (x5 : Int32) (x6 : Int32) (D : dt) : Option (Int32 × dt) := if x2 = (1 : Int32) then (f_X9_lookJump_184 S o0 x1 x3 x5 x6 D) else (if x2 = (5 : Int32) then (f_X9_lookJump_184 S o0 x1 x3 x5 x6 D) else (if x2 = (2 : Int32) then (f_X9_lookJump_184 S o0 x1 x3 x5 x6 D) else (if x2 = (3 : Int32) then (f_X9_lookJump_184 S o0 x1 x3 x5 x6 D) else (if x2 = (10 : Int32) then (f_X9_lookJump_184 S o0 x1 x3 x5 x6 D) else (if x2 = (11 : Int32) then (f_X9_lookJump_184 S o0 x1 x3 x5 x6 D) else (f_X9_lookJump_189 S o0 x1 x3 x5 x6 (0 : Int32) D))))))
def f_X9_lookJump_124 (S : sh) (o0 : Nat) (x1 : Int32) (x2 : Int32) (x3 : Int32) (x5 : Int32) (xs0 : Int32) (D : dt) : Option (Int32 × dt) := if xs0 = 0 then (rq (gR D o0 40) fun o199 => ix x5 (sA S o199) <| if (gI D o199 x5.toNatClampNeg) = (1 : Int32) then (if (gI D o0 50) = (1 : Int32) then (f_X9_lookJump_152 S o0 x1 x2 x3 x5 xs0 D) else (some ((3 : Int32), D))) else (some ((3 : Int32), D))) else (f_X9_lookJump_152 S o0 x1 x2 x3 x5 xs0 D)
def f_X9_lookJump_123 (S : sh) (o0 : Nat) (x1 : Int32) (x2 : Int32) (x3 : Int32) (x5 : Int32) (D : dt) : Option (Int32 × dt) := f_X9_lookJump_124 S o0 x1 x2 x3 x5 (0 : Int32) D
def f_X9_lookJump_119 (S : sh) (o0 : Nat) (x1 : Int32) (x2 : Int32) (x3 : Int32) (x5 : Int32) (D : dt) : Option (Int32 × dt) := f_X9_lookJump_124 S o0 x1 x2 x3 x5 (1 : Int32) D
def f_X9_lookJump_45 (S : sh) (o0 : Nat) (x1 : Int32) (x2 : Int32) (x3 : Int32) (xs0 : Int32) (D : dt) : Option (Int32 × dt) := rq (gR D o0 2) fun o206 => ix x1 (sA S o206) <| nm (gI D o206 x1.toNatClampNeg) fun y211 => cq (f_X9_takeSecond S o0 x1 D) fun _ D213 => rq (gR D213 o0 40) fun o214 => ix y211 (sA S o214) <| if (gI D213 o214 y211.toNatClampNeg) = 0 then (some ((2 : Int32), D213)) else (if (gI D213 o0 50) = 0 then (some ((2 : Int32), D213)) else (rq (gR D213 o0 40) fun o221 => ix y211 (sA S o221) <| if (gI D213 o221 y211.toNatClampNeg) = (6 : Int32) then (if xs0 = 0 then (rq (gR D213 o0 5) fun o228 => ix x1 (sA S o228) <| if (gI D213 o228 x1.toNatClampNeg) = 0 then (if x3 = 0 then (f_X9_lookJump_123 S o0 x1 x2 x3 y211 D213) else (if x2 = (1 : Int32) then (f_X9_lookJump_119 S o0 x1 x2 x3 y211 D213) else (if x2 = (5 : Int32) then (f_X9_lookJump_119 S o0 x1 x2 x3 y211 D213) else (f_X9_lookJump_123 S o0 x1 x2 x3 y211 D213)))) else (f_X9_lookJump_123 S o0 x1 x2 x3 y211 D213)) else (f_X9_lookJump_123 S o0 x1 x2 x3 y211 D213)) else (f_X9_lookJump_123 S o0 x1 x2 x3 y211 D213)))
def f_X9_lookJump_27 (S : sh) (o0 : Nat) (x1 : Int32) (x2 : Int32) (xs0 : Int32) (D : dt) : Option (Int32 × dt) := rq (gR D o0 1) fun o237 => ix x1 (sA S o237) <| if ((gI D o237 x1.toNatClampNeg) &&& (8 : Int32)) = 0 then (f_X9_lookJump_45 S o0 x1 x2 xs0 (0 : Int32) D) else (f_X9_lookJump_45 S o0 x1 x2 xs0 (1 : Int32) D)
def f_X9_lookJump (S : sh) (o0 : Nat) (x1 : Int32) (D : dt) : Option (Int32 × dt) := rq (gR D o0 1) fun o243 => ix x1 (sA S o243) <| nm ((gI D o243 x1.toNatClampNeg) >>> ((4 : Int32) &&& 31)) fun y248 => rq (gR D o0 1) fun o249 => ix x1 (sA S o249) <| if ((gI D o249 x1.toNatClampNeg) &&& (7 : Int32)) = (5 : Int32) then (f_X9_lookJump_27 S o0 x1 y248 (1 : Int32) D) else (f_X9_lookJump_27 S o0 x1 y248 (0 : Int32) D)
-- JudgedCodeModel.access
def f_X9_access (S : sh) (o0 : Nat) (x1 : Int32) (x2 : Int32) (x3 : Int32) (x4 : Int32) (D : dt) : Option (Int32 × dt) := rq (gR D o0 41) fun o39 => ix x1 (sA S o39) <| nm ((gL D o39 x1.toNatClampNeg) + x2.toInt64) fun y44 => rq (gR D o0 42) fun o45 => ix x1 (sA S o45) <| nm (((gL D o45 x1.toNatClampNeg) + x2.toInt64) + x3.toInt64) fun y50 => rq (gR D o0 40) fun o51 => ix x1 (sA S o51) <| if (gI D o51 x1.toNatClampNeg) = 2 then (if x4 = 0 then (if (lg_cmp y44 (0 : Int64)) < 0 then (some ((4 : Int32), D)) else (if 0 < (lg_cmp y50 ((gI D o0 7).toInt64)) then (some ((4 : Int32), D)) else (some ((0 : Int32), D)))) else (some ((4 : Int32), D))) else if (gI D o51 x1.toNatClampNeg) = 3 then (if (lg_cmp y44 (-512 : Int64)) < 0 then (some ((4 : Int32), D)) else (if 0 < (lg_cmp (y44 + x3.toInt64) (0 : Int64)) then (some ((4 : Int32), D)) else (some ((0 : Int32), D)))) else if (gI D o51 x1.toNatClampNeg) = 4 then (some ((3 : Int32), D)) else if (gI D o51 x1.toNatClampNeg) = 5 then (if (lg_cmp y44 (0 : Int64)) < 0 then (some ((4 : Int32), D)) else (rq (gR D o0 12) fun o66 => rq (gR D o0 43) fun o70 => ix x1 (sA S o70) <| ix (gI D o70 x1.toNatClampNeg) (sA S o66) <| if 0 < (lg_cmp y50 ((gI D o66 (gI D o70 x1.toNatClampNeg).toNatClampNeg).toInt64)) then (some ((4 : Int32), D)) else (some ((0 : Int32), D)))) else (some ((3 : Int32), D))
-- JudgedCodeModel.areKnown
def f_X9_areKnown_32 (S : sh) (k5 : Nat → Int32 → Int32 → Int32 → Int32 → dt → Option (Int32 × dt)) (o0 : Nat) (x1 : Int32) (x2 : Int32) (x4 : Int32) (xs0 : Int32) (D : dt) : Option (Int32 × dt) := nm (x4 + 1) fun y12 => k5 o0 x1 x2 xs0 y12 D
def f_X9_areKnown_31 (S : sh) (k5 : Nat → Int32 → Int32 → Int32 → Int32 → dt → Option (Int32 × dt)) (o0 : Nat) (x1 : Int32) (x2 : Int32) (x4 : Int32) (D : dt) : Option (Int32 × dt) := f_X9_areKnown_32 S k5 o0 x1 x2 x4 (0 : Int32) D
def f_X9_areKnown_5 (S : sh) : Nat → Nat → Int32 → Int32 → Int32 → Int32 → dt → Option (Int32 × dt)
  | 0, _, _, _, _, _, _ => none
  | n + 1, o0, x1, x2, x3, x4, D => if (x1 + x2) ≤ x4 then (ck (x3 = 0 ∨ x3 = 1) <| some (x3, D)) else (if x3 = 0 then (f_X9_areKnown_31 S (f_X9_areKnown_5 S n) o0 x1 x2 x4 D) else (rq (gR D o0 45) fun o16 => ix x4 (sA S o16) <| if (gI D o16 x4.toNatClampNeg) = 0 then (f_X9_areKnown_31 S (f_X9_areKnown_5 S n) o0 x1 x2 x4 D) else (f_X9_areKnown_32 S (f_X9_areKnown_5 S n) o0 x1 x2 x4 (1 : Int32) D)))
def f_X9_areKnown (S : sh) (o0 : Nat) (x1 : Int32) (x2 : Int32) (D : dt) : Option (Int32 × dt) := nm ((1 : Int32)) fun y22 => f_X9_areKnown_5 S LF o0 x1 x2 y22 x1 D
-- JudgedCodeModel.reads
def f_X9_reads_47 (S : sh) (x3 : Int32) (xs0 : Int32) (D : dt) : Option (Int32 × dt) := if xs0 = 0 then (some (x3, D)) else (some ((4 : Int32), D))
def f_X9_reads_46 (S : sh) (x3 : Int32) (D : dt) : Option (Int32 × dt) := f_X9_reads_47 S x3 (0 : Int32) D
def f_X9_reads (S : sh) (o0 : Nat) (x1 : Int32) (x2 : Int32) (D : dt) : Option (Int32 × dt) := cq (f_X9_access S o0 x1 (0 : Int32) x2 (0 : Int32) D) fun r23 D24 => if r23 = 0 then (rq (gR D24 o0 40) fun o26 => ix x1 (sA S o26) <| if (gI D24 o26 x1.toNatClampNeg) = (3 : Int32) then (rq (gR D24 o0 41) fun o32 => ix x1 (sA S o32) <| cq (f_X9_areKnown S o0 (((gL D24 o32 x1.toNatClampNeg).toInt32) + (512 : Int32)) x2 D24) fun r38 D39 => if r38 = 0 then (f_X9_reads_47 S r23 (1 : Int32) D39) else (f_X9_reads_46 S r23 D39)) else (f_X9_reads_46 S r23 D24)) else (f_X9_reads_46 S r23 D24)
-- JudgedCodeModel.lookCall
def f_X9_lookCall_229 (S : sh) : Nat → Nat → Int32 → dt → Option (Int32 × dt)
  | 0, _, _, _ => none
  | n + 1, o0, x5, D => if (6 : Int32) ≤ x5 then (some ((0 : Int32), D)) else (cq (f_X9_forget S o0 x5 D) fun _ D92 => nm (x5 + 1) fun y93 => f_X9_lookCall_229 S n o0 y93 D92)
def f_X9_lookCall_226 (S : sh) (o0 : Nat) (D : dt) : Option (Int32 × dt) := nm ((1 : Int32)) fun y94 => f_X9_lookCall_229 S LF o0 y94 D
def f_X9_lookCall_181 (S : sh) (o0 : Nat) (x1 : Int32) (x2 : Int32) (x4 : Int32) (D : dt) : Option (Int32 × dt) := if x2 = (1 : Int32) then (cq (f_X9_forget S o0 (0 : Int32) D) fun _ D99 => rq (gR D99 o0 40) fun o100 => ix (0 : Int32) (sA S o100) <| nm (pI D99 o100 (0 : Int32).toNatClampNeg (6 : Int32)) fun D105 => rq (gR D105 o0 43) fun o106 => ix (0 : Int32) (sA S o106) <| nm (pI D105 o106 (0 : Int32).toNatClampNeg x4) fun D111 => rq (gR D111 o0 44) fun o112 => ix (0 : Int32) (sA S o112) <| nm (pI D111 o112 (0 : Int32).toNatClampNeg x1) fun D117 => f_X9_lookCall_226 S o0 D117) else (cq (f_X9_number S o0 (0 : Int32) (0 : Int64) (-1 : Int64) D) fun _ D97 => f_X9_lookCall_226 S o0 D97)
def f_X9_lookCall_169 (S : sh) (o0 : Nat) (x1 : Int32) (x2 : Int32) (x4 : Int32) (x5 : Int32) (x6 : Int32) (D : dt) : Option (Int32 × dt) := if 0 < x5 then (some ((4 : Int32), D)) else (if x6 ≤ 0 then (f_X9_lookCall_181 S o0 x1 x2 x4 D) else (some ((4 : Int32), D)))
def f_X9_lookCall_138 (S : sh) (o0 : Nat) (x1 : Int32) (x2 : Int32) (x4 : Int32) (x5 : Int32) (xs0 : Int32) (D : dt) : Option (Int32 × dt) := if x5 = (3 : Int32) then (some ((3 : Int32), D)) else (if xs0 = (3 : Int32) then (some ((3 : Int32), D)) else (if x2 = (2 : Int32) then (rq (gR D o0 40) fun o123 => ix (4 : Int32) (sA S o123) <| if (gI D o123 (4 : Int32).toNatClampNeg) = (1 : Int32) then (f_X9_lookCall_169 S o0 x1 x2 x4 x5 xs0 D) else (some ((3 : Int32), D))) else (f_X9_lookCall_169 S o0 x1 x2 x4 x5 xs0 D)))
def f_X9_lookCall_98 (S : sh) (o0 : Nat) (x1 : Int32) (x2 : Int32) (x4 : Int32) (D : dt) : Option (Int32 × dt) := if (4 : Int32) ≤ x2 then (f_X9_lookCall_181 S o0 x1 x2 x4 D) else (rq (gR D o0 11) fun o130 => ix x4 (sA S o130) <| cq (f_X9_reads S o0 (2 : Int32) (gI D o130 x4.toNatClampNeg) D) fun r136 D137 => if x2 = (2 : Int32) then (rq (gR D137 o0 12) fun o139 => ix x4 (sA S o139) <| cq (f_X9_reads S o0 (3 : Int32) (gI D137 o139 x4.toNatClampNeg) D137) fun r145 D146 => f_X9_lookCall_138 S o0 x1 x2 x4 r136 r145 D146) else (f_X9_lookCall_138 S o0 x1 x2 x4 r136 (0 : Int32) D137))
def f_X9_lookCall_81 (S : sh) (o0 : Nat) (x1 : Int32) (x2 : Int32) (x4 : Int32) (D : dt) : Option (Int32 × dt) := if (4 : Int32) ≤ x2 then (f_X9_lookCall_98 S o0 x1 x2 x4 D) else (rq (gR D o0 40) fun o148 => ix (1 : Int32) (sA S o148) <| if (gI D o148 (1 : Int32).toNatClampNeg) = (4 : Int32) then (f_X9_lookCall_98 S o0 x1 x2 x4 D) else (some ((3 : Int32), D)))
def f_X9_lookCall_33 (S : sh) : Nat → Nat → Int32 → Int32 → Int32 → Int32 → dt → Option (Int32 × dt)
  | 0, _, _, _, _, _, _ => none
  | n + 1, o0, x1, x2, x3, x4, D => if x3 < x4 then (rq (gR D o0 43) fun o155 => ix (1 : Int32) (sA S o155) <| nm (gI D o155 (1 : Int32).toNatClampNeg) fun y160 => if x2 = (6 : Int32) then (rq (gR D o0 40) fun o162 => ix (1 : Int32) (sA S o162) <| if (gI D o162 (1 : Int32).toNatClampNeg) = (1 : Int32) then (f_X9_lookCall_81 S o0 x1 x2 y160 D) else (some ((3 : Int32), D))) else (f_X9_lookCall_81 S o0 x1 x2 y160 D)) else (rq (gR D o0 40) fun o168 => ix x4 (sA S o168) <| if (gI D o168 x4.toNatClampNeg) = 0 then (some ((2 : Int32), D)) else (nm (x4 + 1) fun y174 => f_X9_lookCall_33 S n o0 x1 x2 x3 y174 D))
def f_X9_lookCall_29 (S : sh) (o0 : Nat) (x1 : Int32) (x2 : Int32) (xs0 : Int32) (D : dt) : Option (Int32 × dt) := nm ((1 : Int32)) fun y175 => f_X9_lookCall_33 S LF o0 x1 x2 xs0 y175 D
def f_X9_lookCall (S : sh) (o0 : Nat) (x1 : Int32) (x2 : Int32) (D : dt) : Option (Int32 × dt) := if x2 = (2 : Int32) then (f_X9_lookCall_29 S o0 x1 x2 (4 : Int32) D) else (if x2 = (5 : Int32) then (f_X9_lookCall_29 S o0 x1 x2 (0 : Int32) D) else (if x2 = (6 : Int32) then (f_X9_lookCall_29 S o0 x1 x2 (1 : Int32) D) else (f_X9_lookCall_29 S o0 x1 x2 (2 : Int32) D)))
-- JudgedCodeModel.mostOf
def f_X9_mostOf (x0 : Int32) : Option Int64 := if x0 = (8 : Int32) then (some (-1 : Int64)) else (some ((j_lshl (1 : Int64) ((8 : Int32) * x0)) - (1 : Int64)))
-- JudgedCodeModel.lookLoad
def f_X9_lookLoad_164 (S : sh) (os0 : Nat) (xs1 : Int32) (xs2 : Int64) (xs3 : Int64) (D : dt) : Option (Int32 × dt) := cq (f_X9_number S os0 xs1 xs2 xs3 D) fun _ D73 => some ((0 : Int32), D73)
def f_X9_lookLoad_141 (S : sh) (o0 : Nat) (x1 : Int32) (x2 : Int32) (x4 : Int32) (D : dt) : Option (Int32 × dt) := rq (gR D o0 2) fun o74 => ix x1 (sA S o74) <| if x2 = 0 then (pq (f_X9_mostOf x4) fun r81 => f_X9_lookLoad_164 S o0 (gI D o74 x1.toNatClampNeg) (0 : Int64) r81 D) else (f_X9_lookLoad_164 S o0 (gI D o74 x1.toNatClampNeg) (0 : Int64) (-1 : Int64) D)
def f_X9_lookLoad_128 (S : sh) (o0 : Nat) (x1 : Int32) (x2 : Int32) (x4 : Int32) (x6 : Int32) (D : dt) : Option (Int32 × dt) := cq (f_X9_areKnown S o0 x6 x4 D) fun r83 D84 => if r83 = 0 then (some ((4 : Int32), D84)) else (f_X9_lookLoad_141 S o0 x1 x2 x4 D84)
def f_X9_lookLoad (S : sh) (o0 : Nat) (x1 : Int32) (x2 : Int32) (D : dt) : Option (Int32 × dt) := rq (gR D o0 3) fun o86 => ix x1 (sA S o86) <| nm (gI D o86 x1.toNatClampNeg) fun y91 => cq (f_X9_widthOf S o0 x1 D) fun r93 D94 => rq (gR D94 o0 40) fun o95 => ix y91 (sA S o95) <| if (gI D94 o95 y91.toNatClampNeg) = 0 then (some ((2 : Int32), D94)) else (rq (gR D94 o0 4) fun o101 => ix x1 (sA S o101) <| cq (f_X9_access S o0 y91 (gI D94 o101 x1.toNatClampNeg) r93 (0 : Int32) D94) fun r107 D108 => if r107 ≤ 0 then (rq (gR D108 o0 40) fun o110 => ix y91 (sA S o110) <| if (gI D108 o110 y91.toNatClampNeg) = (3 : Int32) then (rq (gR D108 o0 41) fun o116 => ix y91 (sA S o116) <| rq (gR D108 o0 4) fun o121 => ix x1 (sA S o121) <| nm ((((gL D108 o116 y91.toNatClampNeg).toInt32) + (gI D108 o121 x1.toNatClampNeg)) + (512 : Int32)) fun y126 => nm ((11 : Int32) + (y126 / (8 : Int32))) fun y127 => if r93 = (8 : Int32) then (if (y126 - y126 / (8 : Int32) * (8 : Int32)) = 0 then (rq (gR D108 o0 40) fun o130 => ix y127 (sA S o130) <| if (gI D108 o130 y127.toNatClampNeg) = 0 then (f_X9_lookLoad_128 S o0 x1 x2 r93 y126 D108) else (rq (gR D108 o0 2) fun o136 => ix x1 (sA S o136) <| cq (f_X9_same S o0 y127 (gI D108 o136 x1.toNatClampNeg) D108) fun _ D142 => some ((0 : Int32), D142))) else (f_X9_lookLoad_128 S o0 x1 x2 r93 y126 D108)) else (f_X9_lookLoad_128 S o0 x1 x2 r93 y126 D108)) else (f_X9_lookLoad_141 S o0 x1 x2 r93 D108)) else (some (r107, D108)))
-- JudgedCodeModel.put
def f_X9_put__2 (S : sh) : Nat → Nat → Int32 → Int32 → Int32 → dt → Option (Unit × dt)
  | 0, _, _, _, _, _ => none
  | n + 1, o0, x1, x2, x3, D => if (x1 + x2) ≤ x3 then (some ((), D)) else (cq (f_X9_forget S o0 ((11 : Int32) + (x3 / (8 : Int32))) D) fun _ D13 => rq (gR D13 o0 45) fun o14 => ix x3 (sA S o14) <| nm (pI D13 o14 x3.toNatClampNeg (vp_nar .boolean (1 : Int32))) fun D19 => nm (x3 + 1) fun y20 => f_X9_put__2 S n o0 x1 x2 y20 D19)
def f_X9_put_ (S : sh) (o0 : Nat) (x1 : Int32) (x2 : Int32) (D : dt) : Option (Unit × dt) := f_X9_put__2 S LF o0 x1 x2 x1 D
theorem mk_X9_lookJump : MkV yX9_lookJump RX9 cX9_lookJump 10 (some .int) 1 := ⟨⟨lk_1526, lk_99, lk_121, (tb_in (i := 1527) (by decide +kernel) (by decide +kernel))⟩, by decide +kernel⟩
theorem mk_X9_access : MkV yX9_access RX9 cX9_access 9 (some .int) 4 := ⟨⟨lk_1560, lk_106, lk_121, (tb_in (i := 1561) (by decide +kernel) (by decide +kernel))⟩, by decide +kernel⟩
theorem mk_X9_areKnown : MkV yX9_areKnown RX9 cX9_areKnown 5 (some .boolean) 2 := ⟨⟨lk_1565, lk_107, lk_121, (tb_in (i := 1566) (by decide +kernel) (by decide +kernel))⟩, by decide +kernel⟩
theorem mk_X9_reads : MkV yX9_reads RX9 cX9_reads 5 (some .int) 2 := ⟨⟨lk_1556, lk_105, lk_121, (tb_in (i := 1557) (by decide +kernel) (by decide +kernel))⟩, by decide +kernel⟩
theorem mk_X9_lookCall : MkV yX9_lookCall RX9 cX9_lookCall 7 (some .int) 2 := ⟨⟨lk_1552, lk_104, lk_121, (tb_in (i := 1553) (by decide +kernel) (by decide +kernel))⟩, by decide +kernel⟩
theorem mk_X9_mostOf : MkS yX9_mostOf cX9_mostOf 1 (some .long) 1 := ⟨⟨lk_1572, lk_121, (tb_in (i := 1573) (by decide +kernel) (by decide +kernel))⟩, by decide +kernel⟩
theorem mk_X9_lookLoad : MkV yX9_lookLoad RX9 cX9_lookLoad 8 (some .int) 2 := ⟨⟨lk_1569, lk_108, lk_121, (tb_in (i := 1570) (by decide +kernel) (by decide +kernel))⟩, by decide +kernel⟩
theorem mk_X9_put_ : MkV yX9_put_ RX9 cX9_put_ 4 none 2 := ⟨⟨lk_1582, lk_110, lk_121, (tb_in (i := 1583) (by decide +kernel) (by decide +kernel))⟩, by decide +kernel⟩
section
variable {p : Program} {l : Launch} {e : Env} {R : Room} {s : State} {m : MethodId} {args : Array Value} {below : List Frame} {meth : Method} {c : Code} {H : Heap} {locs : List Loc} {G : va_G} {cA : Nat → ClassId} {S : sh} {D : dt} {ad : Nat → Nat} {A : Nat → Prop}
set_option maxHeartbeats 4000000 in
set_option maxRecDepth 100000 in
theorem w_X9_lookJump_354 {r : Int32} {D' : dt} (hC : Cx RX9 cX9_lookJump 10 (some .int) p s m args meth c) (hR : 4 ≤ R.frames ∧ 99 ≤ R.locals) : ∀ (o0 a0 : Nat) (x1 : Int32) (x9 : Int32) (D : dt) (H : Heap) (locs : List Loc) (ls : Array Slot), Is S ad o0 a0 8 → Wd G cA S D ad A s H locs → lv_has ls 10 [(0, .ref a0), (1, .int x1), (9, .int x9)] → f_X9_lookJump_354 S o0 x1 x9 D = some (r, D') → W p l e R s m args below meth c H locs 0 0 (MQ below (Qn (some (.int r)) True (wpost G cA S D' ad A) A) args s 0 0 A) (F0 m 354 ls []) := by
  obtain ⟨hx, hb, -⟩ := id hC
  intro o0 a0 x1 x9 D H locs ls hi0 hw hl h
  unfold f_X9_lookJump_354 at h
  refine lv_aload_n hx hb dX9_lookJump_354 rfl (lv_at hl 0 rfl) ?_
  refine lv_bipush (v := 75) hx hb dX9_lookJump_355 (by decide) ?_
  refine lv_iconst (v := 0) hx hb dX9_lookJump_357 (by decide) ?_
  obtain ⟨_, D129, hq128, h⟩ := cq_i h
  refine r_cV (st' := []) [.int (75 : Int32), .int (0 : Int32)] [] hC hw kc_8 hi0 (k_X9_copy _ hi0 hq128) mk_X9_copy lk_1528 ⟨Nat.le_trans (by decide) hR.1, Nat.le_trans (by decide) hR.2⟩ ⟨Nat.zero_le _, Nat.zero_le _⟩ rfl hl.1 rfl rfl (Nat.le_of_ble_eq_true rfl) dX9_lookJump_358 (fun hP H locs hw => ?_)
  refine lv_iload hx hb dX9_lookJump_361 (lv_at hl 2 rfl) ?_
  refine lv_if_eq (tgt := 389) hx hb dX9_lookJump_363 (by decide) (fun c130 => ?_) (fun c130 => ?_)
  · have h := i_yes c130 h
    refine lv_iconst (v := 0) hx hb dX9_lookJump_389 (by decide) ?_
    cases h
    exact r_iret hC hw dX9_lookJump_390
  · have h := i_no c130 h
    refine lv_aload_n hx hb dX9_lookJump_366 rfl (lv_at hl 0 rfl) ?_
    refine lv_iload_n hx hb dX9_lookJump_367 rfl (lv_at hl 1 rfl) ?_
    refine lv_iconst (v := 1) hx hb dX9_lookJump_368 (by decide) ?_
    obtain ⟨r132, D133, hq131, h⟩ := cq_i h
    refine r_cV (st' := [.int r132]) [.int x1, .int (1 : Int32)] [] hC hw kc_8 hi0 (k_X9_goWay _ hi0 hq131) mk_X9_goWay lk_1532 ⟨Nat.le_trans (by decide) hR.1, Nat.le_trans (by decide) hR.2⟩ ⟨Nat.zero_le _, Nat.zero_le _⟩ rfl hl.1 rfl rfl (Nat.le_of_ble_eq_true rfl) dX9_lookJump_369 (fun hP H locs hw => ?_)
    refine lv_if_eq (tgt := 389) hx hb dX9_lookJump_372 (by decide) (fun c134 => ?_) (fun c134 => ?_)
    · have h := i_yes c134 h
      refine lv_iconst (v := 0) hx hb dX9_lookJump_389 (by decide) ?_
      cases h
      exact r_iret hC hw dX9_lookJump_390
    · have h := i_no c134 h
      refine lv_aload_n hx hb dX9_lookJump_375 rfl (lv_at hl 0 rfl) ?_
      refine lv_iload_n hx hb dX9_lookJump_376 rfl (lv_at hl 1 rfl) ?_
      refine lv_iconst (v := 1) hx hb dX9_lookJump_377 (by decide) ?_
      refine lv_iadd hx hb dX9_lookJump_378 ?_
      refine lv_aload_n hx hb dX9_lookJump_379 rfl (lv_at hl 0 rfl) ?_
      obtain ⟨o135, ho138, h⟩ := rq_i h
      refine r_getR hC hw kc_8 hi0 4 rfl lk_1073 dX9_lookJump_380 rfl ho138 (fun a136 hi137 => ?_)
      refine lv_iload_n hx hb dX9_lookJump_383 rfl (lv_at hl 1 rfl) ?_
      obtain ⟨hn139, h⟩ := ix_i h
      refine r_iald hC hw hi137 hn139 dX9_lookJump_384 ?_
      refine lv_iadd hx hb dX9_lookJump_385 ?_
      obtain ⟨_, D141, hq140, h⟩ := cq_i h
      refine r_cV (st' := []) [.int ((x1 + (1 : Int32)) + (gI D133 o135 x1.toNatClampNeg))] [] hC hw kc_8 hi0 (k_X9_goTo _ hi0 hq140) mk_X9_goTo lk_1455 ⟨Nat.le_trans (by decide) hR.1, Nat.le_trans (by decide) hR.2⟩ ⟨Nat.zero_le _, Nat.zero_le _⟩ rfl hl.1 rfl rfl (Nat.le_of_ble_eq_true rfl) dX9_lookJump_386 (fun hP H locs hw => ?_)
      refine lv_iconst (v := 0) hx hb dX9_lookJump_389 (by decide) ?_
      cases h
      exact r_iret hC hw dX9_lookJump_390
set_option maxHeartbeats 4000000 in
set_option maxRecDepth 100000 in
theorem w_X9_lookJump_333 {r : Int32} {D' : dt} (hC : Cx RX9 cX9_lookJump 10 (some .int) p s m args meth c) (hR : 4 ≤ R.frames ∧ 99 ≤ R.locals) : ∀ (o0 a0 : Nat) (x1 : Int32) (x8 : Int32) (x9 : Int32) (D : dt) (H : Heap) (locs : List Loc) (ls : Array Slot), Is S ad o0 a0 8 → Wd G cA S D ad A s H locs → lv_has ls 10 [(0, .ref a0), (1, .int x1), (8, .int x8), (9, .int x9)] → f_X9_lookJump_333 S o0 x1 x8 x9 D = some (r, D') → W p l e R s m args below meth c H locs 0 0 (MQ below (Qn (some (.int r)) True (wpost G cA S D' ad A) A) args s 0 0 A) (F0 m 333 ls []) := by
  obtain ⟨hx, hb, -⟩ := id hC
  intro o0 a0 x1 x8 x9 D H locs ls hi0 hw hl h
  unfold f_X9_lookJump_333 at h
  refine lv_iload hx hb dX9_lookJump_333 (lv_at hl 2 rfl) ?_
  refine lv_if_eq (tgt := 354) hx hb dX9_lookJump_335 (by decide) (fun c142 => ?_) (fun c142 => ?_)
  · have h := i_yes c142 h
    exact w_X9_lookJump_354 hC hR o0 a0 x1 x9 _ _ _ _ hi0 hw (lv_sub hl [0, 1, 3] rfl) h
  · have h := i_no c142 h
    refine lv_aload_n hx hb dX9_lookJump_338 rfl (lv_at hl 0 rfl) ?_
    refine lv_iload_n hx hb dX9_lookJump_339 rfl (lv_at hl 1 rfl) ?_
    refine lv_iconst (v := 0) hx hb dX9_lookJump_340 (by decide) ?_
    obtain ⟨r144, D145, hq143, h⟩ := cq_i h
    refine r_cV (st' := [.int r144]) [.int x1, .int (0 : Int32)] [] hC hw kc_8 hi0 (k_X9_goWay _ hi0 hq143) mk_X9_goWay lk_1532 ⟨Nat.le_trans (by decide) hR.1, Nat.le_trans (by decide) hR.2⟩ ⟨Nat.zero_le _, Nat.zero_le _⟩ rfl hl.1 rfl rfl (Nat.le_of_ble_eq_true rfl) dX9_lookJump_341 (fun hP H locs hw => ?_)
    refine lv_if_eq (tgt := 354) hx hb dX9_lookJump_344 (by decide) (fun c146 => ?_) (fun c146 => ?_)
    · have h := i_yes c146 h
      exact w_X9_lookJump_354 hC hR o0 a0 x1 x9 _ _ _ _ hi0 hw (lv_sub hl [0, 1, 3] rfl) h
    · have h := i_no c146 h
      refine lv_aload_n hx hb dX9_lookJump_347 rfl (lv_at hl 0 rfl) ?_
      refine lv_iload_n hx hb dX9_lookJump_348 rfl (lv_at hl 1 rfl) ?_
      refine lv_iconst (v := 1) hx hb dX9_lookJump_349 (by decide) ?_
      refine lv_iadd hx hb dX9_lookJump_350 ?_
      obtain ⟨_, D148, hq147, h⟩ := cq_i h
      refine r_cV (st' := []) [.int (x1 + (1 : Int32))] [] hC hw kc_8 hi0 (k_X9_goTo _ hi0 hq147) mk_X9_goTo lk_1455 ⟨Nat.le_trans (by decide) hR.1, Nat.le_trans (by decide) hR.2⟩ ⟨Nat.zero_le _, Nat.zero_le _⟩ rfl hl.1 rfl rfl (Nat.le_of_ble_eq_true rfl) dX9_lookJump_351 (fun hP H locs hw => ?_)
      exact w_X9_lookJump_354 hC hR o0 a0 x1 x9 _ _ _ _ hi0 hw (lv_sub hl [0, 1, 3] rfl) h
set_option maxHeartbeats 4000000 in
set_option maxRecDepth 100000 in
theorem w_X9_lookJump_308 {r : Int32} {D' : dt} (hC : Cx RX9 cX9_lookJump 10 (some .int) p s m args meth c) (hR : 4 ≤ R.frames ∧ 99 ≤ R.locals) : ∀ (o0 a0 : Nat) (x1 : Int32) (x8 : Int32) (x9 : Int32) (D : dt) (H : Heap) (locs : List Loc) (ls : Array Slot), Is S ad o0 a0 8 → Wd G cA S D ad A s H locs → lv_has ls 10 [(0, .ref a0), (1, .int x1), (8, .int x8), (9, .int x9)] → f_X9_lookJump_308 S o0 x1 x8 x9 D = some (r, D') → W p l e R s m args below meth c H locs 0 0 (MQ below (Qn (some (.int r)) True (wpost G cA S D' ad A) A) args s 0 0 A) (F0 m 308 ls []) := by
  obtain ⟨hx, hb, -⟩ := id hC
  intro o0 a0 x1 x8 x9 D H locs ls hi0 hw hl h
  unfold f_X9_lookJump_308 at h
  refine lv_iload hx hb dX9_lookJump_308 (lv_at hl 3 rfl) ?_
  refine lv_if_eq (tgt := 333) hx hb dX9_lookJump_310 (by decide) (fun c149 => ?_) (fun c149 => ?_)
  · have h := i_yes c149 h
    exact w_X9_lookJump_333 hC hR o0 a0 x1 x8 x9 _ _ _ _ hi0 hw (lv_sub hl [0, 1, 2, 3] rfl) h
  · have h := i_no c149 h
    refine lv_aload_n hx hb dX9_lookJump_313 rfl (lv_at hl 0 rfl) ?_
    refine lv_iload_n hx hb dX9_lookJump_314 rfl (lv_at hl 1 rfl) ?_
    refine lv_iconst (v := 1) hx hb dX9_lookJump_315 (by decide) ?_
    refine lv_iadd hx hb dX9_lookJump_316 ?_
    refine lv_aload_n hx hb dX9_lookJump_317 rfl (lv_at hl 0 rfl) ?_
    obtain ⟨o150, ho153, h⟩ := rq_i h
    refine r_getR hC hw kc_8 hi0 4 rfl lk_1073 dX9_lookJump_318 rfl ho153 (fun a151 hi152 => ?_)
    refine lv_iload_n hx hb dX9_lookJump_321 rfl (lv_at hl 1 rfl) ?_
    obtain ⟨hn154, h⟩ := ix_i h
    refine r_iald hC hw hi152 hn154 dX9_lookJump_322 ?_
    refine lv_iadd hx hb dX9_lookJump_323 ?_
    obtain ⟨r156, D157, hq155, h⟩ := cq_i h
    refine r_cV (st' := [.int r156]) [.int ((x1 + (1 : Int32)) + (gI D o150 x1.toNatClampNeg))] [] hC hw kc_8 hi0 (k_X9_isWay _ hi0 hq155) mk_X9_isWay lk_1520 ⟨Nat.le_trans (by decide) hR.1, Nat.le_trans (by decide) hR.2⟩ ⟨Nat.zero_le _, Nat.zero_le _⟩ rfl hl.1 rfl rfl (Nat.le_of_ble_eq_true rfl) dX9_lookJump_324 (fun hP H locs hw => ?_)
    refine lv_if_ne (tgt := 333) hx hb dX9_lookJump_327 (by decide) (fun c158 => ?_) (fun c158 => ?_)
    · have h := i_no c158 h
      exact w_X9_lookJump_333 hC hR o0 a0 x1 x8 x9 _ _ _ _ hi0 hw (lv_sub hl [0, 1, 2, 3] rfl) h
    · have h := i_yes c158 h
      refine lv_bipush (v := 6) hx hb dX9_lookJump_330 (by decide) ?_
      cases h
      exact r_iret hC hw dX9_lookJump_332
set_option maxHeartbeats 4000000 in
set_option maxRecDepth 100000 in
theorem w_X9_lookJump_253 {r : Int32} {D' : dt} (hC : Cx RX9 cX9_lookJump 10 (some .int) p s m args meth c) (hR : 4 ≤ R.frames ∧ 99 ≤ R.locals) : ∀ (o0 a0 : Nat) (x1 : Int32) (os0 as0 : Nat) (xs1 : Int32) (D : dt) (H : Heap) (locs : List Loc) (ls : Array Slot), Is S ad o0 a0 8 → Is S ad os0 as0 8 → Wd G cA S D ad A s H locs → lv_has ls 10 [(0, .ref a0), (1, .int x1)] → f_X9_lookJump_253 S o0 x1 os0 xs1 D = some (r, D') → W p l e R s m args below meth c H locs 0 0 (MQ below (Qn (some (.int r)) True (wpost G cA S D' ad A) A) args s 0 0 A) (F0 m 253 ls [.int xs1, .ref as0]) := by
  obtain ⟨hx, hb, -⟩ := id hC
  intro o0 a0 x1 os0 as0 xs1 D H locs ls hi0 his0 hw hl h
  unfold f_X9_lookJump_253 at h
  refine r_pI hC hw kc_8 his0 53 rfl lk_1122 rfl rfl rfl dX9_lookJump_253 (fun D159 eD159 H locs hw => ?_)
  have h := nm_i h D159 eD159
  refine lv_aload_n hx hb dX9_lookJump_256 rfl (lv_at hl 0 rfl) ?_
  refine lv_iconst (v := 0) hx hb dX9_lookJump_257 (by decide) ?_
  refine lv_bipush (v := 75) hx hb dX9_lookJump_258 (by decide) ?_
  obtain ⟨_, D161, hq160, h⟩ := cq_i h
  refine r_cV (st' := []) [.int (0 : Int32), .int (75 : Int32)] [] hC hw kc_8 hi0 (k_X9_copy _ hi0 hq160) mk_X9_copy lk_1528 ⟨Nat.le_trans (by decide) hR.1, Nat.le_trans (by decide) hR.2⟩ ⟨Nat.zero_le _, Nat.zero_le _⟩ rfl hl.1 rfl rfl (Nat.le_of_ble_eq_true rfl) dX9_lookJump_260 (fun hP H locs hw => ?_)
  refine lv_aload_n hx hb dX9_lookJump_263 rfl (lv_at hl 0 rfl) ?_
  refine lv_iload_n hx hb dX9_lookJump_264 rfl (lv_at hl 1 rfl) ?_
  refine lv_iconst (v := 0) hx hb dX9_lookJump_265 (by decide) ?_
  obtain ⟨r163, D164, hq162, h⟩ := cq_i h
  refine r_cV (st' := [.int r163]) [.int x1, .int (0 : Int32)] [] hC hw kc_8 hi0 (k_X9_goWay _ hi0 hq162) mk_X9_goWay lk_1532 ⟨Nat.le_trans (by decide) hR.1, Nat.le_trans (by decide) hR.2⟩ ⟨Nat.zero_le _, Nat.zero_le _⟩ rfl hl.1 rfl rfl (Nat.le_of_ble_eq_true rfl) dX9_lookJump_266 (fun hP H locs hw => ?_)
  refine lv_istore (lv' := [(8, .int r163), (0, .ref a0), (1, .int x1)]) hx hb dX9_lookJump_269 hl (by decide) rfl (fun ls hl => ?_)
  refine lv_aload_n hx hb dX9_lookJump_271 rfl (lv_at hl 1 rfl) ?_
  refine lv_bipush (v := 75) hx hb dX9_lookJump_272 (by decide) ?_
  refine lv_iconst (v := 0) hx hb dX9_lookJump_274 (by decide) ?_
  obtain ⟨_, D166, hq165, h⟩ := cq_i h
  refine r_cV (st' := []) [.int (75 : Int32), .int (0 : Int32)] [] hC hw kc_8 hi0 (k_X9_copy _ hi0 hq165) mk_X9_copy lk_1528 ⟨Nat.le_trans (by decide) hR.1, Nat.le_trans (by decide) hR.2⟩ ⟨Nat.zero_le _, Nat.zero_le _⟩ rfl hl.1 rfl rfl (Nat.le_of_ble_eq_true rfl) dX9_lookJump_275 (fun hP H locs hw => ?_)
  refine lv_aload_n hx hb dX9_lookJump_278 rfl (lv_at hl 1 rfl) ?_
  refine lv_iload_n hx hb dX9_lookJump_279 rfl (lv_at hl 2 rfl) ?_
  refine lv_iconst (v := 1) hx hb dX9_lookJump_280 (by decide) ?_
  obtain ⟨r168, D169, hq167, h⟩ := cq_i h
  refine r_cV (st' := [.int r168]) [.int x1, .int (1 : Int32)] [] hC hw kc_8 hi0 (k_X9_goWay _ hi0 hq167) mk_X9_goWay lk_1532 ⟨Nat.le_trans (by decide) hR.1, Nat.le_trans (by decide) hR.2⟩ ⟨Nat.zero_le _, Nat.zero_le _⟩ rfl hl.1 rfl rfl (Nat.le_of_ble_eq_true rfl) dX9_lookJump_281 (fun hP H locs hw => ?_)
  refine lv_istore (lv' := [(9, .int r168), (8, .int r163), (0, .ref a0), (1, .int x1)]) hx hb dX9_lookJump_284 hl (by decide) rfl (fun ls hl => ?_)
  refine lv_aload_n hx hb dX9_lookJump_286 rfl (lv_at hl 2 rfl) ?_
  refine lv_bipush (v := 75) hx hb dX9_lookJump_287 (by decide) ?_
  refine lv_iconst (v := 0) hx hb dX9_lookJump_289 (by decide) ?_
  obtain ⟨_, D171, hq170, h⟩ := cq_i h
  refine r_cV (st' := []) [.int (75 : Int32), .int (0 : Int32)] [] hC hw kc_8 hi0 (k_X9_copy _ hi0 hq170) mk_X9_copy lk_1528 ⟨Nat.le_trans (by decide) hR.1, Nat.le_trans (by decide) hR.2⟩ ⟨Nat.zero_le _, Nat.zero_le _⟩ rfl hl.1 rfl rfl (Nat.le_of_ble_eq_true rfl) dX9_lookJump_290 (fun hP H locs hw => ?_)
  refine lv_iload hx hb dX9_lookJump_293 (lv_at hl 1 rfl) ?_
  refine lv_if_eq (tgt := 308) hx hb dX9_lookJump_295 (by decide) (fun c172 => ?_) (fun c172 => ?_)
  · have h := i_yes c172 h
    exact w_X9_lookJump_308 hC hR o0 a0 x1 r163 r168 _ _ _ _ hi0 hw (lv_sub hl [2, 3, 1, 0] rfl) h
  · have h := i_no c172 h
    refine lv_aload_n hx hb dX9_lookJump_298 rfl (lv_at hl 2 rfl) ?_
    refine lv_iload_n hx hb dX9_lookJump_299 rfl (lv_at hl 3 rfl) ?_
    refine lv_iconst (v := 1) hx hb dX9_lookJump_300 (by decide) ?_
    refine lv_iadd hx hb dX9_lookJump_301 ?_
    obtain ⟨r174, D175, hq173, h⟩ := cq_i h
    refine r_cV (st' := [.int r174]) [.int (x1 + (1 : Int32))] [] hC hw kc_8 hi0 (k_X9_isWay _ hi0 hq173) mk_X9_isWay lk_1520 ⟨Nat.le_trans (by decide) hR.1, Nat.le_trans (by decide) hR.2⟩ ⟨Nat.zero_le _, Nat.zero_le _⟩ rfl hl.1 rfl rfl (Nat.le_of_ble_eq_true rfl) dX9_lookJump_302 (fun hP H locs hw => ?_)
    refine lv_if_eq (tgt := 330) hx hb dX9_lookJump_305 (by decide) (fun c176 => ?_) (fun c176 => ?_)
    · have h := i_yes c176 h
      refine lv_bipush (v := 6) hx hb dX9_lookJump_330 (by decide) ?_
      cases h
      exact r_iret hC hw dX9_lookJump_332
    · have h := i_no c176 h
      exact w_X9_lookJump_308 hC hR o0 a0 x1 r163 r168 _ _ _ _ hi0 hw (lv_sub hl [2, 3, 1, 0] rfl) h
set_option maxHeartbeats 4000000 in
set_option maxRecDepth 100000 in
theorem w_X9_lookJump_210 {r : Int32} {D' : dt} (hC : Cx RX9 cX9_lookJump 10 (some .int) p s m args meth c) (hR : 4 ≤ R.frames ∧ 99 ≤ R.locals) : ∀ (o0 a0 : Nat) (x1 : Int32) (os0 as0 : Nat) (D : dt) (H : Heap) (locs : List Loc) (ls : Array Slot), Is S ad o0 a0 8 → Is S ad os0 as0 8 → Wd G cA S D ad A s H locs → lv_has ls 10 [(0, .ref a0), (1, .int x1)] → f_X9_lookJump_210 S o0 x1 os0 D = some (r, D') → W p l e R s m args below meth c H locs 0 0 (MQ below (Qn (some (.int r)) True (wpost G cA S D' ad A) A) args s 0 0 A) (F0 m 210 ls [.ref as0]) := by
  obtain ⟨hx, hb, -⟩ := id hC
  intro o0 a0 x1 os0 as0 D H locs ls hi0 his0 hw hl h
  unfold f_X9_lookJump_210 at h
  refine lv_iconst (v := 0) hx hb dX9_lookJump_210 (by decide) ?_
  refine lv_goto (tgt := 253) hx hb dX9_lookJump_211 (by decide) ?_
  exact w_X9_lookJump_253 hC hR o0 a0 x1 os0 as0 (0 : Int32) _ _ _ _ hi0 his0 hw (lv_sub hl [0, 1] rfl) h
set_option maxHeartbeats 4000000 in
set_option maxRecDepth 100000 in
theorem w_X9_lookJump_189 {r : Int32} {D' : dt} (hC : Cx RX9 cX9_lookJump 10 (some .int) p s m args meth c) (hR : 4 ≤ R.frames ∧ 99 ≤ R.locals) : ∀ (o0 a0 : Nat) (x1 : Int32) (x3 : Int32) (x5 : Int32) (x6 : Int32) (xs0 : Int32) (D : dt) (H : Heap) (locs : List Loc) (ls : Array Slot), Is S ad o0 a0 8 → Wd G cA S D ad A s H locs → lv_has ls 10 [(0, .ref a0), (1, .int x1), (3, .int x3), (5, .int x5), (6, .int x6)] → f_X9_lookJump_189 S o0 x1 x3 x5 x6 xs0 D = some (r, D') → W p l e R s m args below meth c H locs 0 0 (MQ below (Qn (some (.int r)) True (wpost G cA S D' ad A) A) args s 0 0 A) (F0 m 189 ls [.int xs0]) := by
  obtain ⟨hx, hb, -⟩ := id hC
  intro o0 a0 x1 x3 x5 x6 xs0 D H locs ls hi0 hw hl h
  unfold f_X9_lookJump_189 at h
  refine lv_istore (lv' := [(7, .int xs0), (0, .ref a0), (1, .int x1), (3, .int x3), (5, .int x5), (6, .int x6)]) hx hb dX9_lookJump_189 hl (by decide) rfl (fun ls hl => ?_)
  refine lv_aload_n hx hb dX9_lookJump_191 rfl (lv_at hl 1 rfl) ?_
  refine lv_iload hx hb dX9_lookJump_192 (lv_at hl 5 rfl) ?_
  refine lv_if_eq (tgt := 201) hx hb dX9_lookJump_194 (by decide) (fun c177 => ?_) (fun c177 => ?_)
  · have h := i_yes c177 h
    refine lv_iload_n hx hb dX9_lookJump_201 rfl (lv_at hl 3 rfl) ?_
    refine lv_if_eq (tgt := 210) hx hb dX9_lookJump_202 (by decide) (fun c178 => ?_) (fun c178 => ?_)
    · have h := i_yes c178 h
      exact w_X9_lookJump_210 hC hR o0 a0 x1 o0 a0 _ _ _ _ hi0 hi0 hw (lv_sub hl [1, 2] rfl) h
    · have h := i_no c178 h
      refine lv_iload hx hb dX9_lookJump_205 (lv_at hl 0 rfl) ?_
      refine lv_if_ne (tgt := 214) hx hb dX9_lookJump_207 (by decide) (fun c179 => ?_) (fun c179 => ?_)
      · have h := i_no c179 h
        refine lv_aload_n hx hb dX9_lookJump_214 rfl (lv_at hl 1 rfl) ?_
        refine r_gL hC hw kc_8 hi0 51 rfl lk_1120 dX9_lookJump_215 ?_
        refine lv_aload_n hx hb dX9_lookJump_218 rfl (lv_at hl 1 rfl) ?_
        refine r_gL hC hw kc_8 hi0 52 rfl lk_1121 dX9_lookJump_219 ?_
        refine W.lcmp hx hb dX9_lookJump_222 ?_
        refine lv_if_ne (tgt := 230) hx hb dX9_lookJump_223 (by decide) (fun c180 => ?_) (fun c180 => ?_)
        · have h := i_no c180 h
          refine lv_aload_n hx hb dX9_lookJump_230 rfl (lv_at hl 1 rfl) ?_
          obtain ⟨o181, ho184, h⟩ := rq_i h
          refine r_getR hC hw kc_8 hi0 41 rfl lk_1110 dX9_lookJump_231 rfl ho184 (fun a182 hi183 => ?_)
          refine lv_iload hx hb dX9_lookJump_234 (lv_at hl 4 rfl) ?_
          obtain ⟨hn185, h⟩ := ix_i h
          refine r_lald hC hw hi183 hn185 dX9_lookJump_236 ?_
          refine lv_aload_n hx hb dX9_lookJump_237 rfl (lv_at hl 1 rfl) ?_
          obtain ⟨o186, ho189, h⟩ := rq_i h
          refine r_getR hC hw kc_8 hi0 42 rfl lk_1111 dX9_lookJump_238 rfl ho189 (fun a187 hi188 => ?_)
          refine lv_iload hx hb dX9_lookJump_241 (lv_at hl 4 rfl) ?_
          obtain ⟨hn190, h⟩ := ix_i h
          refine r_lald hC hw hi188 hn190 dX9_lookJump_243 ?_
          refine W.lcmp hx hb dX9_lookJump_244 ?_
          refine lv_if_ne (tgt := 252) hx hb dX9_lookJump_245 (by decide) (fun c191 => ?_) (fun c191 => ?_)
          · have h := i_no c191 h
            refine lv_iconst (v := 0) hx hb dX9_lookJump_252 (by decide) ?_
            exact w_X9_lookJump_253 hC hR o0 a0 x1 o0 a0 (0 : Int32) _ _ _ _ hi0 hi0 hw (lv_sub hl [1, 2] rfl) h
          · have h := i_yes c191 h
            refine lv_iconst (v := 2) hx hb dX9_lookJump_248 (by decide) ?_
            refine lv_goto (tgt := 253) hx hb dX9_lookJump_249 (by decide) ?_
            exact w_X9_lookJump_253 hC hR o0 a0 x1 o0 a0 (2 : Int32) _ _ _ _ hi0 hi0 hw (lv_sub hl [1, 2] rfl) h
        · have h := i_yes c180 h
          refine lv_iconst (v := 1) hx hb dX9_lookJump_226 (by decide) ?_
          refine lv_goto (tgt := 253) hx hb dX9_lookJump_227 (by decide) ?_
          exact w_X9_lookJump_253 hC hR o0 a0 x1 o0 a0 (1 : Int32) _ _ _ _ hi0 hi0 hw (lv_sub hl [1, 2] rfl) h
      · have h := i_yes c179 h
        exact w_X9_lookJump_210 hC hR o0 a0 x1 o0 a0 _ _ _ _ hi0 hi0 hw (lv_sub hl [1, 2] rfl) h
  · have h := i_no c177 h
    refine lv_iconst (v := 3) hx hb dX9_lookJump_197 (by decide) ?_
    refine lv_goto (tgt := 253) hx hb dX9_lookJump_198 (by decide) ?_
    exact w_X9_lookJump_253 hC hR o0 a0 x1 o0 a0 (3 : Int32) _ _ _ _ hi0 hi0 hw (lv_sub hl [1, 2] rfl) h
set_option maxHeartbeats 4000000 in
set_option maxRecDepth 100000 in
theorem w_X9_lookJump_184 {r : Int32} {D' : dt} (hC : Cx RX9 cX9_lookJump 10 (some .int) p s m args meth c) (hR : 4 ≤ R.frames ∧ 99 ≤ R.locals) : ∀ (o0 a0 : Nat) (x1 : Int32) (x3 : Int32) (x5 : Int32) (x6 : Int32) (D : dt) (H : Heap) (locs : List Loc) (ls : Array Slot), Is S ad o0 a0 8 → Wd G cA S D ad A s H locs → lv_has ls 10 [(0, .ref a0), (1, .int x1), (3, .int x3), (5, .int x5), (6, .int x6)] → f_X9_lookJump_184 S o0 x1 x3 x5 x6 D = some (r, D') → W p l e R s m args below meth c H locs 0 0 (MQ below (Qn (some (.int r)) True (wpost G cA S D' ad A) A) args s 0 0 A) (F0 m 184 ls []) := by
  obtain ⟨hx, hb, -⟩ := id hC
  intro o0 a0 x1 x3 x5 x6 D H locs ls hi0 hw hl h
  unfold f_X9_lookJump_184 at h
  refine lv_iconst (v := 1) hx hb dX9_lookJump_184 (by decide) ?_
  refine lv_goto (tgt := 189) hx hb dX9_lookJump_185 (by decide) ?_
  exact w_X9_lookJump_189 hC hR o0 a0 x1 x3 x5 x6 (1 : Int32) _ _ _ _ hi0 hw (lv_sub hl [0, 1, 2, 3, 4] rfl) h
set_option maxHeartbeats 4000000 in
set_option maxRecDepth 100000 in
theorem w_X9_lookJump_152 {r : Int32} {D' : dt} (hC : Cx RX9 cX9_lookJump 10 (some .int) p s m args meth c) (hR : 4 ≤ R.frames ∧ 99 ≤ R.locals) : ∀ (o0 a0 : Nat) (x1 : Int32) (x2 : Int32) (x3 : Int32) (x5 : Int32) (x6 : Int32) (D : dt) (H : Heap) (locs : List Loc) (ls : Array Slot), Is S ad o0 a0 8 → Wd G cA S D ad A s H locs → lv_has ls 10 [(0, .ref a0), (1, .int x1), (2, .int x2), (3, .int x3), (5, .int x5), (6, .int x6)] → f_X9_lookJump_152 S o0 x1 x2 x3 x5 x6 D = some (r, D') → W p l e R s m args below meth c H locs 0 0 (MQ below (Qn (some (.int r)) True (wpost G cA S D' ad A) A) args s 0 0 A) (F0 m 152 ls []) := by
  obtain ⟨hx, hb, -⟩ := id hC
  intro o0 a0 x1 x2 x3 x5 x6 D H locs ls hi0 hw hl h
  unfold f_X9_lookJump_152 at h
  refine lv_iload_n hx hb dX9_lookJump_152 rfl (lv_at hl 2 rfl) ?_
  refine lv_iconst (v := 1) hx hb dX9_lookJump_153 (by decide) ?_
  refine lv_icmp_eq (tgt := 184) hx hb dX9_lookJump_154 (by decide) (fun c192 => ?_) (fun c192 => ?_)
  · have h := i_yes c192 h
    exact w_X9_lookJump_184 hC hR o0 a0 x1 x3 x5 x6 _ _ _ _ hi0 hw (lv_sub hl [0, 1, 3, 4, 5] rfl) h
  · have h := i_no c192 h
    refine lv_iload_n hx hb dX9_lookJump_157 rfl (lv_at hl 2 rfl) ?_
    refine lv_iconst (v := 5) hx hb dX9_lookJump_158 (by decide) ?_
    refine lv_icmp_eq (tgt := 184) hx hb dX9_lookJump_159 (by decide) (fun c193 => ?_) (fun c193 => ?_)
    · have h := i_yes c193 h
      exact w_X9_lookJump_184 hC hR o0 a0 x1 x3 x5 x6 _ _ _ _ hi0 hw (lv_sub hl [0, 1, 3, 4, 5] rfl) h
    · have h := i_no c193 h
      refine lv_iload_n hx hb dX9_lookJump_162 rfl (lv_at hl 2 rfl) ?_
      refine lv_iconst (v := 2) hx hb dX9_lookJump_163 (by decide) ?_
      refine lv_icmp_eq (tgt := 184) hx hb dX9_lookJump_164 (by decide) (fun c194 => ?_) (fun c194 => ?_)
      · have h := i_yes c194 h
        exact w_X9_lookJump_184 hC hR o0 a0 x1 x3 x5 x6 _ _ _ _ hi0 hw (lv_sub hl [0, 1, 3, 4, 5] rfl) h
      · have h := i_no c194 h
        refine lv_iload_n hx hb dX9_lookJump_167 rfl (lv_at hl 2 rfl) ?_
        refine lv_iconst (v := 3) hx hb dX9_lookJump_168 (by decide) ?_
        refine lv_icmp_eq (tgt := 184) hx hb dX9_lookJump_169 (by decide) (fun c195 => ?_) (fun c195 => ?_)
        · have h := i_yes c195 h
          exact w_X9_lookJump_184 hC hR o0 a0 x1 x3 x5 x6 _ _ _ _ hi0 hw (lv_sub hl [0, 1, 3, 4, 5] rfl) h
        · have h := i_no c195 h
          refine lv_iload_n hx hb dX9_lookJump_172 rfl (lv_at hl 2 rfl) ?_
          refine lv_bipush (v := 10) hx hb dX9_lookJump_173 (by decide) ?_
          refine lv_icmp_eq (tgt := 184) hx hb dX9_lookJump_175 (by decide) (fun c196 => ?_) (fun c196 => ?_)
          · have h := i_yes c196 h
            exact w_X9_lookJump_184 hC hR o0 a0 x1 x3 x5 x6 _ _ _ _ hi0 hw (lv_sub hl [0, 1, 3, 4, 5] rfl) h
          · have h := i_no c196 h
            refine lv_iload_n hx hb dX9_lookJump_178 rfl (lv_at hl 2 rfl) ?_
            refine lv_bipush (v := 11) hx hb dX9_lookJump_179 (by decide) ?_
            refine lv_icmp_ne (tgt := 188) hx hb dX9_lookJump_181 (by decide) (fun c197 => ?_) (fun c197 => ?_)
            · have h := i_no c197 h
              refine lv_iconst (v := 0) hx hb dX9_lookJump_188 (by decide) ?_
              exact w_X9_lookJump_189 hC hR o0 a0 x1 x3 x5 x6 (0 : Int32) _ _ _ _ hi0 hw (lv_sub hl [0, 1, 3, 4, 5] rfl) h
            · have h := i_yes c197 h
              exact w_X9_lookJump_184 hC hR o0 a0 x1 x3 x5 x6 _ _ _ _ hi0 hw (lv_sub hl [0, 1, 3, 4, 5] rfl) h
set_option maxHeartbeats 4000000 in
set_option maxRecDepth 100000 in
theorem w_X9_lookJump_124 {r : Int32} {D' : dt} (hC : Cx RX9 cX9_lookJump 10 (some .int) p s m args meth c) (hR : 4 ≤ R.frames ∧ 99 ≤ R.locals) : ∀ (o0 a0 : Nat) (x1 : Int32) (x2 : Int32) (x3 : Int32) (x5 : Int32) (xs0 : Int32) (D : dt) (H : Heap) (locs : List Loc) (ls : Array Slot), Is S ad o0 a0 8 → Wd G cA S D ad A s H locs → lv_has ls 10 [(0, .ref a0), (1, .int x1), (2, .int x2), (3, .int x3), (5, .int x5)] → f_X9_lookJump_124 S o0 x1 x2 x3 x5 xs0 D = some (r, D') → W p l e R s m args below meth c H locs 0 0 (MQ below (Qn (some (.int r)) True (wpost G cA S D' ad A) A) args s 0 0 A) (F0 m 124 ls [.int xs0]) := by
  obtain ⟨hx, hb, -⟩ := id hC
  intro o0 a0 x1 x2 x3 x5 xs0 D H locs ls hi0 hw hl h
  unfold f_X9_lookJump_124 at h
  refine lv_istore (lv' := [(6, .int xs0), (0, .ref a0), (1, .int x1), (2, .int x2), (3, .int x3), (5, .int x5)]) hx hb dX9_lookJump_124 hl (by decide) rfl (fun ls hl => ?_)
  refine lv_iload hx hb dX9_lookJump_126 (lv_at hl 0 rfl) ?_
  refine lv_if_ne (tgt := 152) hx hb dX9_lookJump_128 (by decide) (fun c198 => ?_) (fun c198 => ?_)
  · have h := i_no c198 h
    exact w_X9_lookJump_152 hC hR o0 a0 x1 x2 x3 x5 xs0 _ _ _ _ hi0 hw (lv_sub hl [1, 2, 3, 4, 5, 0] rfl) h
  · have h := i_yes c198 h
    refine lv_aload_n hx hb dX9_lookJump_131 rfl (lv_at hl 1 rfl) ?_
    obtain ⟨o199, ho202, h⟩ := rq_i h
    refine r_getR hC hw kc_8 hi0 40 rfl lk_1109 dX9_lookJump_132 rfl ho202 (fun a200 hi201 => ?_)
    refine lv_iload hx hb dX9_lookJump_135 (lv_at hl 5 rfl) ?_
    obtain ⟨hn203, h⟩ := ix_i h
    refine r_iald hC hw hi201 hn203 dX9_lookJump_137 ?_
    refine lv_iconst (v := 1) hx hb dX9_lookJump_138 (by decide) ?_
    refine lv_icmp_ne (tgt := 150) hx hb dX9_lookJump_139 (by decide) (fun c204 => ?_) (fun c204 => ?_)
    · have h := i_no c204 h
      refine lv_iconst (v := 3) hx hb dX9_lookJump_150 (by decide) ?_
      cases h
      exact r_iret hC hw dX9_lookJump_151
    · have h := i_yes c204 h
      refine lv_aload_n hx hb dX9_lookJump_142 rfl (lv_at hl 1 rfl) ?_
      refine r_gI hC hw kc_8 hi0 50 rfl lk_1119 dX9_lookJump_143 ?_
      refine lv_iconst (v := 1) hx hb dX9_lookJump_146 (by decide) ?_
      refine lv_icmp_eq (tgt := 152) hx hb dX9_lookJump_147 (by decide) (fun c205 => ?_) (fun c205 => ?_)
      · have h := i_yes c205 h
        exact w_X9_lookJump_152 hC hR o0 a0 x1 x2 x3 x5 xs0 _ _ _ _ hi0 hw (lv_sub hl [1, 2, 3, 4, 5, 0] rfl) h
      · have h := i_no c205 h
        refine lv_iconst (v := 3) hx hb dX9_lookJump_150 (by decide) ?_
        cases h
        exact r_iret hC hw dX9_lookJump_151
set_option maxHeartbeats 4000000 in
set_option maxRecDepth 100000 in
theorem w_X9_lookJump_123 {r : Int32} {D' : dt} (hC : Cx RX9 cX9_lookJump 10 (some .int) p s m args meth c) (hR : 4 ≤ R.frames ∧ 99 ≤ R.locals) : ∀ (o0 a0 : Nat) (x1 : Int32) (x2 : Int32) (x3 : Int32) (x5 : Int32) (D : dt) (H : Heap) (locs : List Loc) (ls : Array Slot), Is S ad o0 a0 8 → Wd G cA S D ad A s H locs → lv_has ls 10 [(0, .ref a0), (1, .int x1), (2, .int x2), (3, .int x3), (5, .int x5)] → f_X9_lookJump_123 S o0 x1 x2 x3 x5 D = some (r, D') → W p l e R s m args below meth c H locs 0 0 (MQ below (Qn (some (.int r)) True (wpost G cA S D' ad A) A) args s 0 0 A) (F0 m 123 ls []) := by
  obtain ⟨hx, hb, -⟩ := id hC
  intro o0 a0 x1 x2 x3 x5 D H locs ls hi0 hw hl h
  unfold f_X9_lookJump_123 at h
  refine lv_iconst (v := 0) hx hb dX9_lookJump_123 (by decide) ?_
  exact w_X9_lookJump_124 hC hR o0 a0 x1 x2 x3 x5 (0 : Int32) _ _ _ _ hi0 hw (lv_sub hl [0, 1, 2, 3, 4] rfl) h
set_option maxHeartbeats 4000000 in
set_option maxRecDepth 100000 in
theorem w_X9_lookJump_119 {r : Int32} {D' : dt} (hC : Cx RX9 cX9_lookJump 10 (some .int) p s m args meth c) (hR : 4 ≤ R.frames ∧ 99 ≤ R.locals) : ∀ (o0 a0 : Nat) (x1 : Int32) (x2 : Int32) (x3 : Int32) (x5 : Int32) (D : dt) (H : Heap) (locs : List Loc) (ls : Array Slot), Is S ad o0 a0 8 → Wd G cA S D ad A s H locs → lv_has ls 10 [(0, .ref a0), (1, .int x1), (2, .int x2), (3, .int x3), (5, .int x5)] → f_X9_lookJump_119 S o0 x1 x2 x3 x5 D = some (r, D') → W p l e R s m args below meth c H locs 0 0 (MQ below (Qn (some (.int r)) True (wpost G cA S D' ad A) A) args s 0 0 A) (F0 m 119 ls []) := by
  obtain ⟨hx, hb, -⟩ := id hC
  intro o0 a0 x1 x2 x3 x5 D H locs ls hi0 hw hl h
  unfold f_X9_lookJump_119 at h
  refine lv_iconst (v := 1) hx hb dX9_lookJump_119 (by decide) ?_
  refine lv_goto (tgt := 124) hx hb dX9_lookJump_120 (by decide) ?_
  exact w_X9_lookJump_124 hC hR o0 a0 x1 x2 x3 x5 (1 : Int32) _ _ _ _ hi0 hw (lv_sub hl [0, 1, 2, 3, 4] rfl) h
set_option maxHeartbeats 4000000 in
set_option maxRecDepth 100000 in
theorem w_X9_lookJump_45 {r : Int32} {D' : dt} (hC : Cx RX9 cX9_lookJump 10 (some .int) p s m args meth c) (hR : 4 ≤ R.frames ∧ 99 ≤ R.locals) : ∀ (o0 a0 : Nat) (x1 : Int32) (x2 : Int32) (x3 : Int32) (xs0 : Int32) (D : dt) (H : Heap) (locs : List Loc) (ls : Array Slot), Is S ad o0 a0 8 → Wd G cA S D ad A s H locs → lv_has ls 10 [(0, .ref a0), (1, .int x1), (2, .int x2), (3, .int x3)] → f_X9_lookJump_45 S o0 x1 x2 x3 xs0 D = some (r, D') → W p l e R s m args below meth c H locs 0 0 (MQ below (Qn (some (.int r)) True (wpost G cA S D' ad A) A) args s 0 0 A) (F0 m 45 ls [.int xs0]) := by
  obtain ⟨hx, hb, -⟩ := id hC
  intro o0 a0 x1 x2 x3 xs0 D H locs ls hi0 hw hl h
  unfold f_X9_lookJump_45 at h
  refine lv_istore (lv' := [(4, .int xs0), (0, .ref a0), (1, .int x1), (2, .int x2), (3, .int x3)]) hx hb dX9_lookJump_45 hl (by decide) rfl (fun ls hl => ?_)
  refine lv_aload_n hx hb dX9_lookJump_47 rfl (lv_at hl 1 rfl) ?_
  obtain ⟨o206, ho209, h⟩ := rq_i h
  refine r_getR hC hw kc_8 hi0 2 rfl lk_1071 dX9_lookJump_48 rfl ho209 (fun a207 hi208 => ?_)
  refine lv_iload_n hx hb dX9_lookJump_51 rfl (lv_at hl 2 rfl) ?_
  obtain ⟨hn210, h⟩ := ix_i h
  refine r_iald hC hw hi208 hn210 dX9_lookJump_52 ?_
  refine lv_topi (fun y211 ey211 => ?_)
  have h := nm_i h y211 ey211
  refine lv_istore (lv' := [(5, .int y211), (4, .int xs0), (0, .ref a0), (1, .int x1), (2, .int x2), (3, .int x3)]) hx hb dX9_lookJump_53 hl (by decide) rfl (fun ls hl => ?_)
  refine lv_aload_n hx hb dX9_lookJump_55 rfl (lv_at hl 2 rfl) ?_
  refine lv_iload_n hx hb dX9_lookJump_56 rfl (lv_at hl 3 rfl) ?_
  obtain ⟨_, D213, hq212, h⟩ := cq_i h
  refine r_cV (st' := []) [.int x1] [] hC hw kc_8 hi0 (k_X9_takeSecond _ hi0 hq212) mk_X9_takeSecond lk_1481 ⟨Nat.le_trans (by decide) hR.1, Nat.le_trans (by decide) hR.2⟩ ⟨Nat.zero_le _, Nat.zero_le _⟩ rfl hl.1 rfl rfl (Nat.le_of_ble_eq_true rfl) dX9_lookJump_57 (fun hP H locs hw => ?_)
  refine lv_aload_n hx hb dX9_lookJump_60 rfl (lv_at hl 2 rfl) ?_
  obtain ⟨o214, ho217, h⟩ := rq_i h
  refine r_getR hC hw kc_8 hi0 40 rfl lk_1109 dX9_lookJump_61 rfl ho217 (fun a215 hi216 => ?_)
  refine lv_iload hx hb dX9_lookJump_64 (lv_at hl 0 rfl) ?_
  obtain ⟨hn218, h⟩ := ix_i h
  refine r_iald hC hw hi216 hn218 dX9_lookJump_66 ?_
  refine lv_if_eq (tgt := 77) hx hb dX9_lookJump_67 (by decide) (fun c219 => ?_) (fun c219 => ?_)
  · have h := i_yes c219 h
    refine lv_iconst (v := 2) hx hb dX9_lookJump_77 (by decide) ?_
    cases h
    exact r_iret hC hw dX9_lookJump_78
  · have h := i_no c219 h
    refine lv_aload_n hx hb dX9_lookJump_70 rfl (lv_at hl 2 rfl) ?_
    refine r_gI hC hw kc_8 hi0 50 rfl lk_1119 dX9_lookJump_71 ?_
    refine lv_if_ne (tgt := 79) hx hb dX9_lookJump_74 (by decide) (fun c220 => ?_) (fun c220 => ?_)
    · have h := i_no c220 h
      refine lv_aload_n hx hb dX9_lookJump_79 rfl (lv_at hl 2 rfl) ?_
      obtain ⟨o221, ho224, h⟩ := rq_i h
      refine r_getR hC hw kc_8 hi0 40 rfl lk_1109 dX9_lookJump_80 rfl ho224 (fun a222 hi223 => ?_)
      refine lv_iload hx hb dX9_lookJump_83 (lv_at hl 0 rfl) ?_
      obtain ⟨hn225, h⟩ := ix_i h
      refine r_iald hC hw hi223 hn225 dX9_lookJump_85 ?_
      refine lv_bipush (v := 6) hx hb dX9_lookJump_86 (by decide) ?_
      refine lv_icmp_ne (tgt := 123) hx hb dX9_lookJump_88 (by decide) (fun c226 => ?_) (fun c226 => ?_)
      · have h := i_no c226 h
        exact w_X9_lookJump_123 hC hR o0 a0 x1 x2 x3 y211 _ _ _ _ hi0 hw (lv_sub hl [2, 3, 4, 5, 0] rfl) h
      · have h := i_yes c226 h
        refine lv_iload hx hb dX9_lookJump_91 (lv_at hl 1 rfl) ?_
        refine lv_if_ne (tgt := 123) hx hb dX9_lookJump_93 (by decide) (fun c227 => ?_) (fun c227 => ?_)
        · have h := i_no c227 h
          exact w_X9_lookJump_123 hC hR o0 a0 x1 x2 x3 y211 _ _ _ _ hi0 hw (lv_sub hl [2, 3, 4, 5, 0] rfl) h
        · have h := i_yes c227 h
          refine lv_aload_n hx hb dX9_lookJump_96 rfl (lv_at hl 2 rfl) ?_
          obtain ⟨o228, ho231, h⟩ := rq_i h
          refine r_getR hC hw kc_8 hi0 5 rfl lk_1074 dX9_lookJump_97 rfl ho231 (fun a229 hi230 => ?_)
          refine lv_iload_n hx hb dX9_lookJump_100 rfl (lv_at hl 3 rfl) ?_
          obtain ⟨hn232, h⟩ := ix_i h
          refine r_iald hC hw hi230 hn232 dX9_lookJump_101 ?_
          refine lv_if_ne (tgt := 123) hx hb dX9_lookJump_102 (by decide) (fun c233 => ?_) (fun c233 => ?_)
          · have h := i_no c233 h
            exact w_X9_lookJump_123 hC hR o0 a0 x1 x2 x3 y211 _ _ _ _ hi0 hw (lv_sub hl [2, 3, 4, 5, 0] rfl) h
          · have h := i_yes c233 h
            refine lv_iload_n hx hb dX9_lookJump_105 rfl (lv_at hl 5 rfl) ?_
            refine lv_if_eq (tgt := 123) hx hb dX9_lookJump_106 (by decide) (fun c234 => ?_) (fun c234 => ?_)
            · have h := i_yes c234 h
              exact w_X9_lookJump_123 hC hR o0 a0 x1 x2 x3 y211 _ _ _ _ hi0 hw (lv_sub hl [2, 3, 4, 5, 0] rfl) h
            · have h := i_no c234 h
              refine lv_iload_n hx hb dX9_lookJump_109 rfl (lv_at hl 4 rfl) ?_
              refine lv_iconst (v := 1) hx hb dX9_lookJump_110 (by decide) ?_
              refine lv_icmp_eq (tgt := 119) hx hb dX9_lookJump_111 (by decide) (fun c235 => ?_) (fun c235 => ?_)
              · have h := i_yes c235 h
                exact w_X9_lookJump_119 hC hR o0 a0 x1 x2 x3 y211 _ _ _ _ hi0 hw (lv_sub hl [2, 3, 4, 5, 0] rfl) h
              · have h := i_no c235 h
                refine lv_iload_n hx hb dX9_lookJump_114 rfl (lv_at hl 4 rfl) ?_
                refine lv_iconst (v := 5) hx hb dX9_lookJump_115 (by decide) ?_
                refine lv_icmp_ne (tgt := 123) hx hb dX9_lookJump_116 (by decide) (fun c236 => ?_) (fun c236 => ?_)
                · have h := i_no c236 h
                  exact w_X9_lookJump_123 hC hR o0 a0 x1 x2 x3 y211 _ _ _ _ hi0 hw (lv_sub hl [2, 3, 4, 5, 0] rfl) h
                · have h := i_yes c236 h
                  exact w_X9_lookJump_119 hC hR o0 a0 x1 x2 x3 y211 _ _ _ _ hi0 hw (lv_sub hl [2, 3, 4, 5, 0] rfl) h
    · have h := i_yes c220 h
      refine lv_iconst (v := 2) hx hb dX9_lookJump_77 (by decide) ?_
      cases h
      exact r_iret hC hw dX9_lookJump_78
set_option maxHeartbeats 4000000 in
set_option maxRecDepth 100000 in
theorem w_X9_lookJump_27 {r : Int32} {D' : dt} (hC : Cx RX9 cX9_lookJump 10 (some .int) p s m args meth c) (hR : 4 ≤ R.frames ∧ 99 ≤ R.locals) : ∀ (o0 a0 : Nat) (x1 : Int32) (x2 : Int32) (xs0 : Int32) (D : dt) (H : Heap) (locs : List Loc) (ls : Array Slot), Is S ad o0 a0 8 → Wd G cA S D ad A s H locs → lv_has ls 10 [(0, .ref a0), (1, .int x1), (2, .int x2)] → f_X9_lookJump_27 S o0 x1 x2 xs0 D = some (r, D') → W p l e R s m args below meth c H locs 0 0 (MQ below (Qn (some (.int r)) True (wpost G cA S D' ad A) A) args s 0 0 A) (F0 m 27 ls [.int xs0]) := by
  obtain ⟨hx, hb, -⟩ := id hC
  intro o0 a0 x1 x2 xs0 D H locs ls hi0 hw hl h
  unfold f_X9_lookJump_27 at h
  refine lv_istore_n (lv' := [(3, .int xs0), (0, .ref a0), (1, .int x1), (2, .int x2)]) hx hb dX9_lookJump_27 rfl hl (by decide) rfl (fun ls hl => ?_)
  refine lv_aload_n hx hb dX9_lookJump_28 rfl (lv_at hl 1 rfl) ?_
  obtain ⟨o237, ho240, h⟩ := rq_i h
  refine r_getR hC hw kc_8 hi0 1 rfl lk_1070 dX9_lookJump_29 rfl ho240 (fun a238 hi239 => ?_)
  refine lv_iload_n hx hb dX9_lookJump_32 rfl (lv_at hl 2 rfl) ?_
  obtain ⟨hn241, h⟩ := ix_i h
  refine r_iald hC hw hi239 hn241 dX9_lookJump_33 ?_
  refine lv_bipush (v := 8) hx hb dX9_lookJump_34 (by decide) ?_
  refine lv_iand hx hb dX9_lookJump_36 ?_
  refine lv_if_eq (tgt := 44) hx hb dX9_lookJump_37 (by decide) (fun c242 => ?_) (fun c242 => ?_)
  · have h := i_yes c242 h
    refine lv_iconst (v := 0) hx hb dX9_lookJump_44 (by decide) ?_
    exact w_X9_lookJump_45 hC hR o0 a0 x1 x2 xs0 (0 : Int32) _ _ _ _ hi0 hw (lv_sub hl [1, 2, 3, 0] rfl) h
  · have h := i_no c242 h
    refine lv_iconst (v := 1) hx hb dX9_lookJump_40 (by decide) ?_
    refine lv_goto (tgt := 45) hx hb dX9_lookJump_41 (by decide) ?_
    exact w_X9_lookJump_45 hC hR o0 a0 x1 x2 xs0 (1 : Int32) _ _ _ _ hi0 hw (lv_sub hl [1, 2, 3, 0] rfl) h
set_option maxHeartbeats 4000000 in
set_option maxRecDepth 100000 in
theorem w_X9_lookJump_0 {r : Int32} {D' : dt} (hC : Cx RX9 cX9_lookJump 10 (some .int) p s m args meth c) (hR : 4 ≤ R.frames ∧ 99 ≤ R.locals) : ∀ (o0 a0 : Nat) (x1 : Int32) (D : dt) (H : Heap) (locs : List Loc) (ls : Array Slot), Is S ad o0 a0 8 → Wd G cA S D ad A s H locs → lv_has ls 10 [(0, .ref a0), (1, .int x1)] → f_X9_lookJump S o0 x1 D = some (r, D') → W p l e R s m args below meth c H locs 0 0 (MQ below (Qn (some (.int r)) True (wpost G cA S D' ad A) A) args s 0 0 A) (F0 m 0 ls []) := by
  obtain ⟨hx, hb, -⟩ := id hC
  intro o0 a0 x1 D H locs ls hi0 hw hl h
  unfold f_X9_lookJump at h
  refine lv_aload_n hx hb dX9_lookJump_0 rfl (lv_at hl 0 rfl) ?_
  obtain ⟨o243, ho246, h⟩ := rq_i h
  refine r_getR hC hw kc_8 hi0 1 rfl lk_1070 dX9_lookJump_1 rfl ho246 (fun a244 hi245 => ?_)
  refine lv_iload_n hx hb dX9_lookJump_4 rfl (lv_at hl 1 rfl) ?_
  obtain ⟨hn247, h⟩ := ix_i h
  refine r_iald hC hw hi245 hn247 dX9_lookJump_5 ?_
  refine lv_iconst (v := 4) hx hb dX9_lookJump_6 (by decide) ?_
  refine lv_ishr hx hb dX9_lookJump_7 ?_
  refine lv_topi (fun y248 ey248 => ?_)
  have h := nm_i h y248 ey248
  refine lv_istore_n (lv' := [(2, .int y248), (0, .ref a0), (1, .int x1)]) hx hb dX9_lookJump_8 rfl hl (by decide) rfl (fun ls hl => ?_)
  refine lv_aload_n hx hb dX9_lookJump_9 rfl (lv_at hl 1 rfl) ?_
  obtain ⟨o249, ho252, h⟩ := rq_i h
  refine r_getR hC hw kc_8 hi0 1 rfl lk_1070 dX9_lookJump_10 rfl ho252 (fun a250 hi251 => ?_)
  refine lv_iload_n hx hb dX9_lookJump_13 rfl (lv_at hl 2 rfl) ?_
  obtain ⟨hn253, h⟩ := ix_i h
  refine r_iald hC hw hi251 hn253 dX9_lookJump_14 ?_
  refine lv_bipush (v := 7) hx hb dX9_lookJump_15 (by decide) ?_
  refine lv_iand hx hb dX9_lookJump_17 ?_
  refine lv_iconst (v := 5) hx hb dX9_lookJump_18 (by decide) ?_
  refine lv_icmp_ne (tgt := 26) hx hb dX9_lookJump_19 (by decide) (fun c254 => ?_) (fun c254 => ?_)
  · have h := i_no c254 h
    refine lv_iconst (v := 0) hx hb dX9_lookJump_26 (by decide) ?_
    exact w_X9_lookJump_27 hC hR o0 a0 x1 y248 (0 : Int32) _ _ _ _ hi0 hw (lv_sub hl [1, 2, 0] rfl) h
  · have h := i_yes c254 h
    refine lv_iconst (v := 1) hx hb dX9_lookJump_22 (by decide) ?_
    refine lv_goto (tgt := 27) hx hb dX9_lookJump_23 (by decide) ?_
    exact w_X9_lookJump_27 hC hR o0 a0 x1 y248 (1 : Int32) _ _ _ _ hi0 hw (lv_sub hl [1, 2, 0] rfl) h
set_option maxHeartbeats 4000000 in
set_option maxRecDepth 100000 in
theorem k_X9_lookJump {l : Launch} {G : va_G} {cA : Nat → ClassId} {S : sh} {D D' : dt} {ad : Nat → Nat} (sz : Nat) {o0 a0 : Nat} {x1 : Int32} {r : Int32} (hi0 : Is S ad o0 a0 8) (h : f_X9_lookJump S o0 x1 D = some (r, D')) : Co l yX9_lookJump (Cond.code yX9_lookJump cX9_lookJump 10 (some .int) :: tb0) 4 99 [.ref a0, .int x1] G cA S D ad sz (some (.int r)) True D' := by
  refine Met.ofW (cc := cX9_lookJump) (maxL := 10) (ret := (some .int)) (by decide) rfl ?_
  intro p e s m args below meth c s₁ B hml hv
  obtain ⟨rfl, hsz, hP, hK, hD0, hT, hX⟩ := hv
  subst hsz
  have hts := atoms_spec (ws := Cond.code yX9_lookJump cX9_lookJump 10 (some .int) :: tb0) B.pre
  have hC : Cx RX9 cX9_lookJump 10 (some .int) p s m _ meth c := ⟨B.exec, B.bytes, hml, findClass_of_methodNamed B.named, fun w q => hts w (List.mem_cons_of_mem _ q), B.returns, B.notSynchronized⟩
  have hw := Wd.entry hP hK hD0 hT hX
  have hl := lv_entry ([.ref a0, .int x1]) (n := 10) (Nat.le_of_ble_eq_true rfl)
  rw [lg_entry_eq]
  exact w_X9_lookJump_0 hC ⟨Nat.le_refl _, Nat.le_refl _⟩ o0 a0 x1 D _ _ _ hi0 hw hl h
set_option maxHeartbeats 4000000 in
set_option maxRecDepth 100000 in
theorem w_X9_access_0 {r : Int32} {D' : dt} (hC : Cx RX9 cX9_access 9 (some .int) p s m args meth c) (hR : 0 ≤ R.frames ∧ 0 ≤ R.locals) : ∀ (o0 a0 : Nat) (x1 : Int32) (x2 : Int32) (x3 : Int32) (x4 : Int32) (D : dt) (H : Heap) (locs : List Loc) (ls : Array Slot), Is S ad o0 a0 8 → Wd G cA S D ad A s H locs → lv_has ls 9 [(0, .ref a0), (1, .int x1), (2, .int x2), (3, .int x3), (4, .int x4)] → f_X9_access S o0 x1 x2 x3 x4 D = some (r, D') → W p l e R s m args below meth c H locs 0 0 (MQ below (Qn (some (.int r)) True (wpost G cA S D' ad A) A) args s 0 0 A) (F0 m 0 ls []) := by
  obtain ⟨hx, hb, -⟩ := id hC
  intro o0 a0 x1 x2 x3 x4 D H locs ls hi0 hw hl h
  unfold f_X9_access at h
  refine lv_aload_n hx hb dX9_access_0 rfl (lv_at hl 0 rfl) ?_
  obtain ⟨o39, ho42, h⟩ := rq_i h
  refine r_getR hC hw kc_8 hi0 41 rfl lk_1110 dX9_access_1 rfl ho42 (fun a40 hi41 => ?_)
  refine lv_iload_n hx hb dX9_access_4 rfl (lv_at hl 1 rfl) ?_
  obtain ⟨hn43, h⟩ := ix_i h
  refine r_lald hC hw hi41 hn43 dX9_access_5 ?_
  refine lv_iload_n hx hb dX9_access_6 rfl (lv_at hl 2 rfl) ?_
  refine lv_i2l (v := x2.toInt64) hx hb dX9_access_7 rfl ?_
  refine lv_ladd hx hb dX9_access_8 ?_
  refine lv_topl (fun y44 ey44 => ?_)
  have h := nm_i h y44 ey44
  refine lv_lstore (lv' := [(5, .long y44), (0, .ref a0), (1, .int x1), (2, .int x2), (3, .int x3), (4, .int x4)]) hx hb dX9_access_9 hl (by decide) rfl (fun ls hl => ?_)
  refine lv_aload_n hx hb dX9_access_11 rfl (lv_at hl 1 rfl) ?_
  obtain ⟨o45, ho48, h⟩ := rq_i h
  refine r_getR hC hw kc_8 hi0 42 rfl lk_1111 dX9_access_12 rfl ho48 (fun a46 hi47 => ?_)
  refine lv_iload_n hx hb dX9_access_15 rfl (lv_at hl 2 rfl) ?_
  obtain ⟨hn49, h⟩ := ix_i h
  refine r_lald hC hw hi47 hn49 dX9_access_16 ?_
  refine lv_iload_n hx hb dX9_access_17 rfl (lv_at hl 3 rfl) ?_
  refine lv_i2l (v := x2.toInt64) hx hb dX9_access_18 rfl ?_
  refine lv_ladd hx hb dX9_access_19 ?_
  refine lv_iload_n hx hb dX9_access_20 rfl (lv_at hl 4 rfl) ?_
  refine lv_i2l (v := x3.toInt64) hx hb dX9_access_21 rfl ?_
  refine lv_ladd hx hb dX9_access_22 ?_
  refine lv_topl (fun y50 ey50 => ?_)
  have h := nm_i h y50 ey50
  refine lv_lstore (lv' := [(7, .long y50), (5, .long y44), (0, .ref a0), (1, .int x1), (2, .int x2), (3, .int x3), (4, .int x4)]) hx hb dX9_access_23 hl (by decide) rfl (fun ls hl => ?_)
  refine lv_aload_n hx hb dX9_access_25 rfl (lv_at hl 2 rfl) ?_
  obtain ⟨o51, ho54, h⟩ := rq_i h
  refine r_getR hC hw kc_8 hi0 40 rfl lk_1109 dX9_access_26 rfl ho54 (fun a52 hi53 => ?_)
  refine lv_iload_n hx hb dX9_access_29 rfl (lv_at hl 3 rfl) ?_
  obtain ⟨hn55, h⟩ := ix_i h
  refine r_iald hC hw hi53 hn55 dX9_access_30 ?_
  by_cases c56 : (gI D o51 x1.toNatClampNeg) = 2
  · have h := i_yes c56 h
    refine lv_tableIn (off := 29) (tgt := 60) hx hb dX9_access_31 (by rw [c56]; decide) (by rw [c56]; decide) (by rw [c56] <;> rfl) (by decide) ?_
    refine lv_iload hx hb dX9_access_60 (lv_at hl 6 rfl) ?_
    refine lv_if_ne (tgt := 87) hx hb dX9_access_62 (by decide) (fun c57 => ?_) (fun c57 => ?_)
    · have h := i_no c57 h
      refine lv_iconst (v := 4) hx hb dX9_access_87 (by decide) ?_
      cases h
      exact r_iret hC hw dX9_access_88
    · have h := i_yes c57 h
      refine lv_lload hx hb dX9_access_65 (lv_at hl 1 rfl) ?_
      refine lv_lconst (v := 0) hx hb dX9_access_67 (by decide) ?_
      refine W.lcmp hx hb dX9_access_68 ?_
      refine lv_if_lt (tgt := 87) hx hb dX9_access_69 (by decide) (fun c58 => ?_) (fun c58 => ?_)
      · have h := i_yes c58 h
        refine lv_iconst (v := 4) hx hb dX9_access_87 (by decide) ?_
        cases h
        exact r_iret hC hw dX9_access_88
      · have h := i_no c58 h
        refine lv_lload hx hb dX9_access_72 (lv_at hl 0 rfl) ?_
        refine lv_aload_n hx hb dX9_access_74 rfl (lv_at hl 2 rfl) ?_
        refine r_gI hC hw kc_8 hi0 7 rfl lk_1076 dX9_access_75 ?_
        refine lv_i2l (v := (gI D o0 7).toInt64) hx hb dX9_access_78 rfl ?_
        refine W.lcmp hx hb dX9_access_79 ?_
        refine lv_if_gt (tgt := 87) hx hb dX9_access_80 (by decide) (fun c59 => ?_) (fun c59 => ?_)
        · have h := i_yes c59 h
          refine lv_iconst (v := 4) hx hb dX9_access_87 (by decide) ?_
          cases h
          exact r_iret hC hw dX9_access_88
        · have h := i_no c59 h
          refine lv_iconst (v := 0) hx hb dX9_access_83 (by decide) ?_
          refine lv_goto (tgt := 88) hx hb dX9_access_84 (by decide) ?_
          cases h
          exact r_iret hC hw dX9_access_88
  have h := i_no c56 h
  by_cases c60 : (gI D o51 x1.toNatClampNeg) = 3
  · have h := i_yes c60 h
    refine lv_tableIn (off := 89) (tgt := 120) hx hb dX9_access_31 (by rw [c60]; decide) (by rw [c60]; decide) (by rw [c60] <;> rfl) (by decide) ?_
    refine lv_lload hx hb dX9_access_120 (lv_at hl 1 rfl) ?_
    refine lv_ldc2 (v := (-512)) hx hb hC.2.2.2.1 (hC.2.2.2.2.1 _ lk_1562) dX9_access_122 ?_
    refine W.lcmp hx hb dX9_access_125 ?_
    refine lv_if_lt (tgt := 143) hx hb dX9_access_126 (by decide) (fun c61 => ?_) (fun c61 => ?_)
    · have h := i_yes c61 h
      refine lv_iconst (v := 4) hx hb dX9_access_143 (by decide) ?_
      cases h
      exact r_iret hC hw dX9_access_144
    · have h := i_no c61 h
      refine lv_lload hx hb dX9_access_129 (lv_at hl 1 rfl) ?_
      refine lv_iload_n hx hb dX9_access_131 rfl (lv_at hl 5 rfl) ?_
      refine lv_i2l (v := x3.toInt64) hx hb dX9_access_132 rfl ?_
      refine lv_ladd hx hb dX9_access_133 ?_
      refine lv_lconst (v := 0) hx hb dX9_access_134 (by decide) ?_
      refine W.lcmp hx hb dX9_access_135 ?_
      refine lv_if_gt (tgt := 143) hx hb dX9_access_136 (by decide) (fun c62 => ?_) (fun c62 => ?_)
      · have h := i_yes c62 h
        refine lv_iconst (v := 4) hx hb dX9_access_143 (by decide) ?_
        cases h
        exact r_iret hC hw dX9_access_144
      · have h := i_no c62 h
        refine lv_iconst (v := 0) hx hb dX9_access_139 (by decide) ?_
        refine lv_goto (tgt := 144) hx hb dX9_access_140 (by decide) ?_
        cases h
        exact r_iret hC hw dX9_access_144
  have h := i_no c60 h
  by_cases c63 : (gI D o51 x1.toNatClampNeg) = 4
  · have h := i_yes c63 h
    refine lv_tableIn (off := 114) (tgt := 145) hx hb dX9_access_31 (by rw [c63]; decide) (by rw [c63]; decide) (by rw [c63] <;> rfl) (by decide) ?_
    refine lv_iconst (v := 3) hx hb dX9_access_145 (by decide) ?_
    cases h
    exact r_iret hC hw dX9_access_146
  have h := i_no c63 h
  by_cases c64 : (gI D o51 x1.toNatClampNeg) = 5
  · have h := i_yes c64 h
    refine lv_tableIn (off := 58) (tgt := 89) hx hb dX9_access_31 (by rw [c64]; decide) (by rw [c64]; decide) (by rw [c64] <;> rfl) (by decide) ?_
    refine lv_lload hx hb dX9_access_89 (lv_at hl 1 rfl) ?_
    refine lv_lconst (v := 0) hx hb dX9_access_91 (by decide) ?_
    refine W.lcmp hx hb dX9_access_92 ?_
    refine lv_if_lt (tgt := 118) hx hb dX9_access_93 (by decide) (fun c65 => ?_) (fun c65 => ?_)
    · have h := i_yes c65 h
      refine lv_iconst (v := 4) hx hb dX9_access_118 (by decide) ?_
      cases h
      exact r_iret hC hw dX9_access_119
    · have h := i_no c65 h
      refine lv_lload hx hb dX9_access_96 (lv_at hl 0 rfl) ?_
      refine lv_aload_n hx hb dX9_access_98 rfl (lv_at hl 2 rfl) ?_
      obtain ⟨o66, ho69, h⟩ := rq_i h
      refine r_getR hC hw kc_8 hi0 12 rfl lk_1081 dX9_access_99 rfl ho69 (fun a67 hi68 => ?_)
      refine lv_aload_n hx hb dX9_access_102 rfl (lv_at hl 2 rfl) ?_
      obtain ⟨o70, ho73, h⟩ := rq_i h
      refine r_getR hC hw kc_8 hi0 43 rfl lk_1112 dX9_access_103 rfl ho73 (fun a71 hi72 => ?_)
      refine lv_iload_n hx hb dX9_access_106 rfl (lv_at hl 3 rfl) ?_
      obtain ⟨hn74, h⟩ := ix_i h
      refine r_iald hC hw hi72 hn74 dX9_access_107 ?_
      obtain ⟨hn75, h⟩ := ix_i h
      refine r_iald hC hw hi68 hn75 dX9_access_108 ?_
      refine lv_i2l (v := (gI D o66 (gI D o70 x1.toNatClampNeg).toNatClampNeg).toInt64) hx hb dX9_access_109 rfl ?_
      refine W.lcmp hx hb dX9_access_110 ?_
      refine lv_if_gt (tgt := 118) hx hb dX9_access_111 (by decide) (fun c76 => ?_) (fun c76 => ?_)
      · have h := i_yes c76 h
        refine lv_iconst (v := 4) hx hb dX9_access_118 (by decide) ?_
        cases h
        exact r_iret hC hw dX9_access_119
      · have h := i_no c76 h
        refine lv_iconst (v := 0) hx hb dX9_access_114 (by decide) ?_
        refine lv_goto (tgt := 119) hx hb dX9_access_115 (by decide) ?_
        cases h
        exact r_iret hC hw dX9_access_119
  have h := i_no c64 h
  refine lv_tableOut (tgt := 145) hx hb dX9_access_31 (by have nc56 := lv_neT c56 (a := 2) rfl; have nc60 := lv_neT c60 (a := 3) rfl; have nc63 := lv_neT c63 (a := 4) rfl; have nc64 := lv_neT c64 (a := 5) rfl; omega) (by decide) ?_
  refine lv_iconst (v := 3) hx hb dX9_access_145 (by decide) ?_
  cases h
  exact r_iret hC hw dX9_access_146
set_option maxHeartbeats 4000000 in
set_option maxRecDepth 100000 in
theorem k_X9_access {l : Launch} {G : va_G} {cA : Nat → ClassId} {S : sh} {D D' : dt} {ad : Nat → Nat} (sz : Nat) {o0 a0 : Nat} {x1 : Int32} {x2 : Int32} {x3 : Int32} {x4 : Int32} {r : Int32} (hi0 : Is S ad o0 a0 8) (h : f_X9_access S o0 x1 x2 x3 x4 D = some (r, D')) : Co l yX9_access (Cond.code yX9_access cX9_access 9 (some .int) :: tb0) 0 0 [.ref a0, .int x1, .int x2, .int x3, .int x4] G cA S D ad sz (some (.int r)) True D' := by
  refine Met.ofW (cc := cX9_access) (maxL := 9) (ret := (some .int)) (by decide) rfl ?_
  intro p e s m args below meth c s₁ B hml hv
  obtain ⟨rfl, hsz, hP, hK, hD0, hT, hX⟩ := hv
  subst hsz
  have hts := atoms_spec (ws := Cond.code yX9_access cX9_access 9 (some .int) :: tb0) B.pre
  have hC : Cx RX9 cX9_access 9 (some .int) p s m _ meth c := ⟨B.exec, B.bytes, hml, findClass_of_methodNamed B.named, fun w q => hts w (List.mem_cons_of_mem _ q), B.returns, B.notSynchronized⟩
  have hw := Wd.entry hP hK hD0 hT hX
  have hl := lv_entry ([.ref a0, .int x1, .int x2, .int x3, .int x4]) (n := 9) (Nat.le_of_ble_eq_true rfl)
  rw [lg_entry_eq]
  exact w_X9_access_0 hC ⟨Nat.le_refl _, Nat.le_refl _⟩ o0 a0 x1 x2 x3 x4 D _ _ _ hi0 hw hl h
set_option maxHeartbeats 4000000 in
set_option maxRecDepth 100000 in
theorem w_X9_areKnown_32 {r : Int32} {D' : dt} (hC : Cx RX9 cX9_areKnown 5 (some .boolean) p s m args meth c) (hR : 0 ≤ R.frames ∧ 0 ≤ R.locals) {k5 : Nat → Int32 → Int32 → Int32 → Int32 → dt → Option (Int32 × dt)} (hk5 : ∀ (o0 a0 : Nat) (x1 : Int32) (x2 : Int32) (x3 : Int32) (x4 : Int32) (D : dt) (H : Heap) (locs : List Loc) (ls : Array Slot), Is S ad o0 a0 8 → Wd G cA S D ad A s H locs → lv_has ls 5 [(0, .ref a0), (1, .int x1), (2, .int x2), (3, .int x3), (4, .int x4)] → k5 o0 x1 x2 x3 x4 D = some (r, D') → W p l e R s m args below meth c H locs 0 0 (MQ below (Qn (some (.int r)) True (wpost G cA S D' ad A) A) args s 0 0 A) (F0 m 5 ls [])) : ∀ (o0 a0 : Nat) (x1 : Int32) (x2 : Int32) (x4 : Int32) (xs0 : Int32) (D : dt) (H : Heap) (locs : List Loc) (ls : Array Slot), Is S ad o0 a0 8 → Wd G cA S D ad A s H locs → lv_has ls 5 [(0, .ref a0), (1, .int x1), (2, .int x2), (4, .int x4)] → f_X9_areKnown_32 S k5 o0 x1 x2 x4 xs0 D = some (r, D') → W p l e R s m args below meth c H locs 0 0 (MQ below (Qn (some (.int r)) True (wpost G cA S D' ad A) A) args s 0 0 A) (F0 m 32 ls [.int xs0]) := by
  obtain ⟨hx, hb, -⟩ := id hC
  intro o0 a0 x1 x2 x4 xs0 D H locs ls hi0 hw hl h
  unfold f_X9_areKnown_32 at h
  refine lv_istore_n (lv' := [(3, .int xs0), (0, .ref a0), (1, .int x1), (2, .int x2), (4, .int x4)]) hx hb dX9_areKnown_32 rfl hl (by decide) rfl (fun ls hl => ?_)
  obtain ⟨y12, ey12⟩ : ∃ z : Int32, z = x4 + 1 := ⟨_, rfl⟩
  have h := nm_i h y12 ey12
  refine lv_iinc (v := y12) (lv' := [(4, .int y12), (3, .int xs0), (0, .ref a0), (1, .int x1), (2, .int x2)]) hx hb dX9_areKnown_33 hl (k := 4) rfl (by rw [ey12]; rfl) (by decide) rfl (fun ls hl => ?_)
  refine lv_goto (tgt := 5) hx hb dX9_areKnown_36 (by decide) ?_
  exact hk5 o0 a0 x1 x2 xs0 y12 _ _ _ _ hi0 hw (lv_sub hl [2, 3, 4, 1, 0] rfl) h
set_option maxHeartbeats 4000000 in
set_option maxRecDepth 100000 in
theorem w_X9_areKnown_31 {r : Int32} {D' : dt} (hC : Cx RX9 cX9_areKnown 5 (some .boolean) p s m args meth c) (hR : 0 ≤ R.frames ∧ 0 ≤ R.locals) {k5 : Nat → Int32 → Int32 → Int32 → Int32 → dt → Option (Int32 × dt)} (hk5 : ∀ (o0 a0 : Nat) (x1 : Int32) (x2 : Int32) (x3 : Int32) (x4 : Int32) (D : dt) (H : Heap) (locs : List Loc) (ls : Array Slot), Is S ad o0 a0 8 → Wd G cA S D ad A s H locs → lv_has ls 5 [(0, .ref a0), (1, .int x1), (2, .int x2), (3, .int x3), (4, .int x4)] → k5 o0 x1 x2 x3 x4 D = some (r, D') → W p l e R s m args below meth c H locs 0 0 (MQ below (Qn (some (.int r)) True (wpost G cA S D' ad A) A) args s 0 0 A) (F0 m 5 ls [])) : ∀ (o0 a0 : Nat) (x1 : Int32) (x2 : Int32) (x4 : Int32) (D : dt) (H : Heap) (locs : List Loc) (ls : Array Slot), Is S ad o0 a0 8 → Wd G cA S D ad A s H locs → lv_has ls 5 [(0, .ref a0), (1, .int x1), (2, .int x2), (4, .int x4)] → f_X9_areKnown_31 S k5 o0 x1 x2 x4 D = some (r, D') → W p l e R s m args below meth c H locs 0 0 (MQ below (Qn (some (.int r)) True (wpost G cA S D' ad A) A) args s 0 0 A) (F0 m 31 ls []) := by
  obtain ⟨hx, hb, -⟩ := id hC
  intro o0 a0 x1 x2 x4 D H locs ls hi0 hw hl h
  unfold f_X9_areKnown_31 at h
  refine lv_iconst (v := 0) hx hb dX9_areKnown_31 (by decide) ?_
  exact w_X9_areKnown_32 hC hR hk5 o0 a0 x1 x2 x4 (0 : Int32) _ _ _ _ hi0 hw (lv_sub hl [0, 1, 2, 3] rfl) h
set_option maxHeartbeats 4000000 in
set_option maxRecDepth 100000 in
theorem w_X9_areKnown_5 {r : Int32} {D' : dt} (hC : Cx RX9 cX9_areKnown 5 (some .boolean) p s m args meth c) (hR : 0 ≤ R.frames ∧ 0 ≤ R.locals) : ∀ (n : Nat), ∀ (o0 a0 : Nat) (x1 : Int32) (x2 : Int32) (x3 : Int32) (x4 : Int32) (D : dt) (H : Heap) (locs : List Loc) (ls : Array Slot), Is S ad o0 a0 8 → Wd G cA S D ad A s H locs → lv_has ls 5 [(0, .ref a0), (1, .int x1), (2, .int x2), (3, .int x3), (4, .int x4)] → f_X9_areKnown_5 S n o0 x1 x2 x3 x4 D = some (r, D') → W p l e R s m args below meth c H locs 0 0 (MQ below (Qn (some (.int r)) True (wpost G cA S D' ad A) A) args s 0 0 A) (F0 m 5 ls []) := by
  obtain ⟨hx, hb, -⟩ := id hC
  intro n
  induction n with
  | zero =>
    intro o0 a0 x1 x2 x3 x4 D H locs ls hi0 hw hl h
    rw [f_X9_areKnown_5.eq_1] at h
    cases h
  | succ n ih =>
    intro o0 a0 x1 x2 x3 x4 D H locs ls hi0 hw hl h
    rw [f_X9_areKnown_5.eq_2] at h
    refine lv_iload hx hb dX9_areKnown_5 (lv_at hl 4 rfl) ?_
    refine lv_iload_n hx hb dX9_areKnown_7 rfl (lv_at hl 1 rfl) ?_
    refine lv_iload_n hx hb dX9_areKnown_8 rfl (lv_at hl 2 rfl) ?_
    refine lv_iadd hx hb dX9_areKnown_9 ?_
    refine lv_icmp_ge (tgt := 39) hx hb dX9_areKnown_10 (by decide) (fun c13 => ?_) (fun c13 => ?_)
    · have h := i_yes c13 h
      refine lv_iload_n hx hb dX9_areKnown_39 rfl (lv_at hl 3 rfl) ?_
      obtain ⟨hz14, h⟩ := ck_i h
      cases h
      exact r_zret hC hw hz14 dX9_areKnown_40
    · have h := i_no c13 h
      refine lv_iload_n hx hb dX9_areKnown_13 rfl (lv_at hl 3 rfl) ?_
      refine lv_if_eq (tgt := 31) hx hb dX9_areKnown_14 (by decide) (fun c15 => ?_) (fun c15 => ?_)
      · have h := i_yes c15 h
        exact w_X9_areKnown_31 hC hR ih o0 a0 x1 x2 x4 _ _ _ _ hi0 hw (lv_sub hl [0, 1, 2, 4] rfl) h
      · have h := i_no c15 h
        refine lv_aload_n hx hb dX9_areKnown_17 rfl (lv_at hl 0 rfl) ?_
        obtain ⟨o16, ho19, h⟩ := rq_i h
        refine r_getR hC hw kc_8 hi0 45 rfl lk_1114 dX9_areKnown_18 rfl ho19 (fun a17 hi18 => ?_)
        refine lv_iload hx hb dX9_areKnown_21 (lv_at hl 4 rfl) ?_
        obtain ⟨hn20, h⟩ := ix_i h
        refine r_zald hC hw hi18 hn20 dX9_areKnown_23 ?_
        refine lv_if_eq (tgt := 31) hx hb dX9_areKnown_24 (by decide) (fun c21 => ?_) (fun c21 => ?_)
        · have h := i_yes c21 h
          exact w_X9_areKnown_31 hC hR ih o0 a0 x1 x2 x4 _ _ _ _ hi0 hw (lv_sub hl [0, 1, 2, 4] rfl) h
        · have h := i_no c21 h
          refine lv_iconst (v := 1) hx hb dX9_areKnown_27 (by decide) ?_
          refine lv_goto (tgt := 32) hx hb dX9_areKnown_28 (by decide) ?_
          exact w_X9_areKnown_32 hC hR ih o0 a0 x1 x2 x4 (1 : Int32) _ _ _ _ hi0 hw (lv_sub hl [0, 1, 2, 4] rfl) h
set_option maxHeartbeats 4000000 in
set_option maxRecDepth 100000 in
theorem w_X9_areKnown_0 {r : Int32} {D' : dt} (hC : Cx RX9 cX9_areKnown 5 (some .boolean) p s m args meth c) (hR : 0 ≤ R.frames ∧ 0 ≤ R.locals) : ∀ (o0 a0 : Nat) (x1 : Int32) (x2 : Int32) (D : dt) (H : Heap) (locs : List Loc) (ls : Array Slot), Is S ad o0 a0 8 → Wd G cA S D ad A s H locs → lv_has ls 5 [(0, .ref a0), (1, .int x1), (2, .int x2)] → f_X9_areKnown S o0 x1 x2 D = some (r, D') → W p l e R s m args below meth c H locs 0 0 (MQ below (Qn (some (.int r)) True (wpost G cA S D' ad A) A) args s 0 0 A) (F0 m 0 ls []) := by
  obtain ⟨hx, hb, -⟩ := id hC
  intro o0 a0 x1 x2 D H locs ls hi0 hw hl h
  unfold f_X9_areKnown at h
  refine lv_iconst (v := 1) hx hb dX9_areKnown_0 (by decide) ?_
  refine lv_topi (fun y22 ey22 => ?_)
  have h := nm_i h y22 ey22
  refine lv_istore_n (lv' := [(3, .int y22), (0, .ref a0), (1, .int x1), (2, .int x2)]) hx hb dX9_areKnown_1 rfl hl (by decide) rfl (fun ls hl => ?_)
  refine lv_iload_n hx hb dX9_areKnown_2 rfl (lv_at hl 2 rfl) ?_
  refine lv_istore (lv' := [(4, .int x1), (3, .int y22), (0, .ref a0), (1, .int x1), (2, .int x2)]) hx hb dX9_areKnown_3 hl (by decide) rfl (fun ls hl => ?_)
  exact w_X9_areKnown_5 hC hR LF o0 a0 x1 x2 y22 x1 _ _ _ _ hi0 hw (lv_sub hl [2, 3, 4, 1, 0] rfl) h
set_option maxHeartbeats 4000000 in
set_option maxRecDepth 100000 in
theorem k_X9_areKnown {l : Launch} {G : va_G} {cA : Nat → ClassId} {S : sh} {D D' : dt} {ad : Nat → Nat} (sz : Nat) {o0 a0 : Nat} {x1 : Int32} {x2 : Int32} {r : Int32} (hi0 : Is S ad o0 a0 8) (h : f_X9_areKnown S o0 x1 x2 D = some (r, D')) : Co l yX9_areKnown (Cond.code yX9_areKnown cX9_areKnown 5 (some .boolean) :: tb0) 0 0 [.ref a0, .int x1, .int x2] G cA S D ad sz (some (.int r)) True D' := by
  refine Met.ofW (cc := cX9_areKnown) (maxL := 5) (ret := (some .boolean)) (by decide) rfl ?_
  intro p e s m args below meth c s₁ B hml hv
  obtain ⟨rfl, hsz, hP, hK, hD0, hT, hX⟩ := hv
  subst hsz
  have hts := atoms_spec (ws := Cond.code yX9_areKnown cX9_areKnown 5 (some .boolean) :: tb0) B.pre
  have hC : Cx RX9 cX9_areKnown 5 (some .boolean) p s m _ meth c := ⟨B.exec, B.bytes, hml, findClass_of_methodNamed B.named, fun w q => hts w (List.mem_cons_of_mem _ q), B.returns, B.notSynchronized⟩
  have hw := Wd.entry hP hK hD0 hT hX
  have hl := lv_entry ([.ref a0, .int x1, .int x2]) (n := 5) (Nat.le_of_ble_eq_true rfl)
  rw [lg_entry_eq]
  exact w_X9_areKnown_0 hC ⟨Nat.le_refl _, Nat.le_refl _⟩ o0 a0 x1 x2 D _ _ _ hi0 hw hl h
set_option maxHeartbeats 4000000 in
set_option maxRecDepth 100000 in
theorem w_X9_reads_47 {r : Int32} {D' : dt} (hC : Cx RX9 cX9_reads 5 (some .int) p s m args meth c) (hR : 1 ≤ R.frames ∧ 28 ≤ R.locals) : ∀ (x3 : Int32) (xs0 : Int32) (D : dt) (H : Heap) (locs : List Loc) (ls : Array Slot), Wd G cA S D ad A s H locs → lv_has ls 5 [(3, .int x3)] → f_X9_reads_47 S x3 xs0 D = some (r, D') → W p l e R s m args below meth c H locs 0 0 (MQ below (Qn (some (.int r)) True (wpost G cA S D' ad A) A) args s 0 0 A) (F0 m 47 ls [.int xs0]) := by
  obtain ⟨hx, hb, -⟩ := id hC
  intro x3 xs0 D H locs ls  hw hl h
  unfold f_X9_reads_47 at h
  refine lv_istore (lv' := [(4, .int xs0), (3, .int x3)]) hx hb dX9_reads_47 hl (by decide) rfl (fun ls hl => ?_)
  refine lv_iload hx hb dX9_reads_49 (lv_at hl 0 rfl) ?_
  refine lv_if_eq (tgt := 58) hx hb dX9_reads_51 (by decide) (fun c21 => ?_) (fun c21 => ?_)
  · have h := i_yes c21 h
    refine lv_iload_n hx hb dX9_reads_58 rfl (lv_at hl 1 rfl) ?_
    cases h
    exact r_iret hC hw dX9_reads_59
  · have h := i_no c21 h
    refine lv_iconst (v := 4) hx hb dX9_reads_54 (by decide) ?_
    refine lv_goto (tgt := 59) hx hb dX9_reads_55 (by decide) ?_
    cases h
    exact r_iret hC hw dX9_reads_59
set_option maxHeartbeats 4000000 in
set_option maxRecDepth 100000 in
theorem w_X9_reads_46 {r : Int32} {D' : dt} (hC : Cx RX9 cX9_reads 5 (some .int) p s m args meth c) (hR : 1 ≤ R.frames ∧ 28 ≤ R.locals) : ∀ (x3 : Int32) (D : dt) (H : Heap) (locs : List Loc) (ls : Array Slot), Wd G cA S D ad A s H locs → lv_has ls 5 [(3, .int x3)] → f_X9_reads_46 S x3 D = some (r, D') → W p l e R s m args below meth c H locs 0 0 (MQ below (Qn (some (.int r)) True (wpost G cA S D' ad A) A) args s 0 0 A) (F0 m 46 ls []) := by
  obtain ⟨hx, hb, -⟩ := id hC
  intro x3 D H locs ls  hw hl h
  unfold f_X9_reads_46 at h
  refine lv_iconst (v := 0) hx hb dX9_reads_46 (by decide) ?_
  exact w_X9_reads_47 hC hR x3 (0 : Int32) _ _ _ _ hw (lv_sub hl [0] rfl) h
set_option maxHeartbeats 4000000 in
set_option maxRecDepth 100000 in
theorem w_X9_reads_0 {r : Int32} {D' : dt} (hC : Cx RX9 cX9_reads 5 (some .int) p s m args meth c) (hR : 1 ≤ R.frames ∧ 28 ≤ R.locals) : ∀ (o0 a0 : Nat) (x1 : Int32) (x2 : Int32) (D : dt) (H : Heap) (locs : List Loc) (ls : Array Slot), Is S ad o0 a0 8 → Wd G cA S D ad A s H locs → lv_has ls 5 [(0, .ref a0), (1, .int x1), (2, .int x2)] → f_X9_reads S o0 x1 x2 D = some (r, D') → W p l e R s m args below meth c H locs 0 0 (MQ below (Qn (some (.int r)) True (wpost G cA S D' ad A) A) args s 0 0 A) (F0 m 0 ls []) := by
  obtain ⟨hx, hb, -⟩ := id hC
  intro o0 a0 x1 x2 D H locs ls hi0 hw hl h
  unfold f_X9_reads at h
  refine lv_aload_n hx hb dX9_reads_0 rfl (lv_at hl 0 rfl) ?_
  refine lv_iload_n hx hb dX9_reads_1 rfl (lv_at hl 1 rfl) ?_
  refine lv_iconst (v := 0) hx hb dX9_reads_2 (by decide) ?_
  refine lv_iload_n hx hb dX9_reads_3 rfl (lv_at hl 2 rfl) ?_
  refine lv_iconst (v := 0) hx hb dX9_reads_4 (by decide) ?_
  obtain ⟨r23, D24, hq22, h⟩ := cq_i h
  refine r_cV (st' := [.int r23]) [.int x1, .int (0 : Int32), .int x2, .int (0 : Int32)] [] hC hw kc_8 hi0 (k_X9_access _ hi0 hq22) mk_X9_access lk_1558 ⟨Nat.le_trans (by decide) hR.1, Nat.le_trans (by decide) hR.2⟩ ⟨Nat.zero_le _, Nat.zero_le _⟩ rfl hl.1 rfl rfl (Nat.le_of_ble_eq_true rfl) dX9_reads_5 (fun hP H locs hw => ?_)
  refine lv_istore_n (lv' := [(3, .int r23), (0, .ref a0), (1, .int x1), (2, .int x2)]) hx hb dX9_reads_8 rfl hl (by decide) rfl (fun ls hl => ?_)
  refine lv_iload_n hx hb dX9_reads_9 rfl (lv_at hl 0 rfl) ?_
  refine lv_if_ne (tgt := 46) hx hb dX9_reads_10 (by decide) (fun c25 => ?_) (fun c25 => ?_)
  · have h := i_no c25 h
    exact w_X9_reads_46 hC hR r23 _ _ _ _ hw (lv_sub hl [0] rfl) h
  · have h := i_yes c25 h
    refine lv_aload_n hx hb dX9_reads_13 rfl (lv_at hl 1 rfl) ?_
    obtain ⟨o26, ho29, h⟩ := rq_i h
    refine r_getR hC hw kc_8 hi0 40 rfl lk_1109 dX9_reads_14 rfl ho29 (fun a27 hi28 => ?_)
    refine lv_iload_n hx hb dX9_reads_17 rfl (lv_at hl 2 rfl) ?_
    obtain ⟨hn30, h⟩ := ix_i h
    refine r_iald hC hw hi28 hn30 dX9_reads_18 ?_
    refine lv_iconst (v := 3) hx hb dX9_reads_19 (by decide) ?_
    refine lv_icmp_ne (tgt := 46) hx hb dX9_reads_20 (by decide) (fun c31 => ?_) (fun c31 => ?_)
    · have h := i_no c31 h
      exact w_X9_reads_46 hC hR r23 _ _ _ _ hw (lv_sub hl [0] rfl) h
    · have h := i_yes c31 h
      refine lv_aload_n hx hb dX9_reads_23 rfl (lv_at hl 1 rfl) ?_
      refine lv_aload_n hx hb dX9_reads_24 rfl (lv_at hl 1 rfl) ?_
      obtain ⟨o32, ho35, h⟩ := rq_i h
      refine r_getR hC hw kc_8 hi0 41 rfl lk_1110 dX9_reads_25 rfl ho35 (fun a33 hi34 => ?_)
      refine lv_iload_n hx hb dX9_reads_28 rfl (lv_at hl 2 rfl) ?_
      obtain ⟨hn36, h⟩ := ix_i h
      refine r_lald hC hw hi34 hn36 dX9_reads_29 ?_
      refine lv_l2i (v := (gL D24 o32 x1.toNatClampNeg).toInt32) hx hb dX9_reads_30 rfl ?_
      refine lv_sipush (v := 512) hx hb dX9_reads_31 (by decide) ?_
      refine lv_iadd hx hb dX9_reads_34 ?_
      refine lv_iload_n hx hb dX9_reads_35 rfl (lv_at hl 3 rfl) ?_
      obtain ⟨r38, D39, hq37, h⟩ := cq_i h
      refine r_cV (st' := [.int r38]) [.int (((gL D24 o32 x1.toNatClampNeg).toInt32) + (512 : Int32)), .int x2] [] hC hw kc_8 hi0 (k_X9_areKnown _ hi0 hq37) mk_X9_areKnown lk_1563 ⟨Nat.le_trans (by decide) hR.1, Nat.le_trans (by decide) hR.2⟩ ⟨Nat.zero_le _, Nat.zero_le _⟩ rfl hl.1 rfl rfl (Nat.le_of_ble_eq_true rfl) dX9_reads_36 (fun hP H locs hw => ?_)
      refine lv_if_ne (tgt := 46) hx hb dX9_reads_39 (by decide) (fun c40 => ?_) (fun c40 => ?_)
      · have h := i_no c40 h
        exact w_X9_reads_46 hC hR r23 _ _ _ _ hw (lv_sub hl [0] rfl) h
      · have h := i_yes c40 h
        refine lv_iconst (v := 1) hx hb dX9_reads_42 (by decide) ?_
        refine lv_goto (tgt := 47) hx hb dX9_reads_43 (by decide) ?_
        exact w_X9_reads_47 hC hR r23 (1 : Int32) _ _ _ _ hw (lv_sub hl [0] rfl) h
set_option maxHeartbeats 4000000 in
set_option maxRecDepth 100000 in
theorem k_X9_reads {l : Launch} {G : va_G} {cA : Nat → ClassId} {S : sh} {D D' : dt} {ad : Nat → Nat} (sz : Nat) {o0 a0 : Nat} {x1 : Int32} {x2 : Int32} {r : Int32} (hi0 : Is S ad o0 a0 8) (h : f_X9_reads S o0 x1 x2 D = some (r, D')) : Co l yX9_reads (Cond.code yX9_reads cX9_reads 5 (some .int) :: tb0) 1 28 [.ref a0, .int x1, .int x2] G cA S D ad sz (some (.int r)) True D' := by
  refine Met.ofW (cc := cX9_reads) (maxL := 5) (ret := (some .int)) (by decide) rfl ?_
  intro p e s m args below meth c s₁ B hml hv
  obtain ⟨rfl, hsz, hP, hK, hD0, hT, hX⟩ := hv
  subst hsz
  have hts := atoms_spec (ws := Cond.code yX9_reads cX9_reads 5 (some .int) :: tb0) B.pre
  have hC : Cx RX9 cX9_reads 5 (some .int) p s m _ meth c := ⟨B.exec, B.bytes, hml, findClass_of_methodNamed B.named, fun w q => hts w (List.mem_cons_of_mem _ q), B.returns, B.notSynchronized⟩
  have hw := Wd.entry hP hK hD0 hT hX
  have hl := lv_entry ([.ref a0, .int x1, .int x2]) (n := 5) (Nat.le_of_ble_eq_true rfl)
  rw [lg_entry_eq]
  exact w_X9_reads_0 hC ⟨Nat.le_refl _, Nat.le_refl _⟩ o0 a0 x1 x2 D _ _ _ hi0 hw hl h
set_option maxHeartbeats 4000000 in
set_option maxRecDepth 100000 in
theorem w_X9_lookCall_229 {r : Int32} {D' : dt} (hC : Cx RX9 cX9_lookCall 7 (some .int) p s m args meth c) (hR : 2 ≤ R.frames ∧ 52 ≤ R.locals) : ∀ (n : Nat), ∀ (o0 a0 : Nat) (x5 : Int32) (D : dt) (H : Heap) (locs : List Loc) (ls : Array Slot), Is S ad o0 a0 8 → Wd G cA S D ad A s H locs → lv_has ls 7 [(0, .ref a0), (5, .int x5)] → f_X9_lookCall_229 S n o0 x5 D = some (r, D') → W p l e R s m args below meth c H locs 0 0 (MQ below (Qn (some (.int r)) True (wpost G cA S D' ad A) A) args s 0 0 A) (F0 m 229 ls []) := by
  obtain ⟨hx, hb, -⟩ := id hC
  intro n
  induction n with
  | zero =>
    intro o0 a0 x5 D H locs ls hi0 hw hl h
    rw [f_X9_lookCall_229.eq_1] at h
    cases h
  | succ n ih =>
    intro o0 a0 x5 D H locs ls hi0 hw hl h
    rw [f_X9_lookCall_229.eq_2] at h
    refine lv_iload hx hb dX9_lookCall_229 (lv_at hl 1 rfl) ?_
    refine lv_bipush (v := 6) hx hb dX9_lookCall_231 (by decide) ?_
    refine lv_icmp_ge (tgt := 248) hx hb dX9_lookCall_233 (by decide) (fun c90 => ?_) (fun c90 => ?_)
    · have h := i_yes c90 h
      refine lv_iconst (v := 0) hx hb dX9_lookCall_248 (by decide) ?_
      cases h
      exact r_iret hC hw dX9_lookCall_249
    · have h := i_no c90 h
      refine lv_aload_n hx hb dX9_lookCall_236 rfl (lv_at hl 0 rfl) ?_
      refine lv_iload hx hb dX9_lookCall_237 (lv_at hl 1 rfl) ?_
      obtain ⟨_, D92, hq91, h⟩ := cq_i h
      refine r_cV (st' := []) [.int x5] [] hC hw kc_8 hi0 (k_X9_forget _ hi0 hq91) mk_X9_forget lk_1451 ⟨Nat.le_trans (by decide) hR.1, Nat.le_trans (by decide) hR.2⟩ ⟨Nat.zero_le _, Nat.zero_le _⟩ rfl hl.1 rfl rfl (Nat.le_of_ble_eq_true rfl) dX9_lookCall_239 (fun hP H locs hw => ?_)
      obtain ⟨y93, ey93⟩ : ∃ z : Int32, z = x5 + 1 := ⟨_, rfl⟩
      have h := nm_i h y93 ey93
      refine lv_iinc (v := y93) (lv' := [(5, .int y93), (0, .ref a0)]) hx hb dX9_lookCall_242 hl (k := 1) rfl (by rw [ey93]; rfl) (by decide) rfl (fun ls hl => ?_)
      refine lv_goto (tgt := 229) hx hb dX9_lookCall_245 (by decide) ?_
      exact ih o0 a0 y93 _ _ _ _ hi0 hw (lv_sub hl [1, 0] rfl) h
set_option maxHeartbeats 4000000 in
set_option maxRecDepth 100000 in
theorem w_X9_lookCall_226 {r : Int32} {D' : dt} (hC : Cx RX9 cX9_lookCall 7 (some .int) p s m args meth c) (hR : 2 ≤ R.frames ∧ 52 ≤ R.locals) : ∀ (o0 a0 : Nat) (D : dt) (H : Heap) (locs : List Loc) (ls : Array Slot), Is S ad o0 a0 8 → Wd G cA S D ad A s H locs → lv_has ls 7 [(0, .ref a0)] → f_X9_lookCall_226 S o0 D = some (r, D') → W p l e R s m args below meth c H locs 0 0 (MQ below (Qn (some (.int r)) True (wpost G cA S D' ad A) A) args s 0 0 A) (F0 m 226 ls []) := by
  obtain ⟨hx, hb, -⟩ := id hC
  intro o0 a0 D H locs ls hi0 hw hl h
  unfold f_X9_lookCall_226 at h
  refine lv_iconst (v := 1) hx hb dX9_lookCall_226 (by decide) ?_
  refine lv_topi (fun y94 ey94 => ?_)
  have h := nm_i h y94 ey94
  refine lv_istore (lv' := [(5, .int y94), (0, .ref a0)]) hx hb dX9_lookCall_227 hl (by decide) rfl (fun ls hl => ?_)
  exact w_X9_lookCall_229 hC hR LF o0 a0 y94 _ _ _ _ hi0 hw (lv_sub hl [1, 0] rfl) h
set_option maxHeartbeats 4000000 in
set_option maxRecDepth 100000 in
theorem w_X9_lookCall_181 {r : Int32} {D' : dt} (hC : Cx RX9 cX9_lookCall 7 (some .int) p s m args meth c) (hR : 2 ≤ R.frames ∧ 52 ≤ R.locals) : ∀ (o0 a0 : Nat) (x1 : Int32) (x2 : Int32) (x4 : Int32) (D : dt) (H : Heap) (locs : List Loc) (ls : Array Slot), Is S ad o0 a0 8 → Wd G cA S D ad A s H locs → lv_has ls 7 [(0, .ref a0), (1, .int x1), (2, .int x2), (4, .int x4)] → f_X9_lookCall_181 S o0 x1 x2 x4 D = some (r, D') → W p l e R s m args below meth c H locs 0 0 (MQ below (Qn (some (.int r)) True (wpost G cA S D' ad A) A) args s 0 0 A) (F0 m 181 ls []) := by
  obtain ⟨hx, hb, -⟩ := id hC
  intro o0 a0 x1 x2 x4 D H locs ls hi0 hw hl h
  unfold f_X9_lookCall_181 at h
  refine lv_iload_n hx hb dX9_lookCall_181 rfl (lv_at hl 2 rfl) ?_
  refine lv_iconst (v := 1) hx hb dX9_lookCall_182 (by decide) ?_
  refine lv_icmp_ne (tgt := 217) hx hb dX9_lookCall_183 (by decide) (fun c95 => ?_) (fun c95 => ?_)
  · have h := i_no c95 h
    refine lv_aload_n hx hb dX9_lookCall_217 rfl (lv_at hl 0 rfl) ?_
    refine lv_iconst (v := 0) hx hb dX9_lookCall_218 (by decide) ?_
    refine lv_lconst (v := 0) hx hb dX9_lookCall_219 (by decide) ?_
    refine lv_ldc2 (v := (-1)) hx hb hC.2.2.2.1 (hC.2.2.2.2.1 _ lk_1362) dX9_lookCall_220 ?_
    obtain ⟨_, D97, hq96, h⟩ := cq_i h
    refine r_cV (st' := []) [.int (0 : Int32), .long (0 : Int64), .long (-1 : Int64)] [] hC hw kc_8 hi0 (k_X9_number _ hi0 hq96) mk_X9_number lk_1493 ⟨Nat.le_trans (by decide) hR.1, Nat.le_trans (by decide) hR.2⟩ ⟨Nat.zero_le _, Nat.zero_le _⟩ rfl hl.1 rfl rfl (Nat.le_of_ble_eq_true rfl) dX9_lookCall_223 (fun hP H locs hw => ?_)
    exact w_X9_lookCall_226 hC hR o0 a0 _ _ _ _ hi0 hw (lv_sub hl [0] rfl) h
  · have h := i_yes c95 h
    refine lv_aload_n hx hb dX9_lookCall_186 rfl (lv_at hl 0 rfl) ?_
    refine lv_iconst (v := 0) hx hb dX9_lookCall_187 (by decide) ?_
    obtain ⟨_, D99, hq98, h⟩ := cq_i h
    refine r_cV (st' := []) [.int (0 : Int32)] [] hC hw kc_8 hi0 (k_X9_forget _ hi0 hq98) mk_X9_forget lk_1451 ⟨Nat.le_trans (by decide) hR.1, Nat.le_trans (by decide) hR.2⟩ ⟨Nat.zero_le _, Nat.zero_le _⟩ rfl hl.1 rfl rfl (Nat.le_of_ble_eq_true rfl) dX9_lookCall_188 (fun hP H locs hw => ?_)
    refine lv_aload_n hx hb dX9_lookCall_191 rfl (lv_at hl 0 rfl) ?_
    obtain ⟨o100, ho103, h⟩ := rq_i h
    refine r_getR hC hw kc_8 hi0 40 rfl lk_1109 dX9_lookCall_192 rfl ho103 (fun a101 hi102 => ?_)
    refine lv_iconst (v := 0) hx hb dX9_lookCall_195 (by decide) ?_
    refine lv_bipush (v := 6) hx hb dX9_lookCall_196 (by decide) ?_
    obtain ⟨hn104, h⟩ := ix_i h
    refine r_ias hC hw hi102 hn104 dX9_lookCall_198 (fun D105 eD105 H locs hw => ?_)
    have h := nm_i h D105 eD105
    refine lv_aload_n hx hb dX9_lookCall_199 rfl (lv_at hl 0 rfl) ?_
    obtain ⟨o106, ho109, h⟩ := rq_i h
    refine r_getR hC hw kc_8 hi0 43 rfl lk_1112 dX9_lookCall_200 rfl ho109 (fun a107 hi108 => ?_)
    refine lv_iconst (v := 0) hx hb dX9_lookCall_203 (by decide) ?_
    refine lv_iload hx hb dX9_lookCall_204 (lv_at hl 3 rfl) ?_
    obtain ⟨hn110, h⟩ := ix_i h
    refine r_ias hC hw hi108 hn110 dX9_lookCall_206 (fun D111 eD111 H locs hw => ?_)
    have h := nm_i h D111 eD111
    refine lv_aload_n hx hb dX9_lookCall_207 rfl (lv_at hl 0 rfl) ?_
    obtain ⟨o112, ho115, h⟩ := rq_i h
    refine r_getR hC hw kc_8 hi0 44 rfl lk_1113 dX9_lookCall_208 rfl ho115 (fun a113 hi114 => ?_)
    refine lv_iconst (v := 0) hx hb dX9_lookCall_211 (by decide) ?_
    refine lv_iload_n hx hb dX9_lookCall_212 rfl (lv_at hl 1 rfl) ?_
    obtain ⟨hn116, h⟩ := ix_i h
    refine r_ias hC hw hi114 hn116 dX9_lookCall_213 (fun D117 eD117 H locs hw => ?_)
    have h := nm_i h D117 eD117
    refine lv_goto (tgt := 226) hx hb dX9_lookCall_214 (by decide) ?_
    exact w_X9_lookCall_226 hC hR o0 a0 _ _ _ _ hi0 hw (lv_sub hl [0] rfl) h
set_option maxHeartbeats 4000000 in
set_option maxRecDepth 100000 in
theorem w_X9_lookCall_169 {r : Int32} {D' : dt} (hC : Cx RX9 cX9_lookCall 7 (some .int) p s m args meth c) (hR : 2 ≤ R.frames ∧ 52 ≤ R.locals) : ∀ (o0 a0 : Nat) (x1 : Int32) (x2 : Int32) (x4 : Int32) (x5 : Int32) (x6 : Int32) (D : dt) (H : Heap) (locs : List Loc) (ls : Array Slot), Is S ad o0 a0 8 → Wd G cA S D ad A s H locs → lv_has ls 7 [(0, .ref a0), (1, .int x1), (2, .int x2), (4, .int x4), (5, .int x5), (6, .int x6)] → f_X9_lookCall_169 S o0 x1 x2 x4 x5 x6 D = some (r, D') → W p l e R s m args below meth c H locs 0 0 (MQ below (Qn (some (.int r)) True (wpost G cA S D' ad A) A) args s 0 0 A) (F0 m 169 ls []) := by
  obtain ⟨hx, hb, -⟩ := id hC
  intro o0 a0 x1 x2 x4 x5 x6 D H locs ls hi0 hw hl h
  unfold f_X9_lookCall_169 at h
  refine lv_iload hx hb dX9_lookCall_169 (lv_at hl 4 rfl) ?_
  refine lv_if_gt (tgt := 179) hx hb dX9_lookCall_171 (by decide) (fun c118 => ?_) (fun c118 => ?_)
  · have h := i_yes c118 h
    refine lv_iconst (v := 4) hx hb dX9_lookCall_179 (by decide) ?_
    cases h
    exact r_iret hC hw dX9_lookCall_180
  · have h := i_no c118 h
    refine lv_iload hx hb dX9_lookCall_174 (lv_at hl 5 rfl) ?_
    refine lv_if_le (tgt := 181) hx hb dX9_lookCall_176 (by decide) (fun c119 => ?_) (fun c119 => ?_)
    · have h := i_yes c119 h
      exact w_X9_lookCall_181 hC hR o0 a0 x1 x2 x4 _ _ _ _ hi0 hw (lv_sub hl [0, 1, 2, 3] rfl) h
    · have h := i_no c119 h
      refine lv_iconst (v := 4) hx hb dX9_lookCall_179 (by decide) ?_
      cases h
      exact r_iret hC hw dX9_lookCall_180
set_option maxHeartbeats 4000000 in
set_option maxRecDepth 100000 in
theorem w_X9_lookCall_138 {r : Int32} {D' : dt} (hC : Cx RX9 cX9_lookCall 7 (some .int) p s m args meth c) (hR : 2 ≤ R.frames ∧ 52 ≤ R.locals) : ∀ (o0 a0 : Nat) (x1 : Int32) (x2 : Int32) (x4 : Int32) (x5 : Int32) (xs0 : Int32) (D : dt) (H : Heap) (locs : List Loc) (ls : Array Slot), Is S ad o0 a0 8 → Wd G cA S D ad A s H locs → lv_has ls 7 [(0, .ref a0), (1, .int x1), (2, .int x2), (4, .int x4), (5, .int x5)] → f_X9_lookCall_138 S o0 x1 x2 x4 x5 xs0 D = some (r, D') → W p l e R s m args below meth c H locs 0 0 (MQ below (Qn (some (.int r)) True (wpost G cA S D' ad A) A) args s 0 0 A) (F0 m 138 ls [.int xs0]) := by
  obtain ⟨hx, hb, -⟩ := id hC
  intro o0 a0 x1 x2 x4 x5 xs0 D H locs ls hi0 hw hl h
  unfold f_X9_lookCall_138 at h
  refine lv_istore (lv' := [(6, .int xs0), (0, .ref a0), (1, .int x1), (2, .int x2), (4, .int x4), (5, .int x5)]) hx hb dX9_lookCall_138 hl (by decide) rfl (fun ls hl => ?_)
  refine lv_iload hx hb dX9_lookCall_140 (lv_at hl 5 rfl) ?_
  refine lv_iconst (v := 3) hx hb dX9_lookCall_142 (by decide) ?_
  refine lv_icmp_eq (tgt := 167) hx hb dX9_lookCall_143 (by decide) (fun c120 => ?_) (fun c120 => ?_)
  · have h := i_yes c120 h
    refine lv_iconst (v := 3) hx hb dX9_lookCall_167 (by decide) ?_
    cases h
    exact r_iret hC hw dX9_lookCall_168
  · have h := i_no c120 h
    refine lv_iload hx hb dX9_lookCall_146 (lv_at hl 0 rfl) ?_
    refine lv_iconst (v := 3) hx hb dX9_lookCall_148 (by decide) ?_
    refine lv_icmp_eq (tgt := 167) hx hb dX9_lookCall_149 (by decide) (fun c121 => ?_) (fun c121 => ?_)
    · have h := i_yes c121 h
      refine lv_iconst (v := 3) hx hb dX9_lookCall_167 (by decide) ?_
      cases h
      exact r_iret hC hw dX9_lookCall_168
    · have h := i_no c121 h
      refine lv_iload_n hx hb dX9_lookCall_152 rfl (lv_at hl 3 rfl) ?_
      refine lv_iconst (v := 2) hx hb dX9_lookCall_153 (by decide) ?_
      refine lv_icmp_ne (tgt := 169) hx hb dX9_lookCall_154 (by decide) (fun c122 => ?_) (fun c122 => ?_)
      · have h := i_no c122 h
        exact w_X9_lookCall_169 hC hR o0 a0 x1 x2 x4 x5 xs0 _ _ _ _ hi0 hw (lv_sub hl [1, 2, 3, 4, 5, 0] rfl) h
      · have h := i_yes c122 h
        refine lv_aload_n hx hb dX9_lookCall_157 rfl (lv_at hl 1 rfl) ?_
        obtain ⟨o123, ho126, h⟩ := rq_i h
        refine r_getR hC hw kc_8 hi0 40 rfl lk_1109 dX9_lookCall_158 rfl ho126 (fun a124 hi125 => ?_)
        refine lv_iconst (v := 4) hx hb dX9_lookCall_161 (by decide) ?_
        obtain ⟨hn127, h⟩ := ix_i h
        refine r_iald hC hw hi125 hn127 dX9_lookCall_162 ?_
        refine lv_iconst (v := 1) hx hb dX9_lookCall_163 (by decide) ?_
        refine lv_icmp_eq (tgt := 169) hx hb dX9_lookCall_164 (by decide) (fun c128 => ?_) (fun c128 => ?_)
        · have h := i_yes c128 h
          exact w_X9_lookCall_169 hC hR o0 a0 x1 x2 x4 x5 xs0 _ _ _ _ hi0 hw (lv_sub hl [1, 2, 3, 4, 5, 0] rfl) h
        · have h := i_no c128 h
          refine lv_iconst (v := 3) hx hb dX9_lookCall_167 (by decide) ?_
          cases h
          exact r_iret hC hw dX9_lookCall_168
set_option maxHeartbeats 4000000 in
set_option maxRecDepth 100000 in
theorem w_X9_lookCall_98 {r : Int32} {D' : dt} (hC : Cx RX9 cX9_lookCall 7 (some .int) p s m args meth c) (hR : 2 ≤ R.frames ∧ 52 ≤ R.locals) : ∀ (o0 a0 : Nat) (x1 : Int32) (x2 : Int32) (x4 : Int32) (D : dt) (H : Heap) (locs : List Loc) (ls : Array Slot), Is S ad o0 a0 8 → Wd G cA S D ad A s H locs → lv_has ls 7 [(0, .ref a0), (1, .int x1), (2, .int x2), (4, .int x4)] → f_X9_lookCall_98 S o0 x1 x2 x4 D = some (r, D') → W p l e R s m args below meth c H locs 0 0 (MQ below (Qn (some (.int r)) True (wpost G cA S D' ad A) A) args s 0 0 A) (F0 m 98 ls []) := by
  obtain ⟨hx, hb, -⟩ := id hC
  intro o0 a0 x1 x2 x4 D H locs ls hi0 hw hl h
  unfold f_X9_lookCall_98 at h
  refine lv_iload_n hx hb dX9_lookCall_98 rfl (lv_at hl 2 rfl) ?_
  refine lv_iconst (v := 4) hx hb dX9_lookCall_99 (by decide) ?_
  refine lv_icmp_ge (tgt := 181) hx hb dX9_lookCall_100 (by decide) (fun c129 => ?_) (fun c129 => ?_)
  · have h := i_yes c129 h
    exact w_X9_lookCall_181 hC hR o0 a0 x1 x2 x4 _ _ _ _ hi0 hw (lv_sub hl [0, 1, 2, 3] rfl) h
  · have h := i_no c129 h
    refine lv_aload_n hx hb dX9_lookCall_103 rfl (lv_at hl 0 rfl) ?_
    refine lv_iconst (v := 2) hx hb dX9_lookCall_104 (by decide) ?_
    refine lv_aload_n hx hb dX9_lookCall_105 rfl (lv_at hl 0 rfl) ?_
    obtain ⟨o130, ho133, h⟩ := rq_i h
    refine r_getR hC hw kc_8 hi0 11 rfl lk_1080 dX9_lookCall_106 rfl ho133 (fun a131 hi132 => ?_)
    refine lv_iload hx hb dX9_lookCall_109 (lv_at hl 3 rfl) ?_
    obtain ⟨hn134, h⟩ := ix_i h
    refine r_iald hC hw hi132 hn134 dX9_lookCall_111 ?_
    obtain ⟨r136, D137, hq135, h⟩ := cq_i h
    refine r_cV (st' := [.int r136]) [.int (2 : Int32), .int (gI D o130 x4.toNatClampNeg)] [] hC hw kc_8 hi0 (k_X9_reads _ hi0 hq135) mk_X9_reads lk_1554 ⟨Nat.le_trans (by decide) hR.1, Nat.le_trans (by decide) hR.2⟩ ⟨Nat.zero_le _, Nat.zero_le _⟩ rfl hl.1 rfl rfl (Nat.le_of_ble_eq_true rfl) dX9_lookCall_112 (fun hP H locs hw => ?_)
    refine lv_istore (lv' := [(5, .int r136), (0, .ref a0), (1, .int x1), (2, .int x2), (4, .int x4)]) hx hb dX9_lookCall_115 hl (by decide) rfl (fun ls hl => ?_)
    refine lv_iload_n hx hb dX9_lookCall_117 rfl (lv_at hl 3 rfl) ?_
    refine lv_iconst (v := 2) hx hb dX9_lookCall_118 (by decide) ?_
    refine lv_icmp_ne (tgt := 137) hx hb dX9_lookCall_119 (by decide) (fun c138 => ?_) (fun c138 => ?_)
    · have h := i_no c138 h
      refine lv_iconst (v := 0) hx hb dX9_lookCall_137 (by decide) ?_
      exact w_X9_lookCall_138 hC hR o0 a0 x1 x2 x4 r136 (0 : Int32) _ _ _ _ hi0 hw (lv_sub hl [1, 2, 3, 4, 0] rfl) h
    · have h := i_yes c138 h
      refine lv_aload_n hx hb dX9_lookCall_122 rfl (lv_at hl 1 rfl) ?_
      refine lv_iconst (v := 3) hx hb dX9_lookCall_123 (by decide) ?_
      refine lv_aload_n hx hb dX9_lookCall_124 rfl (lv_at hl 1 rfl) ?_
      obtain ⟨o139, ho142, h⟩ := rq_i h
      refine r_getR hC hw kc_8 hi0 12 rfl lk_1081 dX9_lookCall_125 rfl ho142 (fun a140 hi141 => ?_)
      refine lv_iload hx hb dX9_lookCall_128 (lv_at hl 4 rfl) ?_
      obtain ⟨hn143, h⟩ := ix_i h
      refine r_iald hC hw hi141 hn143 dX9_lookCall_130 ?_
      obtain ⟨r145, D146, hq144, h⟩ := cq_i h
      refine r_cV (st' := [.int r145]) [.int (3 : Int32), .int (gI D137 o139 x4.toNatClampNeg)] [] hC hw kc_8 hi0 (k_X9_reads _ hi0 hq144) mk_X9_reads lk_1554 ⟨Nat.le_trans (by decide) hR.1, Nat.le_trans (by decide) hR.2⟩ ⟨Nat.zero_le _, Nat.zero_le _⟩ rfl hl.1 rfl rfl (Nat.le_of_ble_eq_true rfl) dX9_lookCall_131 (fun hP H locs hw => ?_)
      refine lv_goto (tgt := 138) hx hb dX9_lookCall_134 (by decide) ?_
      exact w_X9_lookCall_138 hC hR o0 a0 x1 x2 x4 r136 r145 _ _ _ _ hi0 hw (lv_sub hl [1, 2, 3, 4, 0] rfl) h
set_option maxHeartbeats 4000000 in
set_option maxRecDepth 100000 in
theorem w_X9_lookCall_81 {r : Int32} {D' : dt} (hC : Cx RX9 cX9_lookCall 7 (some .int) p s m args meth c) (hR : 2 ≤ R.frames ∧ 52 ≤ R.locals) : ∀ (o0 a0 : Nat) (x1 : Int32) (x2 : Int32) (x4 : Int32) (D : dt) (H : Heap) (locs : List Loc) (ls : Array Slot), Is S ad o0 a0 8 → Wd G cA S D ad A s H locs → lv_has ls 7 [(0, .ref a0), (1, .int x1), (2, .int x2), (4, .int x4)] → f_X9_lookCall_81 S o0 x1 x2 x4 D = some (r, D') → W p l e R s m args below meth c H locs 0 0 (MQ below (Qn (some (.int r)) True (wpost G cA S D' ad A) A) args s 0 0 A) (F0 m 81 ls []) := by
  obtain ⟨hx, hb, -⟩ := id hC
  intro o0 a0 x1 x2 x4 D H locs ls hi0 hw hl h
  unfold f_X9_lookCall_81 at h
  refine lv_iload_n hx hb dX9_lookCall_81 rfl (lv_at hl 2 rfl) ?_
  refine lv_iconst (v := 4) hx hb dX9_lookCall_82 (by decide) ?_
  refine lv_icmp_ge (tgt := 98) hx hb dX9_lookCall_83 (by decide) (fun c147 => ?_) (fun c147 => ?_)
  · have h := i_yes c147 h
    exact w_X9_lookCall_98 hC hR o0 a0 x1 x2 x4 _ _ _ _ hi0 hw (lv_sub hl [0, 1, 2, 3] rfl) h
  · have h := i_no c147 h
    refine lv_aload_n hx hb dX9_lookCall_86 rfl (lv_at hl 0 rfl) ?_
    obtain ⟨o148, ho151, h⟩ := rq_i h
    refine r_getR hC hw kc_8 hi0 40 rfl lk_1109 dX9_lookCall_87 rfl ho151 (fun a149 hi150 => ?_)
    refine lv_iconst (v := 1) hx hb dX9_lookCall_90 (by decide) ?_
    obtain ⟨hn152, h⟩ := ix_i h
    refine r_iald hC hw hi150 hn152 dX9_lookCall_91 ?_
    refine lv_iconst (v := 4) hx hb dX9_lookCall_92 (by decide) ?_
    refine lv_icmp_eq (tgt := 98) hx hb dX9_lookCall_93 (by decide) (fun c153 => ?_) (fun c153 => ?_)
    · have h := i_yes c153 h
      exact w_X9_lookCall_98 hC hR o0 a0 x1 x2 x4 _ _ _ _ hi0 hw (lv_sub hl [0, 1, 2, 3] rfl) h
    · have h := i_no c153 h
      refine lv_iconst (v := 3) hx hb dX9_lookCall_96 (by decide) ?_
      cases h
      exact r_iret hC hw dX9_lookCall_97
set_option maxHeartbeats 4000000 in
set_option maxRecDepth 100000 in
theorem w_X9_lookCall_33 {r : Int32} {D' : dt} (hC : Cx RX9 cX9_lookCall 7 (some .int) p s m args meth c) (hR : 2 ≤ R.frames ∧ 52 ≤ R.locals) : ∀ (n : Nat), ∀ (o0 a0 : Nat) (x1 : Int32) (x2 : Int32) (x3 : Int32) (x4 : Int32) (D : dt) (H : Heap) (locs : List Loc) (ls : Array Slot), Is S ad o0 a0 8 → Wd G cA S D ad A s H locs → lv_has ls 7 [(0, .ref a0), (1, .int x1), (2, .int x2), (3, .int x3), (4, .int x4)] → f_X9_lookCall_33 S n o0 x1 x2 x3 x4 D = some (r, D') → W p l e R s m args below meth c H locs 0 0 (MQ below (Qn (some (.int r)) True (wpost G cA S D' ad A) A) args s 0 0 A) (F0 m 33 ls []) := by
  obtain ⟨hx, hb, -⟩ := id hC
  intro n
  induction n with
  | zero =>
    intro o0 a0 x1 x2 x3 x4 D H locs ls hi0 hw hl h
    rw [f_X9_lookCall_33.eq_1] at h
    cases h
  | succ n ih =>
    intro o0 a0 x1 x2 x3 x4 D H locs ls hi0 hw hl h
    rw [f_X9_lookCall_33.eq_2] at h
    refine lv_iload hx hb dX9_lookCall_33 (lv_at hl 4 rfl) ?_
    refine lv_iload_n hx hb dX9_lookCall_35 rfl (lv_at hl 3 rfl) ?_
    refine lv_icmp_gt (tgt := 57) hx hb dX9_lookCall_36 (by decide) (fun c154 => ?_) (fun c154 => ?_)
    · have h := i_yes c154 h
      refine lv_aload_n hx hb dX9_lookCall_57 rfl (lv_at hl 0 rfl) ?_
      obtain ⟨o155, ho158, h⟩ := rq_i h
      refine r_getR hC hw kc_8 hi0 43 rfl lk_1112 dX9_lookCall_58 rfl ho158 (fun a156 hi157 => ?_)
      refine lv_iconst (v := 1) hx hb dX9_lookCall_61 (by decide) ?_
      obtain ⟨hn159, h⟩ := ix_i h
      refine r_iald hC hw hi157 hn159 dX9_lookCall_62 ?_
      refine lv_topi (fun y160 ey160 => ?_)
      have h := nm_i h y160 ey160
      refine lv_istore (lv' := [(4, .int y160), (0, .ref a0), (1, .int x1), (2, .int x2), (3, .int x3)]) hx hb dX9_lookCall_63 hl (by decide) rfl (fun ls hl => ?_)
      refine lv_iload_n hx hb dX9_lookCall_65 rfl (lv_at hl 3 rfl) ?_
      refine lv_bipush (v := 6) hx hb dX9_lookCall_66 (by decide) ?_
      refine lv_icmp_ne (tgt := 81) hx hb dX9_lookCall_68 (by decide) (fun c161 => ?_) (fun c161 => ?_)
      · have h := i_no c161 h
        exact w_X9_lookCall_81 hC hR o0 a0 x1 x2 y160 _ _ _ _ hi0 hw (lv_sub hl [1, 2, 3, 0] rfl) h
      · have h := i_yes c161 h
        refine lv_aload_n hx hb dX9_lookCall_71 rfl (lv_at hl 1 rfl) ?_
        obtain ⟨o162, ho165, h⟩ := rq_i h
        refine r_getR hC hw kc_8 hi0 40 rfl lk_1109 dX9_lookCall_72 rfl ho165 (fun a163 hi164 => ?_)
        refine lv_iconst (v := 1) hx hb dX9_lookCall_75 (by decide) ?_
        obtain ⟨hn166, h⟩ := ix_i h
        refine r_iald hC hw hi164 hn166 dX9_lookCall_76 ?_
        refine lv_iconst (v := 1) hx hb dX9_lookCall_77 (by decide) ?_
        refine lv_icmp_ne (tgt := 96) hx hb dX9_lookCall_78 (by decide) (fun c167 => ?_) (fun c167 => ?_)
        · have h := i_no c167 h
          refine lv_iconst (v := 3) hx hb dX9_lookCall_96 (by decide) ?_
          cases h
          exact r_iret hC hw dX9_lookCall_97
        · have h := i_yes c167 h
          exact w_X9_lookCall_81 hC hR o0 a0 x1 x2 y160 _ _ _ _ hi0 hw (lv_sub hl [1, 2, 3, 0] rfl) h
    · have h := i_no c154 h
      refine lv_aload_n hx hb dX9_lookCall_39 rfl (lv_at hl 0 rfl) ?_
      obtain ⟨o168, ho171, h⟩ := rq_i h
      refine r_getR hC hw kc_8 hi0 40 rfl lk_1109 dX9_lookCall_40 rfl ho171 (fun a169 hi170 => ?_)
      refine lv_iload hx hb dX9_lookCall_43 (lv_at hl 4 rfl) ?_
      obtain ⟨hn172, h⟩ := ix_i h
      refine r_iald hC hw hi170 hn172 dX9_lookCall_45 ?_
      refine lv_if_ne (tgt := 51) hx hb dX9_lookCall_46 (by decide) (fun c173 => ?_) (fun c173 => ?_)
      · have h := i_no c173 h
        obtain ⟨y174, ey174⟩ : ∃ z : Int32, z = x4 + 1 := ⟨_, rfl⟩
        have h := nm_i h y174 ey174
        refine lv_iinc (v := y174) (lv' := [(4, .int y174), (0, .ref a0), (1, .int x1), (2, .int x2), (3, .int x3)]) hx hb dX9_lookCall_51 hl (k := 4) rfl (by rw [ey174]; rfl) (by decide) rfl (fun ls hl => ?_)
        refine lv_goto (tgt := 33) hx hb dX9_lookCall_54 (by decide) ?_
        exact ih o0 a0 x1 x2 x3 y174 _ _ _ _ hi0 hw (lv_sub hl [1, 2, 3, 4, 0] rfl) h
      · have h := i_yes c173 h
        refine lv_iconst (v := 2) hx hb dX9_lookCall_49 (by decide) ?_
        cases h
        exact r_iret hC hw dX9_lookCall_50
set_option maxHeartbeats 4000000 in
set_option maxRecDepth 100000 in
theorem w_X9_lookCall_29 {r : Int32} {D' : dt} (hC : Cx RX9 cX9_lookCall 7 (some .int) p s m args meth c) (hR : 2 ≤ R.frames ∧ 52 ≤ R.locals) : ∀ (o0 a0 : Nat) (x1 : Int32) (x2 : Int32) (xs0 : Int32) (D : dt) (H : Heap) (locs : List Loc) (ls : Array Slot), Is S ad o0 a0 8 → Wd G cA S D ad A s H locs → lv_has ls 7 [(0, .ref a0), (1, .int x1), (2, .int x2)] → f_X9_lookCall_29 S o0 x1 x2 xs0 D = some (r, D') → W p l e R s m args below meth c H locs 0 0 (MQ below (Qn (some (.int r)) True (wpost G cA S D' ad A) A) args s 0 0 A) (F0 m 29 ls [.int xs0]) := by
  obtain ⟨hx, hb, -⟩ := id hC
  intro o0 a0 x1 x2 xs0 D H locs ls hi0 hw hl h
  unfold f_X9_lookCall_29 at h
  refine lv_istore_n (lv' := [(3, .int xs0), (0, .ref a0), (1, .int x1), (2, .int x2)]) hx hb dX9_lookCall_29 rfl hl (by decide) rfl (fun ls hl => ?_)
  refine lv_iconst (v := 1) hx hb dX9_lookCall_30 (by decide) ?_
  refine lv_topi (fun y175 ey175 => ?_)
  have h := nm_i h y175 ey175
  refine lv_istore (lv' := [(4, .int y175), (3, .int xs0), (0, .ref a0), (1, .int x1), (2, .int x2)]) hx hb dX9_lookCall_31 hl (by decide) rfl (fun ls hl => ?_)
  exact w_X9_lookCall_33 hC hR LF o0 a0 x1 x2 xs0 y175 _ _ _ _ hi0 hw (lv_sub hl [2, 3, 4, 1, 0] rfl) h
set_option maxHeartbeats 4000000 in
set_option maxRecDepth 100000 in
theorem w_X9_lookCall_0 {r : Int32} {D' : dt} (hC : Cx RX9 cX9_lookCall 7 (some .int) p s m args meth c) (hR : 2 ≤ R.frames ∧ 52 ≤ R.locals) : ∀ (o0 a0 : Nat) (x1 : Int32) (x2 : Int32) (D : dt) (H : Heap) (locs : List Loc) (ls : Array Slot), Is S ad o0 a0 8 → Wd G cA S D ad A s H locs → lv_has ls 7 [(0, .ref a0), (1, .int x1), (2, .int x2)] → f_X9_lookCall S o0 x1 x2 D = some (r, D') → W p l e R s m args below meth c H locs 0 0 (MQ below (Qn (some (.int r)) True (wpost G cA S D' ad A) A) args s 0 0 A) (F0 m 0 ls []) := by
  obtain ⟨hx, hb, -⟩ := id hC
  intro o0 a0 x1 x2 D H locs ls hi0 hw hl h
  unfold f_X9_lookCall at h
  refine lv_iload_n hx hb dX9_lookCall_0 rfl (lv_at hl 2 rfl) ?_
  refine lv_iconst (v := 2) hx hb dX9_lookCall_1 (by decide) ?_
  refine lv_icmp_ne (tgt := 9) hx hb dX9_lookCall_2 (by decide) (fun c176 => ?_) (fun c176 => ?_)
  · have h := i_no c176 h
    refine lv_iload_n hx hb dX9_lookCall_9 rfl (lv_at hl 2 rfl) ?_
    refine lv_iconst (v := 5) hx hb dX9_lookCall_10 (by decide) ?_
    refine lv_icmp_ne (tgt := 18) hx hb dX9_lookCall_11 (by decide) (fun c177 => ?_) (fun c177 => ?_)
    · have h := i_no c177 h
      refine lv_iload_n hx hb dX9_lookCall_18 rfl (lv_at hl 2 rfl) ?_
      refine lv_bipush (v := 6) hx hb dX9_lookCall_19 (by decide) ?_
      refine lv_icmp_ne (tgt := 28) hx hb dX9_lookCall_21 (by decide) (fun c178 => ?_) (fun c178 => ?_)
      · have h := i_no c178 h
        refine lv_iconst (v := 2) hx hb dX9_lookCall_28 (by decide) ?_
        exact w_X9_lookCall_29 hC hR o0 a0 x1 x2 (2 : Int32) _ _ _ _ hi0 hw (lv_sub hl [0, 1, 2] rfl) h
      · have h := i_yes c178 h
        refine lv_iconst (v := 1) hx hb dX9_lookCall_24 (by decide) ?_
        refine lv_goto (tgt := 29) hx hb dX9_lookCall_25 (by decide) ?_
        exact w_X9_lookCall_29 hC hR o0 a0 x1 x2 (1 : Int32) _ _ _ _ hi0 hw (lv_sub hl [0, 1, 2] rfl) h
    · have h := i_yes c177 h
      refine lv_iconst (v := 0) hx hb dX9_lookCall_14 (by decide) ?_
      refine lv_goto (tgt := 29) hx hb dX9_lookCall_15 (by decide) ?_
      exact w_X9_lookCall_29 hC hR o0 a0 x1 x2 (0 : Int32) _ _ _ _ hi0 hw (lv_sub hl [0, 1, 2] rfl) h
  · have h := i_yes c176 h
    refine lv_iconst (v := 4) hx hb dX9_lookCall_5 (by decide) ?_
    refine lv_goto (tgt := 29) hx hb dX9_lookCall_6 (by decide) ?_
    exact w_X9_lookCall_29 hC hR o0 a0 x1 x2 (4 : Int32) _ _ _ _ hi0 hw (lv_sub hl [0, 1, 2] rfl) h
set_option maxHeartbeats 4000000 in
set_option maxRecDepth 100000 in
theorem k_X9_lookCall {l : Launch} {G : va_G} {cA : Nat → ClassId} {S : sh} {D D' : dt} {ad : Nat → Nat} (sz : Nat) {o0 a0 : Nat} {x1 : Int32} {x2 : Int32} {r : Int32} (hi0 : Is S ad o0 a0 8) (h : f_X9_lookCall S o0 x1 x2 D = some (r, D')) : Co l yX9_lookCall (Cond.code yX9_lookCall cX9_lookCall 7 (some .int) :: tb0) 2 52 [.ref a0, .int x1, .int x2] G cA S D ad sz (some (.int r)) True D' := by
  refine Met.ofW (cc := cX9_lookCall) (maxL := 7) (ret := (some .int)) (by decide) rfl ?_
  intro p e s m args below meth c s₁ B hml hv
  obtain ⟨rfl, hsz, hP, hK, hD0, hT, hX⟩ := hv
  subst hsz
  have hts := atoms_spec (ws := Cond.code yX9_lookCall cX9_lookCall 7 (some .int) :: tb0) B.pre
  have hC : Cx RX9 cX9_lookCall 7 (some .int) p s m _ meth c := ⟨B.exec, B.bytes, hml, findClass_of_methodNamed B.named, fun w q => hts w (List.mem_cons_of_mem _ q), B.returns, B.notSynchronized⟩
  have hw := Wd.entry hP hK hD0 hT hX
  have hl := lv_entry ([.ref a0, .int x1, .int x2]) (n := 7) (Nat.le_of_ble_eq_true rfl)
  rw [lg_entry_eq]
  exact w_X9_lookCall_0 hC ⟨Nat.le_refl _, Nat.le_refl _⟩ o0 a0 x1 x2 D _ _ _ hi0 hw hl h
set_option maxHeartbeats 4000000 in
set_option maxRecDepth 100000 in
theorem w_X9_mostOf_0 {r : Int64} (hC : Cx RX9 cX9_mostOf 1 (some .long) p s m args meth c) (hR : 0 ≤ R.frames ∧ 0 ≤ R.locals) : ∀ (x0 : Int32) (H : Heap) (locs : List Loc) (ls : Array Slot), Wd G cA S D ad A s H locs → lv_has ls 1 [(0, .int x0)] → f_X9_mostOf x0 = some r → W p l e R s m args below meth c H locs 0 0 (MQ below (Qn (some (.long r)) True (wpost G cA S D ad A) A) args s 0 0 A) (F0 m 0 ls []) := by
  obtain ⟨hx, hb, -⟩ := id hC
  intro x0 H locs ls hw hl h
  unfold f_X9_mostOf at h
  refine lv_iload_n hx hb dX9_mostOf_0 rfl (lv_at hl 0 rfl) ?_
  refine lv_bipush (v := 8) hx hb dX9_mostOf_1 (by decide) ?_
  refine lv_icmp_ne (tgt := 12) hx hb dX9_mostOf_3 (by decide) (fun c2 => ?_) (fun c2 => ?_)
  · have h := i_no c2 h
    refine lv_lconst (v := 1) hx hb dX9_mostOf_12 (by decide) ?_
    refine lv_bipush (v := 8) hx hb dX9_mostOf_13 (by decide) ?_
    refine lv_iload_n hx hb dX9_mostOf_15 rfl (lv_at hl 0 rfl) ?_
    refine lv_imul hx hb dX9_mostOf_16 ?_
    refine lv_lshl (v := j_lshl (1 : Int64) ((8 : Int32) * x0)) hx hb dX9_mostOf_17 rfl ?_
    refine lv_lconst (v := 1) hx hb dX9_mostOf_18 (by decide) ?_
    refine lv_lsub hx hb dX9_mostOf_19 ?_
    cases h
    exact r_lret hC hw dX9_mostOf_20
  · have h := i_yes c2 h
    refine lv_ldc2 (v := (-1)) hx hb hC.2.2.2.1 (hC.2.2.2.2.1 _ lk_1362) dX9_mostOf_6 ?_
    refine lv_goto (tgt := 20) hx hb dX9_mostOf_9 (by decide) ?_
    cases h
    exact r_lret hC hw dX9_mostOf_20
set_option maxHeartbeats 4000000 in
set_option maxRecDepth 100000 in
theorem k_X9_mostOf {l : Launch} {G : va_G} {cA : Nat → ClassId} {S : sh} {D : dt} {ad : Nat → Nat} (sz : Nat) {x0 : Int32} {r : Int64}  (h : f_X9_mostOf x0 = some r) : Co l yX9_mostOf (Cond.code yX9_mostOf cX9_mostOf 1 (some .long) :: tb0) 0 0 [.int x0] G cA S D ad sz (some (.long r)) True D := by
  refine Met.ofW (cc := cX9_mostOf) (maxL := 1) (ret := (some .long)) (by decide) rfl ?_
  intro p e s m args below meth c s₁ B hml hv
  obtain ⟨rfl, hsz, hP, hK, hD0, hT, hX⟩ := hv
  subst hsz
  have hts := atoms_spec (ws := Cond.code yX9_mostOf cX9_mostOf 1 (some .long) :: tb0) B.pre
  have hC : Cx RX9 cX9_mostOf 1 (some .long) p s m _ meth c := ⟨B.exec, B.bytes, hml, findClass_of_methodNamed B.named, fun w q => hts w (List.mem_cons_of_mem _ q), B.returns, B.notSynchronized⟩
  have hw := Wd.entry hP hK hD0 hT hX
  have hl := lv_entry ([.int x0]) (n := 1) (Nat.le_of_ble_eq_true rfl)
  rw [lg_entry_eq]
  exact w_X9_mostOf_0 hC ⟨Nat.le_refl _, Nat.le_refl _⟩ x0 _ _ _ hw hl h
set_option maxHeartbeats 4000000 in
set_option maxRecDepth 100000 in
theorem w_X9_lookLoad_164 {r : Int32} {D' : dt} (hC : Cx RX9 cX9_lookLoad 8 (some .int) p s m args meth c) (hR : 1 ≤ R.frames ∧ 28 ≤ R.locals) : ∀ (os0 as0 : Nat) (xs1 : Int32) (xs2 : Int64) (xs3 : Int64) (D : dt) (H : Heap) (locs : List Loc) (ls : Array Slot), Is S ad os0 as0 8 → Wd G cA S D ad A s H locs → lv_has ls 8 [] → f_X9_lookLoad_164 S os0 xs1 xs2 xs3 D = some (r, D') → W p l e R s m args below meth c H locs 0 0 (MQ below (Qn (some (.int r)) True (wpost G cA S D' ad A) A) args s 0 0 A) (F0 m 164 ls [.long xs3, .long xs2, .int xs1, .ref as0]) := by
  obtain ⟨hx, hb, -⟩ := id hC
  intro os0 as0 xs1 xs2 xs3 D H locs ls his0 hw hl h
  unfold f_X9_lookLoad_164 at h
  obtain ⟨_, D73, hq72, h⟩ := cq_i h
  refine r_cV (st' := []) [.int xs1, .long xs2, .long xs3] [] hC hw kc_8 his0 (k_X9_number _ his0 hq72) mk_X9_number lk_1493 ⟨Nat.le_trans (by decide) hR.1, Nat.le_trans (by decide) hR.2⟩ ⟨Nat.zero_le _, Nat.zero_le _⟩ rfl hl.1 rfl rfl (Nat.le_of_ble_eq_true rfl) dX9_lookLoad_164 (fun hP H locs hw => ?_)
  refine lv_iconst (v := 0) hx hb dX9_lookLoad_167 (by decide) ?_
  cases h
  exact r_iret hC hw dX9_lookLoad_168
set_option maxHeartbeats 4000000 in
set_option maxRecDepth 100000 in
theorem w_X9_lookLoad_141 {r : Int32} {D' : dt} (hC : Cx RX9 cX9_lookLoad 8 (some .int) p s m args meth c) (hR : 1 ≤ R.frames ∧ 28 ≤ R.locals) : ∀ (o0 a0 : Nat) (x1 : Int32) (x2 : Int32) (x4 : Int32) (D : dt) (H : Heap) (locs : List Loc) (ls : Array Slot), Is S ad o0 a0 8 → Wd G cA S D ad A s H locs → lv_has ls 8 [(0, .ref a0), (1, .int x1), (2, .int x2), (4, .int x4)] → f_X9_lookLoad_141 S o0 x1 x2 x4 D = some (r, D') → W p l e R s m args below meth c H locs 0 0 (MQ below (Qn (some (.int r)) True (wpost G cA S D' ad A) A) args s 0 0 A) (F0 m 141 ls []) := by
  obtain ⟨hx, hb, -⟩ := id hC
  intro o0 a0 x1 x2 x4 D H locs ls hi0 hw hl h
  unfold f_X9_lookLoad_141 at h
  refine lv_aload_n hx hb dX9_lookLoad_141 rfl (lv_at hl 0 rfl) ?_
  refine lv_aload_n hx hb dX9_lookLoad_142 rfl (lv_at hl 0 rfl) ?_
  obtain ⟨o74, ho77, h⟩ := rq_i h
  refine r_getR hC hw kc_8 hi0 2 rfl lk_1071 dX9_lookLoad_143 rfl ho77 (fun a75 hi76 => ?_)
  refine lv_iload_n hx hb dX9_lookLoad_146 rfl (lv_at hl 1 rfl) ?_
  obtain ⟨hn78, h⟩ := ix_i h
  refine r_iald hC hw hi76 hn78 dX9_lookLoad_147 ?_
  refine lv_lconst (v := 0) hx hb dX9_lookLoad_148 (by decide) ?_
  refine lv_iload_n hx hb dX9_lookLoad_149 rfl (lv_at hl 2 rfl) ?_
  refine lv_if_eq (tgt := 159) hx hb dX9_lookLoad_150 (by decide) (fun c79 => ?_) (fun c79 => ?_)
  · have h := i_yes c79 h
    refine lv_iload hx hb dX9_lookLoad_159 (lv_at hl 3 rfl) ?_
    obtain ⟨r81, hq80, h⟩ := pq_i h
    refine r_cS (st' := [.long r81, .long (0 : Int64), .int (gI D o74 x1.toNatClampNeg), .ref a0]) [.int x4] [.long (0 : Int64), .int (gI D o74 x1.toNatClampNeg), .ref a0] hC hw (k_X9_mostOf _ hq80) mk_X9_mostOf lk_1571 ⟨Nat.le_trans (by decide) hR.1, Nat.le_trans (by decide) hR.2⟩ ⟨Nat.zero_le _, Nat.zero_le _⟩ rfl hl.1 rfl rfl (Nat.le_of_ble_eq_true rfl) dX9_lookLoad_161 (fun hP H locs hw => ?_)
    exact w_X9_lookLoad_164 hC hR o0 a0 (gI D o74 x1.toNatClampNeg) (0 : Int64) r81 _ _ _ _ hi0 hw (lv_sub hl [] rfl) h
  · have h := i_no c79 h
    refine lv_ldc2 (v := (-1)) hx hb hC.2.2.2.1 (hC.2.2.2.2.1 _ lk_1362) dX9_lookLoad_153 ?_
    refine lv_goto (tgt := 164) hx hb dX9_lookLoad_156 (by decide) ?_
    exact w_X9_lookLoad_164 hC hR o0 a0 (gI D o74 x1.toNatClampNeg) (0 : Int64) (-1 : Int64) _ _ _ _ hi0 hw (lv_sub hl [] rfl) h
set_option maxHeartbeats 4000000 in
set_option maxRecDepth 100000 in
theorem w_X9_lookLoad_128 {r : Int32} {D' : dt} (hC : Cx RX9 cX9_lookLoad 8 (some .int) p s m args meth c) (hR : 1 ≤ R.frames ∧ 28 ≤ R.locals) : ∀ (o0 a0 : Nat) (x1 : Int32) (x2 : Int32) (x4 : Int32) (x6 : Int32) (D : dt) (H : Heap) (locs : List Loc) (ls : Array Slot), Is S ad o0 a0 8 → Wd G cA S D ad A s H locs → lv_has ls 8 [(0, .ref a0), (1, .int x1), (2, .int x2), (4, .int x4), (6, .int x6)] → f_X9_lookLoad_128 S o0 x1 x2 x4 x6 D = some (r, D') → W p l e R s m args below meth c H locs 0 0 (MQ below (Qn (some (.int r)) True (wpost G cA S D' ad A) A) args s 0 0 A) (F0 m 128 ls []) := by
  obtain ⟨hx, hb, -⟩ := id hC
  intro o0 a0 x1 x2 x4 x6 D H locs ls hi0 hw hl h
  unfold f_X9_lookLoad_128 at h
  refine lv_aload_n hx hb dX9_lookLoad_128 rfl (lv_at hl 0 rfl) ?_
  refine lv_iload hx hb dX9_lookLoad_129 (lv_at hl 4 rfl) ?_
  refine lv_iload hx hb dX9_lookLoad_131 (lv_at hl 3 rfl) ?_
  obtain ⟨r83, D84, hq82, h⟩ := cq_i h
  refine r_cV (st' := [.int r83]) [.int x6, .int x4] [] hC hw kc_8 hi0 (k_X9_areKnown _ hi0 hq82) mk_X9_areKnown lk_1563 ⟨Nat.le_trans (by decide) hR.1, Nat.le_trans (by decide) hR.2⟩ ⟨Nat.zero_le _, Nat.zero_le _⟩ rfl hl.1 rfl rfl (Nat.le_of_ble_eq_true rfl) dX9_lookLoad_133 (fun hP H locs hw => ?_)
  refine lv_if_ne (tgt := 141) hx hb dX9_lookLoad_136 (by decide) (fun c85 => ?_) (fun c85 => ?_)
  · have h := i_no c85 h
    exact w_X9_lookLoad_141 hC hR o0 a0 x1 x2 x4 _ _ _ _ hi0 hw (lv_sub hl [0, 1, 2, 3] rfl) h
  · have h := i_yes c85 h
    refine lv_iconst (v := 4) hx hb dX9_lookLoad_139 (by decide) ?_
    cases h
    exact r_iret hC hw dX9_lookLoad_140
set_option maxHeartbeats 4000000 in
set_option maxRecDepth 100000 in
theorem w_X9_lookLoad_0 {r : Int32} {D' : dt} (hC : Cx RX9 cX9_lookLoad 8 (some .int) p s m args meth c) (hR : 1 ≤ R.frames ∧ 28 ≤ R.locals) : ∀ (o0 a0 : Nat) (x1 : Int32) (x2 : Int32) (D : dt) (H : Heap) (locs : List Loc) (ls : Array Slot), Is S ad o0 a0 8 → Wd G cA S D ad A s H locs → lv_has ls 8 [(0, .ref a0), (1, .int x1), (2, .int x2)] → f_X9_lookLoad S o0 x1 x2 D = some (r, D') → W p l e R s m args below meth c H locs 0 0 (MQ below (Qn (some (.int r)) True (wpost G cA S D' ad A) A) args s 0 0 A) (F0 m 0 ls []) := by
  obtain ⟨hx, hb, -⟩ := id hC
  intro o0 a0 x1 x2 D H locs ls hi0 hw hl h
  unfold f_X9_lookLoad at h
  refine lv_aload_n hx hb dX9_lookLoad_0 rfl (lv_at hl 0 rfl) ?_
  obtain ⟨o86, ho89, h⟩ := rq_i h
  refine r_getR hC hw kc_8 hi0 3 rfl lk_1072 dX9_lookLoad_1 rfl ho89 (fun a87 hi88 => ?_)
  refine lv_iload_n hx hb dX9_lookLoad_4 rfl (lv_at hl 1 rfl) ?_
  obtain ⟨hn90, h⟩ := ix_i h
  refine r_iald hC hw hi88 hn90 dX9_lookLoad_5 ?_
  refine lv_topi (fun y91 ey91 => ?_)
  have h := nm_i h y91 ey91
  refine lv_istore_n (lv' := [(3, .int y91), (0, .ref a0), (1, .int x1), (2, .int x2)]) hx hb dX9_lookLoad_6 rfl hl (by decide) rfl (fun ls hl => ?_)
  refine lv_aload_n hx hb dX9_lookLoad_7 rfl (lv_at hl 1 rfl) ?_
  refine lv_iload_n hx hb dX9_lookLoad_8 rfl (lv_at hl 2 rfl) ?_
  obtain ⟨r93, D94, hq92, h⟩ := cq_i h
  refine r_cV (st' := [.int r93]) [.int x1] [] hC hw kc_8 hi0 (k_X9_widthOf _ hi0 hq92) mk_X9_widthOf lk_1305 ⟨Nat.le_trans (by decide) hR.1, Nat.le_trans (by decide) hR.2⟩ ⟨Nat.zero_le _, Nat.zero_le _⟩ rfl hl.1 rfl rfl (Nat.le_of_ble_eq_true rfl) dX9_lookLoad_9 (fun hP H locs hw => ?_)
  refine lv_istore (lv' := [(4, .int r93), (3, .int y91), (0, .ref a0), (1, .int x1), (2, .int x2)]) hx hb dX9_lookLoad_12 hl (by decide) rfl (fun ls hl => ?_)
  refine lv_aload_n hx hb dX9_lookLoad_14 rfl (lv_at hl 2 rfl) ?_
  obtain ⟨o95, ho98, h⟩ := rq_i h
  refine r_getR hC hw kc_8 hi0 40 rfl lk_1109 dX9_lookLoad_15 rfl ho98 (fun a96 hi97 => ?_)
  refine lv_iload_n hx hb dX9_lookLoad_18 rfl (lv_at hl 1 rfl) ?_
  obtain ⟨hn99, h⟩ := ix_i h
  refine r_iald hC hw hi97 hn99 dX9_lookLoad_19 ?_
  refine lv_if_ne (tgt := 25) hx hb dX9_lookLoad_20 (by decide) (fun c100 => ?_) (fun c100 => ?_)
  · have h := i_no c100 h
    refine lv_aload_n hx hb dX9_lookLoad_25 rfl (lv_at hl 2 rfl) ?_
    refine lv_iload_n hx hb dX9_lookLoad_26 rfl (lv_at hl 1 rfl) ?_
    refine lv_aload_n hx hb dX9_lookLoad_27 rfl (lv_at hl 2 rfl) ?_
    obtain ⟨o101, ho104, h⟩ := rq_i h
    refine r_getR hC hw kc_8 hi0 4 rfl lk_1073 dX9_lookLoad_28 rfl ho104 (fun a102 hi103 => ?_)
    refine lv_iload_n hx hb dX9_lookLoad_31 rfl (lv_at hl 3 rfl) ?_
    obtain ⟨hn105, h⟩ := ix_i h
    refine r_iald hC hw hi103 hn105 dX9_lookLoad_32 ?_
    refine lv_iload hx hb dX9_lookLoad_33 (lv_at hl 0 rfl) ?_
    refine lv_iconst (v := 0) hx hb dX9_lookLoad_35 (by decide) ?_
    obtain ⟨r107, D108, hq106, h⟩ := cq_i h
    refine r_cV (st' := [.int r107]) [.int y91, .int (gI D94 o101 x1.toNatClampNeg), .int r93, .int (0 : Int32)] [] hC hw kc_8 hi0 (k_X9_access _ hi0 hq106) mk_X9_access lk_1558 ⟨Nat.le_trans (by decide) hR.1, Nat.le_trans (by decide) hR.2⟩ ⟨Nat.zero_le _, Nat.zero_le _⟩ rfl hl.1 rfl rfl (Nat.le_of_ble_eq_true rfl) dX9_lookLoad_36 (fun hP H locs hw => ?_)
    refine lv_istore (lv' := [(5, .int r107), (4, .int r93), (3, .int y91), (0, .ref a0), (1, .int x1), (2, .int x2)]) hx hb dX9_lookLoad_39 hl (by decide) rfl (fun ls hl => ?_)
    refine lv_iload hx hb dX9_lookLoad_41 (lv_at hl 0 rfl) ?_
    refine lv_if_le (tgt := 49) hx hb dX9_lookLoad_43 (by decide) (fun c109 => ?_) (fun c109 => ?_)
    · have h := i_yes c109 h
      refine lv_aload_n hx hb dX9_lookLoad_49 rfl (lv_at hl 3 rfl) ?_
      obtain ⟨o110, ho113, h⟩ := rq_i h
      refine r_getR hC hw kc_8 hi0 40 rfl lk_1109 dX9_lookLoad_50 rfl ho113 (fun a111 hi112 => ?_)
      refine lv_iload_n hx hb dX9_lookLoad_53 rfl (lv_at hl 2 rfl) ?_
      obtain ⟨hn114, h⟩ := ix_i h
      refine r_iald hC hw hi112 hn114 dX9_lookLoad_54 ?_
      refine lv_iconst (v := 3) hx hb dX9_lookLoad_55 (by decide) ?_
      refine lv_icmp_ne (tgt := 141) hx hb dX9_lookLoad_56 (by decide) (fun c115 => ?_) (fun c115 => ?_)
      · have h := i_no c115 h
        exact w_X9_lookLoad_141 hC hR o0 a0 x1 x2 r93 _ _ _ _ hi0 hw (lv_sub hl [3, 4, 5, 1] rfl) h
      · have h := i_yes c115 h
        refine lv_aload_n hx hb dX9_lookLoad_59 rfl (lv_at hl 3 rfl) ?_
        obtain ⟨o116, ho119, h⟩ := rq_i h
        refine r_getR hC hw kc_8 hi0 41 rfl lk_1110 dX9_lookLoad_60 rfl ho119 (fun a117 hi118 => ?_)
        refine lv_iload_n hx hb dX9_lookLoad_63 rfl (lv_at hl 2 rfl) ?_
        obtain ⟨hn120, h⟩ := ix_i h
        refine r_lald hC hw hi118 hn120 dX9_lookLoad_64 ?_
        refine lv_l2i (v := (gL D108 o116 y91.toNatClampNeg).toInt32) hx hb dX9_lookLoad_65 rfl ?_
        refine lv_aload_n hx hb dX9_lookLoad_66 rfl (lv_at hl 3 rfl) ?_
        obtain ⟨o121, ho124, h⟩ := rq_i h
        refine r_getR hC hw kc_8 hi0 4 rfl lk_1073 dX9_lookLoad_67 rfl ho124 (fun a122 hi123 => ?_)
        refine lv_iload_n hx hb dX9_lookLoad_70 rfl (lv_at hl 4 rfl) ?_
        obtain ⟨hn125, h⟩ := ix_i h
        refine r_iald hC hw hi123 hn125 dX9_lookLoad_71 ?_
        refine lv_iadd hx hb dX9_lookLoad_72 ?_
        refine lv_sipush (v := 512) hx hb dX9_lookLoad_73 (by decide) ?_
        refine lv_iadd hx hb dX9_lookLoad_76 ?_
        refine lv_topi (fun y126 ey126 => ?_)
        have h := nm_i h y126 ey126
        refine lv_istore (lv' := [(6, .int y126), (5, .int r107), (4, .int r93), (3, .int y91), (0, .ref a0), (1, .int x1), (2, .int x2)]) hx hb dX9_lookLoad_77 hl (by decide) rfl (fun ls hl => ?_)
        refine lv_bipush (v := 11) hx hb dX9_lookLoad_79 (by decide) ?_
        refine lv_iload hx hb dX9_lookLoad_81 (lv_at hl 0 rfl) ?_
        refine lv_bipush (v := 8) hx hb dX9_lookLoad_83 (by decide) ?_
        refine lv_idiv hx hb dX9_lookLoad_85 (by decide) ?_
        refine lv_iadd hx hb dX9_lookLoad_86 ?_
        refine lv_topi (fun y127 ey127 => ?_)
        have h := nm_i h y127 ey127
        refine lv_istore (lv' := [(7, .int y127), (6, .int y126), (5, .int r107), (4, .int r93), (3, .int y91), (0, .ref a0), (1, .int x1), (2, .int x2)]) hx hb dX9_lookLoad_87 hl (by decide) rfl (fun ls hl => ?_)
        refine lv_iload hx hb dX9_lookLoad_89 (lv_at hl 3 rfl) ?_
        refine lv_bipush (v := 8) hx hb dX9_lookLoad_91 (by decide) ?_
        refine lv_icmp_ne (tgt := 128) hx hb dX9_lookLoad_93 (by decide) (fun c128 => ?_) (fun c128 => ?_)
        · have h := i_no c128 h
          exact w_X9_lookLoad_128 hC hR o0 a0 x1 x2 r93 y126 _ _ _ _ hi0 hw (lv_sub hl [5, 6, 7, 3, 1] rfl) h
        · have h := i_yes c128 h
          refine lv_iload hx hb dX9_lookLoad_96 (lv_at hl 1 rfl) ?_
          refine lv_bipush (v := 8) hx hb dX9_lookLoad_98 (by decide) ?_
          refine lv_irem hx hb dX9_lookLoad_100 (by decide) ?_
          refine lv_if_ne (tgt := 128) hx hb dX9_lookLoad_101 (by decide) (fun c129 => ?_) (fun c129 => ?_)
          · have h := i_no c129 h
            exact w_X9_lookLoad_128 hC hR o0 a0 x1 x2 r93 y126 _ _ _ _ hi0 hw (lv_sub hl [5, 6, 7, 3, 1] rfl) h
          · have h := i_yes c129 h
            refine lv_aload_n hx hb dX9_lookLoad_104 rfl (lv_at hl 5 rfl) ?_
            obtain ⟨o130, ho133, h⟩ := rq_i h
            refine r_getR hC hw kc_8 hi0 40 rfl lk_1109 dX9_lookLoad_105 rfl ho133 (fun a131 hi132 => ?_)
            refine lv_iload hx hb dX9_lookLoad_108 (lv_at hl 0 rfl) ?_
            obtain ⟨hn134, h⟩ := ix_i h
            refine r_iald hC hw hi132 hn134 dX9_lookLoad_110 ?_
            refine lv_if_eq (tgt := 128) hx hb dX9_lookLoad_111 (by decide) (fun c135 => ?_) (fun c135 => ?_)
            · have h := i_yes c135 h
              exact w_X9_lookLoad_128 hC hR o0 a0 x1 x2 r93 y126 _ _ _ _ hi0 hw (lv_sub hl [5, 6, 7, 3, 1] rfl) h
            · have h := i_no c135 h
              refine lv_aload_n hx hb dX9_lookLoad_114 rfl (lv_at hl 5 rfl) ?_
              refine lv_iload hx hb dX9_lookLoad_115 (lv_at hl 0 rfl) ?_
              refine lv_aload_n hx hb dX9_lookLoad_117 rfl (lv_at hl 5 rfl) ?_
              obtain ⟨o136, ho139, h⟩ := rq_i h
              refine r_getR hC hw kc_8 hi0 2 rfl lk_1071 dX9_lookLoad_118 rfl ho139 (fun a137 hi138 => ?_)
              refine lv_iload_n hx hb dX9_lookLoad_121 rfl (lv_at hl 6 rfl) ?_
              obtain ⟨hn140, h⟩ := ix_i h
              refine r_iald hC hw hi138 hn140 dX9_lookLoad_122 ?_
              obtain ⟨_, D142, hq141, h⟩ := cq_i h
              refine r_cV (st' := []) [.int y127, .int (gI D108 o136 x1.toNatClampNeg)] [] hC hw kc_8 hi0 (k_X9_same _ hi0 hq141) mk_X9_same lk_1485 ⟨Nat.le_trans (by decide) hR.1, Nat.le_trans (by decide) hR.2⟩ ⟨Nat.zero_le _, Nat.zero_le _⟩ rfl hl.1 rfl rfl (Nat.le_of_ble_eq_true rfl) dX9_lookLoad_123 (fun hP H locs hw => ?_)
              refine lv_iconst (v := 0) hx hb dX9_lookLoad_126 (by decide) ?_
              cases h
              exact r_iret hC hw dX9_lookLoad_127
    · have h := i_no c109 h
      refine lv_iload hx hb dX9_lookLoad_46 (lv_at hl 0 rfl) ?_
      cases h
      exact r_iret hC hw dX9_lookLoad_48
  · have h := i_yes c100 h
    refine lv_iconst (v := 2) hx hb dX9_lookLoad_23 (by decide) ?_
    cases h
    exact r_iret hC hw dX9_lookLoad_24
set_option maxHeartbeats 4000000 in
set_option maxRecDepth 100000 in
theorem k_X9_lookLoad {l : Launch} {G : va_G} {cA : Nat → ClassId} {S : sh} {D D' : dt} {ad : Nat → Nat} (sz : Nat) {o0 a0 : Nat} {x1 : Int32} {x2 : Int32} {r : Int32} (hi0 : Is S ad o0 a0 8) (h : f_X9_lookLoad S o0 x1 x2 D = some (r, D')) : Co l yX9_lookLoad (Cond.code yX9_lookLoad cX9_lookLoad 8 (some .int) :: tb0) 1 28 [.ref a0, .int x1, .int x2] G cA S D ad sz (some (.int r)) True D' := by
  refine Met.ofW (cc := cX9_lookLoad) (maxL := 8) (ret := (some .int)) (by decide) rfl ?_
  intro p e s m args below meth c s₁ B hml hv
  obtain ⟨rfl, hsz, hP, hK, hD0, hT, hX⟩ := hv
  subst hsz
  have hts := atoms_spec (ws := Cond.code yX9_lookLoad cX9_lookLoad 8 (some .int) :: tb0) B.pre
  have hC : Cx RX9 cX9_lookLoad 8 (some .int) p s m _ meth c := ⟨B.exec, B.bytes, hml, findClass_of_methodNamed B.named, fun w q => hts w (List.mem_cons_of_mem _ q), B.returns, B.notSynchronized⟩
  have hw := Wd.entry hP hK hD0 hT hX
  have hl := lv_entry ([.ref a0, .int x1, .int x2]) (n := 8) (Nat.le_of_ble_eq_true rfl)
  rw [lg_entry_eq]
  exact w_X9_lookLoad_0 hC ⟨Nat.le_refl _, Nat.le_refl _⟩ o0 a0 x1 x2 D _ _ _ hi0 hw hl h
set_option maxHeartbeats 4000000 in
set_option maxRecDepth 100000 in
theorem w_X9_put__2 {r : Unit} {D' : dt} (hC : Cx RX9 cX9_put_ 4 none p s m args meth c) (hR : 1 ≤ R.frames ∧ 21 ≤ R.locals) : ∀ (n : Nat), ∀ (o0 a0 : Nat) (x1 : Int32) (x2 : Int32) (x3 : Int32) (D : dt) (H : Heap) (locs : List Loc) (ls : Array Slot), Is S ad o0 a0 8 → Wd G cA S D ad A s H locs → lv_has ls 4 [(0, .ref a0), (1, .int x1), (2, .int x2), (3, .int x3)] → f_X9_put__2 S n o0 x1 x2 x3 D = some (r, D') → W p l e R s m args below meth c H locs 0 0 (MQ below (Qn none True (wpost G cA S D' ad A) A) args s 0 0 A) (F0 m 2 ls []) := by
  obtain ⟨hx, hb, -⟩ := id hC
  intro n
  induction n with
  | zero =>
    intro o0 a0 x1 x2 x3 D H locs ls hi0 hw hl h
    rw [f_X9_put__2.eq_1] at h
    cases h
  | succ n ih =>
    intro o0 a0 x1 x2 x3 D H locs ls hi0 hw hl h
    rw [f_X9_put__2.eq_2] at h
    refine lv_iload_n hx hb dX9_put__2 rfl (lv_at hl 3 rfl) ?_
    refine lv_iload_n hx hb dX9_put__3 rfl (lv_at hl 1 rfl) ?_
    refine lv_iload_n hx hb dX9_put__4 rfl (lv_at hl 2 rfl) ?_
    refine lv_iadd hx hb dX9_put__5 ?_
    refine lv_icmp_ge (tgt := 33) hx hb dX9_put__6 (by decide) (fun c11 => ?_) (fun c11 => ?_)
    · have h := i_yes c11 h
      cases h
      exact r_vret hC hw dX9_put__33
    · have h := i_no c11 h
      refine lv_aload_n hx hb dX9_put__9 rfl (lv_at hl 0 rfl) ?_
      refine lv_bipush (v := 11) hx hb dX9_put__10 (by decide) ?_
      refine lv_iload_n hx hb dX9_put__12 rfl (lv_at hl 3 rfl) ?_
      refine lv_bipush (v := 8) hx hb dX9_put__13 (by decide) ?_
      refine lv_idiv hx hb dX9_put__15 (by decide) ?_
      refine lv_iadd hx hb dX9_put__16 ?_
      obtain ⟨_, D13, hq12, h⟩ := cq_i h
      refine r_cV (st' := []) [.int ((11 : Int32) + (x3 / (8 : Int32)))] [] hC hw kc_8 hi0 (k_X9_forget _ hi0 hq12) mk_X9_forget lk_1451 ⟨Nat.le_trans (by decide) hR.1, Nat.le_trans (by decide) hR.2⟩ ⟨Nat.zero_le _, Nat.zero_le _⟩ rfl hl.1 rfl rfl (Nat.le_of_ble_eq_true rfl) dX9_put__17 (fun hP H locs hw => ?_)
      refine lv_aload_n hx hb dX9_put__20 rfl (lv_at hl 0 rfl) ?_
      obtain ⟨o14, ho17, h⟩ := rq_i h
      refine r_getR hC hw kc_8 hi0 45 rfl lk_1114 dX9_put__21 rfl ho17 (fun a15 hi16 => ?_)
      refine lv_iload_n hx hb dX9_put__24 rfl (lv_at hl 3 rfl) ?_
      refine lv_iconst (v := 1) hx hb dX9_put__25 (by decide) ?_
      obtain ⟨hn18, h⟩ := ix_i h
      refine r_zas hC hw hi16 hn18 dX9_put__26 (fun D19 eD19 H locs hw => ?_)
      have h := nm_i h D19 eD19
      obtain ⟨y20, ey20⟩ : ∃ z : Int32, z = x3 + 1 := ⟨_, rfl⟩
      have h := nm_i h y20 ey20
      refine lv_iinc (v := y20) (lv' := [(3, .int y20), (0, .ref a0), (1, .int x1), (2, .int x2)]) hx hb dX9_put__27 hl (k := 3) rfl (by rw [ey20]; rfl) (by decide) rfl (fun ls hl => ?_)
      refine lv_goto (tgt := 2) hx hb dX9_put__30 (by decide) ?_
      exact ih o0 a0 x1 x2 y20 _ _ _ _ hi0 hw (lv_sub hl [1, 2, 3, 0] rfl) h
set_option maxHeartbeats 4000000 in
set_option maxRecDepth 100000 in
theorem w_X9_put__0 {r : Unit} {D' : dt} (hC : Cx RX9 cX9_put_ 4 none p s m args meth c) (hR : 1 ≤ R.frames ∧ 21 ≤ R.locals) : ∀ (o0 a0 : Nat) (x1 : Int32) (x2 : Int32) (D : dt) (H : Heap) (locs : List Loc) (ls : Array Slot), Is S ad o0 a0 8 → Wd G cA S D ad A s H locs → lv_has ls 4 [(0, .ref a0), (1, .int x1), (2, .int x2)] → f_X9_put_ S o0 x1 x2 D = some (r, D') → W p l e R s m args below meth c H locs 0 0 (MQ below (Qn none True (wpost G cA S D' ad A) A) args s 0 0 A) (F0 m 0 ls []) := by
  obtain ⟨hx, hb, -⟩ := id hC
  intro o0 a0 x1 x2 D H locs ls hi0 hw hl h
  unfold f_X9_put_ at h
  refine lv_iload_n hx hb dX9_put__0 rfl (lv_at hl 1 rfl) ?_
  refine lv_istore_n (lv' := [(3, .int x1), (0, .ref a0), (1, .int x1), (2, .int x2)]) hx hb dX9_put__1 rfl hl (by decide) rfl (fun ls hl => ?_)
  exact w_X9_put__2 hC hR LF o0 a0 x1 x2 x1 _ _ _ _ hi0 hw (lv_sub hl [1, 2, 3, 0] rfl) h
set_option maxHeartbeats 4000000 in
set_option maxRecDepth 100000 in
theorem k_X9_put_ {l : Launch} {G : va_G} {cA : Nat → ClassId} {S : sh} {D D' : dt} {ad : Nat → Nat} (sz : Nat) {o0 a0 : Nat} {x1 : Int32} {x2 : Int32} {r : Unit} (hi0 : Is S ad o0 a0 8) (h : f_X9_put_ S o0 x1 x2 D = some (r, D')) : Co l yX9_put_ (Cond.code yX9_put_ cX9_put_ 4 none :: tb0) 1 21 [.ref a0, .int x1, .int x2] G cA S D ad sz none True D' := by
  refine Met.ofW (cc := cX9_put_) (maxL := 4) (ret := none) (by decide) rfl ?_
  intro p e s m args below meth c s₁ B hml hv
  obtain ⟨rfl, hsz, hP, hK, hD0, hT, hX⟩ := hv
  subst hsz
  have hts := atoms_spec (ws := Cond.code yX9_put_ cX9_put_ 4 none :: tb0) B.pre
  have hC : Cx RX9 cX9_put_ 4 none p s m _ meth c := ⟨B.exec, B.bytes, hml, findClass_of_methodNamed B.named, fun w q => hts w (List.mem_cons_of_mem _ q), B.returns, B.notSynchronized⟩
  have hw := Wd.entry hP hK hD0 hT hX
  have hl := lv_entry ([.ref a0, .int x1, .int x2]) (n := 4) (Nat.le_of_ble_eq_true rfl)
  rw [lg_entry_eq]
  exact w_X9_put__0 hC ⟨Nat.le_refl _, Nat.le_refl _⟩ o0 a0 x1 x2 D _ _ _ hi0 hw hl h
end
