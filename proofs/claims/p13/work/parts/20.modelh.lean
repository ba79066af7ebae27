theorem dX9_once_0 : decode cX9_once 0 = .ok (.aload_n 0, 1) := by decide +kernel
theorem dX9_once_1 : decode cX9_once 1 = .ok (.getfield 260, 3) := by decide +kernel
theorem dX9_once_4 : decode cX9_once 4 = .ok (.istore_n 1, 1) := by decide +kernel
theorem dX9_once_5 : decode cX9_once 5 = .ok (.iload_n 1, 1) := by decide +kernel
theorem dX9_once_6 : decode cX9_once 6 = .ok (.i2l, 1) := by decide +kernel
theorem dX9_once_7 : decode cX9_once 7 = .ok (.lconst 0, 1) := by decide +kernel
theorem dX9_once_8 : decode cX9_once 8 = .ok (.aload_n 0, 1) := by decide +kernel
theorem dX9_once_9 : decode cX9_once 9 = .ok (.getfield 147, 3) := by decide +kernel
theorem dX9_once_12 : decode cX9_once 12 = .ok (.iconst 1, 1) := by decide +kernel
theorem dX9_once_13 : decode cX9_once 13 = .ok (.isub, 1) := by decide +kernel
theorem dX9_once_14 : decode cX9_once 14 = .ok (.i2l, 1) := by decide +kernel
theorem dX9_once_15 : decode cX9_once 15 = .ok (.invokestatic 132, 3) := by decide +kernel
theorem dX9_once_18 : decode cX9_once 18 = .ok (.ifCond .ne 5, 3) := by decide +kernel
theorem dX9_once_21 : decode cX9_once 21 = .ok (.iconst 5, 1) := by decide +kernel
theorem dX9_once_22 : decode cX9_once 22 = .ok (.ireturn, 1) := by decide +kernel
theorem dX9_once_23 : decode cX9_once 23 = .ok (.aload_n 0, 1) := by decide +kernel
theorem dX9_once_24 : decode cX9_once 24 = .ok (.iload_n 1, 1) := by decide +kernel
theorem dX9_once_25 : decode cX9_once 25 = .ok (.invokevirtual 273, 3) := by decide +kernel
theorem dX9_once_28 : decode cX9_once 28 = .ok (.istore_n 2, 1) := by decide +kernel
theorem dX9_once_29 : decode cX9_once 29 = .ok (.iload_n 1, 1) := by decide +kernel
theorem dX9_once_30 : decode cX9_once 30 = .ok (.iconst 1, 1) := by decide +kernel
theorem dX9_once_31 : decode cX9_once 31 = .ok (.iadd, 1) := by decide +kernel
theorem dX9_once_32 : decode cX9_once 32 = .ok (.istore_n 3, 1) := by decide +kernel
theorem dX9_once_33 : decode cX9_once 33 = .ok (.iconst 1, 1) := by decide +kernel
theorem dX9_once_34 : decode cX9_once 34 = .ok (.istore 4, 2) := by decide +kernel
theorem dX9_once_36 : decode cX9_once 36 = .ok (.aload_n 0, 1) := by decide +kernel
theorem dX9_once_37 : decode cX9_once 37 = .ok (.iload_n 1, 1) := by decide +kernel
theorem dX9_once_38 : decode cX9_once 38 = .ok (.invokevirtual 276, 3) := by decide +kernel
theorem dX9_once_41 : decode cX9_once 41 = .ok (.tableswitch 287 0 10 #[59, 61, 96, 136, 170, 180, 195, 207, 219, 237, 259], 59) := by decide +kernel
theorem dX9_once_100 : decode cX9_once 100 = .ok (.iconst 3, 1) := by decide +kernel
theorem dX9_once_101 : decode cX9_once 101 = .ok (.ireturn, 1) := by decide +kernel
theorem dX9_once_102 : decode cX9_once 102 = .ok (.aload_n 0, 1) := by decide +kernel
theorem dX9_once_103 : decode cX9_once 103 = .ok (.getfield 53, 3) := by decide +kernel
theorem dX9_once_106 : decode cX9_once 106 = .ok (.aload_n 0, 1) := by decide +kernel
theorem dX9_once_107 : decode cX9_once 107 = .ok (.getfield 13, 3) := by decide +kernel
theorem dX9_once_110 : decode cX9_once 110 = .ok (.iload_n 1, 1) := by decide +kernel
theorem dX9_once_111 : decode cX9_once 111 = .ok (.iaload, 1) := by decide +kernel
theorem dX9_once_112 : decode cX9_once 112 = .ok (.aload_n 0, 1) := by decide +kernel
theorem dX9_once_113 : decode cX9_once 113 = .ok (.iload_n 1, 1) := by decide +kernel
theorem dX9_once_114 : decode cX9_once 114 = .ok (.aload_n 0, 1) := by decide +kernel
theorem dX9_once_115 : decode cX9_once 115 = .ok (.getfield 53, 3) := by decide +kernel
theorem dX9_once_118 : decode cX9_once 118 = .ok (.aload_n 0, 1) := by decide +kernel
theorem dX9_once_119 : decode cX9_once 119 = .ok (.getfield 13, 3) := by decide +kernel
theorem dX9_once_122 : decode cX9_once 122 = .ok (.iload_n 1, 1) := by decide +kernel
theorem dX9_once_123 : decode cX9_once 123 = .ok (.iaload, 1) := by decide +kernel
theorem dX9_once_124 : decode cX9_once 124 = .ok (.laload, 1) := by decide +kernel
theorem dX9_once_125 : decode cX9_once 125 = .ok (.aload_n 0, 1) := by decide +kernel
theorem dX9_once_126 : decode cX9_once 126 = .ok (.iload_n 1, 1) := by decide +kernel
theorem dX9_once_127 : decode cX9_once 127 = .ok (.invokevirtual 279, 3) := by decide +kernel
theorem dX9_once_130 : decode cX9_once 130 = .ok (.invokevirtual 283, 3) := by decide +kernel
theorem dX9_once_133 : decode cX9_once 133 = .ok (.lastore, 1) := by decide +kernel
theorem dX9_once_134 : decode cX9_once 134 = .ok (.goto 200, 3) := by decide +kernel
theorem dX9_once_137 : decode cX9_once 137 = .ok (.aload_n 0, 1) := by decide +kernel
theorem dX9_once_138 : decode cX9_once 138 = .ok (.iload_n 1, 1) := by decide +kernel
theorem dX9_once_139 : decode cX9_once 139 = .ok (.aload_n 0, 1) := by decide +kernel
theorem dX9_once_140 : decode cX9_once 140 = .ok (.getfield 53, 3) := by decide +kernel
theorem dX9_once_143 : decode cX9_once 143 = .ok (.aload_n 0, 1) := by decide +kernel
theorem dX9_once_144 : decode cX9_once 144 = .ok (.getfield 13, 3) := by decide +kernel
theorem dX9_once_147 : decode cX9_once 147 = .ok (.iload_n 1, 1) := by decide +kernel
theorem dX9_once_148 : decode cX9_once 148 = .ok (.iaload, 1) := by decide +kernel
theorem dX9_once_149 : decode cX9_once 149 = .ok (.laload, 1) := by decide +kernel
theorem dX9_once_150 : decode cX9_once 150 = .ok (.aload_n 0, 1) := by decide +kernel
theorem dX9_once_151 : decode cX9_once 151 = .ok (.iload_n 1, 1) := by decide +kernel
theorem dX9_once_152 : decode cX9_once 152 = .ok (.invokevirtual 279, 3) := by decide +kernel
theorem dX9_once_155 : decode cX9_once 155 = .ok (.invokevirtual 287, 3) := by decide +kernel
theorem dX9_once_158 : decode cX9_once 158 = .ok (.ifCond .eq 14, 3) := by decide +kernel
theorem dX9_once_161 : decode cX9_once 161 = .ok (.iload_n 3, 1) := by decide +kernel
theorem dX9_once_162 : decode cX9_once 162 = .ok (.aload_n 0, 1) := by decide +kernel
theorem dX9_once_163 : decode cX9_once 163 = .ok (.getfield 19, 3) := by decide +kernel
theorem dX9_once_166 : decode cX9_once 166 = .ok (.iload_n 1, 1) := by decide +kernel
theorem dX9_once_167 : decode cX9_once 167 = .ok (.iaload, 1) := by decide +kernel
theorem dX9_once_168 : decode cX9_once 168 = .ok (.iadd, 1) := by decide +kernel
theorem dX9_once_169 : decode cX9_once 169 = .ok (.goto 4, 3) := by decide +kernel
theorem dX9_once_172 : decode cX9_once 172 = .ok (.iload_n 3, 1) := by decide +kernel
theorem dX9_once_173 : decode cX9_once 173 = .ok (.istore_n 3, 1) := by decide +kernel
theorem dX9_once_174 : decode cX9_once 174 = .ok (.goto 160, 3) := by decide +kernel
theorem dX9_once_177 : decode cX9_once 177 = .ok (.iload_n 3, 1) := by decide +kernel
theorem dX9_once_178 : decode cX9_once 178 = .ok (.aload_n 0, 1) := by decide +kernel
theorem dX9_once_179 : decode cX9_once 179 = .ok (.getfield 7, 3) := by decide +kernel
theorem dX9_once_182 : decode cX9_once 182 = .ok (.iload_n 1, 1) := by decide +kernel
theorem dX9_once_183 : decode cX9_once 183 = .ok (.iaload, 1) := by decide +kernel
theorem dX9_once_184 : decode cX9_once 184 = .ok (.bipush 7, 2) := by decide +kernel
theorem dX9_once_186 : decode cX9_once 186 = .ok (.iand, 1) := by decide +kernel
theorem dX9_once_187 : decode cX9_once 187 = .ok (.iconst 5, 1) := by decide +kernel
theorem dX9_once_188 : decode cX9_once 188 = .ok (.if_icmp .ne 12, 3) := by decide +kernel
theorem dX9_once_191 : decode cX9_once 191 = .ok (.aload_n 0, 1) := by decide +kernel
theorem dX9_once_192 : decode cX9_once 192 = .ok (.getfield 19, 3) := by decide +kernel
theorem dX9_once_195 : decode cX9_once 195 = .ok (.iload_n 1, 1) := by decide +kernel
theorem dX9_once_196 : decode cX9_once 196 = .ok (.iaload, 1) := by decide +kernel
theorem dX9_once_197 : decode cX9_once 197 = .ok (.goto 9, 3) := by decide +kernel
theorem dX9_once_200 : decode cX9_once 200 = .ok (.aload_n 0, 1) := by decide +kernel
theorem dX9_once_201 : decode cX9_once 201 = .ok (.getfield 22, 3) := by decide +kernel
theorem dX9_once_204 : decode cX9_once 204 = .ok (.iload_n 1, 1) := by decide +kernel
theorem dX9_once_205 : decode cX9_once 205 = .ok (.iaload, 1) := by decide +kernel
theorem dX9_once_206 : decode cX9_once 206 = .ok (.iadd, 1) := by decide +kernel
theorem dX9_once_207 : decode cX9_once 207 = .ok (.istore_n 3, 1) := by decide +kernel
theorem dX9_once_208 : decode cX9_once 208 = .ok (.goto 126, 3) := by decide +kernel
theorem dX9_once_211 : decode cX9_once 211 = .ok (.aload_n 0, 1) := by decide +kernel
theorem dX9_once_212 : decode cX9_once 212 = .ok (.iconst 2, 1) := by decide +kernel
theorem dX9_once_213 : decode cX9_once 213 = .ok (.putfield 140, 3) := by decide +kernel
theorem dX9_once_216 : decode cX9_once 216 = .ok (.iload_n 1, 1) := by decide +kernel
theorem dX9_once_217 : decode cX9_once 217 = .ok (.istore_n 3, 1) := by decide +kernel
theorem dX9_once_218 : decode cX9_once 218 = .ok (.goto 116, 3) := by decide +kernel
theorem dX9_once_221 : decode cX9_once 221 = .ok (.aload_n 0, 1) := by decide +kernel
theorem dX9_once_222 : decode cX9_once 222 = .ok (.aload_n 0, 1) := by decide +kernel
theorem dX9_once_223 : decode cX9_once 223 = .ok (.getfield 22, 3) := by decide +kernel
theorem dX9_once_226 : decode cX9_once 226 = .ok (.iload_n 1, 1) := by decide +kernel
theorem dX9_once_227 : decode cX9_once 227 = .ok (.iaload, 1) := by decide +kernel
theorem dX9_once_228 : decode cX9_once 228 = .ok (.invokevirtual 291, 3) := by decide +kernel
theorem dX9_once_231 : decode cX9_once 231 = .ok (.istore 4, 2) := by decide +kernel
theorem dX9_once_233 : decode cX9_once 233 = .ok (.goto 101, 3) := by decide +kernel
theorem dX9_once_236 : decode cX9_once 236 = .ok (.aload_n 0, 1) := by decide +kernel
theorem dX9_once_237 : decode cX9_once 237 = .ok (.iload_n 1, 1) := by decide +kernel
theorem dX9_once_238 : decode cX9_once 238 = .ok (.iload_n 2, 1) := by decide +kernel
theorem dX9_once_239 : decode cX9_once 239 = .ok (.iconst 0, 1) := by decide +kernel
theorem dX9_once_240 : decode cX9_once 240 = .ok (.invokevirtual 294, 3) := by decide +kernel
theorem dX9_once_243 : decode cX9_once 243 = .ok (.istore 4, 2) := by decide +kernel
theorem dX9_once_245 : decode cX9_once 245 = .ok (.goto 89, 3) := by decide +kernel
theorem dX9_once_248 : decode cX9_once 248 = .ok (.aload_n 0, 1) := by decide +kernel
theorem dX9_once_249 : decode cX9_once 249 = .ok (.iload_n 1, 1) := by decide +kernel
theorem dX9_once_250 : decode cX9_once 250 = .ok (.iload_n 2, 1) := by decide +kernel
theorem dX9_once_251 : decode cX9_once 251 = .ok (.iconst 1, 1) := by decide +kernel
theorem dX9_once_252 : decode cX9_once 252 = .ok (.invokevirtual 294, 3) := by decide +kernel
theorem dX9_once_255 : decode cX9_once 255 = .ok (.istore 4, 2) := by decide +kernel
theorem dX9_once_257 : decode cX9_once 257 = .ok (.goto 77, 3) := by decide +kernel
theorem dX9_once_260 : decode cX9_once 260 = .ok (.aload_n 0, 1) := by decide +kernel
theorem dX9_once_261 : decode cX9_once 261 = .ok (.iload_n 1, 1) := by decide +kernel
theorem dX9_once_262 : decode cX9_once 262 = .ok (.iload_n 2, 1) := by decide +kernel
theorem dX9_once_263 : decode cX9_once 263 = .ok (.aload_n 0, 1) := by decide +kernel
theorem dX9_once_264 : decode cX9_once 264 = .ok (.getfield 22, 3) := by decide +kernel
theorem dX9_once_267 : decode cX9_once 267 = .ok (.iload_n 1, 1) := by decide +kernel
theorem dX9_once_268 : decode cX9_once 268 = .ok (.iaload, 1) := by decide +kernel
theorem dX9_once_269 : decode cX9_once 269 = .ok (.i2l, 1) := by decide +kernel
theorem dX9_once_270 : decode cX9_once 270 = .ok (.invokevirtual 298, 3) := by decide +kernel
theorem dX9_once_273 : decode cX9_once 273 = .ok (.istore 4, 2) := by decide +kernel
theorem dX9_once_275 : decode cX9_once 275 = .ok (.goto 59, 3) := by decide +kernel
theorem dX9_once_278 : decode cX9_once 278 = .ok (.aload_n 0, 1) := by decide +kernel
theorem dX9_once_279 : decode cX9_once 279 = .ok (.iload_n 1, 1) := by decide +kernel
theorem dX9_once_280 : decode cX9_once 280 = .ok (.iload_n 2, 1) := by decide +kernel
theorem dX9_once_281 : decode cX9_once 281 = .ok (.aload_n 0, 1) := by decide +kernel
theorem dX9_once_282 : decode cX9_once 282 = .ok (.getfield 53, 3) := by decide +kernel
theorem dX9_once_285 : decode cX9_once 285 = .ok (.aload_n 0, 1) := by decide +kernel
theorem dX9_once_286 : decode cX9_once 286 = .ok (.getfield 16, 3) := by decide +kernel
theorem dX9_once_289 : decode cX9_once 289 = .ok (.iload_n 1, 1) := by decide +kernel
theorem dX9_once_290 : decode cX9_once 290 = .ok (.iaload, 1) := by decide +kernel
theorem dX9_once_291 : decode cX9_once 291 = .ok (.laload, 1) := by decide +kernel
theorem dX9_once_292 : decode cX9_once 292 = .ok (.invokevirtual 298, 3) := by decide +kernel
theorem dX9_once_295 : decode cX9_once 295 = .ok (.istore 4, 2) := by decide +kernel
theorem dX9_once_297 : decode cX9_once 297 = .ok (.goto 37, 3) := by decide +kernel
theorem dX9_once_300 : decode cX9_once 300 = .ok (.aload_n 0, 1) := by decide +kernel
theorem dX9_once_301 : decode cX9_once 301 = .ok (.iload_n 1, 1) := by decide +kernel
theorem dX9_once_302 : decode cX9_once 302 = .ok (.aload_n 0, 1) := by decide +kernel
theorem dX9_once_303 : decode cX9_once 303 = .ok (.getfield 7, 3) := by decide +kernel
theorem dX9_once_306 : decode cX9_once 306 = .ok (.iload_n 1, 1) := by decide +kernel
theorem dX9_once_307 : decode cX9_once 307 = .ok (.iaload, 1) := by decide +kernel
theorem dX9_once_308 : decode cX9_once 308 = .ok (.sipush 219, 3) := by decide +kernel
theorem dX9_once_311 : decode cX9_once 311 = .ok (.if_icmp .ne 8, 3) := by decide +kernel
theorem dX9_once_314 : decode cX9_once 314 = .ok (.bipush 8, 2) := by decide +kernel
theorem dX9_once_316 : decode cX9_once 316 = .ok (.goto 4, 3) := by decide +kernel
theorem dX9_once_319 : decode cX9_once 319 = .ok (.iconst 4, 1) := by decide +kernel
theorem dX9_once_320 : decode cX9_once 320 = .ok (.invokevirtual 302, 3) := by decide +kernel
theorem dX9_once_323 : decode cX9_once 323 = .ok (.istore 4, 2) := by decide +kernel
theorem dX9_once_325 : decode cX9_once 325 = .ok (.goto 9, 3) := by decide +kernel
theorem dX9_once_328 : decode cX9_once 328 = .ok (.aload_n 0, 1) := by decide +kernel
theorem dX9_once_329 : decode cX9_once 329 = .ok (.iload_n 1, 1) := by decide +kernel
theorem dX9_once_330 : decode cX9_once 330 = .ok (.invokevirtual 306, 3) := by decide +kernel
theorem dX9_once_333 : decode cX9_once 333 = .ok (.ireturn, 1) := by decide +kernel
theorem dX9_once_334 : decode cX9_once 334 = .ok (.aload_n 0, 1) := by decide +kernel
theorem dX9_once_335 : decode cX9_once 335 = .ok (.iload 4, 2) := by decide +kernel
theorem dX9_once_337 : decode cX9_once 337 = .ok (.ifCond .eq 7, 3) := by decide +kernel
theorem dX9_once_340 : decode cX9_once 340 = .ok (.iload_n 3, 1) := by decide +kernel
theorem dX9_once_341 : decode cX9_once 341 = .ok (.goto 7, 3) := by decide +kernel
theorem dX9_once_344 : decode cX9_once 344 = .ok (.aload_n 0, 1) := by decide +kernel
theorem dX9_once_345 : decode cX9_once 345 = .ok (.getfield 260, 3) := by decide +kernel
theorem dX9_once_348 : decode cX9_once 348 = .ok (.putfield 260, 3) := by decide +kernel
theorem dX9_once_351 : decode cX9_once 351 = .ok (.iload 4, 2) := by decide +kernel
theorem dX9_once_353 : decode cX9_once 353 = .ok (.ifCond .eq 7, 3) := by decide +kernel
theorem dX9_once_356 : decode cX9_once 356 = .ok (.iconst 0, 1) := by decide +kernel
theorem dX9_once_357 : decode cX9_once 357 = .ok (.goto 4, 3) := by decide +kernel
theorem dX9_once_360 : decode cX9_once 360 = .ok (.iconst 4, 1) := by decide +kernel
theorem dX9_once_361 : decode cX9_once 361 = .ok (.ireturn, 1) := by decide +kernel
theorem dX9_step_0 : decode cX9_step 0 = .ok (.aload_n 0, 1) := by decide +kernel
theorem dX9_step_1 : decode cX9_step 1 = .ok (.getfield 140, 3) := by decide +kernel
theorem dX9_step_4 : decode cX9_step 4 = .ok (.iconst 1, 1) := by decide +kernel
theorem dX9_step_5 : decode cX9_step 5 = .ok (.if_icmp .eq 6, 3) := by decide +kernel
theorem dX9_step_8 : decode cX9_step 8 = .ok (.bipush (-3), 2) := by decide +kernel
theorem dX9_step_10 : decode cX9_step 10 = .ok (.ireturn, 1) := by decide +kernel
theorem dX9_step_11 : decode cX9_step 11 = .ok (.aload_n 0, 1) := by decide +kernel
theorem dX9_step_12 : decode cX9_step 12 = .ok (.invokevirtual 312, 3) := by decide +kernel
theorem dX9_step_15 : decode cX9_step 15 = .ok (.istore_n 1, 1) := by decide +kernel
theorem dX9_step_16 : decode cX9_step 16 = .ok (.aload_n 0, 1) := by decide +kernel
theorem dX9_step_17 : decode cX9_step 17 = .ok (.iload_n 1, 1) := by decide +kernel
theorem dX9_step_18 : decode cX9_step 18 = .ok (.ifCond .le 7, 3) := by decide +kernel
theorem dX9_step_21 : decode cX9_step 21 = .ok (.iload_n 1, 1) := by decide +kernel
theorem dX9_step_22 : decode cX9_step 22 = .ok (.goto 7, 3) := by decide +kernel
theorem dX9_step_25 : decode cX9_step 25 = .ok (.aload_n 0, 1) := by decide +kernel
theorem dX9_step_26 : decode cX9_step 26 = .ok (.getfield 140, 3) := by decide +kernel
theorem dX9_step_29 : decode cX9_step 29 = .ok (.putfield 140, 3) := by decide +kernel
theorem dX9_step_32 : decode cX9_step 32 = .ok (.aload_n 0, 1) := by decide +kernel
theorem dX9_step_33 : decode cX9_step 33 = .ok (.iload_n 1, 1) := by decide +kernel
theorem dX9_step_34 : decode cX9_step 34 = .ok (.ifCond .le 10, 3) := by decide +kernel
theorem dX9_step_37 : decode cX9_step 37 = .ok (.aload_n 0, 1) := by decide +kernel
theorem dX9_step_38 : decode cX9_step 38 = .ok (.getfield 263, 3) := by decide +kernel
theorem dX9_step_41 : decode cX9_step 41 = .ok (.goto 9, 3) := by decide +kernel
theorem dX9_step_44 : decode cX9_step 44 = .ok (.aload_n 0, 1) := by decide +kernel
theorem dX9_step_45 : decode cX9_step 45 = .ok (.getfield 263, 3) := by decide +kernel
theorem dX9_step_48 : decode cX9_step 48 = .ok (.iconst 1, 1) := by decide +kernel
theorem dX9_step_49 : decode cX9_step 49 = .ok (.iadd, 1) := by decide +kernel
theorem dX9_step_50 : decode cX9_step 50 = .ok (.putfield 263, 3) := by decide +kernel
theorem dX9_step_53 : decode cX9_step 53 = .ok (.aload_n 0, 1) := by decide +kernel
theorem dX9_step_54 : decode cX9_step 54 = .ok (.getfield 140, 3) := by decide +kernel
theorem dX9_step_57 : decode cX9_step 57 = .ok (.ireturn, 1) := by decide +kernel
theorem dX9_run_0 : decode cX9_run 0 = .ok (.iload_n 1, 1) := by decide +kernel
theorem dX9_run_1 : decode cX9_run 1 = .ok (.i2l, 1) := by decide +kernel
theorem dX9_run_2 : decode cX9_run 2 = .ok (.lconst 0, 1) := by decide +kernel
theorem dX9_run_3 : decode cX9_run 3 = .ok (.ldc2_w 316, 3) := by decide +kernel
theorem dX9_run_6 : decode cX9_run 6 = .ok (.invokestatic 132, 3) := by decide +kernel
theorem dX9_run_9 : decode cX9_run 9 = .ok (.ifCond .ne 6, 3) := by decide +kernel
theorem dX9_run_12 : decode cX9_run 12 = .ok (.bipush (-2), 2) := by decide +kernel
theorem dX9_run_14 : decode cX9_run 14 = .ok (.ireturn, 1) := by decide +kernel
theorem dX9_run_15 : decode cX9_run 15 = .ok (.aload_n 0, 1) := by decide +kernel
theorem dX9_run_16 : decode cX9_run 16 = .ok (.getfield 140, 3) := by decide +kernel
theorem dX9_run_19 : decode cX9_run 19 = .ok (.iconst 1, 1) := by decide +kernel
theorem dX9_run_20 : decode cX9_run 20 = .ok (.if_icmp .eq 6, 3) := by decide +kernel
theorem dX9_run_23 : decode cX9_run 23 = .ok (.bipush (-3), 2) := by decide +kernel
theorem dX9_run_25 : decode cX9_run 25 = .ok (.ireturn, 1) := by decide +kernel
theorem dX9_run_26 : decode cX9_run 26 = .ok (.iconst 0, 1) := by decide +kernel
theorem dX9_run_27 : decode cX9_run 27 = .ok (.istore_n 2, 1) := by decide +kernel
theorem dX9_run_28 : decode cX9_run 28 = .ok (.iload_n 2, 1) := by decide +kernel
theorem dX9_run_29 : decode cX9_run 29 = .ok (.iload_n 1, 1) := by decide +kernel
theorem dX9_run_30 : decode cX9_run 30 = .ok (.if_icmp .ge 27, 3) := by decide +kernel
theorem dX9_run_33 : decode cX9_run 33 = .ok (.aload_n 0, 1) := by decide +kernel
theorem dX9_run_34 : decode cX9_run 34 = .ok (.getfield 140, 3) := by decide +kernel
theorem dX9_run_37 : decode cX9_run 37 = .ok (.iconst 1, 1) := by decide +kernel
theorem dX9_run_38 : decode cX9_run 38 = .ok (.if_icmp .ne 19, 3) := by decide +kernel
theorem dX9_run_41 : decode cX9_run 41 = .ok (.aload_n 0, 1) := by decide +kernel
theorem dX9_run_42 : decode cX9_run 42 = .ok (.invokevirtual 318, 3) := by decide +kernel
theorem dX9_run_45 : decode cX9_run 45 = .ok (.istore_n 3, 1) := by decide +kernel
theorem dX9_run_46 : decode cX9_run 46 = .ok (.aload_n 0, 1) := by decide +kernel
theorem dX9_run_47 : decode cX9_run 47 = .ok (.iload_n 3, 1) := by decide +kernel
theorem dX9_run_48 : decode cX9_run 48 = .ok (.putfield 140, 3) := by decide +kernel
theorem dX9_run_51 : decode cX9_run 51 = .ok (.iinc 2 1, 3) := by decide +kernel
theorem dX9_run_54 : decode cX9_run 54 = .ok (.goto (-26), 3) := by decide +kernel
theorem dX9_run_57 : decode cX9_run 57 = .ok (.aload_n 0, 1) := by decide +kernel
theorem dX9_run_58 : decode cX9_run 58 = .ok (.getfield 140, 3) := by decide +kernel
theorem dX9_run_61 : decode cX9_run 61 = .ok (.ireturn, 1) := by decide +kernel
theorem dX9_context_0 : decode cX9_context 0 = .ok (.iload_n 1, 1) := by decide +kernel
theorem dX9_context_1 : decode cX9_context 1 = .ok (.i2l, 1) := by decide +kernel
theorem dX9_context_2 : decode cX9_context 2 = .ok (.lconst 0, 1) := by decide +kernel
theorem dX9_context_3 : decode cX9_context 3 = .ok (.ldc2_w 321, 3) := by decide +kernel
theorem dX9_context_6 : decode cX9_context 6 = .ok (.invokestatic 132, 3) := by decide +kernel
theorem dX9_context_9 : decode cX9_context 9 = .ok (.ifCond .ne 6, 3) := by decide +kernel
theorem dX9_context_12 : decode cX9_context 12 = .ok (.bipush (-2), 2) := by decide +kernel
theorem dX9_context_14 : decode cX9_context 14 = .ok (.ireturn, 1) := by decide +kernel
theorem dX9_context_15 : decode cX9_context 15 = .ok (.aload_n 0, 1) := by decide +kernel
theorem dX9_context_16 : decode cX9_context 16 = .ok (.getfield 140, 3) := by decide +kernel
theorem dX9_context_19 : decode cX9_context 19 = .ok (.iconst 1, 1) := by decide +kernel
theorem dX9_context_20 : decode cX9_context 20 = .ok (.if_icmp .ne 6, 3) := by decide +kernel
theorem dX9_context_23 : decode cX9_context 23 = .ok (.bipush (-3), 2) := by decide +kernel
theorem dX9_context_25 : decode cX9_context 25 = .ok (.ireturn, 1) := by decide +kernel
theorem dX9_context_26 : decode cX9_context 26 = .ok (.aload_n 0, 1) := by decide +kernel
theorem dX9_context_27 : decode cX9_context 27 = .ok (.getfield 209, 3) := by decide +kernel
theorem dX9_context_30 : decode cX9_context 30 = .ok (.istore_n 2, 1) := by decide +kernel
theorem dX9_context_31 : decode cX9_context 31 = .ok (.aload_n 0, 1) := by decide +kernel
theorem dX9_context_32 : decode cX9_context 32 = .ok (.getfield 209, 3) := by decide +kernel
theorem dX9_context_35 : decode cX9_context 35 = .ok (.istore_n 3, 1) := by decide +kernel
theorem dX9_context_36 : decode cX9_context 36 = .ok (.iload_n 3, 1) := by decide +kernel
theorem dX9_context_37 : decode cX9_context 37 = .ok (.iload_n 1, 1) := by decide +kernel
theorem dX9_context_38 : decode cX9_context 38 = .ok (.if_icmp .ge 16, 3) := by decide +kernel
theorem dX9_context_41 : decode cX9_context 41 = .ok (.aload_n 0, 1) := by decide +kernel
theorem dX9_context_42 : decode cX9_context 42 = .ok (.getfield 25, 3) := by decide +kernel
theorem dX9_context_45 : decode cX9_context 45 = .ok (.iload_n 3, 1) := by decide +kernel
theorem dX9_context_46 : decode cX9_context 46 = .ok (.iconst 0, 1) := by decide +kernel
theorem dX9_context_47 : decode cX9_context 47 = .ok (.iastore, 1) := by decide +kernel
theorem dX9_context_48 : decode cX9_context 48 = .ok (.iinc 3 1, 3) := by decide +kernel
theorem dX9_context_51 : decode cX9_context 51 = .ok (.goto (-15), 3) := by decide +kernel
theorem dX9_context_54 : decode cX9_context 54 = .ok (.aload_n 0, 1) := by decide +kernel
theorem dX9_context_55 : decode cX9_context 55 = .ok (.iload_n 1, 1) := by decide +kernel
theorem dX9_context_56 : decode cX9_context 56 = .ok (.putfield 209, 3) := by decide +kernel
theorem dX9_context_59 : decode cX9_context 59 = .ok (.iload_n 2, 1) := by decide +kernel
theorem dX9_context_60 : decode cX9_context 60 = .ok (.ireturn, 1) := by decide +kernel
theorem dX9_poke_0 : decode cX9_poke 0 = .ok (.iload_n 1, 1) := by decide +kernel
theorem dX9_poke_1 : decode cX9_poke 1 = .ok (.i2l, 1) := by decide +kernel
theorem dX9_poke_2 : decode cX9_poke 2 = .ok (.lconst 0, 1) := by decide +kernel
theorem dX9_poke_3 : decode cX9_poke 3 = .ok (.aload_n 0, 1) := by decide +kernel
theorem dX9_poke_4 : decode cX9_poke 4 = .ok (.getfield 209, 3) := by decide +kernel
theorem dX9_poke_7 : decode cX9_poke 7 = .ok (.iconst 1, 1) := by decide +kernel
theorem dX9_poke_8 : decode cX9_poke 8 = .ok (.isub, 1) := by decide +kernel
theorem dX9_poke_9 : decode cX9_poke 9 = .ok (.i2l, 1) := by decide +kernel
theorem dX9_poke_10 : decode cX9_poke 10 = .ok (.invokestatic 132, 3) := by decide +kernel
theorem dX9_poke_13 : decode cX9_poke 13 = .ok (.ifCond .ne 5, 3) := by decide +kernel
theorem dX9_poke_16 : decode cX9_poke 16 = .ok (.iconst (-1), 1) := by decide +kernel
theorem dX9_poke_17 : decode cX9_poke 17 = .ok (.ireturn, 1) := by decide +kernel
theorem dX9_poke_18 : decode cX9_poke 18 = .ok (.iload_n 2, 1) := by decide +kernel
theorem dX9_poke_19 : decode cX9_poke 19 = .ok (.i2l, 1) := by decide +kernel
theorem dX9_poke_20 : decode cX9_poke 20 = .ok (.lconst 0, 1) := by decide +kernel
theorem dX9_poke_21 : decode cX9_poke 21 = .ok (.ldc2_w 130, 3) := by decide +kernel
theorem dX9_poke_24 : decode cX9_poke 24 = .ok (.invokestatic 132, 3) := by decide +kernel
theorem dX9_poke_27 : decode cX9_poke 27 = .ok (.ifCond .ne 6, 3) := by decide +kernel
theorem dX9_poke_30 : decode cX9_poke 30 = .ok (.bipush (-2), 2) := by decide +kernel
theorem dX9_poke_32 : decode cX9_poke 32 = .ok (.ireturn, 1) := by decide +kernel
theorem dX9_poke_33 : decode cX9_poke 33 = .ok (.aload_n 0, 1) := by decide +kernel
theorem dX9_poke_34 : decode cX9_poke 34 = .ok (.getfield 140, 3) := by decide +kernel
theorem dX9_poke_37 : decode cX9_poke 37 = .ok (.iconst 1, 1) := by decide +kernel
theorem dX9_poke_38 : decode cX9_poke 38 = .ok (.if_icmp .ne 6, 3) := by decide +kernel
theorem dX9_poke_41 : decode cX9_poke 41 = .ok (.bipush (-3), 2) := by decide +kernel
theorem dX9_poke_43 : decode cX9_poke 43 = .ok (.ireturn, 1) := by decide +kernel
theorem dX9_poke_44 : decode cX9_poke 44 = .ok (.aload_n 0, 1) := by decide +kernel
theorem dX9_poke_45 : decode cX9_poke 45 = .ok (.getfield 25, 3) := by decide +kernel
theorem dX9_poke_48 : decode cX9_poke 48 = .ok (.iload_n 1, 1) := by decide +kernel
theorem dX9_poke_49 : decode cX9_poke 49 = .ok (.iaload, 1) := by decide +kernel
theorem dX9_poke_50 : decode cX9_poke 50 = .ok (.istore_n 3, 1) := by decide +kernel
theorem dX9_poke_51 : decode cX9_poke 51 = .ok (.aload_n 0, 1) := by decide +kernel
theorem dX9_poke_52 : decode cX9_poke 52 = .ok (.getfield 25, 3) := by decide +kernel
theorem dX9_poke_55 : decode cX9_poke 55 = .ok (.iload_n 1, 1) := by decide +kernel
theorem dX9_poke_56 : decode cX9_poke 56 = .ok (.iload_n 2, 1) := by decide +kernel
theorem dX9_poke_57 : decode cX9_poke 57 = .ok (.iastore, 1) := by decide +kernel
theorem dX9_poke_58 : decode cX9_poke 58 = .ok (.iload_n 3, 1) := by decide +kernel
theorem dX9_poke_59 : decode cX9_poke 59 = .ok (.ireturn, 1) := by decide +kernel
theorem dX9_tick_0 : decode cX9_tick 0 = .ok (.lload_n 1, 1) := by decide +kernel
theorem dX9_tick_1 : decode cX9_tick 1 = .ok (.lconst 0, 1) := by decide +kernel
theorem dX9_tick_2 : decode cX9_tick 2 = .ok (.lcmp, 1) := by decide +kernel
theorem dX9_tick_3 : decode cX9_tick 3 = .ok (.ifCond .lt 16, 3) := by decide +kernel
theorem dX9_tick_6 : decode cX9_tick 6 = .ok (.lload_n 1, 1) := by decide +kernel
theorem dX9_tick_7 : decode cX9_tick 7 = .ok (.ldc2_w 323, 3) := by decide +kernel
theorem dX9_tick_10 : decode cX9_tick 10 = .ok (.aload_n 0, 1) := by decide +kernel
theorem dX9_tick_11 : decode cX9_tick 11 = .ok (.getfield 244, 3) := by decide +kernel
theorem dX9_tick_14 : decode cX9_tick 14 = .ok (.lsub, 1) := by decide +kernel
theorem dX9_tick_15 : decode cX9_tick 15 = .ok (.lcmp, 1) := by decide +kernel
theorem dX9_tick_16 : decode cX9_tick 16 = .ok (.ifCond .le 7, 3) := by decide +kernel
theorem dX9_tick_19 : decode cX9_tick 19 = .ok (.ldc2_w 325, 3) := by decide +kernel
theorem dX9_tick_22 : decode cX9_tick 22 = .ok (.lreturn, 1) := by decide +kernel
theorem dX9_tick_23 : decode cX9_tick 23 = .ok (.aload_n 0, 1) := by decide +kernel
theorem dX9_tick_24 : decode cX9_tick 24 = .ok (.dup, 1) := by decide +kernel
theorem dX9_tick_25 : decode cX9_tick 25 = .ok (.getfield 244, 3) := by decide +kernel
theorem dX9_tick_28 : decode cX9_tick 28 = .ok (.lload_n 1, 1) := by decide +kernel
theorem dX9_tick_29 : decode cX9_tick 29 = .ok (.ladd, 1) := by decide +kernel
theorem dX9_tick_30 : decode cX9_tick 30 = .ok (.putfield 244, 3) := by decide +kernel
theorem dX9_tick_33 : decode cX9_tick 33 = .ok (.aload_n 0, 1) := by decide +kernel
theorem dX9_tick_34 : decode cX9_tick 34 = .ok (.getfield 244, 3) := by decide +kernel
theorem dX9_tick_37 : decode cX9_tick 37 = .ok (.lreturn, 1) := by decide +kernel
theorem dX9_told_0 : decode cX9_told 0 = .ok (.iload_n 1, 1) := by decide +kernel
theorem dX9_told_1 : decode cX9_told 1 = .ok (.tableswitch 69 0 5 #[39, 44, 49, 54, 59, 64], 39) := by decide +kernel
theorem dX9_told_40 : decode cX9_told 40 = .ok (.aload_n 0, 1) := by decide +kernel
theorem dX9_told_41 : decode cX9_told 41 = .ok (.getfield 140, 3) := by decide +kernel
theorem dX9_told_44 : decode cX9_told 44 = .ok (.ireturn, 1) := by decide +kernel
theorem dX9_told_45 : decode cX9_told 45 = .ok (.aload_n 0, 1) := by decide +kernel
theorem dX9_told_46 : decode cX9_told 46 = .ok (.getfield 260, 3) := by decide +kernel
theorem dX9_told_49 : decode cX9_told 49 = .ok (.ireturn, 1) := by decide +kernel
theorem dX9_told_50 : decode cX9_told 50 = .ok (.aload_n 0, 1) := by decide +kernel
theorem dX9_told_51 : decode cX9_told 51 = .ok (.getfield 263, 3) := by decide +kernel
theorem dX9_told_54 : decode cX9_told 54 = .ok (.ireturn, 1) := by decide +kernel
theorem dX9_told_55 : decode cX9_told 55 = .ok (.aload_n 0, 1) := by decide +kernel
theorem dX9_told_56 : decode cX9_told 56 = .ok (.getfield 147, 3) := by decide +kernel
theorem dX9_told_59 : decode cX9_told 59 = .ok (.ireturn, 1) := by decide +kernel
theorem dX9_told_60 : decode cX9_told 60 = .ok (.aload_n 0, 1) := by decide +kernel
theorem dX9_told_61 : decode cX9_told 61 = .ok (.getfield 204, 3) := by decide +kernel
theorem dX9_told_64 : decode cX9_told 64 = .ok (.ireturn, 1) := by decide +kernel
theorem dX9_told_65 : decode cX9_told 65 = .ok (.aload_n 0, 1) := by decide +kernel
theorem dX9_told_66 : decode cX9_told 66 = .ok (.getfield 248, 3) := by decide +kernel
theorem dX9_told_69 : decode cX9_told 69 = .ok (.ireturn, 1) := by decide +kernel
theorem dX9_told_70 : decode cX9_told 70 = .ok (.bipush (-2), 2) := by decide +kernel
theorem dX9_told_72 : decode cX9_told 72 = .ok (.ireturn, 1) := by decide +kernel
theorem dX9_register_0 : decode cX9_register 0 = .ok (.iload_n 1, 1) := by decide +kernel
theorem dX9_register_1 : decode cX9_register 1 = .ok (.i2l, 1) := by decide +kernel
theorem dX9_register_2 : decode cX9_register 2 = .ok (.lconst 0, 1) := by decide +kernel
theorem dX9_register_3 : decode cX9_register 3 = .ok (.ldc2_w 327, 3) := by decide +kernel
theorem dX9_register_6 : decode cX9_register 6 = .ok (.invokestatic 132, 3) := by decide +kernel
theorem dX9_register_9 : decode cX9_register 9 = .ok (.ifCond .eq 12, 3) := by decide +kernel
theorem dX9_register_12 : decode cX9_register 12 = .ok (.aload_n 0, 1) := by decide +kernel
theorem dX9_register_13 : decode cX9_register 13 = .ok (.getfield 53, 3) := by decide +kernel
theorem dX9_register_16 : decode cX9_register 16 = .ok (.iload_n 1, 1) := by decide +kernel
theorem dX9_register_17 : decode cX9_register 17 = .ok (.laload, 1) := by decide +kernel
theorem dX9_register_18 : decode cX9_register 18 = .ok (.goto 4, 3) := by decide +kernel
theorem dX9_register_21 : decode cX9_register 21 = .ok (.lconst 0, 1) := by decide +kernel
theorem dX9_register_22 : decode cX9_register 22 = .ok (.lreturn, 1) := by decide +kernel
theorem dX9_putAt_0 : decode cX9_putAt 0 = .ok (.aload_n 0, 1) := by decide +kernel
theorem dX9_putAt_1 : decode cX9_putAt 1 = .ok (.getfield 248, 3) := by decide +kernel
theorem dX9_putAt_4 : decode cX9_putAt 4 = .ok (.bipush 32, 2) := by decide +kernel
theorem dX9_putAt_6 : decode cX9_putAt 6 = .ok (.if_icmp .ge 10, 3) := by decide +kernel
theorem dX9_putAt_9 : decode cX9_putAt 9 = .ok (.aload_n 0, 1) := by decide +kernel
theorem dX9_putAt_10 : decode cX9_putAt 10 = .ok (.getfield 248, 3) := by decide +kernel
theorem dX9_putAt_13 : decode cX9_putAt 13 = .ok (.goto 5, 3) := by decide +kernel
theorem dX9_putAt_16 : decode cX9_putAt 16 = .ok (.bipush 32, 2) := by decide +kernel
theorem dX9_putAt_18 : decode cX9_putAt 18 = .ok (.istore_n 2, 1) := by decide +kernel
theorem dX9_putAt_19 : decode cX9_putAt 19 = .ok (.iload_n 1, 1) := by decide +kernel
theorem dX9_putAt_20 : decode cX9_putAt 20 = .ok (.i2l, 1) := by decide +kernel
theorem dX9_putAt_21 : decode cX9_putAt 21 = .ok (.lconst 0, 1) := by decide +kernel
theorem dX9_putAt_22 : decode cX9_putAt 22 = .ok (.iload_n 2, 1) := by decide +kernel
theorem dX9_putAt_23 : decode cX9_putAt 23 = .ok (.iconst 1, 1) := by decide +kernel
theorem dX9_putAt_24 : decode cX9_putAt 24 = .ok (.isub, 1) := by decide +kernel
theorem dX9_putAt_25 : decode cX9_putAt 25 = .ok (.i2l, 1) := by decide +kernel
theorem dX9_putAt_26 : decode cX9_putAt 26 = .ok (.invokestatic 132, 3) := by decide +kernel
theorem dX9_putAt_29 : decode cX9_putAt 29 = .ok (.ifCond .eq 22, 3) := by decide +kernel
theorem dX9_putAt_32 : decode cX9_putAt 32 = .ok (.aload_n 0, 1) := by decide +kernel
theorem dX9_putAt_33 : decode cX9_putAt 33 = .ok (.getfield 57, 3) := by decide +kernel
theorem dX9_putAt_36 : decode cX9_putAt 36 = .ok (.aload_n 0, 1) := by decide +kernel
theorem dX9_putAt_37 : decode cX9_putAt 37 = .ok (.getfield 248, 3) := by decide +kernel
theorem dX9_putAt_40 : decode cX9_putAt 40 = .ok (.iload_n 2, 1) := by decide +kernel
theorem dX9_putAt_41 : decode cX9_putAt 41 = .ok (.isub, 1) := by decide +kernel
theorem dX9_putAt_42 : decode cX9_putAt 42 = .ok (.iload_n 1, 1) := by decide +kernel
theorem dX9_putAt_43 : decode cX9_putAt 43 = .ok (.iadd, 1) := by decide +kernel
theorem dX9_putAt_44 : decode cX9_putAt 44 = .ok (.bipush 32, 2) := by decide +kernel
theorem dX9_putAt_46 : decode cX9_putAt 46 = .ok (.irem, 1) := by decide +kernel
theorem dX9_putAt_47 : decode cX9_putAt 47 = .ok (.laload, 1) := by decide +kernel
theorem dX9_putAt_48 : decode cX9_putAt 48 = .ok (.goto 4, 3) := by decide +kernel
theorem dX9_putAt_51 : decode cX9_putAt 51 = .ok (.lconst 0, 1) := by decide +kernel
theorem dX9_putAt_52 : decode cX9_putAt 52 = .ok (.lreturn, 1) := by decide +kernel
-- JudgedCodeModel.once
def f_X9_once_348 (S : sh) (x4 : Int32) (os0 : Nat) (xs1 : Int32) (D : dt) : Option (Int32 × dt) := nm (pI D os0 19 xs1) fun D135 => if x4 = 0 then (some ((4 : Int32), D135)) else (some ((0 : Int32), D135))
def f_X9_once_334 (S : sh) (o0 : Nat) (x3 : Int32) (x4 : Int32) (D : dt) : Option (Int32 × dt) := if x4 = 0 then (f_X9_once_348 S x4 o0 (gI D o0 19) D) else (f_X9_once_348 S x4 o0 x3 D)
def f_X9_once_320 (S : sh) (o0 : Nat) (x3 : Int32) (os0 : Nat) (xs1 : Int32) (xs2 : Int32) (D : dt) : Option (Int32 × dt) := cq (f_X9_both S os0 xs1 xs2 D) fun r139 D140 => f_X9_once_334 S o0 x3 r139 D140
def f_X9_once_173 (S : sh) (o0 : Nat) (x4 : Int32) (xs0 : Int32) (D : dt) : Option (Int32 × dt) := f_X9_once_334 S o0 xs0 x4 D
def f_X9_once_206 (S : sh) (o0 : Nat) (x4 : Int32) (xs0 : Int32) (xs1 : Int32) (D : dt) : Option (Int32 × dt) := nm (xs0 + xs1) fun y141 => f_X9_once_334 S o0 y141 x4 D
def f_X9_once (S : sh) (o0 : Nat) (D : dt) : Option (Int32 × dt) := nm (gI D o0 19) fun y142 => pq (f_X9_in y142.toInt64 (0 : Int64) (((gI D o0 0) - (1 : Int32)).toInt64)) fun r144 => if r144 = 0 then (some ((5 : Int32), D)) else (pq (f_X9_widthOf S D o0 y142) fun r147 => nm (y142 + (1 : Int32)) fun y148 => nm ((1 : Int32)) fun y149 => pq (f_X9_kindOf S D o0 y142) fun r151 => if r151 = 0 then (some ((3 : Int32), D)) else if r151 = 1 then (rq (gR D o0 21) fun o154 => rq (gR D o0 2) fun o158 => ix y142 (sA S o158) <| rq (gR D o0 21) fun o163 => rq (gR D o0 2) fun o167 => ix y142 (sA S o167) <| ix (gI D o167 y142.toNatClampNeg) (sA S o163) <| pq (f_X9_second S D o0 y142) fun r174 => pq (f_X9_reckon S D o0 y142 (gL D o163 (gI D o167 y142.toNatClampNeg).toNatClampNeg) r174) fun r176 => ix (gI D o158 y142.toNatClampNeg) (sA S o154) <| nm (pL D o154 (gI D o158 y142.toNatClampNeg).toNatClampNeg r176) fun D178 => f_X9_once_334 S o0 y148 y149 D178) else if r151 = 2 then (rq (gR D o0 21) fun o180 => rq (gR D o0 2) fun o184 => ix y142 (sA S o184) <| ix (gI D o184 y142.toNatClampNeg) (sA S o180) <| pq (f_X9_second S D o0 y142) fun r191 => pq (f_X9_jumps S D o0 y142 (gL D o180 (gI D o184 y142.toNatClampNeg).toNatClampNeg) r191) fun r193 => if r193 = 0 then (f_X9_once_173 S o0 y149 y148 D) else (rq (gR D o0 4) fun o195 => ix y142 (sA S o195) <| f_X9_once_173 S o0 y149 (y148 + (gI D o195 y142.toNatClampNeg)) D)) else if r151 = 3 then (rq (gR D o0 1) fun o201 => ix y142 (sA S o201) <| if ((gI D o201 y142.toNatClampNeg) &&& (7 : Int32)) = (5 : Int32) then (rq (gR D o0 4) fun o212 => ix y142 (sA S o212) <| f_X9_once_206 S o0 y149 y148 (gI D o212 y142.toNatClampNeg) D) else (rq (gR D o0 5) fun o207 => ix y142 (sA S o207) <| f_X9_once_206 S o0 y149 y148 (gI D o207 y142.toNatClampNeg) D)) else if r151 = 4 then (nm (pI D o0 18 (2 : Int32)) fun D218 => f_X9_once_334 S o0 y142 y149 D218) else if r151 = 5 then (rq (gR D o0 5) fun o220 => ix y142 (sA S o220) <| cq (f_X9_call S o0 (gI D o220 y142.toNatClampNeg) D) fun r226 D227 => f_X9_once_334 S o0 y148 r226 D227) else if r151 = 6 then (cq (f_X9_load S o0 y142 r147 (0 : Int32) D) fun r230 D231 => f_X9_once_334 S o0 y148 r230 D231) else if r151 = 7 then (cq (f_X9_load S o0 y142 r147 (1 : Int32) D) fun r234 D235 => f_X9_once_334 S o0 y148 r234 D235) else if r151 = 8 then (rq (gR D o0 5) fun o237 => ix y142 (sA S o237) <| cq (f_X9_put S o0 y142 r147 ((gI D o237 y142.toNatClampNeg).toInt64) D) fun r243 D244 => f_X9_once_334 S o0 y148 r243 D244) else if r151 = 9 then (rq (gR D o0 21) fun o246 => rq (gR D o0 3) fun o250 => ix y142 (sA S o250) <| ix (gI D o250 y142.toNatClampNeg) (sA S o246) <| cq (f_X9_put S o0 y142 r147 (gL D o246 (gI D o250 y142.toNatClampNeg).toNatClampNeg) D) fun r257 D258 => f_X9_once_334 S o0 y148 r257 D258) else if r151 = 10 then (rq (gR D o0 1) fun o260 => ix y142 (sA S o260) <| if (gI D o260 y142.toNatClampNeg) = (219 : Int32) then (f_X9_once_320 S o0 y148 o0 y142 (8 : Int32) D) else (f_X9_once_320 S o0 y148 o0 y142 (4 : Int32) D)) else (cq (f_X9_wide S o0 y142 D) fun r267 D268 => some (r267, D268)))
-- JudgedCodeModel.step
def f_X9_step_50 (S : sh) (o0 : Nat) (os0 : Nat) (xs1 : Int32) (D : dt) : Option (Int32 × dt) := nm (pI D os0 20 xs1) fun D9 => some ((gI D9 o0 18), D9)
def f_X9_step_29 (S : sh) (o0 : Nat) (x1 : Int32) (os0 : Nat) (xs1 : Int32) (D : dt) : Option (Int32 × dt) := nm (pI D os0 18 xs1) fun D10 => if x1 ≤ 0 then (f_X9_step_50 S o0 o0 ((gI D10 o0 20) + (1 : Int32)) D10) else (f_X9_step_50 S o0 o0 (gI D10 o0 20) D10)
def f_X9_step (S : sh) (o0 : Nat) (D : dt) : Option (Int32 × dt) := if (gI D o0 18) = (1 : Int32) then (cq (f_X9_once S o0 D) fun r14 D15 => if r14 ≤ 0 then (f_X9_step_29 S o0 r14 o0 (gI D15 o0 18) D15) else (f_X9_step_29 S o0 r14 o0 r14 D15)) else (some ((-3 : Int32), D))
-- JudgedCodeModel.run
def f_X9_run_57 (S : sh) (o0 : Nat) (D : dt) : Option (Int32 × dt) := some ((gI D o0 18), D)
def f_X9_run_28 (S : sh) : Nat → Nat → Int32 → Int32 → dt → Option (Int32 × dt)
  | 0, _, _, _, _ => none
  | n + 1, o0, x1, x2, D => if x1 ≤ x2 then (f_X9_run_57 S o0 D) else (if (gI D o0 18) = (1 : Int32) then (cq (f_X9_step S o0 D) fun r16 D17 => nm (pI D17 o0 18 r16) fun D18 => nm (x2 + 1) fun y19 => f_X9_run_28 S n o0 x1 y19 D18) else (f_X9_run_57 S o0 D))
def f_X9_run (S : sh) (o0 : Nat) (x1 : Int32) (D : dt) : Option (Int32 × dt) := pq (f_X9_in x1.toInt64 (0 : Int64) (10000 : Int64)) fun r21 => if r21 = 0 then (some ((-2 : Int32), D)) else (if (gI D o0 18) = (1 : Int32) then (nm ((0 : Int32)) fun y24 => f_X9_run_28 S LF o0 x1 y24 D) else (some ((-3 : Int32), D)))
-- JudgedCodeModel.context
def f_X9_context_36 (S : sh) : Nat → Nat → Int32 → Int32 → Int32 → dt → Option (Int32 × dt)
  | 0, _, _, _, _, _ => none
  | n + 1, o0, x1, x2, x3, D => if x1 ≤ x3 then (nm (pI D o0 7 x1) fun D17 => some (x2, D17)) else (rq (gR D o0 6) fun o18 => ix x3 (sA S o18) <| nm (pI D o18 x3.toNatClampNeg (0 : Int32)) fun D23 => nm (x3 + 1) fun y24 => f_X9_context_36 S n o0 x1 x2 y24 D23)
def f_X9_context (S : sh) (o0 : Nat) (x1 : Int32) (D : dt) : Option (Int32 × dt) := pq (f_X9_in x1.toInt64 (0 : Int64) (256 : Int64)) fun r26 => if r26 = 0 then (some ((-2 : Int32), D)) else (if (gI D o0 18) = (1 : Int32) then (some ((-3 : Int32), D)) else (nm (gI D o0 7) fun y29 => nm (gI D o0 7) fun y30 => f_X9_context_36 S LF o0 x1 y29 y30 D))
-- JudgedCodeModel.poke
def f_X9_poke (S : sh) (o0 : Nat) (x1 : Int32) (x2 : Int32) (D : dt) : Option (Int32 × dt) := pq (f_X9_in x1.toInt64 (0 : Int64) (((gI D o0 7) - (1 : Int32)).toInt64)) fun r21 => if r21 = 0 then (some ((-1 : Int32), D)) else (pq (f_X9_in x2.toInt64 (0 : Int64) (255 : Int64)) fun r24 => if r24 = 0 then (some ((-2 : Int32), D)) else (if (gI D o0 18) = (1 : Int32) then (some ((-3 : Int32), D)) else (rq (gR D o0 6) fun o27 => ix x1 (sA S o27) <| nm (gI D o27 x1.toNatClampNeg) fun y32 => rq (gR D o0 6) fun o33 => ix x1 (sA S o33) <| nm (pI D o33 x1.toNatClampNeg x2) fun D38 => some (y32, D38))))
-- JudgedCodeModel.tick
def f_X9_tick_19 (S : sh) (D : dt) : Option (Int64 × dt) := some ((-2 : Int64), D)
def f_X9_tick (S : sh) (o0 : Nat) (x1 : Int64) (D : dt) : Option (Int64 × dt) := if (lg_cmp x1 (0 : Int64)) < 0 then (f_X9_tick_19 S D) else (if (lg_cmp x1 ((4611686018427387904 : Int64) - (gL D o0 17))) ≤ 0 then (nm (pL D o0 17 ((gL D o0 17) + x1)) fun D6 => some ((gL D6 o0 17), D6)) else (f_X9_tick_19 S D))
-- JudgedCodeModel.told
def f_X9_told (S : sh) (D : dt) (o0 : Nat) (x1 : Int32) : Option Int32 := if x1 = 0 then (some (gI D o0 18)) else if x1 = 1 then (some (gI D o0 19)) else if x1 = 2 then (some (gI D o0 20)) else if x1 = 3 then (some (gI D o0 0)) else if x1 = 4 then (some (gI D o0 9)) else if x1 = 5 then (some (gI D o0 22)) else (some (-2 : Int32))
-- JudgedCodeModel.register
def f_X9_register (S : sh) (D : dt) (o0 : Nat) (x1 : Int32) : Option Int64 := pq (f_X9_in x1.toInt64 (0 : Int64) (10 : Int64)) fun r10 => if r10 = 0 then (some (0 : Int64)) else (rq (gR D o0 21) fun o12 => ix x1 (sA S o12) <| some (gL D o12 x1.toNatClampNeg))
-- JudgedCodeModel.putAt
def f_X9_putAt_18 (S : sh) (D : dt) (o0 : Nat) (x1 : Int32) (xs0 : Int32) : Option Int64 := pq (f_X9_in x1.toInt64 (0 : Int64) ((xs0 - (1 : Int32)).toInt64)) fun r11 => if r11 = 0 then (some (0 : Int64)) else (rq (gR D o0 23) fun o13 => ix ((((gI D o0 22) - xs0) + x1) - (((gI D o0 22) - xs0) + x1) / (32 : Int32) * (32 : Int32)) (sA S o13) <| some (gL D o13 ((((gI D o0 22) - xs0) + x1) - (((gI D o0 22) - xs0) + x1) / (32 : Int32) * (32 : Int32)).toNatClampNeg))
def f_X9_putAt (S : sh) (D : dt) (o0 : Nat) (x1 : Int32) : Option Int64 := if (32 : Int32) ≤ (gI D o0 22) then (f_X9_putAt_18 S D o0 x1 (32 : Int32)) else (f_X9_putAt_18 S D o0 x1 (gI D o0 22))
theorem mk_X9_once : MkV yX9_once RX9 cX9_once 5 (some .int) 0 := ⟨⟨lk_1306, lk_63, lk_121, (tb_in (i := 1307) (by decide +kernel) (by decide +kernel))⟩, by decide +kernel⟩
theorem mk_X9_step : MkV yX9_step RX9 cX9_step 2 (some .int) 0 := ⟨⟨lk_1301, lk_1302, lk_121, (tb_in (i := 1303) (by decide +kernel) (by decide +kernel))⟩, by decide +kernel⟩
theorem mk_X9_run : MkV yX9_run RX9 cX9_run 4 (some .int) 1 := ⟨⟨lk_1417, lk_1418, lk_121, (tb_in (i := 1419) (by decide +kernel) (by decide +kernel))⟩, by decide +kernel⟩
theorem mk_X9_context : MkV yX9_context RX9 cX9_context 4 (some .int) 1 := ⟨⟨lk_1423, lk_1424, lk_121, (tb_in (i := 1425) (by decide +kernel) (by decide +kernel))⟩, by decide +kernel⟩
theorem mk_X9_poke : MkV yX9_poke RX9 cX9_poke 4 (some .int) 2 := ⟨⟨lk_1428, lk_1429, lk_121, (tb_in (i := 1430) (by decide +kernel) (by decide +kernel))⟩, by decide +kernel⟩
theorem mk_X9_tick : MkV yX9_tick RX9 cX9_tick 3 (some .long) 1 := ⟨⟨lk_1432, lk_1433, lk_121, (tb_in (i := 1434) (by decide +kernel) (by decide +kernel))⟩, by decide +kernel⟩
theorem mk_X9_told : MkV yX9_told RX9 cX9_told 2 (some .int) 1 := ⟨⟨lk_1438, lk_1439, lk_121, (tb_in (i := 1440) (by decide +kernel) (by decide +kernel))⟩, by decide +kernel⟩
theorem mk_X9_register : MkV yX9_register RX9 cX9_register 2 (some .long) 1 := ⟨⟨lk_1442, lk_1443, lk_121, (tb_in (i := 1444) (by decide +kernel) (by decide +kernel))⟩, by decide +kernel⟩
theorem mk_X9_putAt : MkV yX9_putAt RX9 cX9_putAt 3 (some .long) 1 := ⟨⟨lk_1447, lk_1448, lk_121, (tb_in (i := 1449) (by decide +kernel) (by decide +kernel))⟩, by decide +kernel⟩
section
variable {p : Program} {l : Launch} {e : Env} {R : Room} {s : State} {m : MethodId} {args : Array Value} {below : List Frame} {meth : Method} {c : Code} {H : Heap} {locs : List Loc} {G : va_G} {cA : Nat → ClassId} {S : sh} {D : dt} {ad : Nat → Nat} {A : Nat → Prop}
set_option maxHeartbeats 4000000 in
set_option maxRecDepth 100000 in
theorem w_X9_once_348 {r : Int32} {D' : dt} (hC : Cx RX9 cX9_once 5 (some .int) p s m args meth c) (hR : 5 ≤ R.frames ∧ 139 ≤ R.locals) : ∀ (x4 : Int32) (os0 as0 : Nat) (xs1 : Int32) (D : dt) (H : Heap) (locs : List Loc) (ls : Array Slot), Is S ad os0 as0 8 → Wd G cA S D ad A s H locs → lv_has ls 5 [(4, .int x4)] → f_X9_once_348 S x4 os0 xs1 D = some (r, D') → W p l e R s m args below meth c H locs 0 0 (MQ below (Qn (some (.int r)) True (wpost G cA S D' ad A) A) args s 0 0 A) (F0 m 348 ls [.int xs1, .ref as0]) := by
  obtain ⟨hx, hb, -⟩ := id hC
  intro x4 os0 as0 xs1 D H locs ls his0 hw hl h
  unfold f_X9_once_348 at h
  refine r_pI hC hw kc_8 his0 19 rfl lk_1091 rfl rfl rfl dX9_once_348 (fun D135 eD135 H locs hw => ?_)
  have h := nm_i h D135 eD135
  refine lv_iload hx hb dX9_once_351 (lv_at hl 0 rfl) ?_
  refine lv_if_eq (tgt := 360) hx hb dX9_once_353 (by decide) (fun c136 => ?_) (fun c136 => ?_)
  · have h := i_yes c136 h
    refine lv_iconst (v := 4) hx hb dX9_once_360 (by decide) ?_
    cases h
    exact r_iret hC hw dX9_once_361
  · have h := i_no c136 h
    refine lv_iconst (v := 0) hx hb dX9_once_356 (by decide) ?_
    refine lv_goto (tgt := 361) hx hb dX9_once_357 (by decide) ?_
    cases h
    exact r_iret hC hw dX9_once_361
set_option maxHeartbeats 4000000 in
set_option maxRecDepth 100000 in
theorem w_X9_once_334 {r : Int32} {D' : dt} (hC : Cx RX9 cX9_once 5 (some .int) p s m args meth c) (hR : 5 ≤ R.frames ∧ 139 ≤ R.locals) : ∀ (o0 a0 : Nat) (x3 : Int32) (x4 : Int32) (D : dt) (H : Heap) (locs : List Loc) (ls : Array Slot), Is S ad o0 a0 8 → Wd G cA S D ad A s H locs → lv_has ls 5 [(0, .ref a0), (3, .int x3), (4, .int x4)] → f_X9_once_334 S o0 x3 x4 D = some (r, D') → W p l e R s m args below meth c H locs 0 0 (MQ below (Qn (some (.int r)) True (wpost G cA S D' ad A) A) args s 0 0 A) (F0 m 334 ls []) := by
  obtain ⟨hx, hb, -⟩ := id hC
  intro o0 a0 x3 x4 D H locs ls hi0 hw hl h
  unfold f_X9_once_334 at h
  refine lv_aload_n hx hb dX9_once_334 rfl (lv_at hl 0 rfl) ?_
  refine lv_iload hx hb dX9_once_335 (lv_at hl 2 rfl) ?_
  refine lv_if_eq (tgt := 344) hx hb dX9_once_337 (by decide) (fun c137 => ?_) (fun c137 => ?_)
  · have h := i_yes c137 h
    refine lv_aload_n hx hb dX9_once_344 rfl (lv_at hl 0 rfl) ?_
    refine r_gI hC hw kc_8 hi0 19 rfl lk_1091 dX9_once_345 ?_
    exact w_X9_once_348 hC hR x4 o0 a0 (gI D o0 19) _ _ _ _ hi0 hw (lv_sub hl [2] rfl) h
  · have h := i_no c137 h
    refine lv_iload_n hx hb dX9_once_340 rfl (lv_at hl 1 rfl) ?_
    refine lv_goto (tgt := 348) hx hb dX9_once_341 (by decide) ?_
    exact w_X9_once_348 hC hR x4 o0 a0 x3 _ _ _ _ hi0 hw (lv_sub hl [2] rfl) h
set_option maxHeartbeats 4000000 in
set_option maxRecDepth 100000 in
theorem w_X9_once_320 {r : Int32} {D' : dt} (hC : Cx RX9 cX9_once 5 (some .int) p s m args meth c) (hR : 5 ≤ R.frames ∧ 139 ≤ R.locals) : ∀ (o0 a0 : Nat) (x3 : Int32) (os0 as0 : Nat) (xs1 : Int32) (xs2 : Int32) (D : dt) (H : Heap) (locs : List Loc) (ls : Array Slot), Is S ad o0 a0 8 → Is S ad os0 as0 8 → Wd G cA S D ad A s H locs → lv_has ls 5 [(0, .ref a0), (3, .int x3)] → f_X9_once_320 S o0 x3 os0 xs1 xs2 D = some (r, D') → W p l e R s m args below meth c H locs 0 0 (MQ below (Qn (some (.int r)) True (wpost G cA S D' ad A) A) args s 0 0 A) (F0 m 320 ls [.int xs2, .int xs1, .ref as0]) := by
  obtain ⟨hx, hb, -⟩ := id hC
  intro o0 a0 x3 os0 as0 xs1 xs2 D H locs ls hi0 his0 hw hl h
  unfold f_X9_once_320 at h
  obtain ⟨r139, D140, hq138, h⟩ := cq_i h
  refine r_cV (st' := [.int r139]) [.int xs1, .int xs2] [] hC hw kc_8 his0 (k_X9_both _ his0 hq138) mk_X9_both lk_1404 ⟨Nat.le_trans (by decide) hR.1, Nat.le_trans (by decide) hR.2⟩ ⟨Nat.zero_le _, Nat.zero_le _⟩ rfl hl.1 rfl rfl (Nat.le_of_ble_eq_true rfl) dX9_once_320 (fun hP H locs hw => ?_)
  refine lv_istore (lv' := [(4, .int r139), (0, .ref a0), (3, .int x3)]) hx hb dX9_once_323 hl (by decide) rfl (fun ls hl => ?_)
  refine lv_goto (tgt := 334) hx hb dX9_once_325 (by decide) ?_
  exact w_X9_once_334 hC hR o0 a0 x3 r139 _ _ _ _ hi0 hw (lv_sub hl [1, 2, 0] rfl) h
set_option maxHeartbeats 4000000 in
set_option maxRecDepth 100000 in
theorem w_X9_once_173 {r : Int32} {D' : dt} (hC : Cx RX9 cX9_once 5 (some .int) p s m args meth c) (hR : 5 ≤ R.frames ∧ 139 ≤ R.locals) : ∀ (o0 a0 : Nat) (x4 : Int32) (xs0 : Int32) (D : dt) (H : Heap) (locs : List Loc) (ls : Array Slot), Is S ad o0 a0 8 → Wd G cA S D ad A s H locs → lv_has ls 5 [(0, .ref a0), (4, .int x4)] → f_X9_once_173 S o0 x4 xs0 D = some (r, D') → W p l e R s m args below meth c H locs 0 0 (MQ below (Qn (some (.int r)) True (wpost G cA S D' ad A) A) args s 0 0 A) (F0 m 173 ls [.int xs0]) := by
  obtain ⟨hx, hb, -⟩ := id hC
  intro o0 a0 x4 xs0 D H locs ls hi0 hw hl h
  unfold f_X9_once_173 at h
  refine lv_istore_n (lv' := [(3, .int xs0), (0, .ref a0), (4, .int x4)]) hx hb dX9_once_173 rfl hl (by decide) rfl (fun ls hl => ?_)
  refine lv_goto (tgt := 334) hx hb dX9_once_174 (by decide) ?_
  exact w_X9_once_334 hC hR o0 a0 xs0 x4 _ _ _ _ hi0 hw (lv_sub hl [1, 0, 2] rfl) h
set_option maxHeartbeats 4000000 in
set_option maxRecDepth 100000 in
theorem w_X9_once_206 {r : Int32} {D' : dt} (hC : Cx RX9 cX9_once 5 (some .int) p s m args meth c) (hR : 5 ≤ R.frames ∧ 139 ≤ R.locals) : ∀ (o0 a0 : Nat) (x4 : Int32) (xs0 : Int32) (xs1 : Int32) (D : dt) (H : Heap) (locs : List Loc) (ls : Array Slot), Is S ad o0 a0 8 → Wd G cA S D ad A s H locs → lv_has ls 5 [(0, .ref a0), (4, .int x4)] → f_X9_once_206 S o0 x4 xs0 xs1 D = some (r, D') → W p l e R s m args below meth c H locs 0 0 (MQ below (Qn (some (.int r)) True (wpost G cA S D' ad A) A) args s 0 0 A) (F0 m 206 ls [.int xs1, .int xs0]) := by
  obtain ⟨hx, hb, -⟩ := id hC
  intro o0 a0 x4 xs0 xs1 D H locs ls hi0 hw hl h
  unfold f_X9_once_206 at h
  refine lv_iadd hx hb dX9_once_206 ?_
  refine lv_topi (fun y141 ey141 => ?_)
  have h := nm_i h y141 ey141
  refine lv_istore_n (lv' := [(3, .int y141), (0, .ref a0), (4, .int x4)]) hx hb dX9_once_207 rfl hl (by decide) rfl (fun ls hl => ?_)
  refine lv_goto (tgt := 334) hx hb dX9_once_208 (by decide) ?_
  exact w_X9_once_334 hC hR o0 a0 y141 x4 _ _ _ _ hi0 hw (lv_sub hl [1, 0, 2] rfl) h
set_option maxHeartbeats 4000000 in
set_option maxRecDepth 100000 in
theorem w_X9_once_0 {r : Int32} {D' : dt} (hC : Cx RX9 cX9_once 5 (some .int) p s m args meth c) (hR : 5 ≤ R.frames ∧ 139 ≤ R.locals) : ∀ (o0 a0 : Nat) (D : dt) (H : Heap) (locs : List Loc) (ls : Array Slot), Is S ad o0 a0 8 → Wd G cA S D ad A s H locs → lv_has ls 5 [(0, .ref a0)] → f_X9_once S o0 D = some (r, D') → W p l e R s m args below meth c H locs 0 0 (MQ below (Qn (some (.int r)) True (wpost G cA S D' ad A) A) args s 0 0 A) (F0 m 0 ls []) := by
  obtain ⟨hx, hb, -⟩ := id hC
  intro o0 a0 D H locs ls hi0 hw hl h
  unfold f_X9_once at h
  refine lv_aload_n hx hb dX9_once_0 rfl (lv_at hl 0 rfl) ?_
  refine r_gI hC hw kc_8 hi0 19 rfl lk_1091 dX9_once_1 ?_
  refine lv_topi (fun y142 ey142 => ?_)
  have h := nm_i h y142 ey142
  refine lv_istore_n (lv' := [(1, .int y142), (0, .ref a0)]) hx hb dX9_once_4 rfl hl (by decide) rfl (fun ls hl => ?_)
  refine lv_iload_n hx hb dX9_once_5 rfl (lv_at hl 0 rfl) ?_
  refine lv_i2l (v := y142.toInt64) hx hb dX9_once_6 rfl ?_
  refine lv_lconst (v := 0) hx hb dX9_once_7 (by decide) ?_
  refine lv_aload_n hx hb dX9_once_8 rfl (lv_at hl 1 rfl) ?_
  refine r_gI hC hw kc_8 hi0 0 rfl lk_1072 dX9_once_9 ?_
  refine lv_iconst (v := 1) hx hb dX9_once_12 (by decide) ?_
  refine lv_isub hx hb dX9_once_13 ?_
  refine lv_i2l (v := ((gI D o0 0) - (1 : Int32)).toInt64) hx hb dX9_once_14 rfl ?_
  obtain ⟨r144, hq143, h⟩ := pq_i h
  refine r_cS (st' := [.int r144]) [.long y142.toInt64, .long (0 : Int64), .long (((gI D o0 0) - (1 : Int32)).toInt64)] [] hC hw (k_X9_in _ hq143) mk_X9_in lk_1243 ⟨Nat.le_trans (by decide) hR.1, Nat.le_trans (by decide) hR.2⟩ ⟨Nat.zero_le _, Nat.zero_le _⟩ rfl hl.1 rfl rfl (Nat.le_of_ble_eq_true rfl) dX9_once_15 (fun hP H locs hw => ?_)
  refine lv_if_ne (tgt := 23) hx hb dX9_once_18 (by decide) (fun c145 => ?_) (fun c145 => ?_)
  · have h := i_no c145 h
    refine lv_aload_n hx hb dX9_once_23 rfl (lv_at hl 1 rfl) ?_
    refine lv_iload_n hx hb dX9_once_24 rfl (lv_at hl 0 rfl) ?_
    obtain ⟨r147, hq146, h⟩ := pq_i h
    refine r_cV (st' := [.int r147]) [.int y142] [] hC hw kc_8 hi0 (k_X9_widthOf _ hi0 hq146) mk_X9_widthOf lk_1308 ⟨Nat.le_trans (by decide) hR.1, Nat.le_trans (by decide) hR.2⟩ ⟨Nat.zero_le _, Nat.zero_le _⟩ rfl hl.1 rfl rfl (Nat.le_of_ble_eq_true rfl) dX9_once_25 (fun hP H locs hw => ?_)
    refine lv_istore_n (lv' := [(2, .int r147), (1, .int y142), (0, .ref a0)]) hx hb dX9_once_28 rfl hl (by decide) rfl (fun ls hl => ?_)
    refine lv_iload_n hx hb dX9_once_29 rfl (lv_at hl 1 rfl) ?_
    refine lv_iconst (v := 1) hx hb dX9_once_30 (by decide) ?_
    refine lv_iadd hx hb dX9_once_31 ?_
    refine lv_topi (fun y148 ey148 => ?_)
    have h := nm_i h y148 ey148
    refine lv_istore_n (lv' := [(3, .int y148), (2, .int r147), (1, .int y142), (0, .ref a0)]) hx hb dX9_once_32 rfl hl (by decide) rfl (fun ls hl => ?_)
    refine lv_iconst (v := 1) hx hb dX9_once_33 (by decide) ?_
    refine lv_topi (fun y149 ey149 => ?_)
    have h := nm_i h y149 ey149
    refine lv_istore (lv' := [(4, .int y149), (3, .int y148), (2, .int r147), (1, .int y142), (0, .ref a0)]) hx hb dX9_once_34 hl (by decide) rfl (fun ls hl => ?_)
    refine lv_aload_n hx hb dX9_once_36 rfl (lv_at hl 4 rfl) ?_
    refine lv_iload_n hx hb dX9_once_37 rfl (lv_at hl 3 rfl) ?_
    obtain ⟨r151, hq150, h⟩ := pq_i h
    refine r_cV (st' := [.int r151]) [.int y142] [] hC hw kc_8 hi0 (k_X9_kindOf _ hi0 hq150) mk_X9_kindOf lk_1312 ⟨Nat.le_trans (by decide) hR.1, Nat.le_trans (by decide) hR.2⟩ ⟨Nat.zero_le _, Nat.zero_le _⟩ rfl hl.1 rfl rfl (Nat.le_of_ble_eq_true rfl) dX9_once_38 (fun hP H locs hw => ?_)
    by_cases c152 : r151 = 0
    · have h := i_yes c152 h
      refine lv_tableIn (off := 59) (tgt := 100) hx hb dX9_once_41 (by rw [c152]; decide) (by rw [c152]; decide) (by rw [c152] <;> rfl) (by decide) ?_
      refine lv_iconst (v := 3) hx hb dX9_once_100 (by decide) ?_
      cases h
      exact r_iret hC hw dX9_once_101
    have h := i_no c152 h
    by_cases c153 : r151 = 1
    · have h := i_yes c153 h
      refine lv_tableIn (off := 61) (tgt := 102) hx hb dX9_once_41 (by rw [c153]; decide) (by rw [c153]; decide) (by rw [c153] <;> rfl) (by decide) ?_
      refine lv_aload_n hx hb dX9_once_102 rfl (lv_at hl 4 rfl) ?_
      obtain ⟨o154, ho157, h⟩ := rq_i h
      refine r_getR hC hw kc_8 hi0 21 rfl lk_1093 dX9_once_103 rfl ho157 (fun a155 hi156 => ?_)
      refine lv_aload_n hx hb dX9_once_106 rfl (lv_at hl 4 rfl) ?_
      obtain ⟨o158, ho161, h⟩ := rq_i h
      refine r_getR hC hw kc_8 hi0 2 rfl lk_1074 dX9_once_107 rfl ho161 (fun a159 hi160 => ?_)
      refine lv_iload_n hx hb dX9_once_110 rfl (lv_at hl 3 rfl) ?_
      obtain ⟨hn162, h⟩ := ix_i h
      refine r_iald hC hw hi160 hn162 dX9_once_111 ?_
      refine lv_aload_n hx hb dX9_once_112 rfl (lv_at hl 4 rfl) ?_
      refine lv_iload_n hx hb dX9_once_113 rfl (lv_at hl 3 rfl) ?_
      refine lv_aload_n hx hb dX9_once_114 rfl (lv_at hl 4 rfl) ?_
      obtain ⟨o163, ho166, h⟩ := rq_i h
      refine r_getR hC hw kc_8 hi0 21 rfl lk_1093 dX9_once_115 rfl ho166 (fun a164 hi165 => ?_)
      refine lv_aload_n hx hb dX9_once_118 rfl (lv_at hl 4 rfl) ?_
      obtain ⟨o167, ho170, h⟩ := rq_i h
      refine r_getR hC hw kc_8 hi0 2 rfl lk_1074 dX9_once_119 rfl ho170 (fun a168 hi169 => ?_)
      refine lv_iload_n hx hb dX9_once_122 rfl (lv_at hl 3 rfl) ?_
      obtain ⟨hn171, h⟩ := ix_i h
      refine r_iald hC hw hi169 hn171 dX9_once_123 ?_
      obtain ⟨hn172, h⟩ := ix_i h
      refine r_lald hC hw hi165 hn172 dX9_once_124 ?_
      refine lv_aload_n hx hb dX9_once_125 rfl (lv_at hl 4 rfl) ?_
      refine lv_iload_n hx hb dX9_once_126 rfl (lv_at hl 3 rfl) ?_
      obtain ⟨r174, hq173, h⟩ := pq_i h
      refine r_cV (st' := [.long r174, .long (gL D o163 (gI D o167 y142.toNatClampNeg).toNatClampNeg), .int y142, .ref a0, .int (gI D o158 y142.toNatClampNeg), .ref a155]) [.int y142] [.long (gL D o163 (gI D o167 y142.toNatClampNeg).toNatClampNeg), .int y142, .ref a0, .int (gI D o158 y142.toNatClampNeg), .ref a155] hC hw kc_8 hi0 (k_X9_second _ hi0 hq173) mk_X9_second lk_1336 ⟨Nat.le_trans (by decide) hR.1, Nat.le_trans (by decide) hR.2⟩ ⟨Nat.zero_le _, Nat.zero_le _⟩ rfl hl.1 rfl rfl (Nat.le_of_ble_eq_true rfl) dX9_once_127 (fun hP H locs hw => ?_)
      obtain ⟨r176, hq175, h⟩ := pq_i h
      refine r_cV (st' := [.long r176, .int (gI D o158 y142.toNatClampNeg), .ref a155]) [.int y142, .long (gL D o163 (gI D o167 y142.toNatClampNeg).toNatClampNeg), .long r174] [.int (gI D o158 y142.toNatClampNeg), .ref a155] hC hw kc_8 hi0 (k_X9_reckon _ hi0 hq175) mk_X9_reckon lk_1340 ⟨Nat.le_trans (by decide) hR.1, Nat.le_trans (by decide) hR.2⟩ ⟨Nat.zero_le _, Nat.zero_le _⟩ rfl hl.1 rfl rfl (Nat.le_of_ble_eq_true rfl) dX9_once_130 (fun hP H locs hw => ?_)
      obtain ⟨hn177, h⟩ := ix_i h
      refine r_las hC hw hi156 hn177 dX9_once_133 (fun D178 eD178 H locs hw => ?_)
      have h := nm_i h D178 eD178
      refine lv_goto (tgt := 334) hx hb dX9_once_134 (by decide) ?_
      exact w_X9_once_334 hC hR o0 a0 y148 y149 _ _ _ _ hi0 hw (lv_sub hl [4, 1, 0] rfl) h
    have h := i_no c153 h
    by_cases c179 : r151 = 2
    · have h := i_yes c179 h
      refine lv_tableIn (off := 96) (tgt := 137) hx hb dX9_once_41 (by rw [c179]; decide) (by rw [c179]; decide) (by rw [c179] <;> rfl) (by decide) ?_
      refine lv_aload_n hx hb dX9_once_137 rfl (lv_at hl 4 rfl) ?_
      refine lv_iload_n hx hb dX9_once_138 rfl (lv_at hl 3 rfl) ?_
      refine lv_aload_n hx hb dX9_once_139 rfl (lv_at hl 4 rfl) ?_
      obtain ⟨o180, ho183, h⟩ := rq_i h
      refine r_getR hC hw kc_8 hi0 21 rfl lk_1093 dX9_once_140 rfl ho183 (fun a181 hi182 => ?_)
      refine lv_aload_n hx hb dX9_once_143 rfl (lv_at hl 4 rfl) ?_
      obtain ⟨o184, ho187, h⟩ := rq_i h
      refine r_getR hC hw kc_8 hi0 2 rfl lk_1074 dX9_once_144 rfl ho187 (fun a185 hi186 => ?_)
      refine lv_iload_n hx hb dX9_once_147 rfl (lv_at hl 3 rfl) ?_
      obtain ⟨hn188, h⟩ := ix_i h
      refine r_iald hC hw hi186 hn188 dX9_once_148 ?_
      obtain ⟨hn189, h⟩ := ix_i h
      refine r_lald hC hw hi182 hn189 dX9_once_149 ?_
      refine lv_aload_n hx hb dX9_once_150 rfl (lv_at hl 4 rfl) ?_
      refine lv_iload_n hx hb dX9_once_151 rfl (lv_at hl 3 rfl) ?_
      obtain ⟨r191, hq190, h⟩ := pq_i h
      refine r_cV (st' := [.long r191, .long (gL D o180 (gI D o184 y142.toNatClampNeg).toNatClampNeg), .int y142, .ref a0]) [.int y142] [.long (gL D o180 (gI D o184 y142.toNatClampNeg).toNatClampNeg), .int y142, .ref a0] hC hw kc_8 hi0 (k_X9_second _ hi0 hq190) mk_X9_second lk_1336 ⟨Nat.le_trans (by decide) hR.1, Nat.le_trans (by decide) hR.2⟩ ⟨Nat.zero_le _, Nat.zero_le _⟩ rfl hl.1 rfl rfl (Nat.le_of_ble_eq_true rfl) dX9_once_152 (fun hP H locs hw => ?_)
      obtain ⟨r193, hq192, h⟩ := pq_i h
      refine r_cV (st' := [.int r193]) [.int y142, .long (gL D o180 (gI D o184 y142.toNatClampNeg).toNatClampNeg), .long r191] [] hC hw kc_8 hi0 (k_X9_jumps _ hi0 hq192) mk_X9_jumps lk_1366 ⟨Nat.le_trans (by decide) hR.1, Nat.le_trans (by decide) hR.2⟩ ⟨Nat.zero_le _, Nat.zero_le _⟩ rfl hl.1 rfl rfl (Nat.le_of_ble_eq_true rfl) dX9_once_155 (fun hP H locs hw => ?_)
      refine lv_if_eq (tgt := 172) hx hb dX9_once_158 (by decide) (fun c194 => ?_) (fun c194 => ?_)
      · have h := i_yes c194 h
        refine lv_iload_n hx hb dX9_once_172 rfl (lv_at hl 1 rfl) ?_
        exact w_X9_once_173 hC hR o0 a0 y149 y148 _ _ _ _ hi0 hw (lv_sub hl [4, 0] rfl) h
      · have h := i_no c194 h
        refine lv_iload_n hx hb dX9_once_161 rfl (lv_at hl 1 rfl) ?_
        refine lv_aload_n hx hb dX9_once_162 rfl (lv_at hl 4 rfl) ?_
        obtain ⟨o195, ho198, h⟩ := rq_i h
        refine r_getR hC hw kc_8 hi0 4 rfl lk_1076 dX9_once_163 rfl ho198 (fun a196 hi197 => ?_)
        refine lv_iload_n hx hb dX9_once_166 rfl (lv_at hl 3 rfl) ?_
        obtain ⟨hn199, h⟩ := ix_i h
        refine r_iald hC hw hi197 hn199 dX9_once_167 ?_
        refine lv_iadd hx hb dX9_once_168 ?_
        refine lv_goto (tgt := 173) hx hb dX9_once_169 (by decide) ?_
        exact w_X9_once_173 hC hR o0 a0 y149 (y148 + (gI D o195 y142.toNatClampNeg)) _ _ _ _ hi0 hw (lv_sub hl [4, 0] rfl) h
    have h := i_no c179 h
    by_cases c200 : r151 = 3
    · have h := i_yes c200 h
      refine lv_tableIn (off := 136) (tgt := 177) hx hb dX9_once_41 (by rw [c200]; decide) (by rw [c200]; decide) (by rw [c200] <;> rfl) (by decide) ?_
      refine lv_iload_n hx hb dX9_once_177 rfl (lv_at hl 1 rfl) ?_
      refine lv_aload_n hx hb dX9_once_178 rfl (lv_at hl 4 rfl) ?_
      obtain ⟨o201, ho204, h⟩ := rq_i h
      refine r_getR hC hw kc_8 hi0 1 rfl lk_1073 dX9_once_179 rfl ho204 (fun a202 hi203 => ?_)
      refine lv_iload_n hx hb dX9_once_182 rfl (lv_at hl 3 rfl) ?_
      obtain ⟨hn205, h⟩ := ix_i h
      refine r_iald hC hw hi203 hn205 dX9_once_183 ?_
      refine lv_bipush (v := 7) hx hb dX9_once_184 (by decide) ?_
      refine lv_iand hx hb dX9_once_186 ?_
      refine lv_iconst (v := 5) hx hb dX9_once_187 (by decide) ?_
      refine lv_icmp_ne (tgt := 200) hx hb dX9_once_188 (by decide) (fun c206 => ?_) (fun c206 => ?_)
      · have h := i_no c206 h
        refine lv_aload_n hx hb dX9_once_200 rfl (lv_at hl 4 rfl) ?_
        obtain ⟨o207, ho210, h⟩ := rq_i h
        refine r_getR hC hw kc_8 hi0 5 rfl lk_1077 dX9_once_201 rfl ho210 (fun a208 hi209 => ?_)
        refine lv_iload_n hx hb dX9_once_204 rfl (lv_at hl 3 rfl) ?_
        obtain ⟨hn211, h⟩ := ix_i h
        refine r_iald hC hw hi209 hn211 dX9_once_205 ?_
        exact w_X9_once_206 hC hR o0 a0 y149 y148 (gI D o207 y142.toNatClampNeg) _ _ _ _ hi0 hw (lv_sub hl [4, 0] rfl) h
      · have h := i_yes c206 h
        refine lv_aload_n hx hb dX9_once_191 rfl (lv_at hl 4 rfl) ?_
        obtain ⟨o212, ho215, h⟩ := rq_i h
        refine r_getR hC hw kc_8 hi0 4 rfl lk_1076 dX9_once_192 rfl ho215 (fun a213 hi214 => ?_)
        refine lv_iload_n hx hb dX9_once_195 rfl (lv_at hl 3 rfl) ?_
        obtain ⟨hn216, h⟩ := ix_i h
        refine r_iald hC hw hi214 hn216 dX9_once_196 ?_
        refine lv_goto (tgt := 206) hx hb dX9_once_197 (by decide) ?_
        exact w_X9_once_206 hC hR o0 a0 y149 y148 (gI D o212 y142.toNatClampNeg) _ _ _ _ hi0 hw (lv_sub hl [4, 0] rfl) h
    have h := i_no c200 h
    by_cases c217 : r151 = 4
    · have h := i_yes c217 h
      refine lv_tableIn (off := 170) (tgt := 211) hx hb dX9_once_41 (by rw [c217]; decide) (by rw [c217]; decide) (by rw [c217] <;> rfl) (by decide) ?_
      refine lv_aload_n hx hb dX9_once_211 rfl (lv_at hl 4 rfl) ?_
      refine lv_iconst (v := 2) hx hb dX9_once_212 (by decide) ?_
      refine r_pI hC hw kc_8 hi0 18 rfl lk_1090 rfl rfl rfl dX9_once_213 (fun D218 eD218 H locs hw => ?_)
      have h := nm_i h D218 eD218
      refine lv_iload_n hx hb dX9_once_216 rfl (lv_at hl 3 rfl) ?_
      refine lv_istore_n (lv' := [(3, .int y142), (4, .int y149), (2, .int r147), (1, .int y142), (0, .ref a0)]) hx hb dX9_once_217 rfl hl (by decide) rfl (fun ls hl => ?_)
      refine lv_goto (tgt := 334) hx hb dX9_once_218 (by decide) ?_
      exact w_X9_once_334 hC hR o0 a0 y142 y149 _ _ _ _ hi0 hw (lv_sub hl [4, 0, 1] rfl) h
    have h := i_no c217 h
    by_cases c219 : r151 = 5
    · have h := i_yes c219 h
      refine lv_tableIn (off := 180) (tgt := 221) hx hb dX9_once_41 (by rw [c219]; decide) (by rw [c219]; decide) (by rw [c219] <;> rfl) (by decide) ?_
      refine lv_aload_n hx hb dX9_once_221 rfl (lv_at hl 4 rfl) ?_
      refine lv_aload_n hx hb dX9_once_222 rfl (lv_at hl 4 rfl) ?_
      obtain ⟨o220, ho223, h⟩ := rq_i h
      refine r_getR hC hw kc_8 hi0 5 rfl lk_1077 dX9_once_223 rfl ho223 (fun a221 hi222 => ?_)
      refine lv_iload_n hx hb dX9_once_226 rfl (lv_at hl 3 rfl) ?_
      obtain ⟨hn224, h⟩ := ix_i h
      refine r_iald hC hw hi222 hn224 dX9_once_227 ?_
      obtain ⟨r226, D227, hq225, h⟩ := cq_i h
      refine r_cV (st' := [.int r226]) [.int (gI D o220 y142.toNatClampNeg)] [] hC hw kc_8 hi0 (k_X9_call _ hi0 hq225) mk_X9_call lk_1370 ⟨Nat.le_trans (by decide) hR.1, Nat.le_trans (by decide) hR.2⟩ ⟨Nat.zero_le _, Nat.zero_le _⟩ rfl hl.1 rfl rfl (Nat.le_of_ble_eq_true rfl) dX9_once_228 (fun hP H locs hw => ?_)
      refine lv_istore (lv' := [(4, .int r226), (3, .int y148), (2, .int r147), (1, .int y142), (0, .ref a0)]) hx hb dX9_once_231 hl (by decide) rfl (fun ls hl => ?_)
      refine lv_goto (tgt := 334) hx hb dX9_once_233 (by decide) ?_
      exact w_X9_once_334 hC hR o0 a0 y148 r226 _ _ _ _ hi0 hw (lv_sub hl [4, 1, 0] rfl) h
    have h := i_no c219 h
    by_cases c228 : r151 = 6
    · have h := i_yes c228 h
      refine lv_tableIn (off := 195) (tgt := 236) hx hb dX9_once_41 (by rw [c228]; decide) (by rw [c228]; decide) (by rw [c228] <;> rfl) (by decide) ?_
      refine lv_aload_n hx hb dX9_once_236 rfl (lv_at hl 4 rfl) ?_
      refine lv_iload_n hx hb dX9_once_237 rfl (lv_at hl 3 rfl) ?_
      refine lv_iload_n hx hb dX9_once_238 rfl (lv_at hl 2 rfl) ?_
      refine lv_iconst (v := 0) hx hb dX9_once_239 (by decide) ?_
      obtain ⟨r230, D231, hq229, h⟩ := cq_i h
      refine r_cV (st' := [.int r230]) [.int y142, .int r147, .int (0 : Int32)] [] hC hw kc_8 hi0 (k_X9_load _ hi0 hq229) mk_X9_load lk_1384 ⟨Nat.le_trans (by decide) hR.1, Nat.le_trans (by decide) hR.2⟩ ⟨Nat.zero_le _, Nat.zero_le _⟩ rfl hl.1 rfl rfl (Nat.le_of_ble_eq_true rfl) dX9_once_240 (fun hP H locs hw => ?_)
      refine lv_istore (lv' := [(4, .int r230), (3, .int y148), (2, .int r147), (1, .int y142), (0, .ref a0)]) hx hb dX9_once_243 hl (by decide) rfl (fun ls hl => ?_)
      refine lv_goto (tgt := 334) hx hb dX9_once_245 (by decide) ?_
      exact w_X9_once_334 hC hR o0 a0 y148 r230 _ _ _ _ hi0 hw (lv_sub hl [4, 1, 0] rfl) h
    have h := i_no c228 h
    by_cases c232 : r151 = 7
    · have h := i_yes c232 h
      refine lv_tableIn (off := 207) (tgt := 248) hx hb dX9_once_41 (by rw [c232]; decide) (by rw [c232]; decide) (by rw [c232] <;> rfl) (by decide) ?_
      refine lv_aload_n hx hb dX9_once_248 rfl (lv_at hl 4 rfl) ?_
      refine lv_iload_n hx hb dX9_once_249 rfl (lv_at hl 3 rfl) ?_
      refine lv_iload_n hx hb dX9_once_250 rfl (lv_at hl 2 rfl) ?_
      refine lv_iconst (v := 1) hx hb dX9_once_251 (by decide) ?_
      obtain ⟨r234, D235, hq233, h⟩ := cq_i h
      refine r_cV (st' := [.int r234]) [.int y142, .int r147, .int (1 : Int32)] [] hC hw kc_8 hi0 (k_X9_load _ hi0 hq233) mk_X9_load lk_1384 ⟨Nat.le_trans (by decide) hR.1, Nat.le_trans (by decide) hR.2⟩ ⟨Nat.zero_le _, Nat.zero_le _⟩ rfl hl.1 rfl rfl (Nat.le_of_ble_eq_true rfl) dX9_once_252 (fun hP H locs hw => ?_)
      refine lv_istore (lv' := [(4, .int r234), (3, .int y148), (2, .int r147), (1, .int y142), (0, .ref a0)]) hx hb dX9_once_255 hl (by decide) rfl (fun ls hl => ?_)
      refine lv_goto (tgt := 334) hx hb dX9_once_257 (by decide) ?_
      exact w_X9_once_334 hC hR o0 a0 y148 r234 _ _ _ _ hi0 hw (lv_sub hl [4, 1, 0] rfl) h
    have h := i_no c232 h
    by_cases c236 : r151 = 8
    · have h := i_yes c236 h
      refine lv_tableIn (off := 219) (tgt := 260) hx hb dX9_once_41 (by rw [c236]; decide) (by rw [c236]; decide) (by rw [c236] <;> rfl) (by decide) ?_
      refine lv_aload_n hx hb dX9_once_260 rfl (lv_at hl 4 rfl) ?_
      refine lv_iload_n hx hb dX9_once_261 rfl (lv_at hl 3 rfl) ?_
      refine lv_iload_n hx hb dX9_once_262 rfl (lv_at hl 2 rfl) ?_
      refine lv_aload_n hx hb dX9_once_263 rfl (lv_at hl 4 rfl) ?_
      obtain ⟨o237, ho240, h⟩ := rq_i h
      refine r_getR hC hw kc_8 hi0 5 rfl lk_1077 dX9_once_264 rfl ho240 (fun a238 hi239 => ?_)
      refine lv_iload_n hx hb dX9_once_267 rfl (lv_at hl 3 rfl) ?_
      obtain ⟨hn241, h⟩ := ix_i h
      refine r_iald hC hw hi239 hn241 dX9_once_268 ?_
      refine lv_i2l (v := (gI D o237 y142.toNatClampNeg).toInt64) hx hb dX9_once_269 rfl ?_
      obtain ⟨r243, D244, hq242, h⟩ := cq_i h
      refine r_cV (st' := [.int r243]) [.int y142, .int r147, .long ((gI D o237 y142.toNatClampNeg).toInt64)] [] hC hw kc_8 hi0 (k_X9_put _ hi0 hq242) mk_X9_put lk_1392 ⟨Nat.le_trans (by decide) hR.1, Nat.le_trans (by decide) hR.2⟩ ⟨Nat.zero_le _, Nat.zero_le _⟩ rfl hl.1 rfl rfl (Nat.le_of_ble_eq_true rfl) dX9_once_270 (fun hP H locs hw => ?_)
      refine lv_istore (lv' := [(4, .int r243), (3, .int y148), (2, .int r147), (1, .int y142), (0, .ref a0)]) hx hb dX9_once_273 hl (by decide) rfl (fun ls hl => ?_)
      refine lv_goto (tgt := 334) hx hb dX9_once_275 (by decide) ?_
      exact w_X9_once_334 hC hR o0 a0 y148 r243 _ _ _ _ hi0 hw (lv_sub hl [4, 1, 0] rfl) h
    have h := i_no c236 h
    by_cases c245 : r151 = 9
    · have h := i_yes c245 h
      refine lv_tableIn (off := 237) (tgt := 278) hx hb dX9_once_41 (by rw [c245]; decide) (by rw [c245]; decide) (by rw [c245] <;> rfl) (by decide) ?_
      refine lv_aload_n hx hb dX9_once_278 rfl (lv_at hl 4 rfl) ?_
      refine lv_iload_n hx hb dX9_once_279 rfl (lv_at hl 3 rfl) ?_
      refine lv_iload_n hx hb dX9_once_280 rfl (lv_at hl 2 rfl) ?_
      refine lv_aload_n hx hb dX9_once_281 rfl (lv_at hl 4 rfl) ?_
      obtain ⟨o246, ho249, h⟩ := rq_i h
      refine r_getR hC hw kc_8 hi0 21 rfl lk_1093 dX9_once_282 rfl ho249 (fun a247 hi248 => ?_)
      refine lv_aload_n hx hb dX9_once_285 rfl (lv_at hl 4 rfl) ?_
      obtain ⟨o250, ho253, h⟩ := rq_i h
      refine r_getR hC hw kc_8 hi0 3 rfl lk_1075 dX9_once_286 rfl ho253 (fun a251 hi252 => ?_)
      refine lv_iload_n hx hb dX9_once_289 rfl (lv_at hl 3 rfl) ?_
      obtain ⟨hn254, h⟩ := ix_i h
      refine r_iald hC hw hi252 hn254 dX9_once_290 ?_
      obtain ⟨hn255, h⟩ := ix_i h
      refine r_lald hC hw hi248 hn255 dX9_once_291 ?_
      obtain ⟨r257, D258, hq256, h⟩ := cq_i h
      refine r_cV (st' := [.int r257]) [.int y142, .int r147, .long (gL D o246 (gI D o250 y142.toNatClampNeg).toNatClampNeg)] [] hC hw kc_8 hi0 (k_X9_put _ hi0 hq256) mk_X9_put lk_1392 ⟨Nat.le_trans (by decide) hR.1, Nat.le_trans (by decide) hR.2⟩ ⟨Nat.zero_le _, Nat.zero_le _⟩ rfl hl.1 rfl rfl (Nat.le_of_ble_eq_true rfl) dX9_once_292 (fun hP H locs hw => ?_)
      refine lv_istore (lv' := [(4, .int r257), (3, .int y148), (2, .int r147), (1, .int y142), (0, .ref a0)]) hx hb dX9_once_295 hl (by decide) rfl (fun ls hl => ?_)
      refine lv_goto (tgt := 334) hx hb dX9_once_297 (by decide) ?_
      exact w_X9_once_334 hC hR o0 a0 y148 r257 _ _ _ _ hi0 hw (lv_sub hl [4, 1, 0] rfl) h
    have h := i_no c245 h
    by_cases c259 : r151 = 10
    · have h := i_yes c259 h
      refine lv_tableIn (off := 259) (tgt := 300) hx hb dX9_once_41 (by rw [c259]; decide) (by rw [c259]; decide) (by rw [c259] <;> rfl) (by decide) ?_
      refine lv_aload_n hx hb dX9_once_300 rfl (lv_at hl 4 rfl) ?_
      refine lv_iload_n hx hb dX9_once_301 rfl (lv_at hl 3 rfl) ?_
      refine lv_aload_n hx hb dX9_once_302 rfl (lv_at hl 4 rfl) ?_
      obtain ⟨o260, ho263, h⟩ := rq_i h
      refine r_getR hC hw kc_8 hi0 1 rfl lk_1073 dX9_once_303 rfl ho263 (fun a261 hi262 => ?_)
      refine lv_iload_n hx hb dX9_once_306 rfl (lv_at hl 3 rfl) ?_
      obtain ⟨hn264, h⟩ := ix_i h
      refine r_iald hC hw hi262 hn264 dX9_once_307 ?_
      refine lv_sipush (v := 219) hx hb dX9_once_308 (by decide) ?_
      refine lv_icmp_ne (tgt := 319) hx hb dX9_once_311 (by decide) (fun c265 => ?_) (fun c265 => ?_)
      · have h := i_no c265 h
        refine lv_iconst (v := 4) hx hb dX9_once_319 (by decide) ?_
        exact w_X9_once_320 hC hR o0 a0 y148 o0 a0 y142 (4 : Int32) _ _ _ _ hi0 hi0 hw (lv_sub hl [4, 1] rfl) h
      · have h := i_yes c265 h
        refine lv_bipush (v := 8) hx hb dX9_once_314 (by decide) ?_
        refine lv_goto (tgt := 320) hx hb dX9_once_316 (by decide) ?_
        exact w_X9_once_320 hC hR o0 a0 y148 o0 a0 y142 (8 : Int32) _ _ _ _ hi0 hi0 hw (lv_sub hl [4, 1] rfl) h
    have h := i_no c259 h
    refine lv_tableOut (tgt := 328) hx hb dX9_once_41 (by have nc152 := lv_neT c152 (a := 0) rfl; have nc153 := lv_neT c153 (a := 1) rfl; have nc179 := lv_neT c179 (a := 2) rfl; have nc200 := lv_neT c200 (a := 3) rfl; have nc217 := lv_neT c217 (a := 4) rfl; have nc219 := lv_neT c219 (a := 5) rfl; have nc228 := lv_neT c228 (a := 6) rfl; have nc232 := lv_neT c232 (a := 7) rfl; have nc236 := lv_neT c236 (a := 8) rfl; have nc245 := lv_neT c245 (a := 9) rfl; have nc259 := lv_neT c259 (a := 10) rfl; omega) (by decide) ?_
    refine lv_aload_n hx hb dX9_once_328 rfl (lv_at hl 4 rfl) ?_
    refine lv_iload_n hx hb dX9_once_329 rfl (lv_at hl 3 rfl) ?_
    obtain ⟨r267, D268, hq266, h⟩ := cq_i h
    refine r_cV (st' := [.int r267]) [.int y142] [] hC hw kc_8 hi0 (k_X9_wide _ hi0 hq266) mk_X9_wide lk_1408 ⟨Nat.le_trans (by decide) hR.1, Nat.le_trans (by decide) hR.2⟩ ⟨Nat.zero_le _, Nat.zero_le _⟩ rfl hl.1 rfl rfl (Nat.le_of_ble_eq_true rfl) dX9_once_330 (fun hP H locs hw => ?_)
    cases h
    exact r_iret hC hw dX9_once_333
  · have h := i_yes c145 h
    refine lv_iconst (v := 5) hx hb dX9_once_21 (by decide) ?_
    cases h
    exact r_iret hC hw dX9_once_22
set_option maxHeartbeats 4000000 in
set_option maxRecDepth 100000 in
theorem k_X9_once {l : Launch} {G : va_G} {cA : Nat → ClassId} {S : sh} {D D' : dt} {ad : Nat → Nat} (sz : Nat) {o0 a0 : Nat} {r : Int32} (hi0 : Is S ad o0 a0 8) (h : f_X9_once S o0 D = some (r, D')) : Co l yX9_once (Cond.code yX9_once cX9_once 5 (some .int) :: tb0) 5 139 [.ref a0] G cA S D ad sz (some (.int r)) True D' := by
  refine Met.ofW (cc := cX9_once) (maxL := 5) (ret := (some .int)) (by decide) rfl ?_
  intro p e s m args below meth c s₁ B hml hv
  obtain ⟨rfl, hsz, hP, hK, hD0, hT, hX⟩ := hv
  subst hsz
  have hts := atoms_spec (ws := Cond.code yX9_once cX9_once 5 (some .int) :: tb0) B.pre
  have hC : Cx RX9 cX9_once 5 (some .int) p s m _ meth c := ⟨B.exec, B.bytes, hml, findClass_of_methodNamed B.named, fun w q => hts w (List.mem_cons_of_mem _ q), B.returns, B.notSynchronized⟩
  have hw := Wd.entry hP hK hD0 hT hX
  have hl := lv_entry ([.ref a0]) (n := 5) (Nat.le_of_ble_eq_true rfl)
  rw [lg_entry_eq]
  exact w_X9_once_0 hC ⟨Nat.le_refl _, Nat.le_refl _⟩ o0 a0 D _ _ _ hi0 hw hl h
set_option maxHeartbeats 4000000 in
set_option maxRecDepth 100000 in
theorem w_X9_step_50 {r : Int32} {D' : dt} (hC : Cx RX9 cX9_step 2 (some .int) p s m args meth c) (hR : 6 ≤ R.frames ∧ 163 ≤ R.locals) : ∀ (o0 a0 : Nat) (os0 as0 : Nat) (xs1 : Int32) (D : dt) (H : Heap) (locs : List Loc) (ls : Array Slot), Is S ad o0 a0 8 → Is S ad os0 as0 8 → Wd G cA S D ad A s H locs → lv_has ls 2 [(0, .ref a0)] → f_X9_step_50 S o0 os0 xs1 D = some (r, D') → W p l e R s m args below meth c H locs 0 0 (MQ below (Qn (some (.int r)) True (wpost G cA S D' ad A) A) args s 0 0 A) (F0 m 50 ls [.int xs1, .ref as0]) := by
  obtain ⟨hx, hb, -⟩ := id hC
  intro o0 a0 os0 as0 xs1 D H locs ls hi0 his0 hw hl h
  unfold f_X9_step_50 at h
  refine r_pI hC hw kc_8 his0 20 rfl lk_1092 rfl rfl rfl dX9_step_50 (fun D9 eD9 H locs hw => ?_)
  have h := nm_i h D9 eD9
  refine lv_aload_n hx hb dX9_step_53 rfl (lv_at hl 0 rfl) ?_
  refine r_gI hC hw kc_8 hi0 18 rfl lk_1090 dX9_step_54 ?_
  cases h
  exact r_iret hC hw dX9_step_57
set_option maxHeartbeats 4000000 in
set_option maxRecDepth 100000 in
theorem w_X9_step_29 {r : Int32} {D' : dt} (hC : Cx RX9 cX9_step 2 (some .int) p s m args meth c) (hR : 6 ≤ R.frames ∧ 163 ≤ R.locals) : ∀ (o0 a0 : Nat) (x1 : Int32) (os0 as0 : Nat) (xs1 : Int32) (D : dt) (H : Heap) (locs : List Loc) (ls : Array Slot), Is S ad o0 a0 8 → Is S ad os0 as0 8 → Wd G cA S D ad A s H locs → lv_has ls 2 [(0, .ref a0), (1, .int x1)] → f_X9_step_29 S o0 x1 os0 xs1 D = some (r, D') → W p l e R s m args below meth c H locs 0 0 (MQ below (Qn (some (.int r)) True (wpost G cA S D' ad A) A) args s 0 0 A) (F0 m 29 ls [.int xs1, .ref as0]) := by
  obtain ⟨hx, hb, -⟩ := id hC
  intro o0 a0 x1 os0 as0 xs1 D H locs ls hi0 his0 hw hl h
  unfold f_X9_step_29 at h
  refine r_pI hC hw kc_8 his0 18 rfl lk_1090 rfl rfl rfl dX9_step_29 (fun D10 eD10 H locs hw => ?_)
  have h := nm_i h D10 eD10
  refine lv_aload_n hx hb dX9_step_32 rfl (lv_at hl 0 rfl) ?_
  refine lv_iload_n hx hb dX9_step_33 rfl (lv_at hl 1 rfl) ?_
  refine lv_if_le (tgt := 44) hx hb dX9_step_34 (by decide) (fun c11 => ?_) (fun c11 => ?_)
  · have h := i_yes c11 h
    refine lv_aload_n hx hb dX9_step_44 rfl (lv_at hl 0 rfl) ?_
    refine r_gI hC hw kc_8 hi0 20 rfl lk_1092 dX9_step_45 ?_
    refine lv_iconst (v := 1) hx hb dX9_step_48 (by decide) ?_
    refine lv_iadd hx hb dX9_step_49 ?_
    exact w_X9_step_50 hC hR o0 a0 o0 a0 ((gI D10 o0 20) + (1 : Int32)) _ _ _ _ hi0 hi0 hw (lv_sub hl [0] rfl) h
  · have h := i_no c11 h
    refine lv_aload_n hx hb dX9_step_37 rfl (lv_at hl 0 rfl) ?_
    refine r_gI hC hw kc_8 hi0 20 rfl lk_1092 dX9_step_38 ?_
    refine lv_goto (tgt := 50) hx hb dX9_step_41 (by decide) ?_
    exact w_X9_step_50 hC hR o0 a0 o0 a0 (gI D10 o0 20) _ _ _ _ hi0 hi0 hw (lv_sub hl [0] rfl) h
set_option maxHeartbeats 4000000 in
set_option maxRecDepth 100000 in
theorem w_X9_step_0 {r : Int32} {D' : dt} (hC : Cx RX9 cX9_step 2 (some .int) p s m args meth c) (hR : 6 ≤ R.frames ∧ 163 ≤ R.locals) : ∀ (o0 a0 : Nat) (D : dt) (H : Heap) (locs : List Loc) (ls : Array Slot), Is S ad o0 a0 8 → Wd G cA S D ad A s H locs → lv_has ls 2 [(0, .ref a0)] → f_X9_step S o0 D = some (r, D') → W p l e R s m args below meth c H locs 0 0 (MQ below (Qn (some (.int r)) True (wpost G cA S D' ad A) A) args s 0 0 A) (F0 m 0 ls []) := by
  obtain ⟨hx, hb, -⟩ := id hC
  intro o0 a0 D H locs ls hi0 hw hl h
  unfold f_X9_step at h
  refine lv_aload_n hx hb dX9_step_0 rfl (lv_at hl 0 rfl) ?_
  refine r_gI hC hw kc_8 hi0 18 rfl lk_1090 dX9_step_1 ?_
  refine lv_iconst (v := 1) hx hb dX9_step_4 (by decide) ?_
  refine lv_icmp_eq (tgt := 11) hx hb dX9_step_5 (by decide) (fun c12 => ?_) (fun c12 => ?_)
  · have h := i_yes c12 h
    refine lv_aload_n hx hb dX9_step_11 rfl (lv_at hl 0 rfl) ?_
    obtain ⟨r14, D15, hq13, h⟩ := cq_i h
    refine r_cV (st' := [.int r14]) [] [] hC hw kc_8 hi0 (k_X9_once _ hi0 hq13) mk_X9_once lk_1304 ⟨Nat.le_trans (by decide) hR.1, Nat.le_trans (by decide) hR.2⟩ ⟨Nat.zero_le _, Nat.zero_le _⟩ rfl hl.1 rfl rfl (Nat.le_of_ble_eq_true rfl) dX9_step_12 (fun hP H locs hw => ?_)
    refine lv_istore_n (lv' := [(1, .int r14), (0, .ref a0)]) hx hb dX9_step_15 rfl hl (by decide) rfl (fun ls hl => ?_)
    refine lv_aload_n hx hb dX9_step_16 rfl (lv_at hl 1 rfl) ?_
    refine lv_iload_n hx hb dX9_step_17 rfl (lv_at hl 0 rfl) ?_
    refine lv_if_le (tgt := 25) hx hb dX9_step_18 (by decide) (fun c16 => ?_) (fun c16 => ?_)
    · have h := i_yes c16 h
      refine lv_aload_n hx hb dX9_step_25 rfl (lv_at hl 1 rfl) ?_
      refine r_gI hC hw kc_8 hi0 18 rfl lk_1090 dX9_step_26 ?_
      exact w_X9_step_29 hC hR o0 a0 r14 o0 a0 (gI D15 o0 18) _ _ _ _ hi0 hi0 hw (lv_sub hl [1, 0] rfl) h
    · have h := i_no c16 h
      refine lv_iload_n hx hb dX9_step_21 rfl (lv_at hl 0 rfl) ?_
      refine lv_goto (tgt := 29) hx hb dX9_step_22 (by decide) ?_
      exact w_X9_step_29 hC hR o0 a0 r14 o0 a0 r14 _ _ _ _ hi0 hi0 hw (lv_sub hl [1, 0] rfl) h
  · have h := i_no c12 h
    refine lv_bipush (v := (-3)) hx hb dX9_step_8 (by decide) ?_
    cases h
    exact r_iret hC hw dX9_step_10
set_option maxHeartbeats 4000000 in
set_option maxRecDepth 100000 in
theorem k_X9_step {l : Launch} {G : va_G} {cA : Nat → ClassId} {S : sh} {D D' : dt} {ad : Nat → Nat} (sz : Nat) {o0 a0 : Nat} {r : Int32} (hi0 : Is S ad o0 a0 8) (h : f_X9_step S o0 D = some (r, D')) : Co l yX9_step (Cond.code yX9_step cX9_step 2 (some .int) :: tb0) 6 163 [.ref a0] G cA S D ad sz (some (.int r)) True D' := by
  refine Met.ofW (cc := cX9_step) (maxL := 2) (ret := (some .int)) (by decide) rfl ?_
  intro p e s m args below meth c s₁ B hml hv
  obtain ⟨rfl, hsz, hP, hK, hD0, hT, hX⟩ := hv
  subst hsz
  have hts := atoms_spec (ws := Cond.code yX9_step cX9_step 2 (some .int) :: tb0) B.pre
  have hC : Cx RX9 cX9_step 2 (some .int) p s m _ meth c := ⟨B.exec, B.bytes, hml, findClass_of_methodNamed B.named, fun w q => hts w (List.mem_cons_of_mem _ q), B.returns, B.notSynchronized⟩
  have hw := Wd.entry hP hK hD0 hT hX
  have hl := lv_entry ([.ref a0]) (n := 2) (Nat.le_of_ble_eq_true rfl)
  rw [lg_entry_eq]
  exact w_X9_step_0 hC ⟨Nat.le_refl _, Nat.le_refl _⟩ o0 a0 D _ _ _ hi0 hw hl h
set_option maxHeartbeats 4000000 in
set_option maxRecDepth 100000 in
theorem w_X9_run_57 {r : Int32} {D' : dt} (hC : Cx RX9 cX9_run 4 (some .int) p s m args meth c) (hR : 7 ≤ R.frames ∧ 184 ≤ R.locals) : ∀ (o0 a0 : Nat) (D : dt) (H : Heap) (locs : List Loc) (ls : Array Slot), Is S ad o0 a0 8 → Wd G cA S D ad A s H locs → lv_has ls 4 [(0, .ref a0)] → f_X9_run_57 S o0 D = some (r, D') → W p l e R s m args below meth c H locs 0 0 (MQ below (Qn (some (.int r)) True (wpost G cA S D' ad A) A) args s 0 0 A) (F0 m 57 ls []) := by
  obtain ⟨hx, hb, -⟩ := id hC
  intro o0 a0 D H locs ls hi0 hw hl h
  unfold f_X9_run_57 at h
  refine lv_aload_n hx hb dX9_run_57 rfl (lv_at hl 0 rfl) ?_
  refine r_gI hC hw kc_8 hi0 18 rfl lk_1090 dX9_run_58 ?_
  cases h
  exact r_iret hC hw dX9_run_61
set_option maxHeartbeats 4000000 in
set_option maxRecDepth 100000 in
theorem w_X9_run_28 {r : Int32} {D' : dt} (hC : Cx RX9 cX9_run 4 (some .int) p s m args meth c) (hR : 7 ≤ R.frames ∧ 184 ≤ R.locals) : ∀ (n : Nat), ∀ (o0 a0 : Nat) (x1 : Int32) (x2 : Int32) (D : dt) (H : Heap) (locs : List Loc) (ls : Array Slot), Is S ad o0 a0 8 → Wd G cA S D ad A s H locs → lv_has ls 4 [(0, .ref a0), (1, .int x1), (2, .int x2)] → f_X9_run_28 S n o0 x1 x2 D = some (r, D') → W p l e R s m args below meth c H locs 0 0 (MQ below (Qn (some (.int r)) True (wpost G cA S D' ad A) A) args s 0 0 A) (F0 m 28 ls []) := by
  obtain ⟨hx, hb, -⟩ := id hC
  intro n
  induction n with
  | zero =>
    intro o0 a0 x1 x2 D H locs ls hi0 hw hl h
    rw [f_X9_run_28.eq_1] at h
    cases h
  | succ n ih =>
    intro o0 a0 x1 x2 D H locs ls hi0 hw hl h
    rw [f_X9_run_28.eq_2] at h
    refine lv_iload_n hx hb dX9_run_28 rfl (lv_at hl 2 rfl) ?_
    refine lv_iload_n hx hb dX9_run_29 rfl (lv_at hl 1 rfl) ?_
    refine lv_icmp_ge (tgt := 57) hx hb dX9_run_30 (by decide) (fun c13 => ?_) (fun c13 => ?_)
    · have h := i_yes c13 h
      exact w_X9_run_57 hC hR o0 a0 _ _ _ _ hi0 hw (lv_sub hl [0] rfl) h
    · have h := i_no c13 h
      refine lv_aload_n hx hb dX9_run_33 rfl (lv_at hl 0 rfl) ?_
      refine r_gI hC hw kc_8 hi0 18 rfl lk_1090 dX9_run_34 ?_
      refine lv_iconst (v := 1) hx hb dX9_run_37 (by decide) ?_
      refine lv_icmp_ne (tgt := 57) hx hb dX9_run_38 (by decide) (fun c14 => ?_) (fun c14 => ?_)
      · have h := i_no c14 h
        exact w_X9_run_57 hC hR o0 a0 _ _ _ _ hi0 hw (lv_sub hl [0] rfl) h
      · have h := i_yes c14 h
        refine lv_aload_n hx hb dX9_run_41 rfl (lv_at hl 0 rfl) ?_
        obtain ⟨r16, D17, hq15, h⟩ := cq_i h
        refine r_cV (st' := [.int r16]) [] [] hC hw kc_8 hi0 (k_X9_step _ hi0 hq15) mk_X9_step lk_1421 ⟨Nat.le_trans (by decide) hR.1, Nat.le_trans (by decide) hR.2⟩ ⟨Nat.zero_le _, Nat.zero_le _⟩ rfl hl.1 rfl rfl (Nat.le_of_ble_eq_true rfl) dX9_run_42 (fun hP H locs hw => ?_)
        refine lv_istore_n (lv' := [(3, .int r16), (0, .ref a0), (1, .int x1), (2, .int x2)]) hx hb dX9_run_45 rfl hl (by decide) rfl (fun ls hl => ?_)
        refine lv_aload_n hx hb dX9_run_46 rfl (lv_at hl 1 rfl) ?_
        refine lv_iload_n hx hb dX9_run_47 rfl (lv_at hl 0 rfl) ?_
        refine r_pI hC hw kc_8 hi0 18 rfl lk_1090 rfl rfl rfl dX9_run_48 (fun D18 eD18 H locs hw => ?_)
        have h := nm_i h D18 eD18
        obtain ⟨y19, ey19⟩ : ∃ z : Int32, z = x2 + 1 := ⟨_, rfl⟩
        have h := nm_i h y19 ey19
        refine lv_iinc (v := y19) (lv' := [(2, .int y19), (3, .int r16), (0, .ref a0), (1, .int x1)]) hx hb dX9_run_51 hl (k := 3) rfl (by rw [ey19]; rfl) (by decide) rfl (fun ls hl => ?_)
        refine lv_goto (tgt := 28) hx hb dX9_run_54 (by decide) ?_
        exact ih o0 a0 x1 y19 _ _ _ _ hi0 hw (lv_sub hl [2, 3, 0] rfl) h
set_option maxHeartbeats 4000000 in
set_option maxRecDepth 100000 in
theorem w_X9_run_0 {r : Int32} {D' : dt} (hC : Cx RX9 cX9_run 4 (some .int) p s m args meth c) (hR : 7 ≤ R.frames ∧ 184 ≤ R.locals) : ∀ (o0 a0 : Nat) (x1 : Int32) (D : dt) (H : Heap) (locs : List Loc) (ls : Array Slot), Is S ad o0 a0 8 → Wd G cA S D ad A s H locs → lv_has ls 4 [(0, .ref a0), (1, .int x1)] → f_X9_run S o0 x1 D = some (r, D') → W p l e R s m args below meth c H locs 0 0 (MQ below (Qn (some (.int r)) True (wpost G cA S D' ad A) A) args s 0 0 A) (F0 m 0 ls []) := by
  obtain ⟨hx, hb, -⟩ := id hC
  intro o0 a0 x1 D H locs ls hi0 hw hl h
  unfold f_X9_run at h
  refine lv_iload_n hx hb dX9_run_0 rfl (lv_at hl 1 rfl) ?_
  refine lv_i2l (v := x1.toInt64) hx hb dX9_run_1 rfl ?_
  refine lv_lconst (v := 0) hx hb dX9_run_2 (by decide) ?_
  refine lv_ldc2 (v := 10000) hx hb hC.2.2.2.1 (hC.2.2.2.2.1 _ lk_1420) dX9_run_3 ?_
  obtain ⟨r21, hq20, h⟩ := pq_i h
  refine r_cS (st' := [.int r21]) [.long x1.toInt64, .long (0 : Int64), .long (10000 : Int64)] [] hC hw (k_X9_in _ hq20) mk_X9_in lk_1243 ⟨Nat.le_trans (by decide) hR.1, Nat.le_trans (by decide) hR.2⟩ ⟨Nat.zero_le _, Nat.zero_le _⟩ rfl hl.1 rfl rfl (Nat.le_of_ble_eq_true rfl) dX9_run_6 (fun hP H locs hw => ?_)
  refine lv_if_ne (tgt := 15) hx hb dX9_run_9 (by decide) (fun c22 => ?_) (fun c22 => ?_)
  · have h := i_no c22 h
    refine lv_aload_n hx hb dX9_run_15 rfl (lv_at hl 0 rfl) ?_
    refine r_gI hC hw kc_8 hi0 18 rfl lk_1090 dX9_run_16 ?_
    refine lv_iconst (v := 1) hx hb dX9_run_19 (by decide) ?_
    refine lv_icmp_eq (tgt := 26) hx hb dX9_run_20 (by decide) (fun c23 => ?_) (fun c23 => ?_)
    · have h := i_yes c23 h
      refine lv_iconst (v := 0) hx hb dX9_run_26 (by decide) ?_
      refine lv_topi (fun y24 ey24 => ?_)
      have h := nm_i h y24 ey24
      refine lv_istore_n (lv' := [(2, .int y24), (0, .ref a0), (1, .int x1)]) hx hb dX9_run_27 rfl hl (by decide) rfl (fun ls hl => ?_)
      exact w_X9_run_28 hC hR LF o0 a0 x1 y24 _ _ _ _ hi0 hw (lv_sub hl [1, 2, 0] rfl) h
    · have h := i_no c23 h
      refine lv_bipush (v := (-3)) hx hb dX9_run_23 (by decide) ?_
      cases h
      exact r_iret hC hw dX9_run_25
  · have h := i_yes c22 h
    refine lv_bipush (v := (-2)) hx hb dX9_run_12 (by decide) ?_
    cases h
    exact r_iret hC hw dX9_run_14
set_option maxHeartbeats 4000000 in
set_option maxRecDepth 100000 in
theorem k_X9_run {l : Launch} {G : va_G} {cA : Nat → ClassId} {S : sh} {D D' : dt} {ad : Nat → Nat} (sz : Nat) {o0 a0 : Nat} {x1 : Int32} {r : Int32} (hi0 : Is S ad o0 a0 8) (h : f_X9_run S o0 x1 D = some (r, D')) : Co l yX9_run (Cond.code yX9_run cX9_run 4 (some .int) :: tb0) 7 184 [.ref a0, .int x1] G cA S D ad sz (some (.int r)) True D' := by
  refine Met.ofW (cc := cX9_run) (maxL := 4) (ret := (some .int)) (by decide) rfl ?_
  intro p e s m args below meth c s₁ B hml hv
  obtain ⟨rfl, hsz, hP, hK, hD0, hT, hX⟩ := hv
  subst hsz
  have hts := atoms_spec (ws := Cond.code yX9_run cX9_run 4 (some .int) :: tb0) B.pre
  have hC : Cx RX9 cX9_run 4 (some .int) p s m _ meth c := ⟨B.exec, B.bytes, hml, findClass_of_methodNamed B.named, fun w q => hts w (List.mem_cons_of_mem _ q), B.returns, B.notSynchronized⟩
  have hw := Wd.entry hP hK hD0 hT hX
  have hl := lv_entry ([.ref a0, .int x1]) (n := 4) (Nat.le_of_ble_eq_true rfl)
  rw [lg_entry_eq]
  exact w_X9_run_0 hC ⟨Nat.le_refl _, Nat.le_refl _⟩ o0 a0 x1 D _ _ _ hi0 hw hl h
set_option maxHeartbeats 4000000 in
set_option maxRecDepth 100000 in
theorem w_X9_context_36 {r : Int32} {D' : dt} (hC : Cx RX9 cX9_context 4 (some .int) p s m args meth c) (hR : 1 ≤ R.frames ∧ 25 ≤ R.locals) : ∀ (n : Nat), ∀ (o0 a0 : Nat) (x1 : Int32) (x2 : Int32) (x3 : Int32) (D : dt) (H : Heap) (locs : List Loc) (ls : Array Slot), Is S ad o0 a0 8 → Wd G cA S D ad A s H locs → lv_has ls 4 [(0, .ref a0), (1, .int x1), (2, .int x2), (3, .int x3)] → f_X9_context_36 S n o0 x1 x2 x3 D = some (r, D') → W p l e R s m args below meth c H locs 0 0 (MQ below (Qn (some (.int r)) True (wpost G cA S D' ad A) A) args s 0 0 A) (F0 m 36 ls []) := by
  obtain ⟨hx, hb, -⟩ := id hC
  intro n
  induction n with
  | zero =>
    intro o0 a0 x1 x2 x3 D H locs ls hi0 hw hl h
    rw [f_X9_context_36.eq_1] at h
    cases h
  | succ n ih =>
    intro o0 a0 x1 x2 x3 D H locs ls hi0 hw hl h
    rw [f_X9_context_36.eq_2] at h
    refine lv_iload_n hx hb dX9_context_36 rfl (lv_at hl 3 rfl) ?_
    refine lv_iload_n hx hb dX9_context_37 rfl (lv_at hl 1 rfl) ?_
    refine lv_icmp_ge (tgt := 54) hx hb dX9_context_38 (by decide) (fun c16 => ?_) (fun c16 => ?_)
    · have h := i_yes c16 h
      refine lv_aload_n hx hb dX9_context_54 rfl (lv_at hl 0 rfl) ?_
      refine lv_iload_n hx hb dX9_context_55 rfl (lv_at hl 1 rfl) ?_
      refine r_pI hC hw kc_8 hi0 7 rfl lk_1079 rfl rfl rfl dX9_context_56 (fun D17 eD17 H locs hw => ?_)
      have h := nm_i h D17 eD17
      refine lv_iload_n hx hb dX9_context_59 rfl (lv_at hl 2 rfl) ?_
      cases h
      exact r_iret hC hw dX9_context_60
    · have h := i_no c16 h
      refine lv_aload_n hx hb dX9_context_41 rfl (lv_at hl 0 rfl) ?_
      obtain ⟨o18, ho21, h⟩ := rq_i h
      refine r_getR hC hw kc_8 hi0 6 rfl lk_1078 dX9_context_42 rfl ho21 (fun a19 hi20 => ?_)
      refine lv_iload_n hx hb dX9_context_45 rfl (lv_at hl 3 rfl) ?_
      refine lv_iconst (v := 0) hx hb dX9_context_46 (by decide) ?_
      obtain ⟨hn22, h⟩ := ix_i h
      refine r_ias hC hw hi20 hn22 dX9_context_47 (fun D23 eD23 H locs hw => ?_)
      have h := nm_i h D23 eD23
      obtain ⟨y24, ey24⟩ : ∃ z : Int32, z = x3 + 1 := ⟨_, rfl⟩
      have h := nm_i h y24 ey24
      refine lv_iinc (v := y24) (lv' := [(3, .int y24), (0, .ref a0), (1, .int x1), (2, .int x2)]) hx hb dX9_context_48 hl (k := 3) rfl (by rw [ey24]; rfl) (by decide) rfl (fun ls hl => ?_)
      refine lv_goto (tgt := 36) hx hb dX9_context_51 (by decide) ?_
      exact ih o0 a0 x1 x2 y24 _ _ _ _ hi0 hw (lv_sub hl [1, 2, 3, 0] rfl) h
set_option maxHeartbeats 4000000 in
set_option maxRecDepth 100000 in
theorem w_X9_context_0 {r : Int32} {D' : dt} (hC : Cx RX9 cX9_context 4 (some .int) p s m args meth c) (hR : 1 ≤ R.frames ∧ 25 ≤ R.locals) : ∀ (o0 a0 : Nat) (x1 : Int32) (D : dt) (H : Heap) (locs : List Loc) (ls : Array Slot), Is S ad o0 a0 8 → Wd G cA S D ad A s H locs → lv_has ls 4 [(0, .ref a0), (1, .int x1)] → f_X9_context S o0 x1 D = some (r, D') → W p l e R s m args below meth c H locs 0 0 (MQ below (Qn (some (.int r)) True (wpost G cA S D' ad A) A) args s 0 0 A) (F0 m 0 ls []) := by
  obtain ⟨hx, hb, -⟩ := id hC
  intro o0 a0 x1 D H locs ls hi0 hw hl h
  unfold f_X9_context at h
  refine lv_iload_n hx hb dX9_context_0 rfl (lv_at hl 1 rfl) ?_
  refine lv_i2l (v := x1.toInt64) hx hb dX9_context_1 rfl ?_
  refine lv_lconst (v := 0) hx hb dX9_context_2 (by decide) ?_
  refine lv_ldc2 (v := 256) hx hb hC.2.2.2.1 (hC.2.2.2.2.1 _ lk_1426) dX9_context_3 ?_
  obtain ⟨r26, hq25, h⟩ := pq_i h
  refine r_cS (st' := [.int r26]) [.long x1.toInt64, .long (0 : Int64), .long (256 : Int64)] [] hC hw (k_X9_in _ hq25) mk_X9_in lk_1243 ⟨Nat.le_trans (by decide) hR.1, Nat.le_trans (by decide) hR.2⟩ ⟨Nat.zero_le _, Nat.zero_le _⟩ rfl hl.1 rfl rfl (Nat.le_of_ble_eq_true rfl) dX9_context_6 (fun hP H locs hw => ?_)
  refine lv_if_ne (tgt := 15) hx hb dX9_context_9 (by decide) (fun c27 => ?_) (fun c27 => ?_)
  · have h := i_no c27 h
    refine lv_aload_n hx hb dX9_context_15 rfl (lv_at hl 0 rfl) ?_
    refine r_gI hC hw kc_8 hi0 18 rfl lk_1090 dX9_context_16 ?_
    refine lv_iconst (v := 1) hx hb dX9_context_19 (by decide) ?_
    refine lv_icmp_ne (tgt := 26) hx hb dX9_context_20 (by decide) (fun c28 => ?_) (fun c28 => ?_)
    · have h := i_no c28 h
      refine lv_aload_n hx hb dX9_context_26 rfl (lv_at hl 0 rfl) ?_
      refine r_gI hC hw kc_8 hi0 7 rfl lk_1079 dX9_context_27 ?_
      refine lv_topi (fun y29 ey29 => ?_)
      have h := nm_i h y29 ey29
      refine lv_istore_n (lv' := [(2, .int y29), (0, .ref a0), (1, .int x1)]) hx hb dX9_context_30 rfl hl (by decide) rfl (fun ls hl => ?_)
      refine lv_aload_n hx hb dX9_context_31 rfl (lv_at hl 1 rfl) ?_
      refine r_gI hC hw kc_8 hi0 7 rfl lk_1079 dX9_context_32 ?_
      refine lv_topi (fun y30 ey30 => ?_)
      have h := nm_i h y30 ey30
      refine lv_istore_n (lv' := [(3, .int y30), (2, .int y29), (0, .ref a0), (1, .int x1)]) hx hb dX9_context_35 rfl hl (by decide) rfl (fun ls hl => ?_)
      exact w_X9_context_36 hC hR LF o0 a0 x1 y29 y30 _ _ _ _ hi0 hw (lv_sub hl [2, 3, 1, 0] rfl) h
    · have h := i_yes c28 h
      refine lv_bipush (v := (-3)) hx hb dX9_context_23 (by decide) ?_
      cases h
      exact r_iret hC hw dX9_context_25
  · have h := i_yes c27 h
    refine lv_bipush (v := (-2)) hx hb dX9_context_12 (by decide) ?_
    cases h
    exact r_iret hC hw dX9_context_14
set_option maxHeartbeats 4000000 in
set_option maxRecDepth 100000 in
theorem k_X9_context {l : Launch} {G : va_G} {cA : Nat → ClassId} {S : sh} {D D' : dt} {ad : Nat → Nat} (sz : Nat) {o0 a0 : Nat} {x1 : Int32} {r : Int32} (hi0 : Is S ad o0 a0 8) (h : f_X9_context S o0 x1 D = some (r, D')) : Co l yX9_context (Cond.code yX9_context cX9_context 4 (some .int) :: tb0) 1 25 [.ref a0, .int x1] G cA S D ad sz (some (.int r)) True D' := by
  refine Met.ofW (cc := cX9_context) (maxL := 4) (ret := (some .int)) (by decide) rfl ?_
  intro p e s m args below meth c s₁ B hml hv
  obtain ⟨rfl, hsz, hP, hK, hD0, hT, hX⟩ := hv
  subst hsz
  have hts := atoms_spec (ws := Cond.code yX9_context cX9_context 4 (some .int) :: tb0) B.pre
  have hC : Cx RX9 cX9_context 4 (some .int) p s m _ meth c := ⟨B.exec, B.bytes, hml, findClass_of_methodNamed B.named, fun w q => hts w (List.mem_cons_of_mem _ q), B.returns, B.notSynchronized⟩
  have hw := Wd.entry hP hK hD0 hT hX
  have hl := lv_entry ([.ref a0, .int x1]) (n := 4) (Nat.le_of_ble_eq_true rfl)
  rw [lg_entry_eq]
  exact w_X9_context_0 hC ⟨Nat.le_refl _, Nat.le_refl _⟩ o0 a0 x1 D _ _ _ hi0 hw hl h
set_option maxHeartbeats 4000000 in
set_option maxRecDepth 100000 in
theorem w_X9_poke_0 {r : Int32} {D' : dt} (hC : Cx RX9 cX9_poke 4 (some .int) p s m args meth c) (hR : 1 ≤ R.frames ∧ 25 ≤ R.locals) : ∀ (o0 a0 : Nat) (x1 : Int32) (x2 : Int32) (D : dt) (H : Heap) (locs : List Loc) (ls : Array Slot), Is S ad o0 a0 8 → Wd G cA S D ad A s H locs → lv_has ls 4 [(0, .ref a0), (1, .int x1), (2, .int x2)] → f_X9_poke S o0 x1 x2 D = some (r, D') → W p l e R s m args below meth c H locs 0 0 (MQ below (Qn (some (.int r)) True (wpost G cA S D' ad A) A) args s 0 0 A) (F0 m 0 ls []) := by
  obtain ⟨hx, hb, -⟩ := id hC
  intro o0 a0 x1 x2 D H locs ls hi0 hw hl h
  unfold f_X9_poke at h
  refine lv_iload_n hx hb dX9_poke_0 rfl (lv_at hl 1 rfl) ?_
  refine lv_i2l (v := x1.toInt64) hx hb dX9_poke_1 rfl ?_
  refine lv_lconst (v := 0) hx hb dX9_poke_2 (by decide) ?_
  refine lv_aload_n hx hb dX9_poke_3 rfl (lv_at hl 0 rfl) ?_
  refine r_gI hC hw kc_8 hi0 7 rfl lk_1079 dX9_poke_4 ?_
  refine lv_iconst (v := 1) hx hb dX9_poke_7 (by decide) ?_
  refine lv_isub hx hb dX9_poke_8 ?_
  refine lv_i2l (v := ((gI D o0 7) - (1 : Int32)).toInt64) hx hb dX9_poke_9 rfl ?_
  obtain ⟨r21, hq20, h⟩ := pq_i h
  refine r_cS (st' := [.int r21]) [.long x1.toInt64, .long (0 : Int64), .long (((gI D o0 7) - (1 : Int32)).toInt64)] [] hC hw (k_X9_in _ hq20) mk_X9_in lk_1243 ⟨Nat.le_trans (by decide) hR.1, Nat.le_trans (by decide) hR.2⟩ ⟨Nat.zero_le _, Nat.zero_le _⟩ rfl hl.1 rfl rfl (Nat.le_of_ble_eq_true rfl) dX9_poke_10 (fun hP H locs hw => ?_)
  refine lv_if_ne (tgt := 18) hx hb dX9_poke_13 (by decide) (fun c22 => ?_) (fun c22 => ?_)
  · have h := i_no c22 h
    refine lv_iload_n hx hb dX9_poke_18 rfl (lv_at hl 2 rfl) ?_
    refine lv_i2l (v := x2.toInt64) hx hb dX9_poke_19 rfl ?_
    refine lv_lconst (v := 0) hx hb dX9_poke_20 (by decide) ?_
    refine lv_ldc2 (v := 255) hx hb hC.2.2.2.1 (hC.2.2.2.2.1 _ lk_1242) dX9_poke_21 ?_
    obtain ⟨r24, hq23, h⟩ := pq_i h
    refine r_cS (st' := [.int r24]) [.long x2.toInt64, .long (0 : Int64), .long (255 : Int64)] [] hC hw (k_X9_in _ hq23) mk_X9_in lk_1243 ⟨Nat.le_trans (by decide) hR.1, Nat.le_trans (by decide) hR.2⟩ ⟨Nat.zero_le _, Nat.zero_le _⟩ rfl hl.1 rfl rfl (Nat.le_of_ble_eq_true rfl) dX9_poke_24 (fun hP H locs hw => ?_)
    refine lv_if_ne (tgt := 33) hx hb dX9_poke_27 (by decide) (fun c25 => ?_) (fun c25 => ?_)
    · have h := i_no c25 h
      refine lv_aload_n hx hb dX9_poke_33 rfl (lv_at hl 0 rfl) ?_
      refine r_gI hC hw kc_8 hi0 18 rfl lk_1090 dX9_poke_34 ?_
      refine lv_iconst (v := 1) hx hb dX9_poke_37 (by decide) ?_
      refine lv_icmp_ne (tgt := 44) hx hb dX9_poke_38 (by decide) (fun c26 => ?_) (fun c26 => ?_)
      · have h := i_no c26 h
        refine lv_aload_n hx hb dX9_poke_44 rfl (lv_at hl 0 rfl) ?_
        obtain ⟨o27, ho30, h⟩ := rq_i h
        refine r_getR hC hw kc_8 hi0 6 rfl lk_1078 dX9_poke_45 rfl ho30 (fun a28 hi29 => ?_)
        refine lv_iload_n hx hb dX9_poke_48 rfl (lv_at hl 1 rfl) ?_
        obtain ⟨hn31, h⟩ := ix_i h
        refine r_iald hC hw hi29 hn31 dX9_poke_49 ?_
        refine lv_topi (fun y32 ey32 => ?_)
        have h := nm_i h y32 ey32
        refine lv_istore_n (lv' := [(3, .int y32), (0, .ref a0), (1, .int x1), (2, .int x2)]) hx hb dX9_poke_50 rfl hl (by decide) rfl (fun ls hl => ?_)
        refine lv_aload_n hx hb dX9_poke_51 rfl (lv_at hl 1 rfl) ?_
        obtain ⟨o33, ho36, h⟩ := rq_i h
        refine r_getR hC hw kc_8 hi0 6 rfl lk_1078 dX9_poke_52 rfl ho36 (fun a34 hi35 => ?_)
        refine lv_iload_n hx hb dX9_poke_55 rfl (lv_at hl 2 rfl) ?_
        refine lv_iload_n hx hb dX9_poke_56 rfl (lv_at hl 3 rfl) ?_
        obtain ⟨hn37, h⟩ := ix_i h
        refine r_ias hC hw hi35 hn37 dX9_poke_57 (fun D38 eD38 H locs hw => ?_)
        have h := nm_i h D38 eD38
        refine lv_iload_n hx hb dX9_poke_58 rfl (lv_at hl 0 rfl) ?_
        cases h
        exact r_iret hC hw dX9_poke_59
      · have h := i_yes c26 h
        refine lv_bipush (v := (-3)) hx hb dX9_poke_41 (by decide) ?_
        cases h
        exact r_iret hC hw dX9_poke_43
    · have h := i_yes c25 h
      refine lv_bipush (v := (-2)) hx hb dX9_poke_30 (by decide) ?_
      cases h
      exact r_iret hC hw dX9_poke_32
  · have h := i_yes c22 h
    refine lv_iconst (v := (-1)) hx hb dX9_poke_16 (by decide) ?_
    cases h
    exact r_iret hC hw dX9_poke_17
set_option maxHeartbeats 4000000 in
set_option maxRecDepth 100000 in
theorem k_X9_poke {l : Launch} {G : va_G} {cA : Nat → ClassId} {S : sh} {D D' : dt} {ad : Nat → Nat} (sz : Nat) {o0 a0 : Nat} {x1 : Int32} {x2 : Int32} {r : Int32} (hi0 : Is S ad o0 a0 8) (h : f_X9_poke S o0 x1 x2 D = some (r, D')) : Co l yX9_poke (Cond.code yX9_poke cX9_poke 4 (some .int) :: tb0) 1 25 [.ref a0, .int x1, .int x2] G cA S D ad sz (some (.int r)) True D' := by
  refine Met.ofW (cc := cX9_poke) (maxL := 4) (ret := (some .int)) (by decide) rfl ?_
  intro p e s m args below meth c s₁ B hml hv
  obtain ⟨rfl, hsz, hP, hK, hD0, hT, hX⟩ := hv
  subst hsz
  have hts := atoms_spec (ws := Cond.code yX9_poke cX9_poke 4 (some .int) :: tb0) B.pre
  have hC : Cx RX9 cX9_poke 4 (some .int) p s m _ meth c := ⟨B.exec, B.bytes, hml, findClass_of_methodNamed B.named, fun w q => hts w (List.mem_cons_of_mem _ q), B.returns, B.notSynchronized⟩
  have hw := Wd.entry hP hK hD0 hT hX
  have hl := lv_entry ([.ref a0, .int x1, .int x2]) (n := 4) (Nat.le_of_ble_eq_true rfl)
  rw [lg_entry_eq]
  exact w_X9_poke_0 hC ⟨Nat.le_refl _, Nat.le_refl _⟩ o0 a0 x1 x2 D _ _ _ hi0 hw hl h
set_option maxHeartbeats 4000000 in
set_option maxRecDepth 100000 in
theorem w_X9_tick_19 {r : Int64} {D' : dt} (hC : Cx RX9 cX9_tick 3 (some .long) p s m args meth c) (hR : 0 ≤ R.frames ∧ 0 ≤ R.locals) : ∀  (D : dt) (H : Heap) (locs : List Loc) (ls : Array Slot), Wd G cA S D ad A s H locs → lv_has ls 3 [] → f_X9_tick_19 S D = some (r, D') → W p l e R s m args below meth c H locs 0 0 (MQ below (Qn (some (.long r)) True (wpost G cA S D' ad A) A) args s 0 0 A) (F0 m 19 ls []) := by
  obtain ⟨hx, hb, -⟩ := id hC
  intro D H locs ls  hw hl h
  unfold f_X9_tick_19 at h
  refine lv_ldc2 (v := (-2)) hx hb hC.2.2.2.1 (hC.2.2.2.2.1 _ lk_1436) dX9_tick_19 ?_
  cases h
  exact r_lret hC hw dX9_tick_22
set_option maxHeartbeats 4000000 in
set_option maxRecDepth 100000 in
theorem w_X9_tick_0 {r : Int64} {D' : dt} (hC : Cx RX9 cX9_tick 3 (some .long) p s m args meth c) (hR : 0 ≤ R.frames ∧ 0 ≤ R.locals) : ∀ (o0 a0 : Nat) (x1 : Int64) (D : dt) (H : Heap) (locs : List Loc) (ls : Array Slot), Is S ad o0 a0 8 → Wd G cA S D ad A s H locs → lv_has ls 3 [(0, .ref a0), (1, .long x1)] → f_X9_tick S o0 x1 D = some (r, D') → W p l e R s m args below meth c H locs 0 0 (MQ below (Qn (some (.long r)) True (wpost G cA S D' ad A) A) args s 0 0 A) (F0 m 0 ls []) := by
  obtain ⟨hx, hb, -⟩ := id hC
  intro o0 a0 x1 D H locs ls hi0 hw hl h
  unfold f_X9_tick at h
  refine lv_lload_n hx hb dX9_tick_0 rfl (lv_at hl 1 rfl) ?_
  refine lv_lconst (v := 0) hx hb dX9_tick_1 (by decide) ?_
  refine W.lcmp hx hb dX9_tick_2 ?_
  refine lv_if_lt (tgt := 19) hx hb dX9_tick_3 (by decide) (fun c4 => ?_) (fun c4 => ?_)
  · have h := i_yes c4 h
    exact w_X9_tick_19 hC hR _ _ _ _ hw (lv_sub hl [] rfl) h
  · have h := i_no c4 h
    refine lv_lload_n hx hb dX9_tick_6 rfl (lv_at hl 1 rfl) ?_
    refine lv_ldc2 (v := 4611686018427387904) hx hb hC.2.2.2.1 (hC.2.2.2.2.1 _ lk_1435) dX9_tick_7 ?_
    refine lv_aload_n hx hb dX9_tick_10 rfl (lv_at hl 0 rfl) ?_
    refine r_gL hC hw kc_8 hi0 17 rfl lk_1089 dX9_tick_11 ?_
    refine lv_lsub hx hb dX9_tick_14 ?_
    refine W.lcmp hx hb dX9_tick_15 ?_
    refine lv_if_le (tgt := 23) hx hb dX9_tick_16 (by decide) (fun c5 => ?_) (fun c5 => ?_)
    · have h := i_yes c5 h
      refine lv_aload_n hx hb dX9_tick_23 rfl (lv_at hl 0 rfl) ?_
      refine lv_dup hx hb dX9_tick_24 rfl ?_
      refine r_gL hC hw kc_8 hi0 17 rfl lk_1089 dX9_tick_25 ?_
      refine lv_lload_n hx hb dX9_tick_28 rfl (lv_at hl 1 rfl) ?_
      refine lv_ladd hx hb dX9_tick_29 ?_
      refine r_pL hC hw kc_8 hi0 17 rfl lk_1089 rfl rfl rfl dX9_tick_30 (fun D6 eD6 H locs hw => ?_)
      have h := nm_i h D6 eD6
      refine lv_aload_n hx hb dX9_tick_33 rfl (lv_at hl 0 rfl) ?_
      refine r_gL hC hw kc_8 hi0 17 rfl lk_1089 dX9_tick_34 ?_
      cases h
      exact r_lret hC hw dX9_tick_37
    · have h := i_no c5 h
      exact w_X9_tick_19 hC hR _ _ _ _ hw (lv_sub hl [] rfl) h
set_option maxHeartbeats 4000000 in
set_option maxRecDepth 100000 in
theorem k_X9_tick {l : Launch} {G : va_G} {cA : Nat → ClassId} {S : sh} {D D' : dt} {ad : Nat → Nat} (sz : Nat) {o0 a0 : Nat} {x1 : Int64} {r : Int64} (hi0 : Is S ad o0 a0 8) (h : f_X9_tick S o0 x1 D = some (r, D')) : Co l yX9_tick (Cond.code yX9_tick cX9_tick 3 (some .long) :: tb0) 0 0 [.ref a0, .long x1] G cA S D ad sz (some (.long r)) True D' := by
  refine Met.ofW (cc := cX9_tick) (maxL := 3) (ret := (some .long)) (by decide) rfl ?_
  intro p e s m args below meth c s₁ B hml hv
  obtain ⟨rfl, hsz, hP, hK, hD0, hT, hX⟩ := hv
  subst hsz
  have hts := atoms_spec (ws := Cond.code yX9_tick cX9_tick 3 (some .long) :: tb0) B.pre
  have hC : Cx RX9 cX9_tick 3 (some .long) p s m _ meth c := ⟨B.exec, B.bytes, hml, findClass_of_methodNamed B.named, fun w q => hts w (List.mem_cons_of_mem _ q), B.returns, B.notSynchronized⟩
  have hw := Wd.entry hP hK hD0 hT hX
  have hl := lv_entry ([.ref a0, .long x1]) (n := 3) (Nat.le_of_ble_eq_true rfl)
  rw [lg_entry_eq]
  exact w_X9_tick_0 hC ⟨Nat.le_refl _, Nat.le_refl _⟩ o0 a0 x1 D _ _ _ hi0 hw hl h
set_option maxHeartbeats 4000000 in
set_option maxRecDepth 100000 in
theorem w_X9_told_0 {r : Int32} (hC : Cx RX9 cX9_told 2 (some .int) p s m args meth c) (hR : 0 ≤ R.frames ∧ 0 ≤ R.locals) : ∀ (o0 a0 : Nat) (x1 : Int32) (H : Heap) (locs : List Loc) (ls : Array Slot), Is S ad o0 a0 8 → Wd G cA S D ad A s H locs → lv_has ls 2 [(0, .ref a0), (1, .int x1)] → f_X9_told S D o0 x1 = some r → W p l e R s m args below meth c H locs 0 0 (MQ below (Qn (some (.int r)) True (wpost G cA S D ad A) A) args s 0 0 A) (F0 m 0 ls []) := by
  obtain ⟨hx, hb, -⟩ := id hC
  intro o0 a0 x1 H locs ls hi0 hw hl h
  unfold f_X9_told at h
  refine lv_iload_n hx hb dX9_told_0 rfl (lv_at hl 1 rfl) ?_
  by_cases c7 : x1 = 0
  · have h := i_yes c7 h
    refine lv_tableIn (off := 39) (tgt := 40) hx hb dX9_told_1 (by rw [c7]; decide) (by rw [c7]; decide) (by rw [c7] <;> rfl) (by decide) ?_
    refine lv_aload_n hx hb dX9_told_40 rfl (lv_at hl 0 rfl) ?_
    refine r_gI hC hw kc_8 hi0 18 rfl lk_1090 dX9_told_41 ?_
    cases h
    exact r_iret hC hw dX9_told_44
  have h := i_no c7 h
  by_cases c8 : x1 = 1
  · have h := i_yes c8 h
    refine lv_tableIn (off := 44) (tgt := 45) hx hb dX9_told_1 (by rw [c8]; decide) (by rw [c8]; decide) (by rw [c8] <;> rfl) (by decide) ?_
    refine lv_aload_n hx hb dX9_told_45 rfl (lv_at hl 0 rfl) ?_
    refine r_gI hC hw kc_8 hi0 19 rfl lk_1091 dX9_told_46 ?_
    cases h
    exact r_iret hC hw dX9_told_49
  have h := i_no c8 h
  by_cases c9 : x1 = 2
  · have h := i_yes c9 h
    refine lv_tableIn (off := 49) (tgt := 50) hx hb dX9_told_1 (by rw [c9]; decide) (by rw [c9]; decide) (by rw [c9] <;> rfl) (by decide) ?_
    refine lv_aload_n hx hb dX9_told_50 rfl (lv_at hl 0 rfl) ?_
    refine r_gI hC hw kc_8 hi0 20 rfl lk_1092 dX9_told_51 ?_
    cases h
    exact r_iret hC hw dX9_told_54
  have h := i_no c9 h
  by_cases c10 : x1 = 3
  · have h := i_yes c10 h
    refine lv_tableIn (off := 54) (tgt := 55) hx hb dX9_told_1 (by rw [c10]; decide) (by rw [c10]; decide) (by rw [c10] <;> rfl) (by decide) ?_
    refine lv_aload_n hx hb dX9_told_55 rfl (lv_at hl 0 rfl) ?_
    refine r_gI hC hw kc_8 hi0 0 rfl lk_1072 dX9_told_56 ?_
    cases h
    exact r_iret hC hw dX9_told_59
  have h := i_no c10 h
  by_cases c11 : x1 = 4
  · have h := i_yes c11 h
    refine lv_tableIn (off := 59) (tgt := 60) hx hb dX9_told_1 (by rw [c11]; decide) (by rw [c11]; decide) (by rw [c11] <;> rfl) (by decide) ?_
    refine lv_aload_n hx hb dX9_told_60 rfl (lv_at hl 0 rfl) ?_
    refine r_gI hC hw kc_8 hi0 9 rfl lk_1081 dX9_told_61 ?_
    cases h
    exact r_iret hC hw dX9_told_64
  have h := i_no c11 h
  by_cases c12 : x1 = 5
  · have h := i_yes c12 h
    refine lv_tableIn (off := 64) (tgt := 65) hx hb dX9_told_1 (by rw [c12]; decide) (by rw [c12]; decide) (by rw [c12] <;> rfl) (by decide) ?_
    refine lv_aload_n hx hb dX9_told_65 rfl (lv_at hl 0 rfl) ?_
    refine r_gI hC hw kc_8 hi0 22 rfl lk_1094 dX9_told_66 ?_
    cases h
    exact r_iret hC hw dX9_told_69
  have h := i_no c12 h
  refine lv_tableOut (tgt := 70) hx hb dX9_told_1 (by have nc7 := lv_neT c7 (a := 0) rfl; have nc8 := lv_neT c8 (a := 1) rfl; have nc9 := lv_neT c9 (a := 2) rfl; have nc10 := lv_neT c10 (a := 3) rfl; have nc11 := lv_neT c11 (a := 4) rfl; have nc12 := lv_neT c12 (a := 5) rfl; omega) (by decide) ?_
  refine lv_bipush (v := (-2)) hx hb dX9_told_70 (by decide) ?_
  cases h
  exact r_iret hC hw dX9_told_72
set_option maxHeartbeats 4000000 in
set_option maxRecDepth 100000 in
theorem k_X9_told {l : Launch} {G : va_G} {cA : Nat → ClassId} {S : sh} {D : dt} {ad : Nat → Nat} (sz : Nat) {o0 a0 : Nat} {x1 : Int32} {r : Int32} (hi0 : Is S ad o0 a0 8) (h : f_X9_told S D o0 x1 = some r) : Co l yX9_told (Cond.code yX9_told cX9_told 2 (some .int) :: tb0) 0 0 [.ref a0, .int x1] G cA S D ad sz (some (.int r)) True D := by
  refine Met.ofW (cc := cX9_told) (maxL := 2) (ret := (some .int)) (by decide) rfl ?_
  intro p e s m args below meth c s₁ B hml hv
  obtain ⟨rfl, hsz, hP, hK, hD0, hT, hX⟩ := hv
  subst hsz
  have hts := atoms_spec (ws := Cond.code yX9_told cX9_told 2 (some .int) :: tb0) B.pre
  have hC : Cx RX9 cX9_told 2 (some .int) p s m _ meth c := ⟨B.exec, B.bytes, hml, findClass_of_methodNamed B.named, fun w q => hts w (List.mem_cons_of_mem _ q), B.returns, B.notSynchronized⟩
  have hw := Wd.entry hP hK hD0 hT hX
  have hl := lv_entry ([.ref a0, .int x1]) (n := 2) (Nat.le_of_ble_eq_true rfl)
  rw [lg_entry_eq]
  exact w_X9_told_0 hC ⟨Nat.le_refl _, Nat.le_refl _⟩ o0 a0 x1 _ _ _ hi0 hw hl h
set_option maxHeartbeats 4000000 in
set_option maxRecDepth 100000 in
theorem w_X9_register_0 {r : Int64} (hC : Cx RX9 cX9_register 2 (some .long) p s m args meth c) (hR : 1 ≤ R.frames ∧ 25 ≤ R.locals) : ∀ (o0 a0 : Nat) (x1 : Int32) (H : Heap) (locs : List Loc) (ls : Array Slot), Is S ad o0 a0 8 → Wd G cA S D ad A s H locs → lv_has ls 2 [(0, .ref a0), (1, .int x1)] → f_X9_register S D o0 x1 = some r → W p l e R s m args below meth c H locs 0 0 (MQ below (Qn (some (.long r)) True (wpost G cA S D ad A) A) args s 0 0 A) (F0 m 0 ls []) := by
  obtain ⟨hx, hb, -⟩ := id hC
  intro o0 a0 x1 H locs ls hi0 hw hl h
  unfold f_X9_register at h
  refine lv_iload_n hx hb dX9_register_0 rfl (lv_at hl 1 rfl) ?_
  refine lv_i2l (v := x1.toInt64) hx hb dX9_register_1 rfl ?_
  refine lv_lconst (v := 0) hx hb dX9_register_2 (by decide) ?_
  refine lv_ldc2 (v := 10) hx hb hC.2.2.2.1 (hC.2.2.2.2.1 _ lk_1445) dX9_register_3 ?_
  obtain ⟨r10, hq9, h⟩ := pq_i h
  refine r_cS (st' := [.int r10]) [.long x1.toInt64, .long (0 : Int64), .long (10 : Int64)] [] hC hw (k_X9_in _ hq9) mk_X9_in lk_1243 ⟨Nat.le_trans (by decide) hR.1, Nat.le_trans (by decide) hR.2⟩ ⟨Nat.zero_le _, Nat.zero_le _⟩ rfl hl.1 rfl rfl (Nat.le_of_ble_eq_true rfl) dX9_register_6 (fun hP H locs hw => ?_)
  refine lv_if_eq (tgt := 21) hx hb dX9_register_9 (by decide) (fun c11 => ?_) (fun c11 => ?_)
  · have h := i_yes c11 h
    refine lv_lconst (v := 0) hx hb dX9_register_21 (by decide) ?_
    cases h
    exact r_lret hC hw dX9_register_22
  · have h := i_no c11 h
    refine lv_aload_n hx hb dX9_register_12 rfl (lv_at hl 0 rfl) ?_
    obtain ⟨o12, ho15, h⟩ := rq_i h
    refine r_getR hC hw kc_8 hi0 21 rfl lk_1093 dX9_register_13 rfl ho15 (fun a13 hi14 => ?_)
    refine lv_iload_n hx hb dX9_register_16 rfl (lv_at hl 1 rfl) ?_
    obtain ⟨hn16, h⟩ := ix_i h
    refine r_lald hC hw hi14 hn16 dX9_register_17 ?_
    refine lv_goto (tgt := 22) hx hb dX9_register_18 (by decide) ?_
    cases h
    exact r_lret hC hw dX9_register_22
set_option maxHeartbeats 4000000 in
set_option maxRecDepth 100000 in
theorem k_X9_register {l : Launch} {G : va_G} {cA : Nat → ClassId} {S : sh} {D : dt} {ad : Nat → Nat} (sz : Nat) {o0 a0 : Nat} {x1 : Int32} {r : Int64} (hi0 : Is S ad o0 a0 8) (h : f_X9_register S D o0 x1 = some r) : Co l yX9_register (Cond.code yX9_register cX9_register 2 (some .long) :: tb0) 1 25 [.ref a0, .int x1] G cA S D ad sz (some (.long r)) True D := by
  refine Met.ofW (cc := cX9_register) (maxL := 2) (ret := (some .long)) (by decide) rfl ?_
  intro p e s m args below meth c s₁ B hml hv
  obtain ⟨rfl, hsz, hP, hK, hD0, hT, hX⟩ := hv
  subst hsz
  have hts := atoms_spec (ws := Cond.code yX9_register cX9_register 2 (some .long) :: tb0) B.pre
  have hC : Cx RX9 cX9_register 2 (some .long) p s m _ meth c := ⟨B.exec, B.bytes, hml, findClass_of_methodNamed B.named, fun w q => hts w (List.mem_cons_of_mem _ q), B.returns, B.notSynchronized⟩
  have hw := Wd.entry hP hK hD0 hT hX
  have hl := lv_entry ([.ref a0, .int x1]) (n := 2) (Nat.le_of_ble_eq_true rfl)
  rw [lg_entry_eq]
  exact w_X9_register_0 hC ⟨Nat.le_refl _, Nat.le_refl _⟩ o0 a0 x1 _ _ _ hi0 hw hl h
set_option maxHeartbeats 4000000 in
set_option maxRecDepth 100000 in
theorem w_X9_putAt_18 {r : Int64} (hC : Cx RX9 cX9_putAt 3 (some .long) p s m args meth c) (hR : 1 ≤ R.frames ∧ 25 ≤ R.locals) : ∀ (o0 a0 : Nat) (x1 : Int32) (xs0 : Int32) (H : Heap) (locs : List Loc) (ls : Array Slot), Is S ad o0 a0 8 → Wd G cA S D ad A s H locs → lv_has ls 3 [(0, .ref a0), (1, .int x1)] → f_X9_putAt_18 S D o0 x1 xs0 = some r → W p l e R s m args below meth c H locs 0 0 (MQ below (Qn (some (.long r)) True (wpost G cA S D ad A) A) args s 0 0 A) (F0 m 18 ls [.int xs0]) := by
  obtain ⟨hx, hb, -⟩ := id hC
  intro o0 a0 x1 xs0 H locs ls hi0 hw hl h
  unfold f_X9_putAt_18 at h
  refine lv_istore_n (lv' := [(2, .int xs0), (0, .ref a0), (1, .int x1)]) hx hb dX9_putAt_18 rfl hl (by decide) rfl (fun ls hl => ?_)
  refine lv_iload_n hx hb dX9_putAt_19 rfl (lv_at hl 2 rfl) ?_
  refine lv_i2l (v := x1.toInt64) hx hb dX9_putAt_20 rfl ?_
  refine lv_lconst (v := 0) hx hb dX9_putAt_21 (by decide) ?_
  refine lv_iload_n hx hb dX9_putAt_22 rfl (lv_at hl 0 rfl) ?_
  refine lv_iconst (v := 1) hx hb dX9_putAt_23 (by decide) ?_
  refine lv_isub hx hb dX9_putAt_24 ?_
  refine lv_i2l (v := (xs0 - (1 : Int32)).toInt64) hx hb dX9_putAt_25 rfl ?_
  obtain ⟨r11, hq10, h⟩ := pq_i h
  refine r_cS (st' := [.int r11]) [.long x1.toInt64, .long (0 : Int64), .long ((xs0 - (1 : Int32)).toInt64)] [] hC hw (k_X9_in _ hq10) mk_X9_in lk_1243 ⟨Nat.le_trans (by decide) hR.1, Nat.le_trans (by decide) hR.2⟩ ⟨Nat.zero_le _, Nat.zero_le _⟩ rfl hl.1 rfl rfl (Nat.le_of_ble_eq_true rfl) dX9_putAt_26 (fun hP H locs hw => ?_)
  refine lv_if_eq (tgt := 51) hx hb dX9_putAt_29 (by decide) (fun c12 => ?_) (fun c12 => ?_)
  · have h := i_yes c12 h
    refine lv_lconst (v := 0) hx hb dX9_putAt_51 (by decide) ?_
    cases h
    exact r_lret hC hw dX9_putAt_52
  · have h := i_no c12 h
    refine lv_aload_n hx hb dX9_putAt_32 rfl (lv_at hl 1 rfl) ?_
    obtain ⟨o13, ho16, h⟩ := rq_i h
    refine r_getR hC hw kc_8 hi0 23 rfl lk_1095 dX9_putAt_33 rfl ho16 (fun a14 hi15 => ?_)
    refine lv_aload_n hx hb dX9_putAt_36 rfl (lv_at hl 1 rfl) ?_
    refine r_gI hC hw kc_8 hi0 22 rfl lk_1094 dX9_putAt_37 ?_
    refine lv_iload_n hx hb dX9_putAt_40 rfl (lv_at hl 0 rfl) ?_
    refine lv_isub hx hb dX9_putAt_41 ?_
    refine lv_iload_n hx hb dX9_putAt_42 rfl (lv_at hl 2 rfl) ?_
    refine lv_iadd hx hb dX9_putAt_43 ?_
    refine lv_bipush (v := 32) hx hb dX9_putAt_44 (by decide) ?_
    refine lv_irem hx hb dX9_putAt_46 (by decide) ?_
    obtain ⟨hn17, h⟩ := ix_i h
    refine r_lald hC hw hi15 hn17 dX9_putAt_47 ?_
    refine lv_goto (tgt := 52) hx hb dX9_putAt_48 (by decide) ?_
    cases h
    exact r_lret hC hw dX9_putAt_52
set_option maxHeartbeats 4000000 in
set_option maxRecDepth 100000 in
theorem w_X9_putAt_0 {r : Int64} (hC : Cx RX9 cX9_putAt 3 (some .long) p s m args meth c) (hR : 1 ≤ R.frames ∧ 25 ≤ R.locals) : ∀ (o0 a0 : Nat) (x1 : Int32) (H : Heap) (locs : List Loc) (ls : Array Slot), Is S ad o0 a0 8 → Wd G cA S D ad A s H locs → lv_has ls 3 [(0, .ref a0), (1, .int x1)] → f_X9_putAt S D o0 x1 = some r → W p l e R s m args below meth c H locs 0 0 (MQ below (Qn (some (.long r)) True (wpost G cA S D ad A) A) args s 0 0 A) (F0 m 0 ls []) := by
  obtain ⟨hx, hb, -⟩ := id hC
  intro o0 a0 x1 H locs ls hi0 hw hl h
  unfold f_X9_putAt at h
  refine lv_aload_n hx hb dX9_putAt_0 rfl (lv_at hl 0 rfl) ?_
  refine r_gI hC hw kc_8 hi0 22 rfl lk_1094 dX9_putAt_1 ?_
  refine lv_bipush (v := 32) hx hb dX9_putAt_4 (by decide) ?_
  refine lv_icmp_ge (tgt := 16) hx hb dX9_putAt_6 (by decide) (fun c18 => ?_) (fun c18 => ?_)
  · have h := i_yes c18 h
    refine lv_bipush (v := 32) hx hb dX9_putAt_16 (by decide) ?_
    exact w_X9_putAt_18 hC hR o0 a0 x1 (32 : Int32) _ _ _ hi0 hw (lv_sub hl [0, 1] rfl) h
  · have h := i_no c18 h
    refine lv_aload_n hx hb dX9_putAt_9 rfl (lv_at hl 0 rfl) ?_
    refine r_gI hC hw kc_8 hi0 22 rfl lk_1094 dX9_putAt_10 ?_
    refine lv_goto (tgt := 18) hx hb dX9_putAt_13 (by decide) ?_
    exact w_X9_putAt_18 hC hR o0 a0 x1 (gI D o0 22) _ _ _ hi0 hw (lv_sub hl [0, 1] rfl) h
set_option maxHeartbeats 4000000 in
set_option maxRecDepth 100000 in
theorem k_X9_putAt {l : Launch} {G : va_G} {cA : Nat → ClassId} {S : sh} {D : dt} {ad : Nat → Nat} (sz : Nat) {o0 a0 : Nat} {x1 : Int32} {r : Int64} (hi0 : Is S ad o0 a0 8) (h : f_X9_putAt S D o0 x1 = some r) : Co l yX9_putAt (Cond.code yX9_putAt cX9_putAt 3 (some .long) :: tb0) 1 25 [.ref a0, .int x1] G cA S D ad sz (some (.long r)) True D := by
  refine Met.ofW (cc := cX9_putAt) (maxL := 3) (ret := (some .long)) (by decide) rfl ?_
  intro p e s m args below meth c s₁ B hml hv
  obtain ⟨rfl, hsz, hP, hK, hD0, hT, hX⟩ := hv
  subst hsz
  have hts := atoms_spec (ws := Cond.code yX9_putAt cX9_putAt 3 (some .long) :: tb0) B.pre
  have hC : Cx RX9 cX9_putAt 3 (some .long) p s m _ meth c := ⟨B.exec, B.bytes, hml, findClass_of_methodNamed B.named, fun w q => hts w (List.mem_cons_of_mem _ q), B.returns, B.notSynchronized⟩
  have hw := Wd.entry hP hK hD0 hT hX
  have hl := lv_entry ([.ref a0, .int x1]) (n := 3) (Nat.le_of_ble_eq_true rfl)
  rw [lg_entry_eq]
  exact w_X9_putAt_0 hC ⟨Nat.le_refl _, Nat.le_refl _⟩ o0 a0 x1 _ _ _ hi0 hw hl h
end
