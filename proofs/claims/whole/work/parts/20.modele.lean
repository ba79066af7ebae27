theorem dX9_once_0 : decode cX9_once 0 = .ok (.aload_n 0, 1) := by decide +kernel
theorem dX9_once_1 : decode cX9_once 1 = .ok (.getfield 260, 3) := by decide +kernel
theorem dX9_once_4 : decode cX9_once 4 = .ok (.istore_n 1, 1) := by decide +kernel
theorem dX9_once_5 : decode cX9_once 5 = .ok (.iload_n 1, 1) := by decide +kernel
theorem dX9_once_6 : decode cX9_once 6 = .ok (.i2l, 1) := by decide +kernel
theorem dX9_once_7 : decode cX9_once 7 = .ok (.lconst 0, 1) := by decide +kernel
theorem dX9_once_8 : decode cX9_once 8 = .ok (.aload_n 0, 1) := by decide +kernel
theorem dX9_once_9 : decode cX9_once 9 = .ok (.getfield 147, 3) := by decide +kernel
theorem dX9_once_12 : decode cX9_once 12 = .ok (.iconst 1, 1) := by decide +kernel
theorem dX9_once_13 : decode cX9_once 13 = .ok (.isub, 1) := by decide +kernel
theorem dX9_once_14 : decode cX9_once 14 = .ok (.i2l, 1) := by decide +kernel
theorem dX9_once_15 : decode cX9_once 15 = .ok (.invokestatic 132, 3) := by decide +kernel
theorem dX9_once_18 : decode cX9_once 18 = .ok (.ifCond .ne 5, 3) := by decide +kernel
theorem dX9_once_21 : decode cX9_once 21 = .ok (.iconst 5, 1) := by decide +kernel
theorem dX9_once_22 : decode cX9_once 22 = .ok (.ireturn, 1) := by decide +kernel
theorem dX9_once_23 : decode cX9_once 23 = .ok (.aload_n 0, 1) := by decide +kernel
theorem dX9_once_24 : decode cX9_once 24 = .ok (.iload_n 1, 1) := by decide +kernel
theorem dX9_once_25 : decode cX9_once 25 = .ok (.invokevirtual 273, 3) := by decide +kernel
theorem dX9_once_28 : decode cX9_once 28 = .ok (.istore_n 2, 1) := by decide +kernel
theorem dX9_once_29 : decode cX9_once 29 = .ok (.iload_n 1, 1) := by decide +kernel
theorem dX9_once_30 : decode cX9_once 30 = .ok (.iconst 1, 1) := by decide +kernel
theorem dX9_once_31 : decode cX9_once 31 = .ok (.iadd, 1) := by decide +kernel
theorem dX9_once_32 : decode cX9_once 32 = .ok (.istore_n 3, 1) := by decide +kernel
theorem dX9_once_33 : decode cX9_once 33 = .ok (.iconst 1, 1) := by decide +kernel
theorem dX9_once_34 : decode cX9_once 34 = .ok (.istore 4, 2) := by decide +kernel
theorem dX9_once_36 : decode cX9_once 36 = .ok (.aload_n 0, 1) := by decide +kernel
theorem dX9_once_37 : decode cX9_once 37 = .ok (.iload_n 1, 1) := by decide +kernel
theorem dX9_once_38 : decode cX9_once 38 = .ok (.invokevirtual 276, 3) := by decide +kernel
theorem dX9_once_41 : decode cX9_once 41 = .ok (.tableswitch 287 0 10 #[59, 61, 96, 136, 170, 180, 195, 207, 219, 237, 259], 59) := by decide +kernel
theorem dX9_once_100 : decode cX9_once 100 = .ok (.iconst 3, 1) := by decide +kernel
theorem dX9_once_101 : decode cX9_once 101 = .ok (.ireturn, 1) := by decide +kernel
theorem dX9_once_102 : decode cX9_once 102 = .ok (.aload_n 0, 1) := by decide +kernel
theorem dX9_once_103 : decode cX9_once 103 = .ok (.getfield 53, 3) := by decide +kernel
theorem dX9_once_106 : decode cX9_once 106 = .ok (.aload_n 0, 1) := by decide +kernel
theorem dX9_once_107 : decode cX9_once 107 = .ok (.getfield 13, 3) := by decide +kernel
theorem dX9_once_110 : decode cX9_once 110 = .ok (.iload_n 1, 1) := by decide +kernel
theorem dX9_once_111 : decode cX9_once 111 = .ok (.iaload, 1) := by decide +kernel
theorem dX9_once_112 : decode cX9_once 112 = .ok (.aload_n 0, 1) := by decide +kernel
theorem dX9_once_113 : decode cX9_once 113 = .ok (.iload_n 1, 1) := by decide +kernel
theorem dX9_once_114 : decode cX9_once 114 = .ok (.aload_n 0, 1) := by decide +kernel
theorem dX9_once_115 : decode cX9_once 115 = .ok (.getfield 53, 3) := by decide +kernel
theorem dX9_once_118 : decode cX9_once 118 = .ok (.aload_n 0, 1) := by decide +kernel
theorem dX9_once_119 : decode cX9_once 119 = .ok (.getfield 13, 3) := by decide +kernel
theorem dX9_once_122 : decode cX9_once 122 = .ok (.iload_n 1, 1) := by decide +kernel
theorem dX9_once_123 : decode cX9_once 123 = .ok (.iaload, 1) := by decide +kernel
theorem dX9_once_124 : decode cX9_once 124 = .ok (.laload, 1) := by decide +kernel
theorem dX9_once_125 : decode cX9_once 125 = .ok (.aload_n 0, 1) := by decide +kernel
theorem dX9_once_126 : decode cX9_once 126 = .ok (.iload_n 1, 1) := by decide +kernel
theorem dX9_once_127 : decode cX9_once 127 = .ok (.invokevirtual 279, 3) := by decide +kernel
theorem dX9_once_130 : decode cX9_once 130 = .ok (.invokevirtual 283, 3) := by decide +kernel
theorem dX9_once_133 : decode cX9_once 133 = .ok (.lastore, 1) := by decide +kernel
theorem dX9_once_134 : decode cX9_once 134 = .ok (.goto 200, 3) := by decide +kernel
theorem dX9_once_137 : decode cX9_once 137 = .ok (.aload_n 0, 1) := by decide +kernel
theorem dX9_once_138 : decode cX9_once 138 = .ok (.iload_n 1, 1) := by decide +kernel
theorem dX9_once_139 : decode cX9_once 139 = .ok (.aload_n 0, 1) := by decide +kernel
theorem dX9_once_140 : decode cX9_once 140 = .ok (.getfield 53, 3) := by decide +kernel
theorem dX9_once_143 : decode cX9_once 143 = .ok (.aload_n 0, 1) := by decide +kernel
theorem dX9_once_144 : decode cX9_once 144 = .ok (.getfield 13, 3) := by decide +kernel
theorem dX9_once_147 : decode cX9_once 147 = .ok (.iload_n 1, 1) := by decide +kernel
theorem dX9_once_148 : decode cX9_once 148 = .ok (.iaload, 1) := by decide +kernel
theorem dX9_once_149 : decode cX9_once 149 = .ok (.laload, 1) := by decide +kernel
theorem dX9_once_150 : decode cX9_once 150 = .ok (.aload_n 0, 1) := by decide +kernel
theorem dX9_once_151 : decode cX9_once 151 = .ok (.iload_n 1, 1) := by decide +kernel
theorem dX9_once_152 : decode cX9_once 152 = .ok (.invokevirtual 279, 3) := by decide +kernel
theorem dX9_once_155 : decode cX9_once 155 = .ok (.invokevirtual 287, 3) := by decide +kernel
theorem dX9_once_158 : decode cX9_once 158 = .ok (.ifCond .eq 14, 3) := by decide +kernel
theorem dX9_once_161 : decode cX9_once 161 = .ok (.iload_n 3, 1) := by decide +kernel
theorem dX9_once_162 : decode cX9_once 162 = .ok (.aload_n 0, 1) := by decide +kernel
theorem dX9_once_163 : decode cX9_once 163 = .ok (.getfield 19, 3) := by decide +kernel
theorem dX9_once_166 : decode cX9_once 166 = .ok (.iload_n 1, 1) := by decide +kernel
theorem dX9_once_167 : decode cX9_once 167 = .ok (.iaload, 1) := by decide +kernel
theorem dX9_once_168 : decode cX9_once 168 = .ok (.iadd, 1) := by decide +kernel
theorem dX9_once_169 : decode cX9_once 169 = .ok (.goto 4, 3) := by decide +kernel
theorem dX9_once_172 : decode cX9_once 172 = .ok (.iload_n 3, 1) := by decide +kernel
theorem dX9_once_173 : decode cX9_once 173 = .ok (.istore_n 3, 1) := by decide +kernel
theorem dX9_once_174 : decode cX9_once 174 = .ok (.goto 160, 3) := by decide +kernel
theorem dX9_once_177 : decode cX9_once 177 = .ok (.iload_n 3, 1) := by decide +kernel
theorem dX9_once_178 : decode cX9_once 178 = .ok (.aload_n 0, 1) := by decide +kernel
theorem dX9_once_179 : decode cX9_once 179 = .ok (.getfield 7, 3) := by decide +kernel
theorem dX9_once_182 : decode cX9_once 182 = .ok (.iload_n 1, 1) := by decide +kernel
theorem dX9_once_183 : decode cX9_once 183 = .ok (.iaload, 1) := by decide +kernel
theorem dX9_once_184 : decode cX9_once 184 = .ok (.bipush 7, 2) := by decide +kernel
theorem dX9_once_186 : decode cX9_once 186 = .ok (.iand, 1) := by decide +kernel
theorem dX9_once_187 : decode cX9_once 187 = .ok (.iconst 5, 1) := by decide +kernel
theorem dX9_once_188 : decode cX9_once 188 = .ok (.if_icmp .ne 12, 3) := by decide +kernel
theorem dX9_once_191 : decode cX9_once 191 = .ok (.aload_n 0, 1) := by decide +kernel
theorem dX9_once_192 : decode cX9_once 192 = .ok (.getfield 19, 3) := by decide +kernel
theorem dX9_once_195 : decode cX9_once 195 = .ok (.iload_n 1, 1) := by decide +kernel
theorem dX9_once_196 : decode cX9_once 196 = .ok (.iaload, 1) := by decide +kernel
theorem dX9_once_197 : decode cX9_once 197 = .ok (.goto 9, 3) := by decide +kernel
theorem dX9_once_200 : decode cX9_once 200 = .ok (.aload_n 0, 1) := by decide +kernel
theorem dX9_once_201 : decode cX9_once 201 = .ok (.getfield 22, 3) := by decide +kernel
theorem dX9_once_204 : decode cX9_once 204 = .ok (.iload_n 1, 1) := by decide +kernel
theorem dX9_once_205 : decode cX9_once 205 = .ok (.iaload, 1) := by decide +kernel
theorem dX9_once_206 : decode cX9_once 206 = .ok (.iadd, 1) := by decide +kernel
theorem dX9_once_207 : decode cX9_once 207 = .ok (.istore_n 3, 1) := by decide +kernel
theorem dX9_once_208 : decode cX9_once 208 = .ok (.goto 126, 3) := by decide +kernel
theorem dX9_once_211 : decode cX9_once 211 = .ok (.aload_n 0, 1) := by decide +kernel
theorem dX9_once_212 : decode cX9_once 212 = .ok (.iconst 2, 1) := by decide +kernel
theorem dX9_once_213 : decode cX9_once 213 = .ok (.putfield 140, 3) := by decide +kernel
theorem dX9_once_216 : decode cX9_once 216 = .ok (.iload_n 1, 1) := by decide +kernel
theorem dX9_once_217 : decode cX9_once 217 = .ok (.istore_n 3, 1) := by decide +kernel
theorem dX9_once_218 : decode cX9_once 218 = .ok (.goto 116, 3) := by decide +kernel
theorem dX9_once_221 : decode cX9_once 221 = .ok (.aload_n 0, 1) := by decide +kernel
theorem dX9_once_222 : decode cX9_once 222 = .ok (.aload_n 0, 1) := by decide +kernel
theorem dX9_once_223 : decode cX9_once 223 = .ok (.getfield 22, 3) := by decide +kernel
theorem dX9_once_226 : decode cX9_once 226 = .ok (.iload_n 1, 1) := by decide +kernel
theorem dX9_once_227 : decode cX9_once 227 = .ok (.iaload, 1) := by decide +kernel
theorem dX9_once_228 : decode cX9_once 228 = .ok (.invokevirtual 291, 3) := by decide +kernel
theorem dX9_once_231 : decode cX9_once 231 = .ok (.istore 4, 2) := by decide +kernel
theorem dX9_once_233 : decode cX9_once 233 = .ok (.goto 101, 3) := by decide +kernel
theorem dX9_once_236 : decode cX9_once 236 = .ok (.aload_n 0, 1) := by decide +kernel
theorem dX9_once_237 : decode cX9_once 237 = .ok (.iload_n 1, 1) := by decide +kernel
theorem dX9_once_238 : decode cX9_once 238 = .ok (.iload_n 2, 1) := by decide +kernel
theorem dX9_once_239 : decode cX9_once 239 = .ok (.iconst 0, 1) := by decide +kernel
theorem dX9_once_240 : decode cX9_once 240 = .ok (.invokevirtual 294, 3) := by decide +kernel
theorem dX9_once_243 : decode cX9_once 243 = .ok (.istore 4, 2) := by decide +kernel
theorem dX9_once_245 : decode cX9_once 245 = .ok (.goto 89, 3) := by decide +kernel
theorem dX9_once_248 : decode cX9_once 248 = .ok (.aload_n 0, 1) := by decide +kernel
theorem dX9_once_249 : decode cX9_once 249 = .ok (.iload_n 1, 1) := by decide +kernel
theorem dX9_once_250 : decode cX9_once 250 = .ok (.iload_n 2, 1) := by decide +kernel
theorem dX9_once_251 : decode cX9_once 251 = .ok (.iconst 1, 1) := by decide +kernel
theorem dX9_once_252 : decode cX9_once 252 = .ok (.invokevirtual 294, 3) := by decide +kernel
theorem dX9_once_255 : decode cX9_once 255 = .ok (.istore 4, 2) := by decide +kernel
theorem dX9_once_257 : decode cX9_once 257 = .ok (.goto 77, 3) := by decide +kernel
theorem dX9_once_260 : decode cX9_once 260 = .ok (.aload_n 0, 1) := by decide +kernel
theorem dX9_once_261 : decode cX9_once 261 = .ok (.iload_n 1, 1) := by decide +kernel
theorem dX9_once_262 : decode cX9_once 262 = .ok (.iload_n 2, 1) := by decide +kernel
theorem dX9_once_263 : decode cX9_once 263 = .ok (.aload_n 0, 1) := by decide +kernel
theorem dX9_once_264 : decode cX9_once 264 = .ok (.getfield 22, 3) := by decide +kernel
theorem dX9_once_267 : decode cX9_once 267 = .ok (.iload_n 1, 1) := by decide +kernel
theorem dX9_once_268 : decode cX9_once 268 = .ok (.iaload, 1) := by decide +kernel
theorem dX9_once_269 : decode cX9_once 269 = .ok (.i2l, 1) := by decide +kernel
theorem dX9_once_270 : decode cX9_once 270 = .ok (.invokevirtual 298, 3) := by decide +kernel
theorem dX9_once_273 : decode cX9_once 273 = .ok (.istore 4, 2) := by decide +kernel
theorem dX9_once_275 : decode cX9_once 275 = .ok (.goto 59, 3) := by decide +kernel
theorem dX9_once_278 : decode cX9_once 278 = .ok (.aload_n 0, 1) := by decide +kernel
theorem dX9_once_279 : decode cX9_once 279 = .ok (.iload_n 1, 1) := by decide +kernel
theorem dX9_once_280 : decode cX9_once 280 = .ok (.iload_n 2, 1) := by decide +kernel
theorem dX9_once_281 : decode cX9_once 281 = .ok (.aload_n 0, 1) := by decide +kernel
theorem dX9_once_282 : decode cX9_once 282 = .ok (.getfield 53, 3) := by decide +kernel
theorem dX9_once_285 : decode cX9_once 285 = .ok (.aload_n 0, 1) := by decide +kernel
theorem dX9_once_286 : decode cX9_once 286 = .ok (.getfield 16, 3) := by decide +kernel
theorem dX9_once_289 : decode cX9_once 289 = .ok (.iload_n 1, 1) := by decide +kernel
theorem dX9_once_290 : decode cX9_once 290 = .ok (.iaload, 1) := by decide +kernel
theorem dX9_once_291 : decode cX9_once 291 = .ok (.laload, 1) := by decide +kernel
theorem dX9_once_292 : decode cX9_once 292 = .ok (.invokevirtual 298, 3) := by decide +kernel
theorem dX9_once_295 : decode cX9_once 295 = .ok (.istore 4, 2) := by decide +kernel
theorem dX9_once_297 : decode cX9_once 297 = .ok (.goto 37, 3) := by decide +kernel
theorem dX9_once_300 : decode cX9_once 300 = .ok (.aload_n 0, 1) := by decide +kernel
theorem dX9_once_301 : decode cX9_once 301 = .ok (.iload_n 1, 1) := by decide +kernel
theorem dX9_once_302 : decode cX9_once 302 = .ok (.aload_n 0, 1) := by decide +kernel
theorem dX9_once_303 : decode cX9_once 303 = .ok (.getfield 7, 3) := by decide +kernel
theorem dX9_once_306 : decode cX9_once 306 = .ok (.iload_n 1, 1) := by decide +kernel
theorem dX9_once_307 : decode cX9_once 307 = .ok (.iaload, 1) := by decide +kernel
theorem dX9_once_308 : decode cX9_once 308 = .ok (.sipush 219, 3) := by decide +kernel
theorem dX9_once_311 : decode cX9_once 311 = .ok (.if_icmp .ne 8, 3) := by decide +kernel
theorem dX9_once_314 : decode cX9_once 314 = .ok (.bipush 8, 2) := by decide +kernel
theorem dX9_once_316 : decode cX9_once 316 = .ok (.goto 4, 3) := by decide +kernel
theorem dX9_once_319 : decode cX9_once 319 = .ok (.iconst 4, 1) := by decide +kernel
theorem dX9_once_320 : decode cX9_once 320 = .ok (.invokevirtual 302, 3) := by decide +kernel
theorem dX9_once_323 : decode cX9_once 323 = .ok (.istore 4, 2) := by decide +kernel
theorem dX9_once_325 : decode cX9_once 325 = .ok (.goto 9, 3) := by decide +kernel
theorem dX9_once_328 : decode cX9_once 328 = .ok (.aload_n 0, 1) := by decide +kernel
theorem dX9_once_329 : decode cX9_once 329 = .ok (.iload_n 1, 1) := by decide +kernel
theorem dX9_once_330 : decode cX9_once 330 = .ok (.invokevirtual 306, 3) := by decide +kernel
theorem dX9_once_333 : decode cX9_once 333 = .ok (.ireturn, 1) := by decide +kernel
theorem dX9_once_334 : decode cX9_once 334 = .ok (.aload_n 0, 1) := by decide +kernel
theorem dX9_once_335 : decode cX9_once 335 = .ok (.iload 4, 2) := by decide +kernel
theorem dX9_once_337 : decode cX9_once 337 = .ok (.ifCond .eq 7, 3) := by decide +kernel
theorem dX9_once_340 : decode cX9_once 340 = .ok (.iload_n 3, 1) := by decide +kernel
theorem dX9_once_341 : decode cX9_once 341 = .ok (.goto 7, 3) := by decide +kernel
theorem dX9_once_344 : decode cX9_once 344 = .ok (.aload_n 0, 1) := by decide +kernel
theorem dX9_once_345 : decode cX9_once 345 = .ok (.getfield 260, 3) := by decide +kernel
theorem dX9_once_348 : decode cX9_once 348 = .ok (.putfield 260, 3) := by decide +kernel
theorem dX9_once_351 : decode cX9_once 351 = .ok (.iload 4, 2) := by decide +kernel
theorem dX9_once_353 : decode cX9_once 353 = .ok (.ifCond .eq 7, 3) := by decide +kernel
theorem dX9_once_356 : decode cX9_once 356 = .ok (.iconst 0, 1) := by decide +kernel
theorem dX9_once_357 : decode cX9_once 357 = .ok (.goto 4, 3) := by decide +kernel
theorem dX9_once_360 : decode cX9_once 360 = .ok (.iconst 4, 1) := by decide +kernel
theorem dX9_once_361 : decode cX9_once 361 = .ok (.ireturn, 1) := by decide +kernel
theorem dX9_step_0 : decode cX9_step 0 = .ok (.aload_n 0, 1) := by decide +kernel
theorem dX9_step_1 : decode cX9_step 1 = .ok (.getfield 140, 3) := by decide +kernel
theorem dX9_step_4 : decode cX9_step 4 = .ok (.iconst 1, 1) := by decide +kernel
theorem dX9_step_5 : decode cX9_step 5 = .ok (.if_icmp .eq 6, 3) := by decide +kernel
theorem dX9_step_8 : decode cX9_step 8 = .ok (.bipush (-3), 2) := by decide +kernel
theorem dX9_step_10 : decode cX9_step 10 = .ok (.ireturn, 1) := by decide +kernel
theorem dX9_step_11 : decode cX9_step 11 = .ok (.aload_n 0, 1) := by decide +kernel
theorem dX9_step_12 : decode cX9_step 12 = .ok (.invokevirtual 312, 3) := by decide +kernel
theorem dX9_step_15 : decode cX9_step 15 = .ok (.istore_n 1, 1) := by decide +kernel
theorem dX9_step_16 : decode cX9_step 16 = .ok (.aload_n 0, 1) := by decide +kernel
theorem dX9_step_17 : decode cX9_step 17 = .ok (.iload_n 1, 1) := by decide +kernel
theorem dX9_step_18 : decode cX9_step 18 = .ok (.ifCond .le 7, 3) := by decide +kernel
theorem dX9_step_21 : decode cX9_step 21 = .ok (.iload_n 1, 1) := by decide +kernel
theorem dX9_step_22 : decode cX9_step 22 = .ok (.goto 7, 3) := by decide +kernel
theorem dX9_step_25 : decode cX9_step 25 = .ok (.aload_n 0, 1) := by decide +kernel
theorem dX9_step_26 : decode cX9_step 26 = .ok (.getfield 140, 3) := by decide +kernel
theorem dX9_step_29 : decode cX9_step 29 = .ok (.putfield 140, 3) := by decide +kernel
theorem dX9_step_32 : decode cX9_step 32 = .ok (.aload_n 0, 1) := by decide +kernel
theorem dX9_step_33 : decode cX9_step 33 = .ok (.iload_n 1, 1) := by decide +kernel
theorem dX9_step_34 : decode cX9_step 34 = .ok (.ifCond .le 10, 3) := by decide +kernel
theorem dX9_step_37 : decode cX9_step 37 = .ok (.aload_n 0, 1) := by decide +kernel
theorem dX9_step_38 : decode cX9_step 38 = .ok (.getfield 263, 3) := by decide +kernel
theorem dX9_step_41 : decode cX9_step 41 = .ok (.goto 9, 3) := by decide +kernel
theorem dX9_step_44 : decode cX9_step 44 = .ok (.aload_n 0, 1) := by decide +kernel
theorem dX9_step_45 : decode cX9_step 45 = .ok (.getfield 263, 3) := by decide +kernel
theorem dX9_step_48 : decode cX9_step 48 = .ok (.iconst 1, 1) := by decide +kernel
theorem dX9_step_49 : decode cX9_step 49 = .ok (.iadd, 1) := by decide +kernel
theorem dX9_step_50 : decode cX9_step 50 = .ok (.putfield 263, 3) := by decide +kernel
theorem dX9_step_53 : decode cX9_step 53 = .ok (.aload_n 0, 1) := by decide +kernel
theorem dX9_step_54 : decode cX9_step 54 = .ok (.getfield 140, 3) := by decide +kernel
theorem dX9_step_57 : decode cX9_step 57 = .ok (.ireturn, 1) := by decide +kernel
theorem dX9_run_0 : decode cX9_run 0 = .ok (.iload_n 1, 1) := by decide +kernel
theorem dX9_run_1 : decode cX9_run 1 = .ok (.i2l, 1) := by decide +kernel
theorem dX9_run_2 : decode cX9_run 2 = .ok (.lconst 0, 1) := by decide +kernel
theorem dX9_run_3 : decode cX9_run 3 = .ok (.ldc2_w 316, 3) := by decide +kernel
theorem dX9_run_6 : decode cX9_run 6 = .ok (.invokestatic 132, 3) := by decide +kernel
theorem dX9_run_9 : decode cX9_run 9 = .ok (.ifCond .ne 6, 3) := by decide +kernel
theorem dX9_run_12 : decode cX9_run 12 = .ok (.bipush (-2), 2) := by decide +kernel
theorem dX9_run_14 : decode cX9_run 14 = .ok (.ireturn, 1) := by decide +kernel
theorem dX9_run_15 : decode cX9_run 15 = .ok (.aload_n 0, 1) := by decide +kernel
theorem dX9_run_16 : decode cX9_run 16 = .ok (.getfield 140, 3) := by decide +kernel
theorem dX9_run_19 : decode cX9_run 19 = .ok (.iconst 1, 1) := by decide +kernel
theorem dX9_run_20 : decode cX9_run 20 = .ok (.if_icmp .eq 6, 3) := by decide +kernel
theorem dX9_run_23 : decode cX9_run 23 = .ok (.bipush (-3), 2) := by decide +kernel
theorem dX9_run_25 : decode cX9_run 25 = .ok (.ireturn, 1) := by decide +kernel
theorem dX9_run_26 : decode cX9_run 26 = .ok (.iconst 0, 1) := by decide +kernel
theorem dX9_run_27 : decode cX9_run 27 = .ok (.istore_n 2, 1) := by decide +kernel
theorem dX9_run_28 : decode cX9_run 28 = .ok (.iload_n 2, 1) := by decide +kernel
theorem dX9_run_29 : decode cX9_run 29 = .ok (.iload_n 1, 1) := by decide +kernel
theorem dX9_run_30 : decode cX9_run 30 = .ok (.if_icmp .ge 27, 3) := by decide +kernel
theorem dX9_run_33 : decode cX9_run 33 = .ok (.aload_n 0, 1) := by decide +kernel
theorem dX9_run_34 : decode cX9_run 34 = .ok (.getfield 140, 3) := by decide +kernel
theorem dX9_run_37 : decode cX9_run 37 = .ok (.iconst 1, 1) := by decide +kernel
theorem dX9_run_38 : decode cX9_run 38 = .ok (.if_icmp .ne 19, 3) := by decide +kernel
theorem dX9_run_41 : decode cX9_run 41 = .ok (.aload_n 0, 1) := by decide +kernel
theorem dX9_run_42 : decode cX9_run 42 = .ok (.invokevirtual 318, 3) := by decide +kernel
theorem dX9_run_45 : decode cX9_run 45 = .ok (.istore_n 3, 1) := by decide +kernel
theorem dX9_run_46 : decode cX9_run 46 = .ok (.aload_n 0, 1) := by decide +kernel
theorem dX9_run_47 : decode cX9_run 47 = .ok (.iload_n 3, 1) := by decide +kernel
theorem dX9_run_48 : decode cX9_run 48 = .ok (.putfield 140, 3) := by decide +kernel
theorem dX9_run_51 : decode cX9_run 51 = .ok (.iinc 2 1, 3) := by decide +kernel
theorem dX9_run_54 : decode cX9_run 54 = .ok (.goto (-26), 3) := by decide +kernel
theorem dX9_run_57 : decode cX9_run 57 = .ok (.aload_n 0, 1) := by decide +kernel
theorem dX9_run_58 : decode cX9_run 58 = .ok (.getfield 140, 3) := by decide +kernel
theorem dX9_run_61 : decode cX9_run 61 = .ok (.ireturn, 1) := by decide +kernel
theorem dX9_context_0 : decode cX9_context 0 = .ok (.iload_n 1, 1) := by decide +kernel
theorem dX9_context_1 : decode cX9_context 1 = .ok (.i2l, 1) := by decide +kernel
theorem dX9_context_2 : decode cX9_context 2 = .ok (.lconst 0, 1) := by decide +kernel
theorem dX9_context_3 : decode cX9_context 3 = .ok (.ldc2_w 321, 3) := by decide +kernel
theorem dX9_context_6 : decode cX9_context 6 = .ok (.invokestatic 132, 3) := by decide +kernel
theorem dX9_context_9 : decode cX9_context 9 = .ok (.ifCond .ne 6, 3) := by decide +kernel
theorem dX9_context_12 : decode cX9_context 12 = .ok (.bipush (-2), 2) := by decide +kernel
theorem dX9_context_14 : decode cX9_context 14 = .ok (.ireturn, 1) := by decide +kernel
theorem dX9_context_15 : decode cX9_context 15 = .ok (.aload_n 0, 1) := by decide +kernel
theorem dX9_context_16 : decode cX9_context 16 = .ok (.getfield 140, 3) := by decide +kernel
theorem dX9_context_19 : decode cX9_context 19 = .ok (.iconst 1, 1) := by decide +kernel
theorem dX9_context_20 : decode cX9_context 20 = .ok (.if_icmp .ne 6, 3) := by decide +kernel
theorem dX9_context_23 : decode cX9_context 23 = .ok (.bipush (-3), 2) := by decide +kernel
theorem dX9_context_25 : decode cX9_context 25 = .ok (.ireturn, 1) := by decide +kernel
theorem dX9_context_26 : decode cX9_context 26 = .ok (.aload_n 0, 1) := by decide +kernel
theorem dX9_context_27 : decode cX9_context 27 = .ok (.getfield 209, 3) := by decide +kernel
theorem dX9_context_30 : decode cX9_context 30 = .ok (.istore_n 2, 1) := by decide +kernel
theorem dX9_context_31 : decode cX9_context 31 = .ok (.aload_n 0, 1) := by decide +kernel
theorem dX9_context_32 : decode cX9_context 32 = .ok (.getfield 209, 3) := by decide +kernel
theorem dX9_context_35 : decode cX9_context 35 = .ok (.istore_n 3, 1) := by decide +kernel
theorem dX9_context_36 : decode cX9_context 36 = .ok (.iload_n 3, 1) := by decide +kernel
theorem dX9_context_37 : decode cX9_context 37 = .ok (.iload_n 1, 1) := by decide +kernel
theorem dX9_context_38 : decode cX9_context 38 = .ok (.if_icmp .ge 16, 3) := by decide +kernel
theorem dX9_context_41 : decode cX9_context 41 = .ok (.aload_n 0, 1) := by decide +kernel
theorem dX9_context_42 : decode cX9_context 42 = .ok (.getfield 25, 3) := by decide +kernel
theorem dX9_context_45 : decode cX9_context 45 = .ok (.iload_n 3, 1) := by decide +kernel
theorem dX9_context_46 : decode cX9_context 46 = .ok (.iconst 0, 1) := by decide +kernel
theorem dX9_context_47 : decode cX9_context 47 = .ok (.iastore, 1) := by decide +kernel
theorem dX9_context_48 : decode cX9_context 48 = .ok (.iinc 3 1, 3) := by decide +kernel
theorem dX9_context_51 : decode cX9_context 51 = .ok (.goto (-15), 3) := by decide +kernel
theorem dX9_context_54 : decode cX9_context 54 = .ok (.aload_n 0, 1) := by decide +kernel
theorem dX9_context_55 : decode cX9_context 55 = .ok (.iload_n 1, 1) := by decide +kernel
theorem dX9_context_56 : decode cX9_context 56 = .ok (.putfield 209, 3) := by decide +kernel
theorem dX9_context_59 : decode cX9_context 59 = .ok (.iload_n 2, 1) := by decide +kernel
theorem dX9_context_60 : decode cX9_context 60 = .ok (.ireturn, 1) := by decide +kernel
theorem dX9_poke_0 : decode cX9_poke 0 = .ok (.iload_n 1, 1) := by decide +kernel
theorem dX9_poke_1 : decode cX9_poke 1 = .ok (.i2l, 1) := by decide +kernel
theorem dX9_poke_2 : decode cX9_poke 2 = .ok (.lconst 0, 1) := by decide +kernel
theorem dX9_poke_3 : decode cX9_poke 3 = .ok (.aload_n 0, 1) := by decide +kernel
theorem dX9_poke_4 : decode cX9_poke 4 = .ok (.getfield 209, 3) := by decide +kernel
theorem dX9_poke_7 : decode cX9_poke 7 = .ok (.iconst 1, 1) := by decide +kernel
theorem dX9_poke_8 : decode cX9_poke 8 = .ok (.isub, 1) := by decide +kernel
theorem dX9_poke_9 : decode cX9_poke 9 = .ok (.i2l, 1) := by decide +kernel
theorem dX9_poke_10 : decode cX9_poke 10 = .ok (.invokestatic 132, 3) := by decide +kernel
theorem dX9_poke_13 : decode cX9_poke 13 = .ok (.ifCond .ne 5, 3) := by decide +kernel
theorem dX9_poke_16 : decode cX9_poke 16 = .ok (.iconst (-1), 1) := by decide +kernel
theorem dX9_poke_17 : decode cX9_poke 17 = .ok (.ireturn, 1) := by decide +kernel
theorem dX9_poke_18 : decode cX9_poke 18 = .ok (.iload_n 2, 1) := by decide +kernel
theorem dX9_poke_19 : decode cX9_poke 19 = .ok (.i2l, 1) := by decide +kernel
theorem dX9_poke_20 : decode cX9_poke 20 = .ok (.lconst 0, 1) := by decide +kernel
theorem dX9_poke_21 : decode cX9_poke 21 = .ok (.ldc2_w 130, 3) := by decide +kernel
theorem dX9_poke_24 : decode cX9_poke 24 = .ok (.invokestatic 132, 3) := by decide +kernel
theorem dX9_poke_27 : decode cX9_poke 27 = .ok (.ifCond .ne 6, 3) := by decide +kernel
theorem dX9_poke_30 : decode cX9_poke 30 = .ok (.bipush (-2), 2) := by decide +kernel
theorem dX9_poke_32 : decode cX9_poke 32 = .ok (.ireturn, 1) := by decide +kernel
theorem dX9_poke_33 : decode cX9_poke 33 = .ok (.aload_n 0, 1) := by decide +kernel
theorem dX9_poke_34 : decode cX9_poke 34 = .ok (.getfield 140, 3) := by decide +kernel
theorem dX9_poke_37 : decode cX9_poke 37 = .ok (.iconst 1, 1) := by decide +kernel
theorem dX9_poke_38 : decode cX9_poke 38 = .ok (.if_icmp .ne 6, 3) := by decide +kernel
theorem dX9_poke_41 : decode cX9_poke 41 = .ok (.bipush (-3), 2) := by decide +kernel
theorem dX9_poke_43 : decode cX9_poke 43 = .ok (.ireturn, 1) := by decide +kernel
theorem dX9_poke_44 : decode cX9_poke 44 = .ok (.aload_n 0, 1) := by decide +kernel
theorem dX9_poke_45 : decode cX9_poke 45 = .ok (.getfield 25, 3) := by decide +kernel
theorem dX9_poke_48 : decode cX9_poke 48 = .ok (.iload_n 1, 1) := by decide +kernel
theorem dX9_poke_49 : decode cX9_poke 49 = .ok (.iaload, 1) := by decide +kernel
theorem dX9_poke_50 : decode cX9_poke 50 = .ok (.istore_n 3, 1) := by decide +kernel
theorem dX9_poke_51 : decode cX9_poke 51 = .ok (.aload_n 0, 1) := by decide +kernel
theorem dX9_poke_52 : decode cX9_poke 52 = .ok (.getfield 25, 3) := by decide +kernel
theorem dX9_poke_55 : decode cX9_poke 55 = .ok (.iload_n 1, 1) := by decide +kernel
theorem dX9_poke_56 : decode cX9_poke 56 = .ok (.iload_n 2, 1) := by decide +kernel
theorem dX9_poke_57 : decode cX9_poke 57 = .ok (.iastore, 1) := by decide +kernel
theorem dX9_poke_58 : decode cX9_poke 58 = .ok (.iload_n 3, 1) := by decide +kernel
theorem dX9_poke_59 : decode cX9_poke 59 = .ok (.ireturn, 1) := by decide +kernel
theorem dX9_tick_0 : decode cX9_tick 0 = .ok (.lload_n 1, 1) := by decide +kernel
theorem dX9_tick_1 : decode cX9_tick 1 = .ok (.lconst 0, 1) := by decide +kernel
theorem dX9_tick_2 : decode cX9_tick 2 = .ok (.lcmp, 1) := by decide +kernel
theorem dX9_tick_3 : decode cX9_tick 3 = .ok (.ifCond .lt 16, 3) := by decide +kernel
theorem dX9_tick_6 : decode cX9_tick 6 = .ok (.lload_n 1, 1) := by decide +kernel
theorem dX9_tick_7 : decode cX9_tick 7 = .ok (.ldc2_w 323, 3) := by decide +kernel
theorem dX9_tick_10 : decode cX9_tick 10 = .ok (.aload_n 0, 1) := by decide +kernel
theorem dX9_tick_11 : decode cX9_tick 11 = .ok (.getfield 244, 3) := by decide +kernel
theorem dX9_tick_14 : decode cX9_tick 14 = .ok (.lsub, 1) := by decide +kernel
theorem dX9_tick_15 : decode cX9_tick 15 = .ok (.lcmp, 1) := by decide +kernel
theorem dX9_tick_16 : decode cX9_tick 16 = .ok (.ifCond .le 7, 3) := by decide +kernel
theorem dX9_tick_19 : decode cX9_tick 19 = .ok (.ldc2_w 325, 3) := by decide +kernel
theorem dX9_tick_22 : decode cX9_tick 22 = .ok (.lreturn, 1) := by decide +kernel
theorem dX9_tick_23 : decode cX9_tick 23 = .ok (.aload_n 0, 1) := by decide +kernel
theorem dX9_tick_24 : decode cX9_tick 24 = .ok (.dup, 1) := by decide +kernel
theorem dX9_tick_25 : decode cX9_tick 25 = .ok (.getfield 244, 3) := by decide +kernel
theorem dX9_tick_28 : decode cX9_tick 28 = .ok (.lload_n 1, 1) := by decide +kernel
theorem dX9_tick_29 : decode cX9_tick 29 = .ok (.ladd, 1) := by decide +kernel
theorem dX9_tick_30 : decode cX9_tick 30 = .ok (.putfield 244, 3) := by decide +kernel
theorem dX9_tick_33 : decode cX9_tick 33 = .ok (.aload_n 0, 1) := by decide +kernel
theorem dX9_tick_34 : decode cX9_tick 34 = .ok (.getfield 244, 3) := by decide +kernel
theorem dX9_tick_37 : decode cX9_tick 37 = .ok (.lreturn, 1) := by decide +kernel
theorem dX9_told_0 : decode cX9_told 0 = .ok (.iload_n 1, 1) := by decide +kernel
theorem dX9_told_1 : decode cX9_told 1 = .ok (.tableswitch 69 0 5 #[39, 44, 49, 54, 59, 64], 39) := by decide +kernel
theorem dX9_told_40 : decode cX9_told 40 = .ok (.aload_n 0, 1) := by decide +kernel
theorem dX9_told_41 : decode cX9_told 41 = .ok (.getfield 140, 3) := by decide +kernel
theorem dX9_told_44 : decode cX9_told 44 = .ok (.ireturn, 1) := by decide +kernel
theorem dX9_told_45 : decode cX9_told 45 = .ok (.aload_n 0, 1) := by decide +kernel
theorem dX9_told_46 : decode cX9_told 46 = .ok (.getfield 260, 3) := by decide +kernel
theorem dX9_told_49 : decode cX9_told 49 = .ok (.ireturn, 1) := by decide +kernel
theorem dX9_told_50 : decode cX9_told 50 = .ok (.aload_n 0, 1) := by decide +kernel
theorem dX9_told_51 : decode cX9_told 51 = .ok (.getfield 263, 3) := by decide +kernel
theorem dX9_told_54 : decode cX9_told 54 = .ok (.ireturn, 1) := by decide +kernel
theorem dX9_told_55 : decode cX9_told 55 = .ok (.aload_n 0, 1) := by decide +kernel
theorem dX9_told_56 : decode cX9_told 56 = .ok (.getfield 147, 3) := by decide +kernel
theorem dX9_told_59 : decode cX9_told 59 = .ok (.ireturn, 1) := by decide +kernel
theorem dX9_told_60 : decode cX9_told 60 = .ok (.aload_n 0, 1) := by decide +kernel
theorem dX9_told_61 : decode cX9_told 61 = .ok (.getfield 204, 3) := by decide +kernel
theorem dX9_told_64 : decode cX9_told 64 = .ok (.ireturn, 1) := by decide +kernel
theorem dX9_told_65 : decode cX9_told 65 = .ok (.aload_n 0, 1) := by decide +kernel
theorem dX9_told_66 : decode cX9_told 66 = .ok (.getfield 248, 3) := by decide +kernel
theorem dX9_told_69 : decode cX9_told 69 = .ok (.ireturn, 1) := by decide +kernel
theorem dX9_told_70 : decode cX9_told 70 = .ok (.bipush (-2), 2) := by decide +kernel
theorem dX9_told_72 : decode cX9_told 72 = .ok (.ireturn, 1) := by decide +kernel
theorem dX9_register_0 : decode cX9_register 0 = .ok (.iload_n 1, 1) := by decide +kernel
theorem dX9_register_1 : decode cX9_register 1 = .ok (.i2l, 1) := by decide +kernel
theorem dX9_register_2 : decode cX9_register 2 = .ok (.lconst 0, 1) := by decide +kernel
theorem dX9_register_3 : decode cX9_register 3 = .ok (.ldc2_w 327, 3) := by decide +kernel
theorem dX9_register_6 : decode cX9_register 6 = .ok (.invokestatic 132, 3) := by decide +kernel
theorem dX9_register_9 : decode cX9_register 9 = .ok (.ifCond .eq 12, 3) := by decide +kernel
theorem dX9_register_12 : decode cX9_register 12 = .ok (.aload_n 0, 1) := by decide +kernel
theorem dX9_register_13 : decode cX9_register 13 = .ok (.getfield 53, 3) := by decide +kernel
theorem dX9_register_16 : decode cX9_register 16 = .ok (.iload_n 1, 1) := by decide +kernel
theorem dX9_register_17 : decode cX9_register 17 = .ok (.laload, 1) := by decide +kernel
theorem dX9_register_18 : decode cX9_register 18 = .ok (.goto 4, 3) := by decide +kernel
theorem dX9_register_21 : decode cX9_register 21 = .ok (.lconst 0, 1) := by decide +kernel
theorem dX9_register_22 : decode cX9_register 22 = .ok (.lreturn, 1) := by decide +kernel
theorem dX9_putAt_0 : decode cX9_putAt 0 = .ok (.aload_n 0, 1) := by decide +kernel
theorem dX9_putAt_1 : decode cX9_putAt 1 = .ok (.getfield 248, 3) := by decide +kernel
theorem dX9_putAt_4 : decode cX9_putAt 4 = .ok (.bipush 32, 2) := by decide +kernel
theorem dX9_putAt_6 : decode cX9_putAt 6 = .ok (.if_icmp .ge 10, 3) := by decide +kernel
theorem dX9_putAt_9 : decode cX9_putAt 9 = .ok (.aload_n 0, 1) := by decide +kernel
theorem dX9_putAt_10 : decode cX9_putAt 10 = .ok (.getfield 248, 3) := by decide +kernel
theorem dX9_putAt_13 : decode cX9_putAt 13 = .ok (.goto 5, 3) := by decide +kernel
theorem dX9_putAt_16 : decode cX9_putAt 16 = .ok (.bipush 32, 2) := by decide +kernel
theorem dX9_putAt_18 : decode cX9_putAt 18 = .ok (.istore_n 2, 1) := by decide +kernel
theorem dX9_putAt_19 : decode cX9_putAt 19 = .ok (.iload_n 1, 1) := by decide +kernel
theorem dX9_putAt_20 : decode cX9_putAt 20 = .ok (.i2l, 1) := by decide +kernel
theorem dX9_putAt_21 : decode cX9_putAt 21 = .ok (.lconst 0, 1) := by decide +kernel
theorem dX9_putAt_22 : decode cX9_putAt 22 = .ok (.iload_n 2, 1) := by decide +kernel
theorem dX9_putAt_23 : decode cX9_putAt 23 = .ok (.iconst 1, 1) := by decide +kernel
theorem dX9_putAt_24 : decode cX9_putAt 24 = .ok (.isub, 1) := by decide +kernel
theorem dX9_putAt_25 : decode cX9_putAt 25 = .ok (.i2l, 1) := by decide +kernel
theorem dX9_putAt_26 : decode cX9_putAt 26 = .ok (.invokestatic 132, 3) := by decide +kernel
theorem dX9_putAt_29 : decode cX9_putAt 29 = .ok (.ifCond .eq 22, 3) := by decide +kernel
theorem dX9_putAt_32 : decode cX9_putAt 32 = .ok (.aload_n 0, 1) := by decide +kernel
theorem dX9_putAt_33 : decode cX9_putAt 33 = .ok (.getfield 57, 3) := by decide +kernel
theorem dX9_putAt_36 : decode cX9_putAt 36 = .ok (.aload_n 0, 1) := by decide +kernel
theorem dX9_putAt_37 : decode cX9_putAt 37 = .ok (.getfield 248, 3) := by decide +kernel
theorem dX9_putAt_40 : decode cX9_putAt 40 = .ok (.iload_n 2, 1) := by decide +kernel
theorem dX9_putAt_41 : decode cX9_putAt 41 = .ok (.isub, 1) := by decide +kernel
theorem dX9_putAt_42 : decode cX9_putAt 42 = .ok (.iload_n 1, 1) := by decide +kernel
theorem dX9_putAt_43 : decode cX9_putAt 43 = .ok (.iadd, 1) := by decide +kernel
theorem dX9_putAt_44 : decode cX9_putAt 44 = .ok (.bipush 32, 2) := by decide +kernel
theorem dX9_putAt_46 : decode cX9_putAt 46 = .ok (.irem, 1) := by decide +kernel
theorem dX9_putAt_47 : decode cX9_putAt 47 = .ok (.laload, 1) := by decide +kernel
theorem dX9_putAt_48 : decode cX9_putAt 48 = .ok (.goto 4, 3) := by decide +kernel
theorem dX9_putAt_51 : decode cX9_putAt 51 = .ok (.lconst 0, 1) := by decide +kernel
theorem dX9_putAt_52 : decode cX9_putAt 52 = .ok (.lreturn, 1) := by decide +kernel
theorem dX9_take_0 : decode cX9_take 0 = .ok (.iconst 0, 1) := by decide +kernel
theorem dX9_take_1 : decode cX9_take 1 = .ok (.istore_n 2, 1) := by decide +kernel
theorem dX9_take_2 : decode cX9_take 2 = .ok (.iload_n 2, 1) := by decide +kernel
theorem dX9_take_3 : decode cX9_take 3 = .ok (.bipush 11, 2) := by decide +kernel
theorem dX9_take_5 : decode cX9_take 5 = .ok (.if_icmp .ge 76, 3) := by decide +kernel
theorem dX9_take_8 : decode cX9_take 8 = .ok (.bipush 11, 2) := by decide +kernel
theorem dX9_take_10 : decode cX9_take 10 = .ok (.iload_n 1, 1) := by decide +kernel
theorem dX9_take_11 : decode cX9_take 11 = .ok (.imul, 1) := by decide +kernel
theorem dX9_take_12 : decode cX9_take 12 = .ok (.iload_n 2, 1) := by decide +kernel
theorem dX9_take_13 : decode cX9_take 13 = .ok (.iadd, 1) := by decide +kernel
theorem dX9_take_14 : decode cX9_take 14 = .ok (.istore_n 3, 1) := by decide +kernel
theorem dX9_take_15 : decode cX9_take 15 = .ok (.aload_n 0, 1) := by decide +kernel
theorem dX9_take_16 : decode cX9_take 16 = .ok (.getfield 106, 3) := by decide +kernel
theorem dX9_take_19 : decode cX9_take 19 = .ok (.iload_n 2, 1) := by decide +kernel
theorem dX9_take_20 : decode cX9_take 20 = .ok (.aload_n 0, 1) := by decide +kernel
theorem dX9_take_21 : decode cX9_take 21 = .ok (.getfield 72, 3) := by decide +kernel
theorem dX9_take_24 : decode cX9_take 24 = .ok (.iload_n 3, 1) := by decide +kernel
theorem dX9_take_25 : decode cX9_take 25 = .ok (.iaload, 1) := by decide +kernel
theorem dX9_take_26 : decode cX9_take 26 = .ok (.iastore, 1) := by decide +kernel
theorem dX9_take_27 : decode cX9_take 27 = .ok (.aload_n 0, 1) := by decide +kernel
theorem dX9_take_28 : decode cX9_take 28 = .ok (.getfield 109, 3) := by decide +kernel
theorem dX9_take_31 : decode cX9_take 31 = .ok (.iload_n 2, 1) := by decide +kernel
theorem dX9_take_32 : decode cX9_take 32 = .ok (.aload_n 0, 1) := by decide +kernel
theorem dX9_take_33 : decode cX9_take 33 = .ok (.getfield 75, 3) := by decide +kernel
theorem dX9_take_36 : decode cX9_take 36 = .ok (.iload_n 3, 1) := by decide +kernel
theorem dX9_take_37 : decode cX9_take 37 = .ok (.laload, 1) := by decide +kernel
theorem dX9_take_38 : decode cX9_take 38 = .ok (.lastore, 1) := by decide +kernel
theorem dX9_take_39 : decode cX9_take 39 = .ok (.aload_n 0, 1) := by decide +kernel
theorem dX9_take_40 : decode cX9_take 40 = .ok (.getfield 112, 3) := by decide +kernel
theorem dX9_take_43 : decode cX9_take 43 = .ok (.iload_n 2, 1) := by decide +kernel
theorem dX9_take_44 : decode cX9_take 44 = .ok (.aload_n 0, 1) := by decide +kernel
theorem dX9_take_45 : decode cX9_take 45 = .ok (.getfield 78, 3) := by decide +kernel
theorem dX9_take_48 : decode cX9_take 48 = .ok (.iload_n 3, 1) := by decide +kernel
theorem dX9_take_49 : decode cX9_take 49 = .ok (.laload, 1) := by decide +kernel
theorem dX9_take_50 : decode cX9_take 50 = .ok (.lastore, 1) := by decide +kernel
theorem dX9_take_51 : decode cX9_take 51 = .ok (.aload_n 0, 1) := by decide +kernel
theorem dX9_take_52 : decode cX9_take 52 = .ok (.getfield 115, 3) := by decide +kernel
theorem dX9_take_55 : decode cX9_take 55 = .ok (.iload_n 2, 1) := by decide +kernel
theorem dX9_take_56 : decode cX9_take 56 = .ok (.aload_n 0, 1) := by decide +kernel
theorem dX9_take_57 : decode cX9_take 57 = .ok (.getfield 81, 3) := by decide +kernel
theorem dX9_take_60 : decode cX9_take 60 = .ok (.iload_n 3, 1) := by decide +kernel
theorem dX9_take_61 : decode cX9_take 61 = .ok (.iaload, 1) := by decide +kernel
theorem dX9_take_62 : decode cX9_take 62 = .ok (.iastore, 1) := by decide +kernel
theorem dX9_take_63 : decode cX9_take 63 = .ok (.aload_n 0, 1) := by decide +kernel
theorem dX9_take_64 : decode cX9_take 64 = .ok (.getfield 118, 3) := by decide +kernel
theorem dX9_take_67 : decode cX9_take 67 = .ok (.iload_n 2, 1) := by decide +kernel
theorem dX9_take_68 : decode cX9_take 68 = .ok (.aload_n 0, 1) := by decide +kernel
theorem dX9_take_69 : decode cX9_take 69 = .ok (.getfield 84, 3) := by decide +kernel
theorem dX9_take_72 : decode cX9_take 72 = .ok (.iload_n 3, 1) := by decide +kernel
theorem dX9_take_73 : decode cX9_take 73 = .ok (.iaload, 1) := by decide +kernel
theorem dX9_take_74 : decode cX9_take 74 = .ok (.iastore, 1) := by decide +kernel
theorem dX9_take_75 : decode cX9_take 75 = .ok (.iinc 2 1, 3) := by decide +kernel
theorem dX9_take_78 : decode cX9_take 78 = .ok (.goto (-76), 3) := by decide +kernel
theorem dX9_take_81 : decode cX9_take 81 = .ok (.iconst 0, 1) := by decide +kernel
theorem dX9_take_82 : decode cX9_take 82 = .ok (.istore_n 2, 1) := by decide +kernel
theorem dX9_take_83 : decode cX9_take 83 = .ok (.iload_n 2, 1) := by decide +kernel
theorem dX9_take_84 : decode cX9_take 84 = .ok (.bipush 64, 2) := by decide +kernel
theorem dX9_take_86 : decode cX9_take 86 = .ok (.if_icmp .ge 87, 3) := by decide +kernel
theorem dX9_take_89 : decode cX9_take 89 = .ok (.bipush 64, 2) := by decide +kernel
theorem dX9_take_91 : decode cX9_take 91 = .ok (.iload_n 1, 1) := by decide +kernel
theorem dX9_take_92 : decode cX9_take 92 = .ok (.imul, 1) := by decide +kernel
theorem dX9_take_93 : decode cX9_take 93 = .ok (.iload_n 2, 1) := by decide +kernel
theorem dX9_take_94 : decode cX9_take 94 = .ok (.iadd, 1) := by decide +kernel
theorem dX9_take_95 : decode cX9_take 95 = .ok (.istore_n 3, 1) := by decide +kernel
theorem dX9_take_96 : decode cX9_take 96 = .ok (.bipush 11, 2) := by decide +kernel
theorem dX9_take_98 : decode cX9_take 98 = .ok (.iload_n 2, 1) := by decide +kernel
theorem dX9_take_99 : decode cX9_take 99 = .ok (.iadd, 1) := by decide +kernel
theorem dX9_take_100 : decode cX9_take 100 = .ok (.istore 4, 2) := by decide +kernel
theorem dX9_take_102 : decode cX9_take 102 = .ok (.aload_n 0, 1) := by decide +kernel
theorem dX9_take_103 : decode cX9_take 103 = .ok (.getfield 106, 3) := by decide +kernel
theorem dX9_take_106 : decode cX9_take 106 = .ok (.iload 4, 2) := by decide +kernel
theorem dX9_take_108 : decode cX9_take 108 = .ok (.aload_n 0, 1) := by decide +kernel
theorem dX9_take_109 : decode cX9_take 109 = .ok (.getfield 91, 3) := by decide +kernel
theorem dX9_take_112 : decode cX9_take 112 = .ok (.iload_n 3, 1) := by decide +kernel
theorem dX9_take_113 : decode cX9_take 113 = .ok (.iaload, 1) := by decide +kernel
theorem dX9_take_114 : decode cX9_take 114 = .ok (.iastore, 1) := by decide +kernel
theorem dX9_take_115 : decode cX9_take 115 = .ok (.aload_n 0, 1) := by decide +kernel
theorem dX9_take_116 : decode cX9_take 116 = .ok (.getfield 109, 3) := by decide +kernel
theorem dX9_take_119 : decode cX9_take 119 = .ok (.iload 4, 2) := by decide +kernel
theorem dX9_take_121 : decode cX9_take 121 = .ok (.aload_n 0, 1) := by decide +kernel
theorem dX9_take_122 : decode cX9_take 122 = .ok (.getfield 94, 3) := by decide +kernel
theorem dX9_take_125 : decode cX9_take 125 = .ok (.iload_n 3, 1) := by decide +kernel
theorem dX9_take_126 : decode cX9_take 126 = .ok (.laload, 1) := by decide +kernel
theorem dX9_take_127 : decode cX9_take 127 = .ok (.lastore, 1) := by decide +kernel
theorem dX9_take_128 : decode cX9_take 128 = .ok (.aload_n 0, 1) := by decide +kernel
theorem dX9_take_129 : decode cX9_take 129 = .ok (.getfield 112, 3) := by decide +kernel
theorem dX9_take_132 : decode cX9_take 132 = .ok (.iload 4, 2) := by decide +kernel
theorem dX9_take_134 : decode cX9_take 134 = .ok (.aload_n 0, 1) := by decide +kernel
theorem dX9_take_135 : decode cX9_take 135 = .ok (.getfield 97, 3) := by decide +kernel
theorem dX9_take_138 : decode cX9_take 138 = .ok (.iload_n 3, 1) := by decide +kernel
theorem dX9_take_139 : decode cX9_take 139 = .ok (.laload, 1) := by decide +kernel
theorem dX9_take_140 : decode cX9_take 140 = .ok (.lastore, 1) := by decide +kernel
theorem dX9_take_141 : decode cX9_take 141 = .ok (.aload_n 0, 1) := by decide +kernel
theorem dX9_take_142 : decode cX9_take 142 = .ok (.getfield 115, 3) := by decide +kernel
theorem dX9_take_145 : decode cX9_take 145 = .ok (.iload 4, 2) := by decide +kernel
theorem dX9_take_147 : decode cX9_take 147 = .ok (.aload_n 0, 1) := by decide +kernel
theorem dX9_take_148 : decode cX9_take 148 = .ok (.getfield 100, 3) := by decide +kernel
theorem dX9_take_151 : decode cX9_take 151 = .ok (.iload_n 3, 1) := by decide +kernel
theorem dX9_take_152 : decode cX9_take 152 = .ok (.iaload, 1) := by decide +kernel
theorem dX9_take_153 : decode cX9_take 153 = .ok (.iastore, 1) := by decide +kernel
theorem dX9_take_154 : decode cX9_take 154 = .ok (.aload_n 0, 1) := by decide +kernel
theorem dX9_take_155 : decode cX9_take 155 = .ok (.getfield 118, 3) := by decide +kernel
theorem dX9_take_158 : decode cX9_take 158 = .ok (.iload 4, 2) := by decide +kernel
theorem dX9_take_160 : decode cX9_take 160 = .ok (.aload_n 0, 1) := by decide +kernel
theorem dX9_take_161 : decode cX9_take 161 = .ok (.getfield 103, 3) := by decide +kernel
theorem dX9_take_164 : decode cX9_take 164 = .ok (.iload_n 3, 1) := by decide +kernel
theorem dX9_take_165 : decode cX9_take 165 = .ok (.iaload, 1) := by decide +kernel
theorem dX9_take_166 : decode cX9_take 166 = .ok (.iastore, 1) := by decide +kernel
theorem dX9_take_167 : decode cX9_take 167 = .ok (.iinc 2 1, 3) := by decide +kernel
theorem dX9_take_170 : decode cX9_take 170 = .ok (.goto (-87), 3) := by decide +kernel
theorem dX9_take_173 : decode cX9_take 173 = .ok (.iconst 0, 1) := by decide +kernel
theorem dX9_take_174 : decode cX9_take 174 = .ok (.istore_n 2, 1) := by decide +kernel
theorem dX9_take_175 : decode cX9_take 175 = .ok (.iload_n 2, 1) := by decide +kernel
theorem dX9_take_176 : decode cX9_take 176 = .ok (.sipush 512, 3) := by decide +kernel
theorem dX9_take_179 : decode cX9_take 179 = .ok (.if_icmp .ge 27, 3) := by decide +kernel
theorem dX9_take_182 : decode cX9_take 182 = .ok (.aload_n 0, 1) := by decide +kernel
theorem dX9_take_183 : decode cX9_take 183 = .ok (.getfield 121, 3) := by decide +kernel
theorem dX9_take_186 : decode cX9_take 186 = .ok (.iload_n 2, 1) := by decide +kernel
theorem dX9_take_187 : decode cX9_take 187 = .ok (.aload_n 0, 1) := by decide +kernel
theorem dX9_take_188 : decode cX9_take 188 = .ok (.getfield 88, 3) := by decide +kernel
theorem dX9_take_191 : decode cX9_take 191 = .ok (.sipush 512, 3) := by decide +kernel
theorem dX9_take_194 : decode cX9_take 194 = .ok (.iload_n 1, 1) := by decide +kernel
theorem dX9_take_195 : decode cX9_take 195 = .ok (.imul, 1) := by decide +kernel
theorem dX9_take_196 : decode cX9_take 196 = .ok (.iload_n 2, 1) := by decide +kernel
theorem dX9_take_197 : decode cX9_take 197 = .ok (.iadd, 1) := by decide +kernel
theorem dX9_take_198 : decode cX9_take 198 = .ok (.baload, 1) := by decide +kernel
theorem dX9_take_199 : decode cX9_take 199 = .ok (.bastore, 1) := by decide +kernel
theorem dX9_take_200 : decode cX9_take 200 = .ok (.iinc 2 1, 3) := by decide +kernel
theorem dX9_take_203 : decode cX9_take 203 = .ok (.goto (-28), 3) := by decide +kernel
theorem dX9_take_206 : decode cX9_take 206 = .ok (.return_, 1) := by decide +kernel
theorem dX9_copy_0 : decode cX9_copy 0 = .ok (.iconst 0, 1) := by decide +kernel
theorem dX9_copy_1 : decode cX9_copy 1 = .ok (.istore_n 3, 1) := by decide +kernel
theorem dX9_copy_2 : decode cX9_copy 2 = .ok (.iload_n 3, 1) := by decide +kernel
theorem dX9_copy_3 : decode cX9_copy 3 = .ok (.bipush 75, 2) := by decide +kernel
theorem dX9_copy_5 : decode cX9_copy 5 = .ok (.if_icmp .ge 89, 3) := by decide +kernel
theorem dX9_copy_8 : decode cX9_copy 8 = .ok (.aload_n 0, 1) := by decide +kernel
theorem dX9_copy_9 : decode cX9_copy 9 = .ok (.getfield 106, 3) := by decide +kernel
theorem dX9_copy_12 : decode cX9_copy 12 = .ok (.iload_n 2, 1) := by decide +kernel
theorem dX9_copy_13 : decode cX9_copy 13 = .ok (.iload_n 3, 1) := by decide +kernel
theorem dX9_copy_14 : decode cX9_copy 14 = .ok (.iadd, 1) := by decide +kernel
theorem dX9_copy_15 : decode cX9_copy 15 = .ok (.aload_n 0, 1) := by decide +kernel
theorem dX9_copy_16 : decode cX9_copy 16 = .ok (.getfield 106, 3) := by decide +kernel
theorem dX9_copy_19 : decode cX9_copy 19 = .ok (.iload_n 1, 1) := by decide +kernel
theorem dX9_copy_20 : decode cX9_copy 20 = .ok (.iload_n 3, 1) := by decide +kernel
theorem dX9_copy_21 : decode cX9_copy 21 = .ok (.iadd, 1) := by decide +kernel
theorem dX9_copy_22 : decode cX9_copy 22 = .ok (.iaload, 1) := by decide +kernel
theorem dX9_copy_23 : decode cX9_copy 23 = .ok (.iastore, 1) := by decide +kernel
theorem dX9_copy_24 : decode cX9_copy 24 = .ok (.aload_n 0, 1) := by decide +kernel
theorem dX9_copy_25 : decode cX9_copy 25 = .ok (.getfield 109, 3) := by decide +kernel
theorem dX9_copy_28 : decode cX9_copy 28 = .ok (.iload_n 2, 1) := by decide +kernel
theorem dX9_copy_29 : decode cX9_copy 29 = .ok (.iload_n 3, 1) := by decide +kernel
theorem dX9_copy_30 : decode cX9_copy 30 = .ok (.iadd, 1) := by decide +kernel
theorem dX9_copy_31 : decode cX9_copy 31 = .ok (.aload_n 0, 1) := by decide +kernel
theorem dX9_copy_32 : decode cX9_copy 32 = .ok (.getfield 109, 3) := by decide +kernel
theorem dX9_copy_35 : decode cX9_copy 35 = .ok (.iload_n 1, 1) := by decide +kernel
theorem dX9_copy_36 : decode cX9_copy 36 = .ok (.iload_n 3, 1) := by decide +kernel
theorem dX9_copy_37 : decode cX9_copy 37 = .ok (.iadd, 1) := by decide +kernel
theorem dX9_copy_38 : decode cX9_copy 38 = .ok (.laload, 1) := by decide +kernel
theorem dX9_copy_39 : decode cX9_copy 39 = .ok (.lastore, 1) := by decide +kernel
theorem dX9_copy_40 : decode cX9_copy 40 = .ok (.aload_n 0, 1) := by decide +kernel
theorem dX9_copy_41 : decode cX9_copy 41 = .ok (.getfield 112, 3) := by decide +kernel
theorem dX9_copy_44 : decode cX9_copy 44 = .ok (.iload_n 2, 1) := by decide +kernel
theorem dX9_copy_45 : decode cX9_copy 45 = .ok (.iload_n 3, 1) := by decide +kernel
theorem dX9_copy_46 : decode cX9_copy 46 = .ok (.iadd, 1) := by decide +kernel
theorem dX9_copy_47 : decode cX9_copy 47 = .ok (.aload_n 0, 1) := by decide +kernel
theorem dX9_copy_48 : decode cX9_copy 48 = .ok (.getfield 112, 3) := by decide +kernel
theorem dX9_copy_51 : decode cX9_copy 51 = .ok (.iload_n 1, 1) := by decide +kernel
theorem dX9_copy_52 : decode cX9_copy 52 = .ok (.iload_n 3, 1) := by decide +kernel
theorem dX9_copy_53 : decode cX9_copy 53 = .ok (.iadd, 1) := by decide +kernel
theorem dX9_copy_54 : decode cX9_copy 54 = .ok (.laload, 1) := by decide +kernel
theorem dX9_copy_55 : decode cX9_copy 55 = .ok (.lastore, 1) := by decide +kernel
theorem dX9_copy_56 : decode cX9_copy 56 = .ok (.aload_n 0, 1) := by decide +kernel
theorem dX9_copy_57 : decode cX9_copy 57 = .ok (.getfield 115, 3) := by decide +kernel
theorem dX9_copy_60 : decode cX9_copy 60 = .ok (.iload_n 2, 1) := by decide +kernel
theorem dX9_copy_61 : decode cX9_copy 61 = .ok (.iload_n 3, 1) := by decide +kernel
theorem dX9_copy_62 : decode cX9_copy 62 = .ok (.iadd, 1) := by decide +kernel
theorem dX9_copy_63 : decode cX9_copy 63 = .ok (.aload_n 0, 1) := by decide +kernel
theorem dX9_copy_64 : decode cX9_copy 64 = .ok (.getfield 115, 3) := by decide +kernel
theorem dX9_copy_67 : decode cX9_copy 67 = .ok (.iload_n 1, 1) := by decide +kernel
theorem dX9_copy_68 : decode cX9_copy 68 = .ok (.iload_n 3, 1) := by decide +kernel
theorem dX9_copy_69 : decode cX9_copy 69 = .ok (.iadd, 1) := by decide +kernel
theorem dX9_copy_70 : decode cX9_copy 70 = .ok (.iaload, 1) := by decide +kernel
theorem dX9_copy_71 : decode cX9_copy 71 = .ok (.iastore, 1) := by decide +kernel
theorem dX9_copy_72 : decode cX9_copy 72 = .ok (.aload_n 0, 1) := by decide +kernel
theorem dX9_copy_73 : decode cX9_copy 73 = .ok (.getfield 118, 3) := by decide +kernel
theorem dX9_copy_76 : decode cX9_copy 76 = .ok (.iload_n 2, 1) := by decide +kernel
theorem dX9_copy_77 : decode cX9_copy 77 = .ok (.iload_n 3, 1) := by decide +kernel
theorem dX9_copy_78 : decode cX9_copy 78 = .ok (.iadd, 1) := by decide +kernel
theorem dX9_copy_79 : decode cX9_copy 79 = .ok (.aload_n 0, 1) := by decide +kernel
theorem dX9_copy_80 : decode cX9_copy 80 = .ok (.getfield 118, 3) := by decide +kernel
theorem dX9_copy_83 : decode cX9_copy 83 = .ok (.iload_n 1, 1) := by decide +kernel
theorem dX9_copy_84 : decode cX9_copy 84 = .ok (.iload_n 3, 1) := by decide +kernel
theorem dX9_copy_85 : decode cX9_copy 85 = .ok (.iadd, 1) := by decide +kernel
theorem dX9_copy_86 : decode cX9_copy 86 = .ok (.iaload, 1) := by decide +kernel
theorem dX9_copy_87 : decode cX9_copy 87 = .ok (.iastore, 1) := by decide +kernel
theorem dX9_copy_88 : decode cX9_copy 88 = .ok (.iinc 3 1, 3) := by decide +kernel
theorem dX9_copy_91 : decode cX9_copy 91 = .ok (.goto (-89), 3) := by decide +kernel
theorem dX9_copy_94 : decode cX9_copy 94 = .ok (.iload_n 1, 1) := by decide +kernel
theorem dX9_copy_95 : decode cX9_copy 95 = .ok (.ifCond .ne 7, 3) := by decide +kernel
theorem dX9_copy_98 : decode cX9_copy 98 = .ok (.iconst 0, 1) := by decide +kernel
theorem dX9_copy_99 : decode cX9_copy 99 = .ok (.goto 6, 3) := by decide +kernel
theorem dX9_copy_102 : decode cX9_copy 102 = .ok (.sipush 512, 3) := by decide +kernel
theorem dX9_copy_105 : decode cX9_copy 105 = .ok (.istore_n 3, 1) := by decide +kernel
theorem dX9_copy_106 : decode cX9_copy 106 = .ok (.iconst 0, 1) := by decide +kernel
theorem dX9_copy_107 : decode cX9_copy 107 = .ok (.istore 4, 2) := by decide +kernel
theorem dX9_copy_109 : decode cX9_copy 109 = .ok (.iload 4, 2) := by decide +kernel
theorem dX9_copy_111 : decode cX9_copy 111 = .ok (.sipush 512, 3) := by decide +kernel
theorem dX9_copy_114 : decode cX9_copy 114 = .ok (.if_icmp .ge 31, 3) := by decide +kernel
theorem dX9_copy_117 : decode cX9_copy 117 = .ok (.aload_n 0, 1) := by decide +kernel
theorem dX9_copy_118 : decode cX9_copy 118 = .ok (.getfield 121, 3) := by decide +kernel
theorem dX9_copy_121 : decode cX9_copy 121 = .ok (.sipush 512, 3) := by decide +kernel
theorem dX9_copy_124 : decode cX9_copy 124 = .ok (.iload_n 3, 1) := by decide +kernel
theorem dX9_copy_125 : decode cX9_copy 125 = .ok (.isub, 1) := by decide +kernel
theorem dX9_copy_126 : decode cX9_copy 126 = .ok (.iload 4, 2) := by decide +kernel
theorem dX9_copy_128 : decode cX9_copy 128 = .ok (.iadd, 1) := by decide +kernel
theorem dX9_copy_129 : decode cX9_copy 129 = .ok (.aload_n 0, 1) := by decide +kernel
theorem dX9_copy_130 : decode cX9_copy 130 = .ok (.getfield 121, 3) := by decide +kernel
theorem dX9_copy_133 : decode cX9_copy 133 = .ok (.iload_n 3, 1) := by decide +kernel
theorem dX9_copy_134 : decode cX9_copy 134 = .ok (.iload 4, 2) := by decide +kernel
theorem dX9_copy_136 : decode cX9_copy 136 = .ok (.iadd, 1) := by decide +kernel
theorem dX9_copy_137 : decode cX9_copy 137 = .ok (.baload, 1) := by decide +kernel
theorem dX9_copy_138 : decode cX9_copy 138 = .ok (.bastore, 1) := by decide +kernel
theorem dX9_copy_139 : decode cX9_copy 139 = .ok (.iinc 4 1, 3) := by decide +kernel
theorem dX9_copy_142 : decode cX9_copy 142 = .ok (.goto (-33), 3) := by decide +kernel
theorem dX9_copy_145 : decode cX9_copy 145 = .ok (.return_, 1) := by decide +kernel
theorem dX9_number_0 : decode cX9_number 0 = .ok (.aload_n 0, 1) := by decide +kernel
theorem dX9_number_1 : decode cX9_number 1 = .ok (.getfield 106, 3) := by decide +kernel
theorem dX9_number_4 : decode cX9_number 4 = .ok (.iload_n 1, 1) := by decide +kernel
theorem dX9_number_5 : decode cX9_number 5 = .ok (.iconst 1, 1) := by decide +kernel
theorem dX9_number_6 : decode cX9_number 6 = .ok (.iastore, 1) := by decide +kernel
theorem dX9_number_7 : decode cX9_number 7 = .ok (.aload_n 0, 1) := by decide +kernel
theorem dX9_number_8 : decode cX9_number 8 = .ok (.getfield 109, 3) := by decide +kernel
theorem dX9_number_11 : decode cX9_number 11 = .ok (.iload_n 1, 1) := by decide +kernel
theorem dX9_number_12 : decode cX9_number 12 = .ok (.lload_n 2, 1) := by decide +kernel
theorem dX9_number_13 : decode cX9_number 13 = .ok (.lastore, 1) := by decide +kernel
theorem dX9_number_14 : decode cX9_number 14 = .ok (.aload_n 0, 1) := by decide +kernel
theorem dX9_number_15 : decode cX9_number 15 = .ok (.getfield 112, 3) := by decide +kernel
theorem dX9_number_18 : decode cX9_number 18 = .ok (.iload_n 1, 1) := by decide +kernel
theorem dX9_number_19 : decode cX9_number 19 = .ok (.lload 4, 2) := by decide +kernel
theorem dX9_number_21 : decode cX9_number 21 = .ok (.lastore, 1) := by decide +kernel
theorem dX9_number_22 : decode cX9_number 22 = .ok (.aload_n 0, 1) := by decide +kernel
theorem dX9_number_23 : decode cX9_number 23 = .ok (.getfield 115, 3) := by decide +kernel
theorem dX9_number_26 : decode cX9_number 26 = .ok (.iload_n 1, 1) := by decide +kernel
theorem dX9_number_27 : decode cX9_number 27 = .ok (.iconst 0, 1) := by decide +kernel
theorem dX9_number_28 : decode cX9_number 28 = .ok (.iastore, 1) := by decide +kernel
theorem dX9_number_29 : decode cX9_number 29 = .ok (.aload_n 0, 1) := by decide +kernel
theorem dX9_number_30 : decode cX9_number 30 = .ok (.getfield 118, 3) := by decide +kernel
theorem dX9_number_33 : decode cX9_number 33 = .ok (.iload_n 1, 1) := by decide +kernel
theorem dX9_number_34 : decode cX9_number 34 = .ok (.iconst 0, 1) := by decide +kernel
theorem dX9_number_35 : decode cX9_number 35 = .ok (.iastore, 1) := by decide +kernel
theorem dX9_number_36 : decode cX9_number 36 = .ok (.return_, 1) := by decide +kernel
theorem dX9_forget_0 : decode cX9_forget 0 = .ok (.aload_n 0, 1) := by decide +kernel
theorem dX9_forget_1 : decode cX9_forget 1 = .ok (.getfield 106, 3) := by decide +kernel
theorem dX9_forget_4 : decode cX9_forget 4 = .ok (.iload_n 1, 1) := by decide +kernel
theorem dX9_forget_5 : decode cX9_forget 5 = .ok (.iconst 0, 1) := by decide +kernel
theorem dX9_forget_6 : decode cX9_forget 6 = .ok (.iastore, 1) := by decide +kernel
theorem dX9_forget_7 : decode cX9_forget 7 = .ok (.aload_n 0, 1) := by decide +kernel
theorem dX9_forget_8 : decode cX9_forget 8 = .ok (.getfield 109, 3) := by decide +kernel
theorem dX9_forget_11 : decode cX9_forget 11 = .ok (.iload_n 1, 1) := by decide +kernel
theorem dX9_forget_12 : decode cX9_forget 12 = .ok (.lconst 0, 1) := by decide +kernel
theorem dX9_forget_13 : decode cX9_forget 13 = .ok (.lastore, 1) := by decide +kernel
theorem dX9_forget_14 : decode cX9_forget 14 = .ok (.aload_n 0, 1) := by decide +kernel
theorem dX9_forget_15 : decode cX9_forget 15 = .ok (.getfield 112, 3) := by decide +kernel
theorem dX9_forget_18 : decode cX9_forget 18 = .ok (.iload_n 1, 1) := by decide +kernel
theorem dX9_forget_19 : decode cX9_forget 19 = .ok (.lconst 0, 1) := by decide +kernel
theorem dX9_forget_20 : decode cX9_forget 20 = .ok (.lastore, 1) := by decide +kernel
theorem dX9_forget_21 : decode cX9_forget 21 = .ok (.aload_n 0, 1) := by decide +kernel
theorem dX9_forget_22 : decode cX9_forget 22 = .ok (.getfield 115, 3) := by decide +kernel
theorem dX9_forget_25 : decode cX9_forget 25 = .ok (.iload_n 1, 1) := by decide +kernel
theorem dX9_forget_26 : decode cX9_forget 26 = .ok (.iconst 0, 1) := by decide +kernel
theorem dX9_forget_27 : decode cX9_forget 27 = .ok (.iastore, 1) := by decide +kernel
theorem dX9_forget_28 : decode cX9_forget 28 = .ok (.aload_n 0, 1) := by decide +kernel
theorem dX9_forget_29 : decode cX9_forget 29 = .ok (.getfield 118, 3) := by decide +kernel
theorem dX9_forget_32 : decode cX9_forget 32 = .ok (.iload_n 1, 1) := by decide +kernel
theorem dX9_forget_33 : decode cX9_forget 33 = .ok (.iconst 0, 1) := by decide +kernel
theorem dX9_forget_34 : decode cX9_forget 34 = .ok (.iastore, 1) := by decide +kernel
theorem dX9_forget_35 : decode cX9_forget 35 = .ok (.return_, 1) := by decide +kernel
-- JudgedCodeModel.once
def f_X9_once_348 (S : sh) (x4 : Int32) (os0 : Nat) (xs1 : Int32) (D : dt) : Option (Int32 × dt) := nm (pI D os0 19 xs1) fun D141 => if x4 = 0 then (some ((4 : Int32), D141)) else (some ((0 : Int32), D141))
def f_X9_once_334 (S : sh) (o0 : Nat) (x3 : Int32) (x4 : Int32) (D : dt) : Option (Int32 × dt) := if x4 = 0 then (f_X9_once_348 S x4 o0 (gI D o0 19) D) else (f_X9_once_348 S x4 o0 x3 D)
def f_X9_once_320 (S : sh) (o0 : Nat) (x3 : Int32) (os0 : Nat) (xs1 : Int32) (xs2 : Int32) (D : dt) : Option (Int32 × dt) := cq (f_X9_both S os0 xs1 xs2 D) fun r145 D146 => f_X9_once_334 S o0 x3 r145 D146
def f_X9_once_173 (S : sh) (o0 : Nat) (x4 : Int32) (xs0 : Int32) (D : dt) : Option (Int32 × dt) := f_X9_once_334 S o0 xs0 x4 D
def f_X9_once_206 (S : sh) (o0 : Nat) (x4 : Int32) (xs0 : Int32) (xs1 : Int32) (D : dt) : Option (Int32 × dt) := nm (xs0 + xs1) fun y147 => f_X9_once_334 S o0 y147 x4 D
def f_X9_once (S : sh) (o0 : Nat) (D : dt) : Option (Int32 × dt) := nm (gI D o0 19) fun y148 => pq (f_X9_in y148.toInt64 (0 : Int64) (((gI D o0 0) - (1 : Int32)).toInt64)) fun r150 => if r150 = 0 then (some ((5 : Int32), D)) else (cq (f_X9_widthOf S o0 y148 D) fun r153 D154 => nm (y148 + (1 : Int32)) fun y155 => nm ((1 : Int32)) fun y156 => cq (f_X9_kindOf S o0 y148 D154) fun r158 D159 => if r158 = 0 then (some ((3 : Int32), D159)) else if r158 = 1 then (rq (gR D159 o0 21) fun o162 => rq (gR D159 o0 2) fun o166 => ix y148 (sA S o166) <| rq (gR D159 o0 21) fun o171 => rq (gR D159 o0 2) fun o175 => ix y148 (sA S o175) <| ix (gI D159 o175 y148.toNatClampNeg) (sA S o171) <| cq (f_X9_second S o0 y148 D159) fun r182 D183 => cq (f_X9_reckon S o0 y148 (gL D159 o171 (gI D159 o175 y148.toNatClampNeg).toNatClampNeg) r182 D183) fun r185 D186 => ix (gI D159 o166 y148.toNatClampNeg) (sA S o162) <| nm (pL D186 o162 (gI D159 o166 y148.toNatClampNeg).toNatClampNeg r185) fun D188 => f_X9_once_334 S o0 y155 y156 D188) else if r158 = 2 then (rq (gR D159 o0 21) fun o190 => rq (gR D159 o0 2) fun o194 => ix y148 (sA S o194) <| ix (gI D159 o194 y148.toNatClampNeg) (sA S o190) <| cq (f_X9_second S o0 y148 D159) fun r201 D202 => cq (f_X9_jumps S o0 y148 (gL D159 o190 (gI D159 o194 y148.toNatClampNeg).toNatClampNeg) r201 D202) fun r204 D205 => if r204 = 0 then (f_X9_once_173 S o0 y156 y155 D205) else (rq (gR D205 o0 4) fun o207 => ix y148 (sA S o207) <| f_X9_once_173 S o0 y156 (y155 + (gI D205 o207 y148.toNatClampNeg)) D205)) else if r158 = 3 then (rq (gR D159 o0 1) fun o213 => ix y148 (sA S o213) <| if ((gI D159 o213 y148.toNatClampNeg) &&& (7 : Int32)) = (5 : Int32) then (rq (gR D159 o0 4) fun o224 => ix y148 (sA S o224) <| f_X9_once_206 S o0 y156 y155 (gI D159 o224 y148.toNatClampNeg) D159) else (rq (gR D159 o0 5) fun o219 => ix y148 (sA S o219) <| f_X9_once_206 S o0 y156 y155 (gI D159 o219 y148.toNatClampNeg) D159)) else if r158 = 4 then (nm (pI D159 o0 18 (2 : Int32)) fun D230 => f_X9_once_334 S o0 y148 y156 D230) else if r158 = 5 then (rq (gR D159 o0 5) fun o232 => ix y148 (sA S o232) <| cq (f_X9_call S o0 (gI D159 o232 y148.toNatClampNeg) D159) fun r238 D239 => f_X9_once_334 S o0 y155 r238 D239) else if r158 = 6 then (cq (f_X9_load S o0 y148 r153 (0 : Int32) D159) fun r242 D243 => f_X9_once_334 S o0 y155 r242 D243) else if r158 = 7 then (cq (f_X9_load S o0 y148 r153 (1 : Int32) D159) fun r246 D247 => f_X9_once_334 S o0 y155 r246 D247) else if r158 = 8 then (rq (gR D159 o0 5) fun o249 => ix y148 (sA S o249) <| cq (f_X9_put S o0 y148 r153 ((gI D159 o249 y148.toNatClampNeg).toInt64) D159) fun r255 D256 => f_X9_once_334 S o0 y155 r255 D256) else if r158 = 9 then (rq (gR D159 o0 21) fun o258 => rq (gR D159 o0 3) fun o262 => ix y148 (sA S o262) <| ix (gI D159 o262 y148.toNatClampNeg) (sA S o258) <| cq (f_X9_put S o0 y148 r153 (gL D159 o258 (gI D159 o262 y148.toNatClampNeg).toNatClampNeg) D159) fun r269 D270 => f_X9_once_334 S o0 y155 r269 D270) else if r158 = 10 then (rq (gR D159 o0 1) fun o272 => ix y148 (sA S o272) <| if (gI D159 o272 y148.toNatClampNeg) = (219 : Int32) then (f_X9_once_320 S o0 y155 o0 y148 (8 : Int32) D159) else (f_X9_once_320 S o0 y155 o0 y148 (4 : Int32) D159)) else (cq (f_X9_wide S o0 y148 D159) fun r279 D280 => some (r279, D280)))
-- JudgedCodeModel.step
def f_X9_step_50 (S : sh) (o0 : Nat) (os0 : Nat) (xs1 : Int32) (D : dt) : Option (Int32 × dt) := nm (pI D os0 20 xs1) fun D9 => some ((gI D9 o0 18), D9)
def f_X9_step_29 (S : sh) (o0 : Nat) (x1 : Int32) (os0 : Nat) (xs1 : Int32) (D : dt) : Option (Int32 × dt) := nm (pI D os0 18 xs1) fun D10 => if x1 ≤ 0 then (f_X9_step_50 S o0 o0 ((gI D10 o0 20) + (1 : Int32)) D10) else (f_X9_step_50 S o0 o0 (gI D10 o0 20) D10)
def f_X9_step (S : sh) (o0 : Nat) (D : dt) : Option (Int32 × dt) := if (gI D o0 18) = (1 : Int32) then (cq (f_X9_once S o0 D) fun r14 D15 => if r14 ≤ 0 then (f_X9_step_29 S o0 r14 o0 (gI D15 o0 18) D15) else (f_X9_step_29 S o0 r14 o0 r14 D15)) else (some ((-3 : Int32), D))
-- JudgedCodeModel.run
def f_X9_run_57 (S : sh) (o0 : Nat) (D : dt) : Option (Int32 × dt) := some ((gI D o0 18), D)
def f_X9_run_28 (S : sh) : Nat → Nat → Int32 → Int32 → dt → Option (Int32 × dt)
  | 0, _, _, _, _ => none
  | n + 1, o0, x1, x2, D => if x1 ≤ x2 then (f_X9_run_57 S o0 D) else (if (gI D o0 18) = (1 : Int32) then (cq (f_X9_step S o0 D) fun r16 D17 => nm (pI D17 o0 18 r16) fun D18 => nm (x2 + 1) fun y19 => f_X9_run_28 S n o0 x1 y19 D18) else (f_X9_run_57 S o0 D))
def f_X9_run (S : sh) (o0 : Nat) (x1 : Int32) (D : dt) : Option (Int32 × dt) := pq (f_X9_in x1.toInt64 (0 : Int64) (10000 : Int64)) fun r21 => if r21 = 0 then (some ((-2 : Int32), D)) else (if (gI D o0 18) = (1 : Int32) then (nm ((0 : Int32)) fun y24 => f_X9_run_28 S LF o0 x1 y24 D) else (some ((-3 : Int32), D)))
-- JudgedCodeModel.context
def f_X9_context_36 (S : sh) : Nat → Nat → Int32 → Int32 → Int32 → dt → Option (Int32 × dt)
  | 0, _, _, _, _, _ => none
  | n + 1, o0, x1, x2, x3, D => if x1 ≤ x3 then (nm (pI D o0 7 x1) fun D17 => some (x2, D17)) else (rq (gR D o0 6) fun o18 => ix x3 (sA S o18) <| nm (pI D o18 x3.toNatClampNeg (0 : Int32)) fun D23 => nm (x3 + 1) fun y24 => f_X9_context_36 S n o0 x1 x2 y24 D23)
def f_X9_context (S : sh) (o0 : Nat) (x1 : Int32) (D : dt) : Option (Int32 × dt) := pq (f_X9_in x1.toInt64 (0 : Int64) (256 : Int64)) fun r26 => if r26 = 0 then (some ((-2 : Int32), D)) else (if (gI D o0 18) = (1 : Int32) then (some ((-3 : Int32), D)) else (nm (gI D o0 7) fun y29 => nm (gI D o0 7) fun y30 => f_X9_context_36 S LF o0 x1 y29 y30 D))
-- JudgedCodeModel.poke
def f_X9_poke (S : sh) (o0 : Nat) (x1 : Int32) (x2 : Int32) (D : dt) : Option (Int32 × dt) := pq (f_X9_in x1.toInt64 (0 : Int64) (((gI D o0 7) - (1 : Int32)).toInt64)) fun r21 => if r21 = 0 then (some ((-1 : Int32), D)) else (pq (f_X9_in x2.toInt64 (0 : Int64) (255 : Int64)) fun r24 => if r24 = 0 then (some ((-2 : Int32), D)) else (if (gI D o0 18) = (1 : Int32) then (some ((-3 : Int32), D)) else (rq (gR D o0 6) fun o27 => ix x1 (sA S o27) <| nm (gI D o27 x1.toNatClampNeg) fun y32 => rq (gR D o0 6) fun o33 => ix x1 (sA S o33) <| nm (pI D o33 x1.toNatClampNeg x2) fun D38 => some (y32, D38))))
-- JudgedCodeModel.tick
def f_X9_tick_19 (S : sh) (D : dt) : Option (Int64 × dt) := some ((-2 : Int64), D)
def f_X9_tick (S : sh) (o0 : Nat) (x1 : Int64) (D : dt) : Option (Int64 × dt) := if (lg_cmp x1 (0 : Int64)) < 0 then (f_X9_tick_19 S D) else (if (lg_cmp x1 ((4611686018427387904 : Int64) - (gL D o0 17))) ≤ 0 then (nm (pL D o0 17 ((gL D o0 17) + x1)) fun D6 => some ((gL D6 o0 17), D6)) else (f_X9_tick_19 S D))
-- JudgedCodeModel.told
def f_X9_told (S : sh) (o0 : Nat) (x1 : Int32) (D : dt) : Option (Int32 × dt) := if x1 = 0 then (some ((gI D o0 18), D)) else if x1 = 1 then (some ((gI D o0 19), D)) else if x1 = 2 then (some ((gI D o0 20), D)) else if x1 = 3 then (some ((gI D o0 0), D)) else if x1 = 4 then (some ((gI D o0 9), D)) else if x1 = 5 then (some ((gI D o0 22), D)) else (some ((-2 : Int32), D))
-- JudgedCodeModel.register
def f_X9_register (S : sh) (o0 : Nat) (x1 : Int32) (D : dt) : Option (Int64 × dt) := pq (f_X9_in x1.toInt64 (0 : Int64) (10 : Int64)) fun r10 => if r10 = 0 then (some ((0 : Int64), D)) else (rq (gR D o0 21) fun o12 => ix x1 (sA S o12) <| some ((gL D o12 x1.toNatClampNeg), D))
-- JudgedCodeModel.putAt
def f_X9_putAt_18 (S : sh) (o0 : Nat) (x1 : Int32) (xs0 : Int32) (D : dt) : Option (Int64 × dt) := pq (f_X9_in x1.toInt64 (0 : Int64) ((xs0 - (1 : Int32)).toInt64)) fun r11 => if r11 = 0 then (some ((0 : Int64), D)) else (rq (gR D o0 23) fun o13 => ix ((((gI D o0 22) - xs0) + x1) - (((gI D o0 22) - xs0) + x1) / (32 : Int32) * (32 : Int32)) (sA S o13) <| some ((gL D o13 ((((gI D o0 22) - xs0) + x1) - (((gI D o0 22) - xs0) + x1) / (32 : Int32) * (32 : Int32)).toNatClampNeg), D))
def f_X9_putAt (S : sh) (o0 : Nat) (x1 : Int32) (D : dt) : Option (Int64 × dt) := if (32 : Int32) ≤ (gI D o0 22) then (f_X9_putAt_18 S o0 x1 (32 : Int32) D) else (f_X9_putAt_18 S o0 x1 (gI D o0 22) D)
-- JudgedCodeModel.take
def f_X9_take_175 (S : sh) : Nat → Nat → Int32 → Int32 → dt → Option (Unit × dt)
  | 0, _, _, _, _ => none
  | n + 1, o0, x1, x2, D => if (512 : Int32) ≤ x2 then (some ((), D)) else (rq (gR D o0 45) fun o135 => rq (gR D o0 34) fun o139 => ix (((512 : Int32) * x1) + x2) (sA S o139) <| ix x2 (sA S o135) <| nm (pI D o135 x2.toNatClampNeg (vp_nar .boolean (gI D o139 (((512 : Int32) * x1) + x2).toNatClampNeg))) fun D145 => nm (x2 + 1) fun y146 => f_X9_take_175 S n o0 x1 y146 D145)
def f_X9_take_83 (S : sh) : Nat → Nat → Int32 → Int32 → dt → Option (Unit × dt)
  | 0, _, _, _, _ => none
  | n + 1, o0, x1, x2, D => if (64 : Int32) ≤ x2 then (nm ((0 : Int32)) fun y148 => f_X9_take_175 S LF o0 x1 y148 D) else (nm (((64 : Int32) * x1) + x2) fun y149 => nm ((11 : Int32) + x2) fun y150 => rq (gR D o0 40) fun o151 => rq (gR D o0 35) fun o155 => ix y149 (sA S o155) <| ix y150 (sA S o151) <| nm (pI D o151 y150.toNatClampNeg (gI D o155 y149.toNatClampNeg)) fun D161 => rq (gR D161 o0 41) fun o162 => rq (gR D161 o0 36) fun o166 => ix y149 (sA S o166) <| ix y150 (sA S o162) <| nm (pL D161 o162 y150.toNatClampNeg (gL D161 o166 y149.toNatClampNeg)) fun D172 => rq (gR D172 o0 42) fun o173 => rq (gR D172 o0 37) fun o177 => ix y149 (sA S o177) <| ix y150 (sA S o173) <| nm (pL D172 o173 y150.toNatClampNeg (gL D172 o177 y149.toNatClampNeg)) fun D183 => rq (gR D183 o0 43) fun o184 => rq (gR D183 o0 38) fun o188 => ix y149 (sA S o188) <| ix y150 (sA S o184) <| nm (pI D183 o184 y150.toNatClampNeg (gI D183 o188 y149.toNatClampNeg)) fun D194 => rq (gR D194 o0 44) fun o195 => rq (gR D194 o0 39) fun o199 => ix y149 (sA S o199) <| ix y150 (sA S o195) <| nm (pI D194 o195 y150.toNatClampNeg (gI D194 o199 y149.toNatClampNeg)) fun D205 => nm (x2 + 1) fun y206 => f_X9_take_83 S n o0 x1 y206 D205)
def f_X9_take_2 (S : sh) : Nat → Nat → Int32 → Int32 → dt → Option (Unit × dt)
  | 0, _, _, _, _ => none
  | n + 1, o0, x1, x2, D => if (11 : Int32) ≤ x2 then (nm ((0 : Int32)) fun y208 => f_X9_take_83 S LF o0 x1 y208 D) else (nm (((11 : Int32) * x1) + x2) fun y209 => rq (gR D o0 40) fun o210 => rq (gR D o0 29) fun o214 => ix y209 (sA S o214) <| ix x2 (sA S o210) <| nm (pI D o210 x2.toNatClampNeg (gI D o214 y209.toNatClampNeg)) fun D220 => rq (gR D220 o0 41) fun o221 => rq (gR D220 o0 30) fun o225 => ix y209 (sA S o225) <| ix x2 (sA S o221) <| nm (pL D220 o221 x2.toNatClampNeg (gL D220 o225 y209.toNatClampNeg)) fun D231 => rq (gR D231 o0 42) fun o232 => rq (gR D231 o0 31) fun o236 => ix y209 (sA S o236) <| ix x2 (sA S o232) <| nm (pL D231 o232 x2.toNatClampNeg (gL D231 o236 y209.toNatClampNeg)) fun D242 => rq (gR D242 o0 43) fun o243 => rq (gR D242 o0 32) fun o247 => ix y209 (sA S o247) <| ix x2 (sA S o243) <| nm (pI D242 o243 x2.toNatClampNeg (gI D242 o247 y209.toNatClampNeg)) fun D253 => rq (gR D253 o0 44) fun o254 => rq (gR D253 o0 33) fun o258 => ix y209 (sA S o258) <| ix x2 (sA S o254) <| nm (pI D253 o254 x2.toNatClampNeg (gI D253 o258 y209.toNatClampNeg)) fun D264 => nm (x2 + 1) fun y265 => f_X9_take_2 S n o0 x1 y265 D264)
def f_X9_take (S : sh) (o0 : Nat) (x1 : Int32) (D : dt) : Option (Unit × dt) := nm ((0 : Int32)) fun y266 => f_X9_take_2 S LF o0 x1 y266 D
-- JudgedCodeModel.copy
def f_X9_copy_109 (S : sh) : Nat → Nat → Int32 → Int32 → dt → Option (Unit × dt)
  | 0, _, _, _, _ => none
  | n + 1, o0, x3, x4, D => if (512 : Int32) ≤ x4 then (some ((), D)) else (rq (gR D o0 45) fun o75 => rq (gR D o0 45) fun o79 => ix (x3 + x4) (sA S o79) <| ix (((512 : Int32) - x3) + x4) (sA S o75) <| nm (pI D o75 (((512 : Int32) - x3) + x4).toNatClampNeg (vp_nar .boolean (gI D o79 (x3 + x4).toNatClampNeg))) fun D85 => nm (x4 + 1) fun y86 => f_X9_copy_109 S n o0 x3 y86 D85)
def f_X9_copy_105 (S : sh) (o0 : Nat) (xs0 : Int32) (D : dt) : Option (Unit × dt) := nm ((0 : Int32)) fun y87 => f_X9_copy_109 S LF o0 xs0 y87 D
def f_X9_copy_2 (S : sh) : Nat → Nat → Int32 → Int32 → Int32 → dt → Option (Unit × dt)
  | 0, _, _, _, _, _ => none
  | n + 1, o0, x1, x2, x3, D => if (75 : Int32) ≤ x3 then (if x1 = 0 then (f_X9_copy_105 S o0 (0 : Int32) D) else (f_X9_copy_105 S o0 (512 : Int32) D)) else (rq (gR D o0 40) fun o90 => rq (gR D o0 40) fun o94 => ix (x1 + x3) (sA S o94) <| ix (x2 + x3) (sA S o90) <| nm (pI D o90 (x2 + x3).toNatClampNeg (gI D o94 (x1 + x3).toNatClampNeg)) fun D100 => rq (gR D100 o0 41) fun o101 => rq (gR D100 o0 41) fun o105 => ix (x1 + x3) (sA S o105) <| ix (x2 + x3) (sA S o101) <| nm (pL D100 o101 (x2 + x3).toNatClampNeg (gL D100 o105 (x1 + x3).toNatClampNeg)) fun D111 => rq (gR D111 o0 42) fun o112 => rq (gR D111 o0 42) fun o116 => ix (x1 + x3) (sA S o116) <| ix (x2 + x3) (sA S o112) <| nm (pL D111 o112 (x2 + x3).toNatClampNeg (gL D111 o116 (x1 + x3).toNatClampNeg)) fun D122 => rq (gR D122 o0 43) fun o123 => rq (gR D122 o0 43) fun o127 => ix (x1 + x3) (sA S o127) <| ix (x2 + x3) (sA S o123) <| nm (pI D122 o123 (x2 + x3).toNatClampNeg (gI D122 o127 (x1 + x3).toNatClampNeg)) fun D133 => rq (gR D133 o0 44) fun o134 => rq (gR D133 o0 44) fun o138 => ix (x1 + x3) (sA S o138) <| ix (x2 + x3) (sA S o134) <| nm (pI D133 o134 (x2 + x3).toNatClampNeg (gI D133 o138 (x1 + x3).toNatClampNeg)) fun D144 => nm (x3 + 1) fun y145 => f_X9_copy_2 S n o0 x1 x2 y145 D144)
def f_X9_copy (S : sh) (o0 : Nat) (x1 : Int32) (x2 : Int32) (D : dt) : Option (Unit × dt) := nm ((0 : Int32)) fun y146 => f_X9_copy_2 S LF o0 x1 x2 y146 D
-- JudgedCodeModel.number
def f_X9_number (S : sh) (o0 : Nat) (x1 : Int32) (x2 : Int64) (x4 : Int64) (D : dt) : Option (Unit × dt) := rq (gR D o0 40) fun o31 => ix x1 (sA S o31) <| nm (pI D o31 x1.toNatClampNeg (1 : Int32)) fun D36 => rq (gR D36 o0 41) fun o37 => ix x1 (sA S o37) <| nm (pL D36 o37 x1.toNatClampNeg x2) fun D42 => rq (gR D42 o0 42) fun o43 => ix x1 (sA S o43) <| nm (pL D42 o43 x1.toNatClampNeg x4) fun D48 => rq (gR D48 o0 43) fun o49 => ix x1 (sA S o49) <| nm (pI D48 o49 x1.toNatClampNeg (0 : Int32)) fun D54 => rq (gR D54 o0 44) fun o55 => ix x1 (sA S o55) <| nm (pI D54 o55 x1.toNatClampNeg (0 : Int32)) fun D60 => some ((), D60)
-- JudgedCodeModel.forget
def f_X9_forget (S : sh) (o0 : Nat) (x1 : Int32) (D : dt) : Option (Unit × dt) := rq (gR D o0 40) fun o31 => ix x1 (sA S o31) <| nm (pI D o31 x1.toNatClampNeg (0 : Int32)) fun D36 => rq (gR D36 o0 41) fun o37 => ix x1 (sA S o37) <| nm (pL D36 o37 x1.toNatClampNeg (0 : Int64)) fun D42 => rq (gR D42 o0 42) fun o43 => ix x1 (sA S o43) <| nm (pL D42 o43 x1.toNatClampNeg (0 : Int64)) fun D48 => rq (gR D48 o0 43) fun o49 => ix x1 (sA S o49) <| nm (pI D48 o49 x1.toNatClampNeg (0 : Int32)) fun D54 => rq (gR D54 o0 44) fun o55 => ix x1 (sA S o55) <| nm (pI D54 o55 x1.toNatClampNeg (0 : Int32)) fun D60 => some ((), D60)
theorem mk_X9_once : MkV yX9_once RX9 cX9_once 5 (some .int) 0 := ⟨⟨lk_1303, lk_63, lk_121, (tb_in (i := 1304) (by decide +kernel) (by decide +kernel))⟩, by decide +kernel⟩
theorem mk_X9_step : MkV yX9_step RX9 cX9_step 2 (some .int) 0 := ⟨⟨lk_1298, lk_1299, lk_121, (tb_in (i := 1300) (by decide +kernel) (by decide +kernel))⟩, by decide +kernel⟩
theorem mk_X9_run : MkV yX9_run RX9 cX9_run 4 (some .int) 1 := ⟨⟨lk_1414, lk_1415, lk_121, (tb_in (i := 1416) (by decide +kernel) (by decide +kernel))⟩, by decide +kernel⟩
theorem mk_X9_context : MkV yX9_context RX9 cX9_context 4 (some .int) 1 := ⟨⟨lk_1420, lk_1421, lk_121, (tb_in (i := 1422) (by decide +kernel) (by decide +kernel))⟩, by decide +kernel⟩
theorem mk_X9_poke : MkV yX9_poke RX9 cX9_poke 4 (some .int) 2 := ⟨⟨lk_1425, lk_1426, lk_121, (tb_in (i := 1427) (by decide +kernel) (by decide +kernel))⟩, by decide +kernel⟩
theorem mk_X9_tick : MkV yX9_tick RX9 cX9_tick 3 (some .long) 1 := ⟨⟨lk_1429, lk_1430, lk_121, (tb_in (i := 1431) (by decide +kernel) (by decide +kernel))⟩, by decide +kernel⟩
theorem mk_X9_told : MkV yX9_told RX9 cX9_told 2 (some .int) 1 := ⟨⟨lk_1435, lk_1436, lk_121, (tb_in (i := 1437) (by decide +kernel) (by decide +kernel))⟩, by decide +kernel⟩
theorem mk_X9_register : MkV yX9_register RX9 cX9_register 2 (some .long) 1 := ⟨⟨lk_1439, lk_1440, lk_121, (tb_in (i := 1441) (by decide +kernel) (by decide +kernel))⟩, by decide +kernel⟩
theorem mk_X9_putAt : MkV yX9_putAt RX9 cX9_putAt 3 (some .long) 1 := ⟨⟨lk_1444, lk_1445, lk_121, (tb_in (i := 1446) (by decide +kernel) (by decide +kernel))⟩, by decide +kernel⟩
theorem mk_X9_take : MkV yX9_take RX9 cX9_take 5 none 1 := ⟨⟨lk_1471, lk_88, lk_121, (tb_in (i := 1472) (by decide +kernel) (by decide +kernel))⟩, by decide +kernel⟩
theorem mk_X9_copy : MkV yX9_copy RX9 cX9_copy 5 none 2 := ⟨⟨lk_1530, lk_100, lk_121, (tb_in (i := 1531) (by decide +kernel) (by decide +kernel))⟩, by decide +kernel⟩
theorem mk_X9_number : MkV yX9_number RX9 cX9_number 6 none 3 := ⟨⟨lk_1495, lk_94, lk_121, (tb_in (i := 1496) (by decide +kernel) (by decide +kernel))⟩, by decide +kernel⟩
theorem mk_X9_forget : MkV yX9_forget RX9 cX9_forget 2 none 1 := ⟨⟨lk_1453, lk_85, lk_121, (tb_in (i := 1454) (by decide +kernel) (by decide +kernel))⟩, by decide +kernel⟩
section
variable {p : Program} {l : Launch} {e : Env} {R : Room} {s : State} {m : MethodId} {args : Array Value} {below : List Frame} {meth : Method} {c : Code} {H : Heap} {locs : List Loc} {G : va_G} {cA : Nat → ClassId} {S : sh} {D : dt} {ad : Nat → Nat} {A : Nat → Prop}
set_option maxHeartbeats 4000000 in
set_option maxRecDepth 100000 in
theorem w_X9_once_348 {r : Int32} {D' : dt} (hC : Cx RX9 cX9_once 5 (some .int) p s m args meth c) (hR : 5 ≤ R.frames ∧ 139 ≤ R.locals) : ∀ (x4 : Int32) (os0 as0 : Nat) (xs1 : Int32) (D : dt) (H : Heap) (locs : List Loc) (ls : Array Slot), Is S ad os0 as0 8 → Wd G cA S D ad A s H locs → lv_has ls 5 [(4, .int x4)] → f_X9_once_348 S x4 os0 xs1 D = some (r, D') → W p l e R s m args below meth c H locs 0 0 (MQ below (Qn (some (.int r)) True (wpost G cA S D' ad A) A) args s 0 0 A) (F0 m 348 ls [.int xs1, .ref as0]) := by
  obtain ⟨hx, hb, -⟩ := id hC
  intro x4 os0 as0 xs1 D H locs ls his0 hw hl h
  unfold f_X9_once_348 at h
  refine r_pI hC hw kc_8 his0 19 rfl lk_1088 rfl rfl rfl dX9_once_348 (fun D141 eD141 H locs hw => ?_)
  have h := nm_i h D141 eD141
  refine lv_iload hx hb dX9_once_351 (lv_at hl 0 rfl) ?_
  refine lv_if_eq (tgt := 360) hx hb dX9_once_353 (by decide) (fun c142 => ?_) (fun c142 => ?_)
  · have h := i_yes c142 h
    refine lv_iconst (v := 4) hx hb dX9_once_360 (by decide) ?_
    cases h
    exact r_iret hC hw dX9_once_361
  · have h := i_no c142 h
    refine lv_iconst (v := 0) hx hb dX9_once_356 (by decide) ?_
    refine lv_goto (tgt := 361) hx hb dX9_once_357 (by decide) ?_
    cases h
    exact r_iret hC hw dX9_once_361
set_option maxHeartbeats 4000000 in
set_option maxRecDepth 100000 in
theorem w_X9_once_334 {r : Int32} {D' : dt} (hC : Cx RX9 cX9_once 5 (some .int) p s m args meth c) (hR : 5 ≤ R.frames ∧ 139 ≤ R.locals) : ∀ (o0 a0 : Nat) (x3 : Int32) (x4 : Int32) (D : dt) (H : Heap) (locs : List Loc) (ls : Array Slot), Is S ad o0 a0 8 → Wd G cA S D ad A s H locs → lv_has ls 5 [(0, .ref a0), (3, .int x3), (4, .int x4)] → f_X9_once_334 S o0 x3 x4 D = some (r, D') → W p l e R s m args below meth c H locs 0 0 (MQ below (Qn (some (.int r)) True (wpost G cA S D' ad A) A) args s 0 0 A) (F0 m 334 ls []) := by
  obtain ⟨hx, hb, -⟩ := id hC
  intro o0 a0 x3 x4 D H locs ls hi0 hw hl h
  unfold f_X9_once_334 at h
  refine lv_aload_n hx hb dX9_once_334 rfl (lv_at hl 0 rfl) ?_
  refine lv_iload hx hb dX9_once_335 (lv_at hl 2 rfl) ?_
  refine lv_if_eq (tgt := 344) hx hb dX9_once_337 (by decide) (fun c143 => ?_) (fun c143 => ?_)
  · have h := i_yes c143 h
    refine lv_aload_n hx hb dX9_once_344 rfl (lv_at hl 0 rfl) ?_
    refine r_gI hC hw kc_8 hi0 19 rfl lk_1088 dX9_once_345 ?_
    exact w_X9_once_348 hC hR x4 o0 a0 (gI D o0 19) _ _ _ _ hi0 hw (lv_sub hl [2] rfl) h
  · have h := i_no c143 h
    refine lv_iload_n hx hb dX9_once_340 rfl (lv_at hl 1 rfl) ?_
    refine lv_goto (tgt := 348) hx hb dX9_once_341 (by decide) ?_
    exact w_X9_once_348 hC hR x4 o0 a0 x3 _ _ _ _ hi0 hw (lv_sub hl [2] rfl) h
set_option maxHeartbeats 4000000 in
set_option maxRecDepth 100000 in
theorem w_X9_once_320 {r : Int32} {D' : dt} (hC : Cx RX9 cX9_once 5 (some .int) p s m args meth c) (hR : 5 ≤ R.frames ∧ 139 ≤ R.locals) : ∀ (o0 a0 : Nat) (x3 : Int32) (os0 as0 : Nat) (xs1 : Int32) (xs2 : Int32) (D : dt) (H : Heap) (locs : List Loc) (ls : Array Slot), Is S ad o0 a0 8 → Is S ad os0 as0 8 → Wd G cA S D ad A s H locs → lv_has ls 5 [(0, .ref a0), (3, .int x3)] → f_X9_once_320 S o0 x3 os0 xs1 xs2 D = some (r, D') → W p l e R s m args below meth c H locs 0 0 (MQ below (Qn (some (.int r)) True (wpost G cA S D' ad A) A) args s 0 0 A) (F0 m 320 ls [.int xs2, .int xs1, .ref as0]) := by
  obtain ⟨hx, hb, -⟩ := id hC
  intro o0 a0 x3 os0 as0 xs1 xs2 D H locs ls hi0 his0 hw hl h
  unfold f_X9_once_320 at h
  obtain ⟨r145, D146, hq144, h⟩ := cq_i h
  refine r_cV (st' := [.int r145]) [.int xs1, .int xs2] [] hC hw kc_8 his0 (k_X9_both _ his0 hq144) mk_X9_both lk_1401 ⟨Nat.le_trans (by decide) hR.1, Nat.le_trans (by decide) hR.2⟩ ⟨Nat.zero_le _, Nat.zero_le _⟩ rfl hl.1 rfl rfl (Nat.le_of_ble_eq_true rfl) dX9_once_320 (fun hP H locs hw => ?_)
  refine lv_istore (lv' := [(4, .int r145), (0, .ref a0), (3, .int x3)]) hx hb dX9_once_323 hl (by decide) rfl (fun ls hl => ?_)
  refine lv_goto (tgt := 334) hx hb dX9_once_325 (by decide) ?_
  exact w_X9_once_334 hC hR o0 a0 x3 r145 _ _ _ _ hi0 hw (lv_sub hl [1, 2, 0] rfl) h
set_option maxHeartbeats 4000000 in
set_option maxRecDepth 100000 in
theorem w_X9_once_173 {r : Int32} {D' : dt} (hC : Cx RX9 cX9_once 5 (some .int) p s m args meth c) (hR : 5 ≤ R.frames ∧ 139 ≤ R.locals) : ∀ (o0 a0 : Nat) (x4 : Int32) (xs0 : Int32) (D : dt) (H : Heap) (locs : List Loc) (ls : Array Slot), Is S ad o0 a0 8 → Wd G cA S D ad A s H locs → lv_has ls 5 [(0, .ref a0), (4, .int x4)] → f_X9_once_173 S o0 x4 xs0 D = some (r, D') → W p l e R s m args below meth c H locs 0 0 (MQ below (Qn (some (.int r)) True (wpost G cA S D' ad A) A) args s 0 0 A) (F0 m 173 ls [.int xs0]) := by
  obtain ⟨hx, hb, -⟩ := id hC
  intro o0 a0 x4 xs0 D H locs ls hi0 hw hl h
  unfold f_X9_once_173 at h
  refine lv_istore_n (lv' := [(3, .int xs0), (0, .ref a0), (4, .int x4)]) hx hb dX9_once_173 rfl hl (by decide) rfl (fun ls hl => ?_)
  refine lv_goto (tgt := 334) hx hb dX9_once_174 (by decide) ?_
  exact w_X9_once_334 hC hR o0 a0 xs0 x4 _ _ _ _ hi0 hw (lv_sub hl [1, 0, 2] rfl) h
set_option maxHeartbeats 4000000 in
set_option maxRecDepth 100000 in
theorem w_X9_once_206 {r : Int32} {D' : dt} (hC : Cx RX9 cX9_once 5 (some .int) p s m args meth c) (hR : 5 ≤ R.frames ∧ 139 ≤ R.locals) : ∀ (o0 a0 : Nat) (x4 : Int32) (xs0 : Int32) (xs1 : Int32) (D : dt) (H : Heap) (locs : List Loc) (ls : Array Slot), Is S ad o0 a0 8 → Wd G cA S D ad A s H locs → lv_has ls 5 [(0, .ref a0), (4, .int x4)] → f_X9_once_206 S o0 x4 xs0 xs1 D = some (r, D') → W p l e R s m args below meth c H locs 0 0 (MQ below (Qn (some (.int r)) True (wpost G cA S D' ad A) A) args s 0 0 A) (F0 m 206 ls [.int xs1, .int xs0]) := by
  obtain ⟨hx, hb, -⟩ := id hC
  intro o0 a0 x4 xs0 xs1 D H locs ls hi0 hw hl h
  unfold f_X9_once_206 at h
  refine lv_iadd hx hb dX9_once_206 ?_
  refine lv_topi (fun y147 ey147 => ?_)
  have h := nm_i h y147 ey147
  refine lv_istore_n (lv' := [(3, .int y147), (0, .ref a0), (4, .int x4)]) hx hb dX9_once_207 rfl hl (by decide) rfl (fun ls hl => ?_)
  refine lv_goto (tgt := 334) hx hb dX9_once_208 (by decide) ?_
  exact w_X9_once_334 hC hR o0 a0 y147 x4 _ _ _ _ hi0 hw (lv_sub hl [1, 0, 2] rfl) h
set_option maxHeartbeats 4000000 in
set_option maxRecDepth 100000 in
theorem w_X9_once_0 {r : Int32} {D' : dt} (hC : Cx RX9 cX9_once 5 (some .int) p s m args meth c) (hR : 5 ≤ R.frames ∧ 139 ≤ R.locals) : ∀ (o0 a0 : Nat) (D : dt) (H : Heap) (locs : List Loc) (ls : Array Slot), Is S ad o0 a0 8 → Wd G cA S D ad A s H locs → lv_has ls 5 [(0, .ref a0)] → f_X9_once S o0 D = some (r, D') → W p l e R s m args below meth c H locs 0 0 (MQ below (Qn (some (.int r)) True (wpost G cA S D' ad A) A) args s 0 0 A) (F0 m 0 ls []) := by
  obtain ⟨hx, hb, -⟩ := id hC
  intro o0 a0 D H locs ls hi0 hw hl h
  unfold f_X9_once at h
  refine lv_aload_n hx hb dX9_once_0 rfl (lv_at hl 0 rfl) ?_
  refine r_gI hC hw kc_8 hi0 19 rfl lk_1088 dX9_once_1 ?_
  refine lv_topi (fun y148 ey148 => ?_)
  have h := nm_i h y148 ey148
  refine lv_istore_n (lv' := [(1, .int y148), (0, .ref a0)]) hx hb dX9_once_4 rfl hl (by decide) rfl (fun ls hl => ?_)
  refine lv_iload_n hx hb dX9_once_5 rfl (lv_at hl 0 rfl) ?_
  refine lv_i2l (v := y148.toInt64) hx hb dX9_once_6 rfl ?_
  refine lv_lconst (v := 0) hx hb dX9_once_7 (by decide) ?_
  refine lv_aload_n hx hb dX9_once_8 rfl (lv_at hl 1 rfl) ?_
  refine r_gI hC hw kc_8 hi0 0 rfl lk_1069 dX9_once_9 ?_
  refine lv_iconst (v := 1) hx hb dX9_once_12 (by decide) ?_
  refine lv_isub hx hb dX9_once_13 ?_
  refine lv_i2l (v := ((gI D o0 0) - (1 : Int32)).toInt64) hx hb dX9_once_14 rfl ?_
  obtain ⟨r150, hq149, h⟩ := pq_i h
  refine r_cS (st' := [.int r150]) [.long y148.toInt64, .long (0 : Int64), .long (((gI D o0 0) - (1 : Int32)).toInt64)] [] hC hw (k_X9_in _ hq149) mk_X9_in lk_1240 ⟨Nat.le_trans (by decide) hR.1, Nat.le_trans (by decide) hR.2⟩ ⟨Nat.zero_le _, Nat.zero_le _⟩ rfl hl.1 rfl rfl (Nat.le_of_ble_eq_true rfl) dX9_once_15 (fun hP H locs hw => ?_)
  refine lv_if_ne (tgt := 23) hx hb dX9_once_18 (by decide) (fun c151 => ?_) (fun c151 => ?_)
  · have h := i_no c151 h
    refine lv_aload_n hx hb dX9_once_23 rfl (lv_at hl 1 rfl) ?_
    refine lv_iload_n hx hb dX9_once_24 rfl (lv_at hl 0 rfl) ?_
    obtain ⟨r153, D154, hq152, h⟩ := cq_i h
    refine r_cV (st' := [.int r153]) [.int y148] [] hC hw kc_8 hi0 (k_X9_widthOf _ hi0 hq152) mk_X9_widthOf lk_1305 ⟨Nat.le_trans (by decide) hR.1, Nat.le_trans (by decide) hR.2⟩ ⟨Nat.zero_le _, Nat.zero_le _⟩ rfl hl.1 rfl rfl (Nat.le_of_ble_eq_true rfl) dX9_once_25 (fun hP H locs hw => ?_)
    refine lv_istore_n (lv' := [(2, .int r153), (1, .int y148), (0, .ref a0)]) hx hb dX9_once_28 rfl hl (by decide) rfl (fun ls hl => ?_)
    refine lv_iload_n hx hb dX9_once_29 rfl (lv_at hl 1 rfl) ?_
    refine lv_iconst (v := 1) hx hb dX9_once_30 (by decide) ?_
    refine lv_iadd hx hb dX9_once_31 ?_
    refine lv_topi (fun y155 ey155 => ?_)
    have h := nm_i h y155 ey155
    refine lv_istore_n (lv' := [(3, .int y155), (2, .int r153), (1, .int y148), (0, .ref a0)]) hx hb dX9_once_32 rfl hl (by decide) rfl (fun ls hl => ?_)
    refine lv_iconst (v := 1) hx hb dX9_once_33 (by decide) ?_
    refine lv_topi (fun y156 ey156 => ?_)
    have h := nm_i h y156 ey156
    refine lv_istore (lv' := [(4, .int y156), (3, .int y155), (2, .int r153), (1, .int y148), (0, .ref a0)]) hx hb dX9_once_34 hl (by decide) rfl (fun ls hl => ?_)
    refine lv_aload_n hx hb dX9_once_36 rfl (lv_at hl 4 rfl) ?_
    refine lv_iload_n hx hb dX9_once_37 rfl (lv_at hl 3 rfl) ?_
    obtain ⟨r158, D159, hq157, h⟩ := cq_i h
    refine r_cV (st' := [.int r158]) [.int y148] [] hC hw kc_8 hi0 (k_X9_kindOf _ hi0 hq157) mk_X9_kindOf lk_1309 ⟨Nat.le_trans (by decide) hR.1, Nat.le_trans (by decide) hR.2⟩ ⟨Nat.zero_le _, Nat.zero_le _⟩ rfl hl.1 rfl rfl (Nat.le_of_ble_eq_true rfl) dX9_once_38 (fun hP H locs hw => ?_)
    by_cases c160 : r158 = 0
    · have h := i_yes c160 h
      refine lv_tableIn (off := 59) (tgt := 100) hx hb dX9_once_41 (by rw [c160]; decide) (by rw [c160]; decide) (by rw [c160] <;> rfl) (by decide) ?_
      refine lv_iconst (v := 3) hx hb dX9_once_100 (by decide) ?_
      cases h
      exact r_iret hC hw dX9_once_101
    have h := i_no c160 h
    by_cases c161 : r158 = 1
    · have h := i_yes c161 h
      refine lv_tableIn (off := 61) (tgt := 102) hx hb dX9_once_41 (by rw [c161]; decide) (by rw [c161]; decide) (by rw [c161] <;> rfl) (by decide) ?_
      refine lv_aload_n hx hb dX9_once_102 rfl (lv_at hl 4 rfl) ?_
      obtain ⟨o162, ho165, h⟩ := rq_i h
      refine r_getR hC hw kc_8 hi0 21 rfl lk_1090 dX9_once_103 rfl ho165 (fun a163 hi164 => ?_)
      refine lv_aload_n hx hb dX9_once_106 rfl (lv_at hl 4 rfl) ?_
      obtain ⟨o166, ho169, h⟩ := rq_i h
      refine r_getR hC hw kc_8 hi0 2 rfl lk_1071 dX9_once_107 rfl ho169 (fun a167 hi168 => ?_)
      refine lv_iload_n hx hb dX9_once_110 rfl (lv_at hl 3 rfl) ?_
      obtain ⟨hn170, h⟩ := ix_i h
      refine r_iald hC hw hi168 hn170 dX9_once_111 ?_
      refine lv_aload_n hx hb dX9_once_112 rfl (lv_at hl 4 rfl) ?_
      refine lv_iload_n hx hb dX9_once_113 rfl (lv_at hl 3 rfl) ?_
      refine lv_aload_n hx hb dX9_once_114 rfl (lv_at hl 4 rfl) ?_
      obtain ⟨o171, ho174, h⟩ := rq_i h
      refine r_getR hC hw kc_8 hi0 21 rfl lk_1090 dX9_once_115 rfl ho174 (fun a172 hi173 => ?_)
      refine lv_aload_n hx hb dX9_once_118 rfl (lv_at hl 4 rfl) ?_
      obtain ⟨o175, ho178, h⟩ := rq_i h
      refine r_getR hC hw kc_8 hi0 2 rfl lk_1071 dX9_once_119 rfl ho178 (fun a176 hi177 => ?_)
      refine lv_iload_n hx hb dX9_once_122 rfl (lv_at hl 3 rfl) ?_
      obtain ⟨hn179, h⟩ := ix_i h
      refine r_iald hC hw hi177 hn179 dX9_once_123 ?_
      obtain ⟨hn180, h⟩ := ix_i h
      refine r_lald hC hw hi173 hn180 dX9_once_124 ?_
      refine lv_aload_n hx hb dX9_once_125 rfl (lv_at hl 4 rfl) ?_
      refine lv_iload_n hx hb dX9_once_126 rfl (lv_at hl 3 rfl) ?_
      obtain ⟨r182, D183, hq181, h⟩ := cq_i h
      refine r_cV (st' := [.long r182, .long (gL D159 o171 (gI D159 o175 y148.toNatClampNeg).toNatClampNeg), .int y148, .ref a0, .int (gI D159 o166 y148.toNatClampNeg), .ref a163]) [.int y148] [.long (gL D159 o171 (gI D159 o175 y148.toNatClampNeg).toNatClampNeg), .int y148, .ref a0, .int (gI D159 o166 y148.toNatClampNeg), .ref a163] hC hw kc_8 hi0 (k_X9_second _ hi0 hq181) mk_X9_second lk_1333 ⟨Nat.le_trans (by decide) hR.1, Nat.le_trans (by decide) hR.2⟩ ⟨Nat.zero_le _, Nat.zero_le _⟩ rfl hl.1 rfl rfl (Nat.le_of_ble_eq_true rfl) dX9_once_127 (fun hP H locs hw => ?_)
      obtain ⟨r185, D186, hq184, h⟩ := cq_i h
      refine r_cV (st' := [.long r185, .int (gI D159 o166 y148.toNatClampNeg), .ref a163]) [.int y148, .long (gL D159 o171 (gI D159 o175 y148.toNatClampNeg).toNatClampNeg), .long r182] [.int (gI D159 o166 y148.toNatClampNeg), .ref a163] hC hw kc_8 hi0 (k_X9_reckon _ hi0 hq184) mk_X9_reckon lk_1337 ⟨Nat.le_trans (by decide) hR.1, Nat.le_trans (by decide) hR.2⟩ ⟨Nat.zero_le _, Nat.zero_le _⟩ rfl hl.1 rfl rfl (Nat.le_of_ble_eq_true rfl) dX9_once_130 (fun hP H locs hw => ?_)
      obtain ⟨hn187, h⟩ := ix_i h
      refine r_las hC hw hi164 hn187 dX9_once_133 (fun D188 eD188 H locs hw => ?_)
      have h := nm_i h D188 eD188
      refine lv_goto (tgt := 334) hx hb dX9_once_134 (by decide) ?_
      exact w_X9_once_334 hC hR o0 a0 y155 y156 _ _ _ _ hi0 hw (lv_sub hl [4, 1, 0] rfl) h
    have h := i_no c161 h
    by_cases c189 : r158 = 2
    · have h := i_yes c189 h
      refine lv_tableIn (off := 96) (tgt := 137) hx hb dX9_once_41 (by rw [c189]; decide) (by rw [c189]; decide) (by rw [c189] <;> rfl) (by decide) ?_
      refine lv_aload_n hx hb dX9_once_137 rfl (lv_at hl 4 rfl) ?_
      refine lv_iload_n hx hb dX9_once_138 rfl (lv_at hl 3 rfl) ?_
      refine lv_aload_n hx hb dX9_once_139 rfl (lv_at hl 4 rfl) ?_
      obtain ⟨o190, ho193, h⟩ := rq_i h
      refine r_getR hC hw kc_8 hi0 21 rfl lk_1090 dX9_once_140 rfl ho193 (fun a191 hi192 => ?_)
      refine lv_aload_n hx hb dX9_once_143 rfl (lv_at hl 4 rfl) ?_
      obtain ⟨o194, ho197, h⟩ := rq_i h
      refine r_getR hC hw kc_8 hi0 2 rfl lk_1071 dX9_once_144 rfl ho197 (fun a195 hi196 => ?_)
      refine lv_iload_n hx hb dX9_once_147 rfl (lv_at hl 3 rfl) ?_
      obtain ⟨hn198, h⟩ := ix_i h
      refine r_iald hC hw hi196 hn198 dX9_once_148 ?_
      obtain ⟨hn199, h⟩ := ix_i h
      refine r_lald hC hw hi192 hn199 dX9_once_149 ?_
      refine lv_aload_n hx hb dX9_once_150 rfl (lv_at hl 4 rfl) ?_
      refine lv_iload_n hx hb dX9_once_151 rfl (lv_at hl 3 rfl) ?_
      obtain ⟨r201, D202, hq200, h⟩ := cq_i h
      refine r_cV (st' := [.long r201, .long (gL D159 o190 (gI D159 o194 y148.toNatClampNeg).toNatClampNeg), .int y148, .ref a0]) [.int y148] [.long (gL D159 o190 (gI D159 o194 y148.toNatClampNeg).toNatClampNeg), .int y148, .ref a0] hC hw kc_8 hi0 (k_X9_second _ hi0 hq200) mk_X9_second lk_1333 ⟨Nat.le_trans (by decide) hR.1, Nat.le_trans (by decide) hR.2⟩ ⟨Nat.zero_le _, Nat.zero_le _⟩ rfl hl.1 rfl rfl (Nat.le_of_ble_eq_true rfl) dX9_once_152 (fun hP H locs hw => ?_)
      obtain ⟨r204, D205, hq203, h⟩ := cq_i h
      refine r_cV (st' := [.int r204]) [.int y148, .long (gL D159 o190 (gI D159 o194 y148.toNatClampNeg).toNatClampNeg), .long r201] [] hC hw kc_8 hi0 (k_X9_jumps _ hi0 hq203) mk_X9_jumps lk_1363 ⟨Nat.le_trans (by decide) hR.1, Nat.le_trans (by decide) hR.2⟩ ⟨Nat.zero_le _, Nat.zero_le _⟩ rfl hl.1 rfl rfl (Nat.le_of_ble_eq_true rfl) dX9_once_155 (fun hP H locs hw => ?_)
      refine lv_if_eq (tgt := 172) hx hb dX9_once_158 (by decide) (fun c206 => ?_) (fun c206 => ?_)
      · have h := i_yes c206 h
        refine lv_iload_n hx hb dX9_once_172 rfl (lv_at hl 1 rfl) ?_
        exact w_X9_once_173 hC hR o0 a0 y156 y155 _ _ _ _ hi0 hw (lv_sub hl [4, 0] rfl) h
      · have h := i_no c206 h
        refine lv_iload_n hx hb dX9_once_161 rfl (lv_at hl 1 rfl) ?_
        refine lv_aload_n hx hb dX9_once_162 rfl (lv_at hl 4 rfl) ?_
        obtain ⟨o207, ho210, h⟩ := rq_i h
        refine r_getR hC hw kc_8 hi0 4 rfl lk_1073 dX9_once_163 rfl ho210 (fun a208 hi209 => ?_)
        refine lv_iload_n hx hb dX9_once_166 rfl (lv_at hl 3 rfl) ?_
        obtain ⟨hn211, h⟩ := ix_i h
        refine r_iald hC hw hi209 hn211 dX9_once_167 ?_
        refine lv_iadd hx hb dX9_once_168 ?_
        refine lv_goto (tgt := 173) hx hb dX9_once_169 (by decide) ?_
        exact w_X9_once_173 hC hR o0 a0 y156 (y155 + (gI D205 o207 y148.toNatClampNeg)) _ _ _ _ hi0 hw (lv_sub hl [4, 0] rfl) h
    have h := i_no c189 h
    by_cases c212 : r158 = 3
    · have h := i_yes c212 h
      refine lv_tableIn (off := 136) (tgt := 177) hx hb dX9_once_41 (by rw [c212]; decide) (by rw [c212]; decide) (by rw [c212] <;> rfl) (by decide) ?_
      refine lv_iload_n hx hb dX9_once_177 rfl (lv_at hl 1 rfl) ?_
      refine lv_aload_n hx hb dX9_once_178 rfl (lv_at hl 4 rfl) ?_
      obtain ⟨o213, ho216, h⟩ := rq_i h
      refine r_getR hC hw kc_8 hi0 1 rfl lk_1070 dX9_once_179 rfl ho216 (fun a214 hi215 => ?_)
      refine lv_iload_n hx hb dX9_once_182 rfl (lv_at hl 3 rfl) ?_
      obtain ⟨hn217, h⟩ := ix_i h
      refine r_iald hC hw hi215 hn217 dX9_once_183 ?_
      refine lv_bipush (v := 7) hx hb dX9_once_184 (by decide) ?_
      refine lv_iand hx hb dX9_once_186 ?_
      refine lv_iconst (v := 5) hx hb dX9_once_187 (by decide) ?_
      refine lv_icmp_ne (tgt := 200) hx hb dX9_once_188 (by decide) (fun c218 => ?_) (fun c218 => ?_)
      · have h := i_no c218 h
        refine lv_aload_n hx hb dX9_once_200 rfl (lv_at hl 4 rfl) ?_
        obtain ⟨o219, ho222, h⟩ := rq_i h
        refine r_getR hC hw kc_8 hi0 5 rfl lk_1074 dX9_once_201 rfl ho222 (fun a220 hi221 => ?_)
        refine lv_iload_n hx hb dX9_once_204 rfl (lv_at hl 3 rfl) ?_
        obtain ⟨hn223, h⟩ := ix_i h
        refine r_iald hC hw hi221 hn223 dX9_once_205 ?_
        exact w_X9_once_206 hC hR o0 a0 y156 y155 (gI D159 o219 y148.toNatClampNeg) _ _ _ _ hi0 hw (lv_sub hl [4, 0] rfl) h
      · have h := i_yes c218 h
        refine lv_aload_n hx hb dX9_once_191 rfl (lv_at hl 4 rfl) ?_
        obtain ⟨o224, ho227, h⟩ := rq_i h
        refine r_getR hC hw kc_8 hi0 4 rfl lk_1073 dX9_once_192 rfl ho227 (fun a225 hi226 => ?_)
        refine lv_iload_n hx hb dX9_once_195 rfl (lv_at hl 3 rfl) ?_
        obtain ⟨hn228, h⟩ := ix_i h
        refine r_iald hC hw hi226 hn228 dX9_once_196 ?_
        refine lv_goto (tgt := 206) hx hb dX9_once_197 (by decide) ?_
        exact w_X9_once_206 hC hR o0 a0 y156 y155 (gI D159 o224 y148.toNatClampNeg) _ _ _ _ hi0 hw (lv_sub hl [4, 0] rfl) h
    have h := i_no c212 h
    by_cases c229 : r158 = 4
    · have h := i_yes c229 h
      refine lv_tableIn (off := 170) (tgt := 211) hx hb dX9_once_41 (by rw [c229]; decide) (by rw [c229]; decide) (by rw [c229] <;> rfl) (by decide) ?_
      refine lv_aload_n hx hb dX9_once_211 rfl (lv_at hl 4 rfl) ?_
      refine lv_iconst (v := 2) hx hb dX9_once_212 (by decide) ?_
      refine r_pI hC hw kc_8 hi0 18 rfl lk_1087 rfl rfl rfl dX9_once_213 (fun D230 eD230 H locs hw => ?_)
      have h := nm_i h D230 eD230
      refine lv_iload_n hx hb dX9_once_216 rfl (lv_at hl 3 rfl) ?_
      refine lv_istore_n (lv' := [(3, .int y148), (4, .int y156), (2, .int r153), (1, .int y148), (0, .ref a0)]) hx hb dX9_once_217 rfl hl (by decide) rfl (fun ls hl => ?_)
      refine lv_goto (tgt := 334) hx hb dX9_once_218 (by decide) ?_
      exact w_X9_once_334 hC hR o0 a0 y148 y156 _ _ _ _ hi0 hw (lv_sub hl [4, 0, 1] rfl) h
    have h := i_no c229 h
    by_cases c231 : r158 = 5
    · have h := i_yes c231 h
      refine lv_tableIn (off := 180) (tgt := 221) hx hb dX9_once_41 (by rw [c231]; decide) (by rw [c231]; decide) (by rw [c231] <;> rfl) (by decide) ?_
      refine lv_aload_n hx hb dX9_once_221 rfl (lv_at hl 4 rfl) ?_
      refine lv_aload_n hx hb dX9_once_222 rfl (lv_at hl 4 rfl) ?_
      obtain ⟨o232, ho235, h⟩ := rq_i h
      refine r_getR hC hw kc_8 hi0 5 rfl lk_1074 dX9_once_223 rfl ho235 (fun a233 hi234 => ?_)
      refine lv_iload_n hx hb dX9_once_226 rfl (lv_at hl 3 rfl) ?_
      obtain ⟨hn236, h⟩ := ix_i h
      refine r_iald hC hw hi234 hn236 dX9_once_227 ?_
      obtain ⟨r238, D239, hq237, h⟩ := cq_i h
      refine r_cV (st' := [.int r238]) [.int (gI D159 o232 y148.toNatClampNeg)] [] hC hw kc_8 hi0 (k_X9_call _ hi0 hq237) mk_X9_call lk_1367 ⟨Nat.le_trans (by decide) hR.1, Nat.le_trans (by decide) hR.2⟩ ⟨Nat.zero_le _, Nat.zero_le _⟩ rfl hl.1 rfl rfl (Nat.le_of_ble_eq_true rfl) dX9_once_228 (fun hP H locs hw => ?_)
      refine lv_istore (lv' := [(4, .int r238), (3, .int y155), (2, .int r153), (1, .int y148), (0, .ref a0)]) hx hb dX9_once_231 hl (by decide) rfl (fun ls hl => ?_)
      refine lv_goto (tgt := 334) hx hb dX9_once_233 (by decide) ?_
      exact w_X9_once_334 hC hR o0 a0 y155 r238 _ _ _ _ hi0 hw (lv_sub hl [4, 1, 0] rfl) h
    have h := i_no c231 h
    by_cases c240 : r158 = 6
    · have h := i_yes c240 h
      refine lv_tableIn (off := 195) (tgt := 236) hx hb dX9_once_41 (by rw [c240]; decide) (by rw [c240]; decide) (by rw [c240] <;> rfl) (by decide) ?_
      refine lv_aload_n hx hb dX9_once_236 rfl (lv_at hl 4 rfl) ?_
      refine lv_iload_n hx hb dX9_once_237 rfl (lv_at hl 3 rfl) ?_
      refine lv_iload_n hx hb dX9_once_238 rfl (lv_at hl 2 rfl) ?_
      refine lv_iconst (v := 0) hx hb dX9_once_239 (by decide) ?_
      obtain ⟨r242, D243, hq241, h⟩ := cq_i h
      refine r_cV (st' := [.int r242]) [.int y148, .int r153, .int (0 : Int32)] [] hC hw kc_8 hi0 (k_X9_load _ hi0 hq241) mk_X9_load lk_1381 ⟨Nat.le_trans (by decide) hR.1, Nat.le_trans (by decide) hR.2⟩ ⟨Nat.zero_le _, Nat.zero_le _⟩ rfl hl.1 rfl rfl (Nat.le_of_ble_eq_true rfl) dX9_once_240 (fun hP H locs hw => ?_)
      refine lv_istore (lv' := [(4, .int r242), (3, .int y155), (2, .int r153), (1, .int y148), (0, .ref a0)]) hx hb dX9_once_243 hl (by decide) rfl (fun ls hl => ?_)
      refine lv_goto (tgt := 334) hx hb dX9_once_245 (by decide) ?_
      exact w_X9_once_334 hC hR o0 a0 y155 r242 _ _ _ _ hi0 hw (lv_sub hl [4, 1, 0] rfl) h
    have h := i_no c240 h
    by_cases c244 : r158 = 7
    · have h := i_yes c244 h
      refine lv_tableIn (off := 207) (tgt := 248) hx hb dX9_once_41 (by rw [c244]; decide) (by rw [c244]; decide) (by rw [c244] <;> rfl) (by decide) ?_
      refine lv_aload_n hx hb dX9_once_248 rfl (lv_at hl 4 rfl) ?_
      refine lv_iload_n hx hb dX9_once_249 rfl (lv_at hl 3 rfl) ?_
      refine lv_iload_n hx hb dX9_once_250 rfl (lv_at hl 2 rfl) ?_
      refine lv_iconst (v := 1) hx hb dX9_once_251 (by decide) ?_
      obtain ⟨r246, D247, hq245, h⟩ := cq_i h
      refine r_cV (st' := [.int r246]) [.int y148, .int r153, .int (1 : Int32)] [] hC hw kc_8 hi0 (k_X9_load _ hi0 hq245) mk_X9_load lk_1381 ⟨Nat.le_trans (by decide) hR.1, Nat.le_trans (by decide) hR.2⟩ ⟨Nat.zero_le _, Nat.zero_le _⟩ rfl hl.1 rfl rfl (Nat.le_of_ble_eq_true rfl) dX9_once_252 (fun hP H locs hw => ?_)
      refine lv_istore (lv' := [(4, .int r246), (3, .int y155), (2, .int r153), (1, .int y148), (0, .ref a0)]) hx hb dX9_once_255 hl (by decide) rfl (fun ls hl => ?_)
      refine lv_goto (tgt := 334) hx hb dX9_once_257 (by decide) ?_
      exact w_X9_once_334 hC hR o0 a0 y155 r246 _ _ _ _ hi0 hw (lv_sub hl [4, 1, 0] rfl) h
    have h := i_no c244 h
    by_cases c248 : r158 = 8
    · have h := i_yes c248 h
      refine lv_tableIn (off := 219) (tgt := 260) hx hb dX9_once_41 (by rw [c248]; decide) (by rw [c248]; decide) (by rw [c248] <;> rfl) (by decide) ?_
      refine lv_aload_n hx hb dX9_once_260 rfl (lv_at hl 4 rfl) ?_
      refine lv_iload_n hx hb dX9_once_261 rfl (lv_at hl 3 rfl) ?_
      refine lv_iload_n hx hb dX9_once_262 rfl (lv_at hl 2 rfl) ?_
      refine lv_aload_n hx hb dX9_once_263 rfl (lv_at hl 4 rfl) ?_
      obtain ⟨o249, ho252, h⟩ := rq_i h
      refine r_getR hC hw kc_8 hi0 5 rfl lk_1074 dX9_once_264 rfl ho252 (fun a250 hi251 => ?_)
      refine lv_iload_n hx hb dX9_once_267 rfl (lv_at hl 3 rfl) ?_
      obtain ⟨hn253, h⟩ := ix_i h
      refine r_iald hC hw hi251 hn253 dX9_once_268 ?_
      refine lv_i2l (v := (gI D159 o249 y148.toNatClampNeg).toInt64) hx hb dX9_once_269 rfl ?_
      obtain ⟨r255, D256, hq254, h⟩ := cq_i h
      refine r_cV (st' := [.int r255]) [.int y148, .int r153, .long ((gI D159 o249 y148.toNatClampNeg).toInt64)] [] hC hw kc_8 hi0 (k_X9_put _ hi0 hq254) mk_X9_put lk_1389 ⟨Nat.le_trans (by decide) hR.1, Nat.le_trans (by decide) hR.2⟩ ⟨Nat.zero_le _, Nat.zero_le _⟩ rfl hl.1 rfl rfl (Nat.le_of_ble_eq_true rfl) dX9_once_270 (fun hP H locs hw => ?_)
      refine lv_istore (lv' := [(4, .int r255), (3, .int y155), (2, .int r153), (1, .int y148), (0, .ref a0)]) hx hb dX9_once_273 hl (by decide) rfl (fun ls hl => ?_)
      refine lv_goto (tgt := 334) hx hb dX9_once_275 (by decide) ?_
      exact w_X9_once_334 hC hR o0 a0 y155 r255 _ _ _ _ hi0 hw (lv_sub hl [4, 1, 0] rfl) h
    have h := i_no c248 h
    by_cases c257 : r158 = 9
    · have h := i_yes c257 h
      refine lv_tableIn (off := 237) (tgt := 278) hx hb dX9_once_41 (by rw [c257]; decide) (by rw [c257]; decide) (by rw [c257] <;> rfl) (by decide) ?_
      refine lv_aload_n hx hb dX9_once_278 rfl (lv_at hl 4 rfl) ?_
      refine lv_iload_n hx hb dX9_once_279 rfl (lv_at hl 3 rfl) ?_
      refine lv_iload_n hx hb dX9_once_280 rfl (lv_at hl 2 rfl) ?_
      refine lv_aload_n hx hb dX9_once_281 rfl (lv_at hl 4 rfl) ?_
      obtain ⟨o258, ho261, h⟩ := rq_i h
      refine r_getR hC hw kc_8 hi0 21 rfl lk_1090 dX9_once_282 rfl ho261 (fun a259 hi260 => ?_)
      refine lv_aload_n hx hb dX9_once_285 rfl (lv_at hl 4 rfl) ?_
      obtain ⟨o262, ho265, h⟩ := rq_i h
      refine r_getR hC hw kc_8 hi0 3 rfl lk_1072 dX9_once_286 rfl ho265 (fun a263 hi264 => ?_)
      refine lv_iload_n hx hb dX9_once_289 rfl (lv_at hl 3 rfl) ?_
      obtain ⟨hn266, h⟩ := ix_i h
      refine r_iald hC hw hi264 hn266 dX9_once_290 ?_
      obtain ⟨hn267, h⟩ := ix_i h
      refine r_lald hC hw hi260 hn267 dX9_once_291 ?_
      obtain ⟨r269, D270, hq268, h⟩ := cq_i h
      refine r_cV (st' := [.int r269]) [.int y148, .int r153, .long (gL D159 o258 (gI D159 o262 y148.toNatClampNeg).toNatClampNeg)] [] hC hw kc_8 hi0 (k_X9_put _ hi0 hq268) mk_X9_put lk_1389 ⟨Nat.le_trans (by decide) hR.1, Nat.le_trans (by decide) hR.2⟩ ⟨Nat.zero_le _, Nat.zero_le _⟩ rfl hl.1 rfl rfl (Nat.le_of_ble_eq_true rfl) dX9_once_292 (fun hP H locs hw => ?_)
      refine lv_istore (lv' := [(4, .int r269), (3, .int y155), (2, .int r153), (1, .int y148), (0, .ref a0)]) hx hb dX9_once_295 hl (by decide) rfl (fun ls hl => ?_)
      refine lv_goto (tgt := 334) hx hb dX9_once_297 (by decide) ?_
      exact w_X9_once_334 hC hR o0 a0 y155 r269 _ _ _ _ hi0 hw (lv_sub hl [4, 1, 0] rfl) h
    have h := i_no c257 h
    by_cases c271 : r158 = 10
    · have h := i_yes c271 h
      refine lv_tableIn (off := 259) (tgt := 300) hx hb dX9_once_41 (by rw [c271]; decide) (by rw [c271]; decide) (by rw [c271] <;> rfl) (by decide) ?_
      refine lv_aload_n hx hb dX9_once_300 rfl (lv_at hl 4 rfl) ?_
      refine lv_iload_n hx hb dX9_once_301 rfl (lv_at hl 3 rfl) ?_
      refine lv_aload_n hx hb dX9_once_302 rfl (lv_at hl 4 rfl) ?_
      obtain ⟨o272, ho275, h⟩ := rq_i h
      refine r_getR hC hw kc_8 hi0 1 rfl lk_1070 dX9_once_303 rfl ho275 (fun a273 hi274 => ?_)
      refine lv_iload_n hx hb dX9_once_306 rfl (lv_at hl 3 rfl) ?_
      obtain ⟨hn276, h⟩ := ix_i h
      refine r_iald hC hw hi274 hn276 dX9_once_307 ?_
      refine lv_sipush (v := 219) hx hb dX9_once_308 (by decide) ?_
      refine lv_icmp_ne (tgt := 319) hx hb dX9_once_311 (by decide) (fun c277 => ?_) (fun c277 => ?_)
      · have h := i_no c277 h
        refine lv_iconst (v := 4) hx hb dX9_once_319 (by decide) ?_
        exact w_X9_once_320 hC hR o0 a0 y155 o0 a0 y148 (4 : Int32) _ _ _ _ hi0 hi0 hw (lv_sub hl [4, 1] rfl) h
      · have h := i_yes c277 h
        refine lv_bipush (v := 8) hx hb dX9_once_314 (by decide) ?_
        refine lv_goto (tgt := 320) hx hb dX9_once_316 (by decide) ?_
        exact w_X9_once_320 hC hR o0 a0 y155 o0 a0 y148 (8 : Int32) _ _ _ _ hi0 hi0 hw (lv_sub hl [4, 1] rfl) h
    have h := i_no c271 h
    refine lv_tableOut (tgt := 328) hx hb dX9_once_41 (by have nc160 := lv_neT c160 (a := 0) rfl; have nc161 := lv_neT c161 (a := 1) rfl; have nc189 := lv_neT c189 (a := 2) rfl; have nc212 := lv_neT c212 (a := 3) rfl; have nc229 := lv_neT c229 (a := 4) rfl; have nc231 := lv_neT c231 (a := 5) rfl; have nc240 := lv_neT c240 (a := 6) rfl; have nc244 := lv_neT c244 (a := 7) rfl; have nc248 := lv_neT c248 (a := 8) rfl; have nc257 := lv_neT c257 (a := 9) rfl; have nc271 := lv_neT c271 (a := 10) rfl; omega) (by decide) ?_
    refine lv_aload_n hx hb dX9_once_328 rfl (lv_at hl 4 rfl) ?_
    refine lv_iload_n hx hb dX9_once_329 rfl (lv_at hl 3 rfl) ?_
    obtain ⟨r279, D280, hq278, h⟩ := cq_i h
    refine r_cV (st' := [.int r279]) [.int y148] [] hC hw kc_8 hi0 (k_X9_wide _ hi0 hq278) mk_X9_wide lk_1405 ⟨Nat.le_trans (by decide) hR.1, Nat.le_trans (by decide) hR.2⟩ ⟨Nat.zero_le _, Nat.zero_le _⟩ rfl hl.1 rfl rfl (Nat.le_of_ble_eq_true rfl) dX9_once_330 (fun hP H locs hw => ?_)
    cases h
    exact r_iret hC hw dX9_once_333
  · have h := i_yes c151 h
    refine lv_iconst (v := 5) hx hb dX9_once_21 (by decide) ?_
    cases h
    exact r_iret hC hw dX9_once_22
set_option maxHeartbeats 4000000 in
set_option maxRecDepth 100000 in
theorem k_X9_once {l : Launch} {G : va_G} {cA : Nat → ClassId} {S : sh} {D D' : dt} {ad : Nat → Nat} (sz : Nat) {o0 a0 : Nat} {r : Int32} (hi0 : Is S ad o0 a0 8) (h : f_X9_once S o0 D = some (r, D')) : Co l yX9_once (Cond.code yX9_once cX9_once 5 (some .int) :: tb0) 5 139 [.ref a0] G cA S D ad sz (some (.int r)) True D' := by
  refine Met.ofW (cc := cX9_once) (maxL := 5) (ret := (some .int)) (by decide) rfl ?_
  intro p e s m args below meth c s₁ B hml hv
  obtain ⟨rfl, hsz, hP, hK, hD0, hT, hX⟩ := hv
  subst hsz
  have hts := atoms_spec (ws := Cond.code yX9_once cX9_once 5 (some .int) :: tb0) B.pre
  have hC : Cx RX9 cX9_once 5 (some .int) p s m _ meth c := ⟨B.exec, B.bytes, hml, findClass_of_methodNamed B.named, fun w q => hts w (List.mem_cons_of_mem _ q), B.returns, B.notSynchronized⟩
  have hw := Wd.entry hP hK hD0 hT hX
  have hl := lv_entry ([.ref a0]) (n := 5) (Nat.le_of_ble_eq_true rfl)
  rw [lg_entry_eq]
  exact w_X9_once_0 hC ⟨Nat.le_refl _, Nat.le_refl _⟩ o0 a0 D _ _ _ hi0 hw hl h
set_option maxHeartbeats 4000000 in
set_option maxRecDepth 100000 in
theorem w_X9_step_50 {r : Int32} {D' : dt} (hC : Cx RX9 cX9_step 2 (some .int) p s m args meth c) (hR : 6 ≤ R.frames ∧ 163 ≤ R.locals) : ∀ (o0 a0 : Nat) (os0 as0 : Nat) (xs1 : Int32) (D : dt) (H : Heap) (locs : List Loc) (ls : Array Slot), Is S ad o0 a0 8 → Is S ad os0 as0 8 → Wd G cA S D ad A s H locs → lv_has ls 2 [(0, .ref a0)] → f_X9_step_50 S o0 os0 xs1 D = some (r, D') → W p l e R s m args below meth c H locs 0 0 (MQ below (Qn (some (.int r)) True (wpost G cA S D' ad A) A) args s 0 0 A) (F0 m 50 ls [.int xs1, .ref as0]) := by
  obtain ⟨hx, hb, -⟩ := id hC
  intro o0 a0 os0 as0 xs1 D H locs ls hi0 his0 hw hl h
  unfold f_X9_step_50 at h
  refine r_pI hC hw kc_8 his0 20 rfl lk_1089 rfl rfl rfl dX9_step_50 (fun D9 eD9 H locs hw => ?_)
  have h := nm_i h D9 eD9
  refine lv_aload_n hx hb dX9_step_53 rfl (lv_at hl 0 rfl) ?_
  refine r_gI hC hw kc_8 hi0 18 rfl lk_1087 dX9_step_54 ?_
  cases h
  exact r_iret hC hw dX9_step_57
set_option maxHeartbeats 4000000 in
set_option maxRecDepth 100000 in
theorem w_X9_step_29 {r : Int32} {D' : dt} (hC : Cx RX9 cX9_step 2 (some .int) p s m args meth c) (hR : 6 ≤ R.frames ∧ 163 ≤ R.locals) : ∀ (o0 a0 : Nat) (x1 : Int32) (os0 as0 : Nat) (xs1 : Int32) (D : dt) (H : Heap) (locs : List Loc) (ls : Array Slot), Is S ad o0 a0 8 → Is S ad os0 as0 8 → Wd G cA S D ad A s H locs → lv_has ls 2 [(0, .ref a0), (1, .int x1)] → f_X9_step_29 S o0 x1 os0 xs1 D = some (r, D') → W p l e R s m args below meth c H locs 0 0 (MQ below (Qn (some (.int r)) True (wpost G cA S D' ad A) A) args s 0 0 A) (F0 m 29 ls [.int xs1, .ref as0]) := by
  obtain ⟨hx, hb, -⟩ := id hC
  intro o0 a0 x1 os0 as0 xs1 D H locs ls hi0 his0 hw hl h
  unfold f_X9_step_29 at h
  refine r_pI hC hw kc_8 his0 18 rfl lk_1087 rfl rfl rfl dX9_step_29 (fun D10 eD10 H locs hw => ?_)
  have h := nm_i h D10 eD10
  refine lv_aload_n hx hb dX9_step_32 rfl (lv_at hl 0 rfl) ?_
  refine lv_iload_n hx hb dX9_step_33 rfl (lv_at hl 1 rfl) ?_
  refine lv_if_le (tgt := 44) hx hb dX9_step_34 (by decide) (fun c11 => ?_) (fun c11 => ?_)
  · have h := i_yes c11 h
    refine lv_aload_n hx hb dX9_step_44 rfl (lv_at hl 0 rfl) ?_
    refine r_gI hC hw kc_8 hi0 20 rfl lk_1089 dX9_step_45 ?_
    refine lv_iconst (v := 1) hx hb dX9_step_48 (by decide) ?_
    refine lv_iadd hx hb dX9_step_49 ?_
    exact w_X9_step_50 hC hR o0 a0 o0 a0 ((gI D10 o0 20) + (1 : Int32)) _ _ _ _ hi0 hi0 hw (lv_sub hl [0] rfl) h
  · have h := i_no c11 h
    refine lv_aload_n hx hb dX9_step_37 rfl (lv_at hl 0 rfl) ?_
    refine r_gI hC hw kc_8 hi0 20 rfl lk_1089 dX9_step_38 ?_
    refine lv_goto (tgt := 50) hx hb dX9_step_41 (by decide) ?_
    exact w_X9_step_50 hC hR o0 a0 o0 a0 (gI D10 o0 20) _ _ _ _ hi0 hi0 hw (lv_sub hl [0] rfl) h
set_option maxHeartbeats 4000000 in
set_option maxRecDepth 100000 in
theorem w_X9_step_0 {r : Int32} {D' : dt} (hC : Cx RX9 cX9_step 2 (some .int) p s m args meth c) (hR : 6 ≤ R.frames ∧ 163 ≤ R.locals) : ∀ (o0 a0 : Nat) (D : dt) (H : Heap) (locs : List Loc) (ls : Array Slot), Is S ad o0 a0 8 → Wd G cA S D ad A s H locs → lv_has ls 2 [(0, .ref a0)] → f_X9_step S o0 D = some (r, D') → W p l e R s m args below meth c H locs 0 0 (MQ below (Qn (some (.int r)) True (wpost G cA S D' ad A) A) args s 0 0 A) (F0 m 0 ls []) := by
  obtain ⟨hx, hb, -⟩ := id hC
  intro o0 a0 D H locs ls hi0 hw hl h
  unfold f_X9_step at h
  refine lv_aload_n hx hb dX9_step_0 rfl (lv_at hl 0 rfl) ?_
  refine r_gI hC hw kc_8 hi0 18 rfl lk_1087 dX9_step_1 ?_
  refine lv_iconst (v := 1) hx hb dX9_step_4 (by decide) ?_
  refine lv_icmp_eq (tgt := 11) hx hb dX9_step_5 (by decide) (fun c12 => ?_) (fun c12 => ?_)
  · have h := i_yes c12 h
    refine lv_aload_n hx hb dX9_step_11 rfl (lv_at hl 0 rfl) ?_
    obtain ⟨r14, D15, hq13, h⟩ := cq_i h
    refine r_cV (st' := [.int r14]) [] [] hC hw kc_8 hi0 (k_X9_once _ hi0 hq13) mk_X9_once lk_1301 ⟨Nat.le_trans (by decide) hR.1, Nat.le_trans (by decide) hR.2⟩ ⟨Nat.zero_le _, Nat.zero_le _⟩ rfl hl.1 rfl rfl (Nat.le_of_ble_eq_true rfl) dX9_step_12 (fun hP H locs hw => ?_)
    refine lv_istore_n (lv' := [(1, .int r14), (0, .ref a0)]) hx hb dX9_step_15 rfl hl (by decide) rfl (fun ls hl => ?_)
    refine lv_aload_n hx hb dX9_step_16 rfl (lv_at hl 1 rfl) ?_
    refine lv_iload_n hx hb dX9_step_17 rfl (lv_at hl 0 rfl) ?_
    refine lv_if_le (tgt := 25) hx hb dX9_step_18 (by decide) (fun c16 => ?_) (fun c16 => ?_)
    · have h := i_yes c16 h
      refine lv_aload_n hx hb dX9_step_25 rfl (lv_at hl 1 rfl) ?_
      refine r_gI hC hw kc_8 hi0 18 rfl lk_1087 dX9_step_26 ?_
      exact w_X9_step_29 hC hR o0 a0 r14 o0 a0 (gI D15 o0 18) _ _ _ _ hi0 hi0 hw (lv_sub hl [1, 0] rfl) h
    · have h := i_no c16 h
      refine lv_iload_n hx hb dX9_step_21 rfl (lv_at hl 0 rfl) ?_
      refine lv_goto (tgt := 29) hx hb dX9_step_22 (by decide) ?_
      exact w_X9_step_29 hC hR o0 a0 r14 o0 a0 r14 _ _ _ _ hi0 hi0 hw (lv_sub hl [1, 0] rfl) h
  · have h := i_no c12 h
    refine lv_bipush (v := (-3)) hx hb dX9_step_8 (by decide) ?_
    cases h
    exact r_iret hC hw dX9_step_10
set_option maxHeartbeats 4000000 in
set_option maxRecDepth 100000 in
theorem k_X9_step {l : Launch} {G : va_G} {cA : Nat → ClassId} {S : sh} {D D' : dt} {ad : Nat → Nat} (sz : Nat) {o0 a0 : Nat} {r : Int32} (hi0 : Is S ad o0 a0 8) (h : f_X9_step S o0 D = some (r, D')) : Co l yX9_step (Cond.code yX9_step cX9_step 2 (some .int) :: tb0) 6 163 [.ref a0] G cA S D ad sz (some (.int r)) True D' := by
  refine Met.ofW (cc := cX9_step) (maxL := 2) (ret := (some .int)) (by decide) rfl ?_
  intro p e s m args below meth c s₁ B hml hv
  obtain ⟨rfl, hsz, hP, hK, hD0, hT, hX⟩ := hv
  subst hsz
  have hts := atoms_spec (ws := Cond.code yX9_step cX9_step 2 (some .int) :: tb0) B.pre
  have hC : Cx RX9 cX9_step 2 (some .int) p s m _ meth c := ⟨B.exec, B.bytes, hml, findClass_of_methodNamed B.named, fun w q => hts w (List.mem_cons_of_mem _ q), B.returns, B.notSynchronized⟩
  have hw := Wd.entry hP hK hD0 hT hX
  have hl := lv_entry ([.ref a0]) (n := 2) (Nat.le_of_ble_eq_true rfl)
  rw [lg_entry_eq]
  exact w_X9_step_0 hC ⟨Nat.le_refl _, Nat.le_refl _⟩ o0 a0 D _ _ _ hi0 hw hl h
set_option maxHeartbeats 4000000 in
set_option maxRecDepth 100000 in
theorem w_X9_run_57 {r : Int32} {D' : dt} (hC : Cx RX9 cX9_run 4 (some .int) p s m args meth c) (hR : 7 ≤ R.frames ∧ 184 ≤ R.locals) : ∀ (o0 a0 : Nat) (D : dt) (H : Heap) (locs : List Loc) (ls : Array Slot), Is S ad o0 a0 8 → Wd G cA S D ad A s H locs → lv_has ls 4 [(0, .ref a0)] → f_X9_run_57 S o0 D = some (r, D') → W p l e R s m args below meth c H locs 0 0 (MQ below (Qn (some (.int r)) True (wpost G cA S D' ad A) A) args s 0 0 A) (F0 m 57 ls []) := by
  obtain ⟨hx, hb, -⟩ := id hC
  intro o0 a0 D H locs ls hi0 hw hl h
  unfold f_X9_run_57 at h
  refine lv_aload_n hx hb dX9_run_57 rfl (lv_at hl 0 rfl) ?_
  refine r_gI hC hw kc_8 hi0 18 rfl lk_1087 dX9_run_58 ?_
  cases h
  exact r_iret hC hw dX9_run_61
set_option maxHeartbeats 4000000 in
set_option maxRecDepth 100000 in
theorem w_X9_run_28 {r : Int32} {D' : dt} (hC : Cx RX9 cX9_run 4 (some .int) p s m args meth c) (hR : 7 ≤ R.frames ∧ 184 ≤ R.locals) : ∀ (n : Nat), ∀ (o0 a0 : Nat) (x1 : Int32) (x2 : Int32) (D : dt) (H : Heap) (locs : List Loc) (ls : Array Slot), Is S ad o0 a0 8 → Wd G cA S D ad A s H locs → lv_has ls 4 [(0, .ref a0), (1, .int x1), (2, .int x2)] → f_X9_run_28 S n o0 x1 x2 D = some (r, D') → W p l e R s m args below meth c H locs 0 0 (MQ below (Qn (some (.int r)) True (wpost G cA S D' ad A) A) args s 0 0 A) (F0 m 28 ls []) := by
  obtain ⟨hx, hb, -⟩ := id hC
  intro n
  induction n with
  | zero =>
    intro o0 a0 x1 x2 D H locs ls hi0 hw hl h
    rw [f_X9_run_28.eq_1] at h
    cases h
  | succ n ih =>
    intro o0 a0 x1 x2 D H locs ls hi0 hw hl h
    rw [f_X9_run_28.eq_2] at h
    refine lv_iload_n hx hb dX9_run_28 rfl (lv_at hl 2 rfl) ?_
    refine lv_iload_n hx hb dX9_run_29 rfl (lv_at hl 1 rfl) ?_
    refine lv_icmp_ge (tgt := 57) hx hb dX9_run_30 (by decide) (fun c13 => ?_) (fun c13 => ?_)
    · have h := i_yes c13 h
      exact w_X9_run_57 hC hR o0 a0 _ _ _ _ hi0 hw (lv_sub hl [0] rfl) h
    · have h := i_no c13 h
      refine lv_aload_n hx hb dX9_run_33 rfl (lv_at hl 0 rfl) ?_
      refine r_gI hC hw kc_8 hi0 18 rfl lk_1087 dX9_run_34 ?_
      refine lv_iconst (v := 1) hx hb dX9_run_37 (by decide) ?_
      refine lv_icmp_ne (tgt := 57) hx hb dX9_run_38 (by decide) (fun c14 => ?_) (fun c14 => ?_)
      · have h := i_no c14 h
        exact w_X9_run_57 hC hR o0 a0 _ _ _ _ hi0 hw (lv_sub hl [0] rfl) h
      · have h := i_yes c14 h
        refine lv_aload_n hx hb dX9_run_41 rfl (lv_at hl 0 rfl) ?_
        obtain ⟨r16, D17, hq15, h⟩ := cq_i h
        refine r_cV (st' := [.int r16]) [] [] hC hw kc_8 hi0 (k_X9_step _ hi0 hq15) mk_X9_step lk_1418 ⟨Nat.le_trans (by decide) hR.1, Nat.le_trans (by decide) hR.2⟩ ⟨Nat.zero_le _, Nat.zero_le _⟩ rfl hl.1 rfl rfl (Nat.le_of_ble_eq_true rfl) dX9_run_42 (fun hP H locs hw => ?_)
        refine lv_istore_n (lv' := [(3, .int r16), (0, .ref a0), (1, .int x1), (2, .int x2)]) hx hb dX9_run_45 rfl hl (by decide) rfl (fun ls hl => ?_)
        refine lv_aload_n hx hb dX9_run_46 rfl (lv_at hl 1 rfl) ?_
        refine lv_iload_n hx hb dX9_run_47 rfl (lv_at hl 0 rfl) ?_
        refine r_pI hC hw kc_8 hi0 18 rfl lk_1087 rfl rfl rfl dX9_run_48 (fun D18 eD18 H locs hw => ?_)
        have h := nm_i h D18 eD18
        obtain ⟨y19, ey19⟩ : ∃ z : Int32, z = x2 + 1 := ⟨_, rfl⟩
        have h := nm_i h y19 ey19
        refine lv_iinc (v := y19) (lv' := [(2, .int y19), (3, .int r16), (0, .ref a0), (1, .int x1)]) hx hb dX9_run_51 hl (k := 3) rfl (by rw [ey19]; rfl) (by decide) rfl (fun ls hl => ?_)
        refine lv_goto (tgt := 28) hx hb dX9_run_54 (by decide) ?_
        exact ih o0 a0 x1 y19 _ _ _ _ hi0 hw (lv_sub hl [2, 3, 0] rfl) h
set_option maxHeartbeats 4000000 in
set_option maxRecDepth 100000 in
theorem w_X9_run_0 {r : Int32} {D' : dt} (hC : Cx RX9 cX9_run 4 (some .int) p s m args meth c) (hR : 7 ≤ R.frames ∧ 184 ≤ R.locals) : ∀ (o0 a0 : Nat) (x1 : Int32) (D : dt) (H : Heap) (locs : List Loc) (ls : Array Slot), Is S ad o0 a0 8 → Wd G cA S D ad A s H locs → lv_has ls 4 [(0, .ref a0), (1, .int x1)] → f_X9_run S o0 x1 D = some (r, D') → W p l e R s m args below meth c H locs 0 0 (MQ below (Qn (some (.int r)) True (wpost G cA S D' ad A) A) args s 0 0 A) (F0 m 0 ls []) := by
  obtain ⟨hx, hb, -⟩ := id hC
  intro o0 a0 x1 D H locs ls hi0 hw hl h
  unfold f_X9_run at h
  refine lv_iload_n hx hb dX9_run_0 rfl (lv_at hl 1 rfl) ?_
  refine lv_i2l (v := x1.toInt64) hx hb dX9_run_1 rfl ?_
  refine lv_lconst (v := 0) hx hb dX9_run_2 (by decide) ?_
  refine lv_ldc2 (v := 10000) hx hb hC.2.2.2.1 (hC.2.2.2.2.1 _ lk_1417) dX9_run_3 ?_
  obtain ⟨r21, hq20, h⟩ := pq_i h
  refine r_cS (st' := [.int r21]) [.long x1.toInt64, .long (0 : Int64), .long (10000 : Int64)] [] hC hw (k_X9_in _ hq20) mk_X9_in lk_1240 ⟨Nat.le_trans (by decide) hR.1, Nat.le_trans (by decide) hR.2⟩ ⟨Nat.zero_le _, Nat.zero_le _⟩ rfl hl.1 rfl rfl (Nat.le_of_ble_eq_true rfl) dX9_run_6 (fun hP H locs hw => ?_)
  refine lv_if_ne (tgt := 15) hx hb dX9_run_9 (by decide) (fun c22 => ?_) (fun c22 => ?_)
  · have h := i_no c22 h
    refine lv_aload_n hx hb dX9_run_15 rfl (lv_at hl 0 rfl) ?_
    refine r_gI hC hw kc_8 hi0 18 rfl lk_1087 dX9_run_16 ?_
    refine lv_iconst (v := 1) hx hb dX9_run_19 (by decide) ?_
    refine lv_icmp_eq (tgt := 26) hx hb dX9_run_20 (by decide) (fun c23 => ?_) (fun c23 => ?_)
    · have h := i_yes c23 h
      refine lv_iconst (v := 0) hx hb dX9_run_26 (by decide) ?_
      refine lv_topi (fun y24 ey24 => ?_)
      have h := nm_i h y24 ey24
      refine lv_istore_n (lv' := [(2, .int y24), (0, .ref a0), (1, .int x1)]) hx hb dX9_run_27 rfl hl (by decide) rfl (fun ls hl => ?_)
      exact w_X9_run_28 hC hR LF o0 a0 x1 y24 _ _ _ _ hi0 hw (lv_sub hl [1, 2, 0] rfl) h
    · have h := i_no c23 h
      refine lv_bipush (v := (-3)) hx hb dX9_run_23 (by decide) ?_
      cases h
      exact r_iret hC hw dX9_run_25
  · have h := i_yes c22 h
    refine lv_bipush (v := (-2)) hx hb dX9_run_12 (by decide) ?_
    cases h
    exact r_iret hC hw dX9_run_14
set_option maxHeartbeats 4000000 in
set_option maxRecDepth 100000 in
theorem k_X9_run {l : Launch} {G : va_G} {cA : Nat → ClassId} {S : sh} {D D' : dt} {ad : Nat → Nat} (sz : Nat) {o0 a0 : Nat} {x1 : Int32} {r : Int32} (hi0 : Is S ad o0 a0 8) (h : f_X9_run S o0 x1 D = some (r, D')) : Co l yX9_run (Cond.code yX9_run cX9_run 4 (some .int) :: tb0) 7 184 [.ref a0, .int x1] G cA S D ad sz (some (.int r)) True D' := by
  refine Met.ofW (cc := cX9_run) (maxL := 4) (ret := (some .int)) (by decide) rfl ?_
  intro p e s m args below meth c s₁ B hml hv
  obtain ⟨rfl, hsz, hP, hK, hD0, hT, hX⟩ := hv
  subst hsz
  have hts := atoms_spec (ws := Cond.code yX9_run cX9_run 4 (some .int) :: tb0) B.pre
  have hC : Cx RX9 cX9_run 4 (some .int) p s m _ meth c := ⟨B.exec, B.bytes, hml, findClass_of_methodNamed B.named, fun w q => hts w (List.mem_cons_of_mem _ q), B.returns, B.notSynchronized⟩
  have hw := Wd.entry hP hK hD0 hT hX
  have hl := lv_entry ([.ref a0, .int x1]) (n := 4) (Nat.le_of_ble_eq_true rfl)
  rw [lg_entry_eq]
  exact w_X9_run_0 hC ⟨Nat.le_refl _, Nat.le_refl _⟩ o0 a0 x1 D _ _ _ hi0 hw hl h
set_option maxHeartbeats 4000000 in
set_option maxRecDepth 100000 in
theorem w_X9_context_36 {r : Int32} {D' : dt} (hC : Cx RX9 cX9_context 4 (some .int) p s m args meth c) (hR : 1 ≤ R.frames ∧ 25 ≤ R.locals) : ∀ (n : Nat), ∀ (o0 a0 : Nat) (x1 : Int32) (x2 : Int32) (x3 : Int32) (D : dt) (H : Heap) (locs : List Loc) (ls : Array Slot), Is S ad o0 a0 8 → Wd G cA S D ad A s H locs → lv_has ls 4 [(0, .ref a0), (1, .int x1), (2, .int x2), (3, .int x3)] → f_X9_context_36 S n o0 x1 x2 x3 D = some (r, D') → W p l e R s m args below meth c H locs 0 0 (MQ below (Qn (some (.int r)) True (wpost G cA S D' ad A) A) args s 0 0 A) (F0 m 36 ls []) := by
  obtain ⟨hx, hb, -⟩ := id hC
  intro n
  induction n with
  | zero =>
    intro o0 a0 x1 x2 x3 D H locs ls hi0 hw hl h
    rw [f_X9_context_36.eq_1] at h
    cases h
  | succ n ih =>
    intro o0 a0 x1 x2 x3 D H locs ls hi0 hw hl h
    rw [f_X9_context_36.eq_2] at h
    refine lv_iload_n hx hb dX9_context_36 rfl (lv_at hl 3 rfl) ?_
    refine lv_iload_n hx hb dX9_context_37 rfl (lv_at hl 1 rfl) ?_
    refine lv_icmp_ge (tgt := 54) hx hb dX9_context_38 (by decide) (fun c16 => ?_) (fun c16 => ?_)
    · have h := i_yes c16 h
      refine lv_aload_n hx hb dX9_context_54 rfl (lv_at hl 0 rfl) ?_
      refine lv_iload_n hx hb dX9_context_55 rfl (lv_at hl 1 rfl) ?_
      refine r_pI hC hw kc_8 hi0 7 rfl lk_1076 rfl rfl rfl dX9_context_56 (fun D17 eD17 H locs hw => ?_)
      have h := nm_i h D17 eD17
      refine lv_iload_n hx hb dX9_context_59 rfl (lv_at hl 2 rfl) ?_
      cases h
      exact r_iret hC hw dX9_context_60
    · have h := i_no c16 h
      refine lv_aload_n hx hb dX9_context_41 rfl (lv_at hl 0 rfl) ?_
      obtain ⟨o18, ho21, h⟩ := rq_i h
      refine r_getR hC hw kc_8 hi0 6 rfl lk_1075 dX9_context_42 rfl ho21 (fun a19 hi20 => ?_)
      refine lv_iload_n hx hb dX9_context_45 rfl (lv_at hl 3 rfl) ?_
      refine lv_iconst (v := 0) hx hb dX9_context_46 (by decide) ?_
      obtain ⟨hn22, h⟩ := ix_i h
      refine r_ias hC hw hi20 hn22 dX9_context_47 (fun D23 eD23 H locs hw => ?_)
      have h := nm_i h D23 eD23
      obtain ⟨y24, ey24⟩ : ∃ z : Int32, z = x3 + 1 := ⟨_, rfl⟩
      have h := nm_i h y24 ey24
      refine lv_iinc (v := y24) (lv' := [(3, .int y24), (0, .ref a0), (1, .int x1), (2, .int x2)]) hx hb dX9_context_48 hl (k := 3) rfl (by rw [ey24]; rfl) (by decide) rfl (fun ls hl => ?_)
      refine lv_goto (tgt := 36) hx hb dX9_context_51 (by decide) ?_
      exact ih o0 a0 x1 x2 y24 _ _ _ _ hi0 hw (lv_sub hl [1, 2, 3, 0] rfl) h
set_option maxHeartbeats 4000000 in
set_option maxRecDepth 100000 in
theorem w_X9_context_0 {r : Int32} {D' : dt} (hC : Cx RX9 cX9_context 4 (some .int) p s m args meth c) (hR : 1 ≤ R.frames ∧ 25 ≤ R.locals) : ∀ (o0 a0 : Nat) (x1 : Int32) (D : dt) (H : Heap) (locs : List Loc) (ls : Array Slot), Is S ad o0 a0 8 → Wd G cA S D ad A s H locs → lv_has ls 4 [(0, .ref a0), (1, .int x1)] → f_X9_context S o0 x1 D = some (r, D') → W p l e R s m args below meth c H locs 0 0 (MQ below (Qn (some (.int r)) True (wpost G cA S D' ad A) A) args s 0 0 A) (F0 m 0 ls []) := by
  obtain ⟨hx, hb, -⟩ := id hC
  intro o0 a0 x1 D H locs ls hi0 hw hl h
  unfold f_X9_context at h
  refine lv_iload_n hx hb dX9_context_0 rfl (lv_at hl 1 rfl) ?_
  refine lv_i2l (v := x1.toInt64) hx hb dX9_context_1 rfl ?_
  refine lv_lconst (v := 0) hx hb dX9_context_2 (by decide) ?_
  refine lv_ldc2 (v := 256) hx hb hC.2.2.2.1 (hC.2.2.2.2.1 _ lk_1423) dX9_context_3 ?_
  obtain ⟨r26, hq25, h⟩ := pq_i h
  refine r_cS (st' := [.int r26]) [.long x1.toInt64, .long (0 : Int64), .long (256 : Int64)] [] hC hw (k_X9_in _ hq25) mk_X9_in lk_1240 ⟨Nat.le_trans (by decide) hR.1, Nat.le_trans (by decide) hR.2⟩ ⟨Nat.zero_le _, Nat.zero_le _⟩ rfl hl.1 rfl rfl (Nat.le_of_ble_eq_true rfl) dX9_context_6 (fun hP H locs hw => ?_)
  refine lv_if_ne (tgt := 15) hx hb dX9_context_9 (by decide) (fun c27 => ?_) (fun c27 => ?_)
  · have h := i_no c27 h
    refine lv_aload_n hx hb dX9_context_15 rfl (lv_at hl 0 rfl) ?_
    refine r_gI hC hw kc_8 hi0 18 rfl lk_1087 dX9_context_16 ?_
    refine lv_iconst (v := 1) hx hb dX9_context_19 (by decide) ?_
    refine lv_icmp_ne (tgt := 26) hx hb dX9_context_20 (by decide) (fun c28 => ?_) (fun c28 => ?_)
    · have h := i_no c28 h
      refine lv_aload_n hx hb dX9_context_26 rfl (lv_at hl 0 rfl) ?_
      refine r_gI hC hw kc_8 hi0 7 rfl lk_1076 dX9_context_27 ?_
      refine lv_topi (fun y29 ey29 => ?_)
      have h := nm_i h y29 ey29
      refine lv_istore_n (lv' := [(2, .int y29), (0, .ref a0), (1, .int x1)]) hx hb dX9_context_30 rfl hl (by decide) rfl (fun ls hl => ?_)
      refine lv_aload_n hx hb dX9_context_31 rfl (lv_at hl 1 rfl) ?_
      refine r_gI hC hw kc_8 hi0 7 rfl lk_1076 dX9_context_32 ?_
      refine lv_topi (fun y30 ey30 => ?_)
      have h := nm_i h y30 ey30
      refine lv_istore_n (lv' := [(3, .int y30), (2, .int y29), (0, .ref a0), (1, .int x1)]) hx hb dX9_context_35 rfl hl (by decide) rfl (fun ls hl => ?_)
      exact w_X9_context_36 hC hR LF o0 a0 x1 y29 y30 _ _ _ _ hi0 hw (lv_sub hl [2, 3, 1, 0] rfl) h
    · have h := i_yes c28 h
      refine lv_bipush (v := (-3)) hx hb dX9_context_23 (by decide) ?_
      cases h
      exact r_iret hC hw dX9_context_25
  · have h := i_yes c27 h
    refine lv_bipush (v := (-2)) hx hb dX9_context_12 (by decide) ?_
    cases h
    exact r_iret hC hw dX9_context_14
set_option maxHeartbeats 4000000 in
set_option maxRecDepth 100000 in
theorem k_X9_context {l : Launch} {G : va_G} {cA : Nat → ClassId} {S : sh} {D D' : dt} {ad : Nat → Nat} (sz : Nat) {o0 a0 : Nat} {x1 : Int32} {r : Int32} (hi0 : Is S ad o0 a0 8) (h : f_X9_context S o0 x1 D = some (r, D')) : Co l yX9_context (Cond.code yX9_context cX9_context 4 (some .int) :: tb0) 1 25 [.ref a0, .int x1] G cA S D ad sz (some (.int r)) True D' := by
  refine Met.ofW (cc := cX9_context) (maxL := 4) (ret := (some .int)) (by decide) rfl ?_
  intro p e s m args below meth c s₁ B hml hv
  obtain ⟨rfl, hsz, hP, hK, hD0, hT, hX⟩ := hv
  subst hsz
  have hts := atoms_spec (ws := Cond.code yX9_context cX9_context 4 (some .int) :: tb0) B.pre
  have hC : Cx RX9 cX9_context 4 (some .int) p s m _ meth c := ⟨B.exec, B.bytes, hml, findClass_of_methodNamed B.named, fun w q => hts w (List.mem_cons_of_mem _ q), B.returns, B.notSynchronized⟩
  have hw := Wd.entry hP hK hD0 hT hX
  have hl := lv_entry ([.ref a0, .int x1]) (n := 4) (Nat.le_of_ble_eq_true rfl)
  rw [lg_entry_eq]
  exact w_X9_context_0 hC ⟨Nat.le_refl _, Nat.le_refl _⟩ o0 a0 x1 D _ _ _ hi0 hw hl h
set_option maxHeartbeats 4000000 in
set_option maxRecDepth 100000 in
theorem w_X9_poke_0 {r : Int32} {D' : dt} (hC : Cx RX9 cX9_poke 4 (some .int) p s m args meth c) (hR : 1 ≤ R.frames ∧ 25 ≤ R.locals) : ∀ (o0 a0 : Nat) (x1 : Int32) (x2 : Int32) (D : dt) (H : Heap) (locs : List Loc) (ls : Array Slot), Is S ad o0 a0 8 → Wd G cA S D ad A s H locs → lv_has ls 4 [(0, .ref a0), (1, .int x1), (2, .int x2)] → f_X9_poke S o0 x1 x2 D = some (r, D') → W p l e R s m args below meth c H locs 0 0 (MQ below (Qn (some (.int r)) True (wpost G cA S D' ad A) A) args s 0 0 A) (F0 m 0 ls []) := by
  obtain ⟨hx, hb, -⟩ := id hC
  intro o0 a0 x1 x2 D H locs ls hi0 hw hl h
  unfold f_X9_poke at h
  refine lv_iload_n hx hb dX9_poke_0 rfl (lv_at hl 1 rfl) ?_
  refine lv_i2l (v := x1.toInt64) hx hb dX9_poke_1 rfl ?_
  refine lv_lconst (v := 0) hx hb dX9_poke_2 (by decide) ?_
  refine lv_aload_n hx hb dX9_poke_3 rfl (lv_at hl 0 rfl) ?_
  refine r_gI hC hw kc_8 hi0 7 rfl lk_1076 dX9_poke_4 ?_
  refine lv_iconst (v := 1) hx hb dX9_poke_7 (by decide) ?_
  refine lv_isub hx hb dX9_poke_8 ?_
  refine lv_i2l (v := ((gI D o0 7) - (1 : Int32)).toInt64) hx hb dX9_poke_9 rfl ?_
  obtain ⟨r21, hq20, h⟩ := pq_i h
  refine r_cS (st' := [.int r21]) [.long x1.toInt64, .long (0 : Int64), .long (((gI D o0 7) - (1 : Int32)).toInt64)] [] hC hw (k_X9_in _ hq20) mk_X9_in lk_1240 ⟨Nat.le_trans (by decide) hR.1, Nat.le_trans (by decide) hR.2⟩ ⟨Nat.zero_le _, Nat.zero_le _⟩ rfl hl.1 rfl rfl (Nat.le_of_ble_eq_true rfl) dX9_poke_10 (fun hP H locs hw => ?_)
  refine lv_if_ne (tgt := 18) hx hb dX9_poke_13 (by decide) (fun c22 => ?_) (fun c22 => ?_)
  · have h := i_no c22 h
    refine lv_iload_n hx hb dX9_poke_18 rfl (lv_at hl 2 rfl) ?_
    refine lv_i2l (v := x2.toInt64) hx hb dX9_poke_19 rfl ?_
    refine lv_lconst (v := 0) hx hb dX9_poke_20 (by decide) ?_
    refine lv_ldc2 (v := 255) hx hb hC.2.2.2.1 (hC.2.2.2.2.1 _ lk_1239) dX9_poke_21 ?_
    obtain ⟨r24, hq23, h⟩ := pq_i h
    refine r_cS (st' := [.int r24]) [.long x2.toInt64, .long (0 : Int64), .long (255 : Int64)] [] hC hw (k_X9_in _ hq23) mk_X9_in lk_1240 ⟨Nat.le_trans (by decide) hR.1, Nat.le_trans (by decide) hR.2⟩ ⟨Nat.zero_le _, Nat.zero_le _⟩ rfl hl.1 rfl rfl (Nat.le_of_ble_eq_true rfl) dX9_poke_24 (fun hP H locs hw => ?_)
    refine lv_if_ne (tgt := 33) hx hb dX9_poke_27 (by decide) (fun c25 => ?_) (fun c25 => ?_)
    · have h := i_no c25 h
      refine lv_aload_n hx hb dX9_poke_33 rfl (lv_at hl 0 rfl) ?_
      refine r_gI hC hw kc_8 hi0 18 rfl lk_1087 dX9_poke_34 ?_
      refine lv_iconst (v := 1) hx hb dX9_poke_37 (by decide) ?_
      refine lv_icmp_ne (tgt := 44) hx hb dX9_poke_38 (by decide) (fun c26 => ?_) (fun c26 => ?_)
      · have h := i_no c26 h
        refine lv_aload_n hx hb dX9_poke_44 rfl (lv_at hl 0 rfl) ?_
        obtain ⟨o27, ho30, h⟩ := rq_i h
        refine r_getR hC hw kc_8 hi0 6 rfl lk_1075 dX9_poke_45 rfl ho30 (fun a28 hi29 => ?_)
        refine lv_iload_n hx hb dX9_poke_48 rfl (lv_at hl 1 rfl) ?_
        obtain ⟨hn31, h⟩ := ix_i h
        refine r_iald hC hw hi29 hn31 dX9_poke_49 ?_
        refine lv_topi (fun y32 ey32 => ?_)
        have h := nm_i h y32 ey32
        refine lv_istore_n (lv' := [(3, .int y32), (0, .ref a0), (1, .int x1), (2, .int x2)]) hx hb dX9_poke_50 rfl hl (by decide) rfl (fun ls hl => ?_)
        refine lv_aload_n hx hb dX9_poke_51 rfl (lv_at hl 1 rfl) ?_
        obtain ⟨o33, ho36, h⟩ := rq_i h
        refine r_getR hC hw kc_8 hi0 6 rfl lk_1075 dX9_poke_52 rfl ho36 (fun a34 hi35 => ?_)
        refine lv_iload_n hx hb dX9_poke_55 rfl (lv_at hl 2 rfl) ?_
        refine lv_iload_n hx hb dX9_poke_56 rfl (lv_at hl 3 rfl) ?_
        obtain ⟨hn37, h⟩ := ix_i h
        refine r_ias hC hw hi35 hn37 dX9_poke_57 (fun D38 eD38 H locs hw => ?_)
        have h := nm_i h D38 eD38
        refine lv_iload_n hx hb dX9_poke_58 rfl (lv_at hl 0 rfl) ?_
        cases h
        exact r_iret hC hw dX9_poke_59
      · have h := i_yes c26 h
        refine lv_bipush (v := (-3)) hx hb dX9_poke_41 (by decide) ?_
        cases h
        exact r_iret hC hw dX9_poke_43
    · have h := i_yes c25 h
      refine lv_bipush (v := (-2)) hx hb dX9_poke_30 (by decide) ?_
      cases h
      exact r_iret hC hw dX9_poke_32
  · have h := i_yes c22 h
    refine lv_iconst (v := (-1)) hx hb dX9_poke_16 (by decide) ?_
    cases h
    exact r_iret hC hw dX9_poke_17
set_option maxHeartbeats 4000000 in
set_option maxRecDepth 100000 in
theorem k_X9_poke {l : Launch} {G : va_G} {cA : Nat → ClassId} {S : sh} {D D' : dt} {ad : Nat → Nat} (sz : Nat) {o0 a0 : Nat} {x1 : Int32} {x2 : Int32} {r : Int32} (hi0 : Is S ad o0 a0 8) (h : f_X9_poke S o0 x1 x2 D = some (r, D')) : Co l yX9_poke (Cond.code yX9_poke cX9_poke 4 (some .int) :: tb0) 1 25 [.ref a0, .int x1, .int x2] G cA S D ad sz (some (.int r)) True D' := by
  refine Met.ofW (cc := cX9_poke) (maxL := 4) (ret := (some .int)) (by decide) rfl ?_
  intro p e s m args below meth c s₁ B hml hv
  obtain ⟨rfl, hsz, hP, hK, hD0, hT, hX⟩ := hv
  subst hsz
  have hts := atoms_spec (ws := Cond.code yX9_poke cX9_poke 4 (some .int) :: tb0) B.pre
  have hC : Cx RX9 cX9_poke 4 (some .int) p s m _ meth c := ⟨B.exec, B.bytes, hml, findClass_of_methodNamed B.named, fun w q => hts w (List.mem_cons_of_mem _ q), B.returns, B.notSynchronized⟩
  have hw := Wd.entry hP hK hD0 hT hX
  have hl := lv_entry ([.ref a0, .int x1, .int x2]) (n := 4) (Nat.le_of_ble_eq_true rfl)
  rw [lg_entry_eq]
  exact w_X9_poke_0 hC ⟨Nat.le_refl _, Nat.le_refl _⟩ o0 a0 x1 x2 D _ _ _ hi0 hw hl h
set_option maxHeartbeats 4000000 in
set_option maxRecDepth 100000 in
theorem w_X9_tick_19 {r : Int64} {D' : dt} (hC : Cx RX9 cX9_tick 3 (some .long) p s m args meth c) (hR : 0 ≤ R.frames ∧ 0 ≤ R.locals) : ∀  (D : dt) (H : Heap) (locs : List Loc) (ls : Array Slot), Wd G cA S D ad A s H locs → lv_has ls 3 [] → f_X9_tick_19 S D = some (r, D') → W p l e R s m args below meth c H locs 0 0 (MQ below (Qn (some (.long r)) True (wpost G cA S D' ad A) A) args s 0 0 A) (F0 m 19 ls []) := by
  obtain ⟨hx, hb, -⟩ := id hC
  intro D H locs ls  hw hl h
  unfold f_X9_tick_19 at h
  refine lv_ldc2 (v := (-2)) hx hb hC.2.2.2.1 (hC.2.2.2.2.1 _ lk_1433) dX9_tick_19 ?_
  cases h
  exact r_lret hC hw dX9_tick_22
set_option maxHeartbeats 4000000 in
set_option maxRecDepth 100000 in
theorem w_X9_tick_0 {r : Int64} {D' : dt} (hC : Cx RX9 cX9_tick 3 (some .long) p s m args meth c) (hR : 0 ≤ R.frames ∧ 0 ≤ R.locals) : ∀ (o0 a0 : Nat) (x1 : Int64) (D : dt) (H : Heap) (locs : List Loc) (ls : Array Slot), Is S ad o0 a0 8 → Wd G cA S D ad A s H locs → lv_has ls 3 [(0, .ref a0), (1, .long x1)] → f_X9_tick S o0 x1 D = some (r, D') → W p l e R s m args below meth c H locs 0 0 (MQ below (Qn (some (.long r)) True (wpost G cA S D' ad A) A) args s 0 0 A) (F0 m 0 ls []) := by
  obtain ⟨hx, hb, -⟩ := id hC
  intro o0 a0 x1 D H locs ls hi0 hw hl h
  unfold f_X9_tick at h
  refine lv_lload_n hx hb dX9_tick_0 rfl (lv_at hl 1 rfl) ?_
  refine lv_lconst (v := 0) hx hb dX9_tick_1 (by decide) ?_
  refine W.lcmp hx hb dX9_tick_2 ?_
  refine lv_if_lt (tgt := 19) hx hb dX9_tick_3 (by decide) (fun c4 => ?_) (fun c4 => ?_)
  · have h := i_yes c4 h
    exact w_X9_tick_19 hC hR _ _ _ _ hw (lv_sub hl [] rfl) h
  · have h := i_no c4 h
    refine lv_lload_n hx hb dX9_tick_6 rfl (lv_at hl 1 rfl) ?_
    refine lv_ldc2 (v := 4611686018427387904) hx hb hC.2.2.2.1 (hC.2.2.2.2.1 _ lk_1432) dX9_tick_7 ?_
    refine lv_aload_n hx hb dX9_tick_10 rfl (lv_at hl 0 rfl) ?_
    refine r_gL hC hw kc_8 hi0 17 rfl lk_1086 dX9_tick_11 ?_
    refine lv_lsub hx hb dX9_tick_14 ?_
    refine W.lcmp hx hb dX9_tick_15 ?_
    refine lv_if_le (tgt := 23) hx hb dX9_tick_16 (by decide) (fun c5 => ?_) (fun c5 => ?_)
    · have h := i_yes c5 h
      refine lv_aload_n hx hb dX9_tick_23 rfl (lv_at hl 0 rfl) ?_
      refine lv_dup hx hb dX9_tick_24 rfl ?_
      refine r_gL hC hw kc_8 hi0 17 rfl lk_1086 dX9_tick_25 ?_
      refine lv_lload_n hx hb dX9_tick_28 rfl (lv_at hl 1 rfl) ?_
      refine lv_ladd hx hb dX9_tick_29 ?_
      refine r_pL hC hw kc_8 hi0 17 rfl lk_1086 rfl rfl rfl dX9_tick_30 (fun D6 eD6 H locs hw => ?_)
      have h := nm_i h D6 eD6
      refine lv_aload_n hx hb dX9_tick_33 rfl (lv_at hl 0 rfl) ?_
      refine r_gL hC hw kc_8 hi0 17 rfl lk_1086 dX9_tick_34 ?_
      cases h
      exact r_lret hC hw dX9_tick_37
    · have h := i_no c5 h
      exact w_X9_tick_19 hC hR _ _ _ _ hw (lv_sub hl [] rfl) h
set_option maxHeartbeats 4000000 in
set_option maxRecDepth 100000 in
theorem k_X9_tick {l : Launch} {G : va_G} {cA : Nat → ClassId} {S : sh} {D D' : dt} {ad : Nat → Nat} (sz : Nat) {o0 a0 : Nat} {x1 : Int64} {r : Int64} (hi0 : Is S ad o0 a0 8) (h : f_X9_tick S o0 x1 D = some (r, D')) : Co l yX9_tick (Cond.code yX9_tick cX9_tick 3 (some .long) :: tb0) 0 0 [.ref a0, .long x1] G cA S D ad sz (some (.long r)) True D' := by
  refine Met.ofW (cc := cX9_tick) (maxL := 3) (ret := (some .long)) (by decide) rfl ?_
  intro p e s m args below meth c s₁ B hml hv
  obtain ⟨rfl, hsz, hP, hK, hD0, hT, hX⟩ := hv
  subst hsz
  have hts := atoms_spec (ws := Cond.code yX9_tick cX9_tick 3 (some .long) :: tb0) B.pre
  have hC : Cx RX9 cX9_tick 3 (some .long) p s m _ meth c := ⟨B.exec, B.bytes, hml, findClass_of_methodNamed B.named, fun w q => hts w (List.mem_cons_of_mem _ q), B.returns, B.notSynchronized⟩
  have hw := Wd.entry hP hK hD0 hT hX
  have hl := lv_entry ([.ref a0, .long x1]) (n := 3) (Nat.le_of_ble_eq_true rfl)
  rw [lg_entry_eq]
  exact w_X9_tick_0 hC ⟨Nat.le_refl _, Nat.le_refl _⟩ o0 a0 x1 D _ _ _ hi0 hw hl h
set_option maxHeartbeats 4000000 in
set_option maxRecDepth 100000 in
theorem w_X9_told_0 {r : Int32} {D' : dt} (hC : Cx RX9 cX9_told 2 (some .int) p s m args meth c) (hR : 0 ≤ R.frames ∧ 0 ≤ R.locals) : ∀ (o0 a0 : Nat) (x1 : Int32) (D : dt) (H : Heap) (locs : List Loc) (ls : Array Slot), Is S ad o0 a0 8 → Wd G cA S D ad A s H locs → lv_has ls 2 [(0, .ref a0), (1, .int x1)] → f_X9_told S o0 x1 D = some (r, D') → W p l e R s m args below meth c H locs 0 0 (MQ below (Qn (some (.int r)) True (wpost G cA S D' ad A) A) args s 0 0 A) (F0 m 0 ls []) := by
  obtain ⟨hx, hb, -⟩ := id hC
  intro o0 a0 x1 D H locs ls hi0 hw hl h
  unfold f_X9_told at h
  refine lv_iload_n hx hb dX9_told_0 rfl (lv_at hl 1 rfl) ?_
  by_cases c7 : x1 = 0
  · have h := i_yes c7 h
    refine lv_tableIn (off := 39) (tgt := 40) hx hb dX9_told_1 (by rw [c7]; decide) (by rw [c7]; decide) (by rw [c7] <;> rfl) (by decide) ?_
    refine lv_aload_n hx hb dX9_told_40 rfl (lv_at hl 0 rfl) ?_
    refine r_gI hC hw kc_8 hi0 18 rfl lk_1087 dX9_told_41 ?_
    cases h
    exact r_iret hC hw dX9_told_44
  have h := i_no c7 h
  by_cases c8 : x1 = 1
  · have h := i_yes c8 h
    refine lv_tableIn (off := 44) (tgt := 45) hx hb dX9_told_1 (by rw [c8]; decide) (by rw [c8]; decide) (by rw [c8] <;> rfl) (by decide) ?_
    refine lv_aload_n hx hb dX9_told_45 rfl (lv_at hl 0 rfl) ?_
    refine r_gI hC hw kc_8 hi0 19 rfl lk_1088 dX9_told_46 ?_
    cases h
    exact r_iret hC hw dX9_told_49
  have h := i_no c8 h
  by_cases c9 : x1 = 2
  · have h := i_yes c9 h
    refine lv_tableIn (off := 49) (tgt := 50) hx hb dX9_told_1 (by rw [c9]; decide) (by rw [c9]; decide) (by rw [c9] <;> rfl) (by decide) ?_
    refine lv_aload_n hx hb dX9_told_50 rfl (lv_at hl 0 rfl) ?_
    refine r_gI hC hw kc_8 hi0 20 rfl lk_1089 dX9_told_51 ?_
    cases h
    exact r_iret hC hw dX9_told_54
  have h := i_no c9 h
  by_cases c10 : x1 = 3
  · have h := i_yes c10 h
    refine lv_tableIn (off := 54) (tgt := 55) hx hb dX9_told_1 (by rw [c10]; decide) (by rw [c10]; decide) (by rw [c10] <;> rfl) (by decide) ?_
    refine lv_aload_n hx hb dX9_told_55 rfl (lv_at hl 0 rfl) ?_
    refine r_gI hC hw kc_8 hi0 0 rfl lk_1069 dX9_told_56 ?_
    cases h
    exact r_iret hC hw dX9_told_59
  have h := i_no c10 h
  by_cases c11 : x1 = 4
  · have h := i_yes c11 h
    refine lv_tableIn (off := 59) (tgt := 60) hx hb dX9_told_1 (by rw [c11]; decide) (by rw [c11]; decide) (by rw [c11] <;> rfl) (by decide) ?_
    refine lv_aload_n hx hb dX9_told_60 rfl (lv_at hl 0 rfl) ?_
    refine r_gI hC hw kc_8 hi0 9 rfl lk_1078 dX9_told_61 ?_
    cases h
    exact r_iret hC hw dX9_told_64
  have h := i_no c11 h
  by_cases c12 : x1 = 5
  · have h := i_yes c12 h
    refine lv_tableIn (off := 64) (tgt := 65) hx hb dX9_told_1 (by rw [c12]; decide) (by rw [c12]; decide) (by rw [c12] <;> rfl) (by decide) ?_
    refine lv_aload_n hx hb dX9_told_65 rfl (lv_at hl 0 rfl) ?_
    refine r_gI hC hw kc_8 hi0 22 rfl lk_1091 dX9_told_66 ?_
    cases h
    exact r_iret hC hw dX9_told_69
  have h := i_no c12 h
  refine lv_tableOut (tgt := 70) hx hb dX9_told_1 (by have nc7 := lv_neT c7 (a := 0) rfl; have nc8 := lv_neT c8 (a := 1) rfl; have nc9 := lv_neT c9 (a := 2) rfl; have nc10 := lv_neT c10 (a := 3) rfl; have nc11 := lv_neT c11 (a := 4) rfl; have nc12 := lv_neT c12 (a := 5) rfl; omega) (by decide) ?_
  refine lv_bipush (v := (-2)) hx hb dX9_told_70 (by decide) ?_
  cases h
  exact r_iret hC hw dX9_told_72
set_option maxHeartbeats 4000000 in
set_option maxRecDepth 100000 in
theorem k_X9_told {l : Launch} {G : va_G} {cA : Nat → ClassId} {S : sh} {D D' : dt} {ad : Nat → Nat} (sz : Nat) {o0 a0 : Nat} {x1 : Int32} {r : Int32} (hi0 : Is S ad o0 a0 8) (h : f_X9_told S o0 x1 D = some (r, D')) : Co l yX9_told (Cond.code yX9_told cX9_told 2 (some .int) :: tb0) 0 0 [.ref a0, .int x1] G cA S D ad sz (some (.int r)) True D' := by
  refine Met.ofW (cc := cX9_told) (maxL := 2) (ret := (some .int)) (by decide) rfl ?_
  intro p e s m args below meth c s₁ B hml hv
  obtain ⟨rfl, hsz, hP, hK, hD0, hT, hX⟩ := hv
  subst hsz
  have hts := atoms_spec (ws := Cond.code yX9_told cX9_told 2 (some .int) :: tb0) B.pre
  have hC : Cx RX9 cX9_told 2 (some .int) p s m _ meth c := ⟨B.exec, B.bytes, hml, findClass_of_methodNamed B.named, fun w q => hts w (List.mem_cons_of_mem _ q), B.returns, B.notSynchronized⟩
  have hw := Wd.entry hP hK hD0 hT hX
  have hl := lv_entry ([.ref a0, .int x1]) (n := 2) (Nat.le_of_ble_eq_true rfl)
  rw [lg_entry_eq]
  exact w_X9_told_0 hC ⟨Nat.le_refl _, Nat.le_refl _⟩ o0 a0 x1 D _ _ _ hi0 hw hl h
set_option maxHeartbeats 4000000 in
set_option maxRecDepth 100000 in
theorem w_X9_register_0 {r : Int64} {D' : dt} (hC : Cx RX9 cX9_register 2 (some .long) p s m args meth c) (hR : 1 ≤ R.frames ∧ 25 ≤ R.locals) : ∀ (o0 a0 : Nat) (x1 : Int32) (D : dt) (H : Heap) (locs : List Loc) (ls : Array Slot), Is S ad o0 a0 8 → Wd G cA S D ad A s H locs → lv_has ls 2 [(0, .ref a0), (1, .int x1)] → f_X9_register S o0 x1 D = some (r, D') → W p l e R s m args below meth c H locs 0 0 (MQ below (Qn (some (.long r)) True (wpost G cA S D' ad A) A) args s 0 0 A) (F0 m 0 ls []) := by
  obtain ⟨hx, hb, -⟩ := id hC
  intro o0 a0 x1 D H locs ls hi0 hw hl h
  unfold f_X9_register at h
  refine lv_iload_n hx hb dX9_register_0 rfl (lv_at hl 1 rfl) ?_
  refine lv_i2l (v := x1.toInt64) hx hb dX9_register_1 rfl ?_
  refine lv_lconst (v := 0) hx hb dX9_register_2 (by decide) ?_
  refine lv_ldc2 (v := 10) hx hb hC.2.2.2.1 (hC.2.2.2.2.1 _ lk_1442) dX9_register_3 ?_
  obtain ⟨r10, hq9, h⟩ := pq_i h
  refine r_cS (st' := [.int r10]) [.long x1.toInt64, .long (0 : Int64), .long (10 : Int64)] [] hC hw (k_X9_in _ hq9) mk_X9_in lk_1240 ⟨Nat.le_trans (by decide) hR.1, Nat.le_trans (by decide) hR.2⟩ ⟨Nat.zero_le _, Nat.zero_le _⟩ rfl hl.1 rfl rfl (Nat.le_of_ble_eq_true rfl) dX9_register_6 (fun hP H locs hw => ?_)
  refine lv_if_eq (tgt := 21) hx hb dX9_register_9 (by decide) (fun c11 => ?_) (fun c11 => ?_)
  · have h := i_yes c11 h
    refine lv_lconst (v := 0) hx hb dX9_register_21 (by decide) ?_
    cases h
    exact r_lret hC hw dX9_register_22
  · have h := i_no c11 h
    refine lv_aload_n hx hb dX9_register_12 rfl (lv_at hl 0 rfl) ?_
    obtain ⟨o12, ho15, h⟩ := rq_i h
    refine r_getR hC hw kc_8 hi0 21 rfl lk_1090 dX9_register_13 rfl ho15 (fun a13 hi14 => ?_)
    refine lv_iload_n hx hb dX9_register_16 rfl (lv_at hl 1 rfl) ?_
    obtain ⟨hn16, h⟩ := ix_i h
    refine r_lald hC hw hi14 hn16 dX9_register_17 ?_
    refine lv_goto (tgt := 22) hx hb dX9_register_18 (by decide) ?_
    cases h
    exact r_lret hC hw dX9_register_22
set_option maxHeartbeats 4000000 in
set_option maxRecDepth 100000 in
theorem k_X9_register {l : Launch} {G : va_G} {cA : Nat → ClassId} {S : sh} {D D' : dt} {ad : Nat → Nat} (sz : Nat) {o0 a0 : Nat} {x1 : Int32} {r : Int64} (hi0 : Is S ad o0 a0 8) (h : f_X9_register S o0 x1 D = some (r, D')) : Co l yX9_register (Cond.code yX9_register cX9_register 2 (some .long) :: tb0) 1 25 [.ref a0, .int x1] G cA S D ad sz (some (.long r)) True D' := by
  refine Met.ofW (cc := cX9_register) (maxL := 2) (ret := (some .long)) (by decide) rfl ?_
  intro p e s m args below meth c s₁ B hml hv
  obtain ⟨rfl, hsz, hP, hK, hD0, hT, hX⟩ := hv
  subst hsz
  have hts := atoms_spec (ws := Cond.code yX9_register cX9_register 2 (some .long) :: tb0) B.pre
  have hC : Cx RX9 cX9_register 2 (some .long) p s m _ meth c := ⟨B.exec, B.bytes, hml, findClass_of_methodNamed B.named, fun w q => hts w (List.mem_cons_of_mem _ q), B.returns, B.notSynchronized⟩
  have hw := Wd.entry hP hK hD0 hT hX
  have hl := lv_entry ([.ref a0, .int x1]) (n := 2) (Nat.le_of_ble_eq_true rfl)
  rw [lg_entry_eq]
  exact w_X9_register_0 hC ⟨Nat.le_refl _, Nat.le_refl _⟩ o0 a0 x1 D _ _ _ hi0 hw hl h
set_option maxHeartbeats 4000000 in
set_option maxRecDepth 100000 in
theorem w_X9_putAt_18 {r : Int64} {D' : dt} (hC : Cx RX9 cX9_putAt 3 (some .long) p s m args meth c) (hR : 1 ≤ R.frames ∧ 25 ≤ R.locals) : ∀ (o0 a0 : Nat) (x1 : Int32) (xs0 : Int32) (D : dt) (H : Heap) (locs : List Loc) (ls : Array Slot), Is S ad o0 a0 8 → Wd G cA S D ad A s H locs → lv_has ls 3 [(0, .ref a0), (1, .int x1)] → f_X9_putAt_18 S o0 x1 xs0 D = some (r, D') → W p l e R s m args below meth c H locs 0 0 (MQ below (Qn (some (.long r)) True (wpost G cA S D' ad A) A) args s 0 0 A) (F0 m 18 ls [.int xs0]) := by
  obtain ⟨hx, hb, -⟩ := id hC
  intro o0 a0 x1 xs0 D H locs ls hi0 hw hl h
  unfold f_X9_putAt_18 at h
  refine lv_istore_n (lv' := [(2, .int xs0), (0, .ref a0), (1, .int x1)]) hx hb dX9_putAt_18 rfl hl (by decide) rfl (fun ls hl => ?_)
  refine lv_iload_n hx hb dX9_putAt_19 rfl (lv_at hl 2 rfl) ?_
  refine lv_i2l (v := x1.toInt64) hx hb dX9_putAt_20 rfl ?_
  refine lv_lconst (v := 0) hx hb dX9_putAt_21 (by decide) ?_
  refine lv_iload_n hx hb dX9_putAt_22 rfl (lv_at hl 0 rfl) ?_
  refine lv_iconst (v := 1) hx hb dX9_putAt_23 (by decide) ?_
  refine lv_isub hx hb dX9_putAt_24 ?_
  refine lv_i2l (v := (xs0 - (1 : Int32)).toInt64) hx hb dX9_putAt_25 rfl ?_
  obtain ⟨r11, hq10, h⟩ := pq_i h
  refine r_cS (st' := [.int r11]) [.long x1.toInt64, .long (0 : Int64), .long ((xs0 - (1 : Int32)).toInt64)] [] hC hw (k_X9_in _ hq10) mk_X9_in lk_1240 ⟨Nat.le_trans (by decide) hR.1, Nat.le_trans (by decide) hR.2⟩ ⟨Nat.zero_le _, Nat.zero_le _⟩ rfl hl.1 rfl rfl (Nat.le_of_ble_eq_true rfl) dX9_putAt_26 (fun hP H locs hw => ?_)
  refine lv_if_eq (tgt := 51) hx hb dX9_putAt_29 (by decide) (fun c12 => ?_) (fun c12 => ?_)
  · have h := i_yes c12 h
    refine lv_lconst (v := 0) hx hb dX9_putAt_51 (by decide) ?_
    cases h
    exact r_lret hC hw dX9_putAt_52
  · have h := i_no c12 h
    refine lv_aload_n hx hb dX9_putAt_32 rfl (lv_at hl 1 rfl) ?_
    obtain ⟨o13, ho16, h⟩ := rq_i h
    refine r_getR hC hw kc_8 hi0 23 rfl lk_1092 dX9_putAt_33 rfl ho16 (fun a14 hi15 => ?_)
    refine lv_aload_n hx hb dX9_putAt_36 rfl (lv_at hl 1 rfl) ?_
    refine r_gI hC hw kc_8 hi0 22 rfl lk_1091 dX9_putAt_37 ?_
    refine lv_iload_n hx hb dX9_putAt_40 rfl (lv_at hl 0 rfl) ?_
    refine lv_isub hx hb dX9_putAt_41 ?_
    refine lv_iload_n hx hb dX9_putAt_42 rfl (lv_at hl 2 rfl) ?_
    refine lv_iadd hx hb dX9_putAt_43 ?_
    refine lv_bipush (v := 32) hx hb dX9_putAt_44 (by decide) ?_
    refine lv_irem hx hb dX9_putAt_46 (by decide) ?_
    obtain ⟨hn17, h⟩ := ix_i h
    refine r_lald hC hw hi15 hn17 dX9_putAt_47 ?_
    refine lv_goto (tgt := 52) hx hb dX9_putAt_48 (by decide) ?_
    cases h
    exact r_lret hC hw dX9_putAt_52
set_option maxHeartbeats 4000000 in
set_option maxRecDepth 100000 in
theorem w_X9_putAt_0 {r : Int64} {D' : dt} (hC : Cx RX9 cX9_putAt 3 (some .long) p s m args meth c) (hR : 1 ≤ R.frames ∧ 25 ≤ R.locals) : ∀ (o0 a0 : Nat) (x1 : Int32) (D : dt) (H : Heap) (locs : List Loc) (ls : Array Slot), Is S ad o0 a0 8 → Wd G cA S D ad A s H locs → lv_has ls 3 [(0, .ref a0), (1, .int x1)] → f_X9_putAt S o0 x1 D = some (r, D') → W p l e R s m args below meth c H locs 0 0 (MQ below (Qn (some (.long r)) True (wpost G cA S D' ad A) A) args s 0 0 A) (F0 m 0 ls []) := by
  obtain ⟨hx, hb, -⟩ := id hC
  intro o0 a0 x1 D H locs ls hi0 hw hl h
  unfold f_X9_putAt at h
  refine lv_aload_n hx hb dX9_putAt_0 rfl (lv_at hl 0 rfl) ?_
  refine r_gI hC hw kc_8 hi0 22 rfl lk_1091 dX9_putAt_1 ?_
  refine lv_bipush (v := 32) hx hb dX9_putAt_4 (by decide) ?_
  refine lv_icmp_ge (tgt := 16) hx hb dX9_putAt_6 (by decide) (fun c18 => ?_) (fun c18 => ?_)
  · have h := i_yes c18 h
    refine lv_bipush (v := 32) hx hb dX9_putAt_16 (by decide) ?_
    exact w_X9_putAt_18 hC hR o0 a0 x1 (32 : Int32) _ _ _ _ hi0 hw (lv_sub hl [0, 1] rfl) h
  · have h := i_no c18 h
    refine lv_aload_n hx hb dX9_putAt_9 rfl (lv_at hl 0 rfl) ?_
    refine r_gI hC hw kc_8 hi0 22 rfl lk_1091 dX9_putAt_10 ?_
    refine lv_goto (tgt := 18) hx hb dX9_putAt_13 (by decide) ?_
    exact w_X9_putAt_18 hC hR o0 a0 x1 (gI D o0 22) _ _ _ _ hi0 hw (lv_sub hl [0, 1] rfl) h
set_option maxHeartbeats 4000000 in
set_option maxRecDepth 100000 in
theorem k_X9_putAt {l : Launch} {G : va_G} {cA : Nat → ClassId} {S : sh} {D D' : dt} {ad : Nat → Nat} (sz : Nat) {o0 a0 : Nat} {x1 : Int32} {r : Int64} (hi0 : Is S ad o0 a0 8) (h : f_X9_putAt S o0 x1 D = some (r, D')) : Co l yX9_putAt (Cond.code yX9_putAt cX9_putAt 3 (some .long) :: tb0) 1 25 [.ref a0, .int x1] G cA S D ad sz (some (.long r)) True D' := by
  refine Met.ofW (cc := cX9_putAt) (maxL := 3) (ret := (some .long)) (by decide) rfl ?_
  intro p e s m args below meth c s₁ B hml hv
  obtain ⟨rfl, hsz, hP, hK, hD0, hT, hX⟩ := hv
  subst hsz
  have hts := atoms_spec (ws := Cond.code yX9_putAt cX9_putAt 3 (some .long) :: tb0) B.pre
  have hC : Cx RX9 cX9_putAt 3 (some .long) p s m _ meth c := ⟨B.exec, B.bytes, hml, findClass_of_methodNamed B.named, fun w q => hts w (List.mem_cons_of_mem _ q), B.returns, B.notSynchronized⟩
  have hw := Wd.entry hP hK hD0 hT hX
  have hl := lv_entry ([.ref a0, .int x1]) (n := 3) (Nat.le_of_ble_eq_true rfl)
  rw [lg_entry_eq]
  exact w_X9_putAt_0 hC ⟨Nat.le_refl _, Nat.le_refl _⟩ o0 a0 x1 D _ _ _ hi0 hw hl h
set_option maxHeartbeats 4000000 in
set_option maxRecDepth 100000 in
theorem w_X9_take_175 {r : Unit} {D' : dt} (hC : Cx RX9 cX9_take 5 none p s m args meth c) (hR : 0 ≤ R.frames ∧ 0 ≤ R.locals) : ∀ (n : Nat), ∀ (o0 a0 : Nat) (x1 : Int32) (x2 : Int32) (D : dt) (H : Heap) (locs : List Loc) (ls : Array Slot), Is S ad o0 a0 8 → Wd G cA S D ad A s H locs → lv_has ls 5 [(0, .ref a0), (1, .int x1), (2, .int x2)] → f_X9_take_175 S n o0 x1 x2 D = some (r, D') → W p l e R s m args below meth c H locs 0 0 (MQ below (Qn none True (wpost G cA S D' ad A) A) args s 0 0 A) (F0 m 175 ls []) := by
  obtain ⟨hx, hb, -⟩ := id hC
  intro n
  induction n with
  | zero =>
    intro o0 a0 x1 x2 D H locs ls hi0 hw hl h
    rw [f_X9_take_175.eq_1] at h
    cases h
  | succ n ih =>
    intro o0 a0 x1 x2 D H locs ls hi0 hw hl h
    rw [f_X9_take_175.eq_2] at h
    refine lv_iload_n hx hb dX9_take_175 rfl (lv_at hl 2 rfl) ?_
    refine lv_sipush (v := 512) hx hb dX9_take_176 (by decide) ?_
    refine lv_icmp_ge (tgt := 206) hx hb dX9_take_179 (by decide) (fun c134 => ?_) (fun c134 => ?_)
    · have h := i_yes c134 h
      cases h
      exact r_vret hC hw dX9_take_206
    · have h := i_no c134 h
      refine lv_aload_n hx hb dX9_take_182 rfl (lv_at hl 0 rfl) ?_
      obtain ⟨o135, ho138, h⟩ := rq_i h
      refine r_getR hC hw kc_8 hi0 45 rfl lk_1114 dX9_take_183 rfl ho138 (fun a136 hi137 => ?_)
      refine lv_iload_n hx hb dX9_take_186 rfl (lv_at hl 2 rfl) ?_
      refine lv_aload_n hx hb dX9_take_187 rfl (lv_at hl 0 rfl) ?_
      obtain ⟨o139, ho142, h⟩ := rq_i h
      refine r_getR hC hw kc_8 hi0 34 rfl lk_1103 dX9_take_188 rfl ho142 (fun a140 hi141 => ?_)
      refine lv_sipush (v := 512) hx hb dX9_take_191 (by decide) ?_
      refine lv_iload_n hx hb dX9_take_194 rfl (lv_at hl 1 rfl) ?_
      refine lv_imul hx hb dX9_take_195 ?_
      refine lv_iload_n hx hb dX9_take_196 rfl (lv_at hl 2 rfl) ?_
      refine lv_iadd hx hb dX9_take_197 ?_
      obtain ⟨hn143, h⟩ := ix_i h
      refine r_zald hC hw hi141 hn143 dX9_take_198 ?_
      obtain ⟨hn144, h⟩ := ix_i h
      refine r_zas hC hw hi137 hn144 dX9_take_199 (fun D145 eD145 H locs hw => ?_)
      have h := nm_i h D145 eD145
      obtain ⟨y146, ey146⟩ : ∃ z : Int32, z = x2 + 1 := ⟨_, rfl⟩
      have h := nm_i h y146 ey146
      refine lv_iinc (v := y146) (lv' := [(2, .int y146), (0, .ref a0), (1, .int x1)]) hx hb dX9_take_200 hl (k := 2) rfl (by rw [ey146]; rfl) (by decide) rfl (fun ls hl => ?_)
      refine lv_goto (tgt := 175) hx hb dX9_take_203 (by decide) ?_
      exact ih o0 a0 x1 y146 _ _ _ _ hi0 hw (lv_sub hl [1, 2, 0] rfl) h
set_option maxHeartbeats 4000000 in
set_option maxRecDepth 100000 in
theorem w_X9_take_83 {r : Unit} {D' : dt} (hC : Cx RX9 cX9_take 5 none p s m args meth c) (hR : 0 ≤ R.frames ∧ 0 ≤ R.locals) : ∀ (n : Nat), ∀ (o0 a0 : Nat) (x1 : Int32) (x2 : Int32) (D : dt) (H : Heap) (locs : List Loc) (ls : Array Slot), Is S ad o0 a0 8 → Wd G cA S D ad A s H locs → lv_has ls 5 [(0, .ref a0), (1, .int x1), (2, .int x2)] → f_X9_take_83 S n o0 x1 x2 D = some (r, D') → W p l e R s m args below meth c H locs 0 0 (MQ below (Qn none True (wpost G cA S D' ad A) A) args s 0 0 A) (F0 m 83 ls []) := by
  obtain ⟨hx, hb, -⟩ := id hC
  intro n
  induction n with
  | zero =>
    intro o0 a0 x1 x2 D H locs ls hi0 hw hl h
    rw [f_X9_take_83.eq_1] at h
    cases h
  | succ n ih =>
    intro o0 a0 x1 x2 D H locs ls hi0 hw hl h
    rw [f_X9_take_83.eq_2] at h
    refine lv_iload_n hx hb dX9_take_83 rfl (lv_at hl 2 rfl) ?_
    refine lv_bipush (v := 64) hx hb dX9_take_84 (by decide) ?_
    refine lv_icmp_ge (tgt := 173) hx hb dX9_take_86 (by decide) (fun c147 => ?_) (fun c147 => ?_)
    · have h := i_yes c147 h
      refine lv_iconst (v := 0) hx hb dX9_take_173 (by decide) ?_
      refine lv_topi (fun y148 ey148 => ?_)
      have h := nm_i h y148 ey148
      refine lv_istore_n (lv' := [(2, .int y148), (0, .ref a0), (1, .int x1)]) hx hb dX9_take_174 rfl hl (by decide) rfl (fun ls hl => ?_)
      exact w_X9_take_175 hC hR LF o0 a0 x1 y148 _ _ _ _ hi0 hw (lv_sub hl [1, 2, 0] rfl) h
    · have h := i_no c147 h
      refine lv_bipush (v := 64) hx hb dX9_take_89 (by decide) ?_
      refine lv_iload_n hx hb dX9_take_91 rfl (lv_at hl 1 rfl) ?_
      refine lv_imul hx hb dX9_take_92 ?_
      refine lv_iload_n hx hb dX9_take_93 rfl (lv_at hl 2 rfl) ?_
      refine lv_iadd hx hb dX9_take_94 ?_
      refine lv_topi (fun y149 ey149 => ?_)
      have h := nm_i h y149 ey149
      refine lv_istore_n (lv' := [(3, .int y149), (0, .ref a0), (1, .int x1), (2, .int x2)]) hx hb dX9_take_95 rfl hl (by decide) rfl (fun ls hl => ?_)
      refine lv_bipush (v := 11) hx hb dX9_take_96 (by decide) ?_
      refine lv_iload_n hx hb dX9_take_98 rfl (lv_at hl 3 rfl) ?_
      refine lv_iadd hx hb dX9_take_99 ?_
      refine lv_topi (fun y150 ey150 => ?_)
      have h := nm_i h y150 ey150
      refine lv_istore (lv' := [(4, .int y150), (3, .int y149), (0, .ref a0), (1, .int x1), (2, .int x2)]) hx hb dX9_take_100 hl (by decide) rfl (fun ls hl => ?_)
      refine lv_aload_n hx hb dX9_take_102 rfl (lv_at hl 2 rfl) ?_
      obtain ⟨o151, ho154, h⟩ := rq_i h
      refine r_getR hC hw kc_8 hi0 40 rfl lk_1109 dX9_take_103 rfl ho154 (fun a152 hi153 => ?_)
      refine lv_iload hx hb dX9_take_106 (lv_at hl 0 rfl) ?_
      refine lv_aload_n hx hb dX9_take_108 rfl (lv_at hl 2 rfl) ?_
      obtain ⟨o155, ho158, h⟩ := rq_i h
      refine r_getR hC hw kc_8 hi0 35 rfl lk_1104 dX9_take_109 rfl ho158 (fun a156 hi157 => ?_)
      refine lv_iload_n hx hb dX9_take_112 rfl (lv_at hl 1 rfl) ?_
      obtain ⟨hn159, h⟩ := ix_i h
      refine r_iald hC hw hi157 hn159 dX9_take_113 ?_
      obtain ⟨hn160, h⟩ := ix_i h
      refine r_ias hC hw hi153 hn160 dX9_take_114 (fun D161 eD161 H locs hw => ?_)
      have h := nm_i h D161 eD161
      refine lv_aload_n hx hb dX9_take_115 rfl (lv_at hl 2 rfl) ?_
      obtain ⟨o162, ho165, h⟩ := rq_i h
      refine r_getR hC hw kc_8 hi0 41 rfl lk_1110 dX9_take_116 rfl ho165 (fun a163 hi164 => ?_)
      refine lv_iload hx hb dX9_take_119 (lv_at hl 0 rfl) ?_
      refine lv_aload_n hx hb dX9_take_121 rfl (lv_at hl 2 rfl) ?_
      obtain ⟨o166, ho169, h⟩ := rq_i h
      refine r_getR hC hw kc_8 hi0 36 rfl lk_1105 dX9_take_122 rfl ho169 (fun a167 hi168 => ?_)
      refine lv_iload_n hx hb dX9_take_125 rfl (lv_at hl 1 rfl) ?_
      obtain ⟨hn170, h⟩ := ix_i h
      refine r_lald hC hw hi168 hn170 dX9_take_126 ?_
      obtain ⟨hn171, h⟩ := ix_i h
      refine r_las hC hw hi164 hn171 dX9_take_127 (fun D172 eD172 H locs hw => ?_)
      have h := nm_i h D172 eD172
      refine lv_aload_n hx hb dX9_take_128 rfl (lv_at hl 2 rfl) ?_
      obtain ⟨o173, ho176, h⟩ := rq_i h
      refine r_getR hC hw kc_8 hi0 42 rfl lk_1111 dX9_take_129 rfl ho176 (fun a174 hi175 => ?_)
      refine lv_iload hx hb dX9_take_132 (lv_at hl 0 rfl) ?_
      refine lv_aload_n hx hb dX9_take_134 rfl (lv_at hl 2 rfl) ?_
      obtain ⟨o177, ho180, h⟩ := rq_i h
      refine r_getR hC hw kc_8 hi0 37 rfl lk_1106 dX9_take_135 rfl ho180 (fun a178 hi179 => ?_)
      refine lv_iload_n hx hb dX9_take_138 rfl (lv_at hl 1 rfl) ?_
      obtain ⟨hn181, h⟩ := ix_i h
      refine r_lald hC hw hi179 hn181 dX9_take_139 ?_
      obtain ⟨hn182, h⟩ := ix_i h
      refine r_las hC hw hi175 hn182 dX9_take_140 (fun D183 eD183 H locs hw => ?_)
      have h := nm_i h D183 eD183
      refine lv_aload_n hx hb dX9_take_141 rfl (lv_at hl 2 rfl) ?_
      obtain ⟨o184, ho187, h⟩ := rq_i h
      refine r_getR hC hw kc_8 hi0 43 rfl lk_1112 dX9_take_142 rfl ho187 (fun a185 hi186 => ?_)
      refine lv_iload hx hb dX9_take_145 (lv_at hl 0 rfl) ?_
      refine lv_aload_n hx hb dX9_take_147 rfl (lv_at hl 2 rfl) ?_
      obtain ⟨o188, ho191, h⟩ := rq_i h
      refine r_getR hC hw kc_8 hi0 38 rfl lk_1107 dX9_take_148 rfl ho191 (fun a189 hi190 => ?_)
      refine lv_iload_n hx hb dX9_take_151 rfl (lv_at hl 1 rfl) ?_
      obtain ⟨hn192, h⟩ := ix_i h
      refine r_iald hC hw hi190 hn192 dX9_take_152 ?_
      obtain ⟨hn193, h⟩ := ix_i h
      refine r_ias hC hw hi186 hn193 dX9_take_153 (fun D194 eD194 H locs hw => ?_)
      have h := nm_i h D194 eD194
      refine lv_aload_n hx hb dX9_take_154 rfl (lv_at hl 2 rfl) ?_
      obtain ⟨o195, ho198, h⟩ := rq_i h
      refine r_getR hC hw kc_8 hi0 44 rfl lk_1113 dX9_take_155 rfl ho198 (fun a196 hi197 => ?_)
      refine lv_iload hx hb dX9_take_158 (lv_at hl 0 rfl) ?_
      refine lv_aload_n hx hb dX9_take_160 rfl (lv_at hl 2 rfl) ?_
      obtain ⟨o199, ho202, h⟩ := rq_i h
      refine r_getR hC hw kc_8 hi0 39 rfl lk_1108 dX9_take_161 rfl ho202 (fun a200 hi201 => ?_)
      refine lv_iload_n hx hb dX9_take_164 rfl (lv_at hl 1 rfl) ?_
      obtain ⟨hn203, h⟩ := ix_i h
      refine r_iald hC hw hi201 hn203 dX9_take_165 ?_
      obtain ⟨hn204, h⟩ := ix_i h
      refine r_ias hC hw hi197 hn204 dX9_take_166 (fun D205 eD205 H locs hw => ?_)
      have h := nm_i h D205 eD205
      obtain ⟨y206, ey206⟩ : ∃ z : Int32, z = x2 + 1 := ⟨_, rfl⟩
      have h := nm_i h y206 ey206
      refine lv_iinc (v := y206) (lv' := [(2, .int y206), (4, .int y150), (3, .int y149), (0, .ref a0), (1, .int x1)]) hx hb dX9_take_167 hl (k := 4) rfl (by rw [ey206]; rfl) (by decide) rfl (fun ls hl => ?_)
      refine lv_goto (tgt := 83) hx hb dX9_take_170 (by decide) ?_
      exact ih o0 a0 x1 y206 _ _ _ _ hi0 hw (lv_sub hl [3, 4, 0] rfl) h
set_option maxHeartbeats 4000000 in
set_option maxRecDepth 100000 in
theorem w_X9_take_2 {r : Unit} {D' : dt} (hC : Cx RX9 cX9_take 5 none p s m args meth c) (hR : 0 ≤ R.frames ∧ 0 ≤ R.locals) : ∀ (n : Nat), ∀ (o0 a0 : Nat) (x1 : Int32) (x2 : Int32) (D : dt) (H : Heap) (locs : List Loc) (ls : Array Slot), Is S ad o0 a0 8 → Wd G cA S D ad A s H locs → lv_has ls 5 [(0, .ref a0), (1, .int x1), (2, .int x2)] → f_X9_take_2 S n o0 x1 x2 D = some (r, D') → W p l e R s m args below meth c H locs 0 0 (MQ below (Qn none True (wpost G cA S D' ad A) A) args s 0 0 A) (F0 m 2 ls []) := by
  obtain ⟨hx, hb, -⟩ := id hC
  intro n
  induction n with
  | zero =>
    intro o0 a0 x1 x2 D H locs ls hi0 hw hl h
    rw [f_X9_take_2.eq_1] at h
    cases h
  | succ n ih =>
    intro o0 a0 x1 x2 D H locs ls hi0 hw hl h
    rw [f_X9_take_2.eq_2] at h
    refine lv_iload_n hx hb dX9_take_2 rfl (lv_at hl 2 rfl) ?_
    refine lv_bipush (v := 11) hx hb dX9_take_3 (by decide) ?_
    refine lv_icmp_ge (tgt := 81) hx hb dX9_take_5 (by decide) (fun c207 => ?_) (fun c207 => ?_)
    · have h := i_yes c207 h
      refine lv_iconst (v := 0) hx hb dX9_take_81 (by decide) ?_
      refine lv_topi (fun y208 ey208 => ?_)
      have h := nm_i h y208 ey208
      refine lv_istore_n (lv' := [(2, .int y208), (0, .ref a0), (1, .int x1)]) hx hb dX9_take_82 rfl hl (by decide) rfl (fun ls hl => ?_)
      exact w_X9_take_83 hC hR LF o0 a0 x1 y208 _ _ _ _ hi0 hw (lv_sub hl [1, 2, 0] rfl) h
    · have h := i_no c207 h
      refine lv_bipush (v := 11) hx hb dX9_take_8 (by decide) ?_
      refine lv_iload_n hx hb dX9_take_10 rfl (lv_at hl 1 rfl) ?_
      refine lv_imul hx hb dX9_take_11 ?_
      refine lv_iload_n hx hb dX9_take_12 rfl (lv_at hl 2 rfl) ?_
      refine lv_iadd hx hb dX9_take_13 ?_
      refine lv_topi (fun y209 ey209 => ?_)
      have h := nm_i h y209 ey209
      refine lv_istore_n (lv' := [(3, .int y209), (0, .ref a0), (1, .int x1), (2, .int x2)]) hx hb dX9_take_14 rfl hl (by decide) rfl (fun ls hl => ?_)
      refine lv_aload_n hx hb dX9_take_15 rfl (lv_at hl 1 rfl) ?_
      obtain ⟨o210, ho213, h⟩ := rq_i h
      refine r_getR hC hw kc_8 hi0 40 rfl lk_1109 dX9_take_16 rfl ho213 (fun a211 hi212 => ?_)
      refine lv_iload_n hx hb dX9_take_19 rfl (lv_at hl 3 rfl) ?_
      refine lv_aload_n hx hb dX9_take_20 rfl (lv_at hl 1 rfl) ?_
      obtain ⟨o214, ho217, h⟩ := rq_i h
      refine r_getR hC hw kc_8 hi0 29 rfl lk_1098 dX9_take_21 rfl ho217 (fun a215 hi216 => ?_)
      refine lv_iload_n hx hb dX9_take_24 rfl (lv_at hl 0 rfl) ?_
      obtain ⟨hn218, h⟩ := ix_i h
      refine r_iald hC hw hi216 hn218 dX9_take_25 ?_
      obtain ⟨hn219, h⟩ := ix_i h
      refine r_ias hC hw hi212 hn219 dX9_take_26 (fun D220 eD220 H locs hw => ?_)
      have h := nm_i h D220 eD220
      refine lv_aload_n hx hb dX9_take_27 rfl (lv_at hl 1 rfl) ?_
      obtain ⟨o221, ho224, h⟩ := rq_i h
      refine r_getR hC hw kc_8 hi0 41 rfl lk_1110 dX9_take_28 rfl ho224 (fun a222 hi223 => ?_)
      refine lv_iload_n hx hb dX9_take_31 rfl (lv_at hl 3 rfl) ?_
      refine lv_aload_n hx hb dX9_take_32 rfl (lv_at hl 1 rfl) ?_
      obtain ⟨o225, ho228, h⟩ := rq_i h
      refine r_getR hC hw kc_8 hi0 30 rfl lk_1099 dX9_take_33 rfl ho228 (fun a226 hi227 => ?_)
      refine lv_iload_n hx hb dX9_take_36 rfl (lv_at hl 0 rfl) ?_
      obtain ⟨hn229, h⟩ := ix_i h
      refine r_lald hC hw hi227 hn229 dX9_take_37 ?_
      obtain ⟨hn230, h⟩ := ix_i h
      refine r_las hC hw hi223 hn230 dX9_take_38 (fun D231 eD231 H locs hw => ?_)
      have h := nm_i h D231 eD231
      refine lv_aload_n hx hb dX9_take_39 rfl (lv_at hl 1 rfl) ?_
      obtain ⟨o232, ho235, h⟩ := rq_i h
      refine r_getR hC hw kc_8 hi0 42 rfl lk_1111 dX9_take_40 rfl ho235 (fun a233 hi234 => ?_)
      refine lv_iload_n hx hb dX9_take_43 rfl (lv_at hl 3 rfl) ?_
      refine lv_aload_n hx hb dX9_take_44 rfl (lv_at hl 1 rfl) ?_
      obtain ⟨o236, ho239, h⟩ := rq_i h
      refine r_getR hC hw kc_8 hi0 31 rfl lk_1100 dX9_take_45 rfl ho239 (fun a237 hi238 => ?_)
      refine lv_iload_n hx hb dX9_take_48 rfl (lv_at hl 0 rfl) ?_
      obtain ⟨hn240, h⟩ := ix_i h
      refine r_lald hC hw hi238 hn240 dX9_take_49 ?_
      obtain ⟨hn241, h⟩ := ix_i h
      refine r_las hC hw hi234 hn241 dX9_take_50 (fun D242 eD242 H locs hw => ?_)
      have h := nm_i h D242 eD242
      refine lv_aload_n hx hb dX9_take_51 rfl (lv_at hl 1 rfl) ?_
      obtain ⟨o243, ho246, h⟩ := rq_i h
      refine r_getR hC hw kc_8 hi0 43 rfl lk_1112 dX9_take_52 rfl ho246 (fun a244 hi245 => ?_)
      refine lv_iload_n hx hb dX9_take_55 rfl (lv_at hl 3 rfl) ?_
      refine lv_aload_n hx hb dX9_take_56 rfl (lv_at hl 1 rfl) ?_
      obtain ⟨o247, ho250, h⟩ := rq_i h
      refine r_getR hC hw kc_8 hi0 32 rfl lk_1101 dX9_take_57 rfl ho250 (fun a248 hi249 => ?_)
      refine lv_iload_n hx hb dX9_take_60 rfl (lv_at hl 0 rfl) ?_
      obtain ⟨hn251, h⟩ := ix_i h
      refine r_iald hC hw hi249 hn251 dX9_take_61 ?_
      obtain ⟨hn252, h⟩ := ix_i h
      refine r_ias hC hw hi245 hn252 dX9_take_62 (fun D253 eD253 H locs hw => ?_)
      have h := nm_i h D253 eD253
      refine lv_aload_n hx hb dX9_take_63 rfl (lv_at hl 1 rfl) ?_
      obtain ⟨o254, ho257, h⟩ := rq_i h
      refine r_getR hC hw kc_8 hi0 44 rfl lk_1113 dX9_take_64 rfl ho257 (fun a255 hi256 => ?_)
      refine lv_iload_n hx hb dX9_take_67 rfl (lv_at hl 3 rfl) ?_
      refine lv_aload_n hx hb dX9_take_68 rfl (lv_at hl 1 rfl) ?_
      obtain ⟨o258, ho261, h⟩ := rq_i h
      refine r_getR hC hw kc_8 hi0 33 rfl lk_1102 dX9_take_69 rfl ho261 (fun a259 hi260 => ?_)
      refine lv_iload_n hx hb dX9_take_72 rfl (lv_at hl 0 rfl) ?_
      obtain ⟨hn262, h⟩ := ix_i h
      refine r_iald hC hw hi260 hn262 dX9_take_73 ?_
      obtain ⟨hn263, h⟩ := ix_i h
      refine r_ias hC hw hi256 hn263 dX9_take_74 (fun D264 eD264 H locs hw => ?_)
      have h := nm_i h D264 eD264
      obtain ⟨y265, ey265⟩ : ∃ z : Int32, z = x2 + 1 := ⟨_, rfl⟩
      have h := nm_i h y265 ey265
      refine lv_iinc (v := y265) (lv' := [(2, .int y265), (3, .int y209), (0, .ref a0), (1, .int x1)]) hx hb dX9_take_75 hl (k := 3) rfl (by rw [ey265]; rfl) (by decide) rfl (fun ls hl => ?_)
      refine lv_goto (tgt := 2) hx hb dX9_take_78 (by decide) ?_
      exact ih o0 a0 x1 y265 _ _ _ _ hi0 hw (lv_sub hl [2, 3, 0] rfl) h
set_option maxHeartbeats 4000000 in
set_option maxRecDepth 100000 in
theorem w_X9_take_0 {r : Unit} {D' : dt} (hC : Cx RX9 cX9_take 5 none p s m args meth c) (hR : 0 ≤ R.frames ∧ 0 ≤ R.locals) : ∀ (o0 a0 : Nat) (x1 : Int32) (D : dt) (H : Heap) (locs : List Loc) (ls : Array Slot), Is S ad o0 a0 8 → Wd G cA S D ad A s H locs → lv_has ls 5 [(0, .ref a0), (1, .int x1)] → f_X9_take S o0 x1 D = some (r, D') → W p l e R s m args below meth c H locs 0 0 (MQ below (Qn none True (wpost G cA S D' ad A) A) args s 0 0 A) (F0 m 0 ls []) := by
  obtain ⟨hx, hb, -⟩ := id hC
  intro o0 a0 x1 D H locs ls hi0 hw hl h
  unfold f_X9_take at h
  refine lv_iconst (v := 0) hx hb dX9_take_0 (by decide) ?_
  refine lv_topi (fun y266 ey266 => ?_)
  have h := nm_i h y266 ey266
  refine lv_istore_n (lv' := [(2, .int y266), (0, .ref a0), (1, .int x1)]) hx hb dX9_take_1 rfl hl (by decide) rfl (fun ls hl => ?_)
  exact w_X9_take_2 hC hR LF o0 a0 x1 y266 _ _ _ _ hi0 hw (lv_sub hl [1, 2, 0] rfl) h
set_option maxHeartbeats 4000000 in
set_option maxRecDepth 100000 in
theorem k_X9_take {l : Launch} {G : va_G} {cA : Nat → ClassId} {S : sh} {D D' : dt} {ad : Nat → Nat} (sz : Nat) {o0 a0 : Nat} {x1 : Int32} {r : Unit} (hi0 : Is S ad o0 a0 8) (h : f_X9_take S o0 x1 D = some (r, D')) : Co l yX9_take (Cond.code yX9_take cX9_take 5 none :: tb0) 0 0 [.ref a0, .int x1] G cA S D ad sz none True D' := by
  refine Met.ofW (cc := cX9_take) (maxL := 5) (ret := none) (by decide) rfl ?_
  intro p e s m args below meth c s₁ B hml hv
  obtain ⟨rfl, hsz, hP, hK, hD0, hT, hX⟩ := hv
  subst hsz
  have hts := atoms_spec (ws := Cond.code yX9_take cX9_take 5 none :: tb0) B.pre
  have hC : Cx RX9 cX9_take 5 none p s m _ meth c := ⟨B.exec, B.bytes, hml, findClass_of_methodNamed B.named, fun w q => hts w (List.mem_cons_of_mem _ q), B.returns, B.notSynchronized⟩
  have hw := Wd.entry hP hK hD0 hT hX
  have hl := lv_entry ([.ref a0, .int x1]) (n := 5) (Nat.le_of_ble_eq_true rfl)
  rw [lg_entry_eq]
  exact w_X9_take_0 hC ⟨Nat.le_refl _, Nat.le_refl _⟩ o0 a0 x1 D _ _ _ hi0 hw hl h
set_option maxHeartbeats 4000000 in
set_option maxRecDepth 100000 in
theorem w_X9_copy_109 {r : Unit} {D' : dt} (hC : Cx RX9 cX9_copy 5 none p s m args meth c) (hR : 0 ≤ R.frames ∧ 0 ≤ R.locals) : ∀ (n : Nat), ∀ (o0 a0 : Nat) (x3 : Int32) (x4 : Int32) (D : dt) (H : Heap) (locs : List Loc) (ls : Array Slot), Is S ad o0 a0 8 → Wd G cA S D ad A s H locs → lv_has ls 5 [(0, .ref a0), (3, .int x3), (4, .int x4)] → f_X9_copy_109 S n o0 x3 x4 D = some (r, D') → W p l e R s m args below meth c H locs 0 0 (MQ below (Qn none True (wpost G cA S D' ad A) A) args s 0 0 A) (F0 m 109 ls []) := by
  obtain ⟨hx, hb, -⟩ := id hC
  intro n
  induction n with
  | zero =>
    intro o0 a0 x3 x4 D H locs ls hi0 hw hl h
    rw [f_X9_copy_109.eq_1] at h
    cases h
  | succ n ih =>
    intro o0 a0 x3 x4 D H locs ls hi0 hw hl h
    rw [f_X9_copy_109.eq_2] at h
    refine lv_iload hx hb dX9_copy_109 (lv_at hl 2 rfl) ?_
    refine lv_sipush (v := 512) hx hb dX9_copy_111 (by decide) ?_
    refine lv_icmp_ge (tgt := 145) hx hb dX9_copy_114 (by decide) (fun c74 => ?_) (fun c74 => ?_)
    · have h := i_yes c74 h
      cases h
      exact r_vret hC hw dX9_copy_145
    · have h := i_no c74 h
      refine lv_aload_n hx hb dX9_copy_117 rfl (lv_at hl 0 rfl) ?_
      obtain ⟨o75, ho78, h⟩ := rq_i h
      refine r_getR hC hw kc_8 hi0 45 rfl lk_1114 dX9_copy_118 rfl ho78 (fun a76 hi77 => ?_)
      refine lv_sipush (v := 512) hx hb dX9_copy_121 (by decide) ?_
      refine lv_iload_n hx hb dX9_copy_124 rfl (lv_at hl 1 rfl) ?_
      refine lv_isub hx hb dX9_copy_125 ?_
      refine lv_iload hx hb dX9_copy_126 (lv_at hl 2 rfl) ?_
      refine lv_iadd hx hb dX9_copy_128 ?_
      refine lv_aload_n hx hb dX9_copy_129 rfl (lv_at hl 0 rfl) ?_
      obtain ⟨o79, ho82, h⟩ := rq_i h
      refine r_getR hC hw kc_8 hi0 45 rfl lk_1114 dX9_copy_130 rfl ho82 (fun a80 hi81 => ?_)
      refine lv_iload_n hx hb dX9_copy_133 rfl (lv_at hl 1 rfl) ?_
      refine lv_iload hx hb dX9_copy_134 (lv_at hl 2 rfl) ?_
      refine lv_iadd hx hb dX9_copy_136 ?_
      obtain ⟨hn83, h⟩ := ix_i h
      refine r_zald hC hw hi81 hn83 dX9_copy_137 ?_
      obtain ⟨hn84, h⟩ := ix_i h
      refine r_zas hC hw hi77 hn84 dX9_copy_138 (fun D85 eD85 H locs hw => ?_)
      have h := nm_i h D85 eD85
      obtain ⟨y86, ey86⟩ : ∃ z : Int32, z = x4 + 1 := ⟨_, rfl⟩
      have h := nm_i h y86 ey86
      refine lv_iinc (v := y86) (lv' := [(4, .int y86), (0, .ref a0), (3, .int x3)]) hx hb dX9_copy_139 hl (k := 2) rfl (by rw [ey86]; rfl) (by decide) rfl (fun ls hl => ?_)
      refine lv_goto (tgt := 109) hx hb dX9_copy_142 (by decide) ?_
      exact ih o0 a0 x3 y86 _ _ _ _ hi0 hw (lv_sub hl [1, 2, 0] rfl) h
set_option maxHeartbeats 4000000 in
set_option maxRecDepth 100000 in
theorem w_X9_copy_105 {r : Unit} {D' : dt} (hC : Cx RX9 cX9_copy 5 none p s m args meth c) (hR : 0 ≤ R.frames ∧ 0 ≤ R.locals) : ∀ (o0 a0 : Nat) (xs0 : Int32) (D : dt) (H : Heap) (locs : List Loc) (ls : Array Slot), Is S ad o0 a0 8 → Wd G cA S D ad A s H locs → lv_has ls 5 [(0, .ref a0)] → f_X9_copy_105 S o0 xs0 D = some (r, D') → W p l e R s m args below meth c H locs 0 0 (MQ below (Qn none True (wpost G cA S D' ad A) A) args s 0 0 A) (F0 m 105 ls [.int xs0]) := by
  obtain ⟨hx, hb, -⟩ := id hC
  intro o0 a0 xs0 D H locs ls hi0 hw hl h
  unfold f_X9_copy_105 at h
  refine lv_istore_n (lv' := [(3, .int xs0), (0, .ref a0)]) hx hb dX9_copy_105 rfl hl (by decide) rfl (fun ls hl => ?_)
  refine lv_iconst (v := 0) hx hb dX9_copy_106 (by decide) ?_
  refine lv_topi (fun y87 ey87 => ?_)
  have h := nm_i h y87 ey87
  refine lv_istore (lv' := [(4, .int y87), (3, .int xs0), (0, .ref a0)]) hx hb dX9_copy_107 hl (by decide) rfl (fun ls hl => ?_)
  exact w_X9_copy_109 hC hR LF o0 a0 xs0 y87 _ _ _ _ hi0 hw (lv_sub hl [2, 1, 0] rfl) h
set_option maxHeartbeats 4000000 in
set_option maxRecDepth 100000 in
theorem w_X9_copy_2 {r : Unit} {D' : dt} (hC : Cx RX9 cX9_copy 5 none p s m args meth c) (hR : 0 ≤ R.frames ∧ 0 ≤ R.locals) : ∀ (n : Nat), ∀ (o0 a0 : Nat) (x1 : Int32) (x2 : Int32) (x3 : Int32) (D : dt) (H : Heap) (locs : List Loc) (ls : Array Slot), Is S ad o0 a0 8 → Wd G cA S D ad A s H locs → lv_has ls 5 [(0, .ref a0), (1, .int x1), (2, .int x2), (3, .int x3)] → f_X9_copy_2 S n o0 x1 x2 x3 D = some (r, D') → W p l e R s m args below meth c H locs 0 0 (MQ below (Qn none True (wpost G cA S D' ad A) A) args s 0 0 A) (F0 m 2 ls []) := by
  obtain ⟨hx, hb, -⟩ := id hC
  intro n
  induction n with
  | zero =>
    intro o0 a0 x1 x2 x3 D H locs ls hi0 hw hl h
    rw [f_X9_copy_2.eq_1] at h
    cases h
  | succ n ih =>
    intro o0 a0 x1 x2 x3 D H locs ls hi0 hw hl h
    rw [f_X9_copy_2.eq_2] at h
    refine lv_iload_n hx hb dX9_copy_2 rfl (lv_at hl 3 rfl) ?_
    refine lv_bipush (v := 75) hx hb dX9_copy_3 (by decide) ?_
    refine lv_icmp_ge (tgt := 94) hx hb dX9_copy_5 (by decide) (fun c88 => ?_) (fun c88 => ?_)
    · have h := i_yes c88 h
      refine lv_iload_n hx hb dX9_copy_94 rfl (lv_at hl 1 rfl) ?_
      refine lv_if_ne (tgt := 102) hx hb dX9_copy_95 (by decide) (fun c89 => ?_) (fun c89 => ?_)
      · have h := i_no c89 h
        refine lv_sipush (v := 512) hx hb dX9_copy_102 (by decide) ?_
        exact w_X9_copy_105 hC hR o0 a0 (512 : Int32) _ _ _ _ hi0 hw (lv_sub hl [0] rfl) h
      · have h := i_yes c89 h
        refine lv_iconst (v := 0) hx hb dX9_copy_98 (by decide) ?_
        refine lv_goto (tgt := 105) hx hb dX9_copy_99 (by decide) ?_
        exact w_X9_copy_105 hC hR o0 a0 (0 : Int32) _ _ _ _ hi0 hw (lv_sub hl [0] rfl) h
    · have h := i_no c88 h
      refine lv_aload_n hx hb dX9_copy_8 rfl (lv_at hl 0 rfl) ?_
      obtain ⟨o90, ho93, h⟩ := rq_i h
      refine r_getR hC hw kc_8 hi0 40 rfl lk_1109 dX9_copy_9 rfl ho93 (fun a91 hi92 => ?_)
      refine lv_iload_n hx hb dX9_copy_12 rfl (lv_at hl 2 rfl) ?_
      refine lv_iload_n hx hb dX9_copy_13 rfl (lv_at hl 3 rfl) ?_
      refine lv_iadd hx hb dX9_copy_14 ?_
      refine lv_aload_n hx hb dX9_copy_15 rfl (lv_at hl 0 rfl) ?_
      obtain ⟨o94, ho97, h⟩ := rq_i h
      refine r_getR hC hw kc_8 hi0 40 rfl lk_1109 dX9_copy_16 rfl ho97 (fun a95 hi96 => ?_)
      refine lv_iload_n hx hb dX9_copy_19 rfl (lv_at hl 1 rfl) ?_
      refine lv_iload_n hx hb dX9_copy_20 rfl (lv_at hl 3 rfl) ?_
      refine lv_iadd hx hb dX9_copy_21 ?_
      obtain ⟨hn98, h⟩ := ix_i h
      refine r_iald hC hw hi96 hn98 dX9_copy_22 ?_
      obtain ⟨hn99, h⟩ := ix_i h
      refine r_ias hC hw hi92 hn99 dX9_copy_23 (fun D100 eD100 H locs hw => ?_)
      have h := nm_i h D100 eD100
      refine lv_aload_n hx hb dX9_copy_24 rfl (lv_at hl 0 rfl) ?_
      obtain ⟨o101, ho104, h⟩ := rq_i h
      refine r_getR hC hw kc_8 hi0 41 rfl lk_1110 dX9_copy_25 rfl ho104 (fun a102 hi103 => ?_)
      refine lv_iload_n hx hb dX9_copy_28 rfl (lv_at hl 2 rfl) ?_
      refine lv_iload_n hx hb dX9_copy_29 rfl (lv_at hl 3 rfl) ?_
      refine lv_iadd hx hb dX9_copy_30 ?_
      refine lv_aload_n hx hb dX9_copy_31 rfl (lv_at hl 0 rfl) ?_
      obtain ⟨o105, ho108, h⟩ := rq_i h
      refine r_getR hC hw kc_8 hi0 41 rfl lk_1110 dX9_copy_32 rfl ho108 (fun a106 hi107 => ?_)
      refine lv_iload_n hx hb dX9_copy_35 rfl (lv_at hl 1 rfl) ?_
      refine lv_iload_n hx hb dX9_copy_36 rfl (lv_at hl 3 rfl) ?_
      refine lv_iadd hx hb dX9_copy_37 ?_
      obtain ⟨hn109, h⟩ := ix_i h
      refine r_lald hC hw hi107 hn109 dX9_copy_38 ?_
      obtain ⟨hn110, h⟩ := ix_i h
      refine r_las hC hw hi103 hn110 dX9_copy_39 (fun D111 eD111 H locs hw => ?_)
      have h := nm_i h D111 eD111
      refine lv_aload_n hx hb dX9_copy_40 rfl (lv_at hl 0 rfl) ?_
      obtain ⟨o112, ho115, h⟩ := rq_i h
      refine r_getR hC hw kc_8 hi0 42 rfl lk_1111 dX9_copy_41 rfl ho115 (fun a113 hi114 => ?_)
      refine lv_iload_n hx hb dX9_copy_44 rfl (lv_at hl 2 rfl) ?_
      refine lv_iload_n hx hb dX9_copy_45 rfl (lv_at hl 3 rfl) ?_
      refine lv_iadd hx hb dX9_copy_46 ?_
      refine lv_aload_n hx hb dX9_copy_47 rfl (lv_at hl 0 rfl) ?_
      obtain ⟨o116, ho119, h⟩ := rq_i h
      refine r_getR hC hw kc_8 hi0 42 rfl lk_1111 dX9_copy_48 rfl ho119 (fun a117 hi118 => ?_)
      refine lv_iload_n hx hb dX9_copy_51 rfl (lv_at hl 1 rfl) ?_
      refine lv_iload_n hx hb dX9_copy_52 rfl (lv_at hl 3 rfl) ?_
      refine lv_iadd hx hb dX9_copy_53 ?_
      obtain ⟨hn120, h⟩ := ix_i h
      refine r_lald hC hw hi118 hn120 dX9_copy_54 ?_
      obtain ⟨hn121, h⟩ := ix_i h
      refine r_las hC hw hi114 hn121 dX9_copy_55 (fun D122 eD122 H locs hw => ?_)
      have h := nm_i h D122 eD122
      refine lv_aload_n hx hb dX9_copy_56 rfl (lv_at hl 0 rfl) ?_
      obtain ⟨o123, ho126, h⟩ := rq_i h
      refine r_getR hC hw kc_8 hi0 43 rfl lk_1112 dX9_copy_57 rfl ho126 (fun a124 hi125 => ?_)
      refine lv_iload_n hx hb dX9_copy_60 rfl (lv_at hl 2 rfl) ?_
      refine lv_iload_n hx hb dX9_copy_61 rfl (lv_at hl 3 rfl) ?_
      refine lv_iadd hx hb dX9_copy_62 ?_
      refine lv_aload_n hx hb dX9_copy_63 rfl (lv_at hl 0 rfl) ?_
      obtain ⟨o127, ho130, h⟩ := rq_i h
      refine r_getR hC hw kc_8 hi0 43 rfl lk_1112 dX9_copy_64 rfl ho130 (fun a128 hi129 => ?_)
      refine lv_iload_n hx hb dX9_copy_67 rfl (lv_at hl 1 rfl) ?_
      refine lv_iload_n hx hb dX9_copy_68 rfl (lv_at hl 3 rfl) ?_
      refine lv_iadd hx hb dX9_copy_69 ?_
      obtain ⟨hn131, h⟩ := ix_i h
      refine r_iald hC hw hi129 hn131 dX9_copy_70 ?_
      obtain ⟨hn132, h⟩ := ix_i h
      refine r_ias hC hw hi125 hn132 dX9_copy_71 (fun D133 eD133 H locs hw => ?_)
      have h := nm_i h D133 eD133
      refine lv_aload_n hx hb dX9_copy_72 rfl (lv_at hl 0 rfl) ?_
      obtain ⟨o134, ho137, h⟩ := rq_i h
      refine r_getR hC hw kc_8 hi0 44 rfl lk_1113 dX9_copy_73 rfl ho137 (fun a135 hi136 => ?_)
      refine lv_iload_n hx hb dX9_copy_76 rfl (lv_at hl 2 rfl) ?_
      refine lv_iload_n hx hb dX9_copy_77 rfl (lv_at hl 3 rfl) ?_
      refine lv_iadd hx hb dX9_copy_78 ?_
      refine lv_aload_n hx hb dX9_copy_79 rfl (lv_at hl 0 rfl) ?_
      obtain ⟨o138, ho141, h⟩ := rq_i h
      refine r_getR hC hw kc_8 hi0 44 rfl lk_1113 dX9_copy_80 rfl ho141 (fun a139 hi140 => ?_)
      refine lv_iload_n hx hb dX9_copy_83 rfl (lv_at hl 1 rfl) ?_
      refine lv_iload_n hx hb dX9_copy_84 rfl (lv_at hl 3 rfl) ?_
      refine lv_iadd hx hb dX9_copy_85 ?_
      obtain ⟨hn142, h⟩ := ix_i h
      refine r_iald hC hw hi140 hn142 dX9_copy_86 ?_
      obtain ⟨hn143, h⟩ := ix_i h
      refine r_ias hC hw hi136 hn143 dX9_copy_87 (fun D144 eD144 H locs hw => ?_)
      have h := nm_i h D144 eD144
      obtain ⟨y145, ey145⟩ : ∃ z : Int32, z = x3 + 1 := ⟨_, rfl⟩
      have h := nm_i h y145 ey145
      refine lv_iinc (v := y145) (lv' := [(3, .int y145), (0, .ref a0), (1, .int x1), (2, .int x2)]) hx hb dX9_copy_88 hl (k := 3) rfl (by rw [ey145]; rfl) (by decide) rfl (fun ls hl => ?_)
      refine lv_goto (tgt := 2) hx hb dX9_copy_91 (by decide) ?_
      exact ih o0 a0 x1 x2 y145 _ _ _ _ hi0 hw (lv_sub hl [1, 2, 3, 0] rfl) h
set_option maxHeartbeats 4000000 in
set_option maxRecDepth 100000 in
theorem w_X9_copy_0 {r : Unit} {D' : dt} (hC : Cx RX9 cX9_copy 5 none p s m args meth c) (hR : 0 ≤ R.frames ∧ 0 ≤ R.locals) : ∀ (o0 a0 : Nat) (x1 : Int32) (x2 : Int32) (D : dt) (H : Heap) (locs : List Loc) (ls : Array Slot), Is S ad o0 a0 8 → Wd G cA S D ad A s H locs → lv_has ls 5 [(0, .ref a0), (1, .int x1), (2, .int x2)] → f_X9_copy S o0 x1 x2 D = some (r, D') → W p l e R s m args below meth c H locs 0 0 (MQ below (Qn none True (wpost G cA S D' ad A) A) args s 0 0 A) (F0 m 0 ls []) := by
  obtain ⟨hx, hb, -⟩ := id hC
  intro o0 a0 x1 x2 D H locs ls hi0 hw hl h
  unfold f_X9_copy at h
  refine lv_iconst (v := 0) hx hb dX9_copy_0 (by decide) ?_
  refine lv_topi (fun y146 ey146 => ?_)
  have h := nm_i h y146 ey146
  refine lv_istore_n (lv' := [(3, .int y146), (0, .ref a0), (1, .int x1), (2, .int x2)]) hx hb dX9_copy_1 rfl hl (by decide) rfl (fun ls hl => ?_)
  exact w_X9_copy_2 hC hR LF o0 a0 x1 x2 y146 _ _ _ _ hi0 hw (lv_sub hl [1, 2, 3, 0] rfl) h
set_option maxHeartbeats 4000000 in
set_option maxRecDepth 100000 in
theorem k_X9_copy {l : Launch} {G : va_G} {cA : Nat → ClassId} {S : sh} {D D' : dt} {ad : Nat → Nat} (sz : Nat) {o0 a0 : Nat} {x1 : Int32} {x2 : Int32} {r : Unit} (hi0 : Is S ad o0 a0 8) (h : f_X9_copy S o0 x1 x2 D = some (r, D')) : Co l yX9_copy (Cond.code yX9_copy cX9_copy 5 none :: tb0) 0 0 [.ref a0, .int x1, .int x2] G cA S D ad sz none True D' := by
  refine Met.ofW (cc := cX9_copy) (maxL := 5) (ret := none) (by decide) rfl ?_
  intro p e s m args below meth c s₁ B hml hv
  obtain ⟨rfl, hsz, hP, hK, hD0, hT, hX⟩ := hv
  subst hsz
  have hts := atoms_spec (ws := Cond.code yX9_copy cX9_copy 5 none :: tb0) B.pre
  have hC : Cx RX9 cX9_copy 5 none p s m _ meth c := ⟨B.exec, B.bytes, hml, findClass_of_methodNamed B.named, fun w q => hts w (List.mem_cons_of_mem _ q), B.returns, B.notSynchronized⟩
  have hw := Wd.entry hP hK hD0 hT hX
  have hl := lv_entry ([.ref a0, .int x1, .int x2]) (n := 5) (Nat.le_of_ble_eq_true rfl)
  rw [lg_entry_eq]
  exact w_X9_copy_0 hC ⟨Nat.le_refl _, Nat.le_refl _⟩ o0 a0 x1 x2 D _ _ _ hi0 hw hl h
set_option maxHeartbeats 4000000 in
set_option maxRecDepth 100000 in
theorem w_X9_number_0 {r : Unit} {D' : dt} (hC : Cx RX9 cX9_number 6 none p s m args meth c) (hR : 0 ≤ R.frames ∧ 0 ≤ R.locals) : ∀ (o0 a0 : Nat) (x1 : Int32) (x2 : Int64) (x4 : Int64) (D : dt) (H : Heap) (locs : List Loc) (ls : Array Slot), Is S ad o0 a0 8 → Wd G cA S D ad A s H locs → lv_has ls 6 [(0, .ref a0), (1, .int x1), (2, .long x2), (4, .long x4)] → f_X9_number S o0 x1 x2 x4 D = some (r, D') → W p l e R s m args below meth c H locs 0 0 (MQ below (Qn none True (wpost G cA S D' ad A) A) args s 0 0 A) (F0 m 0 ls []) := by
  obtain ⟨hx, hb, -⟩ := id hC
  intro o0 a0 x1 x2 x4 D H locs ls hi0 hw hl h
  unfold f_X9_number at h
  refine lv_aload_n hx hb dX9_number_0 rfl (lv_at hl 0 rfl) ?_
  obtain ⟨o31, ho34, h⟩ := rq_i h
  refine r_getR hC hw kc_8 hi0 40 rfl lk_1109 dX9_number_1 rfl ho34 (fun a32 hi33 => ?_)
  refine lv_iload_n hx hb dX9_number_4 rfl (lv_at hl 1 rfl) ?_
  refine lv_iconst (v := 1) hx hb dX9_number_5 (by decide) ?_
  obtain ⟨hn35, h⟩ := ix_i h
  refine r_ias hC hw hi33 hn35 dX9_number_6 (fun D36 eD36 H locs hw => ?_)
  have h := nm_i h D36 eD36
  refine lv_aload_n hx hb dX9_number_7 rfl (lv_at hl 0 rfl) ?_
  obtain ⟨o37, ho40, h⟩ := rq_i h
  refine r_getR hC hw kc_8 hi0 41 rfl lk_1110 dX9_number_8 rfl ho40 (fun a38 hi39 => ?_)
  refine lv_iload_n hx hb dX9_number_11 rfl (lv_at hl 1 rfl) ?_
  refine lv_lload_n hx hb dX9_number_12 rfl (lv_at hl 2 rfl) ?_
  obtain ⟨hn41, h⟩ := ix_i h
  refine r_las hC hw hi39 hn41 dX9_number_13 (fun D42 eD42 H locs hw => ?_)
  have h := nm_i h D42 eD42
  refine lv_aload_n hx hb dX9_number_14 rfl (lv_at hl 0 rfl) ?_
  obtain ⟨o43, ho46, h⟩ := rq_i h
  refine r_getR hC hw kc_8 hi0 42 rfl lk_1111 dX9_number_15 rfl ho46 (fun a44 hi45 => ?_)
  refine lv_iload_n hx hb dX9_number_18 rfl (lv_at hl 1 rfl) ?_
  refine lv_lload hx hb dX9_number_19 (lv_at hl 3 rfl) ?_
  obtain ⟨hn47, h⟩ := ix_i h
  refine r_las hC hw hi45 hn47 dX9_number_21 (fun D48 eD48 H locs hw => ?_)
  have h := nm_i h D48 eD48
  refine lv_aload_n hx hb dX9_number_22 rfl (lv_at hl 0 rfl) ?_
  obtain ⟨o49, ho52, h⟩ := rq_i h
  refine r_getR hC hw kc_8 hi0 43 rfl lk_1112 dX9_number_23 rfl ho52 (fun a50 hi51 => ?_)
  refine lv_iload_n hx hb dX9_number_26 rfl (lv_at hl 1 rfl) ?_
  refine lv_iconst (v := 0) hx hb dX9_number_27 (by decide) ?_
  obtain ⟨hn53, h⟩ := ix_i h
  refine r_ias hC hw hi51 hn53 dX9_number_28 (fun D54 eD54 H locs hw => ?_)
  have h := nm_i h D54 eD54
  refine lv_aload_n hx hb dX9_number_29 rfl (lv_at hl 0 rfl) ?_
  obtain ⟨o55, ho58, h⟩ := rq_i h
  refine r_getR hC hw kc_8 hi0 44 rfl lk_1113 dX9_number_30 rfl ho58 (fun a56 hi57 => ?_)
  refine lv_iload_n hx hb dX9_number_33 rfl (lv_at hl 1 rfl) ?_
  refine lv_iconst (v := 0) hx hb dX9_number_34 (by decide) ?_
  obtain ⟨hn59, h⟩ := ix_i h
  refine r_ias hC hw hi57 hn59 dX9_number_35 (fun D60 eD60 H locs hw => ?_)
  have h := nm_i h D60 eD60
  cases h
  exact r_vret hC hw dX9_number_36
set_option maxHeartbeats 4000000 in
set_option maxRecDepth 100000 in
theorem k_X9_number {l : Launch} {G : va_G} {cA : Nat → ClassId} {S : sh} {D D' : dt} {ad : Nat → Nat} (sz : Nat) {o0 a0 : Nat} {x1 : Int32} {x2 : Int64} {x4 : Int64} {r : Unit} (hi0 : Is S ad o0 a0 8) (h : f_X9_number S o0 x1 x2 x4 D = some (r, D')) : Co l yX9_number (Cond.code yX9_number cX9_number 6 none :: tb0) 0 0 [.ref a0, .int x1, .long x2, .long x4] G cA S D ad sz none True D' := by
  refine Met.ofW (cc := cX9_number) (maxL := 6) (ret := none) (by decide) rfl ?_
  intro p e s m args below meth c s₁ B hml hv
  obtain ⟨rfl, hsz, hP, hK, hD0, hT, hX⟩ := hv
  subst hsz
  have hts := atoms_spec (ws := Cond.code yX9_number cX9_number 6 none :: tb0) B.pre
  have hC : Cx RX9 cX9_number 6 none p s m _ meth c := ⟨B.exec, B.bytes, hml, findClass_of_methodNamed B.named, fun w q => hts w (List.mem_cons_of_mem _ q), B.returns, B.notSynchronized⟩
  have hw := Wd.entry hP hK hD0 hT hX
  have hl := lv_entry ([.ref a0, .int x1, .long x2, .long x4]) (n := 6) (Nat.le_of_ble_eq_true rfl)
  rw [lg_entry_eq]
  exact w_X9_number_0 hC ⟨Nat.le_refl _, Nat.le_refl _⟩ o0 a0 x1 x2 x4 D _ _ _ hi0 hw hl h
set_option maxHeartbeats 4000000 in
set_option maxRecDepth 100000 in
theorem w_X9_forget_0 {r : Unit} {D' : dt} (hC : Cx RX9 cX9_forget 2 none p s m args meth c) (hR : 0 ≤ R.frames ∧ 0 ≤ R.locals) : ∀ (o0 a0 : Nat) (x1 : Int32) (D : dt) (H : Heap) (locs : List Loc) (ls : Array Slot), Is S ad o0 a0 8 → Wd G cA S D ad A s H locs → lv_has ls 2 [(0, .ref a0), (1, .int x1)] → f_X9_forget S o0 x1 D = some (r, D') → W p l e R s m args below meth c H locs 0 0 (MQ below (Qn none True (wpost G cA S D' ad A) A) args s 0 0 A) (F0 m 0 ls []) := by
  obtain ⟨hx, hb, -⟩ := id hC
  intro o0 a0 x1 D H locs ls hi0 hw hl h
  unfold f_X9_forget at h
  refine lv_aload_n hx hb dX9_forget_0 rfl (lv_at hl 0 rfl) ?_
  obtain ⟨o31, ho34, h⟩ := rq_i h
  refine r_getR hC hw kc_8 hi0 40 rfl lk_1109 dX9_forget_1 rfl ho34 (fun a32 hi33 => ?_)
  refine lv_iload_n hx hb dX9_forget_4 rfl (lv_at hl 1 rfl) ?_
  refine lv_iconst (v := 0) hx hb dX9_forget_5 (by decide) ?_
  obtain ⟨hn35, h⟩ := ix_i h
  refine r_ias hC hw hi33 hn35 dX9_forget_6 (fun D36 eD36 H locs hw => ?_)
  have h := nm_i h D36 eD36
  refine lv_aload_n hx hb dX9_forget_7 rfl (lv_at hl 0 rfl) ?_
  obtain ⟨o37, ho40, h⟩ := rq_i h
  refine r_getR hC hw kc_8 hi0 41 rfl lk_1110 dX9_forget_8 rfl ho40 (fun a38 hi39 => ?_)
  refine lv_iload_n hx hb dX9_forget_11 rfl (lv_at hl 1 rfl) ?_
  refine lv_lconst (v := 0) hx hb dX9_forget_12 (by decide) ?_
  obtain ⟨hn41, h⟩ := ix_i h
  refine r_las hC hw hi39 hn41 dX9_forget_13 (fun D42 eD42 H locs hw => ?_)
  have h := nm_i h D42 eD42
  refine lv_aload_n hx hb dX9_forget_14 rfl (lv_at hl 0 rfl) ?_
  obtain ⟨o43, ho46, h⟩ := rq_i h
  refine r_getR hC hw kc_8 hi0 42 rfl lk_1111 dX9_forget_15 rfl ho46 (fun a44 hi45 => ?_)
  refine lv_iload_n hx hb dX9_forget_18 rfl (lv_at hl 1 rfl) ?_
  refine lv_lconst (v := 0) hx hb dX9_forget_19 (by decide) ?_
  obtain ⟨hn47, h⟩ := ix_i h
  refine r_las hC hw hi45 hn47 dX9_forget_20 (fun D48 eD48 H locs hw => ?_)
  have h := nm_i h D48 eD48
  refine lv_aload_n hx hb dX9_forget_21 rfl (lv_at hl 0 rfl) ?_
  obtain ⟨o49, ho52, h⟩ := rq_i h
  refine r_getR hC hw kc_8 hi0 43 rfl lk_1112 dX9_forget_22 rfl ho52 (fun a50 hi51 => ?_)
  refine lv_iload_n hx hb dX9_forget_25 rfl (lv_at hl 1 rfl) ?_
  refine lv_iconst (v := 0) hx hb dX9_forget_26 (by decide) ?_
  obtain ⟨hn53, h⟩ := ix_i h
  refine r_ias hC hw hi51 hn53 dX9_forget_27 (fun D54 eD54 H locs hw => ?_)
  have h := nm_i h D54 eD54
  refine lv_aload_n hx hb dX9_forget_28 rfl (lv_at hl 0 rfl) ?_
  obtain ⟨o55, ho58, h⟩ := rq_i h
  refine r_getR hC hw kc_8 hi0 44 rfl lk_1113 dX9_forget_29 rfl ho58 (fun a56 hi57 => ?_)
  refine lv_iload_n hx hb dX9_forget_32 rfl (lv_at hl 1 rfl) ?_
  refine lv_iconst (v := 0) hx hb dX9_forget_33 (by decide) ?_
  obtain ⟨hn59, h⟩ := ix_i h
  refine r_ias hC hw hi57 hn59 dX9_forget_34 (fun D60 eD60 H locs hw => ?_)
  have h := nm_i h D60 eD60
  cases h
  exact r_vret hC hw dX9_forget_35
set_option maxHeartbeats 4000000 in
set_option maxRecDepth 100000 in
theorem k_X9_forget {l : Launch} {G : va_G} {cA : Nat → ClassId} {S : sh} {D D' : dt} {ad : Nat → Nat} (sz : Nat) {o0 a0 : Nat} {x1 : Int32} {r : Unit} (hi0 : Is S ad o0 a0 8) (h : f_X9_forget S o0 x1 D = some (r, D')) : Co l yX9_forget (Cond.code yX9_forget cX9_forget 2 none :: tb0) 0 0 [.ref a0, .int x1] G cA S D ad sz none True D' := by
  refine Met.ofW (cc := cX9_forget) (maxL := 2) (ret := none) (by decide) rfl ?_
  intro p e s m args below meth c s₁ B hml hv
  obtain ⟨rfl, hsz, hP, hK, hD0, hT, hX⟩ := hv
  subst hsz
  have hts := atoms_spec (ws := Cond.code yX9_forget cX9_forget 2 none :: tb0) B.pre
  have hC : Cx RX9 cX9_forget 2 none p s m _ meth c := ⟨B.exec, B.bytes, hml, findClass_of_methodNamed B.named, fun w q => hts w (List.mem_cons_of_mem _ q), B.returns, B.notSynchronized⟩
  have hw := Wd.entry hP hK hD0 hT hX
  have hl := lv_entry ([.ref a0, .int x1]) (n := 2) (Nat.le_of_ble_eq_true rfl)
  rw [lg_entry_eq]
  exact w_X9_forget_0 hC ⟨Nat.le_refl _, Nat.le_refl _⟩ o0 a0 x1 D _ _ _ hi0 hw hl h
end
