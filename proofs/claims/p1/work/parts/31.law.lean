theorem dL_law_0 : decode cL_law 0 = .ok (.new 7, 3) := by decide +kernel
theorem dL_law_3 : decode cL_law 3 = .ok (.dup, 1) := by decide +kernel
theorem dL_law_4 : decode cL_law 4 = .ok (.invokespecial 9, 3) := by decide +kernel
theorem dL_law_7 : decode cL_law 7 = .ok (.astore_n 1, 1) := by decide +kernel
theorem dL_law_8 : decode cL_law 8 = .ok (.new 10, 3) := by decide +kernel
theorem dL_law_11 : decode cL_law 11 = .ok (.dup, 1) := by decide +kernel
theorem dL_law_12 : decode cL_law 12 = .ok (.invokespecial 12, 3) := by decide +kernel
theorem dL_law_15 : decode cL_law 15 = .ok (.astore_n 2, 1) := by decide +kernel
theorem dL_law_16 : decode cL_law 16 = .ok (.iconst 0, 1) := by decide +kernel
theorem dL_law_17 : decode cL_law 17 = .ok (.istore_n 3, 1) := by decide +kernel
theorem dL_law_18 : decode cL_law 18 = .ok (.iload_n 3, 1) := by decide +kernel
theorem dL_law_19 : decode cL_law 19 = .ok (.aload_n 0, 1) := by decide +kernel
theorem dL_law_20 : decode cL_law 20 = .ok (.arraylength, 1) := by decide +kernel
theorem dL_law_21 : decode cL_law 21 = .ok (.bipush 6, 2) := by decide +kernel
theorem dL_law_23 : decode cL_law 23 = .ok (.isub, 1) := by decide +kernel
theorem dL_law_24 : decode cL_law 24 = .ok (.if_icmp .gt 707, 3) := by decide +kernel
theorem dL_law_27 : decode cL_law 27 = .ok (.aload_n 0, 1) := by decide +kernel
theorem dL_law_28 : decode cL_law 28 = .ok (.iload_n 3, 1) := by decide +kernel
theorem dL_law_29 : decode cL_law 29 = .ok (.iaload, 1) := by decide +kernel
theorem dL_law_30 : decode cL_law 30 = .ok (.bipush 31, 2) := by decide +kernel
theorem dL_law_32 : decode cL_law 32 = .ok (.iand, 1) := by decide +kernel
theorem dL_law_33 : decode cL_law 33 = .ok (.tableswitch 692 0 18 #[91, 144, 207, 230, 283, 306, 339, 393, 406, 419, 463, 496, 509, 522, 545, 568, 592, 645, 669], 91) := by decide +kernel
theorem dL_law_124 : decode cL_law 124 = .ok (.aload_n 1, 1) := by decide +kernel
theorem dL_law_125 : decode cL_law 125 = .ok (.aload_n 0, 1) := by decide +kernel
theorem dL_law_126 : decode cL_law 126 = .ok (.iload_n 3, 1) := by decide +kernel
theorem dL_law_127 : decode cL_law 127 = .ok (.iconst 1, 1) := by decide +kernel
theorem dL_law_128 : decode cL_law 128 = .ok (.iadd, 1) := by decide +kernel
theorem dL_law_129 : decode cL_law 129 = .ok (.iaload, 1) := by decide +kernel
theorem dL_law_130 : decode cL_law 130 = .ok (.aload_n 0, 1) := by decide +kernel
theorem dL_law_131 : decode cL_law 131 = .ok (.iload_n 3, 1) := by decide +kernel
theorem dL_law_132 : decode cL_law 132 = .ok (.iconst 2, 1) := by decide +kernel
theorem dL_law_133 : decode cL_law 133 = .ok (.iadd, 1) := by decide +kernel
theorem dL_law_134 : decode cL_law 134 = .ok (.iaload, 1) := by decide +kernel
theorem dL_law_135 : decode cL_law 135 = .ok (.aload_n 0, 1) := by decide +kernel
theorem dL_law_136 : decode cL_law 136 = .ok (.iload_n 3, 1) := by decide +kernel
theorem dL_law_137 : decode cL_law 137 = .ok (.iconst 3, 1) := by decide +kernel
theorem dL_law_138 : decode cL_law 138 = .ok (.iadd, 1) := by decide +kernel
theorem dL_law_139 : decode cL_law 139 = .ok (.iaload, 1) := by decide +kernel
theorem dL_law_140 : decode cL_law 140 = .ok (.aload_n 0, 1) := by decide +kernel
theorem dL_law_141 : decode cL_law 141 = .ok (.iload_n 3, 1) := by decide +kernel
theorem dL_law_142 : decode cL_law 142 = .ok (.iconst 4, 1) := by decide +kernel
theorem dL_law_143 : decode cL_law 143 = .ok (.iadd, 1) := by decide +kernel
theorem dL_law_144 : decode cL_law 144 = .ok (.iaload, 1) := by decide +kernel
theorem dL_law_145 : decode cL_law 145 = .ok (.invokevirtual 13, 3) := by decide +kernel
theorem dL_law_148 : decode cL_law 148 = .ok (.aload_n 2, 1) := by decide +kernel
theorem dL_law_149 : decode cL_law 149 = .ok (.aload_n 0, 1) := by decide +kernel
theorem dL_law_150 : decode cL_law 150 = .ok (.iload_n 3, 1) := by decide +kernel
theorem dL_law_151 : decode cL_law 151 = .ok (.iconst 1, 1) := by decide +kernel
theorem dL_law_152 : decode cL_law 152 = .ok (.iadd, 1) := by decide +kernel
theorem dL_law_153 : decode cL_law 153 = .ok (.iaload, 1) := by decide +kernel
theorem dL_law_154 : decode cL_law 154 = .ok (.aload_n 0, 1) := by decide +kernel
theorem dL_law_155 : decode cL_law 155 = .ok (.iload_n 3, 1) := by decide +kernel
theorem dL_law_156 : decode cL_law 156 = .ok (.iconst 2, 1) := by decide +kernel
theorem dL_law_157 : decode cL_law 157 = .ok (.iadd, 1) := by decide +kernel
theorem dL_law_158 : decode cL_law 158 = .ok (.iaload, 1) := by decide +kernel
theorem dL_law_159 : decode cL_law 159 = .ok (.aload_n 0, 1) := by decide +kernel
theorem dL_law_160 : decode cL_law 160 = .ok (.iload_n 3, 1) := by decide +kernel
theorem dL_law_161 : decode cL_law 161 = .ok (.iconst 3, 1) := by decide +kernel
theorem dL_law_162 : decode cL_law 162 = .ok (.iadd, 1) := by decide +kernel
theorem dL_law_163 : decode cL_law 163 = .ok (.iaload, 1) := by decide +kernel
theorem dL_law_164 : decode cL_law 164 = .ok (.aload_n 0, 1) := by decide +kernel
theorem dL_law_165 : decode cL_law 165 = .ok (.iload_n 3, 1) := by decide +kernel
theorem dL_law_166 : decode cL_law 166 = .ok (.iconst 4, 1) := by decide +kernel
theorem dL_law_167 : decode cL_law 167 = .ok (.iadd, 1) := by decide +kernel
theorem dL_law_168 : decode cL_law 168 = .ok (.iaload, 1) := by decide +kernel
theorem dL_law_169 : decode cL_law 169 = .ok (.invokevirtual 17, 3) := by decide +kernel
theorem dL_law_172 : decode cL_law 172 = .ok (.if_icmp .eq 553, 3) := by decide +kernel
theorem dL_law_175 : decode cL_law 175 = .ok (.iconst 0, 1) := by decide +kernel
theorem dL_law_176 : decode cL_law 176 = .ok (.ireturn, 1) := by decide +kernel
theorem dL_law_177 : decode cL_law 177 = .ok (.aload_n 1, 1) := by decide +kernel
theorem dL_law_178 : decode cL_law 178 = .ok (.aload_n 0, 1) := by decide +kernel
theorem dL_law_179 : decode cL_law 179 = .ok (.iload_n 3, 1) := by decide +kernel
theorem dL_law_180 : decode cL_law 180 = .ok (.iconst 1, 1) := by decide +kernel
theorem dL_law_181 : decode cL_law 181 = .ok (.iadd, 1) := by decide +kernel
theorem dL_law_182 : decode cL_law 182 = .ok (.iaload, 1) := by decide +kernel
theorem dL_law_183 : decode cL_law 183 = .ok (.aload_n 0, 1) := by decide +kernel
theorem dL_law_184 : decode cL_law 184 = .ok (.iload_n 3, 1) := by decide +kernel
theorem dL_law_185 : decode cL_law 185 = .ok (.iconst 2, 1) := by decide +kernel
theorem dL_law_186 : decode cL_law 186 = .ok (.iadd, 1) := by decide +kernel
theorem dL_law_187 : decode cL_law 187 = .ok (.iaload, 1) := by decide +kernel
theorem dL_law_188 : decode cL_law 188 = .ok (.aload_n 0, 1) := by decide +kernel
theorem dL_law_189 : decode cL_law 189 = .ok (.iload_n 3, 1) := by decide +kernel
theorem dL_law_190 : decode cL_law 190 = .ok (.iconst 3, 1) := by decide +kernel
theorem dL_law_191 : decode cL_law 191 = .ok (.iadd, 1) := by decide +kernel
theorem dL_law_192 : decode cL_law 192 = .ok (.iaload, 1) := by decide +kernel
theorem dL_law_193 : decode cL_law 193 = .ok (.aload_n 0, 1) := by decide +kernel
theorem dL_law_194 : decode cL_law 194 = .ok (.iload_n 3, 1) := by decide +kernel
theorem dL_law_195 : decode cL_law 195 = .ok (.iconst 4, 1) := by decide +kernel
theorem dL_law_196 : decode cL_law 196 = .ok (.iadd, 1) := by decide +kernel
theorem dL_law_197 : decode cL_law 197 = .ok (.iaload, 1) := by decide +kernel
theorem dL_law_198 : decode cL_law 198 = .ok (.aload_n 0, 1) := by decide +kernel
theorem dL_law_199 : decode cL_law 199 = .ok (.iload_n 3, 1) := by decide +kernel
theorem dL_law_200 : decode cL_law 200 = .ok (.iconst 5, 1) := by decide +kernel
theorem dL_law_201 : decode cL_law 201 = .ok (.iadd, 1) := by decide +kernel
theorem dL_law_202 : decode cL_law 202 = .ok (.iaload, 1) := by decide +kernel
theorem dL_law_203 : decode cL_law 203 = .ok (.invokevirtual 18, 3) := by decide +kernel
theorem dL_law_206 : decode cL_law 206 = .ok (.aload_n 2, 1) := by decide +kernel
theorem dL_law_207 : decode cL_law 207 = .ok (.aload_n 0, 1) := by decide +kernel
theorem dL_law_208 : decode cL_law 208 = .ok (.iload_n 3, 1) := by decide +kernel
theorem dL_law_209 : decode cL_law 209 = .ok (.iconst 1, 1) := by decide +kernel
theorem dL_law_210 : decode cL_law 210 = .ok (.iadd, 1) := by decide +kernel
theorem dL_law_211 : decode cL_law 211 = .ok (.iaload, 1) := by decide +kernel
theorem dL_law_212 : decode cL_law 212 = .ok (.aload_n 0, 1) := by decide +kernel
theorem dL_law_213 : decode cL_law 213 = .ok (.iload_n 3, 1) := by decide +kernel
theorem dL_law_214 : decode cL_law 214 = .ok (.iconst 2, 1) := by decide +kernel
theorem dL_law_215 : decode cL_law 215 = .ok (.iadd, 1) := by decide +kernel
theorem dL_law_216 : decode cL_law 216 = .ok (.iaload, 1) := by decide +kernel
theorem dL_law_217 : decode cL_law 217 = .ok (.aload_n 0, 1) := by decide +kernel
theorem dL_law_218 : decode cL_law 218 = .ok (.iload_n 3, 1) := by decide +kernel
theorem dL_law_219 : decode cL_law 219 = .ok (.iconst 3, 1) := by decide +kernel
theorem dL_law_220 : decode cL_law 220 = .ok (.iadd, 1) := by decide +kernel
theorem dL_law_221 : decode cL_law 221 = .ok (.iaload, 1) := by decide +kernel
theorem dL_law_222 : decode cL_law 222 = .ok (.aload_n 0, 1) := by decide +kernel
theorem dL_law_223 : decode cL_law 223 = .ok (.iload_n 3, 1) := by decide +kernel
theorem dL_law_224 : decode cL_law 224 = .ok (.iconst 4, 1) := by decide +kernel
theorem dL_law_225 : decode cL_law 225 = .ok (.iadd, 1) := by decide +kernel
theorem dL_law_226 : decode cL_law 226 = .ok (.iaload, 1) := by decide +kernel
theorem dL_law_227 : decode cL_law 227 = .ok (.aload_n 0, 1) := by decide +kernel
theorem dL_law_228 : decode cL_law 228 = .ok (.iload_n 3, 1) := by decide +kernel
theorem dL_law_229 : decode cL_law 229 = .ok (.iconst 5, 1) := by decide +kernel
theorem dL_law_230 : decode cL_law 230 = .ok (.iadd, 1) := by decide +kernel
theorem dL_law_231 : decode cL_law 231 = .ok (.iaload, 1) := by decide +kernel
theorem dL_law_232 : decode cL_law 232 = .ok (.invokevirtual 22, 3) := by decide +kernel
theorem dL_law_235 : decode cL_law 235 = .ok (.if_icmp .eq 490, 3) := by decide +kernel
theorem dL_law_238 : decode cL_law 238 = .ok (.iconst 0, 1) := by decide +kernel
theorem dL_law_239 : decode cL_law 239 = .ok (.ireturn, 1) := by decide +kernel
theorem dL_law_240 : decode cL_law 240 = .ok (.aload_n 1, 1) := by decide +kernel
theorem dL_law_241 : decode cL_law 241 = .ok (.aload_n 0, 1) := by decide +kernel
theorem dL_law_242 : decode cL_law 242 = .ok (.iload_n 3, 1) := by decide +kernel
theorem dL_law_243 : decode cL_law 243 = .ok (.iconst 1, 1) := by decide +kernel
theorem dL_law_244 : decode cL_law 244 = .ok (.iadd, 1) := by decide +kernel
theorem dL_law_245 : decode cL_law 245 = .ok (.iaload, 1) := by decide +kernel
theorem dL_law_246 : decode cL_law 246 = .ok (.invokevirtual 23, 3) := by decide +kernel
theorem dL_law_249 : decode cL_law 249 = .ok (.aload_n 2, 1) := by decide +kernel
theorem dL_law_250 : decode cL_law 250 = .ok (.aload_n 0, 1) := by decide +kernel
theorem dL_law_251 : decode cL_law 251 = .ok (.iload_n 3, 1) := by decide +kernel
theorem dL_law_252 : decode cL_law 252 = .ok (.iconst 1, 1) := by decide +kernel
theorem dL_law_253 : decode cL_law 253 = .ok (.iadd, 1) := by decide +kernel
theorem dL_law_254 : decode cL_law 254 = .ok (.iaload, 1) := by decide +kernel
theorem dL_law_255 : decode cL_law 255 = .ok (.invokevirtual 27, 3) := by decide +kernel
theorem dL_law_258 : decode cL_law 258 = .ok (.if_icmp .eq 467, 3) := by decide +kernel
theorem dL_law_261 : decode cL_law 261 = .ok (.iconst 0, 1) := by decide +kernel
theorem dL_law_262 : decode cL_law 262 = .ok (.ireturn, 1) := by decide +kernel
theorem dL_law_263 : decode cL_law 263 = .ok (.aload_n 1, 1) := by decide +kernel
theorem dL_law_264 : decode cL_law 264 = .ok (.aload_n 0, 1) := by decide +kernel
theorem dL_law_265 : decode cL_law 265 = .ok (.iload_n 3, 1) := by decide +kernel
theorem dL_law_266 : decode cL_law 266 = .ok (.iconst 1, 1) := by decide +kernel
theorem dL_law_267 : decode cL_law 267 = .ok (.iadd, 1) := by decide +kernel
theorem dL_law_268 : decode cL_law 268 = .ok (.iaload, 1) := by decide +kernel
theorem dL_law_269 : decode cL_law 269 = .ok (.aload_n 0, 1) := by decide +kernel
theorem dL_law_270 : decode cL_law 270 = .ok (.iload_n 3, 1) := by decide +kernel
theorem dL_law_271 : decode cL_law 271 = .ok (.iconst 2, 1) := by decide +kernel
theorem dL_law_272 : decode cL_law 272 = .ok (.iadd, 1) := by decide +kernel
theorem dL_law_273 : decode cL_law 273 = .ok (.iaload, 1) := by decide +kernel
theorem dL_law_274 : decode cL_law 274 = .ok (.aload_n 0, 1) := by decide +kernel
theorem dL_law_275 : decode cL_law 275 = .ok (.iload_n 3, 1) := by decide +kernel
theorem dL_law_276 : decode cL_law 276 = .ok (.iconst 3, 1) := by decide +kernel
theorem dL_law_277 : decode cL_law 277 = .ok (.iadd, 1) := by decide +kernel
theorem dL_law_278 : decode cL_law 278 = .ok (.iaload, 1) := by decide +kernel
theorem dL_law_279 : decode cL_law 279 = .ok (.aload_n 0, 1) := by decide +kernel
theorem dL_law_280 : decode cL_law 280 = .ok (.iload_n 3, 1) := by decide +kernel
theorem dL_law_281 : decode cL_law 281 = .ok (.iconst 4, 1) := by decide +kernel
theorem dL_law_282 : decode cL_law 282 = .ok (.iadd, 1) := by decide +kernel
theorem dL_law_283 : decode cL_law 283 = .ok (.iaload, 1) := by decide +kernel
theorem dL_law_284 : decode cL_law 284 = .ok (.invokevirtual 28, 3) := by decide +kernel
theorem dL_law_287 : decode cL_law 287 = .ok (.aload_n 2, 1) := by decide +kernel
theorem dL_law_288 : decode cL_law 288 = .ok (.aload_n 0, 1) := by decide +kernel
theorem dL_law_289 : decode cL_law 289 = .ok (.iload_n 3, 1) := by decide +kernel
theorem dL_law_290 : decode cL_law 290 = .ok (.iconst 1, 1) := by decide +kernel
theorem dL_law_291 : decode cL_law 291 = .ok (.iadd, 1) := by decide +kernel
theorem dL_law_292 : decode cL_law 292 = .ok (.iaload, 1) := by decide +kernel
theorem dL_law_293 : decode cL_law 293 = .ok (.aload_n 0, 1) := by decide +kernel
theorem dL_law_294 : decode cL_law 294 = .ok (.iload_n 3, 1) := by decide +kernel
theorem dL_law_295 : decode cL_law 295 = .ok (.iconst 2, 1) := by decide +kernel
theorem dL_law_296 : decode cL_law 296 = .ok (.iadd, 1) := by decide +kernel
theorem dL_law_297 : decode cL_law 297 = .ok (.iaload, 1) := by decide +kernel
theorem dL_law_298 : decode cL_law 298 = .ok (.aload_n 0, 1) := by decide +kernel
theorem dL_law_299 : decode cL_law 299 = .ok (.iload_n 3, 1) := by decide +kernel
theorem dL_law_300 : decode cL_law 300 = .ok (.iconst 3, 1) := by decide +kernel
theorem dL_law_301 : decode cL_law 301 = .ok (.iadd, 1) := by decide +kernel
theorem dL_law_302 : decode cL_law 302 = .ok (.iaload, 1) := by decide +kernel
theorem dL_law_303 : decode cL_law 303 = .ok (.aload_n 0, 1) := by decide +kernel
theorem dL_law_304 : decode cL_law 304 = .ok (.iload_n 3, 1) := by decide +kernel
theorem dL_law_305 : decode cL_law 305 = .ok (.iconst 4, 1) := by decide +kernel
theorem dL_law_306 : decode cL_law 306 = .ok (.iadd, 1) := by decide +kernel
theorem dL_law_307 : decode cL_law 307 = .ok (.iaload, 1) := by decide +kernel
theorem dL_law_308 : decode cL_law 308 = .ok (.invokevirtual 31, 3) := by decide +kernel
theorem dL_law_311 : decode cL_law 311 = .ok (.if_icmp .eq 414, 3) := by decide +kernel
theorem dL_law_314 : decode cL_law 314 = .ok (.iconst 0, 1) := by decide +kernel
theorem dL_law_315 : decode cL_law 315 = .ok (.ireturn, 1) := by decide +kernel
theorem dL_law_316 : decode cL_law 316 = .ok (.aload_n 1, 1) := by decide +kernel
theorem dL_law_317 : decode cL_law 317 = .ok (.aload_n 0, 1) := by decide +kernel
theorem dL_law_318 : decode cL_law 318 = .ok (.iload_n 3, 1) := by decide +kernel
theorem dL_law_319 : decode cL_law 319 = .ok (.iconst 1, 1) := by decide +kernel
theorem dL_law_320 : decode cL_law 320 = .ok (.iadd, 1) := by decide +kernel
theorem dL_law_321 : decode cL_law 321 = .ok (.iaload, 1) := by decide +kernel
theorem dL_law_322 : decode cL_law 322 = .ok (.invokevirtual 32, 3) := by decide +kernel
theorem dL_law_325 : decode cL_law 325 = .ok (.aload_n 2, 1) := by decide +kernel
theorem dL_law_326 : decode cL_law 326 = .ok (.aload_n 0, 1) := by decide +kernel
theorem dL_law_327 : decode cL_law 327 = .ok (.iload_n 3, 1) := by decide +kernel
theorem dL_law_328 : decode cL_law 328 = .ok (.iconst 1, 1) := by decide +kernel
theorem dL_law_329 : decode cL_law 329 = .ok (.iadd, 1) := by decide +kernel
theorem dL_law_330 : decode cL_law 330 = .ok (.iaload, 1) := by decide +kernel
theorem dL_law_331 : decode cL_law 331 = .ok (.invokevirtual 35, 3) := by decide +kernel
theorem dL_law_334 : decode cL_law 334 = .ok (.if_icmp .eq 391, 3) := by decide +kernel
theorem dL_law_337 : decode cL_law 337 = .ok (.iconst 0, 1) := by decide +kernel
theorem dL_law_338 : decode cL_law 338 = .ok (.ireturn, 1) := by decide +kernel
theorem dL_law_339 : decode cL_law 339 = .ok (.aload_n 1, 1) := by decide +kernel
theorem dL_law_340 : decode cL_law 340 = .ok (.aload_n 0, 1) := by decide +kernel
theorem dL_law_341 : decode cL_law 341 = .ok (.iload_n 3, 1) := by decide +kernel
theorem dL_law_342 : decode cL_law 342 = .ok (.iconst 1, 1) := by decide +kernel
theorem dL_law_343 : decode cL_law 343 = .ok (.iadd, 1) := by decide +kernel
theorem dL_law_344 : decode cL_law 344 = .ok (.iaload, 1) := by decide +kernel
theorem dL_law_345 : decode cL_law 345 = .ok (.aload_n 0, 1) := by decide +kernel
theorem dL_law_346 : decode cL_law 346 = .ok (.iload_n 3, 1) := by decide +kernel
theorem dL_law_347 : decode cL_law 347 = .ok (.iconst 2, 1) := by decide +kernel
theorem dL_law_348 : decode cL_law 348 = .ok (.iadd, 1) := by decide +kernel
theorem dL_law_349 : decode cL_law 349 = .ok (.iaload, 1) := by decide +kernel
theorem dL_law_350 : decode cL_law 350 = .ok (.invokevirtual 36, 3) := by decide +kernel
theorem dL_law_353 : decode cL_law 353 = .ok (.aload_n 2, 1) := by decide +kernel
theorem dL_law_354 : decode cL_law 354 = .ok (.aload_n 0, 1) := by decide +kernel
theorem dL_law_355 : decode cL_law 355 = .ok (.iload_n 3, 1) := by decide +kernel
theorem dL_law_356 : decode cL_law 356 = .ok (.iconst 1, 1) := by decide +kernel
theorem dL_law_357 : decode cL_law 357 = .ok (.iadd, 1) := by decide +kernel
theorem dL_law_358 : decode cL_law 358 = .ok (.iaload, 1) := by decide +kernel
theorem dL_law_359 : decode cL_law 359 = .ok (.aload_n 0, 1) := by decide +kernel
theorem dL_law_360 : decode cL_law 360 = .ok (.iload_n 3, 1) := by decide +kernel
theorem dL_law_361 : decode cL_law 361 = .ok (.iconst 2, 1) := by decide +kernel
theorem dL_law_362 : decode cL_law 362 = .ok (.iadd, 1) := by decide +kernel
theorem dL_law_363 : decode cL_law 363 = .ok (.iaload, 1) := by decide +kernel
theorem dL_law_364 : decode cL_law 364 = .ok (.invokevirtual 40, 3) := by decide +kernel
theorem dL_law_367 : decode cL_law 367 = .ok (.if_icmp .eq 358, 3) := by decide +kernel
theorem dL_law_370 : decode cL_law 370 = .ok (.iconst 0, 1) := by decide +kernel
theorem dL_law_371 : decode cL_law 371 = .ok (.ireturn, 1) := by decide +kernel
theorem dL_law_372 : decode cL_law 372 = .ok (.aload_n 1, 1) := by decide +kernel
theorem dL_law_373 : decode cL_law 373 = .ok (.aload_n 0, 1) := by decide +kernel
theorem dL_law_374 : decode cL_law 374 = .ok (.iload_n 3, 1) := by decide +kernel
theorem dL_law_375 : decode cL_law 375 = .ok (.iconst 1, 1) := by decide +kernel
theorem dL_law_376 : decode cL_law 376 = .ok (.iadd, 1) := by decide +kernel
theorem dL_law_377 : decode cL_law 377 = .ok (.iaload, 1) := by decide +kernel
theorem dL_law_378 : decode cL_law 378 = .ok (.i2l, 1) := by decide +kernel
theorem dL_law_379 : decode cL_law 379 = .ok (.bipush 32, 2) := by decide +kernel
theorem dL_law_381 : decode cL_law 381 = .ok (.lshl, 1) := by decide +kernel
theorem dL_law_382 : decode cL_law 382 = .ok (.aload_n 0, 1) := by decide +kernel
theorem dL_law_383 : decode cL_law 383 = .ok (.iload_n 3, 1) := by decide +kernel
theorem dL_law_384 : decode cL_law 384 = .ok (.iconst 2, 1) := by decide +kernel
theorem dL_law_385 : decode cL_law 385 = .ok (.iadd, 1) := by decide +kernel
theorem dL_law_386 : decode cL_law 386 = .ok (.iaload, 1) := by decide +kernel
theorem dL_law_387 : decode cL_law 387 = .ok (.i2l, 1) := by decide +kernel
theorem dL_law_388 : decode cL_law 388 = .ok (.ldc2_w 41, 3) := by decide +kernel
theorem dL_law_391 : decode cL_law 391 = .ok (.land, 1) := by decide +kernel
theorem dL_law_392 : decode cL_law 392 = .ok (.lor, 1) := by decide +kernel
theorem dL_law_393 : decode cL_law 393 = .ok (.invokevirtual 43, 3) := by decide +kernel
theorem dL_law_396 : decode cL_law 396 = .ok (.aload_n 2, 1) := by decide +kernel
theorem dL_law_397 : decode cL_law 397 = .ok (.aload_n 0, 1) := by decide +kernel
theorem dL_law_398 : decode cL_law 398 = .ok (.iload_n 3, 1) := by decide +kernel
theorem dL_law_399 : decode cL_law 399 = .ok (.iconst 1, 1) := by decide +kernel
theorem dL_law_400 : decode cL_law 400 = .ok (.iadd, 1) := by decide +kernel
theorem dL_law_401 : decode cL_law 401 = .ok (.iaload, 1) := by decide +kernel
theorem dL_law_402 : decode cL_law 402 = .ok (.i2l, 1) := by decide +kernel
theorem dL_law_403 : decode cL_law 403 = .ok (.bipush 32, 2) := by decide +kernel
theorem dL_law_405 : decode cL_law 405 = .ok (.lshl, 1) := by decide +kernel
theorem dL_law_406 : decode cL_law 406 = .ok (.aload_n 0, 1) := by decide +kernel
theorem dL_law_407 : decode cL_law 407 = .ok (.iload_n 3, 1) := by decide +kernel
theorem dL_law_408 : decode cL_law 408 = .ok (.iconst 2, 1) := by decide +kernel
theorem dL_law_409 : decode cL_law 409 = .ok (.iadd, 1) := by decide +kernel
theorem dL_law_410 : decode cL_law 410 = .ok (.iaload, 1) := by decide +kernel
theorem dL_law_411 : decode cL_law 411 = .ok (.i2l, 1) := by decide +kernel
theorem dL_law_412 : decode cL_law 412 = .ok (.ldc2_w 41, 3) := by decide +kernel
theorem dL_law_415 : decode cL_law 415 = .ok (.land, 1) := by decide +kernel
theorem dL_law_416 : decode cL_law 416 = .ok (.lor, 1) := by decide +kernel
theorem dL_law_417 : decode cL_law 417 = .ok (.invokevirtual 47, 3) := by decide +kernel
theorem dL_law_420 : decode cL_law 420 = .ok (.lcmp, 1) := by decide +kernel
theorem dL_law_421 : decode cL_law 421 = .ok (.ifCond .eq 304, 3) := by decide +kernel
theorem dL_law_424 : decode cL_law 424 = .ok (.iconst 0, 1) := by decide +kernel
theorem dL_law_425 : decode cL_law 425 = .ok (.ireturn, 1) := by decide +kernel
theorem dL_law_426 : decode cL_law 426 = .ok (.aload_n 1, 1) := by decide +kernel
theorem dL_law_427 : decode cL_law 427 = .ok (.invokevirtual 48, 3) := by decide +kernel
theorem dL_law_430 : decode cL_law 430 = .ok (.aload_n 2, 1) := by decide +kernel
theorem dL_law_431 : decode cL_law 431 = .ok (.invokevirtual 52, 3) := by decide +kernel
theorem dL_law_434 : decode cL_law 434 = .ok (.if_icmp .eq 291, 3) := by decide +kernel
theorem dL_law_437 : decode cL_law 437 = .ok (.iconst 0, 1) := by decide +kernel
theorem dL_law_438 : decode cL_law 438 = .ok (.ireturn, 1) := by decide +kernel
theorem dL_law_439 : decode cL_law 439 = .ok (.aload_n 1, 1) := by decide +kernel
theorem dL_law_440 : decode cL_law 440 = .ok (.invokevirtual 53, 3) := by decide +kernel
theorem dL_law_443 : decode cL_law 443 = .ok (.aload_n 2, 1) := by decide +kernel
theorem dL_law_444 : decode cL_law 444 = .ok (.invokevirtual 56, 3) := by decide +kernel
theorem dL_law_447 : decode cL_law 447 = .ok (.if_icmp .eq 278, 3) := by decide +kernel
theorem dL_law_450 : decode cL_law 450 = .ok (.iconst 0, 1) := by decide +kernel
theorem dL_law_451 : decode cL_law 451 = .ok (.ireturn, 1) := by decide +kernel
theorem dL_law_452 : decode cL_law 452 = .ok (.aload_n 1, 1) := by decide +kernel
theorem dL_law_453 : decode cL_law 453 = .ok (.aload_n 0, 1) := by decide +kernel
theorem dL_law_454 : decode cL_law 454 = .ok (.iload_n 3, 1) := by decide +kernel
theorem dL_law_455 : decode cL_law 455 = .ok (.iconst 1, 1) := by decide +kernel
theorem dL_law_456 : decode cL_law 456 = .ok (.iadd, 1) := by decide +kernel
theorem dL_law_457 : decode cL_law 457 = .ok (.iaload, 1) := by decide +kernel
theorem dL_law_458 : decode cL_law 458 = .ok (.aload_n 0, 1) := by decide +kernel
theorem dL_law_459 : decode cL_law 459 = .ok (.iload_n 3, 1) := by decide +kernel
theorem dL_law_460 : decode cL_law 460 = .ok (.iconst 2, 1) := by decide +kernel
theorem dL_law_461 : decode cL_law 461 = .ok (.iadd, 1) := by decide +kernel
theorem dL_law_462 : decode cL_law 462 = .ok (.iaload, 1) := by decide +kernel
theorem dL_law_463 : decode cL_law 463 = .ok (.aload_n 0, 1) := by decide +kernel
theorem dL_law_464 : decode cL_law 464 = .ok (.iload_n 3, 1) := by decide +kernel
theorem dL_law_465 : decode cL_law 465 = .ok (.iconst 3, 1) := by decide +kernel
theorem dL_law_466 : decode cL_law 466 = .ok (.iadd, 1) := by decide +kernel
theorem dL_law_467 : decode cL_law 467 = .ok (.iaload, 1) := by decide +kernel
theorem dL_law_468 : decode cL_law 468 = .ok (.invokevirtual 57, 3) := by decide +kernel
theorem dL_law_471 : decode cL_law 471 = .ok (.aload_n 2, 1) := by decide +kernel
theorem dL_law_472 : decode cL_law 472 = .ok (.aload_n 0, 1) := by decide +kernel
theorem dL_law_473 : decode cL_law 473 = .ok (.iload_n 3, 1) := by decide +kernel
theorem dL_law_474 : decode cL_law 474 = .ok (.iconst 1, 1) := by decide +kernel
theorem dL_law_475 : decode cL_law 475 = .ok (.iadd, 1) := by decide +kernel
theorem dL_law_476 : decode cL_law 476 = .ok (.iaload, 1) := by decide +kernel
theorem dL_law_477 : decode cL_law 477 = .ok (.aload_n 0, 1) := by decide +kernel
theorem dL_law_478 : decode cL_law 478 = .ok (.iload_n 3, 1) := by decide +kernel
theorem dL_law_479 : decode cL_law 479 = .ok (.iconst 2, 1) := by decide +kernel
theorem dL_law_480 : decode cL_law 480 = .ok (.iadd, 1) := by decide +kernel
theorem dL_law_481 : decode cL_law 481 = .ok (.iaload, 1) := by decide +kernel
theorem dL_law_482 : decode cL_law 482 = .ok (.aload_n 0, 1) := by decide +kernel
theorem dL_law_483 : decode cL_law 483 = .ok (.iload_n 3, 1) := by decide +kernel
theorem dL_law_484 : decode cL_law 484 = .ok (.iconst 3, 1) := by decide +kernel
theorem dL_law_485 : decode cL_law 485 = .ok (.iadd, 1) := by decide +kernel
theorem dL_law_486 : decode cL_law 486 = .ok (.iaload, 1) := by decide +kernel
theorem dL_law_487 : decode cL_law 487 = .ok (.invokevirtual 61, 3) := by decide +kernel
theorem dL_law_490 : decode cL_law 490 = .ok (.lcmp, 1) := by decide +kernel
theorem dL_law_491 : decode cL_law 491 = .ok (.ifCond .eq 234, 3) := by decide +kernel
theorem dL_law_494 : decode cL_law 494 = .ok (.iconst 0, 1) := by decide +kernel
theorem dL_law_495 : decode cL_law 495 = .ok (.ireturn, 1) := by decide +kernel
theorem dL_law_496 : decode cL_law 496 = .ok (.aload_n 1, 1) := by decide +kernel
theorem dL_law_497 : decode cL_law 497 = .ok (.aload_n 0, 1) := by decide +kernel
theorem dL_law_498 : decode cL_law 498 = .ok (.iload_n 3, 1) := by decide +kernel
theorem dL_law_499 : decode cL_law 499 = .ok (.iconst 1, 1) := by decide +kernel
theorem dL_law_500 : decode cL_law 500 = .ok (.iadd, 1) := by decide +kernel
theorem dL_law_501 : decode cL_law 501 = .ok (.iaload, 1) := by decide +kernel
theorem dL_law_502 : decode cL_law 502 = .ok (.aload_n 0, 1) := by decide +kernel
theorem dL_law_503 : decode cL_law 503 = .ok (.iload_n 3, 1) := by decide +kernel
theorem dL_law_504 : decode cL_law 504 = .ok (.iconst 2, 1) := by decide +kernel
theorem dL_law_505 : decode cL_law 505 = .ok (.iadd, 1) := by decide +kernel
theorem dL_law_506 : decode cL_law 506 = .ok (.iaload, 1) := by decide +kernel
theorem dL_law_507 : decode cL_law 507 = .ok (.invokevirtual 62, 3) := by decide +kernel
theorem dL_law_510 : decode cL_law 510 = .ok (.aload_n 2, 1) := by decide +kernel
theorem dL_law_511 : decode cL_law 511 = .ok (.aload_n 0, 1) := by decide +kernel
theorem dL_law_512 : decode cL_law 512 = .ok (.iload_n 3, 1) := by decide +kernel
theorem dL_law_513 : decode cL_law 513 = .ok (.iconst 1, 1) := by decide +kernel
theorem dL_law_514 : decode cL_law 514 = .ok (.iadd, 1) := by decide +kernel
theorem dL_law_515 : decode cL_law 515 = .ok (.iaload, 1) := by decide +kernel
theorem dL_law_516 : decode cL_law 516 = .ok (.aload_n 0, 1) := by decide +kernel
theorem dL_law_517 : decode cL_law 517 = .ok (.iload_n 3, 1) := by decide +kernel
theorem dL_law_518 : decode cL_law 518 = .ok (.iconst 2, 1) := by decide +kernel
theorem dL_law_519 : decode cL_law 519 = .ok (.iadd, 1) := by decide +kernel
theorem dL_law_520 : decode cL_law 520 = .ok (.iaload, 1) := by decide +kernel
theorem dL_law_521 : decode cL_law 521 = .ok (.invokevirtual 65, 3) := by decide +kernel
theorem dL_law_524 : decode cL_law 524 = .ok (.if_icmp .eq 201, 3) := by decide +kernel
theorem dL_law_527 : decode cL_law 527 = .ok (.iconst 0, 1) := by decide +kernel
theorem dL_law_528 : decode cL_law 528 = .ok (.ireturn, 1) := by decide +kernel
theorem dL_law_529 : decode cL_law 529 = .ok (.aload_n 1, 1) := by decide +kernel
theorem dL_law_530 : decode cL_law 530 = .ok (.invokevirtual 66, 3) := by decide +kernel
theorem dL_law_533 : decode cL_law 533 = .ok (.aload_n 2, 1) := by decide +kernel
theorem dL_law_534 : decode cL_law 534 = .ok (.invokevirtual 69, 3) := by decide +kernel
theorem dL_law_537 : decode cL_law 537 = .ok (.if_icmp .eq 188, 3) := by decide +kernel
theorem dL_law_540 : decode cL_law 540 = .ok (.iconst 0, 1) := by decide +kernel
theorem dL_law_541 : decode cL_law 541 = .ok (.ireturn, 1) := by decide +kernel
theorem dL_law_542 : decode cL_law 542 = .ok (.aload_n 1, 1) := by decide +kernel
theorem dL_law_543 : decode cL_law 543 = .ok (.invokevirtual 70, 3) := by decide +kernel
theorem dL_law_546 : decode cL_law 546 = .ok (.aload_n 2, 1) := by decide +kernel
theorem dL_law_547 : decode cL_law 547 = .ok (.invokevirtual 73, 3) := by decide +kernel
theorem dL_law_550 : decode cL_law 550 = .ok (.if_icmp .eq 175, 3) := by decide +kernel
theorem dL_law_553 : decode cL_law 553 = .ok (.iconst 0, 1) := by decide +kernel
theorem dL_law_554 : decode cL_law 554 = .ok (.ireturn, 1) := by decide +kernel
theorem dL_law_555 : decode cL_law 555 = .ok (.aload_n 1, 1) := by decide +kernel
theorem dL_law_556 : decode cL_law 556 = .ok (.aload_n 0, 1) := by decide +kernel
theorem dL_law_557 : decode cL_law 557 = .ok (.iload_n 3, 1) := by decide +kernel
theorem dL_law_558 : decode cL_law 558 = .ok (.iconst 1, 1) := by decide +kernel
theorem dL_law_559 : decode cL_law 559 = .ok (.iadd, 1) := by decide +kernel
theorem dL_law_560 : decode cL_law 560 = .ok (.iaload, 1) := by decide +kernel
theorem dL_law_561 : decode cL_law 561 = .ok (.invokevirtual 74, 3) := by decide +kernel
theorem dL_law_564 : decode cL_law 564 = .ok (.aload_n 2, 1) := by decide +kernel
theorem dL_law_565 : decode cL_law 565 = .ok (.aload_n 0, 1) := by decide +kernel
theorem dL_law_566 : decode cL_law 566 = .ok (.iload_n 3, 1) := by decide +kernel
theorem dL_law_567 : decode cL_law 567 = .ok (.iconst 1, 1) := by decide +kernel
theorem dL_law_568 : decode cL_law 568 = .ok (.iadd, 1) := by decide +kernel
theorem dL_law_569 : decode cL_law 569 = .ok (.iaload, 1) := by decide +kernel
theorem dL_law_570 : decode cL_law 570 = .ok (.invokevirtual 77, 3) := by decide +kernel
theorem dL_law_573 : decode cL_law 573 = .ok (.if_icmp .eq 152, 3) := by decide +kernel
theorem dL_law_576 : decode cL_law 576 = .ok (.iconst 0, 1) := by decide +kernel
theorem dL_law_577 : decode cL_law 577 = .ok (.ireturn, 1) := by decide +kernel
theorem dL_law_578 : decode cL_law 578 = .ok (.aload_n 1, 1) := by decide +kernel
theorem dL_law_579 : decode cL_law 579 = .ok (.aload_n 0, 1) := by decide +kernel
theorem dL_law_580 : decode cL_law 580 = .ok (.iload_n 3, 1) := by decide +kernel
theorem dL_law_581 : decode cL_law 581 = .ok (.iconst 1, 1) := by decide +kernel
theorem dL_law_582 : decode cL_law 582 = .ok (.iadd, 1) := by decide +kernel
theorem dL_law_583 : decode cL_law 583 = .ok (.iaload, 1) := by decide +kernel
theorem dL_law_584 : decode cL_law 584 = .ok (.invokevirtual 78, 3) := by decide +kernel
theorem dL_law_587 : decode cL_law 587 = .ok (.aload_n 2, 1) := by decide +kernel
theorem dL_law_588 : decode cL_law 588 = .ok (.aload_n 0, 1) := by decide +kernel
theorem dL_law_589 : decode cL_law 589 = .ok (.iload_n 3, 1) := by decide +kernel
theorem dL_law_590 : decode cL_law 590 = .ok (.iconst 1, 1) := by decide +kernel
theorem dL_law_591 : decode cL_law 591 = .ok (.iadd, 1) := by decide +kernel
theorem dL_law_592 : decode cL_law 592 = .ok (.iaload, 1) := by decide +kernel
theorem dL_law_593 : decode cL_law 593 = .ok (.invokevirtual 81, 3) := by decide +kernel
theorem dL_law_596 : decode cL_law 596 = .ok (.if_icmp .eq 129, 3) := by decide +kernel
theorem dL_law_599 : decode cL_law 599 = .ok (.iconst 0, 1) := by decide +kernel
theorem dL_law_600 : decode cL_law 600 = .ok (.ireturn, 1) := by decide +kernel
theorem dL_law_601 : decode cL_law 601 = .ok (.aload_n 1, 1) := by decide +kernel
theorem dL_law_602 : decode cL_law 602 = .ok (.aload_n 0, 1) := by decide +kernel
theorem dL_law_603 : decode cL_law 603 = .ok (.iload_n 3, 1) := by decide +kernel
theorem dL_law_604 : decode cL_law 604 = .ok (.iconst 1, 1) := by decide +kernel
theorem dL_law_605 : decode cL_law 605 = .ok (.iadd, 1) := by decide +kernel
theorem dL_law_606 : decode cL_law 606 = .ok (.iaload, 1) := by decide +kernel
theorem dL_law_607 : decode cL_law 607 = .ok (.invokevirtual 82, 3) := by decide +kernel
theorem dL_law_610 : decode cL_law 610 = .ok (.aload_n 2, 1) := by decide +kernel
theorem dL_law_611 : decode cL_law 611 = .ok (.aload_n 0, 1) := by decide +kernel
theorem dL_law_612 : decode cL_law 612 = .ok (.iload_n 3, 1) := by decide +kernel
theorem dL_law_613 : decode cL_law 613 = .ok (.iconst 1, 1) := by decide +kernel
theorem dL_law_614 : decode cL_law 614 = .ok (.iadd, 1) := by decide +kernel
theorem dL_law_615 : decode cL_law 615 = .ok (.iaload, 1) := by decide +kernel
theorem dL_law_616 : decode cL_law 616 = .ok (.invokevirtual 86, 3) := by decide +kernel
theorem dL_law_619 : decode cL_law 619 = .ok (.lcmp, 1) := by decide +kernel
theorem dL_law_620 : decode cL_law 620 = .ok (.ifCond .eq 105, 3) := by decide +kernel
theorem dL_law_623 : decode cL_law 623 = .ok (.iconst 0, 1) := by decide +kernel
theorem dL_law_624 : decode cL_law 624 = .ok (.ireturn, 1) := by decide +kernel
theorem dL_law_625 : decode cL_law 625 = .ok (.aload_n 1, 1) := by decide +kernel
theorem dL_law_626 : decode cL_law 626 = .ok (.aload_n 0, 1) := by decide +kernel
theorem dL_law_627 : decode cL_law 627 = .ok (.iload_n 3, 1) := by decide +kernel
theorem dL_law_628 : decode cL_law 628 = .ok (.iconst 1, 1) := by decide +kernel
theorem dL_law_629 : decode cL_law 629 = .ok (.iadd, 1) := by decide +kernel
theorem dL_law_630 : decode cL_law 630 = .ok (.iaload, 1) := by decide +kernel
theorem dL_law_631 : decode cL_law 631 = .ok (.i2l, 1) := by decide +kernel
theorem dL_law_632 : decode cL_law 632 = .ok (.bipush 32, 2) := by decide +kernel
theorem dL_law_634 : decode cL_law 634 = .ok (.lshl, 1) := by decide +kernel
theorem dL_law_635 : decode cL_law 635 = .ok (.aload_n 0, 1) := by decide +kernel
theorem dL_law_636 : decode cL_law 636 = .ok (.iload_n 3, 1) := by decide +kernel
theorem dL_law_637 : decode cL_law 637 = .ok (.iconst 2, 1) := by decide +kernel
theorem dL_law_638 : decode cL_law 638 = .ok (.iadd, 1) := by decide +kernel
theorem dL_law_639 : decode cL_law 639 = .ok (.iaload, 1) := by decide +kernel
theorem dL_law_640 : decode cL_law 640 = .ok (.i2l, 1) := by decide +kernel
theorem dL_law_641 : decode cL_law 641 = .ok (.ldc2_w 41, 3) := by decide +kernel
theorem dL_law_644 : decode cL_law 644 = .ok (.land, 1) := by decide +kernel
theorem dL_law_645 : decode cL_law 645 = .ok (.lor, 1) := by decide +kernel
theorem dL_law_646 : decode cL_law 646 = .ok (.invokevirtual 87, 3) := by decide +kernel
theorem dL_law_649 : decode cL_law 649 = .ok (.aload_n 2, 1) := by decide +kernel
theorem dL_law_650 : decode cL_law 650 = .ok (.aload_n 0, 1) := by decide +kernel
theorem dL_law_651 : decode cL_law 651 = .ok (.iload_n 3, 1) := by decide +kernel
theorem dL_law_652 : decode cL_law 652 = .ok (.iconst 1, 1) := by decide +kernel
theorem dL_law_653 : decode cL_law 653 = .ok (.iadd, 1) := by decide +kernel
theorem dL_law_654 : decode cL_law 654 = .ok (.iaload, 1) := by decide +kernel
theorem dL_law_655 : decode cL_law 655 = .ok (.i2l, 1) := by decide +kernel
theorem dL_law_656 : decode cL_law 656 = .ok (.bipush 32, 2) := by decide +kernel
theorem dL_law_658 : decode cL_law 658 = .ok (.lshl, 1) := by decide +kernel
theorem dL_law_659 : decode cL_law 659 = .ok (.aload_n 0, 1) := by decide +kernel
theorem dL_law_660 : decode cL_law 660 = .ok (.iload_n 3, 1) := by decide +kernel
theorem dL_law_661 : decode cL_law 661 = .ok (.iconst 2, 1) := by decide +kernel
theorem dL_law_662 : decode cL_law 662 = .ok (.iadd, 1) := by decide +kernel
theorem dL_law_663 : decode cL_law 663 = .ok (.iaload, 1) := by decide +kernel
theorem dL_law_664 : decode cL_law 664 = .ok (.i2l, 1) := by decide +kernel
theorem dL_law_665 : decode cL_law 665 = .ok (.ldc2_w 41, 3) := by decide +kernel
theorem dL_law_668 : decode cL_law 668 = .ok (.land, 1) := by decide +kernel
theorem dL_law_669 : decode cL_law 669 = .ok (.lor, 1) := by decide +kernel
theorem dL_law_670 : decode cL_law 670 = .ok (.invokevirtual 91, 3) := by decide +kernel
theorem dL_law_673 : decode cL_law 673 = .ok (.if_icmp .eq 52, 3) := by decide +kernel
theorem dL_law_676 : decode cL_law 676 = .ok (.iconst 0, 1) := by decide +kernel
theorem dL_law_677 : decode cL_law 677 = .ok (.ireturn, 1) := by decide +kernel
theorem dL_law_678 : decode cL_law 678 = .ok (.aload_n 1, 1) := by decide +kernel
theorem dL_law_679 : decode cL_law 679 = .ok (.aload_n 0, 1) := by decide +kernel
theorem dL_law_680 : decode cL_law 680 = .ok (.iload_n 3, 1) := by decide +kernel
theorem dL_law_681 : decode cL_law 681 = .ok (.iconst 1, 1) := by decide +kernel
theorem dL_law_682 : decode cL_law 682 = .ok (.iadd, 1) := by decide +kernel
theorem dL_law_683 : decode cL_law 683 = .ok (.iaload, 1) := by decide +kernel
theorem dL_law_684 : decode cL_law 684 = .ok (.invokevirtual 92, 3) := by decide +kernel
theorem dL_law_687 : decode cL_law 687 = .ok (.aload_n 2, 1) := by decide +kernel
theorem dL_law_688 : decode cL_law 688 = .ok (.aload_n 0, 1) := by decide +kernel
theorem dL_law_689 : decode cL_law 689 = .ok (.iload_n 3, 1) := by decide +kernel
theorem dL_law_690 : decode cL_law 690 = .ok (.iconst 1, 1) := by decide +kernel
theorem dL_law_691 : decode cL_law 691 = .ok (.iadd, 1) := by decide +kernel
theorem dL_law_692 : decode cL_law 692 = .ok (.iaload, 1) := by decide +kernel
theorem dL_law_693 : decode cL_law 693 = .ok (.invokevirtual 95, 3) := by decide +kernel
theorem dL_law_696 : decode cL_law 696 = .ok (.lcmp, 1) := by decide +kernel
theorem dL_law_697 : decode cL_law 697 = .ok (.ifCond .eq 28, 3) := by decide +kernel
theorem dL_law_700 : decode cL_law 700 = .ok (.iconst 0, 1) := by decide +kernel
theorem dL_law_701 : decode cL_law 701 = .ok (.ireturn, 1) := by decide +kernel
theorem dL_law_702 : decode cL_law 702 = .ok (.aload_n 1, 1) := by decide +kernel
theorem dL_law_703 : decode cL_law 703 = .ok (.aload_n 0, 1) := by decide +kernel
theorem dL_law_704 : decode cL_law 704 = .ok (.iload_n 3, 1) := by decide +kernel
theorem dL_law_705 : decode cL_law 705 = .ok (.iconst 1, 1) := by decide +kernel
theorem dL_law_706 : decode cL_law 706 = .ok (.iadd, 1) := by decide +kernel
theorem dL_law_707 : decode cL_law 707 = .ok (.iaload, 1) := by decide +kernel
theorem dL_law_708 : decode cL_law 708 = .ok (.invokevirtual 96, 3) := by decide +kernel
theorem dL_law_711 : decode cL_law 711 = .ok (.aload_n 2, 1) := by decide +kernel
theorem dL_law_712 : decode cL_law 712 = .ok (.aload_n 0, 1) := by decide +kernel
theorem dL_law_713 : decode cL_law 713 = .ok (.iload_n 3, 1) := by decide +kernel
theorem dL_law_714 : decode cL_law 714 = .ok (.iconst 1, 1) := by decide +kernel
theorem dL_law_715 : decode cL_law 715 = .ok (.iadd, 1) := by decide +kernel
theorem dL_law_716 : decode cL_law 716 = .ok (.iaload, 1) := by decide +kernel
theorem dL_law_717 : decode cL_law 717 = .ok (.invokevirtual 99, 3) := by decide +kernel
theorem dL_law_720 : decode cL_law 720 = .ok (.if_icmp .eq 5, 3) := by decide +kernel
theorem dL_law_723 : decode cL_law 723 = .ok (.iconst 0, 1) := by decide +kernel
theorem dL_law_724 : decode cL_law 724 = .ok (.ireturn, 1) := by decide +kernel
theorem dL_law_725 : decode cL_law 725 = .ok (.iinc 3 6, 3) := by decide +kernel
theorem dL_law_728 : decode cL_law 728 = .ok (.goto (-710), 3) := by decide +kernel
theorem dL_law_731 : decode cL_law 731 = .ok (.iconst 1, 1) := by decide +kernel
theorem dL_law_732 : decode cL_law 732 = .ok (.ireturn, 1) := by decide +kernel
theorem lk_127 : Cond.classLink RL 7 RX8 ∈ tb0 := tb_in (i := 127) (by decide +kernel) (by decide +kernel)
theorem lk_128 : Cond.instantiable RX8 4 ∈ tb0 := tb_in (i := 128) (by decide +kernel) (by decide +kernel)
theorem lk_129 : Cond.methodLink RL 9 yX8_init ∈ tb0 := tb_in (i := 129) (by decide +kernel) (by decide +kernel)
theorem lk_1065 : Cond.classLink RL 10 RX9 ∈ tb0 := tb_in (i := 1065) (by decide +kernel) (by decide +kernel)
theorem lk_1066 : Cond.instantiable RX9 54 ∈ tb0 := tb_in (i := 1066) (by decide +kernel) (by decide +kernel)
theorem lk_1067 : Cond.methodLink RL 12 yX9_init ∈ tb0 := tb_in (i := 1067) (by decide +kernel) (by decide +kernel)
theorem lk_368 : Cond.methodLink RL 13 yX8_feed ∈ tb0 := tb_in (i := 368) (by decide +kernel) (by decide +kernel)
theorem lk_1235 : Cond.methodLink RL 17 yX9_feed ∈ tb0 := tb_in (i := 1235) (by decide +kernel) (by decide +kernel)
theorem lk_383 : Cond.methodLink RL 18 yX8_alter ∈ tb0 := tb_in (i := 383) (by decide +kernel) (by decide +kernel)
theorem lk_1252 : Cond.methodLink RL 22 yX9_alter ∈ tb0 := tb_in (i := 1252) (by decide +kernel) (by decide +kernel)
theorem lk_388 : Cond.methodLink RL 23 yX8_cut ∈ tb0 := tb_in (i := 388) (by decide +kernel) (by decide +kernel)
theorem lk_1256 : Cond.methodLink RL 27 yX9_cut ∈ tb0 := tb_in (i := 1256) (by decide +kernel) (by decide +kernel)
theorem lk_392 : Cond.methodLink RL 28 yX8_table ∈ tb0 := tb_in (i := 392) (by decide +kernel) (by decide +kernel)
theorem lk_435 : Cond.methodLink RL 32 yX8_context ∈ tb0 := tb_in (i := 435) (by decide +kernel) (by decide +kernel)
theorem lk_1422 : Cond.methodLink RL 35 yX9_context ∈ tb0 := tb_in (i := 1422) (by decide +kernel) (by decide +kernel)
theorem lk_443 : Cond.methodLink RL 36 yX8_poke ∈ tb0 := tb_in (i := 443) (by decide +kernel) (by decide +kernel)
theorem lk_1427 : Cond.methodLink RL 40 yX9_poke ∈ tb0 := tb_in (i := 1427) (by decide +kernel) (by decide +kernel)
theorem lk_1608 : Cond.constantLong RL 41 (4294967295) ∈ tb0 := tb_in (i := 1608) (by decide +kernel) (by decide +kernel)
theorem lk_447 : Cond.methodLink RL 43 yX8_tick ∈ tb0 := tb_in (i := 447) (by decide +kernel) (by decide +kernel)
theorem lk_1431 : Cond.methodLink RL 47 yX9_tick ∈ tb0 := tb_in (i := 1431) (by decide +kernel) (by decide +kernel)
theorem lk_453 : Cond.methodLink RL 48 yX8_judge ∈ tb0 := tb_in (i := 453) (by decide +kernel) (by decide +kernel)
theorem lk_860 : Cond.methodLink RL 53 yX8_place ∈ tb0 := tb_in (i := 860) (by decide +kernel) (by decide +kernel)
theorem lk_1595 : Cond.methodLink RL 56 yX9_place ∈ tb0 := tb_in (i := 1595) (by decide +kernel) (by decide +kernel)
theorem lk_864 : Cond.methodLink RL 57 yX8_may ∈ tb0 := tb_in (i := 864) (by decide +kernel) (by decide +kernel)
theorem lk_1599 : Cond.methodLink RL 61 yX9_may ∈ tb0 := tb_in (i := 1599) (by decide +kernel) (by decide +kernel)
theorem lk_875 : Cond.methodLink RL 62 yX8_cell ∈ tb0 := tb_in (i := 875) (by decide +kernel) (by decide +kernel)
theorem lk_1604 : Cond.methodLink RL 65 yX9_cell ∈ tb0 := tb_in (i := 1604) (by decide +kernel) (by decide +kernel)
theorem lk_883 : Cond.methodLink RL 66 yX8_start ∈ tb0 := tb_in (i := 883) (by decide +kernel) (by decide +kernel)
theorem lk_1296 : Cond.methodLink RL 69 yX9_start ∈ tb0 := tb_in (i := 1296) (by decide +kernel) (by decide +kernel)
theorem lk_897 : Cond.methodLink RL 70 yX8_step ∈ tb0 := tb_in (i := 897) (by decide +kernel) (by decide +kernel)
theorem lk_1300 : Cond.methodLink RL 73 yX9_step ∈ tb0 := tb_in (i := 1300) (by decide +kernel) (by decide +kernel)
theorem lk_1027 : Cond.methodLink RL 74 yX8_run ∈ tb0 := tb_in (i := 1027) (by decide +kernel) (by decide +kernel)
theorem lk_1416 : Cond.methodLink RL 77 yX9_run ∈ tb0 := tb_in (i := 1416) (by decide +kernel) (by decide +kernel)
theorem lk_1031 : Cond.methodLink RL 78 yX8_told ∈ tb0 := tb_in (i := 1031) (by decide +kernel) (by decide +kernel)
theorem lk_1437 : Cond.methodLink RL 81 yX9_told ∈ tb0 := tb_in (i := 1437) (by decide +kernel) (by decide +kernel)
theorem lk_1035 : Cond.methodLink RL 82 yX8_register ∈ tb0 := tb_in (i := 1035) (by decide +kernel) (by decide +kernel)
theorem lk_1441 : Cond.methodLink RL 86 yX9_register ∈ tb0 := tb_in (i := 1441) (by decide +kernel) (by decide +kernel)
theorem lk_1039 : Cond.methodLink RL 87 yX8_octet ∈ tb0 := tb_in (i := 1039) (by decide +kernel) (by decide +kernel)
theorem lk_1260 : Cond.methodLink RL 91 yX9_octet ∈ tb0 := tb_in (i := 1260) (by decide +kernel) (by decide +kernel)
theorem lk_1045 : Cond.methodLink RL 92 yX8_putAt ∈ tb0 := tb_in (i := 1045) (by decide +kernel) (by decide +kernel)
theorem lk_1446 : Cond.methodLink RL 95 yX9_putAt ∈ tb0 := tb_in (i := 1446) (by decide +kernel) (by decide +kernel)
theorem lk_1056 : Cond.methodLink RL 96 yX8_keys ∈ tb0 := tb_in (i := 1056) (by decide +kernel) (by decide +kernel)
theorem lk_1292 : Cond.methodLink RL 99 yX9_keys ∈ tb0 := tb_in (i := 1292) (by decide +kernel) (by decide +kernel)
theorem lk_1286 : Cond.methodLink RL 31 yX9_table ∈ tb0 := tb_in (i := 1286) (by decide +kernel) (by decide +kernel)
theorem lk_1450 : Cond.methodLink RL 52 yX9_judge ∈ tb0 := tb_in (i := 1450) (by decide +kernel) (by decide +kernel)
def f_law_725 (xs : Nat → Int32) (L : Nat) (k18 : Nat → Nat → Int32 → sh → dt → Option (Int32 × sh × dt)) (o1 : Nat) (o2 : Nat) (x3 : Int32) (S : sh) (D : dt) : Option (Int32 × sh × dt) := nm (x3 + 6) fun y285 => k18 o1 o2 y285 S D
def f_law_287 (xs : Nat → Int32) (L : Nat) (k18 : Nat → Nat → Int32 → sh → dt → Option (Int32 × sh × dt)) (o1 : Nat) (o2 : Nat) (x3 : Int32) (xs0 : Int32) (S : sh) (D : dt) : Option (Int32 × sh × dt) := ix (x3 + (1 : Int32)) L <| ix (x3 + (2 : Int32)) L <| ix (x3 + (3 : Int32)) L <| ix (x3 + (4 : Int32)) L <| cq (f_X9_table S o2 (xs (x3 + (1 : Int32)).toNatClampNeg) (xs (x3 + (2 : Int32)).toNatClampNeg) (xs (x3 + (3 : Int32)).toNatClampNeg) (xs (x3 + (4 : Int32)).toNatClampNeg) D) fun r292 D293 => if xs0 = r292 then (f_law_725 xs L k18 o1 o2 x3 S D293) else (some ((0 : Int32), S, D293))
def f_law_430 (xs : Nat → Int32) (L : Nat) (k18 : Nat → Nat → Int32 → sh → dt → Option (Int32 × sh × dt)) (o1 : Nat) (o2 : Nat) (x3 : Int32) (xs0 : Int32) (S : sh) (D : dt) : Option (Int32 × sh × dt) := cq (f_X9_judge S o2 D) fun r298 D299 => if xs0 = r298 then (f_law_725 xs L k18 o1 o2 x3 S D299) else (some ((0 : Int32), S, D299))
def f_law_18 (xs : Nat → Int32) (L : Nat) : Nat → Nat → Nat → Int32 → sh → dt → Option (Int32 × sh × dt)
  | 0, _, _, _, _, _ => none
  | n + 1, o1, o2, x3, S, D => if ((Int32.ofNat L) - (6 : Int32)) < x3 then (some ((1 : Int32), S, D)) else (ix x3 L <| if ((xs x3.toNatClampNeg) &&& (31 : Int32)) = 0 then (ix (x3 + (1 : Int32)) L <| ix (x3 + (2 : Int32)) L <| ix (x3 + (3 : Int32)) L <| ix (x3 + (4 : Int32)) L <| cq (f_X8_feed S o1 (xs (x3 + (1 : Int32)).toNatClampNeg) (xs (x3 + (2 : Int32)).toNatClampNeg) (xs (x3 + (3 : Int32)).toNatClampNeg) (xs (x3 + (4 : Int32)).toNatClampNeg) D) fun r311 D312 => ix (x3 + (1 : Int32)) L <| ix (x3 + (2 : Int32)) L <| ix (x3 + (3 : Int32)) L <| ix (x3 + (4 : Int32)) L <| cq (f_X9_feed S o2 (xs (x3 + (1 : Int32)).toNatClampNeg) (xs (x3 + (2 : Int32)).toNatClampNeg) (xs (x3 + (3 : Int32)).toNatClampNeg) (xs (x3 + (4 : Int32)).toNatClampNeg) D312) fun r318 D319 => if r311 = r318 then (f_law_725 xs L (f_law_18 xs L n) o1 o2 x3 S D319) else (some ((0 : Int32), S, D319))) else if ((xs x3.toNatClampNeg) &&& (31 : Int32)) = 1 then (ix (x3 + (1 : Int32)) L <| ix (x3 + (2 : Int32)) L <| ix (x3 + (3 : Int32)) L <| ix (x3 + (4 : Int32)) L <| ix (x3 + (5 : Int32)) L <| cq (f_X8_alter S o1 (xs (x3 + (1 : Int32)).toNatClampNeg) (xs (x3 + (2 : Int32)).toNatClampNeg) (xs (x3 + (3 : Int32)).toNatClampNeg) (xs (x3 + (4 : Int32)).toNatClampNeg) (xs (x3 + (5 : Int32)).toNatClampNeg) D) fun r330 D331 => ix (x3 + (1 : Int32)) L <| ix (x3 + (2 : Int32)) L <| ix (x3 + (3 : Int32)) L <| ix (x3 + (4 : Int32)) L <| ix (x3 + (5 : Int32)) L <| cq (f_X9_alter S o2 (xs (x3 + (1 : Int32)).toNatClampNeg) (xs (x3 + (2 : Int32)).toNatClampNeg) (xs (x3 + (3 : Int32)).toNatClampNeg) (xs (x3 + (4 : Int32)).toNatClampNeg) (xs (x3 + (5 : Int32)).toNatClampNeg) D331) fun r338 D339 => if r330 = r338 then (f_law_725 xs L (f_law_18 xs L n) o1 o2 x3 S D339) else (some ((0 : Int32), S, D339))) else if ((xs x3.toNatClampNeg) &&& (31 : Int32)) = 2 then (ix (x3 + (1 : Int32)) L <| cq (f_X8_cut S o1 (xs (x3 + (1 : Int32)).toNatClampNeg) D) fun r346 D347 => ix (x3 + (1 : Int32)) L <| cq (f_X9_cut S o2 (xs (x3 + (1 : Int32)).toNatClampNeg) D347) fun r350 D351 => if r346 = r350 then (f_law_725 xs L (f_law_18 xs L n) o1 o2 x3 S D351) else (some ((0 : Int32), S, D351))) else if ((xs x3.toNatClampNeg) &&& (31 : Int32)) = 3 then (ix (x3 + (1 : Int32)) L <| ix (x3 + (2 : Int32)) L <| ix (x3 + (3 : Int32)) L <| ix (x3 + (4 : Int32)) L <| c3 (f_X8_table o1 (xs (x3 + (1 : Int32)).toNatClampNeg) (xs (x3 + (2 : Int32)).toNatClampNeg) (xs (x3 + (3 : Int32)).toNatClampNeg) (xs (x3 + (4 : Int32)).toNatClampNeg) S D) fun r361 S363 D362 => f_law_287 xs L (f_law_18 xs L n) o1 o2 x3 r361 S363 D362) else if ((xs x3.toNatClampNeg) &&& (31 : Int32)) = 4 then (ix (x3 + (1 : Int32)) L <| cq (f_X8_context S o1 (xs (x3 + (1 : Int32)).toNatClampNeg) D) fun r373 D374 => ix (x3 + (1 : Int32)) L <| cq (f_X9_context S o2 (xs (x3 + (1 : Int32)).toNatClampNeg) D374) fun r377 D378 => if r373 = r377 then (f_law_725 xs L (f_law_18 xs L n) o1 o2 x3 S D378) else (some ((0 : Int32), S, D378))) else if ((xs x3.toNatClampNeg) &&& (31 : Int32)) = 5 then (ix (x3 + (1 : Int32)) L <| ix (x3 + (2 : Int32)) L <| cq (f_X8_poke S o1 (xs (x3 + (1 : Int32)).toNatClampNeg) (xs (x3 + (2 : Int32)).toNatClampNeg) D) fun r386 D387 => ix (x3 + (1 : Int32)) L <| ix (x3 + (2 : Int32)) L <| cq (f_X9_poke S o2 (xs (x3 + (1 : Int32)).toNatClampNeg) (xs (x3 + (2 : Int32)).toNatClampNeg) D387) fun r391 D392 => if r386 = r391 then (f_law_725 xs L (f_law_18 xs L n) o1 o2 x3 S D392) else (some ((0 : Int32), S, D392))) else if ((xs x3.toNatClampNeg) &&& (31 : Int32)) = 6 then (ix (x3 + (1 : Int32)) L <| ix (x3 + (2 : Int32)) L <| cq (f_X8_tick S o1 ((j_lshl ((xs (x3 + (1 : Int32)).toNatClampNeg).toInt64) (32 : Int32)) ||| (((xs (x3 + (2 : Int32)).toNatClampNeg).toInt64) &&& (4294967295 : Int64))) D) fun r400 D401 => ix (x3 + (1 : Int32)) L <| ix (x3 + (2 : Int32)) L <| cq (f_X9_tick S o2 ((j_lshl ((xs (x3 + (1 : Int32)).toNatClampNeg).toInt64) (32 : Int32)) ||| (((xs (x3 + (2 : Int32)).toNatClampNeg).toInt64) &&& (4294967295 : Int64))) D401) fun r405 D406 => if (lg_cmp r400 r405) = 0 then (f_law_725 xs L (f_law_18 xs L n) o1 o2 x3 S D406) else (some ((0 : Int32), S, D406))) else if ((xs x3.toNatClampNeg) &&& (31 : Int32)) = 7 then (c3 (f_X8_judge o1 S D) fun r412 S414 D413 => f_law_430 xs L (f_law_18 xs L n) o1 o2 x3 r412 S414 D413) else if ((xs x3.toNatClampNeg) &&& (31 : Int32)) = 8 then (pq (f_X8_place S D o1) fun r423 => pq (f_X9_place S D o2) fun r425 => if r423 = r425 then (f_law_725 xs L (f_law_18 xs L n) o1 o2 x3 S D) else (some ((0 : Int32), S, D))) else if ((xs x3.toNatClampNeg) &&& (31 : Int32)) = 9 then (ix (x3 + (1 : Int32)) L <| ix (x3 + (2 : Int32)) L <| ix (x3 + (3 : Int32)) L <| pq (f_X8_may S D o1 (xs (x3 + (1 : Int32)).toNatClampNeg) (xs (x3 + (2 : Int32)).toNatClampNeg) (xs (x3 + (3 : Int32)).toNatClampNeg)) fun r434 => ix (x3 + (1 : Int32)) L <| ix (x3 + (2 : Int32)) L <| ix (x3 + (3 : Int32)) L <| pq (f_X9_may S D o2 (xs (x3 + (1 : Int32)).toNatClampNeg) (xs (x3 + (2 : Int32)).toNatClampNeg) (xs (x3 + (3 : Int32)).toNatClampNeg)) fun r439 => if (lg_cmp r434 r439) = 0 then (f_law_725 xs L (f_law_18 xs L n) o1 o2 x3 S D) else (some ((0 : Int32), S, D))) else if ((xs x3.toNatClampNeg) &&& (31 : Int32)) = 10 then (ix (x3 + (1 : Int32)) L <| ix (x3 + (2 : Int32)) L <| pq (f_X8_cell S D o1 (xs (x3 + (1 : Int32)).toNatClampNeg) (xs (x3 + (2 : Int32)).toNatClampNeg)) fun r447 => ix (x3 + (1 : Int32)) L <| ix (x3 + (2 : Int32)) L <| pq (f_X9_cell S D o2 (xs (x3 + (1 : Int32)).toNatClampNeg) (xs (x3 + (2 : Int32)).toNatClampNeg)) fun r451 => if r447 = r451 then (f_law_725 xs L (f_law_18 xs L n) o1 o2 x3 S D) else (some ((0 : Int32), S, D))) else if ((xs x3.toNatClampNeg) &&& (31 : Int32)) = 11 then (cq (f_X8_start S o1 D) fun r457 D458 => cq (f_X9_start S o2 D458) fun r460 D461 => if r457 = r460 then (f_law_725 xs L (f_law_18 xs L n) o1 o2 x3 S D461) else (some ((0 : Int32), S, D461))) else if ((xs x3.toNatClampNeg) &&& (31 : Int32)) = 12 then (cq (f_X8_step S o1 D) fun r467 D468 => cq (f_X9_step S o2 D468) fun r470 D471 => if r467 = r470 then (f_law_725 xs L (f_law_18 xs L n) o1 o2 x3 S D471) else (some ((0 : Int32), S, D471))) else if ((xs x3.toNatClampNeg) &&& (31 : Int32)) = 13 then (ix (x3 + (1 : Int32)) L <| cq (f_X8_run S o1 (xs (x3 + (1 : Int32)).toNatClampNeg) D) fun r478 D479 => ix (x3 + (1 : Int32)) L <| cq (f_X9_run S o2 (xs (x3 + (1 : Int32)).toNatClampNeg) D479) fun r482 D483 => if r478 = r482 then (f_law_725 xs L (f_law_18 xs L n) o1 o2 x3 S D483) else (some ((0 : Int32), S, D483))) else if ((xs x3.toNatClampNeg) &&& (31 : Int32)) = 14 then (ix (x3 + (1 : Int32)) L <| pq (f_X8_told S D o1 (xs (x3 + (1 : Int32)).toNatClampNeg)) fun r490 => ix (x3 + (1 : Int32)) L <| pq (f_X9_told S D o2 (xs (x3 + (1 : Int32)).toNatClampNeg)) fun r493 => if r490 = r493 then (f_law_725 xs L (f_law_18 xs L n) o1 o2 x3 S D) else (some ((0 : Int32), S, D))) else if ((xs x3.toNatClampNeg) &&& (31 : Int32)) = 15 then (ix (x3 + (1 : Int32)) L <| pq (f_X8_register S D o1 (xs (x3 + (1 : Int32)).toNatClampNeg)) fun r500 => ix (x3 + (1 : Int32)) L <| pq (f_X9_register S D o2 (xs (x3 + (1 : Int32)).toNatClampNeg)) fun r503 => if (lg_cmp r500 r503) = 0 then (f_law_725 xs L (f_law_18 xs L n) o1 o2 x3 S D) else (some ((0 : Int32), S, D))) else if ((xs x3.toNatClampNeg) &&& (31 : Int32)) = 16 then (ix (x3 + (1 : Int32)) L <| ix (x3 + (2 : Int32)) L <| cq (f_X8_octet S o1 ((j_lshl ((xs (x3 + (1 : Int32)).toNatClampNeg).toInt64) (32 : Int32)) ||| (((xs (x3 + (2 : Int32)).toNatClampNeg).toInt64) &&& (4294967295 : Int64))) D) fun r511 D512 => ix (x3 + (1 : Int32)) L <| ix (x3 + (2 : Int32)) L <| pq (f_X9_octet S D512 o2 ((j_lshl ((xs (x3 + (1 : Int32)).toNatClampNeg).toInt64) (32 : Int32)) ||| (((xs (x3 + (2 : Int32)).toNatClampNeg).toInt64) &&& (4294967295 : Int64)))) fun r516 => if r511 = r516 then (f_law_725 xs L (f_law_18 xs L n) o1 o2 x3 S D512) else (some ((0 : Int32), S, D512))) else if ((xs x3.toNatClampNeg) &&& (31 : Int32)) = 17 then (ix (x3 + (1 : Int32)) L <| pq (f_X8_putAt S D o1 (xs (x3 + (1 : Int32)).toNatClampNeg)) fun r523 => ix (x3 + (1 : Int32)) L <| pq (f_X9_putAt S D o2 (xs (x3 + (1 : Int32)).toNatClampNeg)) fun r526 => if (lg_cmp r523 r526) = 0 then (f_law_725 xs L (f_law_18 xs L n) o1 o2 x3 S D) else (some ((0 : Int32), S, D))) else if ((xs x3.toNatClampNeg) &&& (31 : Int32)) = 18 then (ix (x3 + (1 : Int32)) L <| pq (f_X8_keys S D o1 (xs (x3 + (1 : Int32)).toNatClampNeg)) fun r533 => ix (x3 + (1 : Int32)) L <| pq (f_X9_keys S D o2 (xs (x3 + (1 : Int32)).toNatClampNeg)) fun r536 => if r533 = r536 then (f_law_725 xs L (f_law_18 xs L n) o1 o2 x3 S D) else (some ((0 : Int32), S, D))) else (f_law_725 xs L (f_law_18 xs L n) o1 o2 x3 S D))
def f_law_15 (xs : Nat → Int32) (L : Nat) (o1 : Nat) (os0 : Nat) (S : sh) (D : dt) : Option (Int32 × sh × dt) := nm ((0 : Int32)) fun y541 => f_law_18 xs L LF o1 os0 y541 S D
def f_law_11 (xs : Nat → Int32) (L : Nat) (o1 : Nat) (os0 : Nat) (S : sh) (D : dt) : Option (Int32 × sh × dt) := c3 (f_X9_init os0 S D) fun _ S545 D544 => f_law_15 xs L o1 os0 S545 D544
def f_law_7 (xs : Nat → Int32) (L : Nat) (os0 : Nat) (S : sh) (D : dt) : Option (Int32 × sh × dt) := f_law_11 xs L os0 (sN S) (aS S 8 0 54) (aD S D)
def f_law_3 (xs : Nat → Int32) (L : Nat) (os0 : Nat) (S : sh) (D : dt) : Option (Int32 × sh × dt) := c3 (f_X8_init os0 S D) fun _ S559 D558 => f_law_7 xs L os0 S559 D558
def f_law (xs : Nat → Int32) (L : Nat) (S : sh) (D : dt) : Option (Int32 × sh × dt) := f_law_3 xs L (sN S) (aS S 7 0 4) (aD S D)
section
variable {p : Program} {l : Launch} {e : Env} {R : Room} {s : State} {m : MethodId} {args : Array Value} {below : List Frame} {meth : Method} {c : Code} {H : Heap} {locs : List Loc} {G : va_G} {cA : Nat → ClassId} {S : sh} {D : dt} {ad : Nat → Nat} {A : Nat → Prop}
theorem mn_law_725 {xs : Nat → Int32} {L : Nat} {r : Int32} {S' : sh} {D' : dt} {k18 : Nat → Nat → Int32 → sh → dt → Option (Int32 × sh × dt)} (hk18 : ∀ (o1 : Nat) (o2 : Nat) (x3 : Int32) (S : sh) (D : dt), k18 o1 o2 x3 S D = some (r, S', D') → Ext S S') {o1 : Nat} {o2 : Nat} {x3 : Int32} {S : sh} {D : dt} (h : f_law_725 xs L k18 o1 o2 x3 S D = some (r, S', D')) : Ext S S' := by
  unfold f_law_725 at h
  have h := nm_i h _ rfl
  exact (hk18 _ _ _ _ _ h)
set_option maxHeartbeats 8000000 in
set_option maxRecDepth 100000 in
theorem w_law_725 {b L : Nat} {xs : Nat → Int32} {S' : sh} {D' : dt} {S0 : sh} {ad0 : Nat → Nat} (hC : Cx RL cL_law 4 ret p s m #[Value.ref b] meth c) (hX : va_X b L xs s s.heap) (hbl : b < s.heap.size) (hbA : ¬ (fun q : Nat => s.heap.size ≤ q) b) (ho : sN S' - sN S0 ≤ 600000 ∧ sZ S' - sZ S0 ≤ 7302250) {k18 : Nat → Nat → Int32 → sh → dt → Option (Int32 × sh × dt)} (hk18 : ∀ (o1 a1 : Nat) (o2 a2 : Nat) (x3 : Int32) (S : sh) (D : dt) (ad : Nat → Nat) (H : Heap) (locs : List Loc) (ls : Array Slot) (cells slots : Nat), Is S ad o1 a1 7 → Is S ad o2 a2 8 → Wd G cA S D ad (fun q => s.heap.size ≤ q) s H locs → Al S0 ad0 S ad cells slots → lv_has ls 4 [(0, .ref b), (1, .ref a1), (2, .ref a2), (3, .int x3)] → k18 o1 o2 x3 S D = some (1, S', D') → W p l e room_1 s m #[Value.ref b] below meth c H locs cells slots (lw_Z below #[Value.ref b] s) (F0 m 18 ls [])) (hm18 : ∀ (o1 : Nat) (o2 : Nat) (x3 : Int32) (S : sh) (D : dt), k18 o1 o2 x3 S D = some (1, S', D') → Ext S S') : ∀ (o1 a1 : Nat) (o2 a2 : Nat) (x3 : Int32) (S : sh) (D : dt) (ad : Nat → Nat) (H : Heap) (locs : List Loc) (ls : Array Slot) (cells slots : Nat), Is S ad o1 a1 7 → Is S ad o2 a2 8 → Wd G cA S D ad (fun q => s.heap.size ≤ q) s H locs → Al S0 ad0 S ad cells slots → lv_has ls 4 [(0, .ref b), (1, .ref a1), (2, .ref a2), (3, .int x3)] → f_law_725 xs L k18 o1 o2 x3 S D = some (1, S', D') → W p l e room_1 s m #[Value.ref b] below meth c H locs cells slots (lw_Z below #[Value.ref b] s) (F0 m 725 ls []) := by
  obtain ⟨hx, hb, -⟩ := id hC
  intro o1 a1 o2 a2 x3 S D ad H locs ls cells slots hi1 hi2 hw hc hl h
  have hE : Ext S S' := mn_law_725 hm18 h
  unfold f_law_725 at h
  obtain ⟨y285, ey285⟩ : ∃ z : Int32, z = x3 + 6 := ⟨_, rfl⟩
  have h := nm_i h y285 ey285
  refine lv_iinc (v := y285) (lv' := [(3, .int y285), (0, .ref b), (1, .ref a1), (2, .ref a2)]) hx hb dL_law_725 hl (k := 3) rfl (by rw [ey285]; rfl) (by decide) rfl (fun ls hl => ?_)
  refine lv_goto (tgt := 18) hx hb dL_law_728 (by decide) ?_
  exact hk18 o1 a1 o2 a2 y285 _ _ _ _ _ _ _ _ hi1 hi2 hw hc (lv_sub hl [1, 2, 3, 0] rfl) h --j286
theorem mn_law_287 {xs : Nat → Int32} {L : Nat} {r : Int32} {S' : sh} {D' : dt} {k18 : Nat → Nat → Int32 → sh → dt → Option (Int32 × sh × dt)} (hk18 : ∀ (o1 : Nat) (o2 : Nat) (x3 : Int32) (S : sh) (D : dt), k18 o1 o2 x3 S D = some (r, S', D') → Ext S S') {o1 : Nat} {o2 : Nat} {x3 : Int32} {xs0 : Int32} {S : sh} {D : dt} (h : f_law_287 xs L k18 o1 o2 x3 xs0 S D = some (r, S', D')) : Ext S S' := by
  unfold f_law_287 at h
  obtain ⟨hn287, h⟩ := ix_i h
  obtain ⟨hn288, h⟩ := ix_i h
  obtain ⟨hn289, h⟩ := ix_i h
  obtain ⟨hn290, h⟩ := ix_i h
  obtain ⟨r292, D293, hq291, h⟩ := cq_i h
  rcases (Decidable.em (xs0 = r292)) with c294 | c294
  · have h := i_yes c294 h
    exact (mn_law_725 hk18 h)
  · have h := i_no c294 h
    cases h; exact Ext.rf _
set_option maxHeartbeats 8000000 in
set_option maxRecDepth 100000 in
theorem w_law_287 {b L : Nat} {xs : Nat → Int32} {S' : sh} {D' : dt} {S0 : sh} {ad0 : Nat → Nat} (hC : Cx RL cL_law 4 ret p s m #[Value.ref b] meth c) (hX : va_X b L xs s s.heap) (hbl : b < s.heap.size) (hbA : ¬ (fun q : Nat => s.heap.size ≤ q) b) (ho : sN S' - sN S0 ≤ 600000 ∧ sZ S' - sZ S0 ≤ 7302250) {k18 : Nat → Nat → Int32 → sh → dt → Option (Int32 × sh × dt)} (hk18 : ∀ (o1 a1 : Nat) (o2 a2 : Nat) (x3 : Int32) (S : sh) (D : dt) (ad : Nat → Nat) (H : Heap) (locs : List Loc) (ls : Array Slot) (cells slots : Nat), Is S ad o1 a1 7 → Is S ad o2 a2 8 → Wd G cA S D ad (fun q => s.heap.size ≤ q) s H locs → Al S0 ad0 S ad cells slots → lv_has ls 4 [(0, .ref b), (1, .ref a1), (2, .ref a2), (3, .int x3)] → k18 o1 o2 x3 S D = some (1, S', D') → W p l e room_1 s m #[Value.ref b] below meth c H locs cells slots (lw_Z below #[Value.ref b] s) (F0 m 18 ls [])) (hm18 : ∀ (o1 : Nat) (o2 : Nat) (x3 : Int32) (S : sh) (D : dt), k18 o1 o2 x3 S D = some (1, S', D') → Ext S S') : ∀ (o1 a1 : Nat) (o2 a2 : Nat) (x3 : Int32) (xs0 : Int32) (S : sh) (D : dt) (ad : Nat → Nat) (H : Heap) (locs : List Loc) (ls : Array Slot) (cells slots : Nat), Is S ad o1 a1 7 → Is S ad o2 a2 8 → Wd G cA S D ad (fun q => s.heap.size ≤ q) s H locs → Al S0 ad0 S ad cells slots → lv_has ls 4 [(0, .ref b), (1, .ref a1), (2, .ref a2), (3, .int x3)] → f_law_287 xs L k18 o1 o2 x3 xs0 S D = some (1, S', D') → W p l e room_1 s m #[Value.ref b] below meth c H locs cells slots (lw_Z below #[Value.ref b] s) (F0 m 287 ls [.int xs0]) := by
  obtain ⟨hx, hb, -⟩ := id hC
  intro o1 a1 o2 a2 x3 xs0 S D ad H locs ls cells slots hi1 hi2 hw hc hl h
  have hE : Ext S S' := mn_law_287 hm18 h
  unfold f_law_287 at h
  refine lv_aload_n hx hb dL_law_287 rfl (lv_at hl 2 rfl) ?_
  refine lv_aload_n hx hb dL_law_288 rfl (lv_at hl 0 rfl) ?_
  refine lv_iload_n hx hb dL_law_289 rfl (lv_at hl 3 rfl) ?_
  refine lv_iconst (v := 1) hx hb dL_law_290 (by decide) ?_
  refine lv_iadd hx hb dL_law_291 ?_
  obtain ⟨hn287, h⟩ := ix_i h
  refine va_sld hx hb hX hbl hbA hw.2.2.2.1 hn287 dL_law_292 ?_
  refine lv_aload_n hx hb dL_law_293 rfl (lv_at hl 0 rfl) ?_
  refine lv_iload_n hx hb dL_law_294 rfl (lv_at hl 3 rfl) ?_
  refine lv_iconst (v := 2) hx hb dL_law_295 (by decide) ?_
  refine lv_iadd hx hb dL_law_296 ?_
  obtain ⟨hn288, h⟩ := ix_i h
  refine va_sld hx hb hX hbl hbA hw.2.2.2.1 hn288 dL_law_297 ?_
  refine lv_aload_n hx hb dL_law_298 rfl (lv_at hl 0 rfl) ?_
  refine lv_iload_n hx hb dL_law_299 rfl (lv_at hl 3 rfl) ?_
  refine lv_iconst (v := 3) hx hb dL_law_300 (by decide) ?_
  refine lv_iadd hx hb dL_law_301 ?_
  obtain ⟨hn289, h⟩ := ix_i h
  refine va_sld hx hb hX hbl hbA hw.2.2.2.1 hn289 dL_law_302 ?_
  refine lv_aload_n hx hb dL_law_303 rfl (lv_at hl 0 rfl) ?_
  refine lv_iload_n hx hb dL_law_304 rfl (lv_at hl 3 rfl) ?_
  refine lv_iconst (v := 4) hx hb dL_law_305 (by decide) ?_
  refine lv_iadd hx hb dL_law_306 ?_
  obtain ⟨hn290, h⟩ := ix_i h
  refine va_sld hx hb hX hbl hbA hw.2.2.2.1 hn290 dL_law_307 ?_
  obtain ⟨r292, D293, hq291, h⟩ := cq_i h
  refine r_cV (st' := [.int r292, .int xs0]) [.int (xs (x3 + (1 : Int32)).toNatClampNeg), .int (xs (x3 + (2 : Int32)).toNatClampNeg), .int (xs (x3 + (3 : Int32)).toNatClampNeg), .int (xs (x3 + (4 : Int32)).toNatClampNeg)] [.int xs0] hC hw kc_8 hi2 (k_X9_table _ hi2 hq291) mk_X9_table lk_1286 ⟨(by decide), (by decide)⟩ (Al.leL hc ho hE) rfl hl.1 rfl rfl (Nat.le_of_ble_eq_true rfl) dL_law_308 (fun hP H locs hw => ?_)
  refine lv_icmp_eq (tgt := 725) hx hb dL_law_311 (by decide) (fun c294 => ?_) (fun c294 => ?_)
  · have h := i_yes c294 h
    exact w_law_725 hC hX hbl hbA ho hk18 hm18 o1 a1 o2 a2 x3 _ _ _ _ _ _ _ _ hi1 hi2 hw hc (lv_sub hl [0, 1, 2, 3] rfl) h --j295
  · have h := i_no c294 h
    refine lv_iconst (v := 0) hx hb dL_law_314 (by decide) ?_
    exact absurd (Prod.mk.inj (Option.some.inj h)).1 (by decide) --j296
theorem mn_law_430 {xs : Nat → Int32} {L : Nat} {r : Int32} {S' : sh} {D' : dt} {k18 : Nat → Nat → Int32 → sh → dt → Option (Int32 × sh × dt)} (hk18 : ∀ (o1 : Nat) (o2 : Nat) (x3 : Int32) (S : sh) (D : dt), k18 o1 o2 x3 S D = some (r, S', D') → Ext S S') {o1 : Nat} {o2 : Nat} {x3 : Int32} {xs0 : Int32} {S : sh} {D : dt} (h : f_law_430 xs L k18 o1 o2 x3 xs0 S D = some (r, S', D')) : Ext S S' := by
  unfold f_law_430 at h
  obtain ⟨r298, D299, hq297, h⟩ := cq_i h
  rcases (Decidable.em (xs0 = r298)) with c300 | c300
  · have h := i_yes c300 h
    exact (mn_law_725 hk18 h)
  · have h := i_no c300 h
    cases h; exact Ext.rf _
set_option maxHeartbeats 8000000 in
set_option maxRecDepth 100000 in
theorem w_law_430 {b L : Nat} {xs : Nat → Int32} {S' : sh} {D' : dt} {S0 : sh} {ad0 : Nat → Nat} (hC : Cx RL cL_law 4 ret p s m #[Value.ref b] meth c) (hX : va_X b L xs s s.heap) (hbl : b < s.heap.size) (hbA : ¬ (fun q : Nat => s.heap.size ≤ q) b) (ho : sN S' - sN S0 ≤ 600000 ∧ sZ S' - sZ S0 ≤ 7302250) {k18 : Nat → Nat → Int32 → sh → dt → Option (Int32 × sh × dt)} (hk18 : ∀ (o1 a1 : Nat) (o2 a2 : Nat) (x3 : Int32) (S : sh) (D : dt) (ad : Nat → Nat) (H : Heap) (locs : List Loc) (ls : Array Slot) (cells slots : Nat), Is S ad o1 a1 7 → Is S ad o2 a2 8 → Wd G cA S D ad (fun q => s.heap.size ≤ q) s H locs → Al S0 ad0 S ad cells slots → lv_has ls 4 [(0, .ref b), (1, .ref a1), (2, .ref a2), (3, .int x3)] → k18 o1 o2 x3 S D = some (1, S', D') → W p l e room_1 s m #[Value.ref b] below meth c H locs cells slots (lw_Z below #[Value.ref b] s) (F0 m 18 ls [])) (hm18 : ∀ (o1 : Nat) (o2 : Nat) (x3 : Int32) (S : sh) (D : dt), k18 o1 o2 x3 S D = some (1, S', D') → Ext S S') : ∀ (o1 a1 : Nat) (o2 a2 : Nat) (x3 : Int32) (xs0 : Int32) (S : sh) (D : dt) (ad : Nat → Nat) (H : Heap) (locs : List Loc) (ls : Array Slot) (cells slots : Nat), Is S ad o1 a1 7 → Is S ad o2 a2 8 → Wd G cA S D ad (fun q => s.heap.size ≤ q) s H locs → Al S0 ad0 S ad cells slots → lv_has ls 4 [(0, .ref b), (1, .ref a1), (2, .ref a2), (3, .int x3)] → f_law_430 xs L k18 o1 o2 x3 xs0 S D = some (1, S', D') → W p l e room_1 s m #[Value.ref b] below meth c H locs cells slots (lw_Z below #[Value.ref b] s) (F0 m 430 ls [.int xs0]) := by
  obtain ⟨hx, hb, -⟩ := id hC
  intro o1 a1 o2 a2 x3 xs0 S D ad H locs ls cells slots hi1 hi2 hw hc hl h
  have hE : Ext S S' := mn_law_430 hm18 h
  unfold f_law_430 at h
  refine lv_aload_n hx hb dL_law_430 rfl (lv_at hl 2 rfl) ?_
  obtain ⟨r298, D299, hq297, h⟩ := cq_i h
  refine r_cV (st' := [.int r298, .int xs0]) [] [.int xs0] hC hw kc_8 hi2 (k_X9_judge _ hi2 hq297) mk_X9_judge lk_1450 ⟨(by decide), (by decide)⟩ (Al.leL hc ho hE) rfl hl.1 rfl rfl (Nat.le_of_ble_eq_true rfl) dL_law_431 (fun hP H locs hw => ?_)
  refine lv_icmp_eq (tgt := 725) hx hb dL_law_434 (by decide) (fun c300 => ?_) (fun c300 => ?_)
  · have h := i_yes c300 h
    exact w_law_725 hC hX hbl hbA ho hk18 hm18 o1 a1 o2 a2 x3 _ _ _ _ _ _ _ _ hi1 hi2 hw hc (lv_sub hl [0, 1, 2, 3] rfl) h --j301
  · have h := i_no c300 h
    refine lv_iconst (v := 0) hx hb dL_law_437 (by decide) ?_
    exact absurd (Prod.mk.inj (Option.some.inj h)).1 (by decide) --j302
theorem mn_law_18 {xs : Nat → Int32} {L : Nat} {r : Int32} {S' : sh} {D' : dt} : ∀ (n : Nat) (o1 : Nat) (o2 : Nat) (x3 : Int32) (S : sh) (D : dt), f_law_18 xs L n o1 o2 x3 S D = some (r, S', D') → Ext S S' := by
  intro n
  induction n with
  | zero =>
    intro o1 o2 x3 S D h
    rw [f_law_18.eq_1] at h
    cases h
  | succ n ih =>
    intro o1 o2 x3 S D h
    rw [f_law_18.eq_2] at h
    rcases (Decidable.em (((Int32.ofNat L) - (6 : Int32)) < x3)) with c303 | c303
    · have h := i_yes c303 h
      cases h
      exact Ext.rf _
    · have h := i_no c303 h
      obtain ⟨hn304, h⟩ := ix_i h
      by_cases c305 : ((xs x3.toNatClampNeg) &&& (31 : Int32)) = 0
      · have h := i_yes c305 h
        obtain ⟨hn306, h⟩ := ix_i h
        obtain ⟨hn307, h⟩ := ix_i h
        obtain ⟨hn308, h⟩ := ix_i h
        obtain ⟨hn309, h⟩ := ix_i h
        obtain ⟨r311, D312, hq310, h⟩ := cq_i h
        obtain ⟨hn313, h⟩ := ix_i h
        obtain ⟨hn314, h⟩ := ix_i h
        obtain ⟨hn315, h⟩ := ix_i h
        obtain ⟨hn316, h⟩ := ix_i h
        obtain ⟨r318, D319, hq317, h⟩ := cq_i h
        rcases (Decidable.em (r311 = r318)) with c320 | c320
        · have h := i_yes c320 h
          exact (mn_law_725 ih h)
        · have h := i_no c320 h
          cases h; exact Ext.rf _
      have h := i_no c305 h
      by_cases c323 : ((xs x3.toNatClampNeg) &&& (31 : Int32)) = 1
      · have h := i_yes c323 h
        obtain ⟨hn324, h⟩ := ix_i h
        obtain ⟨hn325, h⟩ := ix_i h
        obtain ⟨hn326, h⟩ := ix_i h
        obtain ⟨hn327, h⟩ := ix_i h
        obtain ⟨hn328, h⟩ := ix_i h
        obtain ⟨r330, D331, hq329, h⟩ := cq_i h
        obtain ⟨hn332, h⟩ := ix_i h
        obtain ⟨hn333, h⟩ := ix_i h
        obtain ⟨hn334, h⟩ := ix_i h
        obtain ⟨hn335, h⟩ := ix_i h
        obtain ⟨hn336, h⟩ := ix_i h
        obtain ⟨r338, D339, hq337, h⟩ := cq_i h
        rcases (Decidable.em (r330 = r338)) with c340 | c340
        · have h := i_yes c340 h
          exact (mn_law_725 ih h)
        · have h := i_no c340 h
          cases h; exact Ext.rf _
      have h := i_no c323 h
      by_cases c343 : ((xs x3.toNatClampNeg) &&& (31 : Int32)) = 2
      · have h := i_yes c343 h
        obtain ⟨hn344, h⟩ := ix_i h
        obtain ⟨r346, D347, hq345, h⟩ := cq_i h
        obtain ⟨hn348, h⟩ := ix_i h
        obtain ⟨r350, D351, hq349, h⟩ := cq_i h
        rcases (Decidable.em (r346 = r350)) with c352 | c352
        · have h := i_yes c352 h
          exact (mn_law_725 ih h)
        · have h := i_no c352 h
          cases h; exact Ext.rf _
      have h := i_no c343 h
      by_cases c355 : ((xs x3.toNatClampNeg) &&& (31 : Int32)) = 3
      · have h := i_yes c355 h
        obtain ⟨hn356, h⟩ := ix_i h
        obtain ⟨hn357, h⟩ := ix_i h
        obtain ⟨hn358, h⟩ := ix_i h
        obtain ⟨hn359, h⟩ := ix_i h
        obtain ⟨r361, S363, D362, hq360, h⟩ := c3_i h
        have hA := mn_X8_table_0 hq360
        exact hA.tr (mn_law_287 ih h)
      have h := i_no c355 h
      by_cases c370 : ((xs x3.toNatClampNeg) &&& (31 : Int32)) = 4
      · have h := i_yes c370 h
        obtain ⟨hn371, h⟩ := ix_i h
        obtain ⟨r373, D374, hq372, h⟩ := cq_i h
        obtain ⟨hn375, h⟩ := ix_i h
        obtain ⟨r377, D378, hq376, h⟩ := cq_i h
        rcases (Decidable.em (r373 = r377)) with c379 | c379
        · have h := i_yes c379 h
          exact (mn_law_725 ih h)
        · have h := i_no c379 h
          cases h; exact Ext.rf _
      have h := i_no c370 h
      by_cases c382 : ((xs x3.toNatClampNeg) &&& (31 : Int32)) = 5
      · have h := i_yes c382 h
        obtain ⟨hn383, h⟩ := ix_i h
        obtain ⟨hn384, h⟩ := ix_i h
        obtain ⟨r386, D387, hq385, h⟩ := cq_i h
        obtain ⟨hn388, h⟩ := ix_i h
        obtain ⟨hn389, h⟩ := ix_i h
        obtain ⟨r391, D392, hq390, h⟩ := cq_i h
        rcases (Decidable.em (r386 = r391)) with c393 | c393
        · have h := i_yes c393 h
          exact (mn_law_725 ih h)
        · have h := i_no c393 h
          cases h; exact Ext.rf _
      have h := i_no c382 h
      by_cases c396 : ((xs x3.toNatClampNeg) &&& (31 : Int32)) = 6
      · have h := i_yes c396 h
        obtain ⟨hn397, h⟩ := ix_i h
        obtain ⟨hn398, h⟩ := ix_i h
        obtain ⟨r400, D401, hq399, h⟩ := cq_i h
        obtain ⟨hn402, h⟩ := ix_i h
        obtain ⟨hn403, h⟩ := ix_i h
        obtain ⟨r405, D406, hq404, h⟩ := cq_i h
        rcases (Decidable.em ((lg_cmp r400 r405) = 0)) with c407 | c407
        · have h := i_yes c407 h
          exact (mn_law_725 ih h)
        · have h := i_no c407 h
          cases h; exact Ext.rf _
      have h := i_no c396 h
      by_cases c410 : ((xs x3.toNatClampNeg) &&& (31 : Int32)) = 7
      · have h := i_yes c410 h
        obtain ⟨r412, S414, D413, hq411, h⟩ := c3_i h
        have hA := mn_X8_judge_0 hq411
        exact hA.tr (mn_law_430 ih h)
      have h := i_no c410 h
      by_cases c421 : ((xs x3.toNatClampNeg) &&& (31 : Int32)) = 8
      · have h := i_yes c421 h
        obtain ⟨r423, hq422, h⟩ := pq_i h
        obtain ⟨r425, hq424, h⟩ := pq_i h
        rcases (Decidable.em (r423 = r425)) with c426 | c426
        · have h := i_yes c426 h
          exact (mn_law_725 ih h)
        · have h := i_no c426 h
          cases h; exact Ext.rf _
      have h := i_no c421 h
      by_cases c429 : ((xs x3.toNatClampNeg) &&& (31 : Int32)) = 9
      · have h := i_yes c429 h
        obtain ⟨hn430, h⟩ := ix_i h
        obtain ⟨hn431, h⟩ := ix_i h
        obtain ⟨hn432, h⟩ := ix_i h
        obtain ⟨r434, hq433, h⟩ := pq_i h
        obtain ⟨hn435, h⟩ := ix_i h
        obtain ⟨hn436, h⟩ := ix_i h
        obtain ⟨hn437, h⟩ := ix_i h
        obtain ⟨r439, hq438, h⟩ := pq_i h
        rcases (Decidable.em ((lg_cmp r434 r439) = 0)) with c440 | c440
        · have h := i_yes c440 h
          exact (mn_law_725 ih h)
        · have h := i_no c440 h
          cases h; exact Ext.rf _
      have h := i_no c429 h
      by_cases c443 : ((xs x3.toNatClampNeg) &&& (31 : Int32)) = 10
      · have h := i_yes c443 h
        obtain ⟨hn444, h⟩ := ix_i h
        obtain ⟨hn445, h⟩ := ix_i h
        obtain ⟨r447, hq446, h⟩ := pq_i h
        obtain ⟨hn448, h⟩ := ix_i h
        obtain ⟨hn449, h⟩ := ix_i h
        obtain ⟨r451, hq450, h⟩ := pq_i h
        rcases (Decidable.em (r447 = r451)) with c452 | c452
        · have h := i_yes c452 h
          exact (mn_law_725 ih h)
        · have h := i_no c452 h
          cases h; exact Ext.rf _
      have h := i_no c443 h
      by_cases c455 : ((xs x3.toNatClampNeg) &&& (31 : Int32)) = 11
      · have h := i_yes c455 h
        obtain ⟨r457, D458, hq456, h⟩ := cq_i h
        obtain ⟨r460, D461, hq459, h⟩ := cq_i h
        rcases (Decidable.em (r457 = r460)) with c462 | c462
        · have h := i_yes c462 h
          exact (mn_law_725 ih h)
        · have h := i_no c462 h
          cases h; exact Ext.rf _
      have h := i_no c455 h
      by_cases c465 : ((xs x3.toNatClampNeg) &&& (31 : Int32)) = 12
      · have h := i_yes c465 h
        obtain ⟨r467, D468, hq466, h⟩ := cq_i h
        obtain ⟨r470, D471, hq469, h⟩ := cq_i h
        rcases (Decidable.em (r467 = r470)) with c472 | c472
        · have h := i_yes c472 h
          exact (mn_law_725 ih h)
        · have h := i_no c472 h
          cases h; exact Ext.rf _
      have h := i_no c465 h
      by_cases c475 : ((xs x3.toNatClampNeg) &&& (31 : Int32)) = 13
      · have h := i_yes c475 h
        obtain ⟨hn476, h⟩ := ix_i h
        obtain ⟨r478, D479, hq477, h⟩ := cq_i h
        obtain ⟨hn480, h⟩ := ix_i h
        obtain ⟨r482, D483, hq481, h⟩ := cq_i h
        rcases (Decidable.em (r478 = r482)) with c484 | c484
        · have h := i_yes c484 h
          exact (mn_law_725 ih h)
        · have h := i_no c484 h
          cases h; exact Ext.rf _
      have h := i_no c475 h
      by_cases c487 : ((xs x3.toNatClampNeg) &&& (31 : Int32)) = 14
      · have h := i_yes c487 h
        obtain ⟨hn488, h⟩ := ix_i h
        obtain ⟨r490, hq489, h⟩ := pq_i h
        obtain ⟨hn491, h⟩ := ix_i h
        obtain ⟨r493, hq492, h⟩ := pq_i h
        rcases (Decidable.em (r490 = r493)) with c494 | c494
        · have h := i_yes c494 h
          exact (mn_law_725 ih h)
        · have h := i_no c494 h
          cases h; exact Ext.rf _
      have h := i_no c487 h
      by_cases c497 : ((xs x3.toNatClampNeg) &&& (31 : Int32)) = 15
      · have h := i_yes c497 h
        obtain ⟨hn498, h⟩ := ix_i h
        obtain ⟨r500, hq499, h⟩ := pq_i h
        obtain ⟨hn501, h⟩ := ix_i h
        obtain ⟨r503, hq502, h⟩ := pq_i h
        rcases (Decidable.em ((lg_cmp r500 r503) = 0)) with c504 | c504
        · have h := i_yes c504 h
          exact (mn_law_725 ih h)
        · have h := i_no c504 h
          cases h; exact Ext.rf _
      have h := i_no c497 h
      by_cases c507 : ((xs x3.toNatClampNeg) &&& (31 : Int32)) = 16
      · have h := i_yes c507 h
        obtain ⟨hn508, h⟩ := ix_i h
        obtain ⟨hn509, h⟩ := ix_i h
        obtain ⟨r511, D512, hq510, h⟩ := cq_i h
        obtain ⟨hn513, h⟩ := ix_i h
        obtain ⟨hn514, h⟩ := ix_i h
        obtain ⟨r516, hq515, h⟩ := pq_i h
        rcases (Decidable.em (r511 = r516)) with c517 | c517
        · have h := i_yes c517 h
          exact (mn_law_725 ih h)
        · have h := i_no c517 h
          cases h; exact Ext.rf _
      have h := i_no c507 h
      by_cases c520 : ((xs x3.toNatClampNeg) &&& (31 : Int32)) = 17
      · have h := i_yes c520 h
        obtain ⟨hn521, h⟩ := ix_i h
        obtain ⟨r523, hq522, h⟩ := pq_i h
        obtain ⟨hn524, h⟩ := ix_i h
        obtain ⟨r526, hq525, h⟩ := pq_i h
        rcases (Decidable.em ((lg_cmp r523 r526) = 0)) with c527 | c527
        · have h := i_yes c527 h
          exact (mn_law_725 ih h)
        · have h := i_no c527 h
          cases h; exact Ext.rf _
      have h := i_no c520 h
      by_cases c530 : ((xs x3.toNatClampNeg) &&& (31 : Int32)) = 18
      · have h := i_yes c530 h
        obtain ⟨hn531, h⟩ := ix_i h
        obtain ⟨r533, hq532, h⟩ := pq_i h
        obtain ⟨hn534, h⟩ := ix_i h
        obtain ⟨r536, hq535, h⟩ := pq_i h
        rcases (Decidable.em (r533 = r536)) with c537 | c537
        · have h := i_yes c537 h
          exact (mn_law_725 ih h)
        · have h := i_no c537 h
          cases h; exact Ext.rf _
      have h := i_no c530 h
      exact (mn_law_725 ih h)
set_option maxHeartbeats 8000000 in
set_option maxRecDepth 100000 in
theorem w_law_18 {b L : Nat} {xs : Nat → Int32} {S' : sh} {D' : dt} {S0 : sh} {ad0 : Nat → Nat} (hC : Cx RL cL_law 4 ret p s m #[Value.ref b] meth c) (hX : va_X b L xs s s.heap) (hbl : b < s.heap.size) (hbA : ¬ (fun q : Nat => s.heap.size ≤ q) b) (ho : sN S' - sN S0 ≤ 600000 ∧ sZ S' - sZ S0 ≤ 7302250) : ∀ (n : Nat), ∀ (o1 a1 : Nat) (o2 a2 : Nat) (x3 : Int32) (S : sh) (D : dt) (ad : Nat → Nat) (H : Heap) (locs : List Loc) (ls : Array Slot) (cells slots : Nat), Is S ad o1 a1 7 → Is S ad o2 a2 8 → Wd G cA S D ad (fun q => s.heap.size ≤ q) s H locs → Al S0 ad0 S ad cells slots → lv_has ls 4 [(0, .ref b), (1, .ref a1), (2, .ref a2), (3, .int x3)] → f_law_18 xs L n o1 o2 x3 S D = some (1, S', D') → W p l e room_1 s m #[Value.ref b] below meth c H locs cells slots (lw_Z below #[Value.ref b] s) (F0 m 18 ls []) := by
  obtain ⟨hx, hb, -⟩ := id hC
  intro n
  induction n with
  | zero =>
    intro o1 a1 o2 a2 x3 S D ad H locs ls cells slots hi1 hi2 hw hc hl h
    rw [f_law_18.eq_1] at h
    cases h
  | succ n ih =>
    intro o1 a1 o2 a2 x3 S D ad H locs ls cells slots hi1 hi2 hw hc hl h
    have hE : Ext S S' := mn_law_18  (n + 1) _ _ _ _ _ h
    rw [f_law_18.eq_2] at h
    refine lv_iload_n hx hb dL_law_18 rfl (lv_at hl 3 rfl) ?_
    refine lv_aload_n hx hb dL_law_19 rfl (lv_at hl 0 rfl) ?_
    refine va_slen hx hb hX hbl hbA hw.2.2.2.1 dL_law_20 ?_
    refine lv_bipush (v := 6) hx hb dL_law_21 (by decide) ?_
    refine lv_isub hx hb dL_law_23 ?_
    refine lv_icmp_gt (tgt := 731) hx hb dL_law_24 (by decide) (fun c303 => ?_) (fun c303 => ?_)
    · have h := i_yes c303 h
      refine lv_iconst (v := 1) hx hb dL_law_731 (by decide) ?_
      cases h
      exact r_lawret hC hw hc ho dL_law_732
    · have h := i_no c303 h
      refine lv_aload_n hx hb dL_law_27 rfl (lv_at hl 0 rfl) ?_
      refine lv_iload_n hx hb dL_law_28 rfl (lv_at hl 3 rfl) ?_
      obtain ⟨hn304, h⟩ := ix_i h
      refine va_sld hx hb hX hbl hbA hw.2.2.2.1 hn304 dL_law_29 ?_
      refine lv_bipush (v := 31) hx hb dL_law_30 (by decide) ?_
      refine lv_iand hx hb dL_law_32 ?_
      by_cases c305 : ((xs x3.toNatClampNeg) &&& (31 : Int32)) = 0
      · have h := i_yes c305 h
        refine lv_tableIn (off := 91) (tgt := 124) hx hb dL_law_33 (by rw [c305]; decide) (by rw [c305]; decide) (by rw [c305] <;> rfl) (by decide) ?_
        refine lv_aload_n hx hb dL_law_124 rfl (lv_at hl 1 rfl) ?_
        refine lv_aload_n hx hb dL_law_125 rfl (lv_at hl 0 rfl) ?_
        refine lv_iload_n hx hb dL_law_126 rfl (lv_at hl 3 rfl) ?_
        refine lv_iconst (v := 1) hx hb dL_law_127 (by decide) ?_
        refine lv_iadd hx hb dL_law_128 ?_
        obtain ⟨hn306, h⟩ := ix_i h
        refine va_sld hx hb hX hbl hbA hw.2.2.2.1 hn306 dL_law_129 ?_
        refine lv_aload_n hx hb dL_law_130 rfl (lv_at hl 0 rfl) ?_
        refine lv_iload_n hx hb dL_law_131 rfl (lv_at hl 3 rfl) ?_
        refine lv_iconst (v := 2) hx hb dL_law_132 (by decide) ?_
        refine lv_iadd hx hb dL_law_133 ?_
        obtain ⟨hn307, h⟩ := ix_i h
        refine va_sld hx hb hX hbl hbA hw.2.2.2.1 hn307 dL_law_134 ?_
        refine lv_aload_n hx hb dL_law_135 rfl (lv_at hl 0 rfl) ?_
        refine lv_iload_n hx hb dL_law_136 rfl (lv_at hl 3 rfl) ?_
        refine lv_iconst (v := 3) hx hb dL_law_137 (by decide) ?_
        refine lv_iadd hx hb dL_law_138 ?_
        obtain ⟨hn308, h⟩ := ix_i h
        refine va_sld hx hb hX hbl hbA hw.2.2.2.1 hn308 dL_law_139 ?_
        refine lv_aload_n hx hb dL_law_140 rfl (lv_at hl 0 rfl) ?_
        refine lv_iload_n hx hb dL_law_141 rfl (lv_at hl 3 rfl) ?_
        refine lv_iconst (v := 4) hx hb dL_law_142 (by decide) ?_
        refine lv_iadd hx hb dL_law_143 ?_
        obtain ⟨hn309, h⟩ := ix_i h
        refine va_sld hx hb hX hbl hbA hw.2.2.2.1 hn309 dL_law_144 ?_
        obtain ⟨r311, D312, hq310, h⟩ := cq_i h
        refine r_cV (st' := [.int r311]) [.int (xs (x3 + (1 : Int32)).toNatClampNeg), .int (xs (x3 + (2 : Int32)).toNatClampNeg), .int (xs (x3 + (3 : Int32)).toNatClampNeg), .int (xs (x3 + (4 : Int32)).toNatClampNeg)] [] hC hw kc_7 hi1 (k_X8_feed _ hi1 hq310) mk_X8_feed lk_368 ⟨(by decide), (by decide)⟩ (Al.leL hc ho hE) rfl hl.1 rfl rfl (Nat.le_of_ble_eq_true rfl) dL_law_145 (fun hP H locs hw => ?_)
        refine lv_aload_n hx hb dL_law_148 rfl (lv_at hl 2 rfl) ?_
        refine lv_aload_n hx hb dL_law_149 rfl (lv_at hl 0 rfl) ?_
        refine lv_iload_n hx hb dL_law_150 rfl (lv_at hl 3 rfl) ?_
        refine lv_iconst (v := 1) hx hb dL_law_151 (by decide) ?_
        refine lv_iadd hx hb dL_law_152 ?_
        obtain ⟨hn313, h⟩ := ix_i h
        refine va_sld hx hb hX hbl hbA hw.2.2.2.1 hn313 dL_law_153 ?_
        refine lv_aload_n hx hb dL_law_154 rfl (lv_at hl 0 rfl) ?_
        refine lv_iload_n hx hb dL_law_155 rfl (lv_at hl 3 rfl) ?_
        refine lv_iconst (v := 2) hx hb dL_law_156 (by decide) ?_
        refine lv_iadd hx hb dL_law_157 ?_
        obtain ⟨hn314, h⟩ := ix_i h
        refine va_sld hx hb hX hbl hbA hw.2.2.2.1 hn314 dL_law_158 ?_
        refine lv_aload_n hx hb dL_law_159 rfl (lv_at hl 0 rfl) ?_
        refine lv_iload_n hx hb dL_law_160 rfl (lv_at hl 3 rfl) ?_
        refine lv_iconst (v := 3) hx hb dL_law_161 (by decide) ?_
        refine lv_iadd hx hb dL_law_162 ?_
        obtain ⟨hn315, h⟩ := ix_i h
        refine va_sld hx hb hX hbl hbA hw.2.2.2.1 hn315 dL_law_163 ?_
        refine lv_aload_n hx hb dL_law_164 rfl (lv_at hl 0 rfl) ?_
        refine lv_iload_n hx hb dL_law_165 rfl (lv_at hl 3 rfl) ?_
        refine lv_iconst (v := 4) hx hb dL_law_166 (by decide) ?_
        refine lv_iadd hx hb dL_law_167 ?_
        obtain ⟨hn316, h⟩ := ix_i h
        refine va_sld hx hb hX hbl hbA hw.2.2.2.1 hn316 dL_law_168 ?_
        obtain ⟨r318, D319, hq317, h⟩ := cq_i h
        refine r_cV (st' := [.int r318, .int r311]) [.int (xs (x3 + (1 : Int32)).toNatClampNeg), .int (xs (x3 + (2 : Int32)).toNatClampNeg), .int (xs (x3 + (3 : Int32)).toNatClampNeg), .int (xs (x3 + (4 : Int32)).toNatClampNeg)] [.int r311] hC hw kc_8 hi2 (k_X9_feed _ hi2 hq317) mk_X9_feed lk_1235 ⟨(by decide), (by decide)⟩ (Al.leL hc ho hE) rfl hl.1 rfl rfl (Nat.le_of_ble_eq_true rfl) dL_law_169 (fun hP H locs hw => ?_)
        refine lv_icmp_eq (tgt := 725) hx hb dL_law_172 (by decide) (fun c320 => ?_) (fun c320 => ?_)
        · have h := i_yes c320 h
          exact w_law_725 hC hX hbl hbA ho ih (mn_law_18 n) o1 a1 o2 a2 x3 _ _ _ _ _ _ _ _ hi1 hi2 hw hc (lv_sub hl [0, 1, 2, 3] rfl) h --j321
        · have h := i_no c320 h
          refine lv_iconst (v := 0) hx hb dL_law_175 (by decide) ?_
          exact absurd (Prod.mk.inj (Option.some.inj h)).1 (by decide) --j322
      have h := i_no c305 h
      by_cases c323 : ((xs x3.toNatClampNeg) &&& (31 : Int32)) = 1
      · have h := i_yes c323 h
        refine lv_tableIn (off := 144) (tgt := 177) hx hb dL_law_33 (by rw [c323]; decide) (by rw [c323]; decide) (by rw [c323] <;> rfl) (by decide) ?_
        refine lv_aload_n hx hb dL_law_177 rfl (lv_at hl 1 rfl) ?_
        refine lv_aload_n hx hb dL_law_178 rfl (lv_at hl 0 rfl) ?_
        refine lv_iload_n hx hb dL_law_179 rfl (lv_at hl 3 rfl) ?_
        refine lv_iconst (v := 1) hx hb dL_law_180 (by decide) ?_
        refine lv_iadd hx hb dL_law_181 ?_
        obtain ⟨hn324, h⟩ := ix_i h
        refine va_sld hx hb hX hbl hbA hw.2.2.2.1 hn324 dL_law_182 ?_
        refine lv_aload_n hx hb dL_law_183 rfl (lv_at hl 0 rfl) ?_
        refine lv_iload_n hx hb dL_law_184 rfl (lv_at hl 3 rfl) ?_
        refine lv_iconst (v := 2) hx hb dL_law_185 (by decide) ?_
        refine lv_iadd hx hb dL_law_186 ?_
        obtain ⟨hn325, h⟩ := ix_i h
        refine va_sld hx hb hX hbl hbA hw.2.2.2.1 hn325 dL_law_187 ?_
        refine lv_aload_n hx hb dL_law_188 rfl (lv_at hl 0 rfl) ?_
        refine lv_iload_n hx hb dL_law_189 rfl (lv_at hl 3 rfl) ?_
        refine lv_iconst (v := 3) hx hb dL_law_190 (by decide) ?_
        refine lv_iadd hx hb dL_law_191 ?_
        obtain ⟨hn326, h⟩ := ix_i h
        refine va_sld hx hb hX hbl hbA hw.2.2.2.1 hn326 dL_law_192 ?_
        refine lv_aload_n hx hb dL_law_193 rfl (lv_at hl 0 rfl) ?_
        refine lv_iload_n hx hb dL_law_194 rfl (lv_at hl 3 rfl) ?_
        refine lv_iconst (v := 4) hx hb dL_law_195 (by decide) ?_
        refine lv_iadd hx hb dL_law_196 ?_
        obtain ⟨hn327, h⟩ := ix_i h
        refine va_sld hx hb hX hbl hbA hw.2.2.2.1 hn327 dL_law_197 ?_
        refine lv_aload_n hx hb dL_law_198 rfl (lv_at hl 0 rfl) ?_
        refine lv_iload_n hx hb dL_law_199 rfl (lv_at hl 3 rfl) ?_
        refine lv_iconst (v := 5) hx hb dL_law_200 (by decide) ?_
        refine lv_iadd hx hb dL_law_201 ?_
        obtain ⟨hn328, h⟩ := ix_i h
        refine va_sld hx hb hX hbl hbA hw.2.2.2.1 hn328 dL_law_202 ?_
        obtain ⟨r330, D331, hq329, h⟩ := cq_i h
        refine r_cV (st' := [.int r330]) [.int (xs (x3 + (1 : Int32)).toNatClampNeg), .int (xs (x3 + (2 : Int32)).toNatClampNeg), .int (xs (x3 + (3 : Int32)).toNatClampNeg), .int (xs (x3 + (4 : Int32)).toNatClampNeg), .int (xs (x3 + (5 : Int32)).toNatClampNeg)] [] hC hw kc_7 hi1 (k_X8_alter _ hi1 hq329) mk_X8_alter lk_383 ⟨(by decide), (by decide)⟩ (Al.leL hc ho hE) rfl hl.1 rfl rfl (Nat.le_of_ble_eq_true rfl) dL_law_203 (fun hP H locs hw => ?_)
        refine lv_aload_n hx hb dL_law_206 rfl (lv_at hl 2 rfl) ?_
        refine lv_aload_n hx hb dL_law_207 rfl (lv_at hl 0 rfl) ?_
        refine lv_iload_n hx hb dL_law_208 rfl (lv_at hl 3 rfl) ?_
        refine lv_iconst (v := 1) hx hb dL_law_209 (by decide) ?_
        refine lv_iadd hx hb dL_law_210 ?_
        obtain ⟨hn332, h⟩ := ix_i h
        refine va_sld hx hb hX hbl hbA hw.2.2.2.1 hn332 dL_law_211 ?_
        refine lv_aload_n hx hb dL_law_212 rfl (lv_at hl 0 rfl) ?_
        refine lv_iload_n hx hb dL_law_213 rfl (lv_at hl 3 rfl) ?_
        refine lv_iconst (v := 2) hx hb dL_law_214 (by decide) ?_
        refine lv_iadd hx hb dL_law_215 ?_
        obtain ⟨hn333, h⟩ := ix_i h
        refine va_sld hx hb hX hbl hbA hw.2.2.2.1 hn333 dL_law_216 ?_
        refine lv_aload_n hx hb dL_law_217 rfl (lv_at hl 0 rfl) ?_
        refine lv_iload_n hx hb dL_law_218 rfl (lv_at hl 3 rfl) ?_
        refine lv_iconst (v := 3) hx hb dL_law_219 (by decide) ?_
        refine lv_iadd hx hb dL_law_220 ?_
        obtain ⟨hn334, h⟩ := ix_i h
        refine va_sld hx hb hX hbl hbA hw.2.2.2.1 hn334 dL_law_221 ?_
        refine lv_aload_n hx hb dL_law_222 rfl (lv_at hl 0 rfl) ?_
        refine lv_iload_n hx hb dL_law_223 rfl (lv_at hl 3 rfl) ?_
        refine lv_iconst (v := 4) hx hb dL_law_224 (by decide) ?_
        refine lv_iadd hx hb dL_law_225 ?_
        obtain ⟨hn335, h⟩ := ix_i h
        refine va_sld hx hb hX hbl hbA hw.2.2.2.1 hn335 dL_law_226 ?_
        refine lv_aload_n hx hb dL_law_227 rfl (lv_at hl 0 rfl) ?_
        refine lv_iload_n hx hb dL_law_228 rfl (lv_at hl 3 rfl) ?_
        refine lv_iconst (v := 5) hx hb dL_law_229 (by decide) ?_
        refine lv_iadd hx hb dL_law_230 ?_
        obtain ⟨hn336, h⟩ := ix_i h
        refine va_sld hx hb hX hbl hbA hw.2.2.2.1 hn336 dL_law_231 ?_
        obtain ⟨r338, D339, hq337, h⟩ := cq_i h
        refine r_cV (st' := [.int r338, .int r330]) [.int (xs (x3 + (1 : Int32)).toNatClampNeg), .int (xs (x3 + (2 : Int32)).toNatClampNeg), .int (xs (x3 + (3 : Int32)).toNatClampNeg), .int (xs (x3 + (4 : Int32)).toNatClampNeg), .int (xs (x3 + (5 : Int32)).toNatClampNeg)] [.int r330] hC hw kc_8 hi2 (k_X9_alter _ hi2 hq337) mk_X9_alter lk_1252 ⟨(by decide), (by decide)⟩ (Al.leL hc ho hE) rfl hl.1 rfl rfl (Nat.le_of_ble_eq_true rfl) dL_law_232 (fun hP H locs hw => ?_)
        refine lv_icmp_eq (tgt := 725) hx hb dL_law_235 (by decide) (fun c340 => ?_) (fun c340 => ?_)
        · have h := i_yes c340 h
          exact w_law_725 hC hX hbl hbA ho ih (mn_law_18 n) o1 a1 o2 a2 x3 _ _ _ _ _ _ _ _ hi1 hi2 hw hc (lv_sub hl [0, 1, 2, 3] rfl) h --j341
        · have h := i_no c340 h
          refine lv_iconst (v := 0) hx hb dL_law_238 (by decide) ?_
          exact absurd (Prod.mk.inj (Option.some.inj h)).1 (by decide) --j342
      have h := i_no c323 h
      by_cases c343 : ((xs x3.toNatClampNeg) &&& (31 : Int32)) = 2
      · have h := i_yes c343 h
        refine lv_tableIn (off := 207) (tgt := 240) hx hb dL_law_33 (by rw [c343]; decide) (by rw [c343]; decide) (by rw [c343] <;> rfl) (by decide) ?_
        refine lv_aload_n hx hb dL_law_240 rfl (lv_at hl 1 rfl) ?_
        refine lv_aload_n hx hb dL_law_241 rfl (lv_at hl 0 rfl) ?_
        refine lv_iload_n hx hb dL_law_242 rfl (lv_at hl 3 rfl) ?_
        refine lv_iconst (v := 1) hx hb dL_law_243 (by decide) ?_
        refine lv_iadd hx hb dL_law_244 ?_
        obtain ⟨hn344, h⟩ := ix_i h
        refine va_sld hx hb hX hbl hbA hw.2.2.2.1 hn344 dL_law_245 ?_
        obtain ⟨r346, D347, hq345, h⟩ := cq_i h
        refine r_cV (st' := [.int r346]) [.int (xs (x3 + (1 : Int32)).toNatClampNeg)] [] hC hw kc_7 hi1 (k_X8_cut _ hi1 hq345) mk_X8_cut lk_388 ⟨(by decide), (by decide)⟩ (Al.leL hc ho hE) rfl hl.1 rfl rfl (Nat.le_of_ble_eq_true rfl) dL_law_246 (fun hP H locs hw => ?_)
        refine lv_aload_n hx hb dL_law_249 rfl (lv_at hl 2 rfl) ?_
        refine lv_aload_n hx hb dL_law_250 rfl (lv_at hl 0 rfl) ?_
        refine lv_iload_n hx hb dL_law_251 rfl (lv_at hl 3 rfl) ?_
        refine lv_iconst (v := 1) hx hb dL_law_252 (by decide) ?_
        refine lv_iadd hx hb dL_law_253 ?_
        obtain ⟨hn348, h⟩ := ix_i h
        refine va_sld hx hb hX hbl hbA hw.2.2.2.1 hn348 dL_law_254 ?_
        obtain ⟨r350, D351, hq349, h⟩ := cq_i h
        refine r_cV (st' := [.int r350, .int r346]) [.int (xs (x3 + (1 : Int32)).toNatClampNeg)] [.int r346] hC hw kc_8 hi2 (k_X9_cut _ hi2 hq349) mk_X9_cut lk_1256 ⟨(by decide), (by decide)⟩ (Al.leL hc ho hE) rfl hl.1 rfl rfl (Nat.le_of_ble_eq_true rfl) dL_law_255 (fun hP H locs hw => ?_)
        refine lv_icmp_eq (tgt := 725) hx hb dL_law_258 (by decide) (fun c352 => ?_) (fun c352 => ?_)
        · have h := i_yes c352 h
          exact w_law_725 hC hX hbl hbA ho ih (mn_law_18 n) o1 a1 o2 a2 x3 _ _ _ _ _ _ _ _ hi1 hi2 hw hc (lv_sub hl [0, 1, 2, 3] rfl) h --j353
        · have h := i_no c352 h
          refine lv_iconst (v := 0) hx hb dL_law_261 (by decide) ?_
          exact absurd (Prod.mk.inj (Option.some.inj h)).1 (by decide) --j354
      have h := i_no c343 h
      by_cases c355 : ((xs x3.toNatClampNeg) &&& (31 : Int32)) = 3
      · have h := i_yes c355 h
        refine lv_tableIn (off := 230) (tgt := 263) hx hb dL_law_33 (by rw [c355]; decide) (by rw [c355]; decide) (by rw [c355] <;> rfl) (by decide) ?_
        refine lv_aload_n hx hb dL_law_263 rfl (lv_at hl 1 rfl) ?_
        refine lv_aload_n hx hb dL_law_264 rfl (lv_at hl 0 rfl) ?_
        refine lv_iload_n hx hb dL_law_265 rfl (lv_at hl 3 rfl) ?_
        refine lv_iconst (v := 1) hx hb dL_law_266 (by decide) ?_
        refine lv_iadd hx hb dL_law_267 ?_
        obtain ⟨hn356, h⟩ := ix_i h
        refine va_sld hx hb hX hbl hbA hw.2.2.2.1 hn356 dL_law_268 ?_
        refine lv_aload_n hx hb dL_law_269 rfl (lv_at hl 0 rfl) ?_
        refine lv_iload_n hx hb dL_law_270 rfl (lv_at hl 3 rfl) ?_
        refine lv_iconst (v := 2) hx hb dL_law_271 (by decide) ?_
        refine lv_iadd hx hb dL_law_272 ?_
        obtain ⟨hn357, h⟩ := ix_i h
        refine va_sld hx hb hX hbl hbA hw.2.2.2.1 hn357 dL_law_273 ?_
        refine lv_aload_n hx hb dL_law_274 rfl (lv_at hl 0 rfl) ?_
        refine lv_iload_n hx hb dL_law_275 rfl (lv_at hl 3 rfl) ?_
        refine lv_iconst (v := 3) hx hb dL_law_276 (by decide) ?_
        refine lv_iadd hx hb dL_law_277 ?_
        obtain ⟨hn358, h⟩ := ix_i h
        refine va_sld hx hb hX hbl hbA hw.2.2.2.1 hn358 dL_law_278 ?_
        refine lv_aload_n hx hb dL_law_279 rfl (lv_at hl 0 rfl) ?_
        refine lv_iload_n hx hb dL_law_280 rfl (lv_at hl 3 rfl) ?_
        refine lv_iconst (v := 4) hx hb dL_law_281 (by decide) ?_
        refine lv_iadd hx hb dL_law_282 ?_
        obtain ⟨hn359, h⟩ := ix_i h
        refine va_sld hx hb hX hbl hbA hw.2.2.2.1 hn359 dL_law_283 ?_
        obtain ⟨r361, S363, D362, hq360, h⟩ := c3_i h
        have hE364 := mn_X8_table_0 hq360
        have hE365 := mn_law_287 (mn_law_18 n) h
        refine r_cVA [.int (xs (x3 + (1 : Int32)).toNatClampNeg), .int (xs (x3 + (2 : Int32)).toNatClampNeg), .int (xs (x3 + (3 : Int32)).toNatClampNeg), .int (xs (x3 + (4 : Int32)).toNatClampNeg)] [] hC hw kc_7 hi1 (k_X8_table _ hi1 hq360) mk_X8_table lk_392 ⟨(by decide), (by decide)⟩ (Al.roomCL hc ho hE364 hE365) rfl hl.1 rfl (Nat.le_of_ble_eq_true rfl) dL_law_284 (fun ad366 hP H locs hw => ?_)
        refine W.eq (g2 := F0 m 287 ls [.int r361]) rfl ?_
        have hi367 := Is.up hi1 hE364 hP.1
        have hi368 := Is.up hi2 hE364 hP.1
        have hc := hc.call hE364 hP.1
        exact w_law_287 hC hX hbl hbA ho ih (mn_law_18 n) o1 a1 o2 a2 x3 r361 _ _ _ _ _ _ _ _ hi367 hi368 hw hc (lv_sub hl [0, 1, 2, 3] rfl) h --j369
      have h := i_no c355 h
      by_cases c370 : ((xs x3.toNatClampNeg) &&& (31 : Int32)) = 4
      · have h := i_yes c370 h
        refine lv_tableIn (off := 283) (tgt := 316) hx hb dL_law_33 (by rw [c370]; decide) (by rw [c370]; decide) (by rw [c370] <;> rfl) (by decide) ?_
        refine lv_aload_n hx hb dL_law_316 rfl (lv_at hl 1 rfl) ?_
        refine lv_aload_n hx hb dL_law_317 rfl (lv_at hl 0 rfl) ?_
        refine lv_iload_n hx hb dL_law_318 rfl (lv_at hl 3 rfl) ?_
        refine lv_iconst (v := 1) hx hb dL_law_319 (by decide) ?_
        refine lv_iadd hx hb dL_law_320 ?_
        obtain ⟨hn371, h⟩ := ix_i h
        refine va_sld hx hb hX hbl hbA hw.2.2.2.1 hn371 dL_law_321 ?_
        obtain ⟨r373, D374, hq372, h⟩ := cq_i h
        refine r_cV (st' := [.int r373]) [.int (xs (x3 + (1 : Int32)).toNatClampNeg)] [] hC hw kc_7 hi1 (k_X8_context _ hi1 hq372) mk_X8_context lk_435 ⟨(by decide), (by decide)⟩ (Al.leL hc ho hE) rfl hl.1 rfl rfl (Nat.le_of_ble_eq_true rfl) dL_law_322 (fun hP H locs hw => ?_)
        refine lv_aload_n hx hb dL_law_325 rfl (lv_at hl 2 rfl) ?_
        refine lv_aload_n hx hb dL_law_326 rfl (lv_at hl 0 rfl) ?_
        refine lv_iload_n hx hb dL_law_327 rfl (lv_at hl 3 rfl) ?_
        refine lv_iconst (v := 1) hx hb dL_law_328 (by decide) ?_
        refine lv_iadd hx hb dL_law_329 ?_
        obtain ⟨hn375, h⟩ := ix_i h
        refine va_sld hx hb hX hbl hbA hw.2.2.2.1 hn375 dL_law_330 ?_
        obtain ⟨r377, D378, hq376, h⟩ := cq_i h
        refine r_cV (st' := [.int r377, .int r373]) [.int (xs (x3 + (1 : Int32)).toNatClampNeg)] [.int r373] hC hw kc_8 hi2 (k_X9_context _ hi2 hq376) mk_X9_context lk_1422 ⟨(by decide), (by decide)⟩ (Al.leL hc ho hE) rfl hl.1 rfl rfl (Nat.le_of_ble_eq_true rfl) dL_law_331 (fun hP H locs hw => ?_)
        refine lv_icmp_eq (tgt := 725) hx hb dL_law_334 (by decide) (fun c379 => ?_) (fun c379 => ?_)
        · have h := i_yes c379 h
          exact w_law_725 hC hX hbl hbA ho ih (mn_law_18 n) o1 a1 o2 a2 x3 _ _ _ _ _ _ _ _ hi1 hi2 hw hc (lv_sub hl [0, 1, 2, 3] rfl) h --j380
        · have h := i_no c379 h
          refine lv_iconst (v := 0) hx hb dL_law_337 (by decide) ?_
          exact absurd (Prod.mk.inj (Option.some.inj h)).1 (by decide) --j381
      have h := i_no c370 h
      by_cases c382 : ((xs x3.toNatClampNeg) &&& (31 : Int32)) = 5
      · have h := i_yes c382 h
        refine lv_tableIn (off := 306) (tgt := 339) hx hb dL_law_33 (by rw [c382]; decide) (by rw [c382]; decide) (by rw [c382] <;> rfl) (by decide) ?_
        refine lv_aload_n hx hb dL_law_339 rfl (lv_at hl 1 rfl) ?_
        refine lv_aload_n hx hb dL_law_340 rfl (lv_at hl 0 rfl) ?_
        refine lv_iload_n hx hb dL_law_341 rfl (lv_at hl 3 rfl) ?_
        refine lv_iconst (v := 1) hx hb dL_law_342 (by decide) ?_
        refine lv_iadd hx hb dL_law_343 ?_
        obtain ⟨hn383, h⟩ := ix_i h
        refine va_sld hx hb hX hbl hbA hw.2.2.2.1 hn383 dL_law_344 ?_
        refine lv_aload_n hx hb dL_law_345 rfl (lv_at hl 0 rfl) ?_
        refine lv_iload_n hx hb dL_law_346 rfl (lv_at hl 3 rfl) ?_
        refine lv_iconst (v := 2) hx hb dL_law_347 (by decide) ?_
        refine lv_iadd hx hb dL_law_348 ?_
        obtain ⟨hn384, h⟩ := ix_i h
        refine va_sld hx hb hX hbl hbA hw.2.2.2.1 hn384 dL_law_349 ?_
        obtain ⟨r386, D387, hq385, h⟩ := cq_i h
        refine r_cV (st' := [.int r386]) [.int (xs (x3 + (1 : Int32)).toNatClampNeg), .int (xs (x3 + (2 : Int32)).toNatClampNeg)] [] hC hw kc_7 hi1 (k_X8_poke _ hi1 hq385) mk_X8_poke lk_443 ⟨(by decide), (by decide)⟩ (Al.leL hc ho hE) rfl hl.1 rfl rfl (Nat.le_of_ble_eq_true rfl) dL_law_350 (fun hP H locs hw => ?_)
        refine lv_aload_n hx hb dL_law_353 rfl (lv_at hl 2 rfl) ?_
        refine lv_aload_n hx hb dL_law_354 rfl (lv_at hl 0 rfl) ?_
        refine lv_iload_n hx hb dL_law_355 rfl (lv_at hl 3 rfl) ?_
        refine lv_iconst (v := 1) hx hb dL_law_356 (by decide) ?_
        refine lv_iadd hx hb dL_law_357 ?_
        obtain ⟨hn388, h⟩ := ix_i h
        refine va_sld hx hb hX hbl hbA hw.2.2.2.1 hn388 dL_law_358 ?_
        refine lv_aload_n hx hb dL_law_359 rfl (lv_at hl 0 rfl) ?_
        refine lv_iload_n hx hb dL_law_360 rfl (lv_at hl 3 rfl) ?_
        refine lv_iconst (v := 2) hx hb dL_law_361 (by decide) ?_
        refine lv_iadd hx hb dL_law_362 ?_
        obtain ⟨hn389, h⟩ := ix_i h
        refine va_sld hx hb hX hbl hbA hw.2.2.2.1 hn389 dL_law_363 ?_
        obtain ⟨r391, D392, hq390, h⟩ := cq_i h
        refine r_cV (st' := [.int r391, .int r386]) [.int (xs (x3 + (1 : Int32)).toNatClampNeg), .int (xs (x3 + (2 : Int32)).toNatClampNeg)] [.int r386] hC hw kc_8 hi2 (k_X9_poke _ hi2 hq390) mk_X9_poke lk_1427 ⟨(by decide), (by decide)⟩ (Al.leL hc ho hE) rfl hl.1 rfl rfl (Nat.le_of_ble_eq_true rfl) dL_law_364 (fun hP H locs hw => ?_)
        refine lv_icmp_eq (tgt := 725) hx hb dL_law_367 (by decide) (fun c393 => ?_) (fun c393 => ?_)
        · have h := i_yes c393 h
          exact w_law_725 hC hX hbl hbA ho ih (mn_law_18 n) o1 a1 o2 a2 x3 _ _ _ _ _ _ _ _ hi1 hi2 hw hc (lv_sub hl [0, 1, 2, 3] rfl) h --j394
        · have h := i_no c393 h
          refine lv_iconst (v := 0) hx hb dL_law_370 (by decide) ?_
          exact absurd (Prod.mk.inj (Option.some.inj h)).1 (by decide) --j395
      have h := i_no c382 h
      by_cases c396 : ((xs x3.toNatClampNeg) &&& (31 : Int32)) = 6
      · have h := i_yes c396 h
        refine lv_tableIn (off := 339) (tgt := 372) hx hb dL_law_33 (by rw [c396]; decide) (by rw [c396]; decide) (by rw [c396] <;> rfl) (by decide) ?_
        refine lv_aload_n hx hb dL_law_372 rfl (lv_at hl 1 rfl) ?_
        refine lv_aload_n hx hb dL_law_373 rfl (lv_at hl 0 rfl) ?_
        refine lv_iload_n hx hb dL_law_374 rfl (lv_at hl 3 rfl) ?_
        refine lv_iconst (v := 1) hx hb dL_law_375 (by decide) ?_
        refine lv_iadd hx hb dL_law_376 ?_
        obtain ⟨hn397, h⟩ := ix_i h
        refine va_sld hx hb hX hbl hbA hw.2.2.2.1 hn397 dL_law_377 ?_
        refine lv_i2l (v := (xs (x3 + (1 : Int32)).toNatClampNeg).toInt64) hx hb dL_law_378 rfl ?_
        refine lv_bipush (v := 32) hx hb dL_law_379 (by decide) ?_
        refine lv_lshl (v := j_lshl ((xs (x3 + (1 : Int32)).toNatClampNeg).toInt64) (32 : Int32)) hx hb dL_law_381 rfl ?_
        refine lv_aload_n hx hb dL_law_382 rfl (lv_at hl 0 rfl) ?_
        refine lv_iload_n hx hb dL_law_383 rfl (lv_at hl 3 rfl) ?_
        refine lv_iconst (v := 2) hx hb dL_law_384 (by decide) ?_
        refine lv_iadd hx hb dL_law_385 ?_
        obtain ⟨hn398, h⟩ := ix_i h
        refine va_sld hx hb hX hbl hbA hw.2.2.2.1 hn398 dL_law_386 ?_
        refine lv_i2l (v := (xs (x3 + (2 : Int32)).toNatClampNeg).toInt64) hx hb dL_law_387 rfl ?_
        refine lv_ldc2 (v := 4294967295) hx hb hC.2.2.2.1 (hC.2.2.2.2.1 _ lk_1608) dL_law_388 ?_
        refine lv_land hx hb dL_law_391 ?_
        refine lv_lor hx hb dL_law_392 ?_
        obtain ⟨r400, D401, hq399, h⟩ := cq_i h
        refine r_cV (st' := [.long r400]) [.long ((j_lshl ((xs (x3 + (1 : Int32)).toNatClampNeg).toInt64) (32 : Int32)) ||| (((xs (x3 + (2 : Int32)).toNatClampNeg).toInt64) &&& (4294967295 : Int64)))] [] hC hw kc_7 hi1 (k_X8_tick _ hi1 hq399) mk_X8_tick lk_447 ⟨(by decide), (by decide)⟩ (Al.leL hc ho hE) rfl hl.1 rfl rfl (Nat.le_of_ble_eq_true rfl) dL_law_393 (fun hP H locs hw => ?_)
        refine lv_aload_n hx hb dL_law_396 rfl (lv_at hl 2 rfl) ?_
        refine lv_aload_n hx hb dL_law_397 rfl (lv_at hl 0 rfl) ?_
        refine lv_iload_n hx hb dL_law_398 rfl (lv_at hl 3 rfl) ?_
        refine lv_iconst (v := 1) hx hb dL_law_399 (by decide) ?_
        refine lv_iadd hx hb dL_law_400 ?_
        obtain ⟨hn402, h⟩ := ix_i h
        refine va_sld hx hb hX hbl hbA hw.2.2.2.1 hn402 dL_law_401 ?_
        refine lv_i2l (v := (xs (x3 + (1 : Int32)).toNatClampNeg).toInt64) hx hb dL_law_402 rfl ?_
        refine lv_bipush (v := 32) hx hb dL_law_403 (by decide) ?_
        refine lv_lshl (v := j_lshl ((xs (x3 + (1 : Int32)).toNatClampNeg).toInt64) (32 : Int32)) hx hb dL_law_405 rfl ?_
        refine lv_aload_n hx hb dL_law_406 rfl (lv_at hl 0 rfl) ?_
        refine lv_iload_n hx hb dL_law_407 rfl (lv_at hl 3 rfl) ?_
        refine lv_iconst (v := 2) hx hb dL_law_408 (by decide) ?_
        refine lv_iadd hx hb dL_law_409 ?_
        obtain ⟨hn403, h⟩ := ix_i h
        refine va_sld hx hb hX hbl hbA hw.2.2.2.1 hn403 dL_law_410 ?_
        refine lv_i2l (v := (xs (x3 + (2 : Int32)).toNatClampNeg).toInt64) hx hb dL_law_411 rfl ?_
        refine lv_ldc2 (v := 4294967295) hx hb hC.2.2.2.1 (hC.2.2.2.2.1 _ lk_1608) dL_law_412 ?_
        refine lv_land hx hb dL_law_415 ?_
        refine lv_lor hx hb dL_law_416 ?_
        obtain ⟨r405, D406, hq404, h⟩ := cq_i h
        refine r_cV (st' := [.long r405, .long r400]) [.long ((j_lshl ((xs (x3 + (1 : Int32)).toNatClampNeg).toInt64) (32 : Int32)) ||| (((xs (x3 + (2 : Int32)).toNatClampNeg).toInt64) &&& (4294967295 : Int64)))] [.long r400] hC hw kc_8 hi2 (k_X9_tick _ hi2 hq404) mk_X9_tick lk_1431 ⟨(by decide), (by decide)⟩ (Al.leL hc ho hE) rfl hl.1 rfl rfl (Nat.le_of_ble_eq_true rfl) dL_law_417 (fun hP H locs hw => ?_)
        refine W.lcmp hx hb dL_law_420 ?_
        refine lv_if_eq (tgt := 725) hx hb dL_law_421 (by decide) (fun c407 => ?_) (fun c407 => ?_)
        · have h := i_yes c407 h
          exact w_law_725 hC hX hbl hbA ho ih (mn_law_18 n) o1 a1 o2 a2 x3 _ _ _ _ _ _ _ _ hi1 hi2 hw hc (lv_sub hl [0, 1, 2, 3] rfl) h --j408
        · have h := i_no c407 h
          refine lv_iconst (v := 0) hx hb dL_law_424 (by decide) ?_
          exact absurd (Prod.mk.inj (Option.some.inj h)).1 (by decide) --j409
      have h := i_no c396 h
      by_cases c410 : ((xs x3.toNatClampNeg) &&& (31 : Int32)) = 7
      · have h := i_yes c410 h
        refine lv_tableIn (off := 393) (tgt := 426) hx hb dL_law_33 (by rw [c410]; decide) (by rw [c410]; decide) (by rw [c410] <;> rfl) (by decide) ?_
        refine lv_aload_n hx hb dL_law_426 rfl (lv_at hl 1 rfl) ?_
        obtain ⟨r412, S414, D413, hq411, h⟩ := c3_i h
        have hE415 := mn_X8_judge_0 hq411
        have hE416 := mn_law_430 (mn_law_18 n) h
        refine r_cVA [] [] hC hw kc_7 hi1 (k_X8_judge _ hi1 hq411) mk_X8_judge lk_453 ⟨(by decide), (by decide)⟩ (Al.roomCL hc ho hE415 hE416) rfl hl.1 rfl (Nat.le_of_ble_eq_true rfl) dL_law_427 (fun ad417 hP H locs hw => ?_)
        refine W.eq (g2 := F0 m 430 ls [.int r412]) rfl ?_
        have hi418 := Is.up hi1 hE415 hP.1
        have hi419 := Is.up hi2 hE415 hP.1
        have hc := hc.call hE415 hP.1
        exact w_law_430 hC hX hbl hbA ho ih (mn_law_18 n) o1 a1 o2 a2 x3 r412 _ _ _ _ _ _ _ _ hi418 hi419 hw hc (lv_sub hl [0, 1, 2, 3] rfl) h --j420
      have h := i_no c410 h
      by_cases c421 : ((xs x3.toNatClampNeg) &&& (31 : Int32)) = 8
      · have h := i_yes c421 h
        refine lv_tableIn (off := 406) (tgt := 439) hx hb dL_law_33 (by rw [c421]; decide) (by rw [c421]; decide) (by rw [c421] <;> rfl) (by decide) ?_
        refine lv_aload_n hx hb dL_law_439 rfl (lv_at hl 1 rfl) ?_
        obtain ⟨r423, hq422, h⟩ := pq_i h
        refine r_cV (st' := [.int r423]) [] [] hC hw kc_7 hi1 (k_X8_place _ hi1 hq422) mk_X8_place lk_860 ⟨(by decide), (by decide)⟩ (Al.leL hc ho hE) rfl hl.1 rfl rfl (Nat.le_of_ble_eq_true rfl) dL_law_440 (fun hP H locs hw => ?_)
        refine lv_aload_n hx hb dL_law_443 rfl (lv_at hl 2 rfl) ?_
        obtain ⟨r425, hq424, h⟩ := pq_i h
        refine r_cV (st' := [.int r425, .int r423]) [] [.int r423] hC hw kc_8 hi2 (k_X9_place _ hi2 hq424) mk_X9_place lk_1595 ⟨(by decide), (by decide)⟩ (Al.leL hc ho hE) rfl hl.1 rfl rfl (Nat.le_of_ble_eq_true rfl) dL_law_444 (fun hP H locs hw => ?_)
        refine lv_icmp_eq (tgt := 725) hx hb dL_law_447 (by decide) (fun c426 => ?_) (fun c426 => ?_)
        · have h := i_yes c426 h
          exact w_law_725 hC hX hbl hbA ho ih (mn_law_18 n) o1 a1 o2 a2 x3 _ _ _ _ _ _ _ _ hi1 hi2 hw hc (lv_sub hl [0, 1, 2, 3] rfl) h --j427
        · have h := i_no c426 h
          refine lv_iconst (v := 0) hx hb dL_law_450 (by decide) ?_
          exact absurd (Prod.mk.inj (Option.some.inj h)).1 (by decide) --j428
      have h := i_no c421 h
      by_cases c429 : ((xs x3.toNatClampNeg) &&& (31 : Int32)) = 9
      · have h := i_yes c429 h
        refine lv_tableIn (off := 419) (tgt := 452) hx hb dL_law_33 (by rw [c429]; decide) (by rw [c429]; decide) (by rw [c429] <;> rfl) (by decide) ?_
        refine lv_aload_n hx hb dL_law_452 rfl (lv_at hl 1 rfl) ?_
        refine lv_aload_n hx hb dL_law_453 rfl (lv_at hl 0 rfl) ?_
        refine lv_iload_n hx hb dL_law_454 rfl (lv_at hl 3 rfl) ?_
        refine lv_iconst (v := 1) hx hb dL_law_455 (by decide) ?_
        refine lv_iadd hx hb dL_law_456 ?_
        obtain ⟨hn430, h⟩ := ix_i h
        refine va_sld hx hb hX hbl hbA hw.2.2.2.1 hn430 dL_law_457 ?_
        refine lv_aload_n hx hb dL_law_458 rfl (lv_at hl 0 rfl) ?_
        refine lv_iload_n hx hb dL_law_459 rfl (lv_at hl 3 rfl) ?_
        refine lv_iconst (v := 2) hx hb dL_law_460 (by decide) ?_
        refine lv_iadd hx hb dL_law_461 ?_
        obtain ⟨hn431, h⟩ := ix_i h
        refine va_sld hx hb hX hbl hbA hw.2.2.2.1 hn431 dL_law_462 ?_
        refine lv_aload_n hx hb dL_law_463 rfl (lv_at hl 0 rfl) ?_
        refine lv_iload_n hx hb dL_law_464 rfl (lv_at hl 3 rfl) ?_
        refine lv_iconst (v := 3) hx hb dL_law_465 (by decide) ?_
        refine lv_iadd hx hb dL_law_466 ?_
        obtain ⟨hn432, h⟩ := ix_i h
        refine va_sld hx hb hX hbl hbA hw.2.2.2.1 hn432 dL_law_467 ?_
        obtain ⟨r434, hq433, h⟩ := pq_i h
        refine r_cV (st' := [.long r434]) [.int (xs (x3 + (1 : Int32)).toNatClampNeg), .int (xs (x3 + (2 : Int32)).toNatClampNeg), .int (xs (x3 + (3 : Int32)).toNatClampNeg)] [] hC hw kc_7 hi1 (k_X8_may _ hi1 hq433) mk_X8_may lk_864 ⟨(by decide), (by decide)⟩ (Al.leL hc ho hE) rfl hl.1 rfl rfl (Nat.le_of_ble_eq_true rfl) dL_law_468 (fun hP H locs hw => ?_)
        refine lv_aload_n hx hb dL_law_471 rfl (lv_at hl 2 rfl) ?_
        refine lv_aload_n hx hb dL_law_472 rfl (lv_at hl 0 rfl) ?_
        refine lv_iload_n hx hb dL_law_473 rfl (lv_at hl 3 rfl) ?_
        refine lv_iconst (v := 1) hx hb dL_law_474 (by decide) ?_
        refine lv_iadd hx hb dL_law_475 ?_
        obtain ⟨hn435, h⟩ := ix_i h
        refine va_sld hx hb hX hbl hbA hw.2.2.2.1 hn435 dL_law_476 ?_
        refine lv_aload_n hx hb dL_law_477 rfl (lv_at hl 0 rfl) ?_
        refine lv_iload_n hx hb dL_law_478 rfl (lv_at hl 3 rfl) ?_
        refine lv_iconst (v := 2) hx hb dL_law_479 (by decide) ?_
        refine lv_iadd hx hb dL_law_480 ?_
        obtain ⟨hn436, h⟩ := ix_i h
        refine va_sld hx hb hX hbl hbA hw.2.2.2.1 hn436 dL_law_481 ?_
        refine lv_aload_n hx hb dL_law_482 rfl (lv_at hl 0 rfl) ?_
        refine lv_iload_n hx hb dL_law_483 rfl (lv_at hl 3 rfl) ?_
        refine lv_iconst (v := 3) hx hb dL_law_484 (by decide) ?_
        refine lv_iadd hx hb dL_law_485 ?_
        obtain ⟨hn437, h⟩ := ix_i h
        refine va_sld hx hb hX hbl hbA hw.2.2.2.1 hn437 dL_law_486 ?_
        obtain ⟨r439, hq438, h⟩ := pq_i h
        refine r_cV (st' := [.long r439, .long r434]) [.int (xs (x3 + (1 : Int32)).toNatClampNeg), .int (xs (x3 + (2 : Int32)).toNatClampNeg), .int (xs (x3 + (3 : Int32)).toNatClampNeg)] [.long r434] hC hw kc_8 hi2 (k_X9_may _ hi2 hq438) mk_X9_may lk_1599 ⟨(by decide), (by decide)⟩ (Al.leL hc ho hE) rfl hl.1 rfl rfl (Nat.le_of_ble_eq_true rfl) dL_law_487 (fun hP H locs hw => ?_)
        refine W.lcmp hx hb dL_law_490 ?_
        refine lv_if_eq (tgt := 725) hx hb dL_law_491 (by decide) (fun c440 => ?_) (fun c440 => ?_)
        · have h := i_yes c440 h
          exact w_law_725 hC hX hbl hbA ho ih (mn_law_18 n) o1 a1 o2 a2 x3 _ _ _ _ _ _ _ _ hi1 hi2 hw hc (lv_sub hl [0, 1, 2, 3] rfl) h --j441
        · have h := i_no c440 h
          refine lv_iconst (v := 0) hx hb dL_law_494 (by decide) ?_
          exact absurd (Prod.mk.inj (Option.some.inj h)).1 (by decide) --j442
      have h := i_no c429 h
      by_cases c443 : ((xs x3.toNatClampNeg) &&& (31 : Int32)) = 10
      · have h := i_yes c443 h
        refine lv_tableIn (off := 463) (tgt := 496) hx hb dL_law_33 (by rw [c443]; decide) (by rw [c443]; decide) (by rw [c443] <;> rfl) (by decide) ?_
        refine lv_aload_n hx hb dL_law_496 rfl (lv_at hl 1 rfl) ?_
        refine lv_aload_n hx hb dL_law_497 rfl (lv_at hl 0 rfl) ?_
        refine lv_iload_n hx hb dL_law_498 rfl (lv_at hl 3 rfl) ?_
        refine lv_iconst (v := 1) hx hb dL_law_499 (by decide) ?_
        refine lv_iadd hx hb dL_law_500 ?_
        obtain ⟨hn444, h⟩ := ix_i h
        refine va_sld hx hb hX hbl hbA hw.2.2.2.1 hn444 dL_law_501 ?_
        refine lv_aload_n hx hb dL_law_502 rfl (lv_at hl 0 rfl) ?_
        refine lv_iload_n hx hb dL_law_503 rfl (lv_at hl 3 rfl) ?_
        refine lv_iconst (v := 2) hx hb dL_law_504 (by decide) ?_
        refine lv_iadd hx hb dL_law_505 ?_
        obtain ⟨hn445, h⟩ := ix_i h
        refine va_sld hx hb hX hbl hbA hw.2.2.2.1 hn445 dL_law_506 ?_
        obtain ⟨r447, hq446, h⟩ := pq_i h
        refine r_cV (st' := [.int r447]) [.int (xs (x3 + (1 : Int32)).toNatClampNeg), .int (xs (x3 + (2 : Int32)).toNatClampNeg)] [] hC hw kc_7 hi1 (k_X8_cell _ hi1 hq446) mk_X8_cell lk_875 ⟨(by decide), (by decide)⟩ (Al.leL hc ho hE) rfl hl.1 rfl rfl (Nat.le_of_ble_eq_true rfl) dL_law_507 (fun hP H locs hw => ?_)
        refine lv_aload_n hx hb dL_law_510 rfl (lv_at hl 2 rfl) ?_
        refine lv_aload_n hx hb dL_law_511 rfl (lv_at hl 0 rfl) ?_
        refine lv_iload_n hx hb dL_law_512 rfl (lv_at hl 3 rfl) ?_
        refine lv_iconst (v := 1) hx hb dL_law_513 (by decide) ?_
        refine lv_iadd hx hb dL_law_514 ?_
        obtain ⟨hn448, h⟩ := ix_i h
        refine va_sld hx hb hX hbl hbA hw.2.2.2.1 hn448 dL_law_515 ?_
        refine lv_aload_n hx hb dL_law_516 rfl (lv_at hl 0 rfl) ?_
        refine lv_iload_n hx hb dL_law_517 rfl (lv_at hl 3 rfl) ?_
        refine lv_iconst (v := 2) hx hb dL_law_518 (by decide) ?_
        refine lv_iadd hx hb dL_law_519 ?_
        obtain ⟨hn449, h⟩ := ix_i h
        refine va_sld hx hb hX hbl hbA hw.2.2.2.1 hn449 dL_law_520 ?_
        obtain ⟨r451, hq450, h⟩ := pq_i h
        refine r_cV (st' := [.int r451, .int r447]) [.int (xs (x3 + (1 : Int32)).toNatClampNeg), .int (xs (x3 + (2 : Int32)).toNatClampNeg)] [.int r447] hC hw kc_8 hi2 (k_X9_cell _ hi2 hq450) mk_X9_cell lk_1604 ⟨(by decide), (by decide)⟩ (Al.leL hc ho hE) rfl hl.1 rfl rfl (Nat.le_of_ble_eq_true rfl) dL_law_521 (fun hP H locs hw => ?_)
        refine lv_icmp_eq (tgt := 725) hx hb dL_law_524 (by decide) (fun c452 => ?_) (fun c452 => ?_)
        · have h := i_yes c452 h
          exact w_law_725 hC hX hbl hbA ho ih (mn_law_18 n) o1 a1 o2 a2 x3 _ _ _ _ _ _ _ _ hi1 hi2 hw hc (lv_sub hl [0, 1, 2, 3] rfl) h --j453
        · have h := i_no c452 h
          refine lv_iconst (v := 0) hx hb dL_law_527 (by decide) ?_
          exact absurd (Prod.mk.inj (Option.some.inj h)).1 (by decide) --j454
      have h := i_no c443 h
      by_cases c455 : ((xs x3.toNatClampNeg) &&& (31 : Int32)) = 11
      · have h := i_yes c455 h
        refine lv_tableIn (off := 496) (tgt := 529) hx hb dL_law_33 (by rw [c455]; decide) (by rw [c455]; decide) (by rw [c455] <;> rfl) (by decide) ?_
        refine lv_aload_n hx hb dL_law_529 rfl (lv_at hl 1 rfl) ?_
        obtain ⟨r457, D458, hq456, h⟩ := cq_i h
        refine r_cV (st' := [.int r457]) [] [] hC hw kc_7 hi1 (k_X8_start _ hi1 hq456) mk_X8_start lk_883 ⟨(by decide), (by decide)⟩ (Al.leL hc ho hE) rfl hl.1 rfl rfl (Nat.le_of_ble_eq_true rfl) dL_law_530 (fun hP H locs hw => ?_)
        refine lv_aload_n hx hb dL_law_533 rfl (lv_at hl 2 rfl) ?_
        obtain ⟨r460, D461, hq459, h⟩ := cq_i h
        refine r_cV (st' := [.int r460, .int r457]) [] [.int r457] hC hw kc_8 hi2 (k_X9_start _ hi2 hq459) mk_X9_start lk_1296 ⟨(by decide), (by decide)⟩ (Al.leL hc ho hE) rfl hl.1 rfl rfl (Nat.le_of_ble_eq_true rfl) dL_law_534 (fun hP H locs hw => ?_)
        refine lv_icmp_eq (tgt := 725) hx hb dL_law_537 (by decide) (fun c462 => ?_) (fun c462 => ?_)
        · have h := i_yes c462 h
          exact w_law_725 hC hX hbl hbA ho ih (mn_law_18 n) o1 a1 o2 a2 x3 _ _ _ _ _ _ _ _ hi1 hi2 hw hc (lv_sub hl [0, 1, 2, 3] rfl) h --j463
        · have h := i_no c462 h
          refine lv_iconst (v := 0) hx hb dL_law_540 (by decide) ?_
          exact absurd (Prod.mk.inj (Option.some.inj h)).1 (by decide) --j464
      have h := i_no c455 h
      by_cases c465 : ((xs x3.toNatClampNeg) &&& (31 : Int32)) = 12
      · have h := i_yes c465 h
        refine lv_tableIn (off := 509) (tgt := 542) hx hb dL_law_33 (by rw [c465]; decide) (by rw [c465]; decide) (by rw [c465] <;> rfl) (by decide) ?_
        refine lv_aload_n hx hb dL_law_542 rfl (lv_at hl 1 rfl) ?_
        obtain ⟨r467, D468, hq466, h⟩ := cq_i h
        refine r_cV (st' := [.int r467]) [] [] hC hw kc_7 hi1 (k_X8_step _ hi1 hq466) mk_X8_step lk_897 ⟨(by decide), (by decide)⟩ (Al.leL hc ho hE) rfl hl.1 rfl rfl (Nat.le_of_ble_eq_true rfl) dL_law_543 (fun hP H locs hw => ?_)
        refine lv_aload_n hx hb dL_law_546 rfl (lv_at hl 2 rfl) ?_
        obtain ⟨r470, D471, hq469, h⟩ := cq_i h
        refine r_cV (st' := [.int r470, .int r467]) [] [.int r467] hC hw kc_8 hi2 (k_X9_step _ hi2 hq469) mk_X9_step lk_1300 ⟨(by decide), (by decide)⟩ (Al.leL hc ho hE) rfl hl.1 rfl rfl (Nat.le_of_ble_eq_true rfl) dL_law_547 (fun hP H locs hw => ?_)
        refine lv_icmp_eq (tgt := 725) hx hb dL_law_550 (by decide) (fun c472 => ?_) (fun c472 => ?_)
        · have h := i_yes c472 h
          exact w_law_725 hC hX hbl hbA ho ih (mn_law_18 n) o1 a1 o2 a2 x3 _ _ _ _ _ _ _ _ hi1 hi2 hw hc (lv_sub hl [0, 1, 2, 3] rfl) h --j473
        · have h := i_no c472 h
          refine lv_iconst (v := 0) hx hb dL_law_553 (by decide) ?_
          exact absurd (Prod.mk.inj (Option.some.inj h)).1 (by decide) --j474
      have h := i_no c465 h
      by_cases c475 : ((xs x3.toNatClampNeg) &&& (31 : Int32)) = 13
      · have h := i_yes c475 h
        refine lv_tableIn (off := 522) (tgt := 555) hx hb dL_law_33 (by rw [c475]; decide) (by rw [c475]; decide) (by rw [c475] <;> rfl) (by decide) ?_
        refine lv_aload_n hx hb dL_law_555 rfl (lv_at hl 1 rfl) ?_
        refine lv_aload_n hx hb dL_law_556 rfl (lv_at hl 0 rfl) ?_
        refine lv_iload_n hx hb dL_law_557 rfl (lv_at hl 3 rfl) ?_
        refine lv_iconst (v := 1) hx hb dL_law_558 (by decide) ?_
        refine lv_iadd hx hb dL_law_559 ?_
        obtain ⟨hn476, h⟩ := ix_i h
        refine va_sld hx hb hX hbl hbA hw.2.2.2.1 hn476 dL_law_560 ?_
        obtain ⟨r478, D479, hq477, h⟩ := cq_i h
        refine r_cV (st' := [.int r478]) [.int (xs (x3 + (1 : Int32)).toNatClampNeg)] [] hC hw kc_7 hi1 (k_X8_run _ hi1 hq477) mk_X8_run lk_1027 ⟨(by decide), (by decide)⟩ (Al.leL hc ho hE) rfl hl.1 rfl rfl (Nat.le_of_ble_eq_true rfl) dL_law_561 (fun hP H locs hw => ?_)
        refine lv_aload_n hx hb dL_law_564 rfl (lv_at hl 2 rfl) ?_
        refine lv_aload_n hx hb dL_law_565 rfl (lv_at hl 0 rfl) ?_
        refine lv_iload_n hx hb dL_law_566 rfl (lv_at hl 3 rfl) ?_
        refine lv_iconst (v := 1) hx hb dL_law_567 (by decide) ?_
        refine lv_iadd hx hb dL_law_568 ?_
        obtain ⟨hn480, h⟩ := ix_i h
        refine va_sld hx hb hX hbl hbA hw.2.2.2.1 hn480 dL_law_569 ?_
        obtain ⟨r482, D483, hq481, h⟩ := cq_i h
        refine r_cV (st' := [.int r482, .int r478]) [.int (xs (x3 + (1 : Int32)).toNatClampNeg)] [.int r478] hC hw kc_8 hi2 (k_X9_run _ hi2 hq481) mk_X9_run lk_1416 ⟨(by decide), (by decide)⟩ (Al.leL hc ho hE) rfl hl.1 rfl rfl (Nat.le_of_ble_eq_true rfl) dL_law_570 (fun hP H locs hw => ?_)
        refine lv_icmp_eq (tgt := 725) hx hb dL_law_573 (by decide) (fun c484 => ?_) (fun c484 => ?_)
        · have h := i_yes c484 h
          exact w_law_725 hC hX hbl hbA ho ih (mn_law_18 n) o1 a1 o2 a2 x3 _ _ _ _ _ _ _ _ hi1 hi2 hw hc (lv_sub hl [0, 1, 2, 3] rfl) h --j485
        · have h := i_no c484 h
          refine lv_iconst (v := 0) hx hb dL_law_576 (by decide) ?_
          exact absurd (Prod.mk.inj (Option.some.inj h)).1 (by decide) --j486
      have h := i_no c475 h
      by_cases c487 : ((xs x3.toNatClampNeg) &&& (31 : Int32)) = 14
      · have h := i_yes c487 h
        refine lv_tableIn (off := 545) (tgt := 578) hx hb dL_law_33 (by rw [c487]; decide) (by rw [c487]; decide) (by rw [c487] <;> rfl) (by decide) ?_
        refine lv_aload_n hx hb dL_law_578 rfl (lv_at hl 1 rfl) ?_
        refine lv_aload_n hx hb dL_law_579 rfl (lv_at hl 0 rfl) ?_
        refine lv_iload_n hx hb dL_law_580 rfl (lv_at hl 3 rfl) ?_
        refine lv_iconst (v := 1) hx hb dL_law_581 (by decide) ?_
        refine lv_iadd hx hb dL_law_582 ?_
        obtain ⟨hn488, h⟩ := ix_i h
        refine va_sld hx hb hX hbl hbA hw.2.2.2.1 hn488 dL_law_583 ?_
        obtain ⟨r490, hq489, h⟩ := pq_i h
        refine r_cV (st' := [.int r490]) [.int (xs (x3 + (1 : Int32)).toNatClampNeg)] [] hC hw kc_7 hi1 (k_X8_told _ hi1 hq489) mk_X8_told lk_1031 ⟨(by decide), (by decide)⟩ (Al.leL hc ho hE) rfl hl.1 rfl rfl (Nat.le_of_ble_eq_true rfl) dL_law_584 (fun hP H locs hw => ?_)
        refine lv_aload_n hx hb dL_law_587 rfl (lv_at hl 2 rfl) ?_
        refine lv_aload_n hx hb dL_law_588 rfl (lv_at hl 0 rfl) ?_
        refine lv_iload_n hx hb dL_law_589 rfl (lv_at hl 3 rfl) ?_
        refine lv_iconst (v := 1) hx hb dL_law_590 (by decide) ?_
        refine lv_iadd hx hb dL_law_591 ?_
        obtain ⟨hn491, h⟩ := ix_i h
        refine va_sld hx hb hX hbl hbA hw.2.2.2.1 hn491 dL_law_592 ?_
        obtain ⟨r493, hq492, h⟩ := pq_i h
        refine r_cV (st' := [.int r493, .int r490]) [.int (xs (x3 + (1 : Int32)).toNatClampNeg)] [.int r490] hC hw kc_8 hi2 (k_X9_told _ hi2 hq492) mk_X9_told lk_1437 ⟨(by decide), (by decide)⟩ (Al.leL hc ho hE) rfl hl.1 rfl rfl (Nat.le_of_ble_eq_true rfl) dL_law_593 (fun hP H locs hw => ?_)
        refine lv_icmp_eq (tgt := 725) hx hb dL_law_596 (by decide) (fun c494 => ?_) (fun c494 => ?_)
        · have h := i_yes c494 h
          exact w_law_725 hC hX hbl hbA ho ih (mn_law_18 n) o1 a1 o2 a2 x3 _ _ _ _ _ _ _ _ hi1 hi2 hw hc (lv_sub hl [0, 1, 2, 3] rfl) h --j495
        · have h := i_no c494 h
          refine lv_iconst (v := 0) hx hb dL_law_599 (by decide) ?_
          exact absurd (Prod.mk.inj (Option.some.inj h)).1 (by decide) --j496
      have h := i_no c487 h
      by_cases c497 : ((xs x3.toNatClampNeg) &&& (31 : Int32)) = 15
      · have h := i_yes c497 h
        refine lv_tableIn (off := 568) (tgt := 601) hx hb dL_law_33 (by rw [c497]; decide) (by rw [c497]; decide) (by rw [c497] <;> rfl) (by decide) ?_
        refine lv_aload_n hx hb dL_law_601 rfl (lv_at hl 1 rfl) ?_
        refine lv_aload_n hx hb dL_law_602 rfl (lv_at hl 0 rfl) ?_
        refine lv_iload_n hx hb dL_law_603 rfl (lv_at hl 3 rfl) ?_
        refine lv_iconst (v := 1) hx hb dL_law_604 (by decide) ?_
        refine lv_iadd hx hb dL_law_605 ?_
        obtain ⟨hn498, h⟩ := ix_i h
        refine va_sld hx hb hX hbl hbA hw.2.2.2.1 hn498 dL_law_606 ?_
        obtain ⟨r500, hq499, h⟩ := pq_i h
        refine r_cV (st' := [.long r500]) [.int (xs (x3 + (1 : Int32)).toNatClampNeg)] [] hC hw kc_7 hi1 (k_X8_register _ hi1 hq499) mk_X8_register lk_1035 ⟨(by decide), (by decide)⟩ (Al.leL hc ho hE) rfl hl.1 rfl rfl (Nat.le_of_ble_eq_true rfl) dL_law_607 (fun hP H locs hw => ?_)
        refine lv_aload_n hx hb dL_law_610 rfl (lv_at hl 2 rfl) ?_
        refine lv_aload_n hx hb dL_law_611 rfl (lv_at hl 0 rfl) ?_
        refine lv_iload_n hx hb dL_law_612 rfl (lv_at hl 3 rfl) ?_
        refine lv_iconst (v := 1) hx hb dL_law_613 (by decide) ?_
        refine lv_iadd hx hb dL_law_614 ?_
        obtain ⟨hn501, h⟩ := ix_i h
        refine va_sld hx hb hX hbl hbA hw.2.2.2.1 hn501 dL_law_615 ?_
        obtain ⟨r503, hq502, h⟩ := pq_i h
        refine r_cV (st' := [.long r503, .long r500]) [.int (xs (x3 + (1 : Int32)).toNatClampNeg)] [.long r500] hC hw kc_8 hi2 (k_X9_register _ hi2 hq502) mk_X9_register lk_1441 ⟨(by decide), (by decide)⟩ (Al.leL hc ho hE) rfl hl.1 rfl rfl (Nat.le_of_ble_eq_true rfl) dL_law_616 (fun hP H locs hw => ?_)
        refine W.lcmp hx hb dL_law_619 ?_
        refine lv_if_eq (tgt := 725) hx hb dL_law_620 (by decide) (fun c504 => ?_) (fun c504 => ?_)
        · have h := i_yes c504 h
          exact w_law_725 hC hX hbl hbA ho ih (mn_law_18 n) o1 a1 o2 a2 x3 _ _ _ _ _ _ _ _ hi1 hi2 hw hc (lv_sub hl [0, 1, 2, 3] rfl) h --j505
        · have h := i_no c504 h
          refine lv_iconst (v := 0) hx hb dL_law_623 (by decide) ?_
          exact absurd (Prod.mk.inj (Option.some.inj h)).1 (by decide) --j506
      have h := i_no c497 h
      by_cases c507 : ((xs x3.toNatClampNeg) &&& (31 : Int32)) = 16
      · have h := i_yes c507 h
        refine lv_tableIn (off := 592) (tgt := 625) hx hb dL_law_33 (by rw [c507]; decide) (by rw [c507]; decide) (by rw [c507] <;> rfl) (by decide) ?_
        refine lv_aload_n hx hb dL_law_625 rfl (lv_at hl 1 rfl) ?_
        refine lv_aload_n hx hb dL_law_626 rfl (lv_at hl 0 rfl) ?_
        refine lv_iload_n hx hb dL_law_627 rfl (lv_at hl 3 rfl) ?_
        refine lv_iconst (v := 1) hx hb dL_law_628 (by decide) ?_
        refine lv_iadd hx hb dL_law_629 ?_
        obtain ⟨hn508, h⟩ := ix_i h
        refine va_sld hx hb hX hbl hbA hw.2.2.2.1 hn508 dL_law_630 ?_
        refine lv_i2l (v := (xs (x3 + (1 : Int32)).toNatClampNeg).toInt64) hx hb dL_law_631 rfl ?_
        refine lv_bipush (v := 32) hx hb dL_law_632 (by decide) ?_
        refine lv_lshl (v := j_lshl ((xs (x3 + (1 : Int32)).toNatClampNeg).toInt64) (32 : Int32)) hx hb dL_law_634 rfl ?_
        refine lv_aload_n hx hb dL_law_635 rfl (lv_at hl 0 rfl) ?_
        refine lv_iload_n hx hb dL_law_636 rfl (lv_at hl 3 rfl) ?_
        refine lv_iconst (v := 2) hx hb dL_law_637 (by decide) ?_
        refine lv_iadd hx hb dL_law_638 ?_
        obtain ⟨hn509, h⟩ := ix_i h
        refine va_sld hx hb hX hbl hbA hw.2.2.2.1 hn509 dL_law_639 ?_
        refine lv_i2l (v := (xs (x3 + (2 : Int32)).toNatClampNeg).toInt64) hx hb dL_law_640 rfl ?_
        refine lv_ldc2 (v := 4294967295) hx hb hC.2.2.2.1 (hC.2.2.2.2.1 _ lk_1608) dL_law_641 ?_
        refine lv_land hx hb dL_law_644 ?_
        refine lv_lor hx hb dL_law_645 ?_
        obtain ⟨r511, D512, hq510, h⟩ := cq_i h
        refine r_cV (st' := [.int r511]) [.long ((j_lshl ((xs (x3 + (1 : Int32)).toNatClampNeg).toInt64) (32 : Int32)) ||| (((xs (x3 + (2 : Int32)).toNatClampNeg).toInt64) &&& (4294967295 : Int64)))] [] hC hw kc_7 hi1 (k_X8_octet _ hi1 hq510) mk_X8_octet lk_1039 ⟨(by decide), (by decide)⟩ (Al.leL hc ho hE) rfl hl.1 rfl rfl (Nat.le_of_ble_eq_true rfl) dL_law_646 (fun hP H locs hw => ?_)
        refine lv_aload_n hx hb dL_law_649 rfl (lv_at hl 2 rfl) ?_
        refine lv_aload_n hx hb dL_law_650 rfl (lv_at hl 0 rfl) ?_
        refine lv_iload_n hx hb dL_law_651 rfl (lv_at hl 3 rfl) ?_
        refine lv_iconst (v := 1) hx hb dL_law_652 (by decide) ?_
        refine lv_iadd hx hb dL_law_653 ?_
        obtain ⟨hn513, h⟩ := ix_i h
        refine va_sld hx hb hX hbl hbA hw.2.2.2.1 hn513 dL_law_654 ?_
        refine lv_i2l (v := (xs (x3 + (1 : Int32)).toNatClampNeg).toInt64) hx hb dL_law_655 rfl ?_
        refine lv_bipush (v := 32) hx hb dL_law_656 (by decide) ?_
        refine lv_lshl (v := j_lshl ((xs (x3 + (1 : Int32)).toNatClampNeg).toInt64) (32 : Int32)) hx hb dL_law_658 rfl ?_
        refine lv_aload_n hx hb dL_law_659 rfl (lv_at hl 0 rfl) ?_
        refine lv_iload_n hx hb dL_law_660 rfl (lv_at hl 3 rfl) ?_
        refine lv_iconst (v := 2) hx hb dL_law_661 (by decide) ?_
        refine lv_iadd hx hb dL_law_662 ?_
        obtain ⟨hn514, h⟩ := ix_i h
        refine va_sld hx hb hX hbl hbA hw.2.2.2.1 hn514 dL_law_663 ?_
        refine lv_i2l (v := (xs (x3 + (2 : Int32)).toNatClampNeg).toInt64) hx hb dL_law_664 rfl ?_
        refine lv_ldc2 (v := 4294967295) hx hb hC.2.2.2.1 (hC.2.2.2.2.1 _ lk_1608) dL_law_665 ?_
        refine lv_land hx hb dL_law_668 ?_
        refine lv_lor hx hb dL_law_669 ?_
        obtain ⟨r516, hq515, h⟩ := pq_i h
        refine r_cV (st' := [.int r516, .int r511]) [.long ((j_lshl ((xs (x3 + (1 : Int32)).toNatClampNeg).toInt64) (32 : Int32)) ||| (((xs (x3 + (2 : Int32)).toNatClampNeg).toInt64) &&& (4294967295 : Int64)))] [.int r511] hC hw kc_8 hi2 (k_X9_octet _ hi2 hq515) mk_X9_octet lk_1260 ⟨(by decide), (by decide)⟩ (Al.leL hc ho hE) rfl hl.1 rfl rfl (Nat.le_of_ble_eq_true rfl) dL_law_670 (fun hP H locs hw => ?_)
        refine lv_icmp_eq (tgt := 725) hx hb dL_law_673 (by decide) (fun c517 => ?_) (fun c517 => ?_)
        · have h := i_yes c517 h
          exact w_law_725 hC hX hbl hbA ho ih (mn_law_18 n) o1 a1 o2 a2 x3 _ _ _ _ _ _ _ _ hi1 hi2 hw hc (lv_sub hl [0, 1, 2, 3] rfl) h --j518
        · have h := i_no c517 h
          refine lv_iconst (v := 0) hx hb dL_law_676 (by decide) ?_
          exact absurd (Prod.mk.inj (Option.some.inj h)).1 (by decide) --j519
      have h := i_no c507 h
      by_cases c520 : ((xs x3.toNatClampNeg) &&& (31 : Int32)) = 17
      · have h := i_yes c520 h
        refine lv_tableIn (off := 645) (tgt := 678) hx hb dL_law_33 (by rw [c520]; decide) (by rw [c520]; decide) (by rw [c520] <;> rfl) (by decide) ?_
        refine lv_aload_n hx hb dL_law_678 rfl (lv_at hl 1 rfl) ?_
        refine lv_aload_n hx hb dL_law_679 rfl (lv_at hl 0 rfl) ?_
        refine lv_iload_n hx hb dL_law_680 rfl (lv_at hl 3 rfl) ?_
        refine lv_iconst (v := 1) hx hb dL_law_681 (by decide) ?_
        refine lv_iadd hx hb dL_law_682 ?_
        obtain ⟨hn521, h⟩ := ix_i h
        refine va_sld hx hb hX hbl hbA hw.2.2.2.1 hn521 dL_law_683 ?_
        obtain ⟨r523, hq522, h⟩ := pq_i h
        refine r_cV (st' := [.long r523]) [.int (xs (x3 + (1 : Int32)).toNatClampNeg)] [] hC hw kc_7 hi1 (k_X8_putAt _ hi1 hq522) mk_X8_putAt lk_1045 ⟨(by decide), (by decide)⟩ (Al.leL hc ho hE) rfl hl.1 rfl rfl (Nat.le_of_ble_eq_true rfl) dL_law_684 (fun hP H locs hw => ?_)
        refine lv_aload_n hx hb dL_law_687 rfl (lv_at hl 2 rfl) ?_
        refine lv_aload_n hx hb dL_law_688 rfl (lv_at hl 0 rfl) ?_
        refine lv_iload_n hx hb dL_law_689 rfl (lv_at hl 3 rfl) ?_
        refine lv_iconst (v := 1) hx hb dL_law_690 (by decide) ?_
        refine lv_iadd hx hb dL_law_691 ?_
        obtain ⟨hn524, h⟩ := ix_i h
        refine va_sld hx hb hX hbl hbA hw.2.2.2.1 hn524 dL_law_692 ?_
        obtain ⟨r526, hq525, h⟩ := pq_i h
        refine r_cV (st' := [.long r526, .long r523]) [.int (xs (x3 + (1 : Int32)).toNatClampNeg)] [.long r523] hC hw kc_8 hi2 (k_X9_putAt _ hi2 hq525) mk_X9_putAt lk_1446 ⟨(by decide), (by decide)⟩ (Al.leL hc ho hE) rfl hl.1 rfl rfl (Nat.le_of_ble_eq_true rfl) dL_law_693 (fun hP H locs hw => ?_)
        refine W.lcmp hx hb dL_law_696 ?_
        refine lv_if_eq (tgt := 725) hx hb dL_law_697 (by decide) (fun c527 => ?_) (fun c527 => ?_)
        · have h := i_yes c527 h
          exact w_law_725 hC hX hbl hbA ho ih (mn_law_18 n) o1 a1 o2 a2 x3 _ _ _ _ _ _ _ _ hi1 hi2 hw hc (lv_sub hl [0, 1, 2, 3] rfl) h --j528
        · have h := i_no c527 h
          refine lv_iconst (v := 0) hx hb dL_law_700 (by decide) ?_
          exact absurd (Prod.mk.inj (Option.some.inj h)).1 (by decide) --j529
      have h := i_no c520 h
      by_cases c530 : ((xs x3.toNatClampNeg) &&& (31 : Int32)) = 18
      · have h := i_yes c530 h
        refine lv_tableIn (off := 669) (tgt := 702) hx hb dL_law_33 (by rw [c530]; decide) (by rw [c530]; decide) (by rw [c530] <;> rfl) (by decide) ?_
        refine lv_aload_n hx hb dL_law_702 rfl (lv_at hl 1 rfl) ?_
        refine lv_aload_n hx hb dL_law_703 rfl (lv_at hl 0 rfl) ?_
        refine lv_iload_n hx hb dL_law_704 rfl (lv_at hl 3 rfl) ?_
        refine lv_iconst (v := 1) hx hb dL_law_705 (by decide) ?_
        refine lv_iadd hx hb dL_law_706 ?_
        obtain ⟨hn531, h⟩ := ix_i h
        refine va_sld hx hb hX hbl hbA hw.2.2.2.1 hn531 dL_law_707 ?_
        obtain ⟨r533, hq532, h⟩ := pq_i h
        refine r_cV (st' := [.int r533]) [.int (xs (x3 + (1 : Int32)).toNatClampNeg)] [] hC hw kc_7 hi1 (k_X8_keys _ hi1 hq532) mk_X8_keys lk_1056 ⟨(by decide), (by decide)⟩ (Al.leL hc ho hE) rfl hl.1 rfl rfl (Nat.le_of_ble_eq_true rfl) dL_law_708 (fun hP H locs hw => ?_)
        refine lv_aload_n hx hb dL_law_711 rfl (lv_at hl 2 rfl) ?_
        refine lv_aload_n hx hb dL_law_712 rfl (lv_at hl 0 rfl) ?_
        refine lv_iload_n hx hb dL_law_713 rfl (lv_at hl 3 rfl) ?_
        refine lv_iconst (v := 1) hx hb dL_law_714 (by decide) ?_
        refine lv_iadd hx hb dL_law_715 ?_
        obtain ⟨hn534, h⟩ := ix_i h
        refine va_sld hx hb hX hbl hbA hw.2.2.2.1 hn534 dL_law_716 ?_
        obtain ⟨r536, hq535, h⟩ := pq_i h
        refine r_cV (st' := [.int r536, .int r533]) [.int (xs (x3 + (1 : Int32)).toNatClampNeg)] [.int r533] hC hw kc_8 hi2 (k_X9_keys _ hi2 hq535) mk_X9_keys lk_1292 ⟨(by decide), (by decide)⟩ (Al.leL hc ho hE) rfl hl.1 rfl rfl (Nat.le_of_ble_eq_true rfl) dL_law_717 (fun hP H locs hw => ?_)
        refine lv_icmp_eq (tgt := 725) hx hb dL_law_720 (by decide) (fun c537 => ?_) (fun c537 => ?_)
        · have h := i_yes c537 h
          exact w_law_725 hC hX hbl hbA ho ih (mn_law_18 n) o1 a1 o2 a2 x3 _ _ _ _ _ _ _ _ hi1 hi2 hw hc (lv_sub hl [0, 1, 2, 3] rfl) h --j538
        · have h := i_no c537 h
          refine lv_iconst (v := 0) hx hb dL_law_723 (by decide) ?_
          exact absurd (Prod.mk.inj (Option.some.inj h)).1 (by decide) --j539
      have h := i_no c530 h
      refine lv_tableOut (tgt := 725) hx hb dL_law_33 (by have nc305 := lv_neT c305 (a := 0) rfl; have nc323 := lv_neT c323 (a := 1) rfl; have nc343 := lv_neT c343 (a := 2) rfl; have nc355 := lv_neT c355 (a := 3) rfl; have nc370 := lv_neT c370 (a := 4) rfl; have nc382 := lv_neT c382 (a := 5) rfl; have nc396 := lv_neT c396 (a := 6) rfl; have nc410 := lv_neT c410 (a := 7) rfl; have nc421 := lv_neT c421 (a := 8) rfl; have nc429 := lv_neT c429 (a := 9) rfl; have nc443 := lv_neT c443 (a := 10) rfl; have nc455 := lv_neT c455 (a := 11) rfl; have nc465 := lv_neT c465 (a := 12) rfl; have nc475 := lv_neT c475 (a := 13) rfl; have nc487 := lv_neT c487 (a := 14) rfl; have nc497 := lv_neT c497 (a := 15) rfl; have nc507 := lv_neT c507 (a := 16) rfl; have nc520 := lv_neT c520 (a := 17) rfl; have nc530 := lv_neT c530 (a := 18) rfl; omega) (by decide) ?_
      exact w_law_725 hC hX hbl hbA ho ih (mn_law_18 n) o1 a1 o2 a2 x3 _ _ _ _ _ _ _ _ hi1 hi2 hw hc (lv_sub hl [0, 1, 2, 3] rfl) h --j540
theorem mn_law_15 {xs : Nat → Int32} {L : Nat} {r : Int32} {S' : sh} {D' : dt} {o1 : Nat} {os0 : Nat} {S : sh} {D : dt} (h : f_law_15 xs L o1 os0 S D = some (r, S', D')) : Ext S S' := by
  unfold f_law_15 at h
  have h := nm_i h _ rfl
  exact (mn_law_18 LF _ _ _ _ _ h)
set_option maxHeartbeats 8000000 in
set_option maxRecDepth 100000 in
theorem w_law_15 {b L : Nat} {xs : Nat → Int32} {S' : sh} {D' : dt} {S0 : sh} {ad0 : Nat → Nat} (hC : Cx RL cL_law 4 ret p s m #[Value.ref b] meth c) (hX : va_X b L xs s s.heap) (hbl : b < s.heap.size) (hbA : ¬ (fun q : Nat => s.heap.size ≤ q) b) (ho : sN S' - sN S0 ≤ 600000 ∧ sZ S' - sZ S0 ≤ 7302250) : ∀ (o1 a1 : Nat) (os0 as0 : Nat) (S : sh) (D : dt) (ad : Nat → Nat) (H : Heap) (locs : List Loc) (ls : Array Slot) (cells slots : Nat), Is S ad o1 a1 7 → Is S ad os0 as0 8 → Wd G cA S D ad (fun q => s.heap.size ≤ q) s H locs → Al S0 ad0 S ad cells slots → lv_has ls 4 [(0, .ref b), (1, .ref a1)] → f_law_15 xs L o1 os0 S D = some (1, S', D') → W p l e room_1 s m #[Value.ref b] below meth c H locs cells slots (lw_Z below #[Value.ref b] s) (F0 m 15 ls [.ref as0]) := by
  obtain ⟨hx, hb, -⟩ := id hC
  intro o1 a1 os0 as0 S D ad H locs ls cells slots hi1 his0 hw hc hl h
  have hE : Ext S S' := mn_law_15  h
  unfold f_law_15 at h
  refine lv_astore_n (lv' := [(2, .ref as0), (0, .ref b), (1, .ref a1)]) hx hb dL_law_15 rfl hl (by decide) rfl (fun ls hl => ?_)
  refine lv_iconst (v := 0) hx hb dL_law_16 (by decide) ?_
  refine lv_topi (fun y541 ey541 => ?_)
  have h := nm_i h y541 ey541
  refine lv_istore_n (lv' := [(3, .int y541), (2, .ref as0), (0, .ref b), (1, .ref a1)]) hx hb dL_law_17 rfl hl (by decide) rfl (fun ls hl => ?_)
  exact w_law_18 hC hX hbl hbA ho LF o1 a1 os0 as0 y541 _ _ _ _ _ _ _ _ hi1 his0 hw hc (lv_sub hl [2, 3, 1, 0] rfl) h --j542
theorem mn_law_11 {xs : Nat → Int32} {L : Nat} {r : Int32} {S' : sh} {D' : dt} {o1 : Nat} {os0 : Nat} {S : sh} {D : dt} (h : f_law_11 xs L o1 os0 S D = some (r, S', D')) : Ext S S' := by
  unfold f_law_11 at h
  obtain ⟨_, S545, D544, hq543, h⟩ := c3_i h
  have hA := mn_X9_init_0 hq543
  exact hA.tr (mn_law_15 h)
set_option maxHeartbeats 8000000 in
set_option maxRecDepth 100000 in
theorem w_law_11 {b L : Nat} {xs : Nat → Int32} {S' : sh} {D' : dt} {S0 : sh} {ad0 : Nat → Nat} (hC : Cx RL cL_law 4 ret p s m #[Value.ref b] meth c) (hX : va_X b L xs s s.heap) (hbl : b < s.heap.size) (hbA : ¬ (fun q : Nat => s.heap.size ≤ q) b) (ho : sN S' - sN S0 ≤ 600000 ∧ sZ S' - sZ S0 ≤ 7302250) : ∀ (o1 a1 : Nat) (os0 as0 : Nat) (S : sh) (D : dt) (ad : Nat → Nat) (H : Heap) (locs : List Loc) (ls : Array Slot) (cells slots : Nat), Is S ad o1 a1 7 → Is S ad os0 as0 8 → Wd G cA S D ad (fun q => s.heap.size ≤ q) s H locs → Al S0 ad0 S ad cells slots → lv_has ls 4 [(0, .ref b), (1, .ref a1)] → f_law_11 xs L o1 os0 S D = some (1, S', D') → W p l e room_1 s m #[Value.ref b] below meth c H locs cells slots (lw_Z below #[Value.ref b] s) (F0 m 11 ls [.ref as0]) := by
  obtain ⟨hx, hb, -⟩ := id hC
  intro o1 a1 os0 as0 S D ad H locs ls cells slots hi1 his0 hw hc hl h
  have hE : Ext S S' := mn_law_11  h
  unfold f_law_11 at h
  refine lv_dup hx hb dL_law_11 rfl ?_
  obtain ⟨_, S545, D544, hq543, h⟩ := c3_i h
  have hE546 := mn_X9_init_0 hq543
  have hE547 := mn_law_15 h
  refine r_cIA [] [.ref as0] hC hw (k_X9_init _ his0 hq543) mk_X9_init lk_1067 ⟨(by decide), (by decide)⟩ (Al.roomCL hc ho hE546 hE547) rfl hl.1 rfl (Nat.le_of_ble_eq_true rfl) dL_law_12 (fun ad548 hP H locs hw => ?_)
  refine W.eq (g2 := F0 m 15 ls [.ref as0]) rfl ?_
  have hi549 := Is.up his0 hE546 hP.1
  have hi550 := Is.up hi1 hE546 hP.1
  have hc := hc.call hE546 hP.1
  exact w_law_15 hC hX hbl hbA ho o1 a1 os0 as0 _ _ _ _ _ _ _ _ hi550 hi549 hw hc (lv_sub hl [0, 1] rfl) h --j551
theorem mn_law_7 {xs : Nat → Int32} {L : Nat} {r : Int32} {S' : sh} {D' : dt} {os0 : Nat} {S : sh} {D : dt} (h : f_law_7 xs L os0 S D = some (r, S', D')) : Ext S S' := by
  unfold f_law_7 at h
  have hA := (Ext.aS S 8 0 54)
  exact hA.tr (mn_law_11 h)
set_option maxHeartbeats 8000000 in
set_option maxRecDepth 100000 in
theorem w_law_7 {b L : Nat} {xs : Nat → Int32} {S' : sh} {D' : dt} {S0 : sh} {ad0 : Nat → Nat} (hC : Cx RL cL_law 4 ret p s m #[Value.ref b] meth c) (hX : va_X b L xs s s.heap) (hbl : b < s.heap.size) (hbA : ¬ (fun q : Nat => s.heap.size ≤ q) b) (ho : sN S' - sN S0 ≤ 600000 ∧ sZ S' - sZ S0 ≤ 7302250) : ∀ (os0 as0 : Nat) (S : sh) (D : dt) (ad : Nat → Nat) (H : Heap) (locs : List Loc) (ls : Array Slot) (cells slots : Nat), Is S ad os0 as0 7 → Wd G cA S D ad (fun q => s.heap.size ≤ q) s H locs → Al S0 ad0 S ad cells slots → lv_has ls 4 [(0, .ref b)] → f_law_7 xs L os0 S D = some (1, S', D') → W p l e room_1 s m #[Value.ref b] below meth c H locs cells slots (lw_Z below #[Value.ref b] s) (F0 m 7 ls [.ref as0]) := by
  obtain ⟨hx, hb, -⟩ := id hC
  intro os0 as0 S D ad H locs ls cells slots his0 hw hc hl h
  have hE : Ext S S' := mn_law_7  h
  unfold f_law_7 at h
  refine lv_astore_n (lv' := [(1, .ref as0), (0, .ref b)]) hx hb dL_law_7 rfl hl (by decide) rfl (fun ls hl => ?_)
  have hE554 := mn_law_11 h
  refine r_new hC hw kc_8 df_8 lk_1065 lk_1066 lk_121 (Al.roomL hc ho hE554).1 (Al.roomL hc ho hE554).2 dL_law_8 (fun q552 H hw hi553 => ?_)
  have hi555 := Is.up his0 (Ext.aS S 8 0 54) (up_lt (q := q552))
  have hc := hc.new 8 0 54 q552
  exact w_law_11 hC hX hbl hbA ho os0 as0 (sN S) q552 _ _ _ _ _ _ _ _ hi555 hi553 hw hc (lv_sub hl [1, 0] rfl) h --j556
theorem mn_law_3 {xs : Nat → Int32} {L : Nat} {r : Int32} {S' : sh} {D' : dt} {os0 : Nat} {S : sh} {D : dt} (h : f_law_3 xs L os0 S D = some (r, S', D')) : Ext S S' := by
  unfold f_law_3 at h
  obtain ⟨_, S559, D558, hq557, h⟩ := c3_i h
  have hA := mn_X8_init_0 hq557
  exact hA.tr (mn_law_7 h)
set_option maxHeartbeats 8000000 in
set_option maxRecDepth 100000 in
theorem w_law_3 {b L : Nat} {xs : Nat → Int32} {S' : sh} {D' : dt} {S0 : sh} {ad0 : Nat → Nat} (hC : Cx RL cL_law 4 ret p s m #[Value.ref b] meth c) (hX : va_X b L xs s s.heap) (hbl : b < s.heap.size) (hbA : ¬ (fun q : Nat => s.heap.size ≤ q) b) (ho : sN S' - sN S0 ≤ 600000 ∧ sZ S' - sZ S0 ≤ 7302250) : ∀ (os0 as0 : Nat) (S : sh) (D : dt) (ad : Nat → Nat) (H : Heap) (locs : List Loc) (ls : Array Slot) (cells slots : Nat), Is S ad os0 as0 7 → Wd G cA S D ad (fun q => s.heap.size ≤ q) s H locs → Al S0 ad0 S ad cells slots → lv_has ls 4 [(0, .ref b)] → f_law_3 xs L os0 S D = some (1, S', D') → W p l e room_1 s m #[Value.ref b] below meth c H locs cells slots (lw_Z below #[Value.ref b] s) (F0 m 3 ls [.ref as0]) := by
  obtain ⟨hx, hb, -⟩ := id hC
  intro os0 as0 S D ad H locs ls cells slots his0 hw hc hl h
  have hE : Ext S S' := mn_law_3  h
  unfold f_law_3 at h
  refine lv_dup hx hb dL_law_3 rfl ?_
  obtain ⟨_, S559, D558, hq557, h⟩ := c3_i h
  have hE560 := mn_X8_init_0 hq557
  have hE561 := mn_law_7 h
  refine r_cIA [] [.ref as0] hC hw (k_X8_init _ his0 hq557) mk_X8_init lk_129 ⟨(by decide), (by decide)⟩ (Al.roomCL hc ho hE560 hE561) rfl hl.1 rfl (Nat.le_of_ble_eq_true rfl) dL_law_4 (fun ad562 hP H locs hw => ?_)
  refine W.eq (g2 := F0 m 7 ls [.ref as0]) rfl ?_
  have hi563 := Is.up his0 hE560 hP.1
  have hc := hc.call hE560 hP.1
  exact w_law_7 hC hX hbl hbA ho os0 as0 _ _ _ _ _ _ _ _ hi563 hw hc (lv_sub hl [0] rfl) h --j564
theorem mn_law_0 {xs : Nat → Int32} {L : Nat} {r : Int32} {S' : sh} {D' : dt} {S : sh} {D : dt} (h : f_law xs L S D = some (r, S', D')) : Ext S S' := by
  unfold f_law at h
  have hA := (Ext.aS S 7 0 4)
  exact hA.tr (mn_law_3 h)
set_option maxHeartbeats 8000000 in
set_option maxRecDepth 100000 in
theorem w_law_0 {b L : Nat} {xs : Nat → Int32} {S' : sh} {D' : dt} {S0 : sh} {ad0 : Nat → Nat} (hC : Cx RL cL_law 4 ret p s m #[Value.ref b] meth c) (hX : va_X b L xs s s.heap) (hbl : b < s.heap.size) (hbA : ¬ (fun q : Nat => s.heap.size ≤ q) b) (ho : sN S' - sN S0 ≤ 600000 ∧ sZ S' - sZ S0 ≤ 7302250) : ∀  (S : sh) (D : dt) (ad : Nat → Nat) (H : Heap) (locs : List Loc) (ls : Array Slot) (cells slots : Nat), Wd G cA S D ad (fun q => s.heap.size ≤ q) s H locs → Al S0 ad0 S ad cells slots → lv_has ls 4 [(0, .ref b)] → f_law xs L S D = some (1, S', D') → W p l e room_1 s m #[Value.ref b] below meth c H locs cells slots (lw_Z below #[Value.ref b] s) (F0 m 0 ls []) := by
  obtain ⟨hx, hb, -⟩ := id hC
  intro S D ad H locs ls cells slots  hw hc hl h
  have hE : Ext S S' := mn_law_0  h
  unfold f_law at h
  have hE567 := mn_law_3 h
  refine r_new hC hw kc_7 df_7 lk_127 lk_128 lk_114 (Al.roomL hc ho hE567).1 (Al.roomL hc ho hE567).2 dL_law_0 (fun q565 H hw hi566 => ?_)
  have hc := hc.new 7 0 4 q565
  exact w_law_3 hC hX hbl hbA ho (sN S) q565 _ _ _ _ _ _ _ _ hi566 hw hc (lv_sub hl [0] rfl) h --j568
end
