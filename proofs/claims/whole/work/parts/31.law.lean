theorem dL_law_0 : decode cL_law 0 = .ok (.new 7, 3) := by decide +kernel
theorem dL_law_3 : decode cL_law 3 = .ok (.dup, 1) := by decide +kernel
theorem dL_law_4 : decode cL_law 4 = .ok (.invokespecial 9, 3) := by decide +kernel
theorem dL_law_7 : decode cL_law 7 = .ok (.astore_n 1, 1) := by decide +kernel
theorem dL_law_8 : decode cL_law 8 = .ok (.new 10, 3) := by decide +kernel
theorem dL_law_11 : decode cL_law 11 = .ok (.dup, 1) := by decide +kernel
theorem dL_law_12 : decode cL_law 12 = .ok (.invokespecial 12, 3) := by decide +kernel
theorem dL_law_15 : decode cL_law 15 = .ok (.astore_n 2, 1) := by decide +kernel
theorem dL_law_16 : decode cL_law 16 = .ok (.iconst 0, 1) := by decide +kernel
theorem dL_law_17 : decode cL_law 17 = .ok (.istore_n 3, 1) := by decide +kernel
theorem dL_law_18 : decode cL_law 18 = .ok (.iload_n 3, 1) := by decide +kernel
theorem dL_law_19 : decode cL_law 19 = .ok (.aload_n 0, 1) := by decide +kernel
theorem dL_law_20 : decode cL_law 20 = .ok (.arraylength, 1) := by decide +kernel
theorem dL_law_21 : decode cL_law 21 = .ok (.bipush 6, 2) := by decide +kernel
theorem dL_law_23 : decode cL_law 23 = .ok (.isub, 1) := by decide +kernel
theorem dL_law_24 : decode cL_law 24 = .ok (.if_icmp .gt 707, 3) := by decide +kernel
theorem dL_law_27 : decode cL_law 27 = .ok (.aload_n 0, 1) := by decide +kernel
theorem dL_law_28 : decode cL_law 28 = .ok (.iload_n 3, 1) := by decide +kernel
theorem dL_law_29 : decode cL_law 29 = .ok (.iaload, 1) := by decide +kernel
theorem dL_law_30 : decode cL_law 30 = .ok (.bipush 31, 2) := by decide +kernel
theorem dL_law_32 : decode cL_law 32 = .ok (.iand, 1) := by decide +kernel
theorem dL_law_33 : decode cL_law 33 = .ok (.tableswitch 692 0 18 #[91, 144, 207, 230, 283, 306, 339, 393, 406, 419, 463, 496, 509, 522, 545, 568, 592, 645, 669], 91) := by decide +kernel
theorem dL_law_124 : decode cL_law 124 = .ok (.aload_n 1, 1) := by decide +kernel
theorem dL_law_125 : decode cL_law 125 = .ok (.aload_n 0, 1) := by decide +kernel
theorem dL_law_126 : decode cL_law 126 = .ok (.iload_n 3, 1) := by decide +kernel
theorem dL_law_127 : decode cL_law 127 = .ok (.iconst 1, 1) := by decide +kernel
theorem dL_law_128 : decode cL_law 128 = .ok (.iadd, 1) := by decide +kernel
theorem dL_law_129 : decode cL_law 129 = .ok (.iaload, 1) := by decide +kernel
theorem dL_law_130 : decode cL_law 130 = .ok (.aload_n 0, 1) := by decide +kernel
theorem dL_law_131 : decode cL_law 131 = .ok (.iload_n 3, 1) := by decide +kernel
theorem dL_law_132 : decode cL_law 132 = .ok (.iconst 2, 1) := by decide +kernel
theorem dL_law_133 : decode cL_law 133 = .ok (.iadd, 1) := by decide +kernel
theorem dL_law_134 : decode cL_law 134 = .ok (.iaload, 1) := by decide +kernel
theorem dL_law_135 : decode cL_law 135 = .ok (.aload_n 0, 1) := by decide +kernel
theorem dL_law_136 : decode cL_law 136 = .ok (.iload_n 3, 1) := by decide +kernel
theorem dL_law_137 : decode cL_law 137 = .ok (.iconst 3, 1) := by decide +kernel
theorem dL_law_138 : decode cL_law 138 = .ok (.iadd, 1) := by decide +kernel
theorem dL_law_139 : decode cL_law 139 = .ok (.iaload, 1) := by decide +kernel
theorem dL_law_140 : decode cL_law 140 = .ok (.aload_n 0, 1) := by decide +kernel
theorem dL_law_141 : decode cL_law 141 = .ok (.iload_n 3, 1) := by decide +kernel
theorem dL_law_142 : decode cL_law 142 = .ok (.iconst 4, 1) := by decide +kernel
theorem dL_law_143 : decode cL_law 143 = .ok (.iadd, 1) := by decide +kernel
theorem dL_law_144 : decode cL_law 144 = .ok (.iaload, 1) := by decide +kernel
theorem dL_law_145 : decode cL_law 145 = .ok (.invokevirtual 13, 3) := by decide +kernel
theorem dL_law_148 : decode cL_law 148 = .ok (.aload_n 2, 1) := by decide +kernel
theorem dL_law_149 : decode cL_law 149 = .ok (.aload_n 0, 1) := by decide +kernel
theorem dL_law_150 : decode cL_law 150 = .ok (.iload_n 3, 1) := by decide +kernel
theorem dL_law_151 : decode cL_law 151 = .ok (.iconst 1, 1) := by decide +kernel
theorem dL_law_152 : decode cL_law 152 = .ok (.iadd, 1) := by decide +kernel
theorem dL_law_153 : decode cL_law 153 = .ok (.iaload, 1) := by decide +kernel
theorem dL_law_154 : decode cL_law 154 = .ok (.aload_n 0, 1) := by decide +kernel
theorem dL_law_155 : decode cL_law 155 = .ok (.iload_n 3, 1) := by decide +kernel
theorem dL_law_156 : decode cL_law 156 = .ok (.iconst 2, 1) := by decide +kernel
theorem dL_law_157 : decode cL_law 157 = .ok (.iadd, 1) := by decide +kernel
theorem dL_law_158 : decode cL_law 158 = .ok (.iaload, 1) := by decide +kernel
theorem dL_law_159 : decode cL_law 159 = .ok (.aload_n 0, 1) := by decide +kernel
theorem dL_law_160 : decode cL_law 160 = .ok (.iload_n 3, 1) := by decide +kernel
theorem dL_law_161 : decode cL_law 161 = .ok (.iconst 3, 1) := by decide +kernel
theorem dL_law_162 : decode cL_law 162 = .ok (.iadd, 1) := by decide +kernel
theorem dL_law_163 : decode cL_law 163 = .ok (.iaload, 1) := by decide +kernel
theorem dL_law_164 : decode cL_law 164 = .ok (.aload_n 0, 1) := by decide +kernel
theorem dL_law_165 : decode cL_law 165 = .ok (.iload_n 3, 1) := by decide +kernel
theorem dL_law_166 : decode cL_law 166 = .ok (.iconst 4, 1) := by decide +kernel
theorem dL_law_167 : decode cL_law 167 = .ok (.iadd, 1) := by decide +kernel
theorem dL_law_168 : decode cL_law 168 = .ok (.iaload, 1) := by decide +kernel
theorem dL_law_169 : decode cL_law 169 = .ok (.invokevirtual 17, 3) := by decide +kernel
theorem dL_law_172 : decode cL_law 172 = .ok (.if_icmp .eq 553, 3) := by decide +kernel
theorem dL_law_175 : decode cL_law 175 = .ok (.iconst 0, 1) := by decide +kernel
theorem dL_law_176 : decode cL_law 176 = .ok (.ireturn, 1) := by decide +kernel
theorem dL_law_177 : decode cL_law 177 = .ok (.aload_n 1, 1) := by decide +kernel
theorem dL_law_178 : decode cL_law 178 = .ok (.aload_n 0, 1) := by decide +kernel
theorem dL_law_179 : decode cL_law 179 = .ok (.iload_n 3, 1) := by decide +kernel
theorem dL_law_180 : decode cL_law 180 = .ok (.iconst 1, 1) := by decide +kernel
theorem dL_law_181 : decode cL_law 181 = .ok (.iadd, 1) := by decide +kernel
theorem dL_law_182 : decode cL_law 182 = .ok (.iaload, 1) := by decide +kernel
theorem dL_law_183 : decode cL_law 183 = .ok (.aload_n 0, 1) := by decide +kernel
theorem dL_law_184 : decode cL_law 184 = .ok (.iload_n 3, 1) := by decide +kernel
theorem dL_law_185 : decode cL_law 185 = .ok (.iconst 2, 1) := by decide +kernel
theorem dL_law_186 : decode cL_law 186 = .ok (.iadd, 1) := by decide +kernel
theorem dL_law_187 : decode cL_law 187 = .ok (.iaload, 1) := by decide +kernel
theorem dL_law_188 : decode cL_law 188 = .ok (.aload_n 0, 1) := by decide +kernel
theorem dL_law_189 : decode cL_law 189 = .ok (.iload_n 3, 1) := by decide +kernel
theorem dL_law_190 : decode cL_law 190 = .ok (.iconst 3, 1) := by decide +kernel
theorem dL_law_191 : decode cL_law 191 = .ok (.iadd, 1) := by decide +kernel
theorem dL_law_192 : decode cL_law 192 = .ok (.iaload, 1) := by decide +kernel
theorem dL_law_193 : decode cL_law 193 = .ok (.aload_n 0, 1) := by decide +kernel
theorem dL_law_194 : decode cL_law 194 = .ok (.iload_n 3, 1) := by decide +kernel
theorem dL_law_195 : decode cL_law 195 = .ok (.iconst 4, 1) := by decide +kernel
theorem dL_law_196 : decode cL_law 196 = .ok (.iadd, 1) := by decide +kernel
theorem dL_law_197 : decode cL_law 197 = .ok (.iaload, 1) := by decide +kernel
theorem dL_law_198 : decode cL_law 198 = .ok (.aload_n 0, 1) := by decide +kernel
theorem dL_law_199 : decode cL_law 199 = .ok (.iload_n 3, 1) := by decide +kernel
theorem dL_law_200 : decode cL_law 200 = .ok (.iconst 5, 1) := by decide +kernel
theorem dL_law_201 : decode cL_law 201 = .ok (.iadd, 1) := by decide +kernel
theorem dL_law_202 : decode cL_law 202 = .ok (.iaload, 1) := by decide +kernel
theorem dL_law_203 : decode cL_law 203 = .ok (.invokevirtual 18, 3) := by decide +kernel
theorem dL_law_206 : decode cL_law 206 = .ok (.aload_n 2, 1) := by decide +kernel
theorem dL_law_207 : decode cL_law 207 = .ok (.aload_n 0, 1) := by decide +kernel
theorem dL_law_208 : decode cL_law 208 = .ok (.iload_n 3, 1) := by decide +kernel
theorem dL_law_209 : decode cL_law 209 = .ok (.iconst 1, 1) := by decide +kernel
theorem dL_law_210 : decode cL_law 210 = .ok (.iadd, 1) := by decide +kernel
theorem dL_law_211 : decode cL_law 211 = .ok (.iaload, 1) := by decide +kernel
theorem dL_law_212 : decode cL_law 212 = .ok (.aload_n 0, 1) := by decide +kernel
theorem dL_law_213 : decode cL_law 213 = .ok (.iload_n 3, 1) := by decide +kernel
theorem dL_law_214 : decode cL_law 214 = .ok (.iconst 2, 1) := by decide +kernel
theorem dL_law_215 : decode cL_law 215 = .ok (.iadd, 1) := by decide +kernel
theorem dL_law_216 : decode cL_law 216 = .ok (.iaload, 1) := by decide +kernel
theorem dL_law_217 : decode cL_law 217 = .ok (.aload_n 0, 1) := by decide +kernel
theorem dL_law_218 : decode cL_law 218 = .ok (.iload_n 3, 1) := by decide +kernel
theorem dL_law_219 : decode cL_law 219 = .ok (.iconst 3, 1) := by decide +kernel
theorem dL_law_220 : decode cL_law 220 = .ok (.iadd, 1) := by decide +kernel
theorem dL_law_221 : decode cL_law 221 = .ok (.iaload, 1) := by decide +kernel
theorem dL_law_222 : decode cL_law 222 = .ok (.aload_n 0, 1) := by decide +kernel
theorem dL_law_223 : decode cL_law 223 = .ok (.iload_n 3, 1) := by decide +kernel
theorem dL_law_224 : decode cL_law 224 = .ok (.iconst 4, 1) := by decide +kernel
theorem dL_law_225 : decode cL_law 225 = .ok (.iadd, 1) := by decide +kernel
theorem dL_law_226 : decode cL_law 226 = .ok (.iaload, 1) := by decide +kernel
theorem dL_law_227 : decode cL_law 227 = .ok (.aload_n 0, 1) := by decide +kernel
theorem dL_law_228 : decode cL_law 228 = .ok (.iload_n 3, 1) := by decide +kernel
theorem dL_law_229 : decode cL_law 229 = .ok (.iconst 5, 1) := by decide +kernel
theorem dL_law_230 : decode cL_law 230 = .ok (.iadd, 1) := by decide +kernel
theorem dL_law_231 : decode cL_law 231 = .ok (.iaload, 1) := by decide +kernel
theorem dL_law_232 : decode cL_law 232 = .ok (.invokevirtual 22, 3) := by decide +kernel
theorem dL_law_235 : decode cL_law 235 = .ok (.if_icmp .eq 490, 3) := by decide +kernel
theorem dL_law_238 : decode cL_law 238 = .ok (.iconst 0, 1) := by decide +kernel
theorem dL_law_239 : decode cL_law 239 = .ok (.ireturn, 1) := by decide +kernel
theorem dL_law_240 : decode cL_law 240 = .ok (.aload_n 1, 1) := by decide +kernel
theorem dL_law_241 : decode cL_law 241 = .ok (.aload_n 0, 1) := by decide +kernel
theorem dL_law_242 : decode cL_law 242 = .ok (.iload_n 3, 1) := by decide +kernel
theorem dL_law_243 : decode cL_law 243 = .ok (.iconst 1, 1) := by decide +kernel
theorem dL_law_244 : decode cL_law 244 = .ok (.iadd, 1) := by decide +kernel
theorem dL_law_245 : decode cL_law 245 = .ok (.iaload, 1) := by decide +kernel
theorem dL_law_246 : decode cL_law 246 = .ok (.invokevirtual 23, 3) := by decide +kernel
theorem dL_law_249 : decode cL_law 249 = .ok (.aload_n 2, 1) := by decide +kernel
theorem dL_law_250 : decode cL_law 250 = .ok (.aload_n 0, 1) := by decide +kernel
theorem dL_law_251 : decode cL_law 251 = .ok (.iload_n 3, 1) := by decide +kernel
theorem dL_law_252 : decode cL_law 252 = .ok (.iconst 1, 1) := by decide +kernel
theorem dL_law_253 : decode cL_law 253 = .ok (.iadd, 1) := by decide +kernel
theorem dL_law_254 : decode cL_law 254 = .ok (.iaload, 1) := by decide +kernel
theorem dL_law_255 : decode cL_law 255 = .ok (.invokevirtual 27, 3) := by decide +kernel
theorem dL_law_258 : decode cL_law 258 = .ok (.if_icmp .eq 467, 3) := by decide +kernel
theorem dL_law_261 : decode cL_law 261 = .ok (.iconst 0, 1) := by decide +kernel
theorem dL_law_262 : decode cL_law 262 = .ok (.ireturn, 1) := by decide +kernel
theorem dL_law_263 : decode cL_law 263 = .ok (.aload_n 1, 1) := by decide +kernel
theorem dL_law_264 : decode cL_law 264 = .ok (.aload_n 0, 1) := by decide +kernel
theorem dL_law_265 : decode cL_law 265 = .ok (.iload_n 3, 1) := by decide +kernel
theorem dL_law_266 : decode cL_law 266 = .ok (.iconst 1, 1) := by decide +kernel
theorem dL_law_267 : decode cL_law 267 = .ok (.iadd, 1) := by decide +kernel
theorem dL_law_268 : decode cL_law 268 = .ok (.iaload, 1) := by decide +kernel
theorem dL_law_269 : decode cL_law 269 = .ok (.aload_n 0, 1) := by decide +kernel
theorem dL_law_270 : decode cL_law 270 = .ok (.iload_n 3, 1) := by decide +kernel
theorem dL_law_271 : decode cL_law 271 = .ok (.iconst 2, 1) := by decide +kernel
theorem dL_law_272 : decode cL_law 272 = .ok (.iadd, 1) := by decide +kernel
theorem dL_law_273 : decode cL_law 273 = .ok (.iaload, 1) := by decide +kernel
theorem dL_law_274 : decode cL_law 274 = .ok (.aload_n 0, 1) := by decide +kernel
theorem dL_law_275 : decode cL_law 275 = .ok (.iload_n 3, 1) := by decide +kernel
theorem dL_law_276 : decode cL_law 276 = .ok (.iconst 3, 1) := by decide +kernel
theorem dL_law_277 : decode cL_law 277 = .ok (.iadd, 1) := by decide +kernel
theorem dL_law_278 : decode cL_law 278 = .ok (.iaload, 1) := by decide +kernel
theorem dL_law_279 : decode cL_law 279 = .ok (.aload_n 0, 1) := by decide +kernel
theorem dL_law_280 : decode cL_law 280 = .ok (.iload_n 3, 1) := by decide +kernel
theorem dL_law_281 : decode cL_law 281 = .ok (.iconst 4, 1) := by decide +kernel
theorem dL_law_282 : decode cL_law 282 = .ok (.iadd, 1) := by decide +kernel
theorem dL_law_283 : decode cL_law 283 = .ok (.iaload, 1) := by decide +kernel
theorem dL_law_284 : decode cL_law 284 = .ok (.invokevirtual 28, 3) := by decide +kernel
theorem dL_law_287 : decode cL_law 287 = .ok (.aload_n 2, 1) := by decide +kernel
theorem dL_law_288 : decode cL_law 288 = .ok (.aload_n 0, 1) := by decide +kernel
theorem dL_law_289 : decode cL_law 289 = .ok (.iload_n 3, 1) := by decide +kernel
theorem dL_law_290 : decode cL_law 290 = .ok (.iconst 1, 1) := by decide +kernel
theorem dL_law_291 : decode cL_law 291 = .ok (.iadd, 1) := by decide +kernel
theorem dL_law_292 : decode cL_law 292 = .ok (.iaload, 1) := by decide +kernel
theorem dL_law_293 : decode cL_law 293 = .ok (.aload_n 0, 1) := by decide +kernel
theorem dL_law_294 : decode cL_law 294 = .ok (.iload_n 3, 1) := by decide +kernel
theorem dL_law_295 : decode cL_law 295 = .ok (.iconst 2, 1) := by decide +kernel
theorem dL_law_296 : decode cL_law 296 = .ok (.iadd, 1) := by decide +kernel
theorem dL_law_297 : decode cL_law 297 = .ok (.iaload, 1) := by decide +kernel
theorem dL_law_298 : decode cL_law 298 = .ok (.aload_n 0, 1) := by decide +kernel
theorem dL_law_299 : decode cL_law 299 = .ok (.iload_n 3, 1) := by decide +kernel
theorem dL_law_300 : decode cL_law 300 = .ok (.iconst 3, 1) := by decide +kernel
theorem dL_law_301 : decode cL_law 301 = .ok (.iadd, 1) := by decide +kernel
theorem dL_law_302 : decode cL_law 302 = .ok (.iaload, 1) := by decide +kernel
theorem dL_law_303 : decode cL_law 303 = .ok (.aload_n 0, 1) := by decide +kernel
theorem dL_law_304 : decode cL_law 304 = .ok (.iload_n 3, 1) := by decide +kernel
theorem dL_law_305 : decode cL_law 305 = .ok (.iconst 4, 1) := by decide +kernel
theorem dL_law_306 : decode cL_law 306 = .ok (.iadd, 1) := by decide +kernel
theorem dL_law_307 : decode cL_law 307 = .ok (.iaload, 1) := by decide +kernel
theorem dL_law_308 : decode cL_law 308 = .ok (.invokevirtual 31, 3) := by decide +kernel
theorem dL_law_311 : decode cL_law 311 = .ok (.if_icmp .eq 414, 3) := by decide +kernel
theorem dL_law_314 : decode cL_law 314 = .ok (.iconst 0, 1) := by decide +kernel
theorem dL_law_315 : decode cL_law 315 = .ok (.ireturn, 1) := by decide +kernel
theorem dL_law_316 : decode cL_law 316 = .ok (.aload_n 1, 1) := by decide +kernel
theorem dL_law_317 : decode cL_law 317 = .ok (.aload_n 0, 1) := by decide +kernel
theorem dL_law_318 : decode cL_law 318 = .ok (.iload_n 3, 1) := by decide +kernel
theorem dL_law_319 : decode cL_law 319 = .ok (.iconst 1, 1) := by decide +kernel
theorem dL_law_320 : decode cL_law 320 = .ok (.iadd, 1) := by decide +kernel
theorem dL_law_321 : decode cL_law 321 = .ok (.iaload, 1) := by decide +kernel
theorem dL_law_322 : decode cL_law 322 = .ok (.invokevirtual 32, 3) := by decide +kernel
theorem dL_law_325 : decode cL_law 325 = .ok (.aload_n 2, 1) := by decide +kernel
theorem dL_law_326 : decode cL_law 326 = .ok (.aload_n 0, 1) := by decide +kernel
theorem dL_law_327 : decode cL_law 327 = .ok (.iload_n 3, 1) := by decide +kernel
theorem dL_law_328 : decode cL_law 328 = .ok (.iconst 1, 1) := by decide +kernel
theorem dL_law_329 : decode cL_law 329 = .ok (.iadd, 1) := by decide +kernel
theorem dL_law_330 : decode cL_law 330 = .ok (.iaload, 1) := by decide +kernel
theorem dL_law_331 : decode cL_law 331 = .ok (.invokevirtual 35, 3) := by decide +kernel
theorem dL_law_334 : decode cL_law 334 = .ok (.if_icmp .eq 391, 3) := by decide +kernel
theorem dL_law_337 : decode cL_law 337 = .ok (.iconst 0, 1) := by decide +kernel
theorem dL_law_338 : decode cL_law 338 = .ok (.ireturn, 1) := by decide +kernel
theorem dL_law_339 : decode cL_law 339 = .ok (.aload_n 1, 1) := by decide +kernel
theorem dL_law_340 : decode cL_law 340 = .ok (.aload_n 0, 1) := by decide +kernel
theorem dL_law_341 : decode cL_law 341 = .ok (.iload_n 3, 1) := by decide +kernel
theorem dL_law_342 : decode cL_law 342 = .ok (.iconst 1, 1) := by decide +kernel
theorem dL_law_343 : decode cL_law 343 = .ok (.iadd, 1) := by decide +kernel
theorem dL_law_344 : decode cL_law 344 = .ok (.iaload, 1) := by decide +kernel
theorem dL_law_345 : decode cL_law 345 = .ok (.aload_n 0, 1) := by decide +kernel
theorem dL_law_346 : decode cL_law 346 = .ok (.iload_n 3, 1) := by decide +kernel
theorem dL_law_347 : decode cL_law 347 = .ok (.iconst 2, 1) := by decide +kernel
theorem dL_law_348 : decode cL_law 348 = .ok (.iadd, 1) := by decide +kernel
theorem dL_law_349 : decode cL_law 349 = .ok (.iaload, 1) := by decide +kernel
theorem dL_law_350 : decode cL_law 350 = .ok (.invokevirtual 36, 3) := by decide +kernel
theorem dL_law_353 : decode cL_law 353 = .ok (.aload_n 2, 1) := by decide +kernel
theorem dL_law_354 : decode cL_law 354 = .ok (.aload_n 0, 1) := by decide +kernel
theorem dL_law_355 : decode cL_law 355 = .ok (.iload_n 3, 1) := by decide +kernel
theorem dL_law_356 : decode cL_law 356 = .ok (.iconst 1, 1) := by decide +kernel
theorem dL_law_357 : decode cL_law 357 = .ok (.iadd, 1) := by decide +kernel
theorem dL_law_358 : decode cL_law 358 = .ok (.iaload, 1) := by decide +kernel
theorem dL_law_359 : decode cL_law 359 = .ok (.aload_n 0, 1) := by decide +kernel
theorem dL_law_360 : decode cL_law 360 = .ok (.iload_n 3, 1) := by decide +kernel
theorem dL_law_361 : decode cL_law 361 = .ok (.iconst 2, 1) := by decide +kernel
theorem dL_law_362 : decode cL_law 362 = .ok (.iadd, 1) := by decide +kernel
theorem dL_law_363 : decode cL_law 363 = .ok (.iaload, 1) := by decide +kernel
theorem dL_law_364 : decode cL_law 364 = .ok (.invokevirtual 40, 3) := by decide +kernel
theorem dL_law_367 : decode cL_law 367 = .ok (.if_icmp .eq 358, 3) := by decide +kernel
theorem dL_law_370 : decode cL_law 370 = .ok (.iconst 0, 1) := by decide +kernel
theorem dL_law_371 : decode cL_law 371 = .ok (.ireturn, 1) := by decide +kernel
theorem dL_law_372 : decode cL_law 372 = .ok (.aload_n 1, 1) := by decide +kernel
theorem dL_law_373 : decode cL_law 373 = .ok (.aload_n 0, 1) := by decide +kernel
theorem dL_law_374 : decode cL_law 374 = .ok (.iload_n 3, 1) := by decide +kernel
theorem dL_law_375 : decode cL_law 375 = .ok (.iconst 1, 1) := by decide +kernel
theorem dL_law_376 : decode cL_law 376 = .ok (.iadd, 1) := by decide +kernel
theorem dL_law_377 : decode cL_law 377 = .ok (.iaload, 1) := by decide +kernel
theorem dL_law_378 : decode cL_law 378 = .ok (.i2l, 1) := by decide +kernel
theorem dL_law_379 : decode cL_law 379 = .ok (.bipush 32, 2) := by decide +kernel
theorem dL_law_381 : decode cL_law 381 = .ok (.lshl, 1) := by decide +kernel
theorem dL_law_382 : decode cL_law 382 = .ok (.aload_n 0, 1) := by decide +kernel
theorem dL_law_383 : decode cL_law 383 = .ok (.iload_n 3, 1) := by decide +kernel
theorem dL_law_384 : decode cL_law 384 = .ok (.iconst 2, 1) := by decide +kernel
theorem dL_law_385 : decode cL_law 385 = .ok (.iadd, 1) := by decide +kernel
theorem dL_law_386 : decode cL_law 386 = .ok (.iaload, 1) := by decide +kernel
theorem dL_law_387 : decode cL_law 387 = .ok (.i2l, 1) := by decide +kernel
theorem dL_law_388 : decode cL_law 388 = .ok (.ldc2_w 41, 3) := by decide +kernel
theorem dL_law_391 : decode cL_law 391 = .ok (.land, 1) := by decide +kernel
theorem dL_law_392 : decode cL_law 392 = .ok (.lor, 1) := by decide +kernel
theorem dL_law_393 : decode cL_law 393 = .ok (.invokevirtual 43, 3) := by decide +kernel
theorem dL_law_396 : decode cL_law 396 = .ok (.aload_n 2, 1) := by decide +kernel
theorem dL_law_397 : decode cL_law 397 = .ok (.aload_n 0, 1) := by decide +kernel
theorem dL_law_398 : decode cL_law 398 = .ok (.iload_n 3, 1) := by decide +kernel
theorem dL_law_399 : decode cL_law 399 = .ok (.iconst 1, 1) := by decide +kernel
theorem dL_law_400 : decode cL_law 400 = .ok (.iadd, 1) := by decide +kernel
theorem dL_law_401 : decode cL_law 401 = .ok (.iaload, 1) := by decide +kernel
theorem dL_law_402 : decode cL_law 402 = .ok (.i2l, 1) := by decide +kernel
theorem dL_law_403 : decode cL_law 403 = .ok (.bipush 32, 2) := by decide +kernel
theorem dL_law_405 : decode cL_law 405 = .ok (.lshl, 1) := by decide +kernel
theorem dL_law_406 : decode cL_law 406 = .ok (.aload_n 0, 1) := by decide +kernel
theorem dL_law_407 : decode cL_law 407 = .ok (.iload_n 3, 1) := by decide +kernel
theorem dL_law_408 : decode cL_law 408 = .ok (.iconst 2, 1) := by decide +kernel
theorem dL_law_409 : decode cL_law 409 = .ok (.iadd, 1) := by decide +kernel
theorem dL_law_410 : decode cL_law 410 = .ok (.iaload, 1) := by decide +kernel
theorem dL_law_411 : decode cL_law 411 = .ok (.i2l, 1) := by decide +kernel
theorem dL_law_412 : decode cL_law 412 = .ok (.ldc2_w 41, 3) := by decide +kernel
theorem dL_law_415 : decode cL_law 415 = .ok (.land, 1) := by decide +kernel
theorem dL_law_416 : decode cL_law 416 = .ok (.lor, 1) := by decide +kernel
theorem dL_law_417 : decode cL_law 417 = .ok (.invokevirtual 47, 3) := by decide +kernel
theorem dL_law_420 : decode cL_law 420 = .ok (.lcmp, 1) := by decide +kernel
theorem dL_law_421 : decode cL_law 421 = .ok (.ifCond .eq 304, 3) := by decide +kernel
theorem dL_law_424 : decode cL_law 424 = .ok (.iconst 0, 1) := by decide +kernel
theorem dL_law_425 : decode cL_law 425 = .ok (.ireturn, 1) := by decide +kernel
theorem dL_law_426 : decode cL_law 426 = .ok (.aload_n 1, 1) := by decide +kernel
theorem dL_law_427 : decode cL_law 427 = .ok (.invokevirtual 48, 3) := by decide +kernel
theorem dL_law_430 : decode cL_law 430 = .ok (.aload_n 2, 1) := by decide +kernel
theorem dL_law_431 : decode cL_law 431 = .ok (.invokevirtual 52, 3) := by decide +kernel
theorem dL_law_434 : decode cL_law 434 = .ok (.if_icmp .eq 291, 3) := by decide +kernel
theorem dL_law_437 : decode cL_law 437 = .ok (.iconst 0, 1) := by decide +kernel
theorem dL_law_438 : decode cL_law 438 = .ok (.ireturn, 1) := by decide +kernel
theorem dL_law_439 : decode cL_law 439 = .ok (.aload_n 1, 1) := by decide +kernel
theorem dL_law_440 : decode cL_law 440 = .ok (.invokevirtual 53, 3) := by decide +kernel
theorem dL_law_443 : decode cL_law 443 = .ok (.aload_n 2, 1) := by decide +kernel
theorem dL_law_444 : decode cL_law 444 = .ok (.invokevirtual 56, 3) := by decide +kernel
theorem dL_law_447 : decode cL_law 447 = .ok (.if_icmp .eq 278, 3) := by decide +kernel
theorem dL_law_450 : decode cL_law 450 = .ok (.iconst 0, 1) := by decide +kernel
theorem dL_law_451 : decode cL_law 451 = .ok (.ireturn, 1) := by decide +kernel
theorem dL_law_452 : decode cL_law 452 = .ok (.aload_n 1, 1) := by decide +kernel
theorem dL_law_453 : decode cL_law 453 = .ok (.aload_n 0, 1) := by decide +kernel
theorem dL_law_454 : decode cL_law 454 = .ok (.iload_n 3, 1) := by decide +kernel
theorem dL_law_455 : decode cL_law 455 = .ok (.iconst 1, 1) := by decide +kernel
theorem dL_law_456 : decode cL_law 456 = .ok (.iadd, 1) := by decide +kernel
theorem dL_law_457 : decode cL_law 457 = .ok (.iaload, 1) := by decide +kernel
theorem dL_law_458 : decode cL_law 458 = .ok (.aload_n 0, 1) := by decide +kernel
theorem dL_law_459 : decode cL_law 459 = .ok (.iload_n 3, 1) := by decide +kernel
theorem dL_law_460 : decode cL_law 460 = .ok (.iconst 2, 1) := by decide +kernel
theorem dL_law_461 : decode cL_law 461 = .ok (.iadd, 1) := by decide +kernel
theorem dL_law_462 : decode cL_law 462 = .ok (.iaload, 1) := by decide +kernel
theorem dL_law_463 : decode cL_law 463 = .ok (.aload_n 0, 1) := by decide +kernel
theorem dL_law_464 : decode cL_law 464 = .ok (.iload_n 3, 1) := by decide +kernel
theorem dL_law_465 : decode cL_law 465 = .ok (.iconst 3, 1) := by decide +kernel
theorem dL_law_466 : decode cL_law 466 = .ok (.iadd, 1) := by decide +kernel
theorem dL_law_467 : decode cL_law 467 = .ok (.iaload, 1) := by decide +kernel
theorem dL_law_468 : decode cL_law 468 = .ok (.invokevirtual 57, 3) := by decide +kernel
theorem dL_law_471 : decode cL_law 471 = .ok (.aload_n 2, 1) := by decide +kernel
theorem dL_law_472 : decode cL_law 472 = .ok (.aload_n 0, 1) := by decide +kernel
theorem dL_law_473 : decode cL_law 473 = .ok (.iload_n 3, 1) := by decide +kernel
theorem dL_law_474 : decode cL_law 474 = .ok (.iconst 1, 1) := by decide +kernel
theorem dL_law_475 : decode cL_law 475 = .ok (.iadd, 1) := by decide +kernel
theorem dL_law_476 : decode cL_law 476 = .ok (.iaload, 1) := by decide +kernel
theorem dL_law_477 : decode cL_law 477 = .ok (.aload_n 0, 1) := by decide +kernel
theorem dL_law_478 : decode cL_law 478 = .ok (.iload_n 3, 1) := by decide +kernel
theorem dL_law_479 : decode cL_law 479 = .ok (.iconst 2, 1) := by decide +kernel
theorem dL_law_480 : decode cL_law 480 = .ok (.iadd, 1) := by decide +kernel
theorem dL_law_481 : decode cL_law 481 = .ok (.iaload, 1) := by decide +kernel
theorem dL_law_482 : decode cL_law 482 = .ok (.aload_n 0, 1) := by decide +kernel
theorem dL_law_483 : decode cL_law 483 = .ok (.iload_n 3, 1) := by decide +kernel
theorem dL_law_484 : decode cL_law 484 = .ok (.iconst 3, 1) := by decide +kernel
theorem dL_law_485 : decode cL_law 485 = .ok (.iadd, 1) := by decide +kernel
theorem dL_law_486 : decode cL_law 486 = .ok (.iaload, 1) := by decide +kernel
theorem dL_law_487 : decode cL_law 487 = .ok (.invokevirtual 61, 3) := by decide +kernel
theorem dL_law_490 : decode cL_law 490 = .ok (.lcmp, 1) := by decide +kernel
theorem dL_law_491 : decode cL_law 491 = .ok (.ifCond .eq 234, 3) := by decide +kernel
theorem dL_law_494 : decode cL_law 494 = .ok (.iconst 0, 1) := by decide +kernel
theorem dL_law_495 : decode cL_law 495 = .ok (.ireturn, 1) := by decide +kernel
theorem dL_law_496 : decode cL_law 496 = .ok (.aload_n 1, 1) := by decide +kernel
theorem dL_law_497 : decode cL_law 497 = .ok (.aload_n 0, 1) := by decide +kernel
theorem dL_law_498 : decode cL_law 498 = .ok (.iload_n 3, 1) := by decide +kernel
theorem dL_law_499 : decode cL_law 499 = .ok (.iconst 1, 1) := by decide +kernel
theorem dL_law_500 : decode cL_law 500 = .ok (.iadd, 1) := by decide +kernel
theorem dL_law_501 : decode cL_law 501 = .ok (.iaload, 1) := by decide +kernel
theorem dL_law_502 : decode cL_law 502 = .ok (.aload_n 0, 1) := by decide +kernel
theorem dL_law_503 : decode cL_law 503 = .ok (.iload_n 3, 1) := by decide +kernel
theorem dL_law_504 : decode cL_law 504 = .ok (.iconst 2, 1) := by decide +kernel
theorem dL_law_505 : decode cL_law 505 = .ok (.iadd, 1) := by decide +kernel
theorem dL_law_506 : decode cL_law 506 = .ok (.iaload, 1) := by decide +kernel
theorem dL_law_507 : decode cL_law 507 = .ok (.invokevirtual 62, 3) := by decide +kernel
theorem dL_law_510 : decode cL_law 510 = .ok (.aload_n 2, 1) := by decide +kernel
theorem dL_law_511 : decode cL_law 511 = .ok (.aload_n 0, 1) := by decide +kernel
theorem dL_law_512 : decode cL_law 512 = .ok (.iload_n 3, 1) := by decide +kernel
theorem dL_law_513 : decode cL_law 513 = .ok (.iconst 1, 1) := by decide +kernel
theorem dL_law_514 : decode cL_law 514 = .ok (.iadd, 1) := by decide +kernel
theorem dL_law_515 : decode cL_law 515 = .ok (.iaload, 1) := by decide +kernel
theorem dL_law_516 : decode cL_law 516 = .ok (.aload_n 0, 1) := by decide +kernel
theorem dL_law_517 : decode cL_law 517 = .ok (.iload_n 3, 1) := by decide +kernel
theorem dL_law_518 : decode cL_law 518 = .ok (.iconst 2, 1) := by decide +kernel
theorem dL_law_519 : decode cL_law 519 = .ok (.iadd, 1) := by decide +kernel
theorem dL_law_520 : decode cL_law 520 = .ok (.iaload, 1) := by decide +kernel
theorem dL_law_521 : decode cL_law 521 = .ok (.invokevirtual 65, 3) := by decide +kernel
theorem dL_law_524 : decode cL_law 524 = .ok (.if_icmp .eq 201, 3) := by decide +kernel
theorem dL_law_527 : decode cL_law 527 = .ok (.iconst 0, 1) := by decide +kernel
theorem dL_law_528 : decode cL_law 528 = .ok (.ireturn, 1) := by decide +kernel
theorem dL_law_529 : decode cL_law 529 = .ok (.aload_n 1, 1) := by decide +kernel
theorem dL_law_530 : decode cL_law 530 = .ok (.invokevirtual 66, 3) := by decide +kernel
theorem dL_law_533 : decode cL_law 533 = .ok (.aload_n 2, 1) := by decide +kernel
theorem dL_law_534 : decode cL_law 534 = .ok (.invokevirtual 69, 3) := by decide +kernel
theorem dL_law_537 : decode cL_law 537 = .ok (.if_icmp .eq 188, 3) := by decide +kernel
theorem dL_law_540 : decode cL_law 540 = .ok (.iconst 0, 1) := by decide +kernel
theorem dL_law_541 : decode cL_law 541 = .ok (.ireturn, 1) := by decide +kernel
theorem dL_law_542 : decode cL_law 542 = .ok (.aload_n 1, 1) := by decide +kernel
theorem dL_law_543 : decode cL_law 543 = .ok (.invokevirtual 70, 3) := by decide +kernel
theorem dL_law_546 : decode cL_law 546 = .ok (.aload_n 2, 1) := by decide +kernel
theorem dL_law_547 : decode cL_law 547 = .ok (.invokevirtual 73, 3) := by decide +kernel
theorem dL_law_550 : decode cL_law 550 = .ok (.if_icmp .eq 175, 3) := by decide +kernel
theorem dL_law_553 : decode cL_law 553 = .ok (.iconst 0, 1) := by decide +kernel
theorem dL_law_554 : decode cL_law 554 = .ok (.ireturn, 1) := by decide +kernel
theorem dL_law_555 : decode cL_law 555 = .ok (.aload_n 1, 1) := by decide +kernel
theorem dL_law_556 : decode cL_law 556 = .ok (.aload_n 0, 1) := by decide +kernel
theorem dL_law_557 : decode cL_law 557 = .ok (.iload_n 3, 1) := by decide +kernel
theorem dL_law_558 : decode cL_law 558 = .ok (.iconst 1, 1) := by decide +kernel
theorem dL_law_559 : decode cL_law 559 = .ok (.iadd, 1) := by decide +kernel
theorem dL_law_560 : decode cL_law 560 = .ok (.iaload, 1) := by decide +kernel
theorem dL_law_561 : decode cL_law 561 = .ok (.invokevirtual 74, 3) := by decide +kernel
theorem dL_law_564 : decode cL_law 564 = .ok (.aload_n 2, 1) := by decide +kernel
theorem dL_law_565 : decode cL_law 565 = .ok (.aload_n 0, 1) := by decide +kernel
theorem dL_law_566 : decode cL_law 566 = .ok (.iload_n 3, 1) := by decide +kernel
theorem dL_law_567 : decode cL_law 567 = .ok (.iconst 1, 1) := by decide +kernel
theorem dL_law_568 : decode cL_law 568 = .ok (.iadd, 1) := by decide +kernel
theorem dL_law_569 : decode cL_law 569 = .ok (.iaload, 1) := by decide +kernel
theorem dL_law_570 : decode cL_law 570 = .ok (.invokevirtual 77, 3) := by decide +kernel
theorem dL_law_573 : decode cL_law 573 = .ok (.if_icmp .eq 152, 3) := by decide +kernel
theorem dL_law_576 : decode cL_law 576 = .ok (.iconst 0, 1) := by decide +kernel
theorem dL_law_577 : decode cL_law 577 = .ok (.ireturn, 1) := by decide +kernel
theorem dL_law_578 : decode cL_law 578 = .ok (.aload_n 1, 1) := by decide +kernel
theorem dL_law_579 : decode cL_law 579 = .ok (.aload_n 0, 1) := by decide +kernel
theorem dL_law_580 : decode cL_law 580 = .ok (.iload_n 3, 1) := by decide +kernel
theorem dL_law_581 : decode cL_law 581 = .ok (.iconst 1, 1) := by decide +kernel
theorem dL_law_582 : decode cL_law 582 = .ok (.iadd, 1) := by decide +kernel
theorem dL_law_583 : decode cL_law 583 = .ok (.iaload, 1) := by decide +kernel
theorem dL_law_584 : decode cL_law 584 = .ok (.invokevirtual 78, 3) := by decide +kernel
theorem dL_law_587 : decode cL_law 587 = .ok (.aload_n 2, 1) := by decide +kernel
theorem dL_law_588 : decode cL_law 588 = .ok (.aload_n 0, 1) := by decide +kernel
theorem dL_law_589 : decode cL_law 589 = .ok (.iload_n 3, 1) := by decide +kernel
theorem dL_law_590 : decode cL_law 590 = .ok (.iconst 1, 1) := by decide +kernel
theorem dL_law_591 : decode cL_law 591 = .ok (.iadd, 1) := by decide +kernel
theorem dL_law_592 : decode cL_law 592 = .ok (.iaload, 1) := by decide +kernel
theorem dL_law_593 : decode cL_law 593 = .ok (.invokevirtual 81, 3) := by decide +kernel
theorem dL_law_596 : decode cL_law 596 = .ok (.if_icmp .eq 129, 3) := by decide +kernel
theorem dL_law_599 : decode cL_law 599 = .ok (.iconst 0, 1) := by decide +kernel
theorem dL_law_600 : decode cL_law 600 = .ok (.ireturn, 1) := by decide +kernel
theorem dL_law_601 : decode cL_law 601 = .ok (.aload_n 1, 1) := by decide +kernel
theorem dL_law_602 : decode cL_law 602 = .ok (.aload_n 0, 1) := by decide +kernel
theorem dL_law_603 : decode cL_law 603 = .ok (.iload_n 3, 1) := by decide +kernel
theorem dL_law_604 : decode cL_law 604 = .ok (.iconst 1, 1) := by decide +kernel
theorem dL_law_605 : decode cL_law 605 = .ok (.iadd, 1) := by decide +kernel
theorem dL_law_606 : decode cL_law 606 = .ok (.iaload, 1) := by decide +kernel
theorem dL_law_607 : decode cL_law 607 = .ok (.invokevirtual 82, 3) := by decide +kernel
theorem dL_law_610 : decode cL_law 610 = .ok (.aload_n 2, 1) := by decide +kernel
theorem dL_law_611 : decode cL_law 611 = .ok (.aload_n 0, 1) := by decide +kernel
theorem dL_law_612 : decode cL_law 612 = .ok (.iload_n 3, 1) := by decide +kernel
theorem dL_law_613 : decode cL_law 613 = .ok (.iconst 1, 1) := by decide +kernel
theorem dL_law_614 : decode cL_law 614 = .ok (.iadd, 1) := by decide +kernel
theorem dL_law_615 : decode cL_law 615 = .ok (.iaload, 1) := by decide +kernel
theorem dL_law_616 : decode cL_law 616 = .ok (.invokevirtual 86, 3) := by decide +kernel
theorem dL_law_619 : decode cL_law 619 = .ok (.lcmp, 1) := by decide +kernel
theorem dL_law_620 : decode cL_law 620 = .ok (.ifCond .eq 105, 3) := by decide +kernel
theorem dL_law_623 : decode cL_law 623 = .ok (.iconst 0, 1) := by decide +kernel
theorem dL_law_624 : decode cL_law 624 = .ok (.ireturn, 1) := by decide +kernel
theorem dL_law_625 : decode cL_law 625 = .ok (.aload_n 1, 1) := by decide +kernel
theorem dL_law_626 : decode cL_law 626 = .ok (.aload_n 0, 1) := by decide +kernel
theorem dL_law_627 : decode cL_law 627 = .ok (.iload_n 3, 1) := by decide +kernel
theorem dL_law_628 : decode cL_law 628 = .ok (.iconst 1, 1) := by decide +kernel
theorem dL_law_629 : decode cL_law 629 = .ok (.iadd, 1) := by decide +kernel
theorem dL_law_630 : decode cL_law 630 = .ok (.iaload, 1) := by decide +kernel
theorem dL_law_631 : decode cL_law 631 = .ok (.i2l, 1) := by decide +kernel
theorem dL_law_632 : decode cL_law 632 = .ok (.bipush 32, 2) := by decide +kernel
theorem dL_law_634 : decode cL_law 634 = .ok (.lshl, 1) := by decide +kernel
theorem dL_law_635 : decode cL_law 635 = .ok (.aload_n 0, 1) := by decide +kernel
theorem dL_law_636 : decode cL_law 636 = .ok (.iload_n 3, 1) := by decide +kernel
theorem dL_law_637 : decode cL_law 637 = .ok (.iconst 2, 1) := by decide +kernel
theorem dL_law_638 : decode cL_law 638 = .ok (.iadd, 1) := by decide +kernel
theorem dL_law_639 : decode cL_law 639 = .ok (.iaload, 1) := by decide +kernel
theorem dL_law_640 : decode cL_law 640 = .ok (.i2l, 1) := by decide +kernel
theorem dL_law_641 : decode cL_law 641 = .ok (.ldc2_w 41, 3) := by decide +kernel
theorem dL_law_644 : decode cL_law 644 = .ok (.land, 1) := by decide +kernel
theorem dL_law_645 : decode cL_law 645 = .ok (.lor, 1) := by decide +kernel
theorem dL_law_646 : decode cL_law 646 = .ok (.invokevirtual 87, 3) := by decide +kernel
theorem dL_law_649 : decode cL_law 649 = .ok (.aload_n 2, 1) := by decide +kernel
theorem dL_law_650 : decode cL_law 650 = .ok (.aload_n 0, 1) := by decide +kernel
theorem dL_law_651 : decode cL_law 651 = .ok (.iload_n 3, 1) := by decide +kernel
theorem dL_law_652 : decode cL_law 652 = .ok (.iconst 1, 1) := by decide +kernel
theorem dL_law_653 : decode cL_law 653 = .ok (.iadd, 1) := by decide +kernel
theorem dL_law_654 : decode cL_law 654 = .ok (.iaload, 1) := by decide +kernel
theorem dL_law_655 : decode cL_law 655 = .ok (.i2l, 1) := by decide +kernel
theorem dL_law_656 : decode cL_law 656 = .ok (.bipush 32, 2) := by decide +kernel
theorem dL_law_658 : decode cL_law 658 = .ok (.lshl, 1) := by decide +kernel
theorem dL_law_659 : decode cL_law 659 = .ok (.aload_n 0, 1) := by decide +kernel
theorem dL_law_660 : decode cL_law 660 = .ok (.iload_n 3, 1) := by decide +kernel
theorem dL_law_661 : decode cL_law 661 = .ok (.iconst 2, 1) := by decide +kernel
theorem dL_law_662 : decode cL_law 662 = .ok (.iadd, 1) := by decide +kernel
theorem dL_law_663 : decode cL_law 663 = .ok (.iaload, 1) := by decide +kernel
theorem dL_law_664 : decode cL_law 664 = .ok (.i2l, 1) := by decide +kernel
theorem dL_law_665 : decode cL_law 665 = .ok (.ldc2_w 41, 3) := by decide +kernel
theorem dL_law_668 : decode cL_law 668 = .ok (.land, 1) := by decide +kernel
theorem dL_law_669 : decode cL_law 669 = .ok (.lor, 1) := by decide +kernel
theorem dL_law_670 : decode cL_law 670 = .ok (.invokevirtual 91, 3) := by decide +kernel
theorem dL_law_673 : decode cL_law 673 = .ok (.if_icmp .eq 52, 3) := by decide +kernel
theorem dL_law_676 : decode cL_law 676 = .ok (.iconst 0, 1) := by decide +kernel
theorem dL_law_677 : decode cL_law 677 = .ok (.ireturn, 1) := by decide +kernel
theorem dL_law_678 : decode cL_law 678 = .ok (.aload_n 1, 1) := by decide +kernel
theorem dL_law_679 : decode cL_law 679 = .ok (.aload_n 0, 1) := by decide +kernel
theorem dL_law_680 : decode cL_law 680 = .ok (.iload_n 3, 1) := by decide +kernel
theorem dL_law_681 : decode cL_law 681 = .ok (.iconst 1, 1) := by decide +kernel
theorem dL_law_682 : decode cL_law 682 = .ok (.iadd, 1) := by decide +kernel
theorem dL_law_683 : decode cL_law 683 = .ok (.iaload, 1) := by decide +kernel
theorem dL_law_684 : decode cL_law 684 = .ok (.invokevirtual 92, 3) := by decide +kernel
theorem dL_law_687 : decode cL_law 687 = .ok (.aload_n 2, 1) := by decide +kernel
theorem dL_law_688 : decode cL_law 688 = .ok (.aload_n 0, 1) := by decide +kernel
theorem dL_law_689 : decode cL_law 689 = .ok (.iload_n 3, 1) := by decide +kernel
theorem dL_law_690 : decode cL_law 690 = .ok (.iconst 1, 1) := by decide +kernel
theorem dL_law_691 : decode cL_law 691 = .ok (.iadd, 1) := by decide +kernel
theorem dL_law_692 : decode cL_law 692 = .ok (.iaload, 1) := by decide +kernel
theorem dL_law_693 : decode cL_law 693 = .ok (.invokevirtual 95, 3) := by decide +kernel
theorem dL_law_696 : decode cL_law 696 = .ok (.lcmp, 1) := by decide +kernel
theorem dL_law_697 : decode cL_law 697 = .ok (.ifCond .eq 28, 3) := by decide +kernel
theorem dL_law_700 : decode cL_law 700 = .ok (.iconst 0, 1) := by decide +kernel
theorem dL_law_701 : decode cL_law 701 = .ok (.ireturn, 1) := by decide +kernel
theorem dL_law_702 : decode cL_law 702 = .ok (.aload_n 1, 1) := by decide +kernel
theorem dL_law_703 : decode cL_law 703 = .ok (.aload_n 0, 1) := by decide +kernel
theorem dL_law_704 : decode cL_law 704 = .ok (.iload_n 3, 1) := by decide +kernel
theorem dL_law_705 : decode cL_law 705 = .ok (.iconst 1, 1) := by decide +kernel
theorem dL_law_706 : decode cL_law 706 = .ok (.iadd, 1) := by decide +kernel
theorem dL_law_707 : decode cL_law 707 = .ok (.iaload, 1) := by decide +kernel
theorem dL_law_708 : decode cL_law 708 = .ok (.invokevirtual 96, 3) := by decide +kernel
theorem dL_law_711 : decode cL_law 711 = .ok (.aload_n 2, 1) := by decide +kernel
theorem dL_law_712 : decode cL_law 712 = .ok (.aload_n 0, 1) := by decide +kernel
theorem dL_law_713 : decode cL_law 713 = .ok (.iload_n 3, 1) := by decide +kernel
theorem dL_law_714 : decode cL_law 714 = .ok (.iconst 1, 1) := by decide +kernel
theorem dL_law_715 : decode cL_law 715 = .ok (.iadd, 1) := by decide +kernel
theorem dL_law_716 : decode cL_law 716 = .ok (.iaload, 1) := by decide +kernel
theorem dL_law_717 : decode cL_law 717 = .ok (.invokevirtual 99, 3) := by decide +kernel
theorem dL_law_720 : decode cL_law 720 = .ok (.if_icmp .eq 5, 3) := by decide +kernel
theorem dL_law_723 : decode cL_law 723 = .ok (.iconst 0, 1) := by decide +kernel
theorem dL_law_724 : decode cL_law 724 = .ok (.ireturn, 1) := by decide +kernel
theorem dL_law_725 : decode cL_law 725 = .ok (.iinc 3 6, 3) := by decide +kernel
theorem dL_law_728 : decode cL_law 728 = .ok (.goto (-710), 3) := by decide +kernel
theorem dL_law_731 : decode cL_law 731 = .ok (.iconst 1, 1) := by decide +kernel
theorem dL_law_732 : decode cL_law 732 = .ok (.ireturn, 1) := by decide +kernel
theorem lk_127 : Cond.classLink RL 7 RX8 ∈ tb0 := tb_in (i := 127) (by decide +kernel) (by decide +kernel)
theorem lk_128 : Cond.instantiable RX8 4 ∈ tb0 := tb_in (i := 128) (by decide +kernel) (by decide +kernel)
theorem lk_129 : Cond.methodLink RL 9 yX8_init ∈ tb0 := tb_in (i := 129) (by decide +kernel) (by decide +kernel)
theorem lk_1062 : Cond.classLink RL 10 RX9 ∈ tb0 := tb_in (i := 1062) (by decide +kernel) (by decide +kernel)
theorem lk_1063 : Cond.instantiable RX9 54 ∈ tb0 := tb_in (i := 1063) (by decide +kernel) (by decide +kernel)
theorem lk_1064 : Cond.methodLink RL 12 yX9_init ∈ tb0 := tb_in (i := 1064) (by decide +kernel) (by decide +kernel)
theorem lk_368 : Cond.methodLink RL 13 yX8_feed ∈ tb0 := tb_in (i := 368) (by decide +kernel) (by decide +kernel)
theorem lk_1232 : Cond.methodLink RL 17 yX9_feed ∈ tb0 := tb_in (i := 1232) (by decide +kernel) (by decide +kernel)
theorem lk_383 : Cond.methodLink RL 18 yX8_alter ∈ tb0 := tb_in (i := 383) (by decide +kernel) (by decide +kernel)
theorem lk_1249 : Cond.methodLink RL 22 yX9_alter ∈ tb0 := tb_in (i := 1249) (by decide +kernel) (by decide +kernel)
theorem lk_388 : Cond.methodLink RL 23 yX8_cut ∈ tb0 := tb_in (i := 388) (by decide +kernel) (by decide +kernel)
theorem lk_1253 : Cond.methodLink RL 27 yX9_cut ∈ tb0 := tb_in (i := 1253) (by decide +kernel) (by decide +kernel)
theorem lk_392 : Cond.methodLink RL 28 yX8_table ∈ tb0 := tb_in (i := 392) (by decide +kernel) (by decide +kernel)
theorem lk_435 : Cond.methodLink RL 32 yX8_context ∈ tb0 := tb_in (i := 435) (by decide +kernel) (by decide +kernel)
theorem lk_1419 : Cond.methodLink RL 35 yX9_context ∈ tb0 := tb_in (i := 1419) (by decide +kernel) (by decide +kernel)
theorem lk_443 : Cond.methodLink RL 36 yX8_poke ∈ tb0 := tb_in (i := 443) (by decide +kernel) (by decide +kernel)
theorem lk_1424 : Cond.methodLink RL 40 yX9_poke ∈ tb0 := tb_in (i := 1424) (by decide +kernel) (by decide +kernel)
theorem lk_1605 : Cond.constantLong RL 41 (4294967295) ∈ tb0 := tb_in (i := 1605) (by decide +kernel) (by decide +kernel)
theorem lk_447 : Cond.methodLink RL 43 yX8_tick ∈ tb0 := tb_in (i := 447) (by decide +kernel) (by decide +kernel)
theorem lk_1428 : Cond.methodLink RL 47 yX9_tick ∈ tb0 := tb_in (i := 1428) (by decide +kernel) (by decide +kernel)
theorem lk_453 : Cond.methodLink RL 48 yX8_judge ∈ tb0 := tb_in (i := 453) (by decide +kernel) (by decide +kernel)
theorem lk_860 : Cond.methodLink RL 53 yX8_place ∈ tb0 := tb_in (i := 860) (by decide +kernel) (by decide +kernel)
theorem lk_1592 : Cond.methodLink RL 56 yX9_place ∈ tb0 := tb_in (i := 1592) (by decide +kernel) (by decide +kernel)
theorem lk_864 : Cond.methodLink RL 57 yX8_may ∈ tb0 := tb_in (i := 864) (by decide +kernel) (by decide +kernel)
theorem lk_1596 : Cond.methodLink RL 61 yX9_may ∈ tb0 := tb_in (i := 1596) (by decide +kernel) (by decide +kernel)
theorem lk_875 : Cond.methodLink RL 62 yX8_cell ∈ tb0 := tb_in (i := 875) (by decide +kernel) (by decide +kernel)
theorem lk_1601 : Cond.methodLink RL 65 yX9_cell ∈ tb0 := tb_in (i := 1601) (by decide +kernel) (by decide +kernel)
theorem lk_883 : Cond.methodLink RL 66 yX8_start ∈ tb0 := tb_in (i := 883) (by decide +kernel) (by decide +kernel)
theorem lk_1293 : Cond.methodLink RL 69 yX9_start ∈ tb0 := tb_in (i := 1293) (by decide +kernel) (by decide +kernel)
theorem lk_897 : Cond.methodLink RL 70 yX8_step ∈ tb0 := tb_in (i := 897) (by decide +kernel) (by decide +kernel)
theorem lk_1297 : Cond.methodLink RL 73 yX9_step ∈ tb0 := tb_in (i := 1297) (by decide +kernel) (by decide +kernel)
theorem lk_1024 : Cond.methodLink RL 74 yX8_run ∈ tb0 := tb_in (i := 1024) (by decide +kernel) (by decide +kernel)
theorem lk_1413 : Cond.methodLink RL 77 yX9_run ∈ tb0 := tb_in (i := 1413) (by decide +kernel) (by decide +kernel)
theorem lk_1028 : Cond.methodLink RL 78 yX8_told ∈ tb0 := tb_in (i := 1028) (by decide +kernel) (by decide +kernel)
theorem lk_1434 : Cond.methodLink RL 81 yX9_told ∈ tb0 := tb_in (i := 1434) (by decide +kernel) (by decide +kernel)
theorem lk_1032 : Cond.methodLink RL 82 yX8_register ∈ tb0 := tb_in (i := 1032) (by decide +kernel) (by decide +kernel)
theorem lk_1438 : Cond.methodLink RL 86 yX9_register ∈ tb0 := tb_in (i := 1438) (by decide +kernel) (by decide +kernel)
theorem lk_1036 : Cond.methodLink RL 87 yX8_octet ∈ tb0 := tb_in (i := 1036) (by decide +kernel) (by decide +kernel)
theorem lk_1257 : Cond.methodLink RL 91 yX9_octet ∈ tb0 := tb_in (i := 1257) (by decide +kernel) (by decide +kernel)
theorem lk_1042 : Cond.methodLink RL 92 yX8_putAt ∈ tb0 := tb_in (i := 1042) (by decide +kernel) (by decide +kernel)
theorem lk_1443 : Cond.methodLink RL 95 yX9_putAt ∈ tb0 := tb_in (i := 1443) (by decide +kernel) (by decide +kernel)
theorem lk_1053 : Cond.methodLink RL 96 yX8_keys ∈ tb0 := tb_in (i := 1053) (by decide +kernel) (by decide +kernel)
theorem lk_1289 : Cond.methodLink RL 99 yX9_keys ∈ tb0 := tb_in (i := 1289) (by decide +kernel) (by decide +kernel)
theorem lk_1283 : Cond.methodLink RL 31 yX9_table ∈ tb0 := tb_in (i := 1283) (by decide +kernel) (by decide +kernel)
theorem lk_1447 : Cond.methodLink RL 52 yX9_judge ∈ tb0 := tb_in (i := 1447) (by decide +kernel) (by decide +kernel)
def f_law_725 (xs : Nat → Int32) (L : Nat) (k18 : Nat → Nat → Int32 → sh → dt → Option (Int32 × sh × dt)) (o1 : Nat) (o2 : Nat) (x3 : Int32) (S : sh) (D : dt) : Option (Int32 × sh × dt) := nm (x3 + 6) fun y300 => k18 o1 o2 y300 S D
def f_law_287 (xs : Nat → Int32) (L : Nat) (k18 : Nat → Nat → Int32 → sh → dt → Option (Int32 × sh × dt)) (o1 : Nat) (o2 : Nat) (x3 : Int32) (xs0 : Int32) (S : sh) (D : dt) : Option (Int32 × sh × dt) := ix (x3 + (1 : Int32)) L <| ix (x3 + (2 : Int32)) L <| ix (x3 + (3 : Int32)) L <| ix (x3 + (4 : Int32)) L <| cq (f_X9_table S o2 (xs (x3 + (1 : Int32)).toNatClampNeg) (xs (x3 + (2 : Int32)).toNatClampNeg) (xs (x3 + (3 : Int32)).toNatClampNeg) (xs (x3 + (4 : Int32)).toNatClampNeg) D) fun r307 D308 => if xs0 = r307 then (f_law_725 xs L k18 o1 o2 x3 S D308) else (some ((0 : Int32), S, D308))
def f_law_430 (xs : Nat → Int32) (L : Nat) (k18 : Nat → Nat → Int32 → sh → dt → Option (Int32 × sh × dt)) (o1 : Nat) (o2 : Nat) (x3 : Int32) (xs0 : Int32) (S : sh) (D : dt) : Option (Int32 × sh × dt) := cq (f_X9_judge S o2 D) fun r313 D314 => if xs0 = r313 then (f_law_725 xs L k18 o1 o2 x3 S D314) else (some ((0 : Int32), S, D314))
def f_law_18 (xs : Nat → Int32) (L : Nat) : Nat → Nat → Nat → Int32 → sh → dt → Option (Int32 × sh × dt)
  | 0, _, _, _, _, _ => none
  | n + 1, o1, o2, x3, S, D => if ((Int32.ofNat L) - (6 : Int32)) < x3 then (some ((1 : Int32), S, D)) else (ix x3 L <| if ((xs x3.toNatClampNeg) &&& (31 : Int32)) = 0 then (ix (x3 + (1 : Int32)) L <| ix (x3 + (2 : Int32)) L <| ix (x3 + (3 : Int32)) L <| ix (x3 + (4 : Int32)) L <| cq (f_X8_feed S o1 (xs (x3 + (1 : Int32)).toNatClampNeg) (xs (x3 + (2 : Int32)).toNatClampNeg) (xs (x3 + (3 : Int32)).toNatClampNeg) (xs (x3 + (4 : Int32)).toNatClampNeg) D) fun r326 D327 => ix (x3 + (1 : Int32)) L <| ix (x3 + (2 : Int32)) L <| ix (x3 + (3 : Int32)) L <| ix (x3 + (4 : Int32)) L <| cq (f_X9_feed S o2 (xs (x3 + (1 : Int32)).toNatClampNeg) (xs (x3 + (2 : Int32)).toNatClampNeg) (xs (x3 + (3 : Int32)).toNatClampNeg) (xs (x3 + (4 : Int32)).toNatClampNeg) D327) fun r333 D334 => if r326 = r333 then (f_law_725 xs L (f_law_18 xs L n) o1 o2 x3 S D334) else (some ((0 : Int32), S, D334))) else if ((xs x3.toNatClampNeg) &&& (31 : Int32)) = 1 then (ix (x3 + (1 : Int32)) L <| ix (x3 + (2 : Int32)) L <| ix (x3 + (3 : Int32)) L <| ix (x3 + (4 : Int32)) L <| ix (x3 + (5 : Int32)) L <| cq (f_X8_alter S o1 (xs (x3 + (1 : Int32)).toNatClampNeg) (xs (x3 + (2 : Int32)).toNatClampNeg) (xs (x3 + (3 : Int32)).toNatClampNeg) (xs (x3 + (4 : Int32)).toNatClampNeg) (xs (x3 + (5 : Int32)).toNatClampNeg) D) fun r345 D346 => ix (x3 + (1 : Int32)) L <| ix (x3 + (2 : Int32)) L <| ix (x3 + (3 : Int32)) L <| ix (x3 + (4 : Int32)) L <| ix (x3 + (5 : Int32)) L <| cq (f_X9_alter S o2 (xs (x3 + (1 : Int32)).toNatClampNeg) (xs (x3 + (2 : Int32)).toNatClampNeg) (xs (x3 + (3 : Int32)).toNatClampNeg) (xs (x3 + (4 : Int32)).toNatClampNeg) (xs (x3 + (5 : Int32)).toNatClampNeg) D346) fun r353 D354 => if r345 = r353 then (f_law_725 xs L (f_law_18 xs L n) o1 o2 x3 S D354) else (some ((0 : Int32), S, D354))) else if ((xs x3.toNatClampNeg) &&& (31 : Int32)) = 2 then (ix (x3 + (1 : Int32)) L <| cq (f_X8_cut S o1 (xs (x3 + (1 : Int32)).toNatClampNeg) D) fun r361 D362 => ix (x3 + (1 : Int32)) L <| cq (f_X9_cut S o2 (xs (x3 + (1 : Int32)).toNatClampNeg) D362) fun r365 D366 => if r361 = r365 then (f_law_725 xs L (f_law_18 xs L n) o1 o2 x3 S D366) else (some ((0 : Int32), S, D366))) else if ((xs x3.toNatClampNeg) &&& (31 : Int32)) = 3 then (ix (x3 + (1 : Int32)) L <| ix (x3 + (2 : Int32)) L <| ix (x3 + (3 : Int32)) L <| ix (x3 + (4 : Int32)) L <| c3 (f_X8_table o1 (xs (x3 + (1 : Int32)).toNatClampNeg) (xs (x3 + (2 : Int32)).toNatClampNeg) (xs (x3 + (3 : Int32)).toNatClampNeg) (xs (x3 + (4 : Int32)).toNatClampNeg) S D) fun r376 S378 D377 => f_law_287 xs L (f_law_18 xs L n) o1 o2 x3 r376 S378 D377) else if ((xs x3.toNatClampNeg) &&& (31 : Int32)) = 4 then (ix (x3 + (1 : Int32)) L <| cq (f_X8_context S o1 (xs (x3 + (1 : Int32)).toNatClampNeg) D) fun r388 D389 => ix (x3 + (1 : Int32)) L <| cq (f_X9_context S o2 (xs (x3 + (1 : Int32)).toNatClampNeg) D389) fun r392 D393 => if r388 = r392 then (f_law_725 xs L (f_law_18 xs L n) o1 o2 x3 S D393) else (some ((0 : Int32), S, D393))) else if ((xs x3.toNatClampNeg) &&& (31 : Int32)) = 5 then (ix (x3 + (1 : Int32)) L <| ix (x3 + (2 : Int32)) L <| cq (f_X8_poke S o1 (xs (x3 + (1 : Int32)).toNatClampNeg) (xs (x3 + (2 : Int32)).toNatClampNeg) D) fun r401 D402 => ix (x3 + (1 : Int32)) L <| ix (x3 + (2 : Int32)) L <| cq (f_X9_poke S o2 (xs (x3 + (1 : Int32)).toNatClampNeg) (xs (x3 + (2 : Int32)).toNatClampNeg) D402) fun r406 D407 => if r401 = r406 then (f_law_725 xs L (f_law_18 xs L n) o1 o2 x3 S D407) else (some ((0 : Int32), S, D407))) else if ((xs x3.toNatClampNeg) &&& (31 : Int32)) = 6 then (ix (x3 + (1 : Int32)) L <| ix (x3 + (2 : Int32)) L <| cq (f_X8_tick S o1 ((j_lshl ((xs (x3 + (1 : Int32)).toNatClampNeg).toInt64) (32 : Int32)) ||| (((xs (x3 + (2 : Int32)).toNatClampNeg).toInt64) &&& (4294967295 : Int64))) D) fun r415 D416 => ix (x3 + (1 : Int32)) L <| ix (x3 + (2 : Int32)) L <| cq (f_X9_tick S o2 ((j_lshl ((xs (x3 + (1 : Int32)).toNatClampNeg).toInt64) (32 : Int32)) ||| (((xs (x3 + (2 : Int32)).toNatClampNeg).toInt64) &&& (4294967295 : Int64))) D416) fun r420 D421 => if (lg_cmp r415 r420) = 0 then (f_law_725 xs L (f_law_18 xs L n) o1 o2 x3 S D421) else (some ((0 : Int32), S, D421))) else if ((xs x3.toNatClampNeg) &&& (31 : Int32)) = 7 then (c3 (f_X8_judge o1 S D) fun r427 S429 D428 => f_law_430 xs L (f_law_18 xs L n) o1 o2 x3 r427 S429 D428) else if ((xs x3.toNatClampNeg) &&& (31 : Int32)) = 8 then (cq (f_X8_place S o1 D) fun r438 D439 => cq (f_X9_place S o2 D439) fun r441 D442 => if r438 = r441 then (f_law_725 xs L (f_law_18 xs L n) o1 o2 x3 S D442) else (some ((0 : Int32), S, D442))) else if ((xs x3.toNatClampNeg) &&& (31 : Int32)) = 9 then (ix (x3 + (1 : Int32)) L <| ix (x3 + (2 : Int32)) L <| ix (x3 + (3 : Int32)) L <| cq (f_X8_may S o1 (xs (x3 + (1 : Int32)).toNatClampNeg) (xs (x3 + (2 : Int32)).toNatClampNeg) (xs (x3 + (3 : Int32)).toNatClampNeg) D) fun r451 D452 => ix (x3 + (1 : Int32)) L <| ix (x3 + (2 : Int32)) L <| ix (x3 + (3 : Int32)) L <| cq (f_X9_may S o2 (xs (x3 + (1 : Int32)).toNatClampNeg) (xs (x3 + (2 : Int32)).toNatClampNeg) (xs (x3 + (3 : Int32)).toNatClampNeg) D452) fun r457 D458 => if (lg_cmp r451 r457) = 0 then (f_law_725 xs L (f_law_18 xs L n) o1 o2 x3 S D458) else (some ((0 : Int32), S, D458))) else if ((xs x3.toNatClampNeg) &&& (31 : Int32)) = 10 then (ix (x3 + (1 : Int32)) L <| ix (x3 + (2 : Int32)) L <| cq (f_X8_cell S o1 (xs (x3 + (1 : Int32)).toNatClampNeg) (xs (x3 + (2 : Int32)).toNatClampNeg) D) fun r466 D467 => ix (x3 + (1 : Int32)) L <| ix (x3 + (2 : Int32)) L <| cq (f_X9_cell S o2 (xs (x3 + (1 : Int32)).toNatClampNeg) (xs (x3 + (2 : Int32)).toNatClampNeg) D467) fun r471 D472 => if r466 = r471 then (f_law_725 xs L (f_law_18 xs L n) o1 o2 x3 S D472) else (some ((0 : Int32), S, D472))) else if ((xs x3.toNatClampNeg) &&& (31 : Int32)) = 11 then (cq (f_X8_start S o1 D) fun r478 D479 => cq (f_X9_start S o2 D479) fun r481 D482 => if r478 = r481 then (f_law_725 xs L (f_law_18 xs L n) o1 o2 x3 S D482) else (some ((0 : Int32), S, D482))) else if ((xs x3.toNatClampNeg) &&& (31 : Int32)) = 12 then (cq (f_X8_step S o1 D) fun r488 D489 => cq (f_X9_step S o2 D489) fun r491 D492 => if r488 = r491 then (f_law_725 xs L (f_law_18 xs L n) o1 o2 x3 S D492) else (some ((0 : Int32), S, D492))) else if ((xs x3.toNatClampNeg) &&& (31 : Int32)) = 13 then (ix (x3 + (1 : Int32)) L <| cq (f_X8_run S o1 (xs (x3 + (1 : Int32)).toNatClampNeg) D) fun r499 D500 => ix (x3 + (1 : Int32)) L <| cq (f_X9_run S o2 (xs (x3 + (1 : Int32)).toNatClampNeg) D500) fun r503 D504 => if r499 = r503 then (f_law_725 xs L (f_law_18 xs L n) o1 o2 x3 S D504) else (some ((0 : Int32), S, D504))) else if ((xs x3.toNatClampNeg) &&& (31 : Int32)) = 14 then (ix (x3 + (1 : Int32)) L <| cq (f_X8_told S o1 (xs (x3 + (1 : Int32)).toNatClampNeg) D) fun r511 D512 => ix (x3 + (1 : Int32)) L <| cq (f_X9_told S o2 (xs (x3 + (1 : Int32)).toNatClampNeg) D512) fun r515 D516 => if r511 = r515 then (f_law_725 xs L (f_law_18 xs L n) o1 o2 x3 S D516) else (some ((0 : Int32), S, D516))) else if ((xs x3.toNatClampNeg) &&& (31 : Int32)) = 15 then (ix (x3 + (1 : Int32)) L <| cq (f_X8_register S o1 (xs (x3 + (1 : Int32)).toNatClampNeg) D) fun r523 D524 => ix (x3 + (1 : Int32)) L <| cq (f_X9_register S o2 (xs (x3 + (1 : Int32)).toNatClampNeg) D524) fun r527 D528 => if (lg_cmp r523 r527) = 0 then (f_law_725 xs L (f_law_18 xs L n) o1 o2 x3 S D528) else (some ((0 : Int32), S, D528))) else if ((xs x3.toNatClampNeg) &&& (31 : Int32)) = 16 then (ix (x3 + (1 : Int32)) L <| ix (x3 + (2 : Int32)) L <| cq (f_X8_octet S o1 ((j_lshl ((xs (x3 + (1 : Int32)).toNatClampNeg).toInt64) (32 : Int32)) ||| (((xs (x3 + (2 : Int32)).toNatClampNeg).toInt64) &&& (4294967295 : Int64))) D) fun r536 D537 => ix (x3 + (1 : Int32)) L <| ix (x3 + (2 : Int32)) L <| cq (f_X9_octet S o2 ((j_lshl ((xs (x3 + (1 : Int32)).toNatClampNeg).toInt64) (32 : Int32)) ||| (((xs (x3 + (2 : Int32)).toNatClampNeg).toInt64) &&& (4294967295 : Int64))) D537) fun r541 D542 => if r536 = r541 then (f_law_725 xs L (f_law_18 xs L n) o1 o2 x3 S D542) else (some ((0 : Int32), S, D542))) else if ((xs x3.toNatClampNeg) &&& (31 : Int32)) = 17 then (ix (x3 + (1 : Int32)) L <| cq (f_X8_putAt S o1 (xs (x3 + (1 : Int32)).toNatClampNeg) D) fun r549 D550 => ix (x3 + (1 : Int32)) L <| cq (f_X9_putAt S o2 (xs (x3 + (1 : Int32)).toNatClampNeg) D550) fun r553 D554 => if (lg_cmp r549 r553) = 0 then (f_law_725 xs L (f_law_18 xs L n) o1 o2 x3 S D554) else (some ((0 : Int32), S, D554))) else if ((xs x3.toNatClampNeg) &&& (31 : Int32)) = 18 then (ix (x3 + (1 : Int32)) L <| cq (f_X8_keys S o1 (xs (x3 + (1 : Int32)).toNatClampNeg) D) fun r561 D562 => ix (x3 + (1 : Int32)) L <| cq (f_X9_keys S o2 (xs (x3 + (1 : Int32)).toNatClampNeg) D562) fun r565 D566 => if r561 = r565 then (f_law_725 xs L (f_law_18 xs L n) o1 o2 x3 S D566) else (some ((0 : Int32), S, D566))) else (f_law_725 xs L (f_law_18 xs L n) o1 o2 x3 S D))
def f_law_15 (xs : Nat → Int32) (L : Nat) (o1 : Nat) (os0 : Nat) (S : sh) (D : dt) : Option (Int32 × sh × dt) := nm ((0 : Int32)) fun y571 => f_law_18 xs L LF o1 os0 y571 S D
def f_law_11 (xs : Nat → Int32) (L : Nat) (o1 : Nat) (os0 : Nat) (S : sh) (D : dt) : Option (Int32 × sh × dt) := c3 (f_X9_init os0 S D) fun _ S575 D574 => f_law_15 xs L o1 os0 S575 D574
def f_law_7 (xs : Nat → Int32) (L : Nat) (os0 : Nat) (S : sh) (D : dt) : Option (Int32 × sh × dt) := f_law_11 xs L os0 (sN S) (aS S 8 0 54) (aD S D)
def f_law_3 (xs : Nat → Int32) (L : Nat) (os0 : Nat) (S : sh) (D : dt) : Option (Int32 × sh × dt) := c3 (f_X8_init os0 S D) fun _ S589 D588 => f_law_7 xs L os0 S589 D588
def f_law (xs : Nat → Int32) (L : Nat) (S : sh) (D : dt) : Option (Int32 × sh × dt) := f_law_3 xs L (sN S) (aS S 7 0 4) (aD S D)
section
variable {p : Program} {l : Launch} {e : Env} {R : Room} {s : State} {m : MethodId} {args : Array Value} {below : List Frame} {meth : Method} {c : Code} {H : Heap} {locs : List Loc} {G : va_G} {cA : Nat → ClassId} {S : sh} {D : dt} {ad : Nat → Nat} {A : Nat → Prop}
theorem mn_law_725 {xs : Nat → Int32} {L : Nat} {r : Int32} {S' : sh} {D' : dt} {k18 : Nat → Nat → Int32 → sh → dt → Option (Int32 × sh × dt)} (hk18 : ∀ (o1 : Nat) (o2 : Nat) (x3 : Int32) (S : sh) (D : dt), k18 o1 o2 x3 S D = some (r, S', D') → Ext S S') {o1 : Nat} {o2 : Nat} {x3 : Int32} {S : sh} {D : dt} (h : f_law_725 xs L k18 o1 o2 x3 S D = some (r, S', D')) : Ext S S' := by
  unfold f_law_725 at h
  have h := nm_i h _ rfl
  exact (hk18 _ _ _ _ _ h)
set_option maxHeartbeats 8000000 in
set_option maxRecDepth 100000 in
theorem w_law_725 {b L : Nat} {xs : Nat → Int32} {S' : sh} {D' : dt} {S0 : sh} {ad0 : Nat → Nat} (hC : Cx RL cL_law 4 ret p s m #[Value.ref b] meth c) (hX : va_X b L xs s s.heap) (hbl : b < s.heap.size) (hbA : ¬ (fun q : Nat => s.heap.size ≤ q) b) (ho : sN S' - sN S0 ≤ 600000 ∧ sZ S' - sZ S0 ≤ 7302250) {k18 : Nat → Nat → Int32 → sh → dt → Option (Int32 × sh × dt)} (hk18 : ∀ (o1 a1 : Nat) (o2 a2 : Nat) (x3 : Int32) (S : sh) (D : dt) (ad : Nat → Nat) (H : Heap) (locs : List Loc) (ls : Array Slot) (cells slots : Nat), Is S ad o1 a1 7 → Is S ad o2 a2 8 → Wd G cA S D ad (fun q => s.heap.size ≤ q) s H locs → Al S0 ad0 S ad cells slots → lv_has ls 4 [(0, .ref b), (1, .ref a1), (2, .ref a2), (3, .int x3)] → k18 o1 o2 x3 S D = some (1, S', D') → W p l e room_1 s m #[Value.ref b] below meth c H locs cells slots (lw_Z below #[Value.ref b] s) (F0 m 18 ls [])) (hm18 : ∀ (o1 : Nat) (o2 : Nat) (x3 : Int32) (S : sh) (D : dt), k18 o1 o2 x3 S D = some (1, S', D') → Ext S S') : ∀ (o1 a1 : Nat) (o2 a2 : Nat) (x3 : Int32) (S : sh) (D : dt) (ad : Nat → Nat) (H : Heap) (locs : List Loc) (ls : Array Slot) (cells slots : Nat), Is S ad o1 a1 7 → Is S ad o2 a2 8 → Wd G cA S D ad (fun q => s.heap.size ≤ q) s H locs → Al S0 ad0 S ad cells slots → lv_has ls 4 [(0, .ref b), (1, .ref a1), (2, .ref a2), (3, .int x3)] → f_law_725 xs L k18 o1 o2 x3 S D = some (1, S', D') → W p l e room_1 s m #[Value.ref b] below meth c H locs cells slots (lw_Z below #[Value.ref b] s) (F0 m 725 ls []) := by
  obtain ⟨hx, hb, -⟩ := id hC
  intro o1 a1 o2 a2 x3 S D ad H locs ls cells slots hi1 hi2 hw hc hl h
  have hE : Ext S S' := mn_law_725 hm18 h
  unfold f_law_725 at h
  obtain ⟨y300, ey300⟩ : ∃ z : Int32, z = x3 + 6 := ⟨_, rfl⟩
  have h := nm_i h y300 ey300
  refine lv_iinc (v := y300) (lv' := [(3, .int y300), (0, .ref b), (1, .ref a1), (2, .ref a2)]) hx hb dL_law_725 hl (k := 3) rfl (by rw [ey300]; rfl) (by decide) rfl (fun ls hl => ?_)
  refine lv_goto (tgt := 18) hx hb dL_law_728 (by decide) ?_
  exact hk18 o1 a1 o2 a2 y300 _ _ _ _ _ _ _ _ hi1 hi2 hw hc (lv_sub hl [1, 2, 3, 0] rfl) h --j301
theorem mn_law_287 {xs : Nat → Int32} {L : Nat} {r : Int32} {S' : sh} {D' : dt} {k18 : Nat → Nat → Int32 → sh → dt → Option (Int32 × sh × dt)} (hk18 : ∀ (o1 : Nat) (o2 : Nat) (x3 : Int32) (S : sh) (D : dt), k18 o1 o2 x3 S D = some (r, S', D') → Ext S S') {o1 : Nat} {o2 : Nat} {x3 : Int32} {xs0 : Int32} {S : sh} {D : dt} (h : f_law_287 xs L k18 o1 o2 x3 xs0 S D = some (r, S', D')) : Ext S S' := by
  unfold f_law_287 at h
  obtain ⟨hn302, h⟩ := ix_i h
  obtain ⟨hn303, h⟩ := ix_i h
  obtain ⟨hn304, h⟩ := ix_i h
  obtain ⟨hn305, h⟩ := ix_i h
  obtain ⟨r307, D308, hq306, h⟩ := cq_i h
  rcases (Decidable.em (xs0 = r307)) with c309 | c309
  · have h := i_yes c309 h
    exact (mn_law_725 hk18 h)
  · have h := i_no c309 h
    cases h; exact Ext.rf _
set_option maxHeartbeats 8000000 in
set_option maxRecDepth 100000 in
theorem w_law_287 {b L : Nat} {xs : Nat → Int32} {S' : sh} {D' : dt} {S0 : sh} {ad0 : Nat → Nat} (hC : Cx RL cL_law 4 ret p s m #[Value.ref b] meth c) (hX : va_X b L xs s s.heap) (hbl : b < s.heap.size) (hbA : ¬ (fun q : Nat => s.heap.size ≤ q) b) (ho : sN S' - sN S0 ≤ 600000 ∧ sZ S' - sZ S0 ≤ 7302250) {k18 : Nat → Nat → Int32 → sh → dt → Option (Int32 × sh × dt)} (hk18 : ∀ (o1 a1 : Nat) (o2 a2 : Nat) (x3 : Int32) (S : sh) (D : dt) (ad : Nat → Nat) (H : Heap) (locs : List Loc) (ls : Array Slot) (cells slots : Nat), Is S ad o1 a1 7 → Is S ad o2 a2 8 → Wd G cA S D ad (fun q => s.heap.size ≤ q) s H locs → Al S0 ad0 S ad cells slots → lv_has ls 4 [(0, .ref b), (1, .ref a1), (2, .ref a2), (3, .int x3)] → k18 o1 o2 x3 S D = some (1, S', D') → W p l e room_1 s m #[Value.ref b] below meth c H locs cells slots (lw_Z below #[Value.ref b] s) (F0 m 18 ls [])) (hm18 : ∀ (o1 : Nat) (o2 : Nat) (x3 : Int32) (S : sh) (D : dt), k18 o1 o2 x3 S D = some (1, S', D') → Ext S S') : ∀ (o1 a1 : Nat) (o2 a2 : Nat) (x3 : Int32) (xs0 : Int32) (S : sh) (D : dt) (ad : Nat → Nat) (H : Heap) (locs : List Loc) (ls : Array Slot) (cells slots : Nat), Is S ad o1 a1 7 → Is S ad o2 a2 8 → Wd G cA S D ad (fun q => s.heap.size ≤ q) s H locs → Al S0 ad0 S ad cells slots → lv_has ls 4 [(0, .ref b), (1, .ref a1), (2, .ref a2), (3, .int x3)] → f_law_287 xs L k18 o1 o2 x3 xs0 S D = some (1, S', D') → W p l e room_1 s m #[Value.ref b] below meth c H locs cells slots (lw_Z below #[Value.ref b] s) (F0 m 287 ls [.int xs0]) := by
  obtain ⟨hx, hb, -⟩ := id hC
  intro o1 a1 o2 a2 x3 xs0 S D ad H locs ls cells slots hi1 hi2 hw hc hl h
  have hE : Ext S S' := mn_law_287 hm18 h
  unfold f_law_287 at h
  refine lv_aload_n hx hb dL_law_287 rfl (lv_at hl 2 rfl) ?_
  refine lv_aload_n hx hb dL_law_288 rfl (lv_at hl 0 rfl) ?_
  refine lv_iload_n hx hb dL_law_289 rfl (lv_at hl 3 rfl) ?_
  refine lv_iconst (v := 1) hx hb dL_law_290 (by decide) ?_
  refine lv_iadd hx hb dL_law_291 ?_
  obtain ⟨hn302, h⟩ := ix_i h
  refine va_sld hx hb hX hbl hbA hw.2.2.2.1 hn302 dL_law_292 ?_
  refine lv_aload_n hx hb dL_law_293 rfl (lv_at hl 0 rfl) ?_
  refine lv_iload_n hx hb dL_law_294 rfl (lv_at hl 3 rfl) ?_
  refine lv_iconst (v := 2) hx hb dL_law_295 (by decide) ?_
  refine lv_iadd hx hb dL_law_296 ?_
  obtain ⟨hn303, h⟩ := ix_i h
  refine va_sld hx hb hX hbl hbA hw.2.2.2.1 hn303 dL_law_297 ?_
  refine lv_aload_n hx hb dL_law_298 rfl (lv_at hl 0 rfl) ?_
  refine lv_iload_n hx hb dL_law_299 rfl (lv_at hl 3 rfl) ?_
  refine lv_iconst (v := 3) hx hb dL_law_300 (by decide) ?_
  refine lv_iadd hx hb dL_law_301 ?_
  obtain ⟨hn304, h⟩ := ix_i h
  refine va_sld hx hb hX hbl hbA hw.2.2.2.1 hn304 dL_law_302 ?_
  refine lv_aload_n hx hb dL_law_303 rfl (lv_at hl 0 rfl) ?_
  refine lv_iload_n hx hb dL_law_304 rfl (lv_at hl 3 rfl) ?_
  refine lv_iconst (v := 4) hx hb dL_law_305 (by decide) ?_
  refine lv_iadd hx hb dL_law_306 ?_
  obtain ⟨hn305, h⟩ := ix_i h
  refine va_sld hx hb hX hbl hbA hw.2.2.2.1 hn305 dL_law_307 ?_
  obtain ⟨r307, D308, hq306, h⟩ := cq_i h
  refine r_cV (st' := [.int r307, .int xs0]) [.int (xs (x3 + (1 : Int32)).toNatClampNeg), .int (xs (x3 + (2 : Int32)).toNatClampNeg), .int (xs (x3 + (3 : Int32)).toNatClampNeg), .int (xs (x3 + (4 : Int32)).toNatClampNeg)] [.int xs0] hC hw kc_8 hi2 (k_X9_table _ hi2 hq306) mk_X9_table lk_1283 ⟨(by decide), (by decide)⟩ (Al.leL hc ho hE) rfl hl.1 rfl rfl (Nat.le_of_ble_eq_true rfl) dL_law_308 (fun hP H locs hw => ?_)
  refine lv_icmp_eq (tgt := 725) hx hb dL_law_311 (by decide) (fun c309 => ?_) (fun c309 => ?_)
  · have h := i_yes c309 h
    exact w_law_725 hC hX hbl hbA ho hk18 hm18 o1 a1 o2 a2 x3 _ _ _ _ _ _ _ _ hi1 hi2 hw hc (lv_sub hl [0, 1, 2, 3] rfl) h --j310
  · have h := i_no c309 h
    refine lv_iconst (v := 0) hx hb dL_law_314 (by decide) ?_
    exact absurd (Prod.mk.inj (Option.some.inj h)).1 (by decide) --j311
theorem mn_law_430 {xs : Nat → Int32} {L : Nat} {r : Int32} {S' : sh} {D' : dt} {k18 : Nat → Nat → Int32 → sh → dt → Option (Int32 × sh × dt)} (hk18 : ∀ (o1 : Nat) (o2 : Nat) (x3 : Int32) (S : sh) (D : dt), k18 o1 o2 x3 S D = some (r, S', D') → Ext S S') {o1 : Nat} {o2 : Nat} {x3 : Int32} {xs0 : Int32} {S : sh} {D : dt} (h : f_law_430 xs L k18 o1 o2 x3 xs0 S D = some (r, S', D')) : Ext S S' := by
  unfold f_law_430 at h
  obtain ⟨r313, D314, hq312, h⟩ := cq_i h
  rcases (Decidable.em (xs0 = r313)) with c315 | c315
  · have h := i_yes c315 h
    exact (mn_law_725 hk18 h)
  · have h := i_no c315 h
    cases h; exact Ext.rf _
set_option maxHeartbeats 8000000 in
set_option maxRecDepth 100000 in
theorem w_law_430 {b L : Nat} {xs : Nat → Int32} {S' : sh} {D' : dt} {S0 : sh} {ad0 : Nat → Nat} (hC : Cx RL cL_law 4 ret p s m #[Value.ref b] meth c) (hX : va_X b L xs s s.heap) (hbl : b < s.heap.size) (hbA : ¬ (fun q : Nat => s.heap.size ≤ q) b) (ho : sN S' - sN S0 ≤ 600000 ∧ sZ S' - sZ S0 ≤ 7302250) {k18 : Nat → Nat → Int32 → sh → dt → Option (Int32 × sh × dt)} (hk18 : ∀ (o1 a1 : Nat) (o2 a2 : Nat) (x3 : Int32) (S : sh) (D : dt) (ad : Nat → Nat) (H : Heap) (locs : List Loc) (ls : Array Slot) (cells slots : Nat), Is S ad o1 a1 7 → Is S ad o2 a2 8 → Wd G cA S D ad (fun q => s.heap.size ≤ q) s H locs → Al S0 ad0 S ad cells slots → lv_has ls 4 [(0, .ref b), (1, .ref a1), (2, .ref a2), (3, .int x3)] → k18 o1 o2 x3 S D = some (1, S', D') → W p l e room_1 s m #[Value.ref b] below meth c H locs cells slots (lw_Z below #[Value.ref b] s) (F0 m 18 ls [])) (hm18 : ∀ (o1 : Nat) (o2 : Nat) (x3 : Int32) (S : sh) (D : dt), k18 o1 o2 x3 S D = some (1, S', D') → Ext S S') : ∀ (o1 a1 : Nat) (o2 a2 : Nat) (x3 : Int32) (xs0 : Int32) (S : sh) (D : dt) (ad : Nat → Nat) (H : Heap) (locs : List Loc) (ls : Array Slot) (cells slots : Nat), Is S ad o1 a1 7 → Is S ad o2 a2 8 → Wd G cA S D ad (fun q => s.heap.size ≤ q) s H locs → Al S0 ad0 S ad cells slots → lv_has ls 4 [(0, .ref b), (1, .ref a1), (2, .ref a2), (3, .int x3)] → f_law_430 xs L k18 o1 o2 x3 xs0 S D = some (1, S', D') → W p l e room_1 s m #[Value.ref b] below meth c H locs cells slots (lw_Z below #[Value.ref b] s) (F0 m 430 ls [.int xs0]) := by
  obtain ⟨hx, hb, -⟩ := id hC
  intro o1 a1 o2 a2 x3 xs0 S D ad H locs ls cells slots hi1 hi2 hw hc hl h
  have hE : Ext S S' := mn_law_430 hm18 h
  unfold f_law_430 at h
  refine lv_aload_n hx hb dL_law_430 rfl (lv_at hl 2 rfl) ?_
  obtain ⟨r313, D314, hq312, h⟩ := cq_i h
  refine r_cV (st' := [.int r313, .int xs0]) [] [.int xs0] hC hw kc_8 hi2 (k_X9_judge _ hi2 hq312) mk_X9_judge lk_1447 ⟨(by decide), (by decide)⟩ (Al.leL hc ho hE) rfl hl.1 rfl rfl (Nat.le_of_ble_eq_true rfl) dL_law_431 (fun hP H locs hw => ?_)
  refine lv_icmp_eq (tgt := 725) hx hb dL_law_434 (by decide) (fun c315 => ?_) (fun c315 => ?_)
  · have h := i_yes c315 h
    exact w_law_725 hC hX hbl hbA ho hk18 hm18 o1 a1 o2 a2 x3 _ _ _ _ _ _ _ _ hi1 hi2 hw hc (lv_sub hl [0, 1, 2, 3] rfl) h --j316
  · have h := i_no c315 h
    refine lv_iconst (v := 0) hx hb dL_law_437 (by decide) ?_
    exact absurd (Prod.mk.inj (Option.some.inj h)).1 (by decide) --j317
theorem mn_law_18 {xs : Nat → Int32} {L : Nat} {r : Int32} {S' : sh} {D' : dt} : ∀ (n : Nat) (o1 : Nat) (o2 : Nat) (x3 : Int32) (S : sh) (D : dt), f_law_18 xs L n o1 o2 x3 S D = some (r, S', D') → Ext S S' := by
  intro n
  induction n with
  | zero =>
    intro o1 o2 x3 S D h
    rw [f_law_18.eq_1] at h
    cases h
  | succ n ih =>
    intro o1 o2 x3 S D h
    rw [f_law_18.eq_2] at h
    rcases (Decidable.em (((Int32.ofNat L) - (6 : Int32)) < x3)) with c318 | c318
    · have h := i_yes c318 h
      cases h
      exact Ext.rf _
    · have h := i_no c318 h
      obtain ⟨hn319, h⟩ := ix_i h
      by_cases c320 : ((xs x3.toNatClampNeg) &&& (31 : Int32)) = 0
      · have h := i_yes c320 h
        obtain ⟨hn321, h⟩ := ix_i h
        obtain ⟨hn322, h⟩ := ix_i h
        obtain ⟨hn323, h⟩ := ix_i h
        obtain ⟨hn324, h⟩ := ix_i h
        obtain ⟨r326, D327, hq325, h⟩ := cq_i h
        obtain ⟨hn328, h⟩ := ix_i h
        obtain ⟨hn329, h⟩ := ix_i h
        obtain ⟨hn330, h⟩ := ix_i h
        obtain ⟨hn331, h⟩ := ix_i h
        obtain ⟨r333, D334, hq332, h⟩ := cq_i h
        rcases (Decidable.em (r326 = r333)) with c335 | c335
        · have h := i_yes c335 h
          exact (mn_law_725 ih h)
        · have h := i_no c335 h
          cases h; exact Ext.rf _
      have h := i_no c320 h
      by_cases c338 : ((xs x3.toNatClampNeg) &&& (31 : Int32)) = 1
      · have h := i_yes c338 h
        obtain ⟨hn339, h⟩ := ix_i h
        obtain ⟨hn340, h⟩ := ix_i h
        obtain ⟨hn341, h⟩ := ix_i h
        obtain ⟨hn342, h⟩ := ix_i h
        obtain ⟨hn343, h⟩ := ix_i h
        obtain ⟨r345, D346, hq344, h⟩ := cq_i h
        obtain ⟨hn347, h⟩ := ix_i h
        obtain ⟨hn348, h⟩ := ix_i h
        obtain ⟨hn349, h⟩ := ix_i h
        obtain ⟨hn350, h⟩ := ix_i h
        obtain ⟨hn351, h⟩ := ix_i h
        obtain ⟨r353, D354, hq352, h⟩ := cq_i h
        rcases (Decidable.em (r345 = r353)) with c355 | c355
        · have h := i_yes c355 h
          exact (mn_law_725 ih h)
        · have h := i_no c355 h
          cases h; exact Ext.rf _
      have h := i_no c338 h
      by_cases c358 : ((xs x3.toNatClampNeg) &&& (31 : Int32)) = 2
      · have h := i_yes c358 h
        obtain ⟨hn359, h⟩ := ix_i h
        obtain ⟨r361, D362, hq360, h⟩ := cq_i h
        obtain ⟨hn363, h⟩ := ix_i h
        obtain ⟨r365, D366, hq364, h⟩ := cq_i h
        rcases (Decidable.em (r361 = r365)) with c367 | c367
        · have h := i_yes c367 h
          exact (mn_law_725 ih h)
        · have h := i_no c367 h
          cases h; exact Ext.rf _
      have h := i_no c358 h
      by_cases c370 : ((xs x3.toNatClampNeg) &&& (31 : Int32)) = 3
      · have h := i_yes c370 h
        obtain ⟨hn371, h⟩ := ix_i h
        obtain ⟨hn372, h⟩ := ix_i h
        obtain ⟨hn373, h⟩ := ix_i h
        obtain ⟨hn374, h⟩ := ix_i h
        obtain ⟨r376, S378, D377, hq375, h⟩ := c3_i h
        have hA := mn_X8_table_0 hq375
        exact hA.tr (mn_law_287 ih h)
      have h := i_no c370 h
      by_cases c385 : ((xs x3.toNatClampNeg) &&& (31 : Int32)) = 4
      · have h := i_yes c385 h
        obtain ⟨hn386, h⟩ := ix_i h
        obtain ⟨r388, D389, hq387, h⟩ := cq_i h
        obtain ⟨hn390, h⟩ := ix_i h
        obtain ⟨r392, D393, hq391, h⟩ := cq_i h
        rcases (Decidable.em (r388 = r392)) with c394 | c394
        · have h := i_yes c394 h
          exact (mn_law_725 ih h)
        · have h := i_no c394 h
          cases h; exact Ext.rf _
      have h := i_no c385 h
      by_cases c397 : ((xs x3.toNatClampNeg) &&& (31 : Int32)) = 5
      · have h := i_yes c397 h
        obtain ⟨hn398, h⟩ := ix_i h
        obtain ⟨hn399, h⟩ := ix_i h
        obtain ⟨r401, D402, hq400, h⟩ := cq_i h
        obtain ⟨hn403, h⟩ := ix_i h
        obtain ⟨hn404, h⟩ := ix_i h
        obtain ⟨r406, D407, hq405, h⟩ := cq_i h
        rcases (Decidable.em (r401 = r406)) with c408 | c408
        · have h := i_yes c408 h
          exact (mn_law_725 ih h)
        · have h := i_no c408 h
          cases h; exact Ext.rf _
      have h := i_no c397 h
      by_cases c411 : ((xs x3.toNatClampNeg) &&& (31 : Int32)) = 6
      · have h := i_yes c411 h
        obtain ⟨hn412, h⟩ := ix_i h
        obtain ⟨hn413, h⟩ := ix_i h
        obtain ⟨r415, D416, hq414, h⟩ := cq_i h
        obtain ⟨hn417, h⟩ := ix_i h
        obtain ⟨hn418, h⟩ := ix_i h
        obtain ⟨r420, D421, hq419, h⟩ := cq_i h
        rcases (Decidable.em ((lg_cmp r415 r420) = 0)) with c422 | c422
        · have h := i_yes c422 h
          exact (mn_law_725 ih h)
        · have h := i_no c422 h
          cases h; exact Ext.rf _
      have h := i_no c411 h
      by_cases c425 : ((xs x3.toNatClampNeg) &&& (31 : Int32)) = 7
      · have h := i_yes c425 h
        obtain ⟨r427, S429, D428, hq426, h⟩ := c3_i h
        have hA := mn_X8_judge_0 hq426
        exact hA.tr (mn_law_430 ih h)
      have h := i_no c425 h
      by_cases c436 : ((xs x3.toNatClampNeg) &&& (31 : Int32)) = 8
      · have h := i_yes c436 h
        obtain ⟨r438, D439, hq437, h⟩ := cq_i h
        obtain ⟨r441, D442, hq440, h⟩ := cq_i h
        rcases (Decidable.em (r438 = r441)) with c443 | c443
        · have h := i_yes c443 h
          exact (mn_law_725 ih h)
        · have h := i_no c443 h
          cases h; exact Ext.rf _
      have h := i_no c436 h
      by_cases c446 : ((xs x3.toNatClampNeg) &&& (31 : Int32)) = 9
      · have h := i_yes c446 h
        obtain ⟨hn447, h⟩ := ix_i h
        obtain ⟨hn448, h⟩ := ix_i h
        obtain ⟨hn449, h⟩ := ix_i h
        obtain ⟨r451, D452, hq450, h⟩ := cq_i h
        obtain ⟨hn453, h⟩ := ix_i h
        obtain ⟨hn454, h⟩ := ix_i h
        obtain ⟨hn455, h⟩ := ix_i h
        obtain ⟨r457, D458, hq456, h⟩ := cq_i h
        rcases (Decidable.em ((lg_cmp r451 r457) = 0)) with c459 | c459
        · have h := i_yes c459 h
          exact (mn_law_725 ih h)
        · have h := i_no c459 h
          cases h; exact Ext.rf _
      have h := i_no c446 h
      by_cases c462 : ((xs x3.toNatClampNeg) &&& (31 : Int32)) = 10
      · have h := i_yes c462 h
        obtain ⟨hn463, h⟩ := ix_i h
        obtain ⟨hn464, h⟩ := ix_i h
        obtain ⟨r466, D467, hq465, h⟩ := cq_i h
        obtain ⟨hn468, h⟩ := ix_i h
        obtain ⟨hn469, h⟩ := ix_i h
        obtain ⟨r471, D472, hq470, h⟩ := cq_i h
        rcases (Decidable.em (r466 = r471)) with c473 | c473
        · have h := i_yes c473 h
          exact (mn_law_725 ih h)
        · have h := i_no c473 h
          cases h; exact Ext.rf _
      have h := i_no c462 h
      by_cases c476 : ((xs x3.toNatClampNeg) &&& (31 : Int32)) = 11
      · have h := i_yes c476 h
        obtain ⟨r478, D479, hq477, h⟩ := cq_i h
        obtain ⟨r481, D482, hq480, h⟩ := cq_i h
        rcases (Decidable.em (r478 = r481)) with c483 | c483
        · have h := i_yes c483 h
          exact (mn_law_725 ih h)
        · have h := i_no c483 h
          cases h; exact Ext.rf _
      have h := i_no c476 h
      by_cases c486 : ((xs x3.toNatClampNeg) &&& (31 : Int32)) = 12
      · have h := i_yes c486 h
        obtain ⟨r488, D489, hq487, h⟩ := cq_i h
        obtain ⟨r491, D492, hq490, h⟩ := cq_i h
        rcases (Decidable.em (r488 = r491)) with c493 | c493
        · have h := i_yes c493 h
          exact (mn_law_725 ih h)
        · have h := i_no c493 h
          cases h; exact Ext.rf _
      have h := i_no c486 h
      by_cases c496 : ((xs x3.toNatClampNeg) &&& (31 : Int32)) = 13
      · have h := i_yes c496 h
        obtain ⟨hn497, h⟩ := ix_i h
        obtain ⟨r499, D500, hq498, h⟩ := cq_i h
        obtain ⟨hn501, h⟩ := ix_i h
        obtain ⟨r503, D504, hq502, h⟩ := cq_i h
        rcases (Decidable.em (r499 = r503)) with c505 | c505
        · have h := i_yes c505 h
          exact (mn_law_725 ih h)
        · have h := i_no c505 h
          cases h; exact Ext.rf _
      have h := i_no c496 h
      by_cases c508 : ((xs x3.toNatClampNeg) &&& (31 : Int32)) = 14
      · have h := i_yes c508 h
        obtain ⟨hn509, h⟩ := ix_i h
        obtain ⟨r511, D512, hq510, h⟩ := cq_i h
        obtain ⟨hn513, h⟩ := ix_i h
        obtain ⟨r515, D516, hq514, h⟩ := cq_i h
        rcases (Decidable.em (r511 = r515)) with c517 | c517
        · have h := i_yes c517 h
          exact (mn_law_725 ih h)
        · have h := i_no c517 h
          cases h; exact Ext.rf _
      have h := i_no c508 h
      by_cases c520 : ((xs x3.toNatClampNeg) &&& (31 : Int32)) = 15
      · have h := i_yes c520 h
        obtain ⟨hn521, h⟩ := ix_i h
        obtain ⟨r523, D524, hq522, h⟩ := cq_i h
        obtain ⟨hn525, h⟩ := ix_i h
        obtain ⟨r527, D528, hq526, h⟩ := cq_i h
        rcases (Decidable.em ((lg_cmp r523 r527) = 0)) with c529 | c529
        · have h := i_yes c529 h
          exact (mn_law_725 ih h)
        · have h := i_no c529 h
          cases h; exact Ext.rf _
      have h := i_no c520 h
      by_cases c532 : ((xs x3.toNatClampNeg) &&& (31 : Int32)) = 16
      · have h := i_yes c532 h
        obtain ⟨hn533, h⟩ := ix_i h
        obtain ⟨hn534, h⟩ := ix_i h
        obtain ⟨r536, D537, hq535, h⟩ := cq_i h
        obtain ⟨hn538, h⟩ := ix_i h
        obtain ⟨hn539, h⟩ := ix_i h
        obtain ⟨r541, D542, hq540, h⟩ := cq_i h
        rcases (Decidable.em (r536 = r541)) with c543 | c543
        · have h := i_yes c543 h
          exact (mn_law_725 ih h)
        · have h := i_no c543 h
          cases h; exact Ext.rf _
      have h := i_no c532 h
      by_cases c546 : ((xs x3.toNatClampNeg) &&& (31 : Int32)) = 17
      · have h := i_yes c546 h
        obtain ⟨hn547, h⟩ := ix_i h
        obtain ⟨r549, D550, hq548, h⟩ := cq_i h
        obtain ⟨hn551, h⟩ := ix_i h
        obtain ⟨r553, D554, hq552, h⟩ := cq_i h
        rcases (Decidable.em ((lg_cmp r549 r553) = 0)) with c555 | c555
        · have h := i_yes c555 h
          exact (mn_law_725 ih h)
        · have h := i_no c555 h
          cases h; exact Ext.rf _
      have h := i_no c546 h
      by_cases c558 : ((xs x3.toNatClampNeg) &&& (31 : Int32)) = 18
      · have h := i_yes c558 h
        obtain ⟨hn559, h⟩ := ix_i h
        obtain ⟨r561, D562, hq560, h⟩ := cq_i h
        obtain ⟨hn563, h⟩ := ix_i h
        obtain ⟨r565, D566, hq564, h⟩ := cq_i h
        rcases (Decidable.em (r561 = r565)) with c567 | c567
        · have h := i_yes c567 h
          exact (mn_law_725 ih h)
        · have h := i_no c567 h
          cases h; exact Ext.rf _
      have h := i_no c558 h
      exact (mn_law_725 ih h)
set_option maxHeartbeats 8000000 in
set_option maxRecDepth 100000 in
theorem w_law_18 {b L : Nat} {xs : Nat → Int32} {S' : sh} {D' : dt} {S0 : sh} {ad0 : Nat → Nat} (hC : Cx RL cL_law 4 ret p s m #[Value.ref b] meth c) (hX : va_X b L xs s s.heap) (hbl : b < s.heap.size) (hbA : ¬ (fun q : Nat => s.heap.size ≤ q) b) (ho : sN S' - sN S0 ≤ 600000 ∧ sZ S' - sZ S0 ≤ 7302250) : ∀ (n : Nat), ∀ (o1 a1 : Nat) (o2 a2 : Nat) (x3 : Int32) (S : sh) (D : dt) (ad : Nat → Nat) (H : Heap) (locs : List Loc) (ls : Array Slot) (cells slots : Nat), Is S ad o1 a1 7 → Is S ad o2 a2 8 → Wd G cA S D ad (fun q => s.heap.size ≤ q) s H locs → Al S0 ad0 S ad cells slots → lv_has ls 4 [(0, .ref b), (1, .ref a1), (2, .ref a2), (3, .int x3)] → f_law_18 xs L n o1 o2 x3 S D = some (1, S', D') → W p l e room_1 s m #[Value.ref b] below meth c H locs cells slots (lw_Z below #[Value.ref b] s) (F0 m 18 ls []) := by
  obtain ⟨hx, hb, -⟩ := id hC
  intro n
  induction n with
  | zero =>
    intro o1 a1 o2 a2 x3 S D ad H locs ls cells slots hi1 hi2 hw hc hl h
    rw [f_law_18.eq_1] at h
    cases h
  | succ n ih =>
    intro o1 a1 o2 a2 x3 S D ad H locs ls cells slots hi1 hi2 hw hc hl h
    have hE : Ext S S' := mn_law_18  (n + 1) _ _ _ _ _ h
    rw [f_law_18.eq_2] at h
    refine lv_iload_n hx hb dL_law_18 rfl (lv_at hl 3 rfl) ?_
    refine lv_aload_n hx hb dL_law_19 rfl (lv_at hl 0 rfl) ?_
    refine va_slen hx hb hX hbl hbA hw.2.2.2.1 dL_law_20 ?_
    refine lv_bipush (v := 6) hx hb dL_law_21 (by decide) ?_
    refine lv_isub hx hb dL_law_23 ?_
    refine lv_icmp_gt (tgt := 731) hx hb dL_law_24 (by decide) (fun c318 => ?_) (fun c318 => ?_)
    · have h := i_yes c318 h
      refine lv_iconst (v := 1) hx hb dL_law_731 (by decide) ?_
      cases h
      exact r_lawret hC hw hc ho dL_law_732
    · have h := i_no c318 h
      refine lv_aload_n hx hb dL_law_27 rfl (lv_at hl 0 rfl) ?_
      refine lv_iload_n hx hb dL_law_28 rfl (lv_at hl 3 rfl) ?_
      obtain ⟨hn319, h⟩ := ix_i h
      refine va_sld hx hb hX hbl hbA hw.2.2.2.1 hn319 dL_law_29 ?_
      refine lv_bipush (v := 31) hx hb dL_law_30 (by decide) ?_
      refine lv_iand hx hb dL_law_32 ?_
      by_cases c320 : ((xs x3.toNatClampNeg) &&& (31 : Int32)) = 0
      · have h := i_yes c320 h
        refine lv_tableIn (off := 91) (tgt := 124) hx hb dL_law_33 (by rw [c320]; decide) (by rw [c320]; decide) (by rw [c320] <;> rfl) (by decide) ?_
        refine lv_aload_n hx hb dL_law_124 rfl (lv_at hl 1 rfl) ?_
        refine lv_aload_n hx hb dL_law_125 rfl (lv_at hl 0 rfl) ?_
        refine lv_iload_n hx hb dL_law_126 rfl (lv_at hl 3 rfl) ?_
        refine lv_iconst (v := 1) hx hb dL_law_127 (by decide) ?_
        refine lv_iadd hx hb dL_law_128 ?_
        obtain ⟨hn321, h⟩ := ix_i h
        refine va_sld hx hb hX hbl hbA hw.2.2.2.1 hn321 dL_law_129 ?_
        refine lv_aload_n hx hb dL_law_130 rfl (lv_at hl 0 rfl) ?_
        refine lv_iload_n hx hb dL_law_131 rfl (lv_at hl 3 rfl) ?_
        refine lv_iconst (v := 2) hx hb dL_law_132 (by decide) ?_
        refine lv_iadd hx hb dL_law_133 ?_
        obtain ⟨hn322, h⟩ := ix_i h
        refine va_sld hx hb hX hbl hbA hw.2.2.2.1 hn322 dL_law_134 ?_
        refine lv_aload_n hx hb dL_law_135 rfl (lv_at hl 0 rfl) ?_
        refine lv_iload_n hx hb dL_law_136 rfl (lv_at hl 3 rfl) ?_
        refine lv_iconst (v := 3) hx hb dL_law_137 (by decide) ?_
        refine lv_iadd hx hb dL_law_138 ?_
        obtain ⟨hn323, h⟩ := ix_i h
        refine va_sld hx hb hX hbl hbA hw.2.2.2.1 hn323 dL_law_139 ?_
        refine lv_aload_n hx hb dL_law_140 rfl (lv_at hl 0 rfl) ?_
        refine lv_iload_n hx hb dL_law_141 rfl (lv_at hl 3 rfl) ?_
        refine lv_iconst (v := 4) hx hb dL_law_142 (by decide) ?_
        refine lv_iadd hx hb dL_law_143 ?_
        obtain ⟨hn324, h⟩ := ix_i h
        refine va_sld hx hb hX hbl hbA hw.2.2.2.1 hn324 dL_law_144 ?_
        obtain ⟨r326, D327, hq325, h⟩ := cq_i h
        refine r_cV (st' := [.int r326]) [.int (xs (x3 + (1 : Int32)).toNatClampNeg), .int (xs (x3 + (2 : Int32)).toNatClampNeg), .int (xs (x3 + (3 : Int32)).toNatClampNeg), .int (xs (x3 + (4 : Int32)).toNatClampNeg)] [] hC hw kc_7 hi1 (k_X8_feed _ hi1 hq325) mk_X8_feed lk_368 ⟨(by decide), (by decide)⟩ (Al.leL hc ho hE) rfl hl.1 rfl rfl (Nat.le_of_ble_eq_true rfl) dL_law_145 (fun hP H locs hw => ?_)
        refine lv_aload_n hx hb dL_law_148 rfl (lv_at hl 2 rfl) ?_
        refine lv_aload_n hx hb dL_law_149 rfl (lv_at hl 0 rfl) ?_
        refine lv_iload_n hx hb dL_law_150 rfl (lv_at hl 3 rfl) ?_
        refine lv_iconst (v := 1) hx hb dL_law_151 (by decide) ?_
        refine lv_iadd hx hb dL_law_152 ?_
        obtain ⟨hn328, h⟩ := ix_i h
        refine va_sld hx hb hX hbl hbA hw.2.2.2.1 hn328 dL_law_153 ?_
        refine lv_aload_n hx hb dL_law_154 rfl (lv_at hl 0 rfl) ?_
        refine lv_iload_n hx hb dL_law_155 rfl (lv_at hl 3 rfl) ?_
        refine lv_iconst (v := 2) hx hb dL_law_156 (by decide) ?_
        refine lv_iadd hx hb dL_law_157 ?_
        obtain ⟨hn329, h⟩ := ix_i h
        refine va_sld hx hb hX hbl hbA hw.2.2.2.1 hn329 dL_law_158 ?_
        refine lv_aload_n hx hb dL_law_159 rfl (lv_at hl 0 rfl) ?_
        refine lv_iload_n hx hb dL_law_160 rfl (lv_at hl 3 rfl) ?_
        refine lv_iconst (v := 3) hx hb dL_law_161 (by decide) ?_
        refine lv_iadd hx hb dL_law_162 ?_
        obtain ⟨hn330, h⟩ := ix_i h
        refine va_sld hx hb hX hbl hbA hw.2.2.2.1 hn330 dL_law_163 ?_
        refine lv_aload_n hx hb dL_law_164 rfl (lv_at hl 0 rfl) ?_
        refine lv_iload_n hx hb dL_law_165 rfl (lv_at hl 3 rfl) ?_
        refine lv_iconst (v := 4) hx hb dL_law_166 (by decide) ?_
        refine lv_iadd hx hb dL_law_167 ?_
        obtain ⟨hn331, h⟩ := ix_i h
        refine va_sld hx hb hX hbl hbA hw.2.2.2.1 hn331 dL_law_168 ?_
        obtain ⟨r333, D334, hq332, h⟩ := cq_i h
        refine r_cV (st' := [.int r333, .int r326]) [.int (xs (x3 + (1 : Int32)).toNatClampNeg), .int (xs (x3 + (2 : Int32)).toNatClampNeg), .int (xs (x3 + (3 : Int32)).toNatClampNeg), .int (xs (x3 + (4 : Int32)).toNatClampNeg)] [.int r326] hC hw kc_8 hi2 (k_X9_feed _ hi2 hq332) mk_X9_feed lk_1232 ⟨(by decide), (by decide)⟩ (Al.leL hc ho hE) rfl hl.1 rfl rfl (Nat.le_of_ble_eq_true rfl) dL_law_169 (fun hP H locs hw => ?_)
        refine lv_icmp_eq (tgt := 725) hx hb dL_law_172 (by decide) (fun c335 => ?_) (fun c335 => ?_)
        · have h := i_yes c335 h
          exact w_law_725 hC hX hbl hbA ho ih (mn_law_18 n) o1 a1 o2 a2 x3 _ _ _ _ _ _ _ _ hi1 hi2 hw hc (lv_sub hl [0, 1, 2, 3] rfl) h --j336
        · have h := i_no c335 h
          refine lv_iconst (v := 0) hx hb dL_law_175 (by decide) ?_
          exact absurd (Prod.mk.inj (Option.some.inj h)).1 (by decide) --j337
      have h := i_no c320 h
      by_cases c338 : ((xs x3.toNatClampNeg) &&& (31 : Int32)) = 1
      · have h := i_yes c338 h
        refine lv_tableIn (off := 144) (tgt := 177) hx hb dL_law_33 (by rw [c338]; decide) (by rw [c338]; decide) (by rw [c338] <;> rfl) (by decide) ?_
        refine lv_aload_n hx hb dL_law_177 rfl (lv_at hl 1 rfl) ?_
        refine lv_aload_n hx hb dL_law_178 rfl (lv_at hl 0 rfl) ?_
        refine lv_iload_n hx hb dL_law_179 rfl (lv_at hl 3 rfl) ?_
        refine lv_iconst (v := 1) hx hb dL_law_180 (by decide) ?_
        refine lv_iadd hx hb dL_law_181 ?_
        obtain ⟨hn339, h⟩ := ix_i h
        refine va_sld hx hb hX hbl hbA hw.2.2.2.1 hn339 dL_law_182 ?_
        refine lv_aload_n hx hb dL_law_183 rfl (lv_at hl 0 rfl) ?_
        refine lv_iload_n hx hb dL_law_184 rfl (lv_at hl 3 rfl) ?_
        refine lv_iconst (v := 2) hx hb dL_law_185 (by decide) ?_
        refine lv_iadd hx hb dL_law_186 ?_
        obtain ⟨hn340, h⟩ := ix_i h
        refine va_sld hx hb hX hbl hbA hw.2.2.2.1 hn340 dL_law_187 ?_
        refine lv_aload_n hx hb dL_law_188 rfl (lv_at hl 0 rfl) ?_
        refine lv_iload_n hx hb dL_law_189 rfl (lv_at hl 3 rfl) ?_
        refine lv_iconst (v := 3) hx hb dL_law_190 (by decide) ?_
        refine lv_iadd hx hb dL_law_191 ?_
        obtain ⟨hn341, h⟩ := ix_i h
        refine va_sld hx hb hX hbl hbA hw.2.2.2.1 hn341 dL_law_192 ?_
        refine lv_aload_n hx hb dL_law_193 rfl (lv_at hl 0 rfl) ?_
        refine lv_iload_n hx hb dL_law_194 rfl (lv_at hl 3 rfl) ?_
        refine lv_iconst (v := 4) hx hb dL_law_195 (by decide) ?_
        refine lv_iadd hx hb dL_law_196 ?_
        obtain ⟨hn342, h⟩ := ix_i h
        refine va_sld hx hb hX hbl hbA hw.2.2.2.1 hn342 dL_law_197 ?_
        refine lv_aload_n hx hb dL_law_198 rfl (lv_at hl 0 rfl) ?_
        refine lv_iload_n hx hb dL_law_199 rfl (lv_at hl 3 rfl) ?_
        refine lv_iconst (v := 5) hx hb dL_law_200 (by decide) ?_
        refine lv_iadd hx hb dL_law_201 ?_
        obtain ⟨hn343, h⟩ := ix_i h
        refine va_sld hx hb hX hbl hbA hw.2.2.2.1 hn343 dL_law_202 ?_
        obtain ⟨r345, D346, hq344, h⟩ := cq_i h
        refine r_cV (st' := [.int r345]) [.int (xs (x3 + (1 : Int32)).toNatClampNeg), .int (xs (x3 + (2 : Int32)).toNatClampNeg), .int (xs (x3 + (3 : Int32)).toNatClampNeg), .int (xs (x3 + (4 : Int32)).toNatClampNeg), .int (xs (x3 + (5 : Int32)).toNatClampNeg)] [] hC hw kc_7 hi1 (k_X8_alter _ hi1 hq344) mk_X8_alter lk_383 ⟨(by decide), (by decide)⟩ (Al.leL hc ho hE) rfl hl.1 rfl rfl (Nat.le_of_ble_eq_true rfl) dL_law_203 (fun hP H locs hw => ?_)
        refine lv_aload_n hx hb dL_law_206 rfl (lv_at hl 2 rfl) ?_
        refine lv_aload_n hx hb dL_law_207 rfl (lv_at hl 0 rfl) ?_
        refine lv_iload_n hx hb dL_law_208 rfl (lv_at hl 3 rfl) ?_
        refine lv_iconst (v := 1) hx hb dL_law_209 (by decide) ?_
        refine lv_iadd hx hb dL_law_210 ?_
        obtain ⟨hn347, h⟩ := ix_i h
        refine va_sld hx hb hX hbl hbA hw.2.2.2.1 hn347 dL_law_211 ?_
        refine lv_aload_n hx hb dL_law_212 rfl (lv_at hl 0 rfl) ?_
        refine lv_iload_n hx hb dL_law_213 rfl (lv_at hl 3 rfl) ?_
        refine lv_iconst (v := 2) hx hb dL_law_214 (by decide) ?_
        refine lv_iadd hx hb dL_law_215 ?_
        obtain ⟨hn348, h⟩ := ix_i h
        refine va_sld hx hb hX hbl hbA hw.2.2.2.1 hn348 dL_law_216 ?_
        refine lv_aload_n hx hb dL_law_217 rfl (lv_at hl 0 rfl) ?_
        refine lv_iload_n hx hb dL_law_218 rfl (lv_at hl 3 rfl) ?_
        refine lv_iconst (v := 3) hx hb dL_law_219 (by decide) ?_
        refine lv_iadd hx hb dL_law_220 ?_
        obtain ⟨hn349, h⟩ := ix_i h
        refine va_sld hx hb hX hbl hbA hw.2.2.2.1 hn349 dL_law_221 ?_
        refine lv_aload_n hx hb dL_law_222 rfl (lv_at hl 0 rfl) ?_
        refine lv_iload_n hx hb dL_law_223 rfl (lv_at hl 3 rfl) ?_
        refine lv_iconst (v := 4) hx hb dL_law_224 (by decide) ?_
        refine lv_iadd hx hb dL_law_225 ?_
        obtain ⟨hn350, h⟩ := ix_i h
        refine va_sld hx hb hX hbl hbA hw.2.2.2.1 hn350 dL_law_226 ?_
        refine lv_aload_n hx hb dL_law_227 rfl (lv_at hl 0 rfl) ?_
        refine lv_iload_n hx hb dL_law_228 rfl (lv_at hl 3 rfl) ?_
        refine lv_iconst (v := 5) hx hb dL_law_229 (by decide) ?_
        refine lv_iadd hx hb dL_law_230 ?_
        obtain ⟨hn351, h⟩ := ix_i h
        refine va_sld hx hb hX hbl hbA hw.2.2.2.1 hn351 dL_law_231 ?_
        obtain ⟨r353, D354, hq352, h⟩ := cq_i h
        refine r_cV (st' := [.int r353, .int r345]) [.int (xs (x3 + (1 : Int32)).toNatClampNeg), .int (xs (x3 + (2 : Int32)).toNatClampNeg), .int (xs (x3 + (3 : Int32)).toNatClampNeg), .int (xs (x3 + (4 : Int32)).toNatClampNeg), .int (xs (x3 + (5 : Int32)).toNatClampNeg)] [.int r345] hC hw kc_8 hi2 (k_X9_alter _ hi2 hq352) mk_X9_alter lk_1249 ⟨(by decide), (by decide)⟩ (Al.leL hc ho hE) rfl hl.1 rfl rfl (Nat.le_of_ble_eq_true rfl) dL_law_232 (fun hP H locs hw => ?_)
        refine lv_icmp_eq (tgt := 725) hx hb dL_law_235 (by decide) (fun c355 => ?_) (fun c355 => ?_)
        · have h := i_yes c355 h
          exact w_law_725 hC hX hbl hbA ho ih (mn_law_18 n) o1 a1 o2 a2 x3 _ _ _ _ _ _ _ _ hi1 hi2 hw hc (lv_sub hl [0, 1, 2, 3] rfl) h --j356
        · have h := i_no c355 h
          refine lv_iconst (v := 0) hx hb dL_law_238 (by decide) ?_
          exact absurd (Prod.mk.inj (Option.some.inj h)).1 (by decide) --j357
      have h := i_no c338 h
      by_cases c358 : ((xs x3.toNatClampNeg) &&& (31 : Int32)) = 2
      · have h := i_yes c358 h
        refine lv_tableIn (off := 207) (tgt := 240) hx hb dL_law_33 (by rw [c358]; decide) (by rw [c358]; decide) (by rw [c358] <;> rfl) (by decide) ?_
        refine lv_aload_n hx hb dL_law_240 rfl (lv_at hl 1 rfl) ?_
        refine lv_aload_n hx hb dL_law_241 rfl (lv_at hl 0 rfl) ?_
        refine lv_iload_n hx hb dL_law_242 rfl (lv_at hl 3 rfl) ?_
        refine lv_iconst (v := 1) hx hb dL_law_243 (by decide) ?_
        refine lv_iadd hx hb dL_law_244 ?_
        obtain ⟨hn359, h⟩ := ix_i h
        refine va_sld hx hb hX hbl hbA hw.2.2.2.1 hn359 dL_law_245 ?_
        obtain ⟨r361, D362, hq360, h⟩ := cq_i h
        refine r_cV (st' := [.int r361]) [.int (xs (x3 + (1 : Int32)).toNatClampNeg)] [] hC hw kc_7 hi1 (k_X8_cut _ hi1 hq360) mk_X8_cut lk_388 ⟨(by decide), (by decide)⟩ (Al.leL hc ho hE) rfl hl.1 rfl rfl (Nat.le_of_ble_eq_true rfl) dL_law_246 (fun hP H locs hw => ?_)
        refine lv_aload_n hx hb dL_law_249 rfl (lv_at hl 2 rfl) ?_
        refine lv_aload_n hx hb dL_law_250 rfl (lv_at hl 0 rfl) ?_
        refine lv_iload_n hx hb dL_law_251 rfl (lv_at hl 3 rfl) ?_
        refine lv_iconst (v := 1) hx hb dL_law_252 (by decide) ?_
        refine lv_iadd hx hb dL_law_253 ?_
        obtain ⟨hn363, h⟩ := ix_i h
        refine va_sld hx hb hX hbl hbA hw.2.2.2.1 hn363 dL_law_254 ?_
        obtain ⟨r365, D366, hq364, h⟩ := cq_i h
        refine r_cV (st' := [.int r365, .int r361]) [.int (xs (x3 + (1 : Int32)).toNatClampNeg)] [.int r361] hC hw kc_8 hi2 (k_X9_cut _ hi2 hq364) mk_X9_cut lk_1253 ⟨(by decide), (by decide)⟩ (Al.leL hc ho hE) rfl hl.1 rfl rfl (Nat.le_of_ble_eq_true rfl) dL_law_255 (fun hP H locs hw => ?_)
        refine lv_icmp_eq (tgt := 725) hx hb dL_law_258 (by decide) (fun c367 => ?_) (fun c367 => ?_)
        · have h := i_yes c367 h
          exact w_law_725 hC hX hbl hbA ho ih (mn_law_18 n) o1 a1 o2 a2 x3 _ _ _ _ _ _ _ _ hi1 hi2 hw hc (lv_sub hl [0, 1, 2, 3] rfl) h --j368
        · have h := i_no c367 h
          refine lv_iconst (v := 0) hx hb dL_law_261 (by decide) ?_
          exact absurd (Prod.mk.inj (Option.some.inj h)).1 (by decide) --j369
      have h := i_no c358 h
      by_cases c370 : ((xs x3.toNatClampNeg) &&& (31 : Int32)) = 3
      · have h := i_yes c370 h
        refine lv_tableIn (off := 230) (tgt := 263) hx hb dL_law_33 (by rw [c370]; decide) (by rw [c370]; decide) (by rw [c370] <;> rfl) (by decide) ?_
        refine lv_aload_n hx hb dL_law_263 rfl (lv_at hl 1 rfl) ?_
        refine lv_aload_n hx hb dL_law_264 rfl (lv_at hl 0 rfl) ?_
        refine lv_iload_n hx hb dL_law_265 rfl (lv_at hl 3 rfl) ?_
        refine lv_iconst (v := 1) hx hb dL_law_266 (by decide) ?_
        refine lv_iadd hx hb dL_law_267 ?_
        obtain ⟨hn371, h⟩ := ix_i h
        refine va_sld hx hb hX hbl hbA hw.2.2.2.1 hn371 dL_law_268 ?_
        refine lv_aload_n hx hb dL_law_269 rfl (lv_at hl 0 rfl) ?_
        refine lv_iload_n hx hb dL_law_270 rfl (lv_at hl 3 rfl) ?_
        refine lv_iconst (v := 2) hx hb dL_law_271 (by decide) ?_
        refine lv_iadd hx hb dL_law_272 ?_
        obtain ⟨hn372, h⟩ := ix_i h
        refine va_sld hx hb hX hbl hbA hw.2.2.2.1 hn372 dL_law_273 ?_
        refine lv_aload_n hx hb dL_law_274 rfl (lv_at hl 0 rfl) ?_
        refine lv_iload_n hx hb dL_law_275 rfl (lv_at hl 3 rfl) ?_
        refine lv_iconst (v := 3) hx hb dL_law_276 (by decide) ?_
        refine lv_iadd hx hb dL_law_277 ?_
        obtain ⟨hn373, h⟩ := ix_i h
        refine va_sld hx hb hX hbl hbA hw.2.2.2.1 hn373 dL_law_278 ?_
        refine lv_aload_n hx hb dL_law_279 rfl (lv_at hl 0 rfl) ?_
        refine lv_iload_n hx hb dL_law_280 rfl (lv_at hl 3 rfl) ?_
        refine lv_iconst (v := 4) hx hb dL_law_281 (by decide) ?_
        refine lv_iadd hx hb dL_law_282 ?_
        obtain ⟨hn374, h⟩ := ix_i h
        refine va_sld hx hb hX hbl hbA hw.2.2.2.1 hn374 dL_law_283 ?_
        obtain ⟨r376, S378, D377, hq375, h⟩ := c3_i h
        have hE379 := mn_X8_table_0 hq375
        have hE380 := mn_law_287 (mn_law_18 n) h
        refine r_cVA [.int (xs (x3 + (1 : Int32)).toNatClampNeg), .int (xs (x3 + (2 : Int32)).toNatClampNeg), .int (xs (x3 + (3 : Int32)).toNatClampNeg), .int (xs (x3 + (4 : Int32)).toNatClampNeg)] [] hC hw kc_7 hi1 (k_X8_table _ hi1 hq375) mk_X8_table lk_392 ⟨(by decide), (by decide)⟩ (Al.roomCL hc ho hE379 hE380) rfl hl.1 rfl (Nat.le_of_ble_eq_true rfl) dL_law_284 (fun ad381 hP H locs hw => ?_)
        refine W.eq (g2 := F0 m 287 ls [.int r376]) rfl ?_
        have hi382 := Is.up hi1 hE379 hP.1
        have hi383 := Is.up hi2 hE379 hP.1
        have hc := hc.call hE379 hP.1
        exact w_law_287 hC hX hbl hbA ho ih (mn_law_18 n) o1 a1 o2 a2 x3 r376 _ _ _ _ _ _ _ _ hi382 hi383 hw hc (lv_sub hl [0, 1, 2, 3] rfl) h --j384
      have h := i_no c370 h
      by_cases c385 : ((xs x3.toNatClampNeg) &&& (31 : Int32)) = 4
      · have h := i_yes c385 h
        refine lv_tableIn (off := 283) (tgt := 316) hx hb dL_law_33 (by rw [c385]; decide) (by rw [c385]; decide) (by rw [c385] <;> rfl) (by decide) ?_
        refine lv_aload_n hx hb dL_law_316 rfl (lv_at hl 1 rfl) ?_
        refine lv_aload_n hx hb dL_law_317 rfl (lv_at hl 0 rfl) ?_
        refine lv_iload_n hx hb dL_law_318 rfl (lv_at hl 3 rfl) ?_
        refine lv_iconst (v := 1) hx hb dL_law_319 (by decide) ?_
        refine lv_iadd hx hb dL_law_320 ?_
        obtain ⟨hn386, h⟩ := ix_i h
        refine va_sld hx hb hX hbl hbA hw.2.2.2.1 hn386 dL_law_321 ?_
        obtain ⟨r388, D389, hq387, h⟩ := cq_i h
        refine r_cV (st' := [.int r388]) [.int (xs (x3 + (1 : Int32)).toNatClampNeg)] [] hC hw kc_7 hi1 (k_X8_context _ hi1 hq387) mk_X8_context lk_435 ⟨(by decide), (by decide)⟩ (Al.leL hc ho hE) rfl hl.1 rfl rfl (Nat.le_of_ble_eq_true rfl) dL_law_322 (fun hP H locs hw => ?_)
        refine lv_aload_n hx hb dL_law_325 rfl (lv_at hl 2 rfl) ?_
        refine lv_aload_n hx hb dL_law_326 rfl (lv_at hl 0 rfl) ?_
        refine lv_iload_n hx hb dL_law_327 rfl (lv_at hl 3 rfl) ?_
        refine lv_iconst (v := 1) hx hb dL_law_328 (by decide) ?_
        refine lv_iadd hx hb dL_law_329 ?_
        obtain ⟨hn390, h⟩ := ix_i h
        refine va_sld hx hb hX hbl hbA hw.2.2.2.1 hn390 dL_law_330 ?_
        obtain ⟨r392, D393, hq391, h⟩ := cq_i h
        refine r_cV (st' := [.int r392, .int r388]) [.int (xs (x3 + (1 : Int32)).toNatClampNeg)] [.int r388] hC hw kc_8 hi2 (k_X9_context _ hi2 hq391) mk_X9_context lk_1419 ⟨(by decide), (by decide)⟩ (Al.leL hc ho hE) rfl hl.1 rfl rfl (Nat.le_of_ble_eq_true rfl) dL_law_331 (fun hP H locs hw => ?_)
        refine lv_icmp_eq (tgt := 725) hx hb dL_law_334 (by decide) (fun c394 => ?_) (fun c394 => ?_)
        · have h := i_yes c394 h
          exact w_law_725 hC hX hbl hbA ho ih (mn_law_18 n) o1 a1 o2 a2 x3 _ _ _ _ _ _ _ _ hi1 hi2 hw hc (lv_sub hl [0, 1, 2, 3] rfl) h --j395
        · have h := i_no c394 h
          refine lv_iconst (v := 0) hx hb dL_law_337 (by decide) ?_
          exact absurd (Prod.mk.inj (Option.some.inj h)).1 (by decide) --j396
      have h := i_no c385 h
      by_cases c397 : ((xs x3.toNatClampNeg) &&& (31 : Int32)) = 5
      · have h := i_yes c397 h
        refine lv_tableIn (off := 306) (tgt := 339) hx hb dL_law_33 (by rw [c397]; decide) (by rw [c397]; decide) (by rw [c397] <;> rfl) (by decide) ?_
        refine lv_aload_n hx hb dL_law_339 rfl (lv_at hl 1 rfl) ?_
        refine lv_aload_n hx hb dL_law_340 rfl (lv_at hl 0 rfl) ?_
        refine lv_iload_n hx hb dL_law_341 rfl (lv_at hl 3 rfl) ?_
        refine lv_iconst (v := 1) hx hb dL_law_342 (by decide) ?_
        refine lv_iadd hx hb dL_law_343 ?_
        obtain ⟨hn398, h⟩ := ix_i h
        refine va_sld hx hb hX hbl hbA hw.2.2.2.1 hn398 dL_law_344 ?_
        refine lv_aload_n hx hb dL_law_345 rfl (lv_at hl 0 rfl) ?_
        refine lv_iload_n hx hb dL_law_346 rfl (lv_at hl 3 rfl) ?_
        refine lv_iconst (v := 2) hx hb dL_law_347 (by decide) ?_
        refine lv_iadd hx hb dL_law_348 ?_
        obtain ⟨hn399, h⟩ := ix_i h
        refine va_sld hx hb hX hbl hbA hw.2.2.2.1 hn399 dL_law_349 ?_
        obtain ⟨r401, D402, hq400, h⟩ := cq_i h
        refine r_cV (st' := [.int r401]) [.int (xs (x3 + (1 : Int32)).toNatClampNeg), .int (xs (x3 + (2 : Int32)).toNatClampNeg)] [] hC hw kc_7 hi1 (k_X8_poke _ hi1 hq400) mk_X8_poke lk_443 ⟨(by decide), (by decide)⟩ (Al.leL hc ho hE) rfl hl.1 rfl rfl (Nat.le_of_ble_eq_true rfl) dL_law_350 (fun hP H locs hw => ?_)
        refine lv_aload_n hx hb dL_law_353 rfl (lv_at hl 2 rfl) ?_
        refine lv_aload_n hx hb dL_law_354 rfl (lv_at hl 0 rfl) ?_
        refine lv_iload_n hx hb dL_law_355 rfl (lv_at hl 3 rfl) ?_
        refine lv_iconst (v := 1) hx hb dL_law_356 (by decide) ?_
        refine lv_iadd hx hb dL_law_357 ?_
        obtain ⟨hn403, h⟩ := ix_i h
        refine va_sld hx hb hX hbl hbA hw.2.2.2.1 hn403 dL_law_358 ?_
        refine lv_aload_n hx hb dL_law_359 rfl (lv_at hl 0 rfl) ?_
        refine lv_iload_n hx hb dL_law_360 rfl (lv_at hl 3 rfl) ?_
        refine lv_iconst (v := 2) hx hb dL_law_361 (by decide) ?_
        refine lv_iadd hx hb dL_law_362 ?_
        obtain ⟨hn404, h⟩ := ix_i h
        refine va_sld hx hb hX hbl hbA hw.2.2.2.1 hn404 dL_law_363 ?_
        obtain ⟨r406, D407, hq405, h⟩ := cq_i h
        refine r_cV (st' := [.int r406, .int r401]) [.int (xs (x3 + (1 : Int32)).toNatClampNeg), .int (xs (x3 + (2 : Int32)).toNatClampNeg)] [.int r401] hC hw kc_8 hi2 (k_X9_poke _ hi2 hq405) mk_X9_poke lk_1424 ⟨(by decide), (by decide)⟩ (Al.leL hc ho hE) rfl hl.1 rfl rfl (Nat.le_of_ble_eq_true rfl) dL_law_364 (fun hP H locs hw => ?_)
        refine lv_icmp_eq (tgt := 725) hx hb dL_law_367 (by decide) (fun c408 => ?_) (fun c408 => ?_)
        · have h := i_yes c408 h
          exact w_law_725 hC hX hbl hbA ho ih (mn_law_18 n) o1 a1 o2 a2 x3 _ _ _ _ _ _ _ _ hi1 hi2 hw hc (lv_sub hl [0, 1, 2, 3] rfl) h --j409
        · have h := i_no c408 h
          refine lv_iconst (v := 0) hx hb dL_law_370 (by decide) ?_
          exact absurd (Prod.mk.inj (Option.some.inj h)).1 (by decide) --j410
      have h := i_no c397 h
      by_cases c411 : ((xs x3.toNatClampNeg) &&& (31 : Int32)) = 6
      · have h := i_yes c411 h
        refine lv_tableIn (off := 339) (tgt := 372) hx hb dL_law_33 (by rw [c411]; decide) (by rw [c411]; decide) (by rw [c411] <;> rfl) (by decide) ?_
        refine lv_aload_n hx hb dL_law_372 rfl (lv_at hl 1 rfl) ?_
        refine lv_aload_n hx hb dL_law_373 rfl (lv_at hl 0 rfl) ?_
        refine lv_iload_n hx hb dL_law_374 rfl (lv_at hl 3 rfl) ?_
        refine lv_iconst (v := 1) hx hb dL_law_375 (by decide) ?_
        refine lv_iadd hx hb dL_law_376 ?_
        obtain ⟨hn412, h⟩ := ix_i h
        refine va_sld hx hb hX hbl hbA hw.2.2.2.1 hn412 dL_law_377 ?_
        refine lv_i2l (v := (xs (x3 + (1 : Int32)).toNatClampNeg).toInt64) hx hb dL_law_378 rfl ?_
        refine lv_bipush (v := 32) hx hb dL_law_379 (by decide) ?_
        refine lv_lshl (v := j_lshl ((xs (x3 + (1 : Int32)).toNatClampNeg).toInt64) (32 : Int32)) hx hb dL_law_381 rfl ?_
        refine lv_aload_n hx hb dL_law_382 rfl (lv_at hl 0 rfl) ?_
        refine lv_iload_n hx hb dL_law_383 rfl (lv_at hl 3 rfl) ?_
        refine lv_iconst (v := 2) hx hb dL_law_384 (by decide) ?_
        refine lv_iadd hx hb dL_law_385 ?_
        obtain ⟨hn413, h⟩ := ix_i h
        refine va_sld hx hb hX hbl hbA hw.2.2.2.1 hn413 dL_law_386 ?_
        refine lv_i2l (v := (xs (x3 + (2 : Int32)).toNatClampNeg).toInt64) hx hb dL_law_387 rfl ?_
        refine lv_ldc2 (v := 4294967295) hx hb hC.2.2.2.1 (hC.2.2.2.2.1 _ lk_1605) dL_law_388 ?_
        refine lv_land hx hb dL_law_391 ?_
        refine lv_lor hx hb dL_law_392 ?_
        obtain ⟨r415, D416, hq414, h⟩ := cq_i h
        refine r_cV (st' := [.long r415]) [.long ((j_lshl ((xs (x3 + (1 : Int32)).toNatClampNeg).toInt64) (32 : Int32)) ||| (((xs (x3 + (2 : Int32)).toNatClampNeg).toInt64) &&& (4294967295 : Int64)))] [] hC hw kc_7 hi1 (k_X8_tick _ hi1 hq414) mk_X8_tick lk_447 ⟨(by decide), (by decide)⟩ (Al.leL hc ho hE) rfl hl.1 rfl rfl (Nat.le_of_ble_eq_true rfl) dL_law_393 (fun hP H locs hw => ?_)
        refine lv_aload_n hx hb dL_law_396 rfl (lv_at hl 2 rfl) ?_
        refine lv_aload_n hx hb dL_law_397 rfl (lv_at hl 0 rfl) ?_
        refine lv_iload_n hx hb dL_law_398 rfl (lv_at hl 3 rfl) ?_
        refine lv_iconst (v := 1) hx hb dL_law_399 (by decide) ?_
        refine lv_iadd hx hb dL_law_400 ?_
        obtain ⟨hn417, h⟩ := ix_i h
        refine va_sld hx hb hX hbl hbA hw.2.2.2.1 hn417 dL_law_401 ?_
        refine lv_i2l (v := (xs (x3 + (1 : Int32)).toNatClampNeg).toInt64) hx hb dL_law_402 rfl ?_
        refine lv_bipush (v := 32) hx hb dL_law_403 (by decide) ?_
        refine lv_lshl (v := j_lshl ((xs (x3 + (1 : Int32)).toNatClampNeg).toInt64) (32 : Int32)) hx hb dL_law_405 rfl ?_
        refine lv_aload_n hx hb dL_law_406 rfl (lv_at hl 0 rfl) ?_
        refine lv_iload_n hx hb dL_law_407 rfl (lv_at hl 3 rfl) ?_
        refine lv_iconst (v := 2) hx hb dL_law_408 (by decide) ?_
        refine lv_iadd hx hb dL_law_409 ?_
        obtain ⟨hn418, h⟩ := ix_i h
        refine va_sld hx hb hX hbl hbA hw.2.2.2.1 hn418 dL_law_410 ?_
        refine lv_i2l (v := (xs (x3 + (2 : Int32)).toNatClampNeg).toInt64) hx hb dL_law_411 rfl ?_
        refine lv_ldc2 (v := 4294967295) hx hb hC.2.2.2.1 (hC.2.2.2.2.1 _ lk_1605) dL_law_412 ?_
        refine lv_land hx hb dL_law_415 ?_
        refine lv_lor hx hb dL_law_416 ?_
        obtain ⟨r420, D421, hq419, h⟩ := cq_i h
        refine r_cV (st' := [.long r420, .long r415]) [.long ((j_lshl ((xs (x3 + (1 : Int32)).toNatClampNeg).toInt64) (32 : Int32)) ||| (((xs (x3 + (2 : Int32)).toNatClampNeg).toInt64) &&& (4294967295 : Int64)))] [.long r415] hC hw kc_8 hi2 (k_X9_tick _ hi2 hq419) mk_X9_tick lk_1428 ⟨(by decide), (by decide)⟩ (Al.leL hc ho hE) rfl hl.1 rfl rfl (Nat.le_of_ble_eq_true rfl) dL_law_417 (fun hP H locs hw => ?_)
        refine W.lcmp hx hb dL_law_420 ?_
        refine lv_if_eq (tgt := 725) hx hb dL_law_421 (by decide) (fun c422 => ?_) (fun c422 => ?_)
        · have h := i_yes c422 h
          exact w_law_725 hC hX hbl hbA ho ih (mn_law_18 n) o1 a1 o2 a2 x3 _ _ _ _ _ _ _ _ hi1 hi2 hw hc (lv_sub hl [0, 1, 2, 3] rfl) h --j423
        · have h := i_no c422 h
          refine lv_iconst (v := 0) hx hb dL_law_424 (by decide) ?_
          exact absurd (Prod.mk.inj (Option.some.inj h)).1 (by decide) --j424
      have h := i_no c411 h
      by_cases c425 : ((xs x3.toNatClampNeg) &&& (31 : Int32)) = 7
      · have h := i_yes c425 h
        refine lv_tableIn (off := 393) (tgt := 426) hx hb dL_law_33 (by rw [c425]; decide) (by rw [c425]; decide) (by rw [c425] <;> rfl) (by decide) ?_
        refine lv_aload_n hx hb dL_law_426 rfl (lv_at hl 1 rfl) ?_
        obtain ⟨r427, S429, D428, hq426, h⟩ := c3_i h
        have hE430 := mn_X8_judge_0 hq426
        have hE431 := mn_law_430 (mn_law_18 n) h
        refine r_cVA [] [] hC hw kc_7 hi1 (k_X8_judge _ hi1 hq426) mk_X8_judge lk_453 ⟨(by decide), (by decide)⟩ (Al.roomCL hc ho hE430 hE431) rfl hl.1 rfl (Nat.le_of_ble_eq_true rfl) dL_law_427 (fun ad432 hP H locs hw => ?_)
        refine W.eq (g2 := F0 m 430 ls [.int r427]) rfl ?_
        have hi433 := Is.up hi1 hE430 hP.1
        have hi434 := Is.up hi2 hE430 hP.1
        have hc := hc.call hE430 hP.1
        exact w_law_430 hC hX hbl hbA ho ih (mn_law_18 n) o1 a1 o2 a2 x3 r427 _ _ _ _ _ _ _ _ hi433 hi434 hw hc (lv_sub hl [0, 1, 2, 3] rfl) h --j435
      have h := i_no c425 h
      by_cases c436 : ((xs x3.toNatClampNeg) &&& (31 : Int32)) = 8
      · have h := i_yes c436 h
        refine lv_tableIn (off := 406) (tgt := 439) hx hb dL_law_33 (by rw [c436]; decide) (by rw [c436]; decide) (by rw [c436] <;> rfl) (by decide) ?_
        refine lv_aload_n hx hb dL_law_439 rfl (lv_at hl 1 rfl) ?_
        obtain ⟨r438, D439, hq437, h⟩ := cq_i h
        refine r_cV (st' := [.int r438]) [] [] hC hw kc_7 hi1 (k_X8_place _ hi1 hq437) mk_X8_place lk_860 ⟨(by decide), (by decide)⟩ (Al.leL hc ho hE) rfl hl.1 rfl rfl (Nat.le_of_ble_eq_true rfl) dL_law_440 (fun hP H locs hw => ?_)
        refine lv_aload_n hx hb dL_law_443 rfl (lv_at hl 2 rfl) ?_
        obtain ⟨r441, D442, hq440, h⟩ := cq_i h
        refine r_cV (st' := [.int r441, .int r438]) [] [.int r438] hC hw kc_8 hi2 (k_X9_place _ hi2 hq440) mk_X9_place lk_1592 ⟨(by decide), (by decide)⟩ (Al.leL hc ho hE) rfl hl.1 rfl rfl (Nat.le_of_ble_eq_true rfl) dL_law_444 (fun hP H locs hw => ?_)
        refine lv_icmp_eq (tgt := 725) hx hb dL_law_447 (by decide) (fun c443 => ?_) (fun c443 => ?_)
        · have h := i_yes c443 h
          exact w_law_725 hC hX hbl hbA ho ih (mn_law_18 n) o1 a1 o2 a2 x3 _ _ _ _ _ _ _ _ hi1 hi2 hw hc (lv_sub hl [0, 1, 2, 3] rfl) h --j444
        · have h := i_no c443 h
          refine lv_iconst (v := 0) hx hb dL_law_450 (by decide) ?_
          exact absurd (Prod.mk.inj (Option.some.inj h)).1 (by decide) --j445
      have h := i_no c436 h
      by_cases c446 : ((xs x3.toNatClampNeg) &&& (31 : Int32)) = 9
      · have h := i_yes c446 h
        refine lv_tableIn (off := 419) (tgt := 452) hx hb dL_law_33 (by rw [c446]; decide) (by rw [c446]; decide) (by rw [c446] <;> rfl) (by decide) ?_
        refine lv_aload_n hx hb dL_law_452 rfl (lv_at hl 1 rfl) ?_
        refine lv_aload_n hx hb dL_law_453 rfl (lv_at hl 0 rfl) ?_
        refine lv_iload_n hx hb dL_law_454 rfl (lv_at hl 3 rfl) ?_
        refine lv_iconst (v := 1) hx hb dL_law_455 (by decide) ?_
        refine lv_iadd hx hb dL_law_456 ?_
        obtain ⟨hn447, h⟩ := ix_i h
        refine va_sld hx hb hX hbl hbA hw.2.2.2.1 hn447 dL_law_457 ?_
        refine lv_aload_n hx hb dL_law_458 rfl (lv_at hl 0 rfl) ?_
        refine lv_iload_n hx hb dL_law_459 rfl (lv_at hl 3 rfl) ?_
        refine lv_iconst (v := 2) hx hb dL_law_460 (by decide) ?_
        refine lv_iadd hx hb dL_law_461 ?_
        obtain ⟨hn448, h⟩ := ix_i h
        refine va_sld hx hb hX hbl hbA hw.2.2.2.1 hn448 dL_law_462 ?_
        refine lv_aload_n hx hb dL_law_463 rfl (lv_at hl 0 rfl) ?_
        refine lv_iload_n hx hb dL_law_464 rfl (lv_at hl 3 rfl) ?_
        refine lv_iconst (v := 3) hx hb dL_law_465 (by decide) ?_
        refine lv_iadd hx hb dL_law_466 ?_
        obtain ⟨hn449, h⟩ := ix_i h
        refine va_sld hx hb hX hbl hbA hw.2.2.2.1 hn449 dL_law_467 ?_
        obtain ⟨r451, D452, hq450, h⟩ := cq_i h
        refine r_cV (st' := [.long r451]) [.int (xs (x3 + (1 : Int32)).toNatClampNeg), .int (xs (x3 + (2 : Int32)).toNatClampNeg), .int (xs (x3 + (3 : Int32)).toNatClampNeg)] [] hC hw kc_7 hi1 (k_X8_may _ hi1 hq450) mk_X8_may lk_864 ⟨(by decide), (by decide)⟩ (Al.leL hc ho hE) rfl hl.1 rfl rfl (Nat.le_of_ble_eq_true rfl) dL_law_468 (fun hP H locs hw => ?_)
        refine lv_aload_n hx hb dL_law_471 rfl (lv_at hl 2 rfl) ?_
        refine lv_aload_n hx hb dL_law_472 rfl (lv_at hl 0 rfl) ?_
        refine lv_iload_n hx hb dL_law_473 rfl (lv_at hl 3 rfl) ?_
        refine lv_iconst (v := 1) hx hb dL_law_474 (by decide) ?_
        refine lv_iadd hx hb dL_law_475 ?_
        obtain ⟨hn453, h⟩ := ix_i h
        refine va_sld hx hb hX hbl hbA hw.2.2.2.1 hn453 dL_law_476 ?_
        refine lv_aload_n hx hb dL_law_477 rfl (lv_at hl 0 rfl) ?_
        refine lv_iload_n hx hb dL_law_478 rfl (lv_at hl 3 rfl) ?_
        refine lv_iconst (v := 2) hx hb dL_law_479 (by decide) ?_
        refine lv_iadd hx hb dL_law_480 ?_
        obtain ⟨hn454, h⟩ := ix_i h
        refine va_sld hx hb hX hbl hbA hw.2.2.2.1 hn454 dL_law_481 ?_
        refine lv_aload_n hx hb dL_law_482 rfl (lv_at hl 0 rfl) ?_
        refine lv_iload_n hx hb dL_law_483 rfl (lv_at hl 3 rfl) ?_
        refine lv_iconst (v := 3) hx hb dL_law_484 (by decide) ?_
        refine lv_iadd hx hb dL_law_485 ?_
        obtain ⟨hn455, h⟩ := ix_i h
        refine va_sld hx hb hX hbl hbA hw.2.2.2.1 hn455 dL_law_486 ?_
        obtain ⟨r457, D458, hq456, h⟩ := cq_i h
        refine r_cV (st' := [.long r457, .long r451]) [.int (xs (x3 + (1 : Int32)).toNatClampNeg), .int (xs (x3 + (2 : Int32)).toNatClampNeg), .int (xs (x3 + (3 : Int32)).toNatClampNeg)] [.long r451] hC hw kc_8 hi2 (k_X9_may _ hi2 hq456) mk_X9_may lk_1596 ⟨(by decide), (by decide)⟩ (Al.leL hc ho hE) rfl hl.1 rfl rfl (Nat.le_of_ble_eq_true rfl) dL_law_487 (fun hP H locs hw => ?_)
        refine W.lcmp hx hb dL_law_490 ?_
        refine lv_if_eq (tgt := 725) hx hb dL_law_491 (by decide) (fun c459 => ?_) (fun c459 => ?_)
        · have h := i_yes c459 h
          exact w_law_725 hC hX hbl hbA ho ih (mn_law_18 n) o1 a1 o2 a2 x3 _ _ _ _ _ _ _ _ hi1 hi2 hw hc (lv_sub hl [0, 1, 2, 3] rfl) h --j460
        · have h := i_no c459 h
          refine lv_iconst (v := 0) hx hb dL_law_494 (by decide) ?_
          exact absurd (Prod.mk.inj (Option.some.inj h)).1 (by decide) --j461
      have h := i_no c446 h
      by_cases c462 : ((xs x3.toNatClampNeg) &&& (31 : Int32)) = 10
      · have h := i_yes c462 h
        refine lv_tableIn (off := 463) (tgt := 496) hx hb dL_law_33 (by rw [c462]; decide) (by rw [c462]; decide) (by rw [c462] <;> rfl) (by decide) ?_
        refine lv_aload_n hx hb dL_law_496 rfl (lv_at hl 1 rfl) ?_
        refine lv_aload_n hx hb dL_law_497 rfl (lv_at hl 0 rfl) ?_
        refine lv_iload_n hx hb dL_law_498 rfl (lv_at hl 3 rfl) ?_
        refine lv_iconst (v := 1) hx hb dL_law_499 (by decide) ?_
        refine lv_iadd hx hb dL_law_500 ?_
        obtain ⟨hn463, h⟩ := ix_i h
        refine va_sld hx hb hX hbl hbA hw.2.2.2.1 hn463 dL_law_501 ?_
        refine lv_aload_n hx hb dL_law_502 rfl (lv_at hl 0 rfl) ?_
        refine lv_iload_n hx hb dL_law_503 rfl (lv_at hl 3 rfl) ?_
        refine lv_iconst (v := 2) hx hb dL_law_504 (by decide) ?_
        refine lv_iadd hx hb dL_law_505 ?_
        obtain ⟨hn464, h⟩ := ix_i h
        refine va_sld hx hb hX hbl hbA hw.2.2.2.1 hn464 dL_law_506 ?_
        obtain ⟨r466, D467, hq465, h⟩ := cq_i h
        refine r_cV (st' := [.int r466]) [.int (xs (x3 + (1 : Int32)).toNatClampNeg), .int (xs (x3 + (2 : Int32)).toNatClampNeg)] [] hC hw kc_7 hi1 (k_X8_cell _ hi1 hq465) mk_X8_cell lk_875 ⟨(by decide), (by decide)⟩ (Al.leL hc ho hE) rfl hl.1 rfl rfl (Nat.le_of_ble_eq_true rfl) dL_law_507 (fun hP H locs hw => ?_)
        refine lv_aload_n hx hb dL_law_510 rfl (lv_at hl 2 rfl) ?_
        refine lv_aload_n hx hb dL_law_511 rfl (lv_at hl 0 rfl) ?_
        refine lv_iload_n hx hb dL_law_512 rfl (lv_at hl 3 rfl) ?_
        refine lv_iconst (v := 1) hx hb dL_law_513 (by decide) ?_
        refine lv_iadd hx hb dL_law_514 ?_
        obtain ⟨hn468, h⟩ := ix_i h
        refine va_sld hx hb hX hbl hbA hw.2.2.2.1 hn468 dL_law_515 ?_
        refine lv_aload_n hx hb dL_law_516 rfl (lv_at hl 0 rfl) ?_
        refine lv_iload_n hx hb dL_law_517 rfl (lv_at hl 3 rfl) ?_
        refine lv_iconst (v := 2) hx hb dL_law_518 (by decide) ?_
        refine lv_iadd hx hb dL_law_519 ?_
        obtain ⟨hn469, h⟩ := ix_i h
        refine va_sld hx hb hX hbl hbA hw.2.2.2.1 hn469 dL_law_520 ?_
        obtain ⟨r471, D472, hq470, h⟩ := cq_i h
        refine r_cV (st' := [.int r471, .int r466]) [.int (xs (x3 + (1 : Int32)).toNatClampNeg), .int (xs (x3 + (2 : Int32)).toNatClampNeg)] [.int r466] hC hw kc_8 hi2 (k_X9_cell _ hi2 hq470) mk_X9_cell lk_1601 ⟨(by decide), (by decide)⟩ (Al.leL hc ho hE) rfl hl.1 rfl rfl (Nat.le_of_ble_eq_true rfl) dL_law_521 (fun hP H locs hw => ?_)
        refine lv_icmp_eq (tgt := 725) hx hb dL_law_524 (by decide) (fun c473 => ?_) (fun c473 => ?_)
        · have h := i_yes c473 h
          exact w_law_725 hC hX hbl hbA ho ih (mn_law_18 n) o1 a1 o2 a2 x3 _ _ _ _ _ _ _ _ hi1 hi2 hw hc (lv_sub hl [0, 1, 2, 3] rfl) h --j474
        · have h := i_no c473 h
          refine lv_iconst (v := 0) hx hb dL_law_527 (by decide) ?_
          exact absurd (Prod.mk.inj (Option.some.inj h)).1 (by decide) --j475
      have h := i_no c462 h
      by_cases c476 : ((xs x3.toNatClampNeg) &&& (31 : Int32)) = 11
      · have h := i_yes c476 h
        refine lv_tableIn (off := 496) (tgt := 529) hx hb dL_law_33 (by rw [c476]; decide) (by rw [c476]; decide) (by rw [c476] <;> rfl) (by decide) ?_
        refine lv_aload_n hx hb dL_law_529 rfl (lv_at hl 1 rfl) ?_
        obtain ⟨r478, D479, hq477, h⟩ := cq_i h
        refine r_cV (st' := [.int r478]) [] [] hC hw kc_7 hi1 (k_X8_start _ hi1 hq477) mk_X8_start lk_883 ⟨(by decide), (by decide)⟩ (Al.leL hc ho hE) rfl hl.1 rfl rfl (Nat.le_of_ble_eq_true rfl) dL_law_530 (fun hP H locs hw => ?_)
        refine lv_aload_n hx hb dL_law_533 rfl (lv_at hl 2 rfl) ?_
        obtain ⟨r481, D482, hq480, h⟩ := cq_i h
        refine r_cV (st' := [.int r481, .int r478]) [] [.int r478] hC hw kc_8 hi2 (k_X9_start _ hi2 hq480) mk_X9_start lk_1293 ⟨(by decide), (by decide)⟩ (Al.leL hc ho hE) rfl hl.1 rfl rfl (Nat.le_of_ble_eq_true rfl) dL_law_534 (fun hP H locs hw => ?_)
        refine lv_icmp_eq (tgt := 725) hx hb dL_law_537 (by decide) (fun c483 => ?_) (fun c483 => ?_)
        · have h := i_yes c483 h
          exact w_law_725 hC hX hbl hbA ho ih (mn_law_18 n) o1 a1 o2 a2 x3 _ _ _ _ _ _ _ _ hi1 hi2 hw hc (lv_sub hl [0, 1, 2, 3] rfl) h --j484
        · have h := i_no c483 h
          refine lv_iconst (v := 0) hx hb dL_law_540 (by decide) ?_
          exact absurd (Prod.mk.inj (Option.some.inj h)).1 (by decide) --j485
      have h := i_no c476 h
      by_cases c486 : ((xs x3.toNatClampNeg) &&& (31 : Int32)) = 12
      · have h := i_yes c486 h
        refine lv_tableIn (off := 509) (tgt := 542) hx hb dL_law_33 (by rw [c486]; decide) (by rw [c486]; decide) (by rw [c486] <;> rfl) (by decide) ?_
        refine lv_aload_n hx hb dL_law_542 rfl (lv_at hl 1 rfl) ?_
        obtain ⟨r488, D489, hq487, h⟩ := cq_i h
        refine r_cV (st' := [.int r488]) [] [] hC hw kc_7 hi1 (k_X8_step _ hi1 hq487) mk_X8_step lk_897 ⟨(by decide), (by decide)⟩ (Al.leL hc ho hE) rfl hl.1 rfl rfl (Nat.le_of_ble_eq_true rfl) dL_law_543 (fun hP H locs hw => ?_)
        refine lv_aload_n hx hb dL_law_546 rfl (lv_at hl 2 rfl) ?_
        obtain ⟨r491, D492, hq490, h⟩ := cq_i h
        refine r_cV (st' := [.int r491, .int r488]) [] [.int r488] hC hw kc_8 hi2 (k_X9_step _ hi2 hq490) mk_X9_step lk_1297 ⟨(by decide), (by decide)⟩ (Al.leL hc ho hE) rfl hl.1 rfl rfl (Nat.le_of_ble_eq_true rfl) dL_law_547 (fun hP H locs hw => ?_)
        refine lv_icmp_eq (tgt := 725) hx hb dL_law_550 (by decide) (fun c493 => ?_) (fun c493 => ?_)
        · have h := i_yes c493 h
          exact w_law_725 hC hX hbl hbA ho ih (mn_law_18 n) o1 a1 o2 a2 x3 _ _ _ _ _ _ _ _ hi1 hi2 hw hc (lv_sub hl [0, 1, 2, 3] rfl) h --j494
        · have h := i_no c493 h
          refine lv_iconst (v := 0) hx hb dL_law_553 (by decide) ?_
          exact absurd (Prod.mk.inj (Option.some.inj h)).1 (by decide) --j495
      have h := i_no c486 h
      by_cases c496 : ((xs x3.toNatClampNeg) &&& (31 : Int32)) = 13
      · have h := i_yes c496 h
        refine lv_tableIn (off := 522) (tgt := 555) hx hb dL_law_33 (by rw [c496]; decide) (by rw [c496]; decide) (by rw [c496] <;> rfl) (by decide) ?_
        refine lv_aload_n hx hb dL_law_555 rfl (lv_at hl 1 rfl) ?_
        refine lv_aload_n hx hb dL_law_556 rfl (lv_at hl 0 rfl) ?_
        refine lv_iload_n hx hb dL_law_557 rfl (lv_at hl 3 rfl) ?_
        refine lv_iconst (v := 1) hx hb dL_law_558 (by decide) ?_
        refine lv_iadd hx hb dL_law_559 ?_
        obtain ⟨hn497, h⟩ := ix_i h
        refine va_sld hx hb hX hbl hbA hw.2.2.2.1 hn497 dL_law_560 ?_
        obtain ⟨r499, D500, hq498, h⟩ := cq_i h
        refine r_cV (st' := [.int r499]) [.int (xs (x3 + (1 : Int32)).toNatClampNeg)] [] hC hw kc_7 hi1 (k_X8_run _ hi1 hq498) mk_X8_run lk_1024 ⟨(by decide), (by decide)⟩ (Al.leL hc ho hE) rfl hl.1 rfl rfl (Nat.le_of_ble_eq_true rfl) dL_law_561 (fun hP H locs hw => ?_)
        refine lv_aload_n hx hb dL_law_564 rfl (lv_at hl 2 rfl) ?_
        refine lv_aload_n hx hb dL_law_565 rfl (lv_at hl 0 rfl) ?_
        refine lv_iload_n hx hb dL_law_566 rfl (lv_at hl 3 rfl) ?_
        refine lv_iconst (v := 1) hx hb dL_law_567 (by decide) ?_
        refine lv_iadd hx hb dL_law_568 ?_
        obtain ⟨hn501, h⟩ := ix_i h
        refine va_sld hx hb hX hbl hbA hw.2.2.2.1 hn501 dL_law_569 ?_
        obtain ⟨r503, D504, hq502, h⟩ := cq_i h
        refine r_cV (st' := [.int r503, .int r499]) [.int (xs (x3 + (1 : Int32)).toNatClampNeg)] [.int r499] hC hw kc_8 hi2 (k_X9_run _ hi2 hq502) mk_X9_run lk_1413 ⟨(by decide), (by decide)⟩ (Al.leL hc ho hE) rfl hl.1 rfl rfl (Nat.le_of_ble_eq_true rfl) dL_law_570 (fun hP H locs hw => ?_)
        refine lv_icmp_eq (tgt := 725) hx hb dL_law_573 (by decide) (fun c505 => ?_) (fun c505 => ?_)
        · have h := i_yes c505 h
          exact w_law_725 hC hX hbl hbA ho ih (mn_law_18 n) o1 a1 o2 a2 x3 _ _ _ _ _ _ _ _ hi1 hi2 hw hc (lv_sub hl [0, 1, 2, 3] rfl) h --j506
        · have h := i_no c505 h
          refine lv_iconst (v := 0) hx hb dL_law_576 (by decide) ?_
          exact absurd (Prod.mk.inj (Option.some.inj h)).1 (by decide) --j507
      have h := i_no c496 h
      by_cases c508 : ((xs x3.toNatClampNeg) &&& (31 : Int32)) = 14
      · have h := i_yes c508 h
        refine lv_tableIn (off := 545) (tgt := 578) hx hb dL_law_33 (by rw [c508]; decide) (by rw [c508]; decide) (by rw [c508] <;> rfl) (by decide) ?_
        refine lv_aload_n hx hb dL_law_578 rfl (lv_at hl 1 rfl) ?_
        refine lv_aload_n hx hb dL_law_579 rfl (lv_at hl 0 rfl) ?_
        refine lv_iload_n hx hb dL_law_580 rfl (lv_at hl 3 rfl) ?_
        refine lv_iconst (v := 1) hx hb dL_law_581 (by decide) ?_
        refine lv_iadd hx hb dL_law_582 ?_
        obtain ⟨hn509, h⟩ := ix_i h
        refine va_sld hx hb hX hbl hbA hw.2.2.2.1 hn509 dL_law_583 ?_
        obtain ⟨r511, D512, hq510, h⟩ := cq_i h
        refine r_cV (st' := [.int r511]) [.int (xs (x3 + (1 : Int32)).toNatClampNeg)] [] hC hw kc_7 hi1 (k_X8_told _ hi1 hq510) mk_X8_told lk_1028 ⟨(by decide), (by decide)⟩ (Al.leL hc ho hE) rfl hl.1 rfl rfl (Nat.le_of_ble_eq_true rfl) dL_law_584 (fun hP H locs hw => ?_)
        refine lv_aload_n hx hb dL_law_587 rfl (lv_at hl 2 rfl) ?_
        refine lv_aload_n hx hb dL_law_588 rfl (lv_at hl 0 rfl) ?_
        refine lv_iload_n hx hb dL_law_589 rfl (lv_at hl 3 rfl) ?_
        refine lv_iconst (v := 1) hx hb dL_law_590 (by decide) ?_
        refine lv_iadd hx hb dL_law_591 ?_
        obtain ⟨hn513, h⟩ := ix_i h
        refine va_sld hx hb hX hbl hbA hw.2.2.2.1 hn513 dL_law_592 ?_
        obtain ⟨r515, D516, hq514, h⟩ := cq_i h
        refine r_cV (st' := [.int r515, .int r511]) [.int (xs (x3 + (1 : Int32)).toNatClampNeg)] [.int r511] hC hw kc_8 hi2 (k_X9_told _ hi2 hq514) mk_X9_told lk_1434 ⟨(by decide), (by decide)⟩ (Al.leL hc ho hE) rfl hl.1 rfl rfl (Nat.le_of_ble_eq_true rfl) dL_law_593 (fun hP H locs hw => ?_)
        refine lv_icmp_eq (tgt := 725) hx hb dL_law_596 (by decide) (fun c517 => ?_) (fun c517 => ?_)
        · have h := i_yes c517 h
          exact w_law_725 hC hX hbl hbA ho ih (mn_law_18 n) o1 a1 o2 a2 x3 _ _ _ _ _ _ _ _ hi1 hi2 hw hc (lv_sub hl [0, 1, 2, 3] rfl) h --j518
        · have h := i_no c517 h
          refine lv_iconst (v := 0) hx hb dL_law_599 (by decide) ?_
          exact absurd (Prod.mk.inj (Option.some.inj h)).1 (by decide) --j519
      have h := i_no c508 h
      by_cases c520 : ((xs x3.toNatClampNeg) &&& (31 : Int32)) = 15
      · have h := i_yes c520 h
        refine lv_tableIn (off := 568) (tgt := 601) hx hb dL_law_33 (by rw [c520]; decide) (by rw [c520]; decide) (by rw [c520] <;> rfl) (by decide) ?_
        refine lv_aload_n hx hb dL_law_601 rfl (lv_at hl 1 rfl) ?_
        refine lv_aload_n hx hb dL_law_602 rfl (lv_at hl 0 rfl) ?_
        refine lv_iload_n hx hb dL_law_603 rfl (lv_at hl 3 rfl) ?_
        refine lv_iconst (v := 1) hx hb dL_law_604 (by decide) ?_
        refine lv_iadd hx hb dL_law_605 ?_
        obtain ⟨hn521, h⟩ := ix_i h
        refine va_sld hx hb hX hbl hbA hw.2.2.2.1 hn521 dL_law_606 ?_
        obtain ⟨r523, D524, hq522, h⟩ := cq_i h
        refine r_cV (st' := [.long r523]) [.int (xs (x3 + (1 : Int32)).toNatClampNeg)] [] hC hw kc_7 hi1 (k_X8_register _ hi1 hq522) mk_X8_register lk_1032 ⟨(by decide), (by decide)⟩ (Al.leL hc ho hE) rfl hl.1 rfl rfl (Nat.le_of_ble_eq_true rfl) dL_law_607 (fun hP H locs hw => ?_)
        refine lv_aload_n hx hb dL_law_610 rfl (lv_at hl 2 rfl) ?_
        refine lv_aload_n hx hb dL_law_611 rfl (lv_at hl 0 rfl) ?_
        refine lv_iload_n hx hb dL_law_612 rfl (lv_at hl 3 rfl) ?_
        refine lv_iconst (v := 1) hx hb dL_law_613 (by decide) ?_
        refine lv_iadd hx hb dL_law_614 ?_
        obtain ⟨hn525, h⟩ := ix_i h
        refine va_sld hx hb hX hbl hbA hw.2.2.2.1 hn525 dL_law_615 ?_
        obtain ⟨r527, D528, hq526, h⟩ := cq_i h
        refine r_cV (st' := [.long r527, .long r523]) [.int (xs (x3 + (1 : Int32)).toNatClampNeg)] [.long r523] hC hw kc_8 hi2 (k_X9_register _ hi2 hq526) mk_X9_register lk_1438 ⟨(by decide), (by decide)⟩ (Al.leL hc ho hE) rfl hl.1 rfl rfl (Nat.le_of_ble_eq_true rfl) dL_law_616 (fun hP H locs hw => ?_)
        refine W.lcmp hx hb dL_law_619 ?_
        refine lv_if_eq (tgt := 725) hx hb dL_law_620 (by decide) (fun c529 => ?_) (fun c529 => ?_)
        · have h := i_yes c529 h
          exact w_law_725 hC hX hbl hbA ho ih (mn_law_18 n) o1 a1 o2 a2 x3 _ _ _ _ _ _ _ _ hi1 hi2 hw hc (lv_sub hl [0, 1, 2, 3] rfl) h --j530
        · have h := i_no c529 h
          refine lv_iconst (v := 0) hx hb dL_law_623 (by decide) ?_
          exact absurd (Prod.mk.inj (Option.some.inj h)).1 (by decide) --j531
      have h := i_no c520 h
      by_cases c532 : ((xs x3.toNatClampNeg) &&& (31 : Int32)) = 16
      · have h := i_yes c532 h
        refine lv_tableIn (off := 592) (tgt := 625) hx hb dL_law_33 (by rw [c532]; decide) (by rw [c532]; decide) (by rw [c532] <;> rfl) (by decide) ?_
        refine lv_aload_n hx hb dL_law_625 rfl (lv_at hl 1 rfl) ?_
        refine lv_aload_n hx hb dL_law_626 rfl (lv_at hl 0 rfl) ?_
        refine lv_iload_n hx hb dL_law_627 rfl (lv_at hl 3 rfl) ?_
        refine lv_iconst (v := 1) hx hb dL_law_628 (by decide) ?_
        refine lv_iadd hx hb dL_law_629 ?_
        obtain ⟨hn533, h⟩ := ix_i h
        refine va_sld hx hb hX hbl hbA hw.2.2.2.1 hn533 dL_law_630 ?_
        refine lv_i2l (v := (xs (x3 + (1 : Int32)).toNatClampNeg).toInt64) hx hb dL_law_631 rfl ?_
        refine lv_bipush (v := 32) hx hb dL_law_632 (by decide) ?_
        refine lv_lshl (v := j_lshl ((xs (x3 + (1 : Int32)).toNatClampNeg).toInt64) (32 : Int32)) hx hb dL_law_634 rfl ?_
        refine lv_aload_n hx hb dL_law_635 rfl (lv_at hl 0 rfl) ?_
        refine lv_iload_n hx hb dL_law_636 rfl (lv_at hl 3 rfl) ?_
        refine lv_iconst (v := 2) hx hb dL_law_637 (by decide) ?_
        refine lv_iadd hx hb dL_law_638 ?_
        obtain ⟨hn534, h⟩ := ix_i h
        refine va_sld hx hb hX hbl hbA hw.2.2.2.1 hn534 dL_law_639 ?_
        refine lv_i2l (v := (xs (x3 + (2 : Int32)).toNatClampNeg).toInt64) hx hb dL_law_640 rfl ?_
        refine lv_ldc2 (v := 4294967295) hx hb hC.2.2.2.1 (hC.2.2.2.2.1 _ lk_1605) dL_law_641 ?_
        refine lv_land hx hb dL_law_644 ?_
        refine lv_lor hx hb dL_law_645 ?_
        obtain ⟨r536, D537, hq535, h⟩ := cq_i h
        refine r_cV (st' := [.int r536]) [.long ((j_lshl ((xs (x3 + (1 : Int32)).toNatClampNeg).toInt64) (32 : Int32)) ||| (((xs (x3 + (2 : Int32)).toNatClampNeg).toInt64) &&& (4294967295 : Int64)))] [] hC hw kc_7 hi1 (k_X8_octet _ hi1 hq535) mk_X8_octet lk_1036 ⟨(by decide), (by decide)⟩ (Al.leL hc ho hE) rfl hl.1 rfl rfl (Nat.le_of_ble_eq_true rfl) dL_law_646 (fun hP H locs hw => ?_)
        refine lv_aload_n hx hb dL_law_649 rfl (lv_at hl 2 rfl) ?_
        refine lv_aload_n hx hb dL_law_650 rfl (lv_at hl 0 rfl) ?_
        refine lv_iload_n hx hb dL_law_651 rfl (lv_at hl 3 rfl) ?_
        refine lv_iconst (v := 1) hx hb dL_law_652 (by decide) ?_
        refine lv_iadd hx hb dL_law_653 ?_
        obtain ⟨hn538, h⟩ := ix_i h
        refine va_sld hx hb hX hbl hbA hw.2.2.2.1 hn538 dL_law_654 ?_
        refine lv_i2l (v := (xs (x3 + (1 : Int32)).toNatClampNeg).toInt64) hx hb dL_law_655 rfl ?_
        refine lv_bipush (v := 32) hx hb dL_law_656 (by decide) ?_
        refine lv_lshl (v := j_lshl ((xs (x3 + (1 : Int32)).toNatClampNeg).toInt64) (32 : Int32)) hx hb dL_law_658 rfl ?_
        refine lv_aload_n hx hb dL_law_659 rfl (lv_at hl 0 rfl) ?_
        refine lv_iload_n hx hb dL_law_660 rfl (lv_at hl 3 rfl) ?_
        refine lv_iconst (v := 2) hx hb dL_law_661 (by decide) ?_
        refine lv_iadd hx hb dL_law_662 ?_
        obtain ⟨hn539, h⟩ := ix_i h
        refine va_sld hx hb hX hbl hbA hw.2.2.2.1 hn539 dL_law_663 ?_
        refine lv_i2l (v := (xs (x3 + (2 : Int32)).toNatClampNeg).toInt64) hx hb dL_law_664 rfl ?_
        refine lv_ldc2 (v := 4294967295) hx hb hC.2.2.2.1 (hC.2.2.2.2.1 _ lk_1605) dL_law_665 ?_
        refine lv_land hx hb dL_law_668 ?_
        refine lv_lor hx hb dL_law_669 ?_
        obtain ⟨r541, D542, hq540, h⟩ := cq_i h
        refine r_cV (st' := [.int r541, .int r536]) [.long ((j_lshl ((xs (x3 + (1 : Int32)).toNatClampNeg).toInt64) (32 : Int32)) ||| (((xs (x3 + (2 : Int32)).toNatClampNeg).toInt64) &&& (4294967295 : Int64)))] [.int r536] hC hw kc_8 hi2 (k_X9_octet _ hi2 hq540) mk_X9_octet lk_1257 ⟨(by decide), (by decide)⟩ (Al.leL hc ho hE) rfl hl.1 rfl rfl (Nat.le_of_ble_eq_true rfl) dL_law_670 (fun hP H locs hw => ?_)
        refine lv_icmp_eq (tgt := 725) hx hb dL_law_673 (by decide) (fun c543 => ?_) (fun c543 => ?_)
        · have h := i_yes c543 h
          exact w_law_725 hC hX hbl hbA ho ih (mn_law_18 n) o1 a1 o2 a2 x3 _ _ _ _ _ _ _ _ hi1 hi2 hw hc (lv_sub hl [0, 1, 2, 3] rfl) h --j544
        · have h := i_no c543 h
          refine lv_iconst (v := 0) hx hb dL_law_676 (by decide) ?_
          exact absurd (Prod.mk.inj (Option.some.inj h)).1 (by decide) --j545
      have h := i_no c532 h
      by_cases c546 : ((xs x3.toNatClampNeg) &&& (31 : Int32)) = 17
      · have h := i_yes c546 h
        refine lv_tableIn (off := 645) (tgt := 678) hx hb dL_law_33 (by rw [c546]; decide) (by rw [c546]; decide) (by rw [c546] <;> rfl) (by decide) ?_
        refine lv_aload_n hx hb dL_law_678 rfl (lv_at hl 1 rfl) ?_
        refine lv_aload_n hx hb dL_law_679 rfl (lv_at hl 0 rfl) ?_
        refine lv_iload_n hx hb dL_law_680 rfl (lv_at hl 3 rfl) ?_
        refine lv_iconst (v := 1) hx hb dL_law_681 (by decide) ?_
        refine lv_iadd hx hb dL_law_682 ?_
        obtain ⟨hn547, h⟩ := ix_i h
        refine va_sld hx hb hX hbl hbA hw.2.2.2.1 hn547 dL_law_683 ?_
        obtain ⟨r549, D550, hq548, h⟩ := cq_i h
        refine r_cV (st' := [.long r549]) [.int (xs (x3 + (1 : Int32)).toNatClampNeg)] [] hC hw kc_7 hi1 (k_X8_putAt _ hi1 hq548) mk_X8_putAt lk_1042 ⟨(by decide), (by decide)⟩ (Al.leL hc ho hE) rfl hl.1 rfl rfl (Nat.le_of_ble_eq_true rfl) dL_law_684 (fun hP H locs hw => ?_)
        refine lv_aload_n hx hb dL_law_687 rfl (lv_at hl 2 rfl) ?_
        refine lv_aload_n hx hb dL_law_688 rfl (lv_at hl 0 rfl) ?_
        refine lv_iload_n hx hb dL_law_689 rfl (lv_at hl 3 rfl) ?_
        refine lv_iconst (v := 1) hx hb dL_law_690 (by decide) ?_
        refine lv_iadd hx hb dL_law_691 ?_
        obtain ⟨hn551, h⟩ := ix_i h
        refine va_sld hx hb hX hbl hbA hw.2.2.2.1 hn551 dL_law_692 ?_
        obtain ⟨r553, D554, hq552, h⟩ := cq_i h
        refine r_cV (st' := [.long r553, .long r549]) [.int (xs (x3 + (1 : Int32)).toNatClampNeg)] [.long r549] hC hw kc_8 hi2 (k_X9_putAt _ hi2 hq552) mk_X9_putAt lk_1443 ⟨(by decide), (by decide)⟩ (Al.leL hc ho hE) rfl hl.1 rfl rfl (Nat.le_of_ble_eq_true rfl) dL_law_693 (fun hP H locs hw => ?_)
        refine W.lcmp hx hb dL_law_696 ?_
        refine lv_if_eq (tgt := 725) hx hb dL_law_697 (by decide) (fun c555 => ?_) (fun c555 => ?_)
        · have h := i_yes c555 h
          exact w_law_725 hC hX hbl hbA ho ih (mn_law_18 n) o1 a1 o2 a2 x3 _ _ _ _ _ _ _ _ hi1 hi2 hw hc (lv_sub hl [0, 1, 2, 3] rfl) h --j556
        · have h := i_no c555 h
          refine lv_iconst (v := 0) hx hb dL_law_700 (by decide) ?_
          exact absurd (Prod.mk.inj (Option.some.inj h)).1 (by decide) --j557
      have h := i_no c546 h
      by_cases c558 : ((xs x3.toNatClampNeg) &&& (31 : Int32)) = 18
      · have h := i_yes c558 h
        refine lv_tableIn (off := 669) (tgt := 702) hx hb dL_law_33 (by rw [c558]; decide) (by rw [c558]; decide) (by rw [c558] <;> rfl) (by decide) ?_
        refine lv_aload_n hx hb dL_law_702 rfl (lv_at hl 1 rfl) ?_
        refine lv_aload_n hx hb dL_law_703 rfl (lv_at hl 0 rfl) ?_
        refine lv_iload_n hx hb dL_law_704 rfl (lv_at hl 3 rfl) ?_
        refine lv_iconst (v := 1) hx hb dL_law_705 (by decide) ?_
        refine lv_iadd hx hb dL_law_706 ?_
        obtain ⟨hn559, h⟩ := ix_i h
        refine va_sld hx hb hX hbl hbA hw.2.2.2.1 hn559 dL_law_707 ?_
        obtain ⟨r561, D562, hq560, h⟩ := cq_i h
        refine r_cV (st' := [.int r561]) [.int (xs (x3 + (1 : Int32)).toNatClampNeg)] [] hC hw kc_7 hi1 (k_X8_keys _ hi1 hq560) mk_X8_keys lk_1053 ⟨(by decide), (by decide)⟩ (Al.leL hc ho hE) rfl hl.1 rfl rfl (Nat.le_of_ble_eq_true rfl) dL_law_708 (fun hP H locs hw => ?_)
        refine lv_aload_n hx hb dL_law_711 rfl (lv_at hl 2 rfl) ?_
        refine lv_aload_n hx hb dL_law_712 rfl (lv_at hl 0 rfl) ?_
        refine lv_iload_n hx hb dL_law_713 rfl (lv_at hl 3 rfl) ?_
        refine lv_iconst (v := 1) hx hb dL_law_714 (by decide) ?_
        refine lv_iadd hx hb dL_law_715 ?_
        obtain ⟨hn563, h⟩ := ix_i h
        refine va_sld hx hb hX hbl hbA hw.2.2.2.1 hn563 dL_law_716 ?_
        obtain ⟨r565, D566, hq564, h⟩ := cq_i h
        refine r_cV (st' := [.int r565, .int r561]) [.int (xs (x3 + (1 : Int32)).toNatClampNeg)] [.int r561] hC hw kc_8 hi2 (k_X9_keys _ hi2 hq564) mk_X9_keys lk_1289 ⟨(by decide), (by decide)⟩ (Al.leL hc ho hE) rfl hl.1 rfl rfl (Nat.le_of_ble_eq_true rfl) dL_law_717 (fun hP H locs hw => ?_)
        refine lv_icmp_eq (tgt := 725) hx hb dL_law_720 (by decide) (fun c567 => ?_) (fun c567 => ?_)
        · have h := i_yes c567 h
          exact w_law_725 hC hX hbl hbA ho ih (mn_law_18 n) o1 a1 o2 a2 x3 _ _ _ _ _ _ _ _ hi1 hi2 hw hc (lv_sub hl [0, 1, 2, 3] rfl) h --j568
        · have h := i_no c567 h
          refine lv_iconst (v := 0) hx hb dL_law_723 (by decide) ?_
          exact absurd (Prod.mk.inj (Option.some.inj h)).1 (by decide) --j569
      have h := i_no c558 h
      refine lv_tableOut (tgt := 725) hx hb dL_law_33 (by have nc320 := lv_neT c320 (a := 0) rfl; have nc338 := lv_neT c338 (a := 1) rfl; have nc358 := lv_neT c358 (a := 2) rfl; have nc370 := lv_neT c370 (a := 3) rfl; have nc385 := lv_neT c385 (a := 4) rfl; have nc397 := lv_neT c397 (a := 5) rfl; have nc411 := lv_neT c411 (a := 6) rfl; have nc425 := lv_neT c425 (a := 7) rfl; have nc436 := lv_neT c436 (a := 8) rfl; have nc446 := lv_neT c446 (a := 9) rfl; have nc462 := lv_neT c462 (a := 10) rfl; have nc476 := lv_neT c476 (a := 11) rfl; have nc486 := lv_neT c486 (a := 12) rfl; have nc496 := lv_neT c496 (a := 13) rfl; have nc508 := lv_neT c508 (a := 14) rfl; have nc520 := lv_neT c520 (a := 15) rfl; have nc532 := lv_neT c532 (a := 16) rfl; have nc546 := lv_neT c546 (a := 17) rfl; have nc558 := lv_neT c558 (a := 18) rfl; omega) (by decide) ?_
      exact w_law_725 hC hX hbl hbA ho ih (mn_law_18 n) o1 a1 o2 a2 x3 _ _ _ _ _ _ _ _ hi1 hi2 hw hc (lv_sub hl [0, 1, 2, 3] rfl) h --j570
theorem mn_law_15 {xs : Nat → Int32} {L : Nat} {r : Int32} {S' : sh} {D' : dt} {o1 : Nat} {os0 : Nat} {S : sh} {D : dt} (h : f_law_15 xs L o1 os0 S D = some (r, S', D')) : Ext S S' := by
  unfold f_law_15 at h
  have h := nm_i h _ rfl
  exact (mn_law_18 LF _ _ _ _ _ h)
set_option maxHeartbeats 8000000 in
set_option maxRecDepth 100000 in
theorem w_law_15 {b L : Nat} {xs : Nat → Int32} {S' : sh} {D' : dt} {S0 : sh} {ad0 : Nat → Nat} (hC : Cx RL cL_law 4 ret p s m #[Value.ref b] meth c) (hX : va_X b L xs s s.heap) (hbl : b < s.heap.size) (hbA : ¬ (fun q : Nat => s.heap.size ≤ q) b) (ho : sN S' - sN S0 ≤ 600000 ∧ sZ S' - sZ S0 ≤ 7302250) : ∀ (o1 a1 : Nat) (os0 as0 : Nat) (S : sh) (D : dt) (ad : Nat → Nat) (H : Heap) (locs : List Loc) (ls : Array Slot) (cells slots : Nat), Is S ad o1 a1 7 → Is S ad os0 as0 8 → Wd G cA S D ad (fun q => s.heap.size ≤ q) s H locs → Al S0 ad0 S ad cells slots → lv_has ls 4 [(0, .ref b), (1, .ref a1)] → f_law_15 xs L o1 os0 S D = some (1, S', D') → W p l e room_1 s m #[Value.ref b] below meth c H locs cells slots (lw_Z below #[Value.ref b] s) (F0 m 15 ls [.ref as0]) := by
  obtain ⟨hx, hb, -⟩ := id hC
  intro o1 a1 os0 as0 S D ad H locs ls cells slots hi1 his0 hw hc hl h
  have hE : Ext S S' := mn_law_15  h
  unfold f_law_15 at h
  refine lv_astore_n (lv' := [(2, .ref as0), (0, .ref b), (1, .ref a1)]) hx hb dL_law_15 rfl hl (by decide) rfl (fun ls hl => ?_)
  refine lv_iconst (v := 0) hx hb dL_law_16 (by decide) ?_
  refine lv_topi (fun y571 ey571 => ?_)
  have h := nm_i h y571 ey571
  refine lv_istore_n (lv' := [(3, .int y571), (2, .ref as0), (0, .ref b), (1, .ref a1)]) hx hb dL_law_17 rfl hl (by decide) rfl (fun ls hl => ?_)
  exact w_law_18 hC hX hbl hbA ho LF o1 a1 os0 as0 y571 _ _ _ _ _ _ _ _ hi1 his0 hw hc (lv_sub hl [2, 3, 1, 0] rfl) h --j572
theorem mn_law_11 {xs : Nat → Int32} {L : Nat} {r : Int32} {S' : sh} {D' : dt} {o1 : Nat} {os0 : Nat} {S : sh} {D : dt} (h : f_law_11 xs L o1 os0 S D = some (r, S', D')) : Ext S S' := by
  unfold f_law_11 at h
  obtain ⟨_, S575, D574, hq573, h⟩ := c3_i h
  have hA := mn_X9_init_0 hq573
  exact hA.tr (mn_law_15 h)
set_option maxHeartbeats 8000000 in
set_option maxRecDepth 100000 in
theorem w_law_11 {b L : Nat} {xs : Nat → Int32} {S' : sh} {D' : dt} {S0 : sh} {ad0 : Nat → Nat} (hC : Cx RL cL_law 4 ret p s m #[Value.ref b] meth c) (hX : va_X b L xs s s.heap) (hbl : b < s.heap.size) (hbA : ¬ (fun q : Nat => s.heap.size ≤ q) b) (ho : sN S' - sN S0 ≤ 600000 ∧ sZ S' - sZ S0 ≤ 7302250) : ∀ (o1 a1 : Nat) (os0 as0 : Nat) (S : sh) (D : dt) (ad : Nat → Nat) (H : Heap) (locs : List Loc) (ls : Array Slot) (cells slots : Nat), Is S ad o1 a1 7 → Is S ad os0 as0 8 → Wd G cA S D ad (fun q => s.heap.size ≤ q) s H locs → Al S0 ad0 S ad cells slots → lv_has ls 4 [(0, .ref b), (1, .ref a1)] → f_law_11 xs L o1 os0 S D = some (1, S', D') → W p l e room_1 s m #[Value.ref b] below meth c H locs cells slots (lw_Z below #[Value.ref b] s) (F0 m 11 ls [.ref as0]) := by
  obtain ⟨hx, hb, -⟩ := id hC
  intro o1 a1 os0 as0 S D ad H locs ls cells slots hi1 his0 hw hc hl h
  have hE : Ext S S' := mn_law_11  h
  unfold f_law_11 at h
  refine lv_dup hx hb dL_law_11 rfl ?_
  obtain ⟨_, S575, D574, hq573, h⟩ := c3_i h
  have hE576 := mn_X9_init_0 hq573
  have hE577 := mn_law_15 h
  refine r_cIA [] [.ref as0] hC hw (k_X9_init _ his0 hq573) mk_X9_init lk_1064 ⟨(by decide), (by decide)⟩ (Al.roomCL hc ho hE576 hE577) rfl hl.1 rfl (Nat.le_of_ble_eq_true rfl) dL_law_12 (fun ad578 hP H locs hw => ?_)
  refine W.eq (g2 := F0 m 15 ls [.ref as0]) rfl ?_
  have hi579 := Is.up his0 hE576 hP.1
  have hi580 := Is.up hi1 hE576 hP.1
  have hc := hc.call hE576 hP.1
  exact w_law_15 hC hX hbl hbA ho o1 a1 os0 as0 _ _ _ _ _ _ _ _ hi580 hi579 hw hc (lv_sub hl [0, 1] rfl) h --j581
theorem mn_law_7 {xs : Nat → Int32} {L : Nat} {r : Int32} {S' : sh} {D' : dt} {os0 : Nat} {S : sh} {D : dt} (h : f_law_7 xs L os0 S D = some (r, S', D')) : Ext S S' := by
  unfold f_law_7 at h
  have hA := (Ext.aS S 8 0 54)
  exact hA.tr (mn_law_11 h)
set_option maxHeartbeats 8000000 in
set_option maxRecDepth 100000 in
theorem w_law_7 {b L : Nat} {xs : Nat → Int32} {S' : sh} {D' : dt} {S0 : sh} {ad0 : Nat → Nat} (hC : Cx RL cL_law 4 ret p s m #[Value.ref b] meth c) (hX : va_X b L xs s s.heap) (hbl : b < s.heap.size) (hbA : ¬ (fun q : Nat => s.heap.size ≤ q) b) (ho : sN S' - sN S0 ≤ 600000 ∧ sZ S' - sZ S0 ≤ 7302250) : ∀ (os0 as0 : Nat) (S : sh) (D : dt) (ad : Nat → Nat) (H : Heap) (locs : List Loc) (ls : Array Slot) (cells slots : Nat), Is S ad os0 as0 7 → Wd G cA S D ad (fun q => s.heap.size ≤ q) s H locs → Al S0 ad0 S ad cells slots → lv_has ls 4 [(0, .ref b)] → f_law_7 xs L os0 S D = some (1, S', D') → W p l e room_1 s m #[Value.ref b] below meth c H locs cells slots (lw_Z below #[Value.ref b] s) (F0 m 7 ls [.ref as0]) := by
  obtain ⟨hx, hb, -⟩ := id hC
  intro os0 as0 S D ad H locs ls cells slots his0 hw hc hl h
  have hE : Ext S S' := mn_law_7  h
  unfold f_law_7 at h
  refine lv_astore_n (lv' := [(1, .ref as0), (0, .ref b)]) hx hb dL_law_7 rfl hl (by decide) rfl (fun ls hl => ?_)
  have hE584 := mn_law_11 h
  refine r_new hC hw kc_8 df_8 lk_1062 lk_1063 lk_121 (Al.roomL hc ho hE584).1 (Al.roomL hc ho hE584).2 dL_law_8 (fun q582 H hw hi583 => ?_)
  have hi585 := Is.up his0 (Ext.aS S 8 0 54) (up_lt (q := q582))
  have hc := hc.new 8 0 54 q582
  exact w_law_11 hC hX hbl hbA ho os0 as0 (sN S) q582 _ _ _ _ _ _ _ _ hi585 hi583 hw hc (lv_sub hl [1, 0] rfl) h --j586
theorem mn_law_3 {xs : Nat → Int32} {L : Nat} {r : Int32} {S' : sh} {D' : dt} {os0 : Nat} {S : sh} {D : dt} (h : f_law_3 xs L os0 S D = some (r, S', D')) : Ext S S' := by
  unfold f_law_3 at h
  obtain ⟨_, S589, D588, hq587, h⟩ := c3_i h
  have hA := mn_X8_init_0 hq587
  exact hA.tr (mn_law_7 h)
set_option maxHeartbeats 8000000 in
set_option maxRecDepth 100000 in
theorem w_law_3 {b L : Nat} {xs : Nat → Int32} {S' : sh} {D' : dt} {S0 : sh} {ad0 : Nat → Nat} (hC : Cx RL cL_law 4 ret p s m #[Value.ref b] meth c) (hX : va_X b L xs s s.heap) (hbl : b < s.heap.size) (hbA : ¬ (fun q : Nat => s.heap.size ≤ q) b) (ho : sN S' - sN S0 ≤ 600000 ∧ sZ S' - sZ S0 ≤ 7302250) : ∀ (os0 as0 : Nat) (S : sh) (D : dt) (ad : Nat → Nat) (H : Heap) (locs : List Loc) (ls : Array Slot) (cells slots : Nat), Is S ad os0 as0 7 → Wd G cA S D ad (fun q => s.heap.size ≤ q) s H locs → Al S0 ad0 S ad cells slots → lv_has ls 4 [(0, .ref b)] → f_law_3 xs L os0 S D = some (1, S', D') → W p l e room_1 s m #[Value.ref b] below meth c H locs cells slots (lw_Z below #[Value.ref b] s) (F0 m 3 ls [.ref as0]) := by
  obtain ⟨hx, hb, -⟩ := id hC
  intro os0 as0 S D ad H locs ls cells slots his0 hw hc hl h
  have hE : Ext S S' := mn_law_3  h
  unfold f_law_3 at h
  refine lv_dup hx hb dL_law_3 rfl ?_
  obtain ⟨_, S589, D588, hq587, h⟩ := c3_i h
  have hE590 := mn_X8_init_0 hq587
  have hE591 := mn_law_7 h
  refine r_cIA [] [.ref as0] hC hw (k_X8_init _ his0 hq587) mk_X8_init lk_129 ⟨(by decide), (by decide)⟩ (Al.roomCL hc ho hE590 hE591) rfl hl.1 rfl (Nat.le_of_ble_eq_true rfl) dL_law_4 (fun ad592 hP H locs hw => ?_)
  refine W.eq (g2 := F0 m 7 ls [.ref as0]) rfl ?_
  have hi593 := Is.up his0 hE590 hP.1
  have hc := hc.call hE590 hP.1
  exact w_law_7 hC hX hbl hbA ho os0 as0 _ _ _ _ _ _ _ _ hi593 hw hc (lv_sub hl [0] rfl) h --j594
theorem mn_law_0 {xs : Nat → Int32} {L : Nat} {r : Int32} {S' : sh} {D' : dt} {S : sh} {D : dt} (h : f_law xs L S D = some (r, S', D')) : Ext S S' := by
  unfold f_law at h
  have hA := (Ext.aS S 7 0 4)
  exact hA.tr (mn_law_3 h)
set_option maxHeartbeats 8000000 in
set_option maxRecDepth 100000 in
theorem w_law_0 {b L : Nat} {xs : Nat → Int32} {S' : sh} {D' : dt} {S0 : sh} {ad0 : Nat → Nat} (hC : Cx RL cL_law 4 ret p s m #[Value.ref b] meth c) (hX : va_X b L xs s s.heap) (hbl : b < s.heap.size) (hbA : ¬ (fun q : Nat => s.heap.size ≤ q) b) (ho : sN S' - sN S0 ≤ 600000 ∧ sZ S' - sZ S0 ≤ 7302250) : ∀  (S : sh) (D : dt) (ad : Nat → Nat) (H : Heap) (locs : List Loc) (ls : Array Slot) (cells slots : Nat), Wd G cA S D ad (fun q => s.heap.size ≤ q) s H locs → Al S0 ad0 S ad cells slots → lv_has ls 4 [(0, .ref b)] → f_law xs L S D = some (1, S', D') → W p l e room_1 s m #[Value.ref b] below meth c H locs cells slots (lw_Z below #[Value.ref b] s) (F0 m 0 ls []) := by
  obtain ⟨hx, hb, -⟩ := id hC
  intro S D ad H locs ls cells slots  hw hc hl h
  have hE : Ext S S' := mn_law_0  h
  unfold f_law at h
  have hE597 := mn_law_3 h
  refine r_new hC hw kc_7 df_7 lk_127 lk_128 lk_114 (Al.roomL hc ho hE597).1 (Al.roomL hc ho hE597).2 dL_law_0 (fun q595 H hw hi596 => ?_)
  have hc := hc.new 7 0 4 q595
  exact w_law_3 hC hX hbl hbA ho (sN S) q595 _ _ _ _ _ _ _ _ hi596 hw hc (lv_sub hl [0] rfl) h --j598
end
