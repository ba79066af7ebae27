theorem dL_law_0 : decode cL_law 0 = .ok (.new 7, 3) := by decide +kernel
theorem dL_law_3 : decode cL_law 3 = .ok (.dup, 1) := by decide +kernel
theorem dL_law_4 : decode cL_law 4 = .ok (.invokespecial 9, 3) := by decide +kernel
theorem dL_law_7 : decode cL_law 7 = .ok (.astore_n 1, 1) := by decide +kernel
theorem dL_law_8 : decode cL_law 8 = .ok (.new 10, 3) := by decide +kernel
theorem dL_law_11 : decode cL_law 11 = .ok (.dup, 1) := by decide +kernel
theorem dL_law_12 : decode cL_law 12 = .ok (.invokespecial 12, 3) := by decide +kernel
theorem dL_law_15 : decode cL_law 15 = .ok (.astore_n 2, 1) := by decide +kernel
theorem dL_law_16 : decode cL_law 16 = .ok (.iconst 0, 1) := by decide +kernel
theorem dL_law_17 : decode cL_law 17 = .ok (.istore_n 3, 1) := by decide +kernel
theorem dL_law_18 : decode cL_law 18 = .ok (.iload_n 3, 1) := by decide +kernel
theorem dL_law_19 : decode cL_law 19 = .ok (.aload_n 0, 1) := by decide +kernel
theorem dL_law_20 : decode cL_law 20 = .ok (.arraylength, 1) := by decide +kernel
theorem dL_law_21 : decode cL_law 21 = .ok (.bipush 6, 2) := by decide +kernel
theorem dL_law_23 : decode cL_law 23 = .ok (.isub, 1) := by decide +kernel
theorem dL_law_24 : decode cL_law 24 = .ok (.if_icmp .gt 703, 3) := by decide +kernel
theorem dL_law_27 : decode cL_law 27 = .ok (.aload_n 0, 1) := by decide +kernel
theorem dL_law_28 : decode cL_law 28 = .ok (.iload_n 3, 1) := by decide +kernel
theorem dL_law_29 : decode cL_law 29 = .ok (.iaload, 1) := by decide +kernel
theorem dL_law_30 : decode cL_law 30 = .ok (.bipush 31, 2) := by decide +kernel
theorem dL_law_32 : decode cL_law 32 = .ok (.iand, 1) := by decide +kernel
theorem dL_law_33 : decode cL_law 33 = .ok (.tableswitch 688 0 18 #[91, 144, 207, 230, 283, 306, 339, 392, 405, 418, 461, 494, 507, 520, 543, 566, 589, 642, 665], 91) := by decide +kernel
theorem dL_law_124 : decode cL_law 124 = .ok (.aload_n 1, 1) := by decide +kernel
theorem dL_law_125 : decode cL_law 125 = .ok (.aload_n 0, 1) := by decide +kernel
theorem dL_law_126 : decode cL_law 126 = .ok (.iload_n 3, 1) := by decide +kernel
theorem dL_law_127 : decode cL_law 127 = .ok (.iconst 1, 1) := by decide +kernel
theorem dL_law_128 : decode cL_law 128 = .ok (.iadd, 1) := by decide +kernel
theorem dL_law_129 : decode cL_law 129 = .ok (.iaload, 1) := by decide +kernel
theorem dL_law_130 : decode cL_law 130 = .ok (.aload_n 0, 1) := by decide +kernel
theorem dL_law_131 : decode cL_law 131 = .ok (.iload_n 3, 1) := by decide +kernel
theorem dL_law_132 : decode cL_law 132 = .ok (.iconst 2, 1) := by decide +kernel
theorem dL_law_133 : decode cL_law 133 = .ok (.iadd, 1) := by decide +kernel
theorem dL_law_134 : decode cL_law 134 = .ok (.iaload, 1) := by decide +kernel
theorem dL_law_135 : decode cL_law 135 = .ok (.aload_n 0, 1) := by decide +kernel
theorem dL_law_136 : decode cL_law 136 = .ok (.iload_n 3, 1) := by decide +kernel
theorem dL_law_137 : decode cL_law 137 = .ok (.iconst 3, 1) := by decide +kernel
theorem dL_law_138 : decode cL_law 138 = .ok (.iadd, 1) := by decide +kernel
theorem dL_law_139 : decode cL_law 139 = .ok (.iaload, 1) := by decide +kernel
theorem dL_law_140 : decode cL_law 140 = .ok (.aload_n 0, 1) := by decide +kernel
theorem dL_law_141 : decode cL_law 141 = .ok (.iload_n 3, 1) := by decide +kernel
theorem dL_law_142 : decode cL_law 142 = .ok (.iconst 4, 1) := by decide +kernel
theorem dL_law_143 : decode cL_law 143 = .ok (.iadd, 1) := by decide +kernel
theorem dL_law_144 : decode cL_law 144 = .ok (.iaload, 1) := by decide +kernel
theorem dL_law_145 : decode cL_law 145 = .ok (.invokevirtual 13, 3) := by decide +kernel
theorem dL_law_148 : decode cL_law 148 = .ok (.pop, 1) := by decide +kernel
theorem dL_law_149 : decode cL_law 149 = .ok (.aload_n 2, 1) := by decide +kernel
theorem dL_law_150 : decode cL_law 150 = .ok (.aload_n 0, 1) := by decide +kernel
theorem dL_law_151 : decode cL_law 151 = .ok (.iload_n 3, 1) := by decide +kernel
theorem dL_law_152 : decode cL_law 152 = .ok (.iconst 1, 1) := by decide +kernel
theorem dL_law_153 : decode cL_law 153 = .ok (.iadd, 1) := by decide +kernel
theorem dL_law_154 : decode cL_law 154 = .ok (.iaload, 1) := by decide +kernel
theorem dL_law_155 : decode cL_law 155 = .ok (.aload_n 0, 1) := by decide +kernel
theorem dL_law_156 : decode cL_law 156 = .ok (.iload_n 3, 1) := by decide +kernel
theorem dL_law_157 : decode cL_law 157 = .ok (.iconst 2, 1) := by decide +kernel
theorem dL_law_158 : decode cL_law 158 = .ok (.iadd, 1) := by decide +kernel
theorem dL_law_159 : decode cL_law 159 = .ok (.iaload, 1) := by decide +kernel
theorem dL_law_160 : decode cL_law 160 = .ok (.aload_n 0, 1) := by decide +kernel
theorem dL_law_161 : decode cL_law 161 = .ok (.iload_n 3, 1) := by decide +kernel
theorem dL_law_162 : decode cL_law 162 = .ok (.iconst 3, 1) := by decide +kernel
theorem dL_law_163 : decode cL_law 163 = .ok (.iadd, 1) := by decide +kernel
theorem dL_law_164 : decode cL_law 164 = .ok (.iaload, 1) := by decide +kernel
theorem dL_law_165 : decode cL_law 165 = .ok (.aload_n 0, 1) := by decide +kernel
theorem dL_law_166 : decode cL_law 166 = .ok (.iload_n 3, 1) := by decide +kernel
theorem dL_law_167 : decode cL_law 167 = .ok (.iconst 4, 1) := by decide +kernel
theorem dL_law_168 : decode cL_law 168 = .ok (.iadd, 1) := by decide +kernel
theorem dL_law_169 : decode cL_law 169 = .ok (.iaload, 1) := by decide +kernel
theorem dL_law_170 : decode cL_law 170 = .ok (.invokevirtual 17, 3) := by decide +kernel
theorem dL_law_173 : decode cL_law 173 = .ok (.pop, 1) := by decide +kernel
theorem dL_law_174 : decode cL_law 174 = .ok (.goto 547, 3) := by decide +kernel
theorem dL_law_177 : decode cL_law 177 = .ok (.aload_n 1, 1) := by decide +kernel
theorem dL_law_178 : decode cL_law 178 = .ok (.aload_n 0, 1) := by decide +kernel
theorem dL_law_179 : decode cL_law 179 = .ok (.iload_n 3, 1) := by decide +kernel
theorem dL_law_180 : decode cL_law 180 = .ok (.iconst 1, 1) := by decide +kernel
theorem dL_law_181 : decode cL_law 181 = .ok (.iadd, 1) := by decide +kernel
theorem dL_law_182 : decode cL_law 182 = .ok (.iaload, 1) := by decide +kernel
theorem dL_law_183 : decode cL_law 183 = .ok (.aload_n 0, 1) := by decide +kernel
theorem dL_law_184 : decode cL_law 184 = .ok (.iload_n 3, 1) := by decide +kernel
theorem dL_law_185 : decode cL_law 185 = .ok (.iconst 2, 1) := by decide +kernel
theorem dL_law_186 : decode cL_law 186 = .ok (.iadd, 1) := by decide +kernel
theorem dL_law_187 : decode cL_law 187 = .ok (.iaload, 1) := by decide +kernel
theorem dL_law_188 : decode cL_law 188 = .ok (.aload_n 0, 1) := by decide +kernel
theorem dL_law_189 : decode cL_law 189 = .ok (.iload_n 3, 1) := by decide +kernel
theorem dL_law_190 : decode cL_law 190 = .ok (.iconst 3, 1) := by decide +kernel
theorem dL_law_191 : decode cL_law 191 = .ok (.iadd, 1) := by decide +kernel
theorem dL_law_192 : decode cL_law 192 = .ok (.iaload, 1) := by decide +kernel
theorem dL_law_193 : decode cL_law 193 = .ok (.aload_n 0, 1) := by decide +kernel
theorem dL_law_194 : decode cL_law 194 = .ok (.iload_n 3, 1) := by decide +kernel
theorem dL_law_195 : decode cL_law 195 = .ok (.iconst 4, 1) := by decide +kernel
theorem dL_law_196 : decode cL_law 196 = .ok (.iadd, 1) := by decide +kernel
theorem dL_law_197 : decode cL_law 197 = .ok (.iaload, 1) := by decide +kernel
theorem dL_law_198 : decode cL_law 198 = .ok (.aload_n 0, 1) := by decide +kernel
theorem dL_law_199 : decode cL_law 199 = .ok (.iload_n 3, 1) := by decide +kernel
theorem dL_law_200 : decode cL_law 200 = .ok (.iconst 5, 1) := by decide +kernel
theorem dL_law_201 : decode cL_law 201 = .ok (.iadd, 1) := by decide +kernel
theorem dL_law_202 : decode cL_law 202 = .ok (.iaload, 1) := by decide +kernel
theorem dL_law_203 : decode cL_law 203 = .ok (.invokevirtual 18, 3) := by decide +kernel
theorem dL_law_206 : decode cL_law 206 = .ok (.pop, 1) := by decide +kernel
theorem dL_law_207 : decode cL_law 207 = .ok (.aload_n 2, 1) := by decide +kernel
theorem dL_law_208 : decode cL_law 208 = .ok (.aload_n 0, 1) := by decide +kernel
theorem dL_law_209 : decode cL_law 209 = .ok (.iload_n 3, 1) := by decide +kernel
theorem dL_law_210 : decode cL_law 210 = .ok (.iconst 1, 1) := by decide +kernel
theorem dL_law_211 : decode cL_law 211 = .ok (.iadd, 1) := by decide +kernel
theorem dL_law_212 : decode cL_law 212 = .ok (.iaload, 1) := by decide +kernel
theorem dL_law_213 : decode cL_law 213 = .ok (.aload_n 0, 1) := by decide +kernel
theorem dL_law_214 : decode cL_law 214 = .ok (.iload_n 3, 1) := by decide +kernel
theorem dL_law_215 : decode cL_law 215 = .ok (.iconst 2, 1) := by decide +kernel
theorem dL_law_216 : decode cL_law 216 = .ok (.iadd, 1) := by decide +kernel
theorem dL_law_217 : decode cL_law 217 = .ok (.iaload, 1) := by decide +kernel
theorem dL_law_218 : decode cL_law 218 = .ok (.aload_n 0, 1) := by decide +kernel
theorem dL_law_219 : decode cL_law 219 = .ok (.iload_n 3, 1) := by decide +kernel
theorem dL_law_220 : decode cL_law 220 = .ok (.iconst 3, 1) := by decide +kernel
theorem dL_law_221 : decode cL_law 221 = .ok (.iadd, 1) := by decide +kernel
theorem dL_law_222 : decode cL_law 222 = .ok (.iaload, 1) := by decide +kernel
theorem dL_law_223 : decode cL_law 223 = .ok (.aload_n 0, 1) := by decide +kernel
theorem dL_law_224 : decode cL_law 224 = .ok (.iload_n 3, 1) := by decide +kernel
theorem dL_law_225 : decode cL_law 225 = .ok (.iconst 4, 1) := by decide +kernel
theorem dL_law_226 : decode cL_law 226 = .ok (.iadd, 1) := by decide +kernel
theorem dL_law_227 : decode cL_law 227 = .ok (.iaload, 1) := by decide +kernel
theorem dL_law_228 : decode cL_law 228 = .ok (.aload_n 0, 1) := by decide +kernel
theorem dL_law_229 : decode cL_law 229 = .ok (.iload_n 3, 1) := by decide +kernel
theorem dL_law_230 : decode cL_law 230 = .ok (.iconst 5, 1) := by decide +kernel
theorem dL_law_231 : decode cL_law 231 = .ok (.iadd, 1) := by decide +kernel
theorem dL_law_232 : decode cL_law 232 = .ok (.iaload, 1) := by decide +kernel
theorem dL_law_233 : decode cL_law 233 = .ok (.invokevirtual 22, 3) := by decide +kernel
theorem dL_law_236 : decode cL_law 236 = .ok (.pop, 1) := by decide +kernel
theorem dL_law_237 : decode cL_law 237 = .ok (.goto 484, 3) := by decide +kernel
theorem dL_law_240 : decode cL_law 240 = .ok (.aload_n 1, 1) := by decide +kernel
theorem dL_law_241 : decode cL_law 241 = .ok (.aload_n 0, 1) := by decide +kernel
theorem dL_law_242 : decode cL_law 242 = .ok (.iload_n 3, 1) := by decide +kernel
theorem dL_law_243 : decode cL_law 243 = .ok (.iconst 1, 1) := by decide +kernel
theorem dL_law_244 : decode cL_law 244 = .ok (.iadd, 1) := by decide +kernel
theorem dL_law_245 : decode cL_law 245 = .ok (.iaload, 1) := by decide +kernel
theorem dL_law_246 : decode cL_law 246 = .ok (.invokevirtual 23, 3) := by decide +kernel
theorem dL_law_249 : decode cL_law 249 = .ok (.pop, 1) := by decide +kernel
theorem dL_law_250 : decode cL_law 250 = .ok (.aload_n 2, 1) := by decide +kernel
theorem dL_law_251 : decode cL_law 251 = .ok (.aload_n 0, 1) := by decide +kernel
theorem dL_law_252 : decode cL_law 252 = .ok (.iload_n 3, 1) := by decide +kernel
theorem dL_law_253 : decode cL_law 253 = .ok (.iconst 1, 1) := by decide +kernel
theorem dL_law_254 : decode cL_law 254 = .ok (.iadd, 1) := by decide +kernel
theorem dL_law_255 : decode cL_law 255 = .ok (.iaload, 1) := by decide +kernel
theorem dL_law_256 : decode cL_law 256 = .ok (.invokevirtual 27, 3) := by decide +kernel
theorem dL_law_259 : decode cL_law 259 = .ok (.pop, 1) := by decide +kernel
theorem dL_law_260 : decode cL_law 260 = .ok (.goto 461, 3) := by decide +kernel
theorem dL_law_263 : decode cL_law 263 = .ok (.aload_n 1, 1) := by decide +kernel
theorem dL_law_264 : decode cL_law 264 = .ok (.aload_n 0, 1) := by decide +kernel
theorem dL_law_265 : decode cL_law 265 = .ok (.iload_n 3, 1) := by decide +kernel
theorem dL_law_266 : decode cL_law 266 = .ok (.iconst 1, 1) := by decide +kernel
theorem dL_law_267 : decode cL_law 267 = .ok (.iadd, 1) := by decide +kernel
theorem dL_law_268 : decode cL_law 268 = .ok (.iaload, 1) := by decide +kernel
theorem dL_law_269 : decode cL_law 269 = .ok (.aload_n 0, 1) := by decide +kernel
theorem dL_law_270 : decode cL_law 270 = .ok (.iload_n 3, 1) := by decide +kernel
theorem dL_law_271 : decode cL_law 271 = .ok (.iconst 2, 1) := by decide +kernel
theorem dL_law_272 : decode cL_law 272 = .ok (.iadd, 1) := by decide +kernel
theorem dL_law_273 : decode cL_law 273 = .ok (.iaload, 1) := by decide +kernel
theorem dL_law_274 : decode cL_law 274 = .ok (.aload_n 0, 1) := by decide +kernel
theorem dL_law_275 : decode cL_law 275 = .ok (.iload_n 3, 1) := by decide +kernel
theorem dL_law_276 : decode cL_law 276 = .ok (.iconst 3, 1) := by decide +kernel
theorem dL_law_277 : decode cL_law 277 = .ok (.iadd, 1) := by decide +kernel
theorem dL_law_278 : decode cL_law 278 = .ok (.iaload, 1) := by decide +kernel
theorem dL_law_279 : decode cL_law 279 = .ok (.aload_n 0, 1) := by decide +kernel
theorem dL_law_280 : decode cL_law 280 = .ok (.iload_n 3, 1) := by decide +kernel
theorem dL_law_281 : decode cL_law 281 = .ok (.iconst 4, 1) := by decide +kernel
theorem dL_law_282 : decode cL_law 282 = .ok (.iadd, 1) := by decide +kernel
theorem dL_law_283 : decode cL_law 283 = .ok (.iaload, 1) := by decide +kernel
theorem dL_law_284 : decode cL_law 284 = .ok (.invokevirtual 28, 3) := by decide +kernel
theorem dL_law_287 : decode cL_law 287 = .ok (.pop, 1) := by decide +kernel
theorem dL_law_288 : decode cL_law 288 = .ok (.aload_n 2, 1) := by decide +kernel
theorem dL_law_289 : decode cL_law 289 = .ok (.aload_n 0, 1) := by decide +kernel
theorem dL_law_290 : decode cL_law 290 = .ok (.iload_n 3, 1) := by decide +kernel
theorem dL_law_291 : decode cL_law 291 = .ok (.iconst 1, 1) := by decide +kernel
theorem dL_law_292 : decode cL_law 292 = .ok (.iadd, 1) := by decide +kernel
theorem dL_law_293 : decode cL_law 293 = .ok (.iaload, 1) := by decide +kernel
theorem dL_law_294 : decode cL_law 294 = .ok (.aload_n 0, 1) := by decide +kernel
theorem dL_law_295 : decode cL_law 295 = .ok (.iload_n 3, 1) := by decide +kernel
theorem dL_law_296 : decode cL_law 296 = .ok (.iconst 2, 1) := by decide +kernel
theorem dL_law_297 : decode cL_law 297 = .ok (.iadd, 1) := by decide +kernel
theorem dL_law_298 : decode cL_law 298 = .ok (.iaload, 1) := by decide +kernel
theorem dL_law_299 : decode cL_law 299 = .ok (.aload_n 0, 1) := by decide +kernel
theorem dL_law_300 : decode cL_law 300 = .ok (.iload_n 3, 1) := by decide +kernel
theorem dL_law_301 : decode cL_law 301 = .ok (.iconst 3, 1) := by decide +kernel
theorem dL_law_302 : decode cL_law 302 = .ok (.iadd, 1) := by decide +kernel
theorem dL_law_303 : decode cL_law 303 = .ok (.iaload, 1) := by decide +kernel
theorem dL_law_304 : decode cL_law 304 = .ok (.aload_n 0, 1) := by decide +kernel
theorem dL_law_305 : decode cL_law 305 = .ok (.iload_n 3, 1) := by decide +kernel
theorem dL_law_306 : decode cL_law 306 = .ok (.iconst 4, 1) := by decide +kernel
theorem dL_law_307 : decode cL_law 307 = .ok (.iadd, 1) := by decide +kernel
theorem dL_law_308 : decode cL_law 308 = .ok (.iaload, 1) := by decide +kernel
theorem dL_law_309 : decode cL_law 309 = .ok (.invokevirtual 31, 3) := by decide +kernel
theorem dL_law_312 : decode cL_law 312 = .ok (.pop, 1) := by decide +kernel
theorem dL_law_313 : decode cL_law 313 = .ok (.goto 408, 3) := by decide +kernel
theorem dL_law_316 : decode cL_law 316 = .ok (.aload_n 1, 1) := by decide +kernel
theorem dL_law_317 : decode cL_law 317 = .ok (.aload_n 0, 1) := by decide +kernel
theorem dL_law_318 : decode cL_law 318 = .ok (.iload_n 3, 1) := by decide +kernel
theorem dL_law_319 : decode cL_law 319 = .ok (.iconst 1, 1) := by decide +kernel
theorem dL_law_320 : decode cL_law 320 = .ok (.iadd, 1) := by decide +kernel
theorem dL_law_321 : decode cL_law 321 = .ok (.iaload, 1) := by decide +kernel
theorem dL_law_322 : decode cL_law 322 = .ok (.invokevirtual 32, 3) := by decide +kernel
theorem dL_law_325 : decode cL_law 325 = .ok (.pop, 1) := by decide +kernel
theorem dL_law_326 : decode cL_law 326 = .ok (.aload_n 2, 1) := by decide +kernel
theorem dL_law_327 : decode cL_law 327 = .ok (.aload_n 0, 1) := by decide +kernel
theorem dL_law_328 : decode cL_law 328 = .ok (.iload_n 3, 1) := by decide +kernel
theorem dL_law_329 : decode cL_law 329 = .ok (.iconst 1, 1) := by decide +kernel
theorem dL_law_330 : decode cL_law 330 = .ok (.iadd, 1) := by decide +kernel
theorem dL_law_331 : decode cL_law 331 = .ok (.iaload, 1) := by decide +kernel
theorem dL_law_332 : decode cL_law 332 = .ok (.invokevirtual 35, 3) := by decide +kernel
theorem dL_law_335 : decode cL_law 335 = .ok (.pop, 1) := by decide +kernel
theorem dL_law_336 : decode cL_law 336 = .ok (.goto 385, 3) := by decide +kernel
theorem dL_law_339 : decode cL_law 339 = .ok (.aload_n 1, 1) := by decide +kernel
theorem dL_law_340 : decode cL_law 340 = .ok (.aload_n 0, 1) := by decide +kernel
theorem dL_law_341 : decode cL_law 341 = .ok (.iload_n 3, 1) := by decide +kernel
theorem dL_law_342 : decode cL_law 342 = .ok (.iconst 1, 1) := by decide +kernel
theorem dL_law_343 : decode cL_law 343 = .ok (.iadd, 1) := by decide +kernel
theorem dL_law_344 : decode cL_law 344 = .ok (.iaload, 1) := by decide +kernel
theorem dL_law_345 : decode cL_law 345 = .ok (.aload_n 0, 1) := by decide +kernel
theorem dL_law_346 : decode cL_law 346 = .ok (.iload_n 3, 1) := by decide +kernel
theorem dL_law_347 : decode cL_law 347 = .ok (.iconst 2, 1) := by decide +kernel
theorem dL_law_348 : decode cL_law 348 = .ok (.iadd, 1) := by decide +kernel
theorem dL_law_349 : decode cL_law 349 = .ok (.iaload, 1) := by decide +kernel
theorem dL_law_350 : decode cL_law 350 = .ok (.invokevirtual 36, 3) := by decide +kernel
theorem dL_law_353 : decode cL_law 353 = .ok (.pop, 1) := by decide +kernel
theorem dL_law_354 : decode cL_law 354 = .ok (.aload_n 2, 1) := by decide +kernel
theorem dL_law_355 : decode cL_law 355 = .ok (.aload_n 0, 1) := by decide +kernel
theorem dL_law_356 : decode cL_law 356 = .ok (.iload_n 3, 1) := by decide +kernel
theorem dL_law_357 : decode cL_law 357 = .ok (.iconst 1, 1) := by decide +kernel
theorem dL_law_358 : decode cL_law 358 = .ok (.iadd, 1) := by decide +kernel
theorem dL_law_359 : decode cL_law 359 = .ok (.iaload, 1) := by decide +kernel
theorem dL_law_360 : decode cL_law 360 = .ok (.aload_n 0, 1) := by decide +kernel
theorem dL_law_361 : decode cL_law 361 = .ok (.iload_n 3, 1) := by decide +kernel
theorem dL_law_362 : decode cL_law 362 = .ok (.iconst 2, 1) := by decide +kernel
theorem dL_law_363 : decode cL_law 363 = .ok (.iadd, 1) := by decide +kernel
theorem dL_law_364 : decode cL_law 364 = .ok (.iaload, 1) := by decide +kernel
theorem dL_law_365 : decode cL_law 365 = .ok (.invokevirtual 40, 3) := by decide +kernel
theorem dL_law_368 : decode cL_law 368 = .ok (.pop, 1) := by decide +kernel
theorem dL_law_369 : decode cL_law 369 = .ok (.goto 352, 3) := by decide +kernel
theorem dL_law_372 : decode cL_law 372 = .ok (.aload_n 1, 1) := by decide +kernel
theorem dL_law_373 : decode cL_law 373 = .ok (.aload_n 0, 1) := by decide +kernel
theorem dL_law_374 : decode cL_law 374 = .ok (.iload_n 3, 1) := by decide +kernel
theorem dL_law_375 : decode cL_law 375 = .ok (.iconst 1, 1) := by decide +kernel
theorem dL_law_376 : decode cL_law 376 = .ok (.iadd, 1) := by decide +kernel
theorem dL_law_377 : decode cL_law 377 = .ok (.iaload, 1) := by decide +kernel
theorem dL_law_378 : decode cL_law 378 = .ok (.i2l, 1) := by decide +kernel
theorem dL_law_379 : decode cL_law 379 = .ok (.bipush 32, 2) := by decide +kernel
theorem dL_law_381 : decode cL_law 381 = .ok (.lshl, 1) := by decide +kernel
theorem dL_law_382 : decode cL_law 382 = .ok (.aload_n 0, 1) := by decide +kernel
theorem dL_law_383 : decode cL_law 383 = .ok (.iload_n 3, 1) := by decide +kernel
theorem dL_law_384 : decode cL_law 384 = .ok (.iconst 2, 1) := by decide +kernel
theorem dL_law_385 : decode cL_law 385 = .ok (.iadd, 1) := by decide +kernel
theorem dL_law_386 : decode cL_law 386 = .ok (.iaload, 1) := by decide +kernel
theorem dL_law_387 : decode cL_law 387 = .ok (.i2l, 1) := by decide +kernel
theorem dL_law_388 : decode cL_law 388 = .ok (.ldc2_w 41, 3) := by decide +kernel
theorem dL_law_391 : decode cL_law 391 = .ok (.land, 1) := by decide +kernel
theorem dL_law_392 : decode cL_law 392 = .ok (.lor, 1) := by decide +kernel
theorem dL_law_393 : decode cL_law 393 = .ok (.invokevirtual 43, 3) := by decide +kernel
theorem dL_law_396 : decode cL_law 396 = .ok (.pop2, 1) := by decide +kernel
theorem dL_law_397 : decode cL_law 397 = .ok (.aload_n 2, 1) := by decide +kernel
theorem dL_law_398 : decode cL_law 398 = .ok (.aload_n 0, 1) := by decide +kernel
theorem dL_law_399 : decode cL_law 399 = .ok (.iload_n 3, 1) := by decide +kernel
theorem dL_law_400 : decode cL_law 400 = .ok (.iconst 1, 1) := by decide +kernel
theorem dL_law_401 : decode cL_law 401 = .ok (.iadd, 1) := by decide +kernel
theorem dL_law_402 : decode cL_law 402 = .ok (.iaload, 1) := by decide +kernel
theorem dL_law_403 : decode cL_law 403 = .ok (.i2l, 1) := by decide +kernel
theorem dL_law_404 : decode cL_law 404 = .ok (.bipush 32, 2) := by decide +kernel
theorem dL_law_406 : decode cL_law 406 = .ok (.lshl, 1) := by decide +kernel
theorem dL_law_407 : decode cL_law 407 = .ok (.aload_n 0, 1) := by decide +kernel
theorem dL_law_408 : decode cL_law 408 = .ok (.iload_n 3, 1) := by decide +kernel
theorem dL_law_409 : decode cL_law 409 = .ok (.iconst 2, 1) := by decide +kernel
theorem dL_law_410 : decode cL_law 410 = .ok (.iadd, 1) := by decide +kernel
theorem dL_law_411 : decode cL_law 411 = .ok (.iaload, 1) := by decide +kernel
theorem dL_law_412 : decode cL_law 412 = .ok (.i2l, 1) := by decide +kernel
theorem dL_law_413 : decode cL_law 413 = .ok (.ldc2_w 41, 3) := by decide +kernel
theorem dL_law_416 : decode cL_law 416 = .ok (.land, 1) := by decide +kernel
theorem dL_law_417 : decode cL_law 417 = .ok (.lor, 1) := by decide +kernel
theorem dL_law_418 : decode cL_law 418 = .ok (.invokevirtual 47, 3) := by decide +kernel
theorem dL_law_421 : decode cL_law 421 = .ok (.pop2, 1) := by decide +kernel
theorem dL_law_422 : decode cL_law 422 = .ok (.goto 299, 3) := by decide +kernel
theorem dL_law_425 : decode cL_law 425 = .ok (.aload_n 1, 1) := by decide +kernel
theorem dL_law_426 : decode cL_law 426 = .ok (.invokevirtual 48, 3) := by decide +kernel
theorem dL_law_429 : decode cL_law 429 = .ok (.pop, 1) := by decide +kernel
theorem dL_law_430 : decode cL_law 430 = .ok (.aload_n 2, 1) := by decide +kernel
theorem dL_law_431 : decode cL_law 431 = .ok (.invokevirtual 52, 3) := by decide +kernel
theorem dL_law_434 : decode cL_law 434 = .ok (.pop, 1) := by decide +kernel
theorem dL_law_435 : decode cL_law 435 = .ok (.goto 286, 3) := by decide +kernel
theorem dL_law_438 : decode cL_law 438 = .ok (.aload_n 1, 1) := by decide +kernel
theorem dL_law_439 : decode cL_law 439 = .ok (.invokevirtual 53, 3) := by decide +kernel
theorem dL_law_442 : decode cL_law 442 = .ok (.pop, 1) := by decide +kernel
theorem dL_law_443 : decode cL_law 443 = .ok (.aload_n 2, 1) := by decide +kernel
theorem dL_law_444 : decode cL_law 444 = .ok (.invokevirtual 56, 3) := by decide +kernel
theorem dL_law_447 : decode cL_law 447 = .ok (.pop, 1) := by decide +kernel
theorem dL_law_448 : decode cL_law 448 = .ok (.goto 273, 3) := by decide +kernel
theorem dL_law_451 : decode cL_law 451 = .ok (.aload_n 1, 1) := by decide +kernel
theorem dL_law_452 : decode cL_law 452 = .ok (.aload_n 0, 1) := by decide +kernel
theorem dL_law_453 : decode cL_law 453 = .ok (.iload_n 3, 1) := by decide +kernel
theorem dL_law_454 : decode cL_law 454 = .ok (.iconst 1, 1) := by decide +kernel
theorem dL_law_455 : decode cL_law 455 = .ok (.iadd, 1) := by decide +kernel
theorem dL_law_456 : decode cL_law 456 = .ok (.iaload, 1) := by decide +kernel
theorem dL_law_457 : decode cL_law 457 = .ok (.aload_n 0, 1) := by decide +kernel
theorem dL_law_458 : decode cL_law 458 = .ok (.iload_n 3, 1) := by decide +kernel
theorem dL_law_459 : decode cL_law 459 = .ok (.iconst 2, 1) := by decide +kernel
theorem dL_law_460 : decode cL_law 460 = .ok (.iadd, 1) := by decide +kernel
theorem dL_law_461 : decode cL_law 461 = .ok (.iaload, 1) := by decide +kernel
theorem dL_law_462 : decode cL_law 462 = .ok (.aload_n 0, 1) := by decide +kernel
theorem dL_law_463 : decode cL_law 463 = .ok (.iload_n 3, 1) := by decide +kernel
theorem dL_law_464 : decode cL_law 464 = .ok (.iconst 3, 1) := by decide +kernel
theorem dL_law_465 : decode cL_law 465 = .ok (.iadd, 1) := by decide +kernel
theorem dL_law_466 : decode cL_law 466 = .ok (.iaload, 1) := by decide +kernel
theorem dL_law_467 : decode cL_law 467 = .ok (.invokevirtual 57, 3) := by decide +kernel
theorem dL_law_470 : decode cL_law 470 = .ok (.pop2, 1) := by decide +kernel
theorem dL_law_471 : decode cL_law 471 = .ok (.aload_n 2, 1) := by decide +kernel
theorem dL_law_472 : decode cL_law 472 = .ok (.aload_n 0, 1) := by decide +kernel
theorem dL_law_473 : decode cL_law 473 = .ok (.iload_n 3, 1) := by decide +kernel
theorem dL_law_474 : decode cL_law 474 = .ok (.iconst 1, 1) := by decide +kernel
theorem dL_law_475 : decode cL_law 475 = .ok (.iadd, 1) := by decide +kernel
theorem dL_law_476 : decode cL_law 476 = .ok (.iaload, 1) := by decide +kernel
theorem dL_law_477 : decode cL_law 477 = .ok (.aload_n 0, 1) := by decide +kernel
theorem dL_law_478 : decode cL_law 478 = .ok (.iload_n 3, 1) := by decide +kernel
theorem dL_law_479 : decode cL_law 479 = .ok (.iconst 2, 1) := by decide +kernel
theorem dL_law_480 : decode cL_law 480 = .ok (.iadd, 1) := by decide +kernel
theorem dL_law_481 : decode cL_law 481 = .ok (.iaload, 1) := by decide +kernel
theorem dL_law_482 : decode cL_law 482 = .ok (.aload_n 0, 1) := by decide +kernel
theorem dL_law_483 : decode cL_law 483 = .ok (.iload_n 3, 1) := by decide +kernel
theorem dL_law_484 : decode cL_law 484 = .ok (.iconst 3, 1) := by decide +kernel
theorem dL_law_485 : decode cL_law 485 = .ok (.iadd, 1) := by decide +kernel
theorem dL_law_486 : decode cL_law 486 = .ok (.iaload, 1) := by decide +kernel
theorem dL_law_487 : decode cL_law 487 = .ok (.invokevirtual 61, 3) := by decide +kernel
theorem dL_law_490 : decode cL_law 490 = .ok (.pop2, 1) := by decide +kernel
theorem dL_law_491 : decode cL_law 491 = .ok (.goto 230, 3) := by decide +kernel
theorem dL_law_494 : decode cL_law 494 = .ok (.aload_n 1, 1) := by decide +kernel
theorem dL_law_495 : decode cL_law 495 = .ok (.aload_n 0, 1) := by decide +kernel
theorem dL_law_496 : decode cL_law 496 = .ok (.iload_n 3, 1) := by decide +kernel
theorem dL_law_497 : decode cL_law 497 = .ok (.iconst 1, 1) := by decide +kernel
theorem dL_law_498 : decode cL_law 498 = .ok (.iadd, 1) := by decide +kernel
theorem dL_law_499 : decode cL_law 499 = .ok (.iaload, 1) := by decide +kernel
theorem dL_law_500 : decode cL_law 500 = .ok (.aload_n 0, 1) := by decide +kernel
theorem dL_law_501 : decode cL_law 501 = .ok (.iload_n 3, 1) := by decide +kernel
theorem dL_law_502 : decode cL_law 502 = .ok (.iconst 2, 1) := by decide +kernel
theorem dL_law_503 : decode cL_law 503 = .ok (.iadd, 1) := by decide +kernel
theorem dL_law_504 : decode cL_law 504 = .ok (.iaload, 1) := by decide +kernel
theorem dL_law_505 : decode cL_law 505 = .ok (.invokevirtual 62, 3) := by decide +kernel
theorem dL_law_508 : decode cL_law 508 = .ok (.pop, 1) := by decide +kernel
theorem dL_law_509 : decode cL_law 509 = .ok (.aload_n 2, 1) := by decide +kernel
theorem dL_law_510 : decode cL_law 510 = .ok (.aload_n 0, 1) := by decide +kernel
theorem dL_law_511 : decode cL_law 511 = .ok (.iload_n 3, 1) := by decide +kernel
theorem dL_law_512 : decode cL_law 512 = .ok (.iconst 1, 1) := by decide +kernel
theorem dL_law_513 : decode cL_law 513 = .ok (.iadd, 1) := by decide +kernel
theorem dL_law_514 : decode cL_law 514 = .ok (.iaload, 1) := by decide +kernel
theorem dL_law_515 : decode cL_law 515 = .ok (.aload_n 0, 1) := by decide +kernel
theorem dL_law_516 : decode cL_law 516 = .ok (.iload_n 3, 1) := by decide +kernel
theorem dL_law_517 : decode cL_law 517 = .ok (.iconst 2, 1) := by decide +kernel
theorem dL_law_518 : decode cL_law 518 = .ok (.iadd, 1) := by decide +kernel
theorem dL_law_519 : decode cL_law 519 = .ok (.iaload, 1) := by decide +kernel
theorem dL_law_520 : decode cL_law 520 = .ok (.invokevirtual 65, 3) := by decide +kernel
theorem dL_law_523 : decode cL_law 523 = .ok (.pop, 1) := by decide +kernel
theorem dL_law_524 : decode cL_law 524 = .ok (.goto 197, 3) := by decide +kernel
theorem dL_law_527 : decode cL_law 527 = .ok (.aload_n 1, 1) := by decide +kernel
theorem dL_law_528 : decode cL_law 528 = .ok (.invokevirtual 66, 3) := by decide +kernel
theorem dL_law_531 : decode cL_law 531 = .ok (.aload_n 2, 1) := by decide +kernel
theorem dL_law_532 : decode cL_law 532 = .ok (.invokevirtual 69, 3) := by decide +kernel
theorem dL_law_535 : decode cL_law 535 = .ok (.if_icmp .eq 186, 3) := by decide +kernel
theorem dL_law_538 : decode cL_law 538 = .ok (.iconst 0, 1) := by decide +kernel
theorem dL_law_539 : decode cL_law 539 = .ok (.ireturn, 1) := by decide +kernel
theorem dL_law_540 : decode cL_law 540 = .ok (.aload_n 1, 1) := by decide +kernel
theorem dL_law_541 : decode cL_law 541 = .ok (.invokevirtual 70, 3) := by decide +kernel
theorem dL_law_544 : decode cL_law 544 = .ok (.pop, 1) := by decide +kernel
theorem dL_law_545 : decode cL_law 545 = .ok (.aload_n 2, 1) := by decide +kernel
theorem dL_law_546 : decode cL_law 546 = .ok (.invokevirtual 73, 3) := by decide +kernel
theorem dL_law_549 : decode cL_law 549 = .ok (.pop, 1) := by decide +kernel
theorem dL_law_550 : decode cL_law 550 = .ok (.goto 171, 3) := by decide +kernel
theorem dL_law_553 : decode cL_law 553 = .ok (.aload_n 1, 1) := by decide +kernel
theorem dL_law_554 : decode cL_law 554 = .ok (.aload_n 0, 1) := by decide +kernel
theorem dL_law_555 : decode cL_law 555 = .ok (.iload_n 3, 1) := by decide +kernel
theorem dL_law_556 : decode cL_law 556 = .ok (.iconst 1, 1) := by decide +kernel
theorem dL_law_557 : decode cL_law 557 = .ok (.iadd, 1) := by decide +kernel
theorem dL_law_558 : decode cL_law 558 = .ok (.iaload, 1) := by decide +kernel
theorem dL_law_559 : decode cL_law 559 = .ok (.invokevirtual 74, 3) := by decide +kernel
theorem dL_law_562 : decode cL_law 562 = .ok (.pop, 1) := by decide +kernel
theorem dL_law_563 : decode cL_law 563 = .ok (.aload_n 2, 1) := by decide +kernel
theorem dL_law_564 : decode cL_law 564 = .ok (.aload_n 0, 1) := by decide +kernel
theorem dL_law_565 : decode cL_law 565 = .ok (.iload_n 3, 1) := by decide +kernel
theorem dL_law_566 : decode cL_law 566 = .ok (.iconst 1, 1) := by decide +kernel
theorem dL_law_567 : decode cL_law 567 = .ok (.iadd, 1) := by decide +kernel
theorem dL_law_568 : decode cL_law 568 = .ok (.iaload, 1) := by decide +kernel
theorem dL_law_569 : decode cL_law 569 = .ok (.invokevirtual 77, 3) := by decide +kernel
theorem dL_law_572 : decode cL_law 572 = .ok (.pop, 1) := by decide +kernel
theorem dL_law_573 : decode cL_law 573 = .ok (.goto 148, 3) := by decide +kernel
theorem dL_law_576 : decode cL_law 576 = .ok (.aload_n 1, 1) := by decide +kernel
theorem dL_law_577 : decode cL_law 577 = .ok (.aload_n 0, 1) := by decide +kernel
theorem dL_law_578 : decode cL_law 578 = .ok (.iload_n 3, 1) := by decide +kernel
theorem dL_law_579 : decode cL_law 579 = .ok (.iconst 1, 1) := by decide +kernel
theorem dL_law_580 : decode cL_law 580 = .ok (.iadd, 1) := by decide +kernel
theorem dL_law_581 : decode cL_law 581 = .ok (.iaload, 1) := by decide +kernel
theorem dL_law_582 : decode cL_law 582 = .ok (.invokevirtual 78, 3) := by decide +kernel
theorem dL_law_585 : decode cL_law 585 = .ok (.pop, 1) := by decide +kernel
theorem dL_law_586 : decode cL_law 586 = .ok (.aload_n 2, 1) := by decide +kernel
theorem dL_law_587 : decode cL_law 587 = .ok (.aload_n 0, 1) := by decide +kernel
theorem dL_law_588 : decode cL_law 588 = .ok (.iload_n 3, 1) := by decide +kernel
theorem dL_law_589 : decode cL_law 589 = .ok (.iconst 1, 1) := by decide +kernel
theorem dL_law_590 : decode cL_law 590 = .ok (.iadd, 1) := by decide +kernel
theorem dL_law_591 : decode cL_law 591 = .ok (.iaload, 1) := by decide +kernel
theorem dL_law_592 : decode cL_law 592 = .ok (.invokevirtual 81, 3) := by decide +kernel
theorem dL_law_595 : decode cL_law 595 = .ok (.pop, 1) := by decide +kernel
theorem dL_law_596 : decode cL_law 596 = .ok (.goto 125, 3) := by decide +kernel
theorem dL_law_599 : decode cL_law 599 = .ok (.aload_n 1, 1) := by decide +kernel
theorem dL_law_600 : decode cL_law 600 = .ok (.aload_n 0, 1) := by decide +kernel
theorem dL_law_601 : decode cL_law 601 = .ok (.iload_n 3, 1) := by decide +kernel
theorem dL_law_602 : decode cL_law 602 = .ok (.iconst 1, 1) := by decide +kernel
theorem dL_law_603 : decode cL_law 603 = .ok (.iadd, 1) := by decide +kernel
theorem dL_law_604 : decode cL_law 604 = .ok (.iaload, 1) := by decide +kernel
theorem dL_law_605 : decode cL_law 605 = .ok (.invokevirtual 82, 3) := by decide +kernel
theorem dL_law_608 : decode cL_law 608 = .ok (.pop2, 1) := by decide +kernel
theorem dL_law_609 : decode cL_law 609 = .ok (.aload_n 2, 1) := by decide +kernel
theorem dL_law_610 : decode cL_law 610 = .ok (.aload_n 0, 1) := by decide +kernel
theorem dL_law_611 : decode cL_law 611 = .ok (.iload_n 3, 1) := by decide +kernel
theorem dL_law_612 : decode cL_law 612 = .ok (.iconst 1, 1) := by decide +kernel
theorem dL_law_613 : decode cL_law 613 = .ok (.iadd, 1) := by decide +kernel
theorem dL_law_614 : decode cL_law 614 = .ok (.iaload, 1) := by decide +kernel
theorem dL_law_615 : decode cL_law 615 = .ok (.invokevirtual 86, 3) := by decide +kernel
theorem dL_law_618 : decode cL_law 618 = .ok (.pop2, 1) := by decide +kernel
theorem dL_law_619 : decode cL_law 619 = .ok (.goto 102, 3) := by decide +kernel
theorem dL_law_622 : decode cL_law 622 = .ok (.aload_n 1, 1) := by decide +kernel
theorem dL_law_623 : decode cL_law 623 = .ok (.aload_n 0, 1) := by decide +kernel
theorem dL_law_624 : decode cL_law 624 = .ok (.iload_n 3, 1) := by decide +kernel
theorem dL_law_625 : decode cL_law 625 = .ok (.iconst 1, 1) := by decide +kernel
theorem dL_law_626 : decode cL_law 626 = .ok (.iadd, 1) := by decide +kernel
theorem dL_law_627 : decode cL_law 627 = .ok (.iaload, 1) := by decide +kernel
theorem dL_law_628 : decode cL_law 628 = .ok (.i2l, 1) := by decide +kernel
theorem dL_law_629 : decode cL_law 629 = .ok (.bipush 32, 2) := by decide +kernel
theorem dL_law_631 : decode cL_law 631 = .ok (.lshl, 1) := by decide +kernel
theorem dL_law_632 : decode cL_law 632 = .ok (.aload_n 0, 1) := by decide +kernel
theorem dL_law_633 : decode cL_law 633 = .ok (.iload_n 3, 1) := by decide +kernel
theorem dL_law_634 : decode cL_law 634 = .ok (.iconst 2, 1) := by decide +kernel
theorem dL_law_635 : decode cL_law 635 = .ok (.iadd, 1) := by decide +kernel
theorem dL_law_636 : decode cL_law 636 = .ok (.iaload, 1) := by decide +kernel
theorem dL_law_637 : decode cL_law 637 = .ok (.i2l, 1) := by decide +kernel
theorem dL_law_638 : decode cL_law 638 = .ok (.ldc2_w 41, 3) := by decide +kernel
theorem dL_law_641 : decode cL_law 641 = .ok (.land, 1) := by decide +kernel
theorem dL_law_642 : decode cL_law 642 = .ok (.lor, 1) := by decide +kernel
theorem dL_law_643 : decode cL_law 643 = .ok (.invokevirtual 87, 3) := by decide +kernel
theorem dL_law_646 : decode cL_law 646 = .ok (.pop, 1) := by decide +kernel
theorem dL_law_647 : decode cL_law 647 = .ok (.aload_n 2, 1) := by decide +kernel
theorem dL_law_648 : decode cL_law 648 = .ok (.aload_n 0, 1) := by decide +kernel
theorem dL_law_649 : decode cL_law 649 = .ok (.iload_n 3, 1) := by decide +kernel
theorem dL_law_650 : decode cL_law 650 = .ok (.iconst 1, 1) := by decide +kernel
theorem dL_law_651 : decode cL_law 651 = .ok (.iadd, 1) := by decide +kernel
theorem dL_law_652 : decode cL_law 652 = .ok (.iaload, 1) := by decide +kernel
theorem dL_law_653 : decode cL_law 653 = .ok (.i2l, 1) := by decide +kernel
theorem dL_law_654 : decode cL_law 654 = .ok (.bipush 32, 2) := by decide +kernel
theorem dL_law_656 : decode cL_law 656 = .ok (.lshl, 1) := by decide +kernel
theorem dL_law_657 : decode cL_law 657 = .ok (.aload_n 0, 1) := by decide +kernel
theorem dL_law_658 : decode cL_law 658 = .ok (.iload_n 3, 1) := by decide +kernel
theorem dL_law_659 : decode cL_law 659 = .ok (.iconst 2, 1) := by decide +kernel
theorem dL_law_660 : decode cL_law 660 = .ok (.iadd, 1) := by decide +kernel
theorem dL_law_661 : decode cL_law 661 = .ok (.iaload, 1) := by decide +kernel
theorem dL_law_662 : decode cL_law 662 = .ok (.i2l, 1) := by decide +kernel
theorem dL_law_663 : decode cL_law 663 = .ok (.ldc2_w 41, 3) := by decide +kernel
theorem dL_law_666 : decode cL_law 666 = .ok (.land, 1) := by decide +kernel
theorem dL_law_667 : decode cL_law 667 = .ok (.lor, 1) := by decide +kernel
theorem dL_law_668 : decode cL_law 668 = .ok (.invokevirtual 91, 3) := by decide +kernel
theorem dL_law_671 : decode cL_law 671 = .ok (.pop, 1) := by decide +kernel
theorem dL_law_672 : decode cL_law 672 = .ok (.goto 49, 3) := by decide +kernel
theorem dL_law_675 : decode cL_law 675 = .ok (.aload_n 1, 1) := by decide +kernel
theorem dL_law_676 : decode cL_law 676 = .ok (.aload_n 0, 1) := by decide +kernel
theorem dL_law_677 : decode cL_law 677 = .ok (.iload_n 3, 1) := by decide +kernel
theorem dL_law_678 : decode cL_law 678 = .ok (.iconst 1, 1) := by decide +kernel
theorem dL_law_679 : decode cL_law 679 = .ok (.iadd, 1) := by decide +kernel
theorem dL_law_680 : decode cL_law 680 = .ok (.iaload, 1) := by decide +kernel
theorem dL_law_681 : decode cL_law 681 = .ok (.invokevirtual 92, 3) := by decide +kernel
theorem dL_law_684 : decode cL_law 684 = .ok (.pop2, 1) := by decide +kernel
theorem dL_law_685 : decode cL_law 685 = .ok (.aload_n 2, 1) := by decide +kernel
theorem dL_law_686 : decode cL_law 686 = .ok (.aload_n 0, 1) := by decide +kernel
theorem dL_law_687 : decode cL_law 687 = .ok (.iload_n 3, 1) := by decide +kernel
theorem dL_law_688 : decode cL_law 688 = .ok (.iconst 1, 1) := by decide +kernel
theorem dL_law_689 : decode cL_law 689 = .ok (.iadd, 1) := by decide +kernel
theorem dL_law_690 : decode cL_law 690 = .ok (.iaload, 1) := by decide +kernel
theorem dL_law_691 : decode cL_law 691 = .ok (.invokevirtual 95, 3) := by decide +kernel
theorem dL_law_694 : decode cL_law 694 = .ok (.pop2, 1) := by decide +kernel
theorem dL_law_695 : decode cL_law 695 = .ok (.goto 26, 3) := by decide +kernel
theorem dL_law_698 : decode cL_law 698 = .ok (.aload_n 1, 1) := by decide +kernel
theorem dL_law_699 : decode cL_law 699 = .ok (.aload_n 0, 1) := by decide +kernel
theorem dL_law_700 : decode cL_law 700 = .ok (.iload_n 3, 1) := by decide +kernel
theorem dL_law_701 : decode cL_law 701 = .ok (.iconst 1, 1) := by decide +kernel
theorem dL_law_702 : decode cL_law 702 = .ok (.iadd, 1) := by decide +kernel
theorem dL_law_703 : decode cL_law 703 = .ok (.iaload, 1) := by decide +kernel
theorem dL_law_704 : decode cL_law 704 = .ok (.invokevirtual 96, 3) := by decide +kernel
theorem dL_law_707 : decode cL_law 707 = .ok (.pop, 1) := by decide +kernel
theorem dL_law_708 : decode cL_law 708 = .ok (.aload_n 2, 1) := by decide +kernel
theorem dL_law_709 : decode cL_law 709 = .ok (.aload_n 0, 1) := by decide +kernel
theorem dL_law_710 : decode cL_law 710 = .ok (.iload_n 3, 1) := by decide +kernel
theorem dL_law_711 : decode cL_law 711 = .ok (.iconst 1, 1) := by decide +kernel
theorem dL_law_712 : decode cL_law 712 = .ok (.iadd, 1) := by decide +kernel
theorem dL_law_713 : decode cL_law 713 = .ok (.iaload, 1) := by decide +kernel
theorem dL_law_714 : decode cL_law 714 = .ok (.invokevirtual 99, 3) := by decide +kernel
theorem dL_law_717 : decode cL_law 717 = .ok (.pop, 1) := by decide +kernel
theorem dL_law_718 : decode cL_law 718 = .ok (.goto 3, 3) := by decide +kernel
theorem dL_law_721 : decode cL_law 721 = .ok (.iinc 3 6, 3) := by decide +kernel
theorem dL_law_724 : decode cL_law 724 = .ok (.goto (-706), 3) := by decide +kernel
theorem dL_law_727 : decode cL_law 727 = .ok (.iconst 1, 1) := by decide +kernel
theorem dL_law_728 : decode cL_law 728 = .ok (.ireturn, 1) := by decide +kernel
theorem lk_127 : Cond.classLink RL 7 RX8 ∈ tb0 := tb_in (i := 127) (by decide +kernel) (by decide +kernel)
theorem lk_128 : Cond.instantiable RX8 4 ∈ tb0 := tb_in (i := 128) (by decide +kernel) (by decide +kernel)
theorem lk_129 : Cond.methodLink RL 9 yX8_init ∈ tb0 := tb_in (i := 129) (by decide +kernel) (by decide +kernel)
theorem lk_1065 : Cond.classLink RL 10 RX9 ∈ tb0 := tb_in (i := 1065) (by decide +kernel) (by decide +kernel)
theorem lk_1066 : Cond.instantiable RX9 54 ∈ tb0 := tb_in (i := 1066) (by decide +kernel) (by decide +kernel)
theorem lk_1067 : Cond.methodLink RL 12 yX9_init ∈ tb0 := tb_in (i := 1067) (by decide +kernel) (by decide +kernel)
theorem lk_368 : Cond.methodLink RL 13 yX8_feed ∈ tb0 := tb_in (i := 368) (by decide +kernel) (by decide +kernel)
theorem lk_1235 : Cond.methodLink RL 17 yX9_feed ∈ tb0 := tb_in (i := 1235) (by decide +kernel) (by decide +kernel)
theorem lk_383 : Cond.methodLink RL 18 yX8_alter ∈ tb0 := tb_in (i := 383) (by decide +kernel) (by decide +kernel)
theorem lk_1252 : Cond.methodLink RL 22 yX9_alter ∈ tb0 := tb_in (i := 1252) (by decide +kernel) (by decide +kernel)
theorem lk_388 : Cond.methodLink RL 23 yX8_cut ∈ tb0 := tb_in (i := 388) (by decide +kernel) (by decide +kernel)
theorem lk_1256 : Cond.methodLink RL 27 yX9_cut ∈ tb0 := tb_in (i := 1256) (by decide +kernel) (by decide +kernel)
theorem lk_392 : Cond.methodLink RL 28 yX8_table ∈ tb0 := tb_in (i := 392) (by decide +kernel) (by decide +kernel)
theorem lk_435 : Cond.methodLink RL 32 yX8_context ∈ tb0 := tb_in (i := 435) (by decide +kernel) (by decide +kernel)
theorem lk_1422 : Cond.methodLink RL 35 yX9_context ∈ tb0 := tb_in (i := 1422) (by decide +kernel) (by decide +kernel)
theorem lk_443 : Cond.methodLink RL 36 yX8_poke ∈ tb0 := tb_in (i := 443) (by decide +kernel) (by decide +kernel)
theorem lk_1427 : Cond.methodLink RL 40 yX9_poke ∈ tb0 := tb_in (i := 1427) (by decide +kernel) (by decide +kernel)
theorem lk_1608 : Cond.constantLong RL 41 (4294967295) ∈ tb0 := tb_in (i := 1608) (by decide +kernel) (by decide +kernel)
theorem lk_447 : Cond.methodLink RL 43 yX8_tick ∈ tb0 := tb_in (i := 447) (by decide +kernel) (by decide +kernel)
theorem lk_1431 : Cond.methodLink RL 47 yX9_tick ∈ tb0 := tb_in (i := 1431) (by decide +kernel) (by decide +kernel)
theorem lk_453 : Cond.methodLink RL 48 yX8_judge ∈ tb0 := tb_in (i := 453) (by decide +kernel) (by decide +kernel)
theorem lk_860 : Cond.methodLink RL 53 yX8_place ∈ tb0 := tb_in (i := 860) (by decide +kernel) (by decide +kernel)
theorem lk_1595 : Cond.methodLink RL 56 yX9_place ∈ tb0 := tb_in (i := 1595) (by decide +kernel) (by decide +kernel)
theorem lk_864 : Cond.methodLink RL 57 yX8_may ∈ tb0 := tb_in (i := 864) (by decide +kernel) (by decide +kernel)
theorem lk_1599 : Cond.methodLink RL 61 yX9_may ∈ tb0 := tb_in (i := 1599) (by decide +kernel) (by decide +kernel)
theorem lk_875 : Cond.methodLink RL 62 yX8_cell ∈ tb0 := tb_in (i := 875) (by decide +kernel) (by decide +kernel)
theorem lk_1604 : Cond.methodLink RL 65 yX9_cell ∈ tb0 := tb_in (i := 1604) (by decide +kernel) (by decide +kernel)
theorem lk_883 : Cond.methodLink RL 66 yX8_start ∈ tb0 := tb_in (i := 883) (by decide +kernel) (by decide +kernel)
theorem lk_1296 : Cond.methodLink RL 69 yX9_start ∈ tb0 := tb_in (i := 1296) (by decide +kernel) (by decide +kernel)
theorem lk_897 : Cond.methodLink RL 70 yX8_step ∈ tb0 := tb_in (i := 897) (by decide +kernel) (by decide +kernel)
theorem lk_1300 : Cond.methodLink RL 73 yX9_step ∈ tb0 := tb_in (i := 1300) (by decide +kernel) (by decide +kernel)
theorem lk_1027 : Cond.methodLink RL 74 yX8_run ∈ tb0 := tb_in (i := 1027) (by decide +kernel) (by decide +kernel)
theorem lk_1416 : Cond.methodLink RL 77 yX9_run ∈ tb0 := tb_in (i := 1416) (by decide +kernel) (by decide +kernel)
theorem lk_1031 : Cond.methodLink RL 78 yX8_told ∈ tb0 := tb_in (i := 1031) (by decide +kernel) (by decide +kernel)
theorem lk_1437 : Cond.methodLink RL 81 yX9_told ∈ tb0 := tb_in (i := 1437) (by decide +kernel) (by decide +kernel)
theorem lk_1035 : Cond.methodLink RL 82 yX8_register ∈ tb0 := tb_in (i := 1035) (by decide +kernel) (by decide +kernel)
theorem lk_1441 : Cond.methodLink RL 86 yX9_register ∈ tb0 := tb_in (i := 1441) (by decide +kernel) (by decide +kernel)
theorem lk_1039 : Cond.methodLink RL 87 yX8_octet ∈ tb0 := tb_in (i := 1039) (by decide +kernel) (by decide +kernel)
theorem lk_1260 : Cond.methodLink RL 91 yX9_octet ∈ tb0 := tb_in (i := 1260) (by decide +kernel) (by decide +kernel)
theorem lk_1045 : Cond.methodLink RL 92 yX8_putAt ∈ tb0 := tb_in (i := 1045) (by decide +kernel) (by decide +kernel)
theorem lk_1446 : Cond.methodLink RL 95 yX9_putAt ∈ tb0 := tb_in (i := 1446) (by decide +kernel) (by decide +kernel)
theorem lk_1056 : Cond.methodLink RL 96 yX8_keys ∈ tb0 := tb_in (i := 1056) (by decide +kernel) (by decide +kernel)
theorem lk_1292 : Cond.methodLink RL 99 yX9_keys ∈ tb0 := tb_in (i := 1292) (by decide +kernel) (by decide +kernel)
theorem lk_1286 : Cond.methodLink RL 31 yX9_table ∈ tb0 := tb_in (i := 1286) (by decide +kernel) (by decide +kernel)
theorem lk_1450 : Cond.methodLink RL 52 yX9_judge ∈ tb0 := tb_in (i := 1450) (by decide +kernel) (by decide +kernel)
def f_law_721 (xs : Nat → Int32) (L : Nat) (k18 : Nat → Nat → Int32 → sh → dt → Option (Int32 × sh × dt)) (o1 : Nat) (o2 : Nat) (x3 : Int32) (S : sh) (D : dt) : Option (Int32 × sh × dt) := nm (x3 + 6) fun y249 => k18 o1 o2 y249 S D
def f_law_287 (xs : Nat → Int32) (L : Nat) (k18 : Nat → Nat → Int32 → sh → dt → Option (Int32 × sh × dt)) (o1 : Nat) (o2 : Nat) (x3 : Int32) (xs0 : Int32) (S : sh) (D : dt) : Option (Int32 × sh × dt) := ix (x3 + (1 : Int32)) L <| ix (x3 + (2 : Int32)) L <| ix (x3 + (3 : Int32)) L <| ix (x3 + (4 : Int32)) L <| cq (f_X9_table S o2 (xs (x3 + (1 : Int32)).toNatClampNeg) (xs (x3 + (2 : Int32)).toNatClampNeg) (xs (x3 + (3 : Int32)).toNatClampNeg) (xs (x3 + (4 : Int32)).toNatClampNeg) D) fun r256 D257 => f_law_721 xs L k18 o1 o2 x3 S D257
def f_law_429 (xs : Nat → Int32) (L : Nat) (k18 : Nat → Nat → Int32 → sh → dt → Option (Int32 × sh × dt)) (o1 : Nat) (o2 : Nat) (x3 : Int32) (xs0 : Int32) (S : sh) (D : dt) : Option (Int32 × sh × dt) := cq (f_X9_judge S o2 D) fun r260 D261 => f_law_721 xs L k18 o1 o2 x3 S D261
def f_law_18 (xs : Nat → Int32) (L : Nat) : Nat → Nat → Nat → Int32 → sh → dt → Option (Int32 × sh × dt)
  | 0, _, _, _, _, _ => none
  | n + 1, o1, o2, x3, S, D => if ((Int32.ofNat L) - (6 : Int32)) < x3 then (some ((1 : Int32), S, D)) else (ix x3 L <| if ((xs x3.toNatClampNeg) &&& (31 : Int32)) = 0 then (ix (x3 + (1 : Int32)) L <| ix (x3 + (2 : Int32)) L <| ix (x3 + (3 : Int32)) L <| ix (x3 + (4 : Int32)) L <| cq (f_X8_feed S o1 (xs (x3 + (1 : Int32)).toNatClampNeg) (xs (x3 + (2 : Int32)).toNatClampNeg) (xs (x3 + (3 : Int32)).toNatClampNeg) (xs (x3 + (4 : Int32)).toNatClampNeg) D) fun r271 D272 => ix (x3 + (1 : Int32)) L <| ix (x3 + (2 : Int32)) L <| ix (x3 + (3 : Int32)) L <| ix (x3 + (4 : Int32)) L <| cq (f_X9_feed S o2 (xs (x3 + (1 : Int32)).toNatClampNeg) (xs (x3 + (2 : Int32)).toNatClampNeg) (xs (x3 + (3 : Int32)).toNatClampNeg) (xs (x3 + (4 : Int32)).toNatClampNeg) D272) fun r278 D279 => f_law_721 xs L (f_law_18 xs L n) o1 o2 x3 S D279) else if ((xs x3.toNatClampNeg) &&& (31 : Int32)) = 1 then (ix (x3 + (1 : Int32)) L <| ix (x3 + (2 : Int32)) L <| ix (x3 + (3 : Int32)) L <| ix (x3 + (4 : Int32)) L <| ix (x3 + (5 : Int32)) L <| cq (f_X8_alter S o1 (xs (x3 + (1 : Int32)).toNatClampNeg) (xs (x3 + (2 : Int32)).toNatClampNeg) (xs (x3 + (3 : Int32)).toNatClampNeg) (xs (x3 + (4 : Int32)).toNatClampNeg) (xs (x3 + (5 : Int32)).toNatClampNeg) D) fun r288 D289 => ix (x3 + (1 : Int32)) L <| ix (x3 + (2 : Int32)) L <| ix (x3 + (3 : Int32)) L <| ix (x3 + (4 : Int32)) L <| ix (x3 + (5 : Int32)) L <| cq (f_X9_alter S o2 (xs (x3 + (1 : Int32)).toNatClampNeg) (xs (x3 + (2 : Int32)).toNatClampNeg) (xs (x3 + (3 : Int32)).toNatClampNeg) (xs (x3 + (4 : Int32)).toNatClampNeg) (xs (x3 + (5 : Int32)).toNatClampNeg) D289) fun r296 D297 => f_law_721 xs L (f_law_18 xs L n) o1 o2 x3 S D297) else if ((xs x3.toNatClampNeg) &&& (31 : Int32)) = 2 then (ix (x3 + (1 : Int32)) L <| cq (f_X8_cut S o1 (xs (x3 + (1 : Int32)).toNatClampNeg) D) fun r302 D303 => ix (x3 + (1 : Int32)) L <| cq (f_X9_cut S o2 (xs (x3 + (1 : Int32)).toNatClampNeg) D303) fun r306 D307 => f_law_721 xs L (f_law_18 xs L n) o1 o2 x3 S D307) else if ((xs x3.toNatClampNeg) &&& (31 : Int32)) = 3 then (ix (x3 + (1 : Int32)) L <| ix (x3 + (2 : Int32)) L <| ix (x3 + (3 : Int32)) L <| ix (x3 + (4 : Int32)) L <| c3 (f_X8_table o1 (xs (x3 + (1 : Int32)).toNatClampNeg) (xs (x3 + (2 : Int32)).toNatClampNeg) (xs (x3 + (3 : Int32)).toNatClampNeg) (xs (x3 + (4 : Int32)).toNatClampNeg) S D) fun r315 S317 D316 => f_law_287 xs L (f_law_18 xs L n) o1 o2 x3 r315 S317 D316) else if ((xs x3.toNatClampNeg) &&& (31 : Int32)) = 4 then (ix (x3 + (1 : Int32)) L <| cq (f_X8_context S o1 (xs (x3 + (1 : Int32)).toNatClampNeg) D) fun r327 D328 => ix (x3 + (1 : Int32)) L <| cq (f_X9_context S o2 (xs (x3 + (1 : Int32)).toNatClampNeg) D328) fun r331 D332 => f_law_721 xs L (f_law_18 xs L n) o1 o2 x3 S D332) else if ((xs x3.toNatClampNeg) &&& (31 : Int32)) = 5 then (ix (x3 + (1 : Int32)) L <| ix (x3 + (2 : Int32)) L <| cq (f_X8_poke S o1 (xs (x3 + (1 : Int32)).toNatClampNeg) (xs (x3 + (2 : Int32)).toNatClampNeg) D) fun r338 D339 => ix (x3 + (1 : Int32)) L <| ix (x3 + (2 : Int32)) L <| cq (f_X9_poke S o2 (xs (x3 + (1 : Int32)).toNatClampNeg) (xs (x3 + (2 : Int32)).toNatClampNeg) D339) fun r343 D344 => f_law_721 xs L (f_law_18 xs L n) o1 o2 x3 S D344) else if ((xs x3.toNatClampNeg) &&& (31 : Int32)) = 6 then (ix (x3 + (1 : Int32)) L <| ix (x3 + (2 : Int32)) L <| cq (f_X8_tick S o1 ((j_lshl ((xs (x3 + (1 : Int32)).toNatClampNeg).toInt64) (32 : Int32)) ||| (((xs (x3 + (2 : Int32)).toNatClampNeg).toInt64) &&& (4294967295 : Int64))) D) fun r350 D351 => ix (x3 + (1 : Int32)) L <| ix (x3 + (2 : Int32)) L <| cq (f_X9_tick S o2 ((j_lshl ((xs (x3 + (1 : Int32)).toNatClampNeg).toInt64) (32 : Int32)) ||| (((xs (x3 + (2 : Int32)).toNatClampNeg).toInt64) &&& (4294967295 : Int64))) D351) fun r355 D356 => f_law_721 xs L (f_law_18 xs L n) o1 o2 x3 S D356) else if ((xs x3.toNatClampNeg) &&& (31 : Int32)) = 7 then (c3 (f_X8_judge o1 S D) fun r360 S362 D361 => f_law_429 xs L (f_law_18 xs L n) o1 o2 x3 r360 S362 D361) else if ((xs x3.toNatClampNeg) &&& (31 : Int32)) = 8 then (pq (f_X8_place S D o1) fun r371 => pq (f_X9_place S D o2) fun r373 => f_law_721 xs L (f_law_18 xs L n) o1 o2 x3 S D) else if ((xs x3.toNatClampNeg) &&& (31 : Int32)) = 9 then (ix (x3 + (1 : Int32)) L <| ix (x3 + (2 : Int32)) L <| ix (x3 + (3 : Int32)) L <| pq (f_X8_may S D o1 (xs (x3 + (1 : Int32)).toNatClampNeg) (xs (x3 + (2 : Int32)).toNatClampNeg) (xs (x3 + (3 : Int32)).toNatClampNeg)) fun r380 => ix (x3 + (1 : Int32)) L <| ix (x3 + (2 : Int32)) L <| ix (x3 + (3 : Int32)) L <| pq (f_X9_may S D o2 (xs (x3 + (1 : Int32)).toNatClampNeg) (xs (x3 + (2 : Int32)).toNatClampNeg) (xs (x3 + (3 : Int32)).toNatClampNeg)) fun r385 => f_law_721 xs L (f_law_18 xs L n) o1 o2 x3 S D) else if ((xs x3.toNatClampNeg) &&& (31 : Int32)) = 10 then (ix (x3 + (1 : Int32)) L <| ix (x3 + (2 : Int32)) L <| pq (f_X8_cell S D o1 (xs (x3 + (1 : Int32)).toNatClampNeg) (xs (x3 + (2 : Int32)).toNatClampNeg)) fun r391 => ix (x3 + (1 : Int32)) L <| ix (x3 + (2 : Int32)) L <| pq (f_X9_cell S D o2 (xs (x3 + (1 : Int32)).toNatClampNeg) (xs (x3 + (2 : Int32)).toNatClampNeg)) fun r395 => f_law_721 xs L (f_law_18 xs L n) o1 o2 x3 S D) else if ((xs x3.toNatClampNeg) &&& (31 : Int32)) = 11 then (cq (f_X8_start S o1 D) fun r399 D400 => cq (f_X9_start S o2 D400) fun r402 D403 => if r399 = r402 then (f_law_721 xs L (f_law_18 xs L n) o1 o2 x3 S D403) else (some ((0 : Int32), S, D403))) else if ((xs x3.toNatClampNeg) &&& (31 : Int32)) = 12 then (cq (f_X8_step S o1 D) fun r409 D410 => cq (f_X9_step S o2 D410) fun r412 D413 => f_law_721 xs L (f_law_18 xs L n) o1 o2 x3 S D413) else if ((xs x3.toNatClampNeg) &&& (31 : Int32)) = 13 then (ix (x3 + (1 : Int32)) L <| cq (f_X8_run S o1 (xs (x3 + (1 : Int32)).toNatClampNeg) D) fun r418 D419 => ix (x3 + (1 : Int32)) L <| cq (f_X9_run S o2 (xs (x3 + (1 : Int32)).toNatClampNeg) D419) fun r422 D423 => f_law_721 xs L (f_law_18 xs L n) o1 o2 x3 S D423) else if ((xs x3.toNatClampNeg) &&& (31 : Int32)) = 14 then (ix (x3 + (1 : Int32)) L <| pq (f_X8_told S D o1 (xs (x3 + (1 : Int32)).toNatClampNeg)) fun r428 => ix (x3 + (1 : Int32)) L <| pq (f_X9_told S D o2 (xs (x3 + (1 : Int32)).toNatClampNeg)) fun r431 => f_law_721 xs L (f_law_18 xs L n) o1 o2 x3 S D) else if ((xs x3.toNatClampNeg) &&& (31 : Int32)) = 15 then (ix (x3 + (1 : Int32)) L <| pq (f_X8_register S D o1 (xs (x3 + (1 : Int32)).toNatClampNeg)) fun r436 => ix (x3 + (1 : Int32)) L <| pq (f_X9_register S D o2 (xs (x3 + (1 : Int32)).toNatClampNeg)) fun r439 => f_law_721 xs L (f_law_18 xs L n) o1 o2 x3 S D) else if ((xs x3.toNatClampNeg) &&& (31 : Int32)) = 16 then (ix (x3 + (1 : Int32)) L <| ix (x3 + (2 : Int32)) L <| cq (f_X8_octet S o1 ((j_lshl ((xs (x3 + (1 : Int32)).toNatClampNeg).toInt64) (32 : Int32)) ||| (((xs (x3 + (2 : Int32)).toNatClampNeg).toInt64) &&& (4294967295 : Int64))) D) fun r445 D446 => ix (x3 + (1 : Int32)) L <| ix (x3 + (2 : Int32)) L <| pq (f_X9_octet S D446 o2 ((j_lshl ((xs (x3 + (1 : Int32)).toNatClampNeg).toInt64) (32 : Int32)) ||| (((xs (x3 + (2 : Int32)).toNatClampNeg).toInt64) &&& (4294967295 : Int64)))) fun r450 => f_law_721 xs L (f_law_18 xs L n) o1 o2 x3 S D446) else if ((xs x3.toNatClampNeg) &&& (31 : Int32)) = 17 then (ix (x3 + (1 : Int32)) L <| pq (f_X8_putAt S D o1 (xs (x3 + (1 : Int32)).toNatClampNeg)) fun r455 => ix (x3 + (1 : Int32)) L <| pq (f_X9_putAt S D o2 (xs (x3 + (1 : Int32)).toNatClampNeg)) fun r458 => f_law_721 xs L (f_law_18 xs L n) o1 o2 x3 S D) else if ((xs x3.toNatClampNeg) &&& (31 : Int32)) = 18 then (ix (x3 + (1 : Int32)) L <| pq (f_X8_keys S D o1 (xs (x3 + (1 : Int32)).toNatClampNeg)) fun r463 => ix (x3 + (1 : Int32)) L <| pq (f_X9_keys S D o2 (xs (x3 + (1 : Int32)).toNatClampNeg)) fun r466 => f_law_721 xs L (f_law_18 xs L n) o1 o2 x3 S D) else (f_law_721 xs L (f_law_18 xs L n) o1 o2 x3 S D))
def f_law_15 (xs : Nat → Int32) (L : Nat) (o1 : Nat) (os0 : Nat) (S : sh) (D : dt) : Option (Int32 × sh × dt) := nm ((0 : Int32)) fun y469 => f_law_18 xs L LF o1 os0 y469 S D
def f_law_11 (xs : Nat → Int32) (L : Nat) (o1 : Nat) (os0 : Nat) (S : sh) (D : dt) : Option (Int32 × sh × dt) := c3 (f_X9_init os0 S D) fun _ S473 D472 => f_law_15 xs L o1 os0 S473 D472
def f_law_7 (xs : Nat → Int32) (L : Nat) (os0 : Nat) (S : sh) (D : dt) : Option (Int32 × sh × dt) := f_law_11 xs L os0 (sN S) (aS S 8 0 54) (aD S D)
def f_law_3 (xs : Nat → Int32) (L : Nat) (os0 : Nat) (S : sh) (D : dt) : Option (Int32 × sh × dt) := c3 (f_X8_init os0 S D) fun _ S487 D486 => f_law_7 xs L os0 S487 D486
def f_law (xs : Nat → Int32) (L : Nat) (S : sh) (D : dt) : Option (Int32 × sh × dt) := f_law_3 xs L (sN S) (aS S 7 0 4) (aD S D)
section
variable {p : Program} {l : Launch} {e : Env} {R : Room} {s : State} {m : MethodId} {args : Array Value} {below : List Frame} {meth : Method} {c : Code} {H : Heap} {locs : List Loc} {G : va_G} {cA : Nat → ClassId} {S : sh} {D : dt} {ad : Nat → Nat} {A : Nat → Prop}
theorem mn_law_721 {xs : Nat → Int32} {L : Nat} {r : Int32} {S' : sh} {D' : dt} {k18 : Nat → Nat → Int32 → sh → dt → Option (Int32 × sh × dt)} (hk18 : ∀ (o1 : Nat) (o2 : Nat) (x3 : Int32) (S : sh) (D : dt), k18 o1 o2 x3 S D = some (r, S', D') → Ext S S') {o1 : Nat} {o2 : Nat} {x3 : Int32} {S : sh} {D : dt} (h : f_law_721 xs L k18 o1 o2 x3 S D = some (r, S', D')) : Ext S S' := by
  unfold f_law_721 at h
  have h := nm_i h _ rfl
  exact (hk18 _ _ _ _ _ h)
set_option maxHeartbeats 8000000 in
set_option maxRecDepth 100000 in
theorem w_law_721 {b L : Nat} {xs : Nat → Int32} {S' : sh} {D' : dt} {S0 : sh} {ad0 : Nat → Nat} (hC : Cx RL cL_law 4 ret p s m #[Value.ref b] meth c) (hX : va_X b L xs s s.heap) (hbl : b < s.heap.size) (hbA : ¬ (fun q : Nat => s.heap.size ≤ q) b) (ho : sN S' - sN S0 ≤ 600000 ∧ sZ S' - sZ S0 ≤ 7302250) {k18 : Nat → Nat → Int32 → sh → dt → Option (Int32 × sh × dt)} (hk18 : ∀ (o1 a1 : Nat) (o2 a2 : Nat) (x3 : Int32) (S : sh) (D : dt) (ad : Nat → Nat) (H : Heap) (locs : List Loc) (ls : Array Slot) (cells slots : Nat), Is S ad o1 a1 7 → Is S ad o2 a2 8 → Wd G cA S D ad (fun q => s.heap.size ≤ q) s H locs → Al S0 ad0 S ad cells slots → lv_has ls 4 [(0, .ref b), (1, .ref a1), (2, .ref a2), (3, .int x3)] → k18 o1 o2 x3 S D = some (1, S', D') → W p l e room_1 s m #[Value.ref b] below meth c H locs cells slots (lw_Z below #[Value.ref b] s) (F0 m 18 ls [])) (hm18 : ∀ (o1 : Nat) (o2 : Nat) (x3 : Int32) (S : sh) (D : dt), k18 o1 o2 x3 S D = some (1, S', D') → Ext S S') : ∀ (o1 a1 : Nat) (o2 a2 : Nat) (x3 : Int32) (S : sh) (D : dt) (ad : Nat → Nat) (H : Heap) (locs : List Loc) (ls : Array Slot) (cells slots : Nat), Is S ad o1 a1 7 → Is S ad o2 a2 8 → Wd G cA S D ad (fun q => s.heap.size ≤ q) s H locs → Al S0 ad0 S ad cells slots → lv_has ls 4 [(0, .ref b), (1, .ref a1), (2, .ref a2), (3, .int x3)] → f_law_721 xs L k18 o1 o2 x3 S D = some (1, S', D') → W p l e room_1 s m #[Value.ref b] below meth c H locs cells slots (lw_Z below #[Value.ref b] s) (F0 m 721 ls []) := by
  obtain ⟨hx, hb, -⟩ := id hC
  intro o1 a1 o2 a2 x3 S D ad H locs ls cells slots hi1 hi2 hw hc hl h
  have hE : Ext S S' := mn_law_721 hm18 h
  unfold f_law_721 at h
  obtain ⟨y249, ey249⟩ : ∃ z : Int32, z = x3 + 6 := ⟨_, rfl⟩
  have h := nm_i h y249 ey249
  refine lv_iinc (v := y249) (lv' := [(3, .int y249), (0, .ref b), (1, .ref a1), (2, .ref a2)]) hx hb dL_law_721 hl (k := 3) rfl (by rw [ey249]; rfl) (by decide) rfl (fun ls hl => ?_)
  refine lv_goto (tgt := 18) hx hb dL_law_724 (by decide) ?_
  exact hk18 o1 a1 o2 a2 y249 _ _ _ _ _ _ _ _ hi1 hi2 hw hc (lv_sub hl [1, 2, 3, 0] rfl) h --j250
theorem mn_law_287 {xs : Nat → Int32} {L : Nat} {r : Int32} {S' : sh} {D' : dt} {k18 : Nat → Nat → Int32 → sh → dt → Option (Int32 × sh × dt)} (hk18 : ∀ (o1 : Nat) (o2 : Nat) (x3 : Int32) (S : sh) (D : dt), k18 o1 o2 x3 S D = some (r, S', D') → Ext S S') {o1 : Nat} {o2 : Nat} {x3 : Int32} {xs0 : Int32} {S : sh} {D : dt} (h : f_law_287 xs L k18 o1 o2 x3 xs0 S D = some (r, S', D')) : Ext S S' := by
  unfold f_law_287 at h
  obtain ⟨hn251, h⟩ := ix_i h
  obtain ⟨hn252, h⟩ := ix_i h
  obtain ⟨hn253, h⟩ := ix_i h
  obtain ⟨hn254, h⟩ := ix_i h
  obtain ⟨r256, D257, hq255, h⟩ := cq_i h
  exact (mn_law_721 hk18 h)
set_option maxHeartbeats 8000000 in
set_option maxRecDepth 100000 in
theorem w_law_287 {b L : Nat} {xs : Nat → Int32} {S' : sh} {D' : dt} {S0 : sh} {ad0 : Nat → Nat} (hC : Cx RL cL_law 4 ret p s m #[Value.ref b] meth c) (hX : va_X b L xs s s.heap) (hbl : b < s.heap.size) (hbA : ¬ (fun q : Nat => s.heap.size ≤ q) b) (ho : sN S' - sN S0 ≤ 600000 ∧ sZ S' - sZ S0 ≤ 7302250) {k18 : Nat → Nat → Int32 → sh → dt → Option (Int32 × sh × dt)} (hk18 : ∀ (o1 a1 : Nat) (o2 a2 : Nat) (x3 : Int32) (S : sh) (D : dt) (ad : Nat → Nat) (H : Heap) (locs : List Loc) (ls : Array Slot) (cells slots : Nat), Is S ad o1 a1 7 → Is S ad o2 a2 8 → Wd G cA S D ad (fun q => s.heap.size ≤ q) s H locs → Al S0 ad0 S ad cells slots → lv_has ls 4 [(0, .ref b), (1, .ref a1), (2, .ref a2), (3, .int x3)] → k18 o1 o2 x3 S D = some (1, S', D') → W p l e room_1 s m #[Value.ref b] below meth c H locs cells slots (lw_Z below #[Value.ref b] s) (F0 m 18 ls [])) (hm18 : ∀ (o1 : Nat) (o2 : Nat) (x3 : Int32) (S : sh) (D : dt), k18 o1 o2 x3 S D = some (1, S', D') → Ext S S') : ∀ (o1 a1 : Nat) (o2 a2 : Nat) (x3 : Int32) (xs0 : Int32) (S : sh) (D : dt) (ad : Nat → Nat) (H : Heap) (locs : List Loc) (ls : Array Slot) (cells slots : Nat), Is S ad o1 a1 7 → Is S ad o2 a2 8 → Wd G cA S D ad (fun q => s.heap.size ≤ q) s H locs → Al S0 ad0 S ad cells slots → lv_has ls 4 [(0, .ref b), (1, .ref a1), (2, .ref a2), (3, .int x3)] → f_law_287 xs L k18 o1 o2 x3 xs0 S D = some (1, S', D') → W p l e room_1 s m #[Value.ref b] below meth c H locs cells slots (lw_Z below #[Value.ref b] s) (F0 m 287 ls [.int xs0]) := by
  obtain ⟨hx, hb, -⟩ := id hC
  intro o1 a1 o2 a2 x3 xs0 S D ad H locs ls cells slots hi1 hi2 hw hc hl h
  have hE : Ext S S' := mn_law_287 hm18 h
  unfold f_law_287 at h
  refine lv_pop hx hb dL_law_287 rfl ?_
  refine lv_aload_n hx hb dL_law_288 rfl (lv_at hl 2 rfl) ?_
  refine lv_aload_n hx hb dL_law_289 rfl (lv_at hl 0 rfl) ?_
  refine lv_iload_n hx hb dL_law_290 rfl (lv_at hl 3 rfl) ?_
  refine lv_iconst (v := 1) hx hb dL_law_291 (by decide) ?_
  refine lv_iadd hx hb dL_law_292 ?_
  obtain ⟨hn251, h⟩ := ix_i h
  refine va_sld hx hb hX hbl hbA hw.2.2.2.1 hn251 dL_law_293 ?_
  refine lv_aload_n hx hb dL_law_294 rfl (lv_at hl 0 rfl) ?_
  refine lv_iload_n hx hb dL_law_295 rfl (lv_at hl 3 rfl) ?_
  refine lv_iconst (v := 2) hx hb dL_law_296 (by decide) ?_
  refine lv_iadd hx hb dL_law_297 ?_
  obtain ⟨hn252, h⟩ := ix_i h
  refine va_sld hx hb hX hbl hbA hw.2.2.2.1 hn252 dL_law_298 ?_
  refine lv_aload_n hx hb dL_law_299 rfl (lv_at hl 0 rfl) ?_
  refine lv_iload_n hx hb dL_law_300 rfl (lv_at hl 3 rfl) ?_
  refine lv_iconst (v := 3) hx hb dL_law_301 (by decide) ?_
  refine lv_iadd hx hb dL_law_302 ?_
  obtain ⟨hn253, h⟩ := ix_i h
  refine va_sld hx hb hX hbl hbA hw.2.2.2.1 hn253 dL_law_303 ?_
  refine lv_aload_n hx hb dL_law_304 rfl (lv_at hl 0 rfl) ?_
  refine lv_iload_n hx hb dL_law_305 rfl (lv_at hl 3 rfl) ?_
  refine lv_iconst (v := 4) hx hb dL_law_306 (by decide) ?_
  refine lv_iadd hx hb dL_law_307 ?_
  obtain ⟨hn254, h⟩ := ix_i h
  refine va_sld hx hb hX hbl hbA hw.2.2.2.1 hn254 dL_law_308 ?_
  obtain ⟨r256, D257, hq255, h⟩ := cq_i h
  refine r_cV (st' := [.int r256]) [.int (xs (x3 + (1 : Int32)).toNatClampNeg), .int (xs (x3 + (2 : Int32)).toNatClampNeg), .int (xs (x3 + (3 : Int32)).toNatClampNeg), .int (xs (x3 + (4 : Int32)).toNatClampNeg)] [] hC hw kc_8 hi2 (k_X9_table _ hi2 hq255) mk_X9_table lk_1286 ⟨(by decide), (by decide)⟩ (Al.leL hc ho hE) rfl hl.1 rfl rfl (Nat.le_of_ble_eq_true rfl) dL_law_309 (fun hP H locs hw => ?_)
  refine lv_pop hx hb dL_law_312 rfl ?_
  refine lv_goto (tgt := 721) hx hb dL_law_313 (by decide) ?_
  exact w_law_721 hC hX hbl hbA ho hk18 hm18 o1 a1 o2 a2 x3 _ _ _ _ _ _ _ _ hi1 hi2 hw hc (lv_sub hl [0, 1, 2, 3] rfl) h --j258
theorem mn_law_429 {xs : Nat → Int32} {L : Nat} {r : Int32} {S' : sh} {D' : dt} {k18 : Nat → Nat → Int32 → sh → dt → Option (Int32 × sh × dt)} (hk18 : ∀ (o1 : Nat) (o2 : Nat) (x3 : Int32) (S : sh) (D : dt), k18 o1 o2 x3 S D = some (r, S', D') → Ext S S') {o1 : Nat} {o2 : Nat} {x3 : Int32} {xs0 : Int32} {S : sh} {D : dt} (h : f_law_429 xs L k18 o1 o2 x3 xs0 S D = some (r, S', D')) : Ext S S' := by
  unfold f_law_429 at h
  obtain ⟨r260, D261, hq259, h⟩ := cq_i h
  exact (mn_law_721 hk18 h)
set_option maxHeartbeats 8000000 in
set_option maxRecDepth 100000 in
theorem w_law_429 {b L : Nat} {xs : Nat → Int32} {S' : sh} {D' : dt} {S0 : sh} {ad0 : Nat → Nat} (hC : Cx RL cL_law 4 ret p s m #[Value.ref b] meth c) (hX : va_X b L xs s s.heap) (hbl : b < s.heap.size) (hbA : ¬ (fun q : Nat => s.heap.size ≤ q) b) (ho : sN S' - sN S0 ≤ 600000 ∧ sZ S' - sZ S0 ≤ 7302250) {k18 : Nat → Nat → Int32 → sh → dt → Option (Int32 × sh × dt)} (hk18 : ∀ (o1 a1 : Nat) (o2 a2 : Nat) (x3 : Int32) (S : sh) (D : dt) (ad : Nat → Nat) (H : Heap) (locs : List Loc) (ls : Array Slot) (cells slots : Nat), Is S ad o1 a1 7 → Is S ad o2 a2 8 → Wd G cA S D ad (fun q => s.heap.size ≤ q) s H locs → Al S0 ad0 S ad cells slots → lv_has ls 4 [(0, .ref b), (1, .ref a1), (2, .ref a2), (3, .int x3)] → k18 o1 o2 x3 S D = some (1, S', D') → W p l e room_1 s m #[Value.ref b] below meth c H locs cells slots (lw_Z below #[Value.ref b] s) (F0 m 18 ls [])) (hm18 : ∀ (o1 : Nat) (o2 : Nat) (x3 : Int32) (S : sh) (D : dt), k18 o1 o2 x3 S D = some (1, S', D') → Ext S S') : ∀ (o1 a1 : Nat) (o2 a2 : Nat) (x3 : Int32) (xs0 : Int32) (S : sh) (D : dt) (ad : Nat → Nat) (H : Heap) (locs : List Loc) (ls : Array Slot) (cells slots : Nat), Is S ad o1 a1 7 → Is S ad o2 a2 8 → Wd G cA S D ad (fun q => s.heap.size ≤ q) s H locs → Al S0 ad0 S ad cells slots → lv_has ls 4 [(0, .ref b), (1, .ref a1), (2, .ref a2), (3, .int x3)] → f_law_429 xs L k18 o1 o2 x3 xs0 S D = some (1, S', D') → W p l e room_1 s m #[Value.ref b] below meth c H locs cells slots (lw_Z below #[Value.ref b] s) (F0 m 429 ls [.int xs0]) := by
  obtain ⟨hx, hb, -⟩ := id hC
  intro o1 a1 o2 a2 x3 xs0 S D ad H locs ls cells slots hi1 hi2 hw hc hl h
  have hE : Ext S S' := mn_law_429 hm18 h
  unfold f_law_429 at h
  refine lv_pop hx hb dL_law_429 rfl ?_
  refine lv_aload_n hx hb dL_law_430 rfl (lv_at hl 2 rfl) ?_
  obtain ⟨r260, D261, hq259, h⟩ := cq_i h
  refine r_cV (st' := [.int r260]) [] [] hC hw kc_8 hi2 (k_X9_judge _ hi2 hq259) mk_X9_judge lk_1450 ⟨(by decide), (by decide)⟩ (Al.leL hc ho hE) rfl hl.1 rfl rfl (Nat.le_of_ble_eq_true rfl) dL_law_431 (fun hP H locs hw => ?_)
  refine lv_pop hx hb dL_law_434 rfl ?_
  refine lv_goto (tgt := 721) hx hb dL_law_435 (by decide) ?_
  exact w_law_721 hC hX hbl hbA ho hk18 hm18 o1 a1 o2 a2 x3 _ _ _ _ _ _ _ _ hi1 hi2 hw hc (lv_sub hl [0, 1, 2, 3] rfl) h --j262
theorem mn_law_18 {xs : Nat → Int32} {L : Nat} {r : Int32} {S' : sh} {D' : dt} : ∀ (n : Nat) (o1 : Nat) (o2 : Nat) (x3 : Int32) (S : sh) (D : dt), f_law_18 xs L n o1 o2 x3 S D = some (r, S', D') → Ext S S' := by
  intro n
  induction n with
  | zero =>
    intro o1 o2 x3 S D h
    rw [f_law_18.eq_1] at h
    cases h
  | succ n ih =>
    intro o1 o2 x3 S D h
    rw [f_law_18.eq_2] at h
    rcases (Decidable.em (((Int32.ofNat L) - (6 : Int32)) < x3)) with c263 | c263
    · have h := i_yes c263 h
      cases h
      exact Ext.rf _
    · have h := i_no c263 h
      obtain ⟨hn264, h⟩ := ix_i h
      by_cases c265 : ((xs x3.toNatClampNeg) &&& (31 : Int32)) = 0
      · have h := i_yes c265 h
        obtain ⟨hn266, h⟩ := ix_i h
        obtain ⟨hn267, h⟩ := ix_i h
        obtain ⟨hn268, h⟩ := ix_i h
        obtain ⟨hn269, h⟩ := ix_i h
        obtain ⟨r271, D272, hq270, h⟩ := cq_i h
        obtain ⟨hn273, h⟩ := ix_i h
        obtain ⟨hn274, h⟩ := ix_i h
        obtain ⟨hn275, h⟩ := ix_i h
        obtain ⟨hn276, h⟩ := ix_i h
        obtain ⟨r278, D279, hq277, h⟩ := cq_i h
        exact (mn_law_721 ih h)
      have h := i_no c265 h
      by_cases c281 : ((xs x3.toNatClampNeg) &&& (31 : Int32)) = 1
      · have h := i_yes c281 h
        obtain ⟨hn282, h⟩ := ix_i h
        obtain ⟨hn283, h⟩ := ix_i h
        obtain ⟨hn284, h⟩ := ix_i h
        obtain ⟨hn285, h⟩ := ix_i h
        obtain ⟨hn286, h⟩ := ix_i h
        obtain ⟨r288, D289, hq287, h⟩ := cq_i h
        obtain ⟨hn290, h⟩ := ix_i h
        obtain ⟨hn291, h⟩ := ix_i h
        obtain ⟨hn292, h⟩ := ix_i h
        obtain ⟨hn293, h⟩ := ix_i h
        obtain ⟨hn294, h⟩ := ix_i h
        obtain ⟨r296, D297, hq295, h⟩ := cq_i h
        exact (mn_law_721 ih h)
      have h := i_no c281 h
      by_cases c299 : ((xs x3.toNatClampNeg) &&& (31 : Int32)) = 2
      · have h := i_yes c299 h
        obtain ⟨hn300, h⟩ := ix_i h
        obtain ⟨r302, D303, hq301, h⟩ := cq_i h
        obtain ⟨hn304, h⟩ := ix_i h
        obtain ⟨r306, D307, hq305, h⟩ := cq_i h
        exact (mn_law_721 ih h)
      have h := i_no c299 h
      by_cases c309 : ((xs x3.toNatClampNeg) &&& (31 : Int32)) = 3
      · have h := i_yes c309 h
        obtain ⟨hn310, h⟩ := ix_i h
        obtain ⟨hn311, h⟩ := ix_i h
        obtain ⟨hn312, h⟩ := ix_i h
        obtain ⟨hn313, h⟩ := ix_i h
        obtain ⟨r315, S317, D316, hq314, h⟩ := c3_i h
        have hA := mn_X8_table_0 hq314
        exact hA.tr (mn_law_287 ih h)
      have h := i_no c309 h
      by_cases c324 : ((xs x3.toNatClampNeg) &&& (31 : Int32)) = 4
      · have h := i_yes c324 h
        obtain ⟨hn325, h⟩ := ix_i h
        obtain ⟨r327, D328, hq326, h⟩ := cq_i h
        obtain ⟨hn329, h⟩ := ix_i h
        obtain ⟨r331, D332, hq330, h⟩ := cq_i h
        exact (mn_law_721 ih h)
      have h := i_no c324 h
      by_cases c334 : ((xs x3.toNatClampNeg) &&& (31 : Int32)) = 5
      · have h := i_yes c334 h
        obtain ⟨hn335, h⟩ := ix_i h
        obtain ⟨hn336, h⟩ := ix_i h
        obtain ⟨r338, D339, hq337, h⟩ := cq_i h
        obtain ⟨hn340, h⟩ := ix_i h
        obtain ⟨hn341, h⟩ := ix_i h
        obtain ⟨r343, D344, hq342, h⟩ := cq_i h
        exact (mn_law_721 ih h)
      have h := i_no c334 h
      by_cases c346 : ((xs x3.toNatClampNeg) &&& (31 : Int32)) = 6
      · have h := i_yes c346 h
        obtain ⟨hn347, h⟩ := ix_i h
        obtain ⟨hn348, h⟩ := ix_i h
        obtain ⟨r350, D351, hq349, h⟩ := cq_i h
        obtain ⟨hn352, h⟩ := ix_i h
        obtain ⟨hn353, h⟩ := ix_i h
        obtain ⟨r355, D356, hq354, h⟩ := cq_i h
        exact (mn_law_721 ih h)
      have h := i_no c346 h
      by_cases c358 : ((xs x3.toNatClampNeg) &&& (31 : Int32)) = 7
      · have h := i_yes c358 h
        obtain ⟨r360, S362, D361, hq359, h⟩ := c3_i h
        have hA := mn_X8_judge_0 hq359
        exact hA.tr (mn_law_429 ih h)
      have h := i_no c358 h
      by_cases c369 : ((xs x3.toNatClampNeg) &&& (31 : Int32)) = 8
      · have h := i_yes c369 h
        obtain ⟨r371, hq370, h⟩ := pq_i h
        obtain ⟨r373, hq372, h⟩ := pq_i h
        exact (mn_law_721 ih h)
      have h := i_no c369 h
      by_cases c375 : ((xs x3.toNatClampNeg) &&& (31 : Int32)) = 9
      · have h := i_yes c375 h
        obtain ⟨hn376, h⟩ := ix_i h
        obtain ⟨hn377, h⟩ := ix_i h
        obtain ⟨hn378, h⟩ := ix_i h
        obtain ⟨r380, hq379, h⟩ := pq_i h
        obtain ⟨hn381, h⟩ := ix_i h
        obtain ⟨hn382, h⟩ := ix_i h
        obtain ⟨hn383, h⟩ := ix_i h
        obtain ⟨r385, hq384, h⟩ := pq_i h
        exact (mn_law_721 ih h)
      have h := i_no c375 h
      by_cases c387 : ((xs x3.toNatClampNeg) &&& (31 : Int32)) = 10
      · have h := i_yes c387 h
        obtain ⟨hn388, h⟩ := ix_i h
        obtain ⟨hn389, h⟩ := ix_i h
        obtain ⟨r391, hq390, h⟩ := pq_i h
        obtain ⟨hn392, h⟩ := ix_i h
        obtain ⟨hn393, h⟩ := ix_i h
        obtain ⟨r395, hq394, h⟩ := pq_i h
        exact (mn_law_721 ih h)
      have h := i_no c387 h
      by_cases c397 : ((xs x3.toNatClampNeg) &&& (31 : Int32)) = 11
      · have h := i_yes c397 h
        obtain ⟨r399, D400, hq398, h⟩ := cq_i h
        obtain ⟨r402, D403, hq401, h⟩ := cq_i h
        rcases (Decidable.em (r399 = r402)) with c404 | c404
        · have h := i_yes c404 h
          exact (mn_law_721 ih h)
        · have h := i_no c404 h
          cases h; exact Ext.rf _
      have h := i_no c397 h
      by_cases c407 : ((xs x3.toNatClampNeg) &&& (31 : Int32)) = 12
      · have h := i_yes c407 h
        obtain ⟨r409, D410, hq408, h⟩ := cq_i h
        obtain ⟨r412, D413, hq411, h⟩ := cq_i h
        exact (mn_law_721 ih h)
      have h := i_no c407 h
      by_cases c415 : ((xs x3.toNatClampNeg) &&& (31 : Int32)) = 13
      · have h := i_yes c415 h
        obtain ⟨hn416, h⟩ := ix_i h
        obtain ⟨r418, D419, hq417, h⟩ := cq_i h
        obtain ⟨hn420, h⟩ := ix_i h
        obtain ⟨r422, D423, hq421, h⟩ := cq_i h
        exact (mn_law_721 ih h)
      have h := i_no c415 h
      by_cases c425 : ((xs x3.toNatClampNeg) &&& (31 : Int32)) = 14
      · have h := i_yes c425 h
        obtain ⟨hn426, h⟩ := ix_i h
        obtain ⟨r428, hq427, h⟩ := pq_i h
        obtain ⟨hn429, h⟩ := ix_i h
        obtain ⟨r431, hq430, h⟩ := pq_i h
        exact (mn_law_721 ih h)
      have h := i_no c425 h
      by_cases c433 : ((xs x3.toNatClampNeg) &&& (31 : Int32)) = 15
      · have h := i_yes c433 h
        obtain ⟨hn434, h⟩ := ix_i h
        obtain ⟨r436, hq435, h⟩ := pq_i h
        obtain ⟨hn437, h⟩ := ix_i h
        obtain ⟨r439, hq438, h⟩ := pq_i h
        exact (mn_law_721 ih h)
      have h := i_no c433 h
      by_cases c441 : ((xs x3.toNatClampNeg) &&& (31 : Int32)) = 16
      · have h := i_yes c441 h
        obtain ⟨hn442, h⟩ := ix_i h
        obtain ⟨hn443, h⟩ := ix_i h
        obtain ⟨r445, D446, hq444, h⟩ := cq_i h
        obtain ⟨hn447, h⟩ := ix_i h
        obtain ⟨hn448, h⟩ := ix_i h
        obtain ⟨r450, hq449, h⟩ := pq_i h
        exact (mn_law_721 ih h)
      have h := i_no c441 h
      by_cases c452 : ((xs x3.toNatClampNeg) &&& (31 : Int32)) = 17
      · have h := i_yes c452 h
        obtain ⟨hn453, h⟩ := ix_i h
        obtain ⟨r455, hq454, h⟩ := pq_i h
        obtain ⟨hn456, h⟩ := ix_i h
        obtain ⟨r458, hq457, h⟩ := pq_i h
        exact (mn_law_721 ih h)
      have h := i_no c452 h
      by_cases c460 : ((xs x3.toNatClampNeg) &&& (31 : Int32)) = 18
      · have h := i_yes c460 h
        obtain ⟨hn461, h⟩ := ix_i h
        obtain ⟨r463, hq462, h⟩ := pq_i h
        obtain ⟨hn464, h⟩ := ix_i h
        obtain ⟨r466, hq465, h⟩ := pq_i h
        exact (mn_law_721 ih h)
      have h := i_no c460 h
      exact (mn_law_721 ih h)
set_option maxHeartbeats 8000000 in
set_option maxRecDepth 100000 in
theorem w_law_18 {b L : Nat} {xs : Nat → Int32} {S' : sh} {D' : dt} {S0 : sh} {ad0 : Nat → Nat} (hC : Cx RL cL_law 4 ret p s m #[Value.ref b] meth c) (hX : va_X b L xs s s.heap) (hbl : b < s.heap.size) (hbA : ¬ (fun q : Nat => s.heap.size ≤ q) b) (ho : sN S' - sN S0 ≤ 600000 ∧ sZ S' - sZ S0 ≤ 7302250) : ∀ (n : Nat), ∀ (o1 a1 : Nat) (o2 a2 : Nat) (x3 : Int32) (S : sh) (D : dt) (ad : Nat → Nat) (H : Heap) (locs : List Loc) (ls : Array Slot) (cells slots : Nat), Is S ad o1 a1 7 → Is S ad o2 a2 8 → Wd G cA S D ad (fun q => s.heap.size ≤ q) s H locs → Al S0 ad0 S ad cells slots → lv_has ls 4 [(0, .ref b), (1, .ref a1), (2, .ref a2), (3, .int x3)] → f_law_18 xs L n o1 o2 x3 S D = some (1, S', D') → W p l e room_1 s m #[Value.ref b] below meth c H locs cells slots (lw_Z below #[Value.ref b] s) (F0 m 18 ls []) := by
  obtain ⟨hx, hb, -⟩ := id hC
  intro n
  induction n with
  | zero =>
    intro o1 a1 o2 a2 x3 S D ad H locs ls cells slots hi1 hi2 hw hc hl h
    rw [f_law_18.eq_1] at h
    cases h
  | succ n ih =>
    intro o1 a1 o2 a2 x3 S D ad H locs ls cells slots hi1 hi2 hw hc hl h
    have hE : Ext S S' := mn_law_18  (n + 1) _ _ _ _ _ h
    rw [f_law_18.eq_2] at h
    refine lv_iload_n hx hb dL_law_18 rfl (lv_at hl 3 rfl) ?_
    refine lv_aload_n hx hb dL_law_19 rfl (lv_at hl 0 rfl) ?_
    refine va_slen hx hb hX hbl hbA hw.2.2.2.1 dL_law_20 ?_
    refine lv_bipush (v := 6) hx hb dL_law_21 (by decide) ?_
    refine lv_isub hx hb dL_law_23 ?_
    refine lv_icmp_gt (tgt := 727) hx hb dL_law_24 (by decide) (fun c263 => ?_) (fun c263 => ?_)
    · have h := i_yes c263 h
      refine lv_iconst (v := 1) hx hb dL_law_727 (by decide) ?_
      cases h
      exact r_lawret hC hw hc ho dL_law_728
    · have h := i_no c263 h
      refine lv_aload_n hx hb dL_law_27 rfl (lv_at hl 0 rfl) ?_
      refine lv_iload_n hx hb dL_law_28 rfl (lv_at hl 3 rfl) ?_
      obtain ⟨hn264, h⟩ := ix_i h
      refine va_sld hx hb hX hbl hbA hw.2.2.2.1 hn264 dL_law_29 ?_
      refine lv_bipush (v := 31) hx hb dL_law_30 (by decide) ?_
      refine lv_iand hx hb dL_law_32 ?_
      by_cases c265 : ((xs x3.toNatClampNeg) &&& (31 : Int32)) = 0
      · have h := i_yes c265 h
        refine lv_tableIn (off := 91) (tgt := 124) hx hb dL_law_33 (by rw [c265]; decide) (by rw [c265]; decide) (by rw [c265] <;> rfl) (by decide) ?_
        refine lv_aload_n hx hb dL_law_124 rfl (lv_at hl 1 rfl) ?_
        refine lv_aload_n hx hb dL_law_125 rfl (lv_at hl 0 rfl) ?_
        refine lv_iload_n hx hb dL_law_126 rfl (lv_at hl 3 rfl) ?_
        refine lv_iconst (v := 1) hx hb dL_law_127 (by decide) ?_
        refine lv_iadd hx hb dL_law_128 ?_
        obtain ⟨hn266, h⟩ := ix_i h
        refine va_sld hx hb hX hbl hbA hw.2.2.2.1 hn266 dL_law_129 ?_
        refine lv_aload_n hx hb dL_law_130 rfl (lv_at hl 0 rfl) ?_
        refine lv_iload_n hx hb dL_law_131 rfl (lv_at hl 3 rfl) ?_
        refine lv_iconst (v := 2) hx hb dL_law_132 (by decide) ?_
        refine lv_iadd hx hb dL_law_133 ?_
        obtain ⟨hn267, h⟩ := ix_i h
        refine va_sld hx hb hX hbl hbA hw.2.2.2.1 hn267 dL_law_134 ?_
        refine lv_aload_n hx hb dL_law_135 rfl (lv_at hl 0 rfl) ?_
        refine lv_iload_n hx hb dL_law_136 rfl (lv_at hl 3 rfl) ?_
        refine lv_iconst (v := 3) hx hb dL_law_137 (by decide) ?_
        refine lv_iadd hx hb dL_law_138 ?_
        obtain ⟨hn268, h⟩ := ix_i h
        refine va_sld hx hb hX hbl hbA hw.2.2.2.1 hn268 dL_law_139 ?_
        refine lv_aload_n hx hb dL_law_140 rfl (lv_at hl 0 rfl) ?_
        refine lv_iload_n hx hb dL_law_141 rfl (lv_at hl 3 rfl) ?_
        refine lv_iconst (v := 4) hx hb dL_law_142 (by decide) ?_
        refine lv_iadd hx hb dL_law_143 ?_
        obtain ⟨hn269, h⟩ := ix_i h
        refine va_sld hx hb hX hbl hbA hw.2.2.2.1 hn269 dL_law_144 ?_
        obtain ⟨r271, D272, hq270, h⟩ := cq_i h
        refine r_cV (st' := [.int r271]) [.int (xs (x3 + (1 : Int32)).toNatClampNeg), .int (xs (x3 + (2 : Int32)).toNatClampNeg), .int (xs (x3 + (3 : Int32)).toNatClampNeg), .int (xs (x3 + (4 : Int32)).toNatClampNeg)] [] hC hw kc_7 hi1 (k_X8_feed _ hi1 hq270) mk_X8_feed lk_368 ⟨(by decide), (by decide)⟩ (Al.leL hc ho hE) rfl hl.1 rfl rfl (Nat.le_of_ble_eq_true rfl) dL_law_145 (fun hP H locs hw => ?_)
        refine lv_pop hx hb dL_law_148 rfl ?_
        refine lv_aload_n hx hb dL_law_149 rfl (lv_at hl 2 rfl) ?_
        refine lv_aload_n hx hb dL_law_150 rfl (lv_at hl 0 rfl) ?_
        refine lv_iload_n hx hb dL_law_151 rfl (lv_at hl 3 rfl) ?_
        refine lv_iconst (v := 1) hx hb dL_law_152 (by decide) ?_
        refine lv_iadd hx hb dL_law_153 ?_
        obtain ⟨hn273, h⟩ := ix_i h
        refine va_sld hx hb hX hbl hbA hw.2.2.2.1 hn273 dL_law_154 ?_
        refine lv_aload_n hx hb dL_law_155 rfl (lv_at hl 0 rfl) ?_
        refine lv_iload_n hx hb dL_law_156 rfl (lv_at hl 3 rfl) ?_
        refine lv_iconst (v := 2) hx hb dL_law_157 (by decide) ?_
        refine lv_iadd hx hb dL_law_158 ?_
        obtain ⟨hn274, h⟩ := ix_i h
        refine va_sld hx hb hX hbl hbA hw.2.2.2.1 hn274 dL_law_159 ?_
        refine lv_aload_n hx hb dL_law_160 rfl (lv_at hl 0 rfl) ?_
        refine lv_iload_n hx hb dL_law_161 rfl (lv_at hl 3 rfl) ?_
        refine lv_iconst (v := 3) hx hb dL_law_162 (by decide) ?_
        refine lv_iadd hx hb dL_law_163 ?_
        obtain ⟨hn275, h⟩ := ix_i h
        refine va_sld hx hb hX hbl hbA hw.2.2.2.1 hn275 dL_law_164 ?_
        refine lv_aload_n hx hb dL_law_165 rfl (lv_at hl 0 rfl) ?_
        refine lv_iload_n hx hb dL_law_166 rfl (lv_at hl 3 rfl) ?_
        refine lv_iconst (v := 4) hx hb dL_law_167 (by decide) ?_
        refine lv_iadd hx hb dL_law_168 ?_
        obtain ⟨hn276, h⟩ := ix_i h
        refine va_sld hx hb hX hbl hbA hw.2.2.2.1 hn276 dL_law_169 ?_
        obtain ⟨r278, D279, hq277, h⟩ := cq_i h
        refine r_cV (st' := [.int r278]) [.int (xs (x3 + (1 : Int32)).toNatClampNeg), .int (xs (x3 + (2 : Int32)).toNatClampNeg), .int (xs (x3 + (3 : Int32)).toNatClampNeg), .int (xs (x3 + (4 : Int32)).toNatClampNeg)] [] hC hw kc_8 hi2 (k_X9_feed _ hi2 hq277) mk_X9_feed lk_1235 ⟨(by decide), (by decide)⟩ (Al.leL hc ho hE) rfl hl.1 rfl rfl (Nat.le_of_ble_eq_true rfl) dL_law_170 (fun hP H locs hw => ?_)
        refine lv_pop hx hb dL_law_173 rfl ?_
        refine lv_goto (tgt := 721) hx hb dL_law_174 (by decide) ?_
        exact w_law_721 hC hX hbl hbA ho ih (mn_law_18 n) o1 a1 o2 a2 x3 _ _ _ _ _ _ _ _ hi1 hi2 hw hc (lv_sub hl [0, 1, 2, 3] rfl) h --j280
      have h := i_no c265 h
      by_cases c281 : ((xs x3.toNatClampNeg) &&& (31 : Int32)) = 1
      · have h := i_yes c281 h
        refine lv_tableIn (off := 144) (tgt := 177) hx hb dL_law_33 (by rw [c281]; decide) (by rw [c281]; decide) (by rw [c281] <;> rfl) (by decide) ?_
        refine lv_aload_n hx hb dL_law_177 rfl (lv_at hl 1 rfl) ?_
        refine lv_aload_n hx hb dL_law_178 rfl (lv_at hl 0 rfl) ?_
        refine lv_iload_n hx hb dL_law_179 rfl (lv_at hl 3 rfl) ?_
        refine lv_iconst (v := 1) hx hb dL_law_180 (by decide) ?_
        refine lv_iadd hx hb dL_law_181 ?_
        obtain ⟨hn282, h⟩ := ix_i h
        refine va_sld hx hb hX hbl hbA hw.2.2.2.1 hn282 dL_law_182 ?_
        refine lv_aload_n hx hb dL_law_183 rfl (lv_at hl 0 rfl) ?_
        refine lv_iload_n hx hb dL_law_184 rfl (lv_at hl 3 rfl) ?_
        refine lv_iconst (v := 2) hx hb dL_law_185 (by decide) ?_
        refine lv_iadd hx hb dL_law_186 ?_
        obtain ⟨hn283, h⟩ := ix_i h
        refine va_sld hx hb hX hbl hbA hw.2.2.2.1 hn283 dL_law_187 ?_
        refine lv_aload_n hx hb dL_law_188 rfl (lv_at hl 0 rfl) ?_
        refine lv_iload_n hx hb dL_law_189 rfl (lv_at hl 3 rfl) ?_
        refine lv_iconst (v := 3) hx hb dL_law_190 (by decide) ?_
        refine lv_iadd hx hb dL_law_191 ?_
        obtain ⟨hn284, h⟩ := ix_i h
        refine va_sld hx hb hX hbl hbA hw.2.2.2.1 hn284 dL_law_192 ?_
        refine lv_aload_n hx hb dL_law_193 rfl (lv_at hl 0 rfl) ?_
        refine lv_iload_n hx hb dL_law_194 rfl (lv_at hl 3 rfl) ?_
        refine lv_iconst (v := 4) hx hb dL_law_195 (by decide) ?_
        refine lv_iadd hx hb dL_law_196 ?_
        obtain ⟨hn285, h⟩ := ix_i h
        refine va_sld hx hb hX hbl hbA hw.2.2.2.1 hn285 dL_law_197 ?_
        refine lv_aload_n hx hb dL_law_198 rfl (lv_at hl 0 rfl) ?_
        refine lv_iload_n hx hb dL_law_199 rfl (lv_at hl 3 rfl) ?_
        refine lv_iconst (v := 5) hx hb dL_law_200 (by decide) ?_
        refine lv_iadd hx hb dL_law_201 ?_
        obtain ⟨hn286, h⟩ := ix_i h
        refine va_sld hx hb hX hbl hbA hw.2.2.2.1 hn286 dL_law_202 ?_
        obtain ⟨r288, D289, hq287, h⟩ := cq_i h
        refine r_cV (st' := [.int r288]) [.int (xs (x3 + (1 : Int32)).toNatClampNeg), .int (xs (x3 + (2 : Int32)).toNatClampNeg), .int (xs (x3 + (3 : Int32)).toNatClampNeg), .int (xs (x3 + (4 : Int32)).toNatClampNeg), .int (xs (x3 + (5 : Int32)).toNatClampNeg)] [] hC hw kc_7 hi1 (k_X8_alter _ hi1 hq287) mk_X8_alter lk_383 ⟨(by decide), (by decide)⟩ (Al.leL hc ho hE) rfl hl.1 rfl rfl (Nat.le_of_ble_eq_true rfl) dL_law_203 (fun hP H locs hw => ?_)
        refine lv_pop hx hb dL_law_206 rfl ?_
        refine lv_aload_n hx hb dL_law_207 rfl (lv_at hl 2 rfl) ?_
        refine lv_aload_n hx hb dL_law_208 rfl (lv_at hl 0 rfl) ?_
        refine lv_iload_n hx hb dL_law_209 rfl (lv_at hl 3 rfl) ?_
        refine lv_iconst (v := 1) hx hb dL_law_210 (by decide) ?_
        refine lv_iadd hx hb dL_law_211 ?_
        obtain ⟨hn290, h⟩ := ix_i h
        refine va_sld hx hb hX hbl hbA hw.2.2.2.1 hn290 dL_law_212 ?_
        refine lv_aload_n hx hb dL_law_213 rfl (lv_at hl 0 rfl) ?_
        refine lv_iload_n hx hb dL_law_214 rfl (lv_at hl 3 rfl) ?_
        refine lv_iconst (v := 2) hx hb dL_law_215 (by decide) ?_
        refine lv_iadd hx hb dL_law_216 ?_
        obtain ⟨hn291, h⟩ := ix_i h
        refine va_sld hx hb hX hbl hbA hw.2.2.2.1 hn291 dL_law_217 ?_
        refine lv_aload_n hx hb dL_law_218 rfl (lv_at hl 0 rfl) ?_
        refine lv_iload_n hx hb dL_law_219 rfl (lv_at hl 3 rfl) ?_
        refine lv_iconst (v := 3) hx hb dL_law_220 (by decide) ?_
        refine lv_iadd hx hb dL_law_221 ?_
        obtain ⟨hn292, h⟩ := ix_i h
        refine va_sld hx hb hX hbl hbA hw.2.2.2.1 hn292 dL_law_222 ?_
        refine lv_aload_n hx hb dL_law_223 rfl (lv_at hl 0 rfl) ?_
        refine lv_iload_n hx hb dL_law_224 rfl (lv_at hl 3 rfl) ?_
        refine lv_iconst (v := 4) hx hb dL_law_225 (by decide) ?_
        refine lv_iadd hx hb dL_law_226 ?_
        obtain ⟨hn293, h⟩ := ix_i h
        refine va_sld hx hb hX hbl hbA hw.2.2.2.1 hn293 dL_law_227 ?_
        refine lv_aload_n hx hb dL_law_228 rfl (lv_at hl 0 rfl) ?_
        refine lv_iload_n hx hb dL_law_229 rfl (lv_at hl 3 rfl) ?_
        refine lv_iconst (v := 5) hx hb dL_law_230 (by decide) ?_
        refine lv_iadd hx hb dL_law_231 ?_
        obtain ⟨hn294, h⟩ := ix_i h
        refine va_sld hx hb hX hbl hbA hw.2.2.2.1 hn294 dL_law_232 ?_
        obtain ⟨r296, D297, hq295, h⟩ := cq_i h
        refine r_cV (st' := [.int r296]) [.int (xs (x3 + (1 : Int32)).toNatClampNeg), .int (xs (x3 + (2 : Int32)).toNatClampNeg), .int (xs (x3 + (3 : Int32)).toNatClampNeg), .int (xs (x3 + (4 : Int32)).toNatClampNeg), .int (xs (x3 + (5 : Int32)).toNatClampNeg)] [] hC hw kc_8 hi2 (k_X9_alter _ hi2 hq295) mk_X9_alter lk_1252 ⟨(by decide), (by decide)⟩ (Al.leL hc ho hE) rfl hl.1 rfl rfl (Nat.le_of_ble_eq_true rfl) dL_law_233 (fun hP H locs hw => ?_)
        refine lv_pop hx hb dL_law_236 rfl ?_
        refine lv_goto (tgt := 721) hx hb dL_law_237 (by decide) ?_
        exact w_law_721 hC hX hbl hbA ho ih (mn_law_18 n) o1 a1 o2 a2 x3 _ _ _ _ _ _ _ _ hi1 hi2 hw hc (lv_sub hl [0, 1, 2, 3] rfl) h --j298
      have h := i_no c281 h
      by_cases c299 : ((xs x3.toNatClampNeg) &&& (31 : Int32)) = 2
      · have h := i_yes c299 h
        refine lv_tableIn (off := 207) (tgt := 240) hx hb dL_law_33 (by rw [c299]; decide) (by rw [c299]; decide) (by rw [c299] <;> rfl) (by decide) ?_
        refine lv_aload_n hx hb dL_law_240 rfl (lv_at hl 1 rfl) ?_
        refine lv_aload_n hx hb dL_law_241 rfl (lv_at hl 0 rfl) ?_
        refine lv_iload_n hx hb dL_law_242 rfl (lv_at hl 3 rfl) ?_
        refine lv_iconst (v := 1) hx hb dL_law_243 (by decide) ?_
        refine lv_iadd hx hb dL_law_244 ?_
        obtain ⟨hn300, h⟩ := ix_i h
        refine va_sld hx hb hX hbl hbA hw.2.2.2.1 hn300 dL_law_245 ?_
        obtain ⟨r302, D303, hq301, h⟩ := cq_i h
        refine r_cV (st' := [.int r302]) [.int (xs (x3 + (1 : Int32)).toNatClampNeg)] [] hC hw kc_7 hi1 (k_X8_cut _ hi1 hq301) mk_X8_cut lk_388 ⟨(by decide), (by decide)⟩ (Al.leL hc ho hE) rfl hl.1 rfl rfl (Nat.le_of_ble_eq_true rfl) dL_law_246 (fun hP H locs hw => ?_)
        refine lv_pop hx hb dL_law_249 rfl ?_
        refine lv_aload_n hx hb dL_law_250 rfl (lv_at hl 2 rfl) ?_
        refine lv_aload_n hx hb dL_law_251 rfl (lv_at hl 0 rfl) ?_
        refine lv_iload_n hx hb dL_law_252 rfl (lv_at hl 3 rfl) ?_
        refine lv_iconst (v := 1) hx hb dL_law_253 (by decide) ?_
        refine lv_iadd hx hb dL_law_254 ?_
        obtain ⟨hn304, h⟩ := ix_i h
        refine va_sld hx hb hX hbl hbA hw.2.2.2.1 hn304 dL_law_255 ?_
        obtain ⟨r306, D307, hq305, h⟩ := cq_i h
        refine r_cV (st' := [.int r306]) [.int (xs (x3 + (1 : Int32)).toNatClampNeg)] [] hC hw kc_8 hi2 (k_X9_cut _ hi2 hq305) mk_X9_cut lk_1256 ⟨(by decide), (by decide)⟩ (Al.leL hc ho hE) rfl hl.1 rfl rfl (Nat.le_of_ble_eq_true rfl) dL_law_256 (fun hP H locs hw => ?_)
        refine lv_pop hx hb dL_law_259 rfl ?_
        refine lv_goto (tgt := 721) hx hb dL_law_260 (by decide) ?_
        exact w_law_721 hC hX hbl hbA ho ih (mn_law_18 n) o1 a1 o2 a2 x3 _ _ _ _ _ _ _ _ hi1 hi2 hw hc (lv_sub hl [0, 1, 2, 3] rfl) h --j308
      have h := i_no c299 h
      by_cases c309 : ((xs x3.toNatClampNeg) &&& (31 : Int32)) = 3
      · have h := i_yes c309 h
        refine lv_tableIn (off := 230) (tgt := 263) hx hb dL_law_33 (by rw [c309]; decide) (by rw [c309]; decide) (by rw [c309] <;> rfl) (by decide) ?_
        refine lv_aload_n hx hb dL_law_263 rfl (lv_at hl 1 rfl) ?_
        refine lv_aload_n hx hb dL_law_264 rfl (lv_at hl 0 rfl) ?_
        refine lv_iload_n hx hb dL_law_265 rfl (lv_at hl 3 rfl) ?_
        refine lv_iconst (v := 1) hx hb dL_law_266 (by decide) ?_
        refine lv_iadd hx hb dL_law_267 ?_
        obtain ⟨hn310, h⟩ := ix_i h
        refine va_sld hx hb hX hbl hbA hw.2.2.2.1 hn310 dL_law_268 ?_
        refine lv_aload_n hx hb dL_law_269 rfl (lv_at hl 0 rfl) ?_
        refine lv_iload_n hx hb dL_law_270 rfl (lv_at hl 3 rfl) ?_
        refine lv_iconst (v := 2) hx hb dL_law_271 (by decide) ?_
        refine lv_iadd hx hb dL_law_272 ?_
        obtain ⟨hn311, h⟩ := ix_i h
        refine va_sld hx hb hX hbl hbA hw.2.2.2.1 hn311 dL_law_273 ?_
        refine lv_aload_n hx hb dL_law_274 rfl (lv_at hl 0 rfl) ?_
        refine lv_iload_n hx hb dL_law_275 rfl (lv_at hl 3 rfl) ?_
        refine lv_iconst (v := 3) hx hb dL_law_276 (by decide) ?_
        refine lv_iadd hx hb dL_law_277 ?_
        obtain ⟨hn312, h⟩ := ix_i h
        refine va_sld hx hb hX hbl hbA hw.2.2.2.1 hn312 dL_law_278 ?_
        refine lv_aload_n hx hb dL_law_279 rfl (lv_at hl 0 rfl) ?_
        refine lv_iload_n hx hb dL_law_280 rfl (lv_at hl 3 rfl) ?_
        refine lv_iconst (v := 4) hx hb dL_law_281 (by decide) ?_
        refine lv_iadd hx hb dL_law_282 ?_
        obtain ⟨hn313, h⟩ := ix_i h
        refine va_sld hx hb hX hbl hbA hw.2.2.2.1 hn313 dL_law_283 ?_
        obtain ⟨r315, S317, D316, hq314, h⟩ := c3_i h
        have hE318 := mn_X8_table_0 hq314
        have hE319 := mn_law_287 (mn_law_18 n) h
        refine r_cVA [.int (xs (x3 + (1 : Int32)).toNatClampNeg), .int (xs (x3 + (2 : Int32)).toNatClampNeg), .int (xs (x3 + (3 : Int32)).toNatClampNeg), .int (xs (x3 + (4 : Int32)).toNatClampNeg)] [] hC hw kc_7 hi1 (k_X8_table _ hi1 hq314) mk_X8_table lk_392 ⟨(by decide), (by decide)⟩ (Al.roomCL hc ho hE318 hE319) rfl hl.1 rfl (Nat.le_of_ble_eq_true rfl) dL_law_284 (fun ad320 hP H locs hw => ?_)
        refine W.eq (g2 := F0 m 287 ls [.int r315]) rfl ?_
        have hi321 := Is.up hi1 hE318 hP.1
        have hi322 := Is.up hi2 hE318 hP.1
        have hc := hc.call hE318 hP.1
        exact w_law_287 hC hX hbl hbA ho ih (mn_law_18 n) o1 a1 o2 a2 x3 r315 _ _ _ _ _ _ _ _ hi321 hi322 hw hc (lv_sub hl [0, 1, 2, 3] rfl) h --j323
      have h := i_no c309 h
      by_cases c324 : ((xs x3.toNatClampNeg) &&& (31 : Int32)) = 4
      · have h := i_yes c324 h
        refine lv_tableIn (off := 283) (tgt := 316) hx hb dL_law_33 (by rw [c324]; decide) (by rw [c324]; decide) (by rw [c324] <;> rfl) (by decide) ?_
        refine lv_aload_n hx hb dL_law_316 rfl (lv_at hl 1 rfl) ?_
        refine lv_aload_n hx hb dL_law_317 rfl (lv_at hl 0 rfl) ?_
        refine lv_iload_n hx hb dL_law_318 rfl (lv_at hl 3 rfl) ?_
        refine lv_iconst (v := 1) hx hb dL_law_319 (by decide) ?_
        refine lv_iadd hx hb dL_law_320 ?_
        obtain ⟨hn325, h⟩ := ix_i h
        refine va_sld hx hb hX hbl hbA hw.2.2.2.1 hn325 dL_law_321 ?_
        obtain ⟨r327, D328, hq326, h⟩ := cq_i h
        refine r_cV (st' := [.int r327]) [.int (xs (x3 + (1 : Int32)).toNatClampNeg)] [] hC hw kc_7 hi1 (k_X8_context _ hi1 hq326) mk_X8_context lk_435 ⟨(by decide), (by decide)⟩ (Al.leL hc ho hE) rfl hl.1 rfl rfl (Nat.le_of_ble_eq_true rfl) dL_law_322 (fun hP H locs hw => ?_)
        refine lv_pop hx hb dL_law_325 rfl ?_
        refine lv_aload_n hx hb dL_law_326 rfl (lv_at hl 2 rfl) ?_
        refine lv_aload_n hx hb dL_law_327 rfl (lv_at hl 0 rfl) ?_
        refine lv_iload_n hx hb dL_law_328 rfl (lv_at hl 3 rfl) ?_
        refine lv_iconst (v := 1) hx hb dL_law_329 (by decide) ?_
        refine lv_iadd hx hb dL_law_330 ?_
        obtain ⟨hn329, h⟩ := ix_i h
        refine va_sld hx hb hX hbl hbA hw.2.2.2.1 hn329 dL_law_331 ?_
        obtain ⟨r331, D332, hq330, h⟩ := cq_i h
        refine r_cV (st' := [.int r331]) [.int (xs (x3 + (1 : Int32)).toNatClampNeg)] [] hC hw kc_8 hi2 (k_X9_context _ hi2 hq330) mk_X9_context lk_1422 ⟨(by decide), (by decide)⟩ (Al.leL hc ho hE) rfl hl.1 rfl rfl (Nat.le_of_ble_eq_true rfl) dL_law_332 (fun hP H locs hw => ?_)
        refine lv_pop hx hb dL_law_335 rfl ?_
        refine lv_goto (tgt := 721) hx hb dL_law_336 (by decide) ?_
        exact w_law_721 hC hX hbl hbA ho ih (mn_law_18 n) o1 a1 o2 a2 x3 _ _ _ _ _ _ _ _ hi1 hi2 hw hc (lv_sub hl [0, 1, 2, 3] rfl) h --j333
      have h := i_no c324 h
      by_cases c334 : ((xs x3.toNatClampNeg) &&& (31 : Int32)) = 5
      · have h := i_yes c334 h
        refine lv_tableIn (off := 306) (tgt := 339) hx hb dL_law_33 (by rw [c334]; decide) (by rw [c334]; decide) (by rw [c334] <;> rfl) (by decide) ?_
        refine lv_aload_n hx hb dL_law_339 rfl (lv_at hl 1 rfl) ?_
        refine lv_aload_n hx hb dL_law_340 rfl (lv_at hl 0 rfl) ?_
        refine lv_iload_n hx hb dL_law_341 rfl (lv_at hl 3 rfl) ?_
        refine lv_iconst (v := 1) hx hb dL_law_342 (by decide) ?_
        refine lv_iadd hx hb dL_law_343 ?_
        obtain ⟨hn335, h⟩ := ix_i h
        refine va_sld hx hb hX hbl hbA hw.2.2.2.1 hn335 dL_law_344 ?_
        refine lv_aload_n hx hb dL_law_345 rfl (lv_at hl 0 rfl) ?_
        refine lv_iload_n hx hb dL_law_346 rfl (lv_at hl 3 rfl) ?_
        refine lv_iconst (v := 2) hx hb dL_law_347 (by decide) ?_
        refine lv_iadd hx hb dL_law_348 ?_
        obtain ⟨hn336, h⟩ := ix_i h
        refine va_sld hx hb hX hbl hbA hw.2.2.2.1 hn336 dL_law_349 ?_
        obtain ⟨r338, D339, hq337, h⟩ := cq_i h
        refine r_cV (st' := [.int r338]) [.int (xs (x3 + (1 : Int32)).toNatClampNeg), .int (xs (x3 + (2 : Int32)).toNatClampNeg)] [] hC hw kc_7 hi1 (k_X8_poke _ hi1 hq337) mk_X8_poke lk_443 ⟨(by decide), (by decide)⟩ (Al.leL hc ho hE) rfl hl.1 rfl rfl (Nat.le_of_ble_eq_true rfl) dL_law_350 (fun hP H locs hw => ?_)
        refine lv_pop hx hb dL_law_353 rfl ?_
        refine lv_aload_n hx hb dL_law_354 rfl (lv_at hl 2 rfl) ?_
        refine lv_aload_n hx hb dL_law_355 rfl (lv_at hl 0 rfl) ?_
        refine lv_iload_n hx hb dL_law_356 rfl (lv_at hl 3 rfl) ?_
        refine lv_iconst (v := 1) hx hb dL_law_357 (by decide) ?_
        refine lv_iadd hx hb dL_law_358 ?_
        obtain ⟨hn340, h⟩ := ix_i h
        refine va_sld hx hb hX hbl hbA hw.2.2.2.1 hn340 dL_law_359 ?_
        refine lv_aload_n hx hb dL_law_360 rfl (lv_at hl 0 rfl) ?_
        refine lv_iload_n hx hb dL_law_361 rfl (lv_at hl 3 rfl) ?_
        refine lv_iconst (v := 2) hx hb dL_law_362 (by decide) ?_
        refine lv_iadd hx hb dL_law_363 ?_
        obtain ⟨hn341, h⟩ := ix_i h
        refine va_sld hx hb hX hbl hbA hw.2.2.2.1 hn341 dL_law_364 ?_
        obtain ⟨r343, D344, hq342, h⟩ := cq_i h
        refine r_cV (st' := [.int r343]) [.int (xs (x3 + (1 : Int32)).toNatClampNeg), .int (xs (x3 + (2 : Int32)).toNatClampNeg)] [] hC hw kc_8 hi2 (k_X9_poke _ hi2 hq342) mk_X9_poke lk_1427 ⟨(by decide), (by decide)⟩ (Al.leL hc ho hE) rfl hl.1 rfl rfl (Nat.le_of_ble_eq_true rfl) dL_law_365 (fun hP H locs hw => ?_)
        refine lv_pop hx hb dL_law_368 rfl ?_
        refine lv_goto (tgt := 721) hx hb dL_law_369 (by decide) ?_
        exact w_law_721 hC hX hbl hbA ho ih (mn_law_18 n) o1 a1 o2 a2 x3 _ _ _ _ _ _ _ _ hi1 hi2 hw hc (lv_sub hl [0, 1, 2, 3] rfl) h --j345
      have h := i_no c334 h
      by_cases c346 : ((xs x3.toNatClampNeg) &&& (31 : Int32)) = 6
      · have h := i_yes c346 h
        refine lv_tableIn (off := 339) (tgt := 372) hx hb dL_law_33 (by rw [c346]; decide) (by rw [c346]; decide) (by rw [c346] <;> rfl) (by decide) ?_
        refine lv_aload_n hx hb dL_law_372 rfl (lv_at hl 1 rfl) ?_
        refine lv_aload_n hx hb dL_law_373 rfl (lv_at hl 0 rfl) ?_
        refine lv_iload_n hx hb dL_law_374 rfl (lv_at hl 3 rfl) ?_
        refine lv_iconst (v := 1) hx hb dL_law_375 (by decide) ?_
        refine lv_iadd hx hb dL_law_376 ?_
        obtain ⟨hn347, h⟩ := ix_i h
        refine va_sld hx hb hX hbl hbA hw.2.2.2.1 hn347 dL_law_377 ?_
        refine lv_i2l (v := (xs (x3 + (1 : Int32)).toNatClampNeg).toInt64) hx hb dL_law_378 rfl ?_
        refine lv_bipush (v := 32) hx hb dL_law_379 (by decide) ?_
        refine lv_lshl (v := j_lshl ((xs (x3 + (1 : Int32)).toNatClampNeg).toInt64) (32 : Int32)) hx hb dL_law_381 rfl ?_
        refine lv_aload_n hx hb dL_law_382 rfl (lv_at hl 0 rfl) ?_
        refine lv_iload_n hx hb dL_law_383 rfl (lv_at hl 3 rfl) ?_
        refine lv_iconst (v := 2) hx hb dL_law_384 (by decide) ?_
        refine lv_iadd hx hb dL_law_385 ?_
        obtain ⟨hn348, h⟩ := ix_i h
        refine va_sld hx hb hX hbl hbA hw.2.2.2.1 hn348 dL_law_386 ?_
        refine lv_i2l (v := (xs (x3 + (2 : Int32)).toNatClampNeg).toInt64) hx hb dL_law_387 rfl ?_
        refine lv_ldc2 (v := 4294967295) hx hb hC.2.2.2.1 (hC.2.2.2.2.1 _ lk_1608) dL_law_388 ?_
        refine lv_land hx hb dL_law_391 ?_
        refine lv_lor hx hb dL_law_392 ?_
        obtain ⟨r350, D351, hq349, h⟩ := cq_i h
        refine r_cV (st' := [.long r350]) [.long ((j_lshl ((xs (x3 + (1 : Int32)).toNatClampNeg).toInt64) (32 : Int32)) ||| (((xs (x3 + (2 : Int32)).toNatClampNeg).toInt64) &&& (4294967295 : Int64)))] [] hC hw kc_7 hi1 (k_X8_tick _ hi1 hq349) mk_X8_tick lk_447 ⟨(by decide), (by decide)⟩ (Al.leL hc ho hE) rfl hl.1 rfl rfl (Nat.le_of_ble_eq_true rfl) dL_law_393 (fun hP H locs hw => ?_)
        refine lv_pop2_2 hx hb dL_law_396 rfl ?_
        refine lv_aload_n hx hb dL_law_397 rfl (lv_at hl 2 rfl) ?_
        refine lv_aload_n hx hb dL_law_398 rfl (lv_at hl 0 rfl) ?_
        refine lv_iload_n hx hb dL_law_399 rfl (lv_at hl 3 rfl) ?_
        refine lv_iconst (v := 1) hx hb dL_law_400 (by decide) ?_
        refine lv_iadd hx hb dL_law_401 ?_
        obtain ⟨hn352, h⟩ := ix_i h
        refine va_sld hx hb hX hbl hbA hw.2.2.2.1 hn352 dL_law_402 ?_
        refine lv_i2l (v := (xs (x3 + (1 : Int32)).toNatClampNeg).toInt64) hx hb dL_law_403 rfl ?_
        refine lv_bipush (v := 32) hx hb dL_law_404 (by decide) ?_
        refine lv_lshl (v := j_lshl ((xs (x3 + (1 : Int32)).toNatClampNeg).toInt64) (32 : Int32)) hx hb dL_law_406 rfl ?_
        refine lv_aload_n hx hb dL_law_407 rfl (lv_at hl 0 rfl) ?_
        refine lv_iload_n hx hb dL_law_408 rfl (lv_at hl 3 rfl) ?_
        refine lv_iconst (v := 2) hx hb dL_law_409 (by decide) ?_
        refine lv_iadd hx hb dL_law_410 ?_
        obtain ⟨hn353, h⟩ := ix_i h
        refine va_sld hx hb hX hbl hbA hw.2.2.2.1 hn353 dL_law_411 ?_
        refine lv_i2l (v := (xs (x3 + (2 : Int32)).toNatClampNeg).toInt64) hx hb dL_law_412 rfl ?_
        refine lv_ldc2 (v := 4294967295) hx hb hC.2.2.2.1 (hC.2.2.2.2.1 _ lk_1608) dL_law_413 ?_
        refine lv_land hx hb dL_law_416 ?_
        refine lv_lor hx hb dL_law_417 ?_
        obtain ⟨r355, D356, hq354, h⟩ := cq_i h
        refine r_cV (st' := [.long r355]) [.long ((j_lshl ((xs (x3 + (1 : Int32)).toNatClampNeg).toInt64) (32 : Int32)) ||| (((xs (x3 + (2 : Int32)).toNatClampNeg).toInt64) &&& (4294967295 : Int64)))] [] hC hw kc_8 hi2 (k_X9_tick _ hi2 hq354) mk_X9_tick lk_1431 ⟨(by decide), (by decide)⟩ (Al.leL hc ho hE) rfl hl.1 rfl rfl (Nat.le_of_ble_eq_true rfl) dL_law_418 (fun hP H locs hw => ?_)
        refine lv_pop2_2 hx hb dL_law_421 rfl ?_
        refine lv_goto (tgt := 721) hx hb dL_law_422 (by decide) ?_
        exact w_law_721 hC hX hbl hbA ho ih (mn_law_18 n) o1 a1 o2 a2 x3 _ _ _ _ _ _ _ _ hi1 hi2 hw hc (lv_sub hl [0, 1, 2, 3] rfl) h --j357
      have h := i_no c346 h
      by_cases c358 : ((xs x3.toNatClampNeg) &&& (31 : Int32)) = 7
      · have h := i_yes c358 h
        refine lv_tableIn (off := 392) (tgt := 425) hx hb dL_law_33 (by rw [c358]; decide) (by rw [c358]; decide) (by rw [c358] <;> rfl) (by decide) ?_
        refine lv_aload_n hx hb dL_law_425 rfl (lv_at hl 1 rfl) ?_
        obtain ⟨r360, S362, D361, hq359, h⟩ := c3_i h
        have hE363 := mn_X8_judge_0 hq359
        have hE364 := mn_law_429 (mn_law_18 n) h
        refine r_cVA [] [] hC hw kc_7 hi1 (k_X8_judge _ hi1 hq359) mk_X8_judge lk_453 ⟨(by decide), (by decide)⟩ (Al.roomCL hc ho hE363 hE364) rfl hl.1 rfl (Nat.le_of_ble_eq_true rfl) dL_law_426 (fun ad365 hP H locs hw => ?_)
        refine W.eq (g2 := F0 m 429 ls [.int r360]) rfl ?_
        have hi366 := Is.up hi1 hE363 hP.1
        have hi367 := Is.up hi2 hE363 hP.1
        have hc := hc.call hE363 hP.1
        exact w_law_429 hC hX hbl hbA ho ih (mn_law_18 n) o1 a1 o2 a2 x3 r360 _ _ _ _ _ _ _ _ hi366 hi367 hw hc (lv_sub hl [0, 1, 2, 3] rfl) h --j368
      have h := i_no c358 h
      by_cases c369 : ((xs x3.toNatClampNeg) &&& (31 : Int32)) = 8
      · have h := i_yes c369 h
        refine lv_tableIn (off := 405) (tgt := 438) hx hb dL_law_33 (by rw [c369]; decide) (by rw [c369]; decide) (by rw [c369] <;> rfl) (by decide) ?_
        refine lv_aload_n hx hb dL_law_438 rfl (lv_at hl 1 rfl) ?_
        obtain ⟨r371, hq370, h⟩ := pq_i h
        refine r_cV (st' := [.int r371]) [] [] hC hw kc_7 hi1 (k_X8_place _ hi1 hq370) mk_X8_place lk_860 ⟨(by decide), (by decide)⟩ (Al.leL hc ho hE) rfl hl.1 rfl rfl (Nat.le_of_ble_eq_true rfl) dL_law_439 (fun hP H locs hw => ?_)
        refine lv_pop hx hb dL_law_442 rfl ?_
        refine lv_aload_n hx hb dL_law_443 rfl (lv_at hl 2 rfl) ?_
        obtain ⟨r373, hq372, h⟩ := pq_i h
        refine r_cV (st' := [.int r373]) [] [] hC hw kc_8 hi2 (k_X9_place _ hi2 hq372) mk_X9_place lk_1595 ⟨(by decide), (by decide)⟩ (Al.leL hc ho hE) rfl hl.1 rfl rfl (Nat.le_of_ble_eq_true rfl) dL_law_444 (fun hP H locs hw => ?_)
        refine lv_pop hx hb dL_law_447 rfl ?_
        refine lv_goto (tgt := 721) hx hb dL_law_448 (by decide) ?_
        exact w_law_721 hC hX hbl hbA ho ih (mn_law_18 n) o1 a1 o2 a2 x3 _ _ _ _ _ _ _ _ hi1 hi2 hw hc (lv_sub hl [0, 1, 2, 3] rfl) h --j374
      have h := i_no c369 h
      by_cases c375 : ((xs x3.toNatClampNeg) &&& (31 : Int32)) = 9
      · have h := i_yes c375 h
        refine lv_tableIn (off := 418) (tgt := 451) hx hb dL_law_33 (by rw [c375]; decide) (by rw [c375]; decide) (by rw [c375] <;> rfl) (by decide) ?_
        refine lv_aload_n hx hb dL_law_451 rfl (lv_at hl 1 rfl) ?_
        refine lv_aload_n hx hb dL_law_452 rfl (lv_at hl 0 rfl) ?_
        refine lv_iload_n hx hb dL_law_453 rfl (lv_at hl 3 rfl) ?_
        refine lv_iconst (v := 1) hx hb dL_law_454 (by decide) ?_
        refine lv_iadd hx hb dL_law_455 ?_
        obtain ⟨hn376, h⟩ := ix_i h
        refine va_sld hx hb hX hbl hbA hw.2.2.2.1 hn376 dL_law_456 ?_
        refine lv_aload_n hx hb dL_law_457 rfl (lv_at hl 0 rfl) ?_
        refine lv_iload_n hx hb dL_law_458 rfl (lv_at hl 3 rfl) ?_
        refine lv_iconst (v := 2) hx hb dL_law_459 (by decide) ?_
        refine lv_iadd hx hb dL_law_460 ?_
        obtain ⟨hn377, h⟩ := ix_i h
        refine va_sld hx hb hX hbl hbA hw.2.2.2.1 hn377 dL_law_461 ?_
        refine lv_aload_n hx hb dL_law_462 rfl (lv_at hl 0 rfl) ?_
        refine lv_iload_n hx hb dL_law_463 rfl (lv_at hl 3 rfl) ?_
        refine lv_iconst (v := 3) hx hb dL_law_464 (by decide) ?_
        refine lv_iadd hx hb dL_law_465 ?_
        obtain ⟨hn378, h⟩ := ix_i h
        refine va_sld hx hb hX hbl hbA hw.2.2.2.1 hn378 dL_law_466 ?_
        obtain ⟨r380, hq379, h⟩ := pq_i h
        refine r_cV (st' := [.long r380]) [.int (xs (x3 + (1 : Int32)).toNatClampNeg), .int (xs (x3 + (2 : Int32)).toNatClampNeg), .int (xs (x3 + (3 : Int32)).toNatClampNeg)] [] hC hw kc_7 hi1 (k_X8_may _ hi1 hq379) mk_X8_may lk_864 ⟨(by decide), (by decide)⟩ (Al.leL hc ho hE) rfl hl.1 rfl rfl (Nat.le_of_ble_eq_true rfl) dL_law_467 (fun hP H locs hw => ?_)
        refine lv_pop2_2 hx hb dL_law_470 rfl ?_
        refine lv_aload_n hx hb dL_law_471 rfl (lv_at hl 2 rfl) ?_
        refine lv_aload_n hx hb dL_law_472 rfl (lv_at hl 0 rfl) ?_
        refine lv_iload_n hx hb dL_law_473 rfl (lv_at hl 3 rfl) ?_
        refine lv_iconst (v := 1) hx hb dL_law_474 (by decide) ?_
        refine lv_iadd hx hb dL_law_475 ?_
        obtain ⟨hn381, h⟩ := ix_i h
        refine va_sld hx hb hX hbl hbA hw.2.2.2.1 hn381 dL_law_476 ?_
        refine lv_aload_n hx hb dL_law_477 rfl (lv_at hl 0 rfl) ?_
        refine lv_iload_n hx hb dL_law_478 rfl (lv_at hl 3 rfl) ?_
        refine lv_iconst (v := 2) hx hb dL_law_479 (by decide) ?_
        refine lv_iadd hx hb dL_law_480 ?_
        obtain ⟨hn382, h⟩ := ix_i h
        refine va_sld hx hb hX hbl hbA hw.2.2.2.1 hn382 dL_law_481 ?_
        refine lv_aload_n hx hb dL_law_482 rfl (lv_at hl 0 rfl) ?_
        refine lv_iload_n hx hb dL_law_483 rfl (lv_at hl 3 rfl) ?_
        refine lv_iconst (v := 3) hx hb dL_law_484 (by decide) ?_
        refine lv_iadd hx hb dL_law_485 ?_
        obtain ⟨hn383, h⟩ := ix_i h
        refine va_sld hx hb hX hbl hbA hw.2.2.2.1 hn383 dL_law_486 ?_
        obtain ⟨r385, hq384, h⟩ := pq_i h
        refine r_cV (st' := [.long r385]) [.int (xs (x3 + (1 : Int32)).toNatClampNeg), .int (xs (x3 + (2 : Int32)).toNatClampNeg), .int (xs (x3 + (3 : Int32)).toNatClampNeg)] [] hC hw kc_8 hi2 (k_X9_may _ hi2 hq384) mk_X9_may lk_1599 ⟨(by decide), (by decide)⟩ (Al.leL hc ho hE) rfl hl.1 rfl rfl (Nat.le_of_ble_eq_true rfl) dL_law_487 (fun hP H locs hw => ?_)
        refine lv_pop2_2 hx hb dL_law_490 rfl ?_
        refine lv_goto (tgt := 721) hx hb dL_law_491 (by decide) ?_
        exact w_law_721 hC hX hbl hbA ho ih (mn_law_18 n) o1 a1 o2 a2 x3 _ _ _ _ _ _ _ _ hi1 hi2 hw hc (lv_sub hl [0, 1, 2, 3] rfl) h --j386
      have h := i_no c375 h
      by_cases c387 : ((xs x3.toNatClampNeg) &&& (31 : Int32)) = 10
      · have h := i_yes c387 h
        refine lv_tableIn (off := 461) (tgt := 494) hx hb dL_law_33 (by rw [c387]; decide) (by rw [c387]; decide) (by rw [c387] <;> rfl) (by decide) ?_
        refine lv_aload_n hx hb dL_law_494 rfl (lv_at hl 1 rfl) ?_
        refine lv_aload_n hx hb dL_law_495 rfl (lv_at hl 0 rfl) ?_
        refine lv_iload_n hx hb dL_law_496 rfl (lv_at hl 3 rfl) ?_
        refine lv_iconst (v := 1) hx hb dL_law_497 (by decide) ?_
        refine lv_iadd hx hb dL_law_498 ?_
        obtain ⟨hn388, h⟩ := ix_i h
        refine va_sld hx hb hX hbl hbA hw.2.2.2.1 hn388 dL_law_499 ?_
        refine lv_aload_n hx hb dL_law_500 rfl (lv_at hl 0 rfl) ?_
        refine lv_iload_n hx hb dL_law_501 rfl (lv_at hl 3 rfl) ?_
        refine lv_iconst (v := 2) hx hb dL_law_502 (by decide) ?_
        refine lv_iadd hx hb dL_law_503 ?_
        obtain ⟨hn389, h⟩ := ix_i h
        refine va_sld hx hb hX hbl hbA hw.2.2.2.1 hn389 dL_law_504 ?_
        obtain ⟨r391, hq390, h⟩ := pq_i h
        refine r_cV (st' := [.int r391]) [.int (xs (x3 + (1 : Int32)).toNatClampNeg), .int (xs (x3 + (2 : Int32)).toNatClampNeg)] [] hC hw kc_7 hi1 (k_X8_cell _ hi1 hq390) mk_X8_cell lk_875 ⟨(by decide), (by decide)⟩ (Al.leL hc ho hE) rfl hl.1 rfl rfl (Nat.le_of_ble_eq_true rfl) dL_law_505 (fun hP H locs hw => ?_)
        refine lv_pop hx hb dL_law_508 rfl ?_
        refine lv_aload_n hx hb dL_law_509 rfl (lv_at hl 2 rfl) ?_
        refine lv_aload_n hx hb dL_law_510 rfl (lv_at hl 0 rfl) ?_
        refine lv_iload_n hx hb dL_law_511 rfl (lv_at hl 3 rfl) ?_
        refine lv_iconst (v := 1) hx hb dL_law_512 (by decide) ?_
        refine lv_iadd hx hb dL_law_513 ?_
        obtain ⟨hn392, h⟩ := ix_i h
        refine va_sld hx hb hX hbl hbA hw.2.2.2.1 hn392 dL_law_514 ?_
        refine lv_aload_n hx hb dL_law_515 rfl (lv_at hl 0 rfl) ?_
        refine lv_iload_n hx hb dL_law_516 rfl (lv_at hl 3 rfl) ?_
        refine lv_iconst (v := 2) hx hb dL_law_517 (by decide) ?_
        refine lv_iadd hx hb dL_law_518 ?_
        obtain ⟨hn393, h⟩ := ix_i h
        refine va_sld hx hb hX hbl hbA hw.2.2.2.1 hn393 dL_law_519 ?_
        obtain ⟨r395, hq394, h⟩ := pq_i h
        refine r_cV (st' := [.int r395]) [.int (xs (x3 + (1 : Int32)).toNatClampNeg), .int (xs (x3 + (2 : Int32)).toNatClampNeg)] [] hC hw kc_8 hi2 (k_X9_cell _ hi2 hq394) mk_X9_cell lk_1604 ⟨(by decide), (by decide)⟩ (Al.leL hc ho hE) rfl hl.1 rfl rfl (Nat.le_of_ble_eq_true rfl) dL_law_520 (fun hP H locs hw => ?_)
        refine lv_pop hx hb dL_law_523 rfl ?_
        refine lv_goto (tgt := 721) hx hb dL_law_524 (by decide) ?_
        exact w_law_721 hC hX hbl hbA ho ih (mn_law_18 n) o1 a1 o2 a2 x3 _ _ _ _ _ _ _ _ hi1 hi2 hw hc (lv_sub hl [0, 1, 2, 3] rfl) h --j396
      have h := i_no c387 h
      by_cases c397 : ((xs x3.toNatClampNeg) &&& (31 : Int32)) = 11
      · have h := i_yes c397 h
        refine lv_tableIn (off := 494) (tgt := 527) hx hb dL_law_33 (by rw [c397]; decide) (by rw [c397]; decide) (by rw [c397] <;> rfl) (by decide) ?_
        refine lv_aload_n hx hb dL_law_527 rfl (lv_at hl 1 rfl) ?_
        obtain ⟨r399, D400, hq398, h⟩ := cq_i h
        refine r_cV (st' := [.int r399]) [] [] hC hw kc_7 hi1 (k_X8_start _ hi1 hq398) mk_X8_start lk_883 ⟨(by decide), (by decide)⟩ (Al.leL hc ho hE) rfl hl.1 rfl rfl (Nat.le_of_ble_eq_true rfl) dL_law_528 (fun hP H locs hw => ?_)
        refine lv_aload_n hx hb dL_law_531 rfl (lv_at hl 2 rfl) ?_
        obtain ⟨r402, D403, hq401, h⟩ := cq_i h
        refine r_cV (st' := [.int r402, .int r399]) [] [.int r399] hC hw kc_8 hi2 (k_X9_start _ hi2 hq401) mk_X9_start lk_1296 ⟨(by decide), (by decide)⟩ (Al.leL hc ho hE) rfl hl.1 rfl rfl (Nat.le_of_ble_eq_true rfl) dL_law_532 (fun hP H locs hw => ?_)
        refine lv_icmp_eq (tgt := 721) hx hb dL_law_535 (by decide) (fun c404 => ?_) (fun c404 => ?_)
        · have h := i_yes c404 h
          exact w_law_721 hC hX hbl hbA ho ih (mn_law_18 n) o1 a1 o2 a2 x3 _ _ _ _ _ _ _ _ hi1 hi2 hw hc (lv_sub hl [0, 1, 2, 3] rfl) h --j405
        · have h := i_no c404 h
          refine lv_iconst (v := 0) hx hb dL_law_538 (by decide) ?_
          exact absurd (Prod.mk.inj (Option.some.inj h)).1 (by decide) --j406
      have h := i_no c397 h
      by_cases c407 : ((xs x3.toNatClampNeg) &&& (31 : Int32)) = 12
      · have h := i_yes c407 h
        refine lv_tableIn (off := 507) (tgt := 540) hx hb dL_law_33 (by rw [c407]; decide) (by rw [c407]; decide) (by rw [c407] <;> rfl) (by decide) ?_
        refine lv_aload_n hx hb dL_law_540 rfl (lv_at hl 1 rfl) ?_
        obtain ⟨r409, D410, hq408, h⟩ := cq_i h
        refine r_cV (st' := [.int r409]) [] [] hC hw kc_7 hi1 (k_X8_step _ hi1 hq408) mk_X8_step lk_897 ⟨(by decide), (by decide)⟩ (Al.leL hc ho hE) rfl hl.1 rfl rfl (Nat.le_of_ble_eq_true rfl) dL_law_541 (fun hP H locs hw => ?_)
        refine lv_pop hx hb dL_law_544 rfl ?_
        refine lv_aload_n hx hb dL_law_545 rfl (lv_at hl 2 rfl) ?_
        obtain ⟨r412, D413, hq411, h⟩ := cq_i h
        refine r_cV (st' := [.int r412]) [] [] hC hw kc_8 hi2 (k_X9_step _ hi2 hq411) mk_X9_step lk_1300 ⟨(by decide), (by decide)⟩ (Al.leL hc ho hE) rfl hl.1 rfl rfl (Nat.le_of_ble_eq_true rfl) dL_law_546 (fun hP H locs hw => ?_)
        refine lv_pop hx hb dL_law_549 rfl ?_
        refine lv_goto (tgt := 721) hx hb dL_law_550 (by decide) ?_
        exact w_law_721 hC hX hbl hbA ho ih (mn_law_18 n) o1 a1 o2 a2 x3 _ _ _ _ _ _ _ _ hi1 hi2 hw hc (lv_sub hl [0, 1, 2, 3] rfl) h --j414
      have h := i_no c407 h
      by_cases c415 : ((xs x3.toNatClampNeg) &&& (31 : Int32)) = 13
      · have h := i_yes c415 h
        refine lv_tableIn (off := 520) (tgt := 553) hx hb dL_law_33 (by rw [c415]; decide) (by rw [c415]; decide) (by rw [c415] <;> rfl) (by decide) ?_
        refine lv_aload_n hx hb dL_law_553 rfl (lv_at hl 1 rfl) ?_
        refine lv_aload_n hx hb dL_law_554 rfl (lv_at hl 0 rfl) ?_
        refine lv_iload_n hx hb dL_law_555 rfl (lv_at hl 3 rfl) ?_
        refine lv_iconst (v := 1) hx hb dL_law_556 (by decide) ?_
        refine lv_iadd hx hb dL_law_557 ?_
        obtain ⟨hn416, h⟩ := ix_i h
        refine va_sld hx hb hX hbl hbA hw.2.2.2.1 hn416 dL_law_558 ?_
        obtain ⟨r418, D419, hq417, h⟩ := cq_i h
        refine r_cV (st' := [.int r418]) [.int (xs (x3 + (1 : Int32)).toNatClampNeg)] [] hC hw kc_7 hi1 (k_X8_run _ hi1 hq417) mk_X8_run lk_1027 ⟨(by decide), (by decide)⟩ (Al.leL hc ho hE) rfl hl.1 rfl rfl (Nat.le_of_ble_eq_true rfl) dL_law_559 (fun hP H locs hw => ?_)
        refine lv_pop hx hb dL_law_562 rfl ?_
        refine lv_aload_n hx hb dL_law_563 rfl (lv_at hl 2 rfl) ?_
        refine lv_aload_n hx hb dL_law_564 rfl (lv_at hl 0 rfl) ?_
        refine lv_iload_n hx hb dL_law_565 rfl (lv_at hl 3 rfl) ?_
        refine lv_iconst (v := 1) hx hb dL_law_566 (by decide) ?_
        refine lv_iadd hx hb dL_law_567 ?_
        obtain ⟨hn420, h⟩ := ix_i h
        refine va_sld hx hb hX hbl hbA hw.2.2.2.1 hn420 dL_law_568 ?_
        obtain ⟨r422, D423, hq421, h⟩ := cq_i h
        refine r_cV (st' := [.int r422]) [.int (xs (x3 + (1 : Int32)).toNatClampNeg)] [] hC hw kc_8 hi2 (k_X9_run _ hi2 hq421) mk_X9_run lk_1416 ⟨(by decide), (by decide)⟩ (Al.leL hc ho hE) rfl hl.1 rfl rfl (Nat.le_of_ble_eq_true rfl) dL_law_569 (fun hP H locs hw => ?_)
        refine lv_pop hx hb dL_law_572 rfl ?_
        refine lv_goto (tgt := 721) hx hb dL_law_573 (by decide) ?_
        exact w_law_721 hC hX hbl hbA ho ih (mn_law_18 n) o1 a1 o2 a2 x3 _ _ _ _ _ _ _ _ hi1 hi2 hw hc (lv_sub hl [0, 1, 2, 3] rfl) h --j424
      have h := i_no c415 h
      by_cases c425 : ((xs x3.toNatClampNeg) &&& (31 : Int32)) = 14
      · have h := i_yes c425 h
        refine lv_tableIn (off := 543) (tgt := 576) hx hb dL_law_33 (by rw [c425]; decide) (by rw [c425]; decide) (by rw [c425] <;> rfl) (by decide) ?_
        refine lv_aload_n hx hb dL_law_576 rfl (lv_at hl 1 rfl) ?_
        refine lv_aload_n hx hb dL_law_577 rfl (lv_at hl 0 rfl) ?_
        refine lv_iload_n hx hb dL_law_578 rfl (lv_at hl 3 rfl) ?_
        refine lv_iconst (v := 1) hx hb dL_law_579 (by decide) ?_
        refine lv_iadd hx hb dL_law_580 ?_
        obtain ⟨hn426, h⟩ := ix_i h
        refine va_sld hx hb hX hbl hbA hw.2.2.2.1 hn426 dL_law_581 ?_
        obtain ⟨r428, hq427, h⟩ := pq_i h
        refine r_cV (st' := [.int r428]) [.int (xs (x3 + (1 : Int32)).toNatClampNeg)] [] hC hw kc_7 hi1 (k_X8_told _ hi1 hq427) mk_X8_told lk_1031 ⟨(by decide), (by decide)⟩ (Al.leL hc ho hE) rfl hl.1 rfl rfl (Nat.le_of_ble_eq_true rfl) dL_law_582 (fun hP H locs hw => ?_)
        refine lv_pop hx hb dL_law_585 rfl ?_
        refine lv_aload_n hx hb dL_law_586 rfl (lv_at hl 2 rfl) ?_
        refine lv_aload_n hx hb dL_law_587 rfl (lv_at hl 0 rfl) ?_
        refine lv_iload_n hx hb dL_law_588 rfl (lv_at hl 3 rfl) ?_
        refine lv_iconst (v := 1) hx hb dL_law_589 (by decide) ?_
        refine lv_iadd hx hb dL_law_590 ?_
        obtain ⟨hn429, h⟩ := ix_i h
        refine va_sld hx hb hX hbl hbA hw.2.2.2.1 hn429 dL_law_591 ?_
        obtain ⟨r431, hq430, h⟩ := pq_i h
        refine r_cV (st' := [.int r431]) [.int (xs (x3 + (1 : Int32)).toNatClampNeg)] [] hC hw kc_8 hi2 (k_X9_told _ hi2 hq430) mk_X9_told lk_1437 ⟨(by decide), (by decide)⟩ (Al.leL hc ho hE) rfl hl.1 rfl rfl (Nat.le_of_ble_eq_true rfl) dL_law_592 (fun hP H locs hw => ?_)
        refine lv_pop hx hb dL_law_595 rfl ?_
        refine lv_goto (tgt := 721) hx hb dL_law_596 (by decide) ?_
        exact w_law_721 hC hX hbl hbA ho ih (mn_law_18 n) o1 a1 o2 a2 x3 _ _ _ _ _ _ _ _ hi1 hi2 hw hc (lv_sub hl [0, 1, 2, 3] rfl) h --j432
      have h := i_no c425 h
      by_cases c433 : ((xs x3.toNatClampNeg) &&& (31 : Int32)) = 15
      · have h := i_yes c433 h
        refine lv_tableIn (off := 566) (tgt := 599) hx hb dL_law_33 (by rw [c433]; decide) (by rw [c433]; decide) (by rw [c433] <;> rfl) (by decide) ?_
        refine lv_aload_n hx hb dL_law_599 rfl (lv_at hl 1 rfl) ?_
        refine lv_aload_n hx hb dL_law_600 rfl (lv_at hl 0 rfl) ?_
        refine lv_iload_n hx hb dL_law_601 rfl (lv_at hl 3 rfl) ?_
        refine lv_iconst (v := 1) hx hb dL_law_602 (by decide) ?_
        refine lv_iadd hx hb dL_law_603 ?_
        obtain ⟨hn434, h⟩ := ix_i h
        refine va_sld hx hb hX hbl hbA hw.2.2.2.1 hn434 dL_law_604 ?_
        obtain ⟨r436, hq435, h⟩ := pq_i h
        refine r_cV (st' := [.long r436]) [.int (xs (x3 + (1 : Int32)).toNatClampNeg)] [] hC hw kc_7 hi1 (k_X8_register _ hi1 hq435) mk_X8_register lk_1035 ⟨(by decide), (by decide)⟩ (Al.leL hc ho hE) rfl hl.1 rfl rfl (Nat.le_of_ble_eq_true rfl) dL_law_605 (fun hP H locs hw => ?_)
        refine lv_pop2_2 hx hb dL_law_608 rfl ?_
        refine lv_aload_n hx hb dL_law_609 rfl (lv_at hl 2 rfl) ?_
        refine lv_aload_n hx hb dL_law_610 rfl (lv_at hl 0 rfl) ?_
        refine lv_iload_n hx hb dL_law_611 rfl (lv_at hl 3 rfl) ?_
        refine lv_iconst (v := 1) hx hb dL_law_612 (by decide) ?_
        refine lv_iadd hx hb dL_law_613 ?_
        obtain ⟨hn437, h⟩ := ix_i h
        refine va_sld hx hb hX hbl hbA hw.2.2.2.1 hn437 dL_law_614 ?_
        obtain ⟨r439, hq438, h⟩ := pq_i h
        refine r_cV (st' := [.long r439]) [.int (xs (x3 + (1 : Int32)).toNatClampNeg)] [] hC hw kc_8 hi2 (k_X9_register _ hi2 hq438) mk_X9_register lk_1441 ⟨(by decide), (by decide)⟩ (Al.leL hc ho hE) rfl hl.1 rfl rfl (Nat.le_of_ble_eq_true rfl) dL_law_615 (fun hP H locs hw => ?_)
        refine lv_pop2_2 hx hb dL_law_618 rfl ?_
        refine lv_goto (tgt := 721) hx hb dL_law_619 (by decide) ?_
        exact w_law_721 hC hX hbl hbA ho ih (mn_law_18 n) o1 a1 o2 a2 x3 _ _ _ _ _ _ _ _ hi1 hi2 hw hc (lv_sub hl [0, 1, 2, 3] rfl) h --j440
      have h := i_no c433 h
      by_cases c441 : ((xs x3.toNatClampNeg) &&& (31 : Int32)) = 16
      · have h := i_yes c441 h
        refine lv_tableIn (off := 589) (tgt := 622) hx hb dL_law_33 (by rw [c441]; decide) (by rw [c441]; decide) (by rw [c441] <;> rfl) (by decide) ?_
        refine lv_aload_n hx hb dL_law_622 rfl (lv_at hl 1 rfl) ?_
        refine lv_aload_n hx hb dL_law_623 rfl (lv_at hl 0 rfl) ?_
        refine lv_iload_n hx hb dL_law_624 rfl (lv_at hl 3 rfl) ?_
        refine lv_iconst (v := 1) hx hb dL_law_625 (by decide) ?_
        refine lv_iadd hx hb dL_law_626 ?_
        obtain ⟨hn442, h⟩ := ix_i h
        refine va_sld hx hb hX hbl hbA hw.2.2.2.1 hn442 dL_law_627 ?_
        refine lv_i2l (v := (xs (x3 + (1 : Int32)).toNatClampNeg).toInt64) hx hb dL_law_628 rfl ?_
        refine lv_bipush (v := 32) hx hb dL_law_629 (by decide) ?_
        refine lv_lshl (v := j_lshl ((xs (x3 + (1 : Int32)).toNatClampNeg).toInt64) (32 : Int32)) hx hb dL_law_631 rfl ?_
        refine lv_aload_n hx hb dL_law_632 rfl (lv_at hl 0 rfl) ?_
        refine lv_iload_n hx hb dL_law_633 rfl (lv_at hl 3 rfl) ?_
        refine lv_iconst (v := 2) hx hb dL_law_634 (by decide) ?_
        refine lv_iadd hx hb dL_law_635 ?_
        obtain ⟨hn443, h⟩ := ix_i h
        refine va_sld hx hb hX hbl hbA hw.2.2.2.1 hn443 dL_law_636 ?_
        refine lv_i2l (v := (xs (x3 + (2 : Int32)).toNatClampNeg).toInt64) hx hb dL_law_637 rfl ?_
        refine lv_ldc2 (v := 4294967295) hx hb hC.2.2.2.1 (hC.2.2.2.2.1 _ lk_1608) dL_law_638 ?_
        refine lv_land hx hb dL_law_641 ?_
        refine lv_lor hx hb dL_law_642 ?_
        obtain ⟨r445, D446, hq444, h⟩ := cq_i h
        refine r_cV (st' := [.int r445]) [.long ((j_lshl ((xs (x3 + (1 : Int32)).toNatClampNeg).toInt64) (32 : Int32)) ||| (((xs (x3 + (2 : Int32)).toNatClampNeg).toInt64) &&& (4294967295 : Int64)))] [] hC hw kc_7 hi1 (k_X8_octet _ hi1 hq444) mk_X8_octet lk_1039 ⟨(by decide), (by decide)⟩ (Al.leL hc ho hE) rfl hl.1 rfl rfl (Nat.le_of_ble_eq_true rfl) dL_law_643 (fun hP H locs hw => ?_)
        refine lv_pop hx hb dL_law_646 rfl ?_
        refine lv_aload_n hx hb dL_law_647 rfl (lv_at hl 2 rfl) ?_
        refine lv_aload_n hx hb dL_law_648 rfl (lv_at hl 0 rfl) ?_
        refine lv_iload_n hx hb dL_law_649 rfl (lv_at hl 3 rfl) ?_
        refine lv_iconst (v := 1) hx hb dL_law_650 (by decide) ?_
        refine lv_iadd hx hb dL_law_651 ?_
        obtain ⟨hn447, h⟩ := ix_i h
        refine va_sld hx hb hX hbl hbA hw.2.2.2.1 hn447 dL_law_652 ?_
        refine lv_i2l (v := (xs (x3 + (1 : Int32)).toNatClampNeg).toInt64) hx hb dL_law_653 rfl ?_
        refine lv_bipush (v := 32) hx hb dL_law_654 (by decide) ?_
        refine lv_lshl (v := j_lshl ((xs (x3 + (1 : Int32)).toNatClampNeg).toInt64) (32 : Int32)) hx hb dL_law_656 rfl ?_
        refine lv_aload_n hx hb dL_law_657 rfl (lv_at hl 0 rfl) ?_
        refine lv_iload_n hx hb dL_law_658 rfl (lv_at hl 3 rfl) ?_
        refine lv_iconst (v := 2) hx hb dL_law_659 (by decide) ?_
        refine lv_iadd hx hb dL_law_660 ?_
        obtain ⟨hn448, h⟩ := ix_i h
        refine va_sld hx hb hX hbl hbA hw.2.2.2.1 hn448 dL_law_661 ?_
        refine lv_i2l (v := (xs (x3 + (2 : Int32)).toNatClampNeg).toInt64) hx hb dL_law_662 rfl ?_
        refine lv_ldc2 (v := 4294967295) hx hb hC.2.2.2.1 (hC.2.2.2.2.1 _ lk_1608) dL_law_663 ?_
        refine lv_land hx hb dL_law_666 ?_
        refine lv_lor hx hb dL_law_667 ?_
        obtain ⟨r450, hq449, h⟩ := pq_i h
        refine r_cV (st' := [.int r450]) [.long ((j_lshl ((xs (x3 + (1 : Int32)).toNatClampNeg).toInt64) (32 : Int32)) ||| (((xs (x3 + (2 : Int32)).toNatClampNeg).toInt64) &&& (4294967295 : Int64)))] [] hC hw kc_8 hi2 (k_X9_octet _ hi2 hq449) mk_X9_octet lk_1260 ⟨(by decide), (by decide)⟩ (Al.leL hc ho hE) rfl hl.1 rfl rfl (Nat.le_of_ble_eq_true rfl) dL_law_668 (fun hP H locs hw => ?_)
        refine lv_pop hx hb dL_law_671 rfl ?_
        refine lv_goto (tgt := 721) hx hb dL_law_672 (by decide) ?_
        exact w_law_721 hC hX hbl hbA ho ih (mn_law_18 n) o1 a1 o2 a2 x3 _ _ _ _ _ _ _ _ hi1 hi2 hw hc (lv_sub hl [0, 1, 2, 3] rfl) h --j451
      have h := i_no c441 h
      by_cases c452 : ((xs x3.toNatClampNeg) &&& (31 : Int32)) = 17
      · have h := i_yes c452 h
        refine lv_tableIn (off := 642) (tgt := 675) hx hb dL_law_33 (by rw [c452]; decide) (by rw [c452]; decide) (by rw [c452] <;> rfl) (by decide) ?_
        refine lv_aload_n hx hb dL_law_675 rfl (lv_at hl 1 rfl) ?_
        refine lv_aload_n hx hb dL_law_676 rfl (lv_at hl 0 rfl) ?_
        refine lv_iload_n hx hb dL_law_677 rfl (lv_at hl 3 rfl) ?_
        refine lv_iconst (v := 1) hx hb dL_law_678 (by decide) ?_
        refine lv_iadd hx hb dL_law_679 ?_
        obtain ⟨hn453, h⟩ := ix_i h
        refine va_sld hx hb hX hbl hbA hw.2.2.2.1 hn453 dL_law_680 ?_
        obtain ⟨r455, hq454, h⟩ := pq_i h
        refine r_cV (st' := [.long r455]) [.int (xs (x3 + (1 : Int32)).toNatClampNeg)] [] hC hw kc_7 hi1 (k_X8_putAt _ hi1 hq454) mk_X8_putAt lk_1045 ⟨(by decide), (by decide)⟩ (Al.leL hc ho hE) rfl hl.1 rfl rfl (Nat.le_of_ble_eq_true rfl) dL_law_681 (fun hP H locs hw => ?_)
        refine lv_pop2_2 hx hb dL_law_684 rfl ?_
        refine lv_aload_n hx hb dL_law_685 rfl (lv_at hl 2 rfl) ?_
        refine lv_aload_n hx hb dL_law_686 rfl (lv_at hl 0 rfl) ?_
        refine lv_iload_n hx hb dL_law_687 rfl (lv_at hl 3 rfl) ?_
        refine lv_iconst (v := 1) hx hb dL_law_688 (by decide) ?_
        refine lv_iadd hx hb dL_law_689 ?_
        obtain ⟨hn456, h⟩ := ix_i h
        refine va_sld hx hb hX hbl hbA hw.2.2.2.1 hn456 dL_law_690 ?_
        obtain ⟨r458, hq457, h⟩ := pq_i h
        refine r_cV (st' := [.long r458]) [.int (xs (x3 + (1 : Int32)).toNatClampNeg)] [] hC hw kc_8 hi2 (k_X9_putAt _ hi2 hq457) mk_X9_putAt lk_1446 ⟨(by decide), (by decide)⟩ (Al.leL hc ho hE) rfl hl.1 rfl rfl (Nat.le_of_ble_eq_true rfl) dL_law_691 (fun hP H locs hw => ?_)
        refine lv_pop2_2 hx hb dL_law_694 rfl ?_
        refine lv_goto (tgt := 721) hx hb dL_law_695 (by decide) ?_
        exact w_law_721 hC hX hbl hbA ho ih (mn_law_18 n) o1 a1 o2 a2 x3 _ _ _ _ _ _ _ _ hi1 hi2 hw hc (lv_sub hl [0, 1, 2, 3] rfl) h --j459
      have h := i_no c452 h
      by_cases c460 : ((xs x3.toNatClampNeg) &&& (31 : Int32)) = 18
      · have h := i_yes c460 h
        refine lv_tableIn (off := 665) (tgt := 698) hx hb dL_law_33 (by rw [c460]; decide) (by rw [c460]; decide) (by rw [c460] <;> rfl) (by decide) ?_
        refine lv_aload_n hx hb dL_law_698 rfl (lv_at hl 1 rfl) ?_
        refine lv_aload_n hx hb dL_law_699 rfl (lv_at hl 0 rfl) ?_
        refine lv_iload_n hx hb dL_law_700 rfl (lv_at hl 3 rfl) ?_
        refine lv_iconst (v := 1) hx hb dL_law_701 (by decide) ?_
        refine lv_iadd hx hb dL_law_702 ?_
        obtain ⟨hn461, h⟩ := ix_i h
        refine va_sld hx hb hX hbl hbA hw.2.2.2.1 hn461 dL_law_703 ?_
        obtain ⟨r463, hq462, h⟩ := pq_i h
        refine r_cV (st' := [.int r463]) [.int (xs (x3 + (1 : Int32)).toNatClampNeg)] [] hC hw kc_7 hi1 (k_X8_keys _ hi1 hq462) mk_X8_keys lk_1056 ⟨(by decide), (by decide)⟩ (Al.leL hc ho hE) rfl hl.1 rfl rfl (Nat.le_of_ble_eq_true rfl) dL_law_704 (fun hP H locs hw => ?_)
        refine lv_pop hx hb dL_law_707 rfl ?_
        refine lv_aload_n hx hb dL_law_708 rfl (lv_at hl 2 rfl) ?_
        refine lv_aload_n hx hb dL_law_709 rfl (lv_at hl 0 rfl) ?_
        refine lv_iload_n hx hb dL_law_710 rfl (lv_at hl 3 rfl) ?_
        refine lv_iconst (v := 1) hx hb dL_law_711 (by decide) ?_
        refine lv_iadd hx hb dL_law_712 ?_
        obtain ⟨hn464, h⟩ := ix_i h
        refine va_sld hx hb hX hbl hbA hw.2.2.2.1 hn464 dL_law_713 ?_
        obtain ⟨r466, hq465, h⟩ := pq_i h
        refine r_cV (st' := [.int r466]) [.int (xs (x3 + (1 : Int32)).toNatClampNeg)] [] hC hw kc_8 hi2 (k_X9_keys _ hi2 hq465) mk_X9_keys lk_1292 ⟨(by decide), (by decide)⟩ (Al.leL hc ho hE) rfl hl.1 rfl rfl (Nat.le_of_ble_eq_true rfl) dL_law_714 (fun hP H locs hw => ?_)
        refine lv_pop hx hb dL_law_717 rfl ?_
        refine lv_goto (tgt := 721) hx hb dL_law_718 (by decide) ?_
        exact w_law_721 hC hX hbl hbA ho ih (mn_law_18 n) o1 a1 o2 a2 x3 _ _ _ _ _ _ _ _ hi1 hi2 hw hc (lv_sub hl [0, 1, 2, 3] rfl) h --j467
      have h := i_no c460 h
      refine lv_tableOut (tgt := 721) hx hb dL_law_33 (by have nc265 := lv_neT c265 (a := 0) rfl; have nc281 := lv_neT c281 (a := 1) rfl; have nc299 := lv_neT c299 (a := 2) rfl; have nc309 := lv_neT c309 (a := 3) rfl; have nc324 := lv_neT c324 (a := 4) rfl; have nc334 := lv_neT c334 (a := 5) rfl; have nc346 := lv_neT c346 (a := 6) rfl; have nc358 := lv_neT c358 (a := 7) rfl; have nc369 := lv_neT c369 (a := 8) rfl; have nc375 := lv_neT c375 (a := 9) rfl; have nc387 := lv_neT c387 (a := 10) rfl; have nc397 := lv_neT c397 (a := 11) rfl; have nc407 := lv_neT c407 (a := 12) rfl; have nc415 := lv_neT c415 (a := 13) rfl; have nc425 := lv_neT c425 (a := 14) rfl; have nc433 := lv_neT c433 (a := 15) rfl; have nc441 := lv_neT c441 (a := 16) rfl; have nc452 := lv_neT c452 (a := 17) rfl; have nc460 := lv_neT c460 (a := 18) rfl; omega) (by decide) ?_
      exact w_law_721 hC hX hbl hbA ho ih (mn_law_18 n) o1 a1 o2 a2 x3 _ _ _ _ _ _ _ _ hi1 hi2 hw hc (lv_sub hl [0, 1, 2, 3] rfl) h --j468
theorem mn_law_15 {xs : Nat → Int32} {L : Nat} {r : Int32} {S' : sh} {D' : dt} {o1 : Nat} {os0 : Nat} {S : sh} {D : dt} (h : f_law_15 xs L o1 os0 S D = some (r, S', D')) : Ext S S' := by
  unfold f_law_15 at h
  have h := nm_i h _ rfl
  exact (mn_law_18 LF _ _ _ _ _ h)
set_option maxHeartbeats 8000000 in
set_option maxRecDepth 100000 in
theorem w_law_15 {b L : Nat} {xs : Nat → Int32} {S' : sh} {D' : dt} {S0 : sh} {ad0 : Nat → Nat} (hC : Cx RL cL_law 4 ret p s m #[Value.ref b] meth c) (hX : va_X b L xs s s.heap) (hbl : b < s.heap.size) (hbA : ¬ (fun q : Nat => s.heap.size ≤ q) b) (ho : sN S' - sN S0 ≤ 600000 ∧ sZ S' - sZ S0 ≤ 7302250) : ∀ (o1 a1 : Nat) (os0 as0 : Nat) (S : sh) (D : dt) (ad : Nat → Nat) (H : Heap) (locs : List Loc) (ls : Array Slot) (cells slots : Nat), Is S ad o1 a1 7 → Is S ad os0 as0 8 → Wd G cA S D ad (fun q => s.heap.size ≤ q) s H locs → Al S0 ad0 S ad cells slots → lv_has ls 4 [(0, .ref b), (1, .ref a1)] → f_law_15 xs L o1 os0 S D = some (1, S', D') → W p l e room_1 s m #[Value.ref b] below meth c H locs cells slots (lw_Z below #[Value.ref b] s) (F0 m 15 ls [.ref as0]) := by
  obtain ⟨hx, hb, -⟩ := id hC
  intro o1 a1 os0 as0 S D ad H locs ls cells slots hi1 his0 hw hc hl h
  have hE : Ext S S' := mn_law_15  h
  unfold f_law_15 at h
  refine lv_astore_n (lv' := [(2, .ref as0), (0, .ref b), (1, .ref a1)]) hx hb dL_law_15 rfl hl (by decide) rfl (fun ls hl => ?_)
  refine lv_iconst (v := 0) hx hb dL_law_16 (by decide) ?_
  refine lv_topi (fun y469 ey469 => ?_)
  have h := nm_i h y469 ey469
  refine lv_istore_n (lv' := [(3, .int y469), (2, .ref as0), (0, .ref b), (1, .ref a1)]) hx hb dL_law_17 rfl hl (by decide) rfl (fun ls hl => ?_)
  exact w_law_18 hC hX hbl hbA ho LF o1 a1 os0 as0 y469 _ _ _ _ _ _ _ _ hi1 his0 hw hc (lv_sub hl [2, 3, 1, 0] rfl) h --j470
theorem mn_law_11 {xs : Nat → Int32} {L : Nat} {r : Int32} {S' : sh} {D' : dt} {o1 : Nat} {os0 : Nat} {S : sh} {D : dt} (h : f_law_11 xs L o1 os0 S D = some (r, S', D')) : Ext S S' := by
  unfold f_law_11 at h
  obtain ⟨_, S473, D472, hq471, h⟩ := c3_i h
  have hA := mn_X9_init_0 hq471
  exact hA.tr (mn_law_15 h)
set_option maxHeartbeats 8000000 in
set_option maxRecDepth 100000 in
theorem w_law_11 {b L : Nat} {xs : Nat → Int32} {S' : sh} {D' : dt} {S0 : sh} {ad0 : Nat → Nat} (hC : Cx RL cL_law 4 ret p s m #[Value.ref b] meth c) (hX : va_X b L xs s s.heap) (hbl : b < s.heap.size) (hbA : ¬ (fun q : Nat => s.heap.size ≤ q) b) (ho : sN S' - sN S0 ≤ 600000 ∧ sZ S' - sZ S0 ≤ 7302250) : ∀ (o1 a1 : Nat) (os0 as0 : Nat) (S : sh) (D : dt) (ad : Nat → Nat) (H : Heap) (locs : List Loc) (ls : Array Slot) (cells slots : Nat), Is S ad o1 a1 7 → Is S ad os0 as0 8 → Wd G cA S D ad (fun q => s.heap.size ≤ q) s H locs → Al S0 ad0 S ad cells slots → lv_has ls 4 [(0, .ref b), (1, .ref a1)] → f_law_11 xs L o1 os0 S D = some (1, S', D') → W p l e room_1 s m #[Value.ref b] below meth c H locs cells slots (lw_Z below #[Value.ref b] s) (F0 m 11 ls [.ref as0]) := by
  obtain ⟨hx, hb, -⟩ := id hC
  intro o1 a1 os0 as0 S D ad H locs ls cells slots hi1 his0 hw hc hl h
  have hE : Ext S S' := mn_law_11  h
  unfold f_law_11 at h
  refine lv_dup hx hb dL_law_11 rfl ?_
  obtain ⟨_, S473, D472, hq471, h⟩ := c3_i h
  have hE474 := mn_X9_init_0 hq471
  have hE475 := mn_law_15 h
  refine r_cIA [] [.ref as0] hC hw (k_X9_init _ his0 hq471) mk_X9_init lk_1067 ⟨(by decide), (by decide)⟩ (Al.roomCL hc ho hE474 hE475) rfl hl.1 rfl (Nat.le_of_ble_eq_true rfl) dL_law_12 (fun ad476 hP H locs hw => ?_)
  refine W.eq (g2 := F0 m 15 ls [.ref as0]) rfl ?_
  have hi477 := Is.up his0 hE474 hP.1
  have hi478 := Is.up hi1 hE474 hP.1
  have hc := hc.call hE474 hP.1
  exact w_law_15 hC hX hbl hbA ho o1 a1 os0 as0 _ _ _ _ _ _ _ _ hi478 hi477 hw hc (lv_sub hl [0, 1] rfl) h --j479
theorem mn_law_7 {xs : Nat → Int32} {L : Nat} {r : Int32} {S' : sh} {D' : dt} {os0 : Nat} {S : sh} {D : dt} (h : f_law_7 xs L os0 S D = some (r, S', D')) : Ext S S' := by
  unfold f_law_7 at h
  have hA := (Ext.aS S 8 0 54)
  exact hA.tr (mn_law_11 h)
set_option maxHeartbeats 8000000 in
set_option maxRecDepth 100000 in
theorem w_law_7 {b L : Nat} {xs : Nat → Int32} {S' : sh} {D' : dt} {S0 : sh} {ad0 : Nat → Nat} (hC : Cx RL cL_law 4 ret p s m #[Value.ref b] meth c) (hX : va_X b L xs s s.heap) (hbl : b < s.heap.size) (hbA : ¬ (fun q : Nat => s.heap.size ≤ q) b) (ho : sN S' - sN S0 ≤ 600000 ∧ sZ S' - sZ S0 ≤ 7302250) : ∀ (os0 as0 : Nat) (S : sh) (D : dt) (ad : Nat → Nat) (H : Heap) (locs : List Loc) (ls : Array Slot) (cells slots : Nat), Is S ad os0 as0 7 → Wd G cA S D ad (fun q => s.heap.size ≤ q) s H locs → Al S0 ad0 S ad cells slots → lv_has ls 4 [(0, .ref b)] → f_law_7 xs L os0 S D = some (1, S', D') → W p l e room_1 s m #[Value.ref b] below meth c H locs cells slots (lw_Z below #[Value.ref b] s) (F0 m 7 ls [.ref as0]) := by
  obtain ⟨hx, hb, -⟩ := id hC
  intro os0 as0 S D ad H locs ls cells slots his0 hw hc hl h
  have hE : Ext S S' := mn_law_7  h
  unfold f_law_7 at h
  refine lv_astore_n (lv' := [(1, .ref as0), (0, .ref b)]) hx hb dL_law_7 rfl hl (by decide) rfl (fun ls hl => ?_)
  have hE482 := mn_law_11 h
  refine r_new hC hw kc_8 df_8 lk_1065 lk_1066 lk_121 (Al.roomL hc ho hE482).1 (Al.roomL hc ho hE482).2 dL_law_8 (fun q480 H hw hi481 => ?_)
  have hi483 := Is.up his0 (Ext.aS S 8 0 54) (up_lt (q := q480))
  have hc := hc.new 8 0 54 q480
  exact w_law_11 hC hX hbl hbA ho os0 as0 (sN S) q480 _ _ _ _ _ _ _ _ hi483 hi481 hw hc (lv_sub hl [1, 0] rfl) h --j484
theorem mn_law_3 {xs : Nat → Int32} {L : Nat} {r : Int32} {S' : sh} {D' : dt} {os0 : Nat} {S : sh} {D : dt} (h : f_law_3 xs L os0 S D = some (r, S', D')) : Ext S S' := by
  unfold f_law_3 at h
  obtain ⟨_, S487, D486, hq485, h⟩ := c3_i h
  have hA := mn_X8_init_0 hq485
  exact hA.tr (mn_law_7 h)
set_option maxHeartbeats 8000000 in
set_option maxRecDepth 100000 in
theorem w_law_3 {b L : Nat} {xs : Nat → Int32} {S' : sh} {D' : dt} {S0 : sh} {ad0 : Nat → Nat} (hC : Cx RL cL_law 4 ret p s m #[Value.ref b] meth c) (hX : va_X b L xs s s.heap) (hbl : b < s.heap.size) (hbA : ¬ (fun q : Nat => s.heap.size ≤ q) b) (ho : sN S' - sN S0 ≤ 600000 ∧ sZ S' - sZ S0 ≤ 7302250) : ∀ (os0 as0 : Nat) (S : sh) (D : dt) (ad : Nat → Nat) (H : Heap) (locs : List Loc) (ls : Array Slot) (cells slots : Nat), Is S ad os0 as0 7 → Wd G cA S D ad (fun q => s.heap.size ≤ q) s H locs → Al S0 ad0 S ad cells slots → lv_has ls 4 [(0, .ref b)] → f_law_3 xs L os0 S D = some (1, S', D') → W p l e room_1 s m #[Value.ref b] below meth c H locs cells slots (lw_Z below #[Value.ref b] s) (F0 m 3 ls [.ref as0]) := by
  obtain ⟨hx, hb, -⟩ := id hC
  intro os0 as0 S D ad H locs ls cells slots his0 hw hc hl h
  have hE : Ext S S' := mn_law_3  h
  unfold f_law_3 at h
  refine lv_dup hx hb dL_law_3 rfl ?_
  obtain ⟨_, S487, D486, hq485, h⟩ := c3_i h
  have hE488 := mn_X8_init_0 hq485
  have hE489 := mn_law_7 h
  refine r_cIA [] [.ref as0] hC hw (k_X8_init _ his0 hq485) mk_X8_init lk_129 ⟨(by decide), (by decide)⟩ (Al.roomCL hc ho hE488 hE489) rfl hl.1 rfl (Nat.le_of_ble_eq_true rfl) dL_law_4 (fun ad490 hP H locs hw => ?_)
  refine W.eq (g2 := F0 m 7 ls [.ref as0]) rfl ?_
  have hi491 := Is.up his0 hE488 hP.1
  have hc := hc.call hE488 hP.1
  exact w_law_7 hC hX hbl hbA ho os0 as0 _ _ _ _ _ _ _ _ hi491 hw hc (lv_sub hl [0] rfl) h --j492
theorem mn_law_0 {xs : Nat → Int32} {L : Nat} {r : Int32} {S' : sh} {D' : dt} {S : sh} {D : dt} (h : f_law xs L S D = some (r, S', D')) : Ext S S' := by
  unfold f_law at h
  have hA := (Ext.aS S 7 0 4)
  exact hA.tr (mn_law_3 h)
set_option maxHeartbeats 8000000 in
set_option maxRecDepth 100000 in
theorem w_law_0 {b L : Nat} {xs : Nat → Int32} {S' : sh} {D' : dt} {S0 : sh} {ad0 : Nat → Nat} (hC : Cx RL cL_law 4 ret p s m #[Value.ref b] meth c) (hX : va_X b L xs s s.heap) (hbl : b < s.heap.size) (hbA : ¬ (fun q : Nat => s.heap.size ≤ q) b) (ho : sN S' - sN S0 ≤ 600000 ∧ sZ S' - sZ S0 ≤ 7302250) : ∀  (S : sh) (D : dt) (ad : Nat → Nat) (H : Heap) (locs : List Loc) (ls : Array Slot) (cells slots : Nat), Wd G cA S D ad (fun q => s.heap.size ≤ q) s H locs → Al S0 ad0 S ad cells slots → lv_has ls 4 [(0, .ref b)] → f_law xs L S D = some (1, S', D') → W p l e room_1 s m #[Value.ref b] below meth c H locs cells slots (lw_Z below #[Value.ref b] s) (F0 m 0 ls []) := by
  obtain ⟨hx, hb, -⟩ := id hC
  intro S D ad H locs ls cells slots  hw hc hl h
  have hE : Ext S S' := mn_law_0  h
  unfold f_law at h
  have hE495 := mn_law_3 h
  refine r_new hC hw kc_7 df_7 lk_127 lk_128 lk_114 (Al.roomL hc ho hE495).1 (Al.roomL hc ho hE495).2 dL_law_0 (fun q493 H hw hi494 => ?_)
  have hc := hc.new 7 0 4 q493
  exact w_law_3 hC hX hbl hbA ho (sN S) q493 _ _ _ _ _ _ _ _ hi494 hw hc (lv_sub hl [0] rfl) h --j496
end
