theorem dX9_call_227 : decode cX9_call 227 = .ok (.iload 4, 2) := by decide +kernel
theorem dX9_call_229 : decode cX9_call 229 = .ok (.invokevirtual 253, 3) := by decide +kernel
theorem dX9_call_232 : decode cX9_call 232 = .ok (.istore 5, 2) := by decide +kernel
theorem dX9_call_234 : decode cX9_call 234 = .ok (.iload_n 1, 1) := by decide +kernel
theorem dX9_call_235 : decode cX9_call 235 = .ok (.iconst 1, 1) := by decide +kernel
theorem dX9_call_236 : decode cX9_call 236 = .ok (.if_icmp .ne 33, 3) := by decide +kernel
theorem dX9_call_239 : decode cX9_call 239 = .ok (.iload 5, 2) := by decide +kernel
theorem dX9_call_241 : decode cX9_call 241 = .ok (.ifCond .ge 7, 3) := by decide +kernel
theorem dX9_call_244 : decode cX9_call 244 = .ok (.lconst 0, 1) := by decide +kernel
theorem dX9_call_245 : decode cX9_call 245 = .ok (.goto 20, 3) := by decide +kernel
theorem dX9_call_248 : decode cX9_call 248 = .ok (.ldc2_w 202, 3) := by decide +kernel
theorem dX9_call_251 : decode cX9_call 251 = .ok (.iload 4, 2) := by decide +kernel
theorem dX9_call_253 : decode cX9_call 253 = .ok (.i2l, 1) := by decide +kernel
theorem dX9_call_254 : decode cX9_call 254 = .ok (.bipush 24, 2) := by decide +kernel
theorem dX9_call_256 : decode cX9_call 256 = .ok (.lshl, 1) := by decide +kernel
theorem dX9_call_257 : decode cX9_call 257 = .ok (.ladd, 1) := by decide +kernel
theorem dX9_call_258 : decode cX9_call 258 = .ok (.iload 5, 2) := by decide +kernel
theorem dX9_call_260 : decode cX9_call 260 = .ok (.i2l, 1) := by decide +kernel
theorem dX9_call_261 : decode cX9_call 261 = .ok (.bipush 12, 2) := by decide +kernel
theorem dX9_call_263 : decode cX9_call 263 = .ok (.lshl, 1) := by decide +kernel
theorem dX9_call_264 : decode cX9_call 264 = .ok (.ladd, 1) := by decide +kernel
theorem dX9_call_265 : decode cX9_call 265 = .ok (.lstore_n 2, 1) := by decide +kernel
theorem dX9_call_266 : decode cX9_call 266 = .ok (.goto 81, 3) := by decide +kernel
theorem dX9_call_269 : decode cX9_call 269 = .ok (.iload_n 1, 1) := by decide +kernel
theorem dX9_call_270 : decode cX9_call 270 = .ok (.iconst 2, 1) := by decide +kernel
theorem dX9_call_271 : decode cX9_call 271 = .ok (.if_icmp .ne 21, 3) := by decide +kernel
theorem dX9_call_274 : decode cX9_call 274 = .ok (.aload_n 0, 1) := by decide +kernel
theorem dX9_call_275 : decode cX9_call 275 = .ok (.iload 4, 2) := by decide +kernel
theorem dX9_call_277 : decode cX9_call 277 = .ok (.iload 5, 2) := by decide +kernel
theorem dX9_call_279 : decode cX9_call 279 = .ok (.aload_n 0, 1) := by decide +kernel
theorem dX9_call_280 : decode cX9_call 280 = .ok (.getfield 53, 3) := by decide +kernel
theorem dX9_call_283 : decode cX9_call 283 = .ok (.iconst 4, 1) := by decide +kernel
theorem dX9_call_284 : decode cX9_call 284 = .ok (.laload, 1) := by decide +kernel
theorem dX9_call_285 : decode cX9_call 285 = .ok (.invokevirtual 256, 3) := by decide +kernel
theorem dX9_call_288 : decode cX9_call 288 = .ok (.lstore_n 2, 1) := by decide +kernel
theorem dX9_call_289 : decode cX9_call 289 = .ok (.goto 58, 3) := by decide +kernel
theorem dX9_call_292 : decode cX9_call 292 = .ok (.aload_n 0, 1) := by decide +kernel
theorem dX9_call_293 : decode cX9_call 293 = .ok (.getfield 31, 3) := by decide +kernel
theorem dX9_call_296 : decode cX9_call 296 = .ok (.iload 4, 2) := by decide +kernel
theorem dX9_call_298 : decode cX9_call 298 = .ok (.iaload, 1) := by decide +kernel
theorem dX9_call_299 : decode cX9_call 299 = .ok (.iconst 1, 1) := by decide +kernel
theorem dX9_call_300 : decode cX9_call 300 = .ok (.if_icmp .ne 12, 3) := by decide +kernel
theorem dX9_call_303 : decode cX9_call 303 = .ok (.iload 5, 2) := by decide +kernel
theorem dX9_call_305 : decode cX9_call 305 = .ok (.ifCond .lt 7, 3) := by decide +kernel
theorem dX9_call_308 : decode cX9_call 308 = .ok (.iconst 1, 1) := by decide +kernel
theorem dX9_call_309 : decode cX9_call 309 = .ok (.goto 4, 3) := by decide +kernel
theorem dX9_call_312 : decode cX9_call 312 = .ok (.iconst 0, 1) := by decide +kernel
theorem dX9_call_313 : decode cX9_call 313 = .ok (.istore 6, 2) := by decide +kernel
theorem dX9_call_315 : decode cX9_call 315 = .ok (.iload 6, 2) := by decide +kernel
theorem dX9_call_317 : decode cX9_call 317 = .ok (.ifCond .eq 17, 3) := by decide +kernel
theorem dX9_call_320 : decode cX9_call 320 = .ok (.aload_n 0, 1) := by decide +kernel
theorem dX9_call_321 : decode cX9_call 321 = .ok (.getfield 46, 3) := by decide +kernel
theorem dX9_call_324 : decode cX9_call 324 = .ok (.bipush 32, 2) := by decide +kernel
theorem dX9_call_326 : decode cX9_call 326 = .ok (.iload 4, 2) := by decide +kernel
theorem dX9_call_328 : decode cX9_call 328 = .ok (.imul, 1) := by decide +kernel
theorem dX9_call_329 : decode cX9_call 329 = .ok (.iload 5, 2) := by decide +kernel
theorem dX9_call_331 : decode cX9_call 331 = .ok (.iadd, 1) := by decide +kernel
theorem dX9_call_332 : decode cX9_call 332 = .ok (.iconst 0, 1) := by decide +kernel
theorem dX9_call_333 : decode cX9_call 333 = .ok (.bastore, 1) := by decide +kernel
theorem dX9_call_334 : decode cX9_call 334 = .ok (.iload 6, 2) := by decide +kernel
theorem dX9_call_336 : decode cX9_call 336 = .ok (.ifCond .eq 7, 3) := by decide +kernel
theorem dX9_call_339 : decode cX9_call 339 = .ok (.lconst 0, 1) := by decide +kernel
theorem dX9_call_340 : decode cX9_call 340 = .ok (.goto 6, 3) := by decide +kernel
theorem dX9_call_343 : decode cX9_call 343 = .ok (.ldc2_w 187, 3) := by decide +kernel
theorem dX9_call_346 : decode cX9_call 346 = .ok (.lstore_n 2, 1) := by decide +kernel
theorem dX9_call_347 : decode cX9_call 347 = .ok (.aload_n 0, 1) := by decide +kernel
theorem dX9_call_348 : decode cX9_call 348 = .ok (.getfield 53, 3) := by decide +kernel
theorem dX9_call_351 : decode cX9_call 351 = .ok (.iconst 0, 1) := by decide +kernel
theorem dX9_call_352 : decode cX9_call 352 = .ok (.lload_n 2, 1) := by decide +kernel
theorem dX9_call_353 : decode cX9_call 353 = .ok (.lastore, 1) := by decide +kernel
theorem dX9_call_354 : decode cX9_call 354 = .ok (.iconst 1, 1) := by decide +kernel
theorem dX9_call_355 : decode cX9_call 355 = .ok (.istore 4, 2) := by decide +kernel
theorem dX9_call_357 : decode cX9_call 357 = .ok (.iload 4, 2) := by decide +kernel
theorem dX9_call_359 : decode cX9_call 359 = .ok (.bipush 6, 2) := by decide +kernel
theorem dX9_call_361 : decode cX9_call 361 = .ok (.if_icmp .ge 17, 3) := by decide +kernel
theorem dX9_call_364 : decode cX9_call 364 = .ok (.aload_n 0, 1) := by decide +kernel
theorem dX9_call_365 : decode cX9_call 365 = .ok (.getfield 53, 3) := by decide +kernel
theorem dX9_call_368 : decode cX9_call 368 = .ok (.iload 4, 2) := by decide +kernel
theorem dX9_call_370 : decode cX9_call 370 = .ok (.lconst 0, 1) := by decide +kernel
theorem dX9_call_371 : decode cX9_call 371 = .ok (.lastore, 1) := by decide +kernel
theorem dX9_call_372 : decode cX9_call 372 = .ok (.iinc 4 1, 3) := by decide +kernel
theorem dX9_call_375 : decode cX9_call 375 = .ok (.goto (-18), 3) := by decide +kernel
theorem dX9_call_378 : decode cX9_call 378 = .ok (.iconst 1, 1) := by decide +kernel
theorem dX9_call_379 : decode cX9_call 379 = .ok (.ireturn, 1) := by decide +kernel
