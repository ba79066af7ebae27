theorem dX9_lookJump_234 : decode cX9_lookJump 234 = .ok (.iload 5, 2) := by decide +kernel
theorem dX9_lookJump_236 : decode cX9_lookJump 236 = .ok (.laload, 1) := by decide +kernel
theorem dX9_lookJump_237 : decode cX9_lookJump 237 = .ok (.aload_n 0, 1) := by decide +kernel
theorem dX9_lookJump_238 : decode cX9_lookJump 238 = .ok (.getfield 112, 3) := by decide +kernel
theorem dX9_lookJump_241 : decode cX9_lookJump 241 = .ok (.iload 5, 2) := by decide +kernel
theorem dX9_lookJump_243 : decode cX9_lookJump 243 = .ok (.laload, 1) := by decide +kernel
theorem dX9_lookJump_244 : decode cX9_lookJump 244 = .ok (.lcmp, 1) := by decide +kernel
theorem dX9_lookJump_245 : decode cX9_lookJump 245 = .ok (.ifCond .ne 7, 3) := by decide +kernel
theorem dX9_lookJump_248 : decode cX9_lookJump 248 = .ok (.iconst 2, 1) := by decide +kernel
theorem dX9_lookJump_249 : decode cX9_lookJump 249 = .ok (.goto 4, 3) := by decide +kernel
theorem dX9_lookJump_252 : decode cX9_lookJump 252 = .ok (.iconst 0, 1) := by decide +kernel
theorem dX9_lookJump_253 : decode cX9_lookJump 253 = .ok (.putfield 445, 3) := by decide +kernel
theorem dX9_lookJump_256 : decode cX9_lookJump 256 = .ok (.aload_n 0, 1) := by decide +kernel
theorem dX9_lookJump_257 : decode cX9_lookJump 257 = .ok (.iconst 0, 1) := by decide +kernel
theorem dX9_lookJump_258 : decode cX9_lookJump 258 = .ok (.bipush 75, 2) := by decide +kernel
theorem dX9_lookJump_260 : decode cX9_lookJump 260 = .ok (.invokevirtual 458, 3) := by decide +kernel
theorem dX9_lookJump_263 : decode cX9_lookJump 263 = .ok (.aload_n 0, 1) := by decide +kernel
theorem dX9_lookJump_264 : decode cX9_lookJump 264 = .ok (.iload_n 1, 1) := by decide +kernel
theorem dX9_lookJump_265 : decode cX9_lookJump 265 = .ok (.iconst 0, 1) := by decide +kernel
theorem dX9_lookJump_266 : decode cX9_lookJump 266 = .ok (.invokevirtual 461, 3) := by decide +kernel
theorem dX9_lookJump_269 : decode cX9_lookJump 269 = .ok (.istore 8, 2) := by decide +kernel
theorem dX9_lookJump_271 : decode cX9_lookJump 271 = .ok (.aload_n 0, 1) := by decide +kernel
theorem dX9_lookJump_272 : decode cX9_lookJump 272 = .ok (.bipush 75, 2) := by decide +kernel
theorem dX9_lookJump_274 : decode cX9_lookJump 274 = .ok (.iconst 0, 1) := by decide +kernel
theorem dX9_lookJump_275 : decode cX9_lookJump 275 = .ok (.invokevirtual 458, 3) := by decide +kernel
theorem dX9_lookJump_278 : decode cX9_lookJump 278 = .ok (.aload_n 0, 1) := by decide +kernel
theorem dX9_lookJump_279 : decode cX9_lookJump 279 = .ok (.iload_n 1, 1) := by decide +kernel
theorem dX9_lookJump_280 : decode cX9_lookJump 280 = .ok (.iconst 1, 1) := by decide +kernel
theorem dX9_lookJump_281 : decode cX9_lookJump 281 = .ok (.invokevirtual 461, 3) := by decide +kernel
theorem dX9_lookJump_284 : decode cX9_lookJump 284 = .ok (.istore 9, 2) := by decide +kernel
theorem dX9_lookJump_286 : decode cX9_lookJump 286 = .ok (.aload_n 0, 1) := by decide +kernel
theorem dX9_lookJump_287 : decode cX9_lookJump 287 = .ok (.bipush 75, 2) := by decide +kernel
theorem dX9_lookJump_289 : decode cX9_lookJump 289 = .ok (.iconst 0, 1) := by decide +kernel
theorem dX9_lookJump_290 : decode cX9_lookJump 290 = .ok (.invokevirtual 458, 3) := by decide +kernel
theorem dX9_lookJump_293 : decode cX9_lookJump 293 = .ok (.iload 8, 2) := by decide +kernel
theorem dX9_lookJump_295 : decode cX9_lookJump 295 = .ok (.ifCond .eq 13, 3) := by decide +kernel
theorem dX9_lookJump_298 : decode cX9_lookJump 298 = .ok (.aload_n 0, 1) := by decide +kernel
theorem dX9_lookJump_299 : decode cX9_lookJump 299 = .ok (.iload_n 1, 1) := by decide +kernel
theorem dX9_lookJump_300 : decode cX9_lookJump 300 = .ok (.iconst 1, 1) := by decide +kernel
theorem dX9_lookJump_301 : decode cX9_lookJump 301 = .ok (.iadd, 1) := by decide +kernel
theorem dX9_lookJump_302 : decode cX9_lookJump 302 = .ok (.invokevirtual 390, 3) := by decide +kernel
theorem dX9_lookJump_305 : decode cX9_lookJump 305 = .ok (.ifCond .eq 25, 3) := by decide +kernel
theorem dX9_lookJump_308 : decode cX9_lookJump 308 = .ok (.iload 9, 2) := by decide +kernel
theorem dX9_lookJump_310 : decode cX9_lookJump 310 = .ok (.ifCond .eq 23, 3) := by decide +kernel
theorem dX9_lookJump_313 : decode cX9_lookJump 313 = .ok (.aload_n 0, 1) := by decide +kernel
theorem dX9_lookJump_314 : decode cX9_lookJump 314 = .ok (.iload_n 1, 1) := by decide +kernel
theorem dX9_lookJump_315 : decode cX9_lookJump 315 = .ok (.iconst 1, 1) := by decide +kernel
theorem dX9_lookJump_316 : decode cX9_lookJump 316 = .ok (.iadd, 1) := by decide +kernel
theorem dX9_lookJump_317 : decode cX9_lookJump 317 = .ok (.aload_n 0, 1) := by decide +kernel
theorem dX9_lookJump_318 : decode cX9_lookJump 318 = .ok (.getfield 19, 3) := by decide +kernel
theorem dX9_lookJump_321 : decode cX9_lookJump 321 = .ok (.iload_n 1, 1) := by decide +kernel
theorem dX9_lookJump_322 : decode cX9_lookJump 322 = .ok (.iaload, 1) := by decide +kernel
theorem dX9_lookJump_323 : decode cX9_lookJump 323 = .ok (.iadd, 1) := by decide +kernel
theorem dX9_lookJump_324 : decode cX9_lookJump 324 = .ok (.invokevirtual 390, 3) := by decide +kernel
theorem dX9_lookJump_327 : decode cX9_lookJump 327 = .ok (.ifCond .ne 6, 3) := by decide +kernel
theorem dX9_lookJump_330 : decode cX9_lookJump 330 = .ok (.bipush 6, 2) := by decide +kernel
theorem dX9_lookJump_332 : decode cX9_lookJump 332 = .ok (.ireturn, 1) := by decide +kernel
theorem dX9_lookJump_333 : decode cX9_lookJump 333 = .ok (.iload 8, 2) := by decide +kernel
theorem dX9_lookJump_335 : decode cX9_lookJump 335 = .ok (.ifCond .eq 19, 3) := by decide +kernel
theorem dX9_lookJump_338 : decode cX9_lookJump 338 = .ok (.aload_n 0, 1) := by decide +kernel
theorem dX9_lookJump_339 : decode cX9_lookJump 339 = .ok (.iload_n 1, 1) := by decide +kernel
theorem dX9_lookJump_340 : decode cX9_lookJump 340 = .ok (.iconst 0, 1) := by decide +kernel
theorem dX9_lookJump_341 : decode cX9_lookJump 341 = .ok (.invokevirtual 461, 3) := by decide +kernel
theorem dX9_lookJump_344 : decode cX9_lookJump 344 = .ok (.ifCond .eq 10, 3) := by decide +kernel
theorem dX9_lookJump_347 : decode cX9_lookJump 347 = .ok (.aload_n 0, 1) := by decide +kernel
theorem dX9_lookJump_348 : decode cX9_lookJump 348 = .ok (.iload_n 1, 1) := by decide +kernel
theorem dX9_lookJump_349 : decode cX9_lookJump 349 = .ok (.iconst 1, 1) := by decide +kernel
theorem dX9_lookJump_350 : decode cX9_lookJump 350 = .ok (.iadd, 1) := by decide +kernel
theorem dX9_lookJump_351 : decode cX9_lookJump 351 = .ok (.invokevirtual 355, 3) := by decide +kernel
theorem dX9_lookJump_354 : decode cX9_lookJump 354 = .ok (.aload_n 0, 1) := by decide +kernel
theorem dX9_lookJump_355 : decode cX9_lookJump 355 = .ok (.bipush 75, 2) := by decide +kernel
theorem dX9_lookJump_357 : decode cX9_lookJump 357 = .ok (.iconst 0, 1) := by decide +kernel
theorem dX9_lookJump_358 : decode cX9_lookJump 358 = .ok (.invokevirtual 458, 3) := by decide +kernel
theorem dX9_lookJump_361 : decode cX9_lookJump 361 = .ok (.iload 9, 2) := by decide +kernel
theorem dX9_lookJump_363 : decode cX9_lookJump 363 = .ok (.ifCond .eq 26, 3) := by decide +kernel
theorem dX9_lookJump_366 : decode cX9_lookJump 366 = .ok (.aload_n 0, 1) := by decide +kernel
theorem dX9_lookJump_367 : decode cX9_lookJump 367 = .ok (.iload_n 1, 1) := by decide +kernel
theorem dX9_lookJump_368 : decode cX9_lookJump 368 = .ok (.iconst 1, 1) := by decide +kernel
theorem dX9_lookJump_369 : decode cX9_lookJump 369 = .ok (.invokevirtual 461, 3) := by decide +kernel
theorem dX9_lookJump_372 : decode cX9_lookJump 372 = .ok (.ifCond .eq 17, 3) := by decide +kernel
theorem dX9_lookJump_375 : decode cX9_lookJump 375 = .ok (.aload_n 0, 1) := by decide +kernel
theorem dX9_lookJump_376 : decode cX9_lookJump 376 = .ok (.iload_n 1, 1) := by decide +kernel
theorem dX9_lookJump_377 : decode cX9_lookJump 377 = .ok (.iconst 1, 1) := by decide +kernel
theorem dX9_lookJump_378 : decode cX9_lookJump 378 = .ok (.iadd, 1) := by decide +kernel
theorem dX9_lookJump_379 : decode cX9_lookJump 379 = .ok (.aload_n 0, 1) := by decide +kernel
theorem dX9_lookJump_380 : decode cX9_lookJump 380 = .ok (.getfield 19, 3) := by decide +kernel
theorem dX9_lookJump_383 : decode cX9_lookJump 383 = .ok (.iload_n 1, 1) := by decide +kernel
theorem dX9_lookJump_384 : decode cX9_lookJump 384 = .ok (.iaload, 1) := by decide +kernel
theorem dX9_lookJump_385 : decode cX9_lookJump 385 = .ok (.iadd, 1) := by decide +kernel
theorem dX9_lookJump_386 : decode cX9_lookJump 386 = .ok (.invokevirtual 355, 3) := by decide +kernel
theorem dX9_lookJump_389 : decode cX9_lookJump 389 = .ok (.iconst 0, 1) := by decide +kernel
theorem dX9_lookJump_390 : decode cX9_lookJump 390 = .ok (.ireturn, 1) := by decide +kernel
