theorem dX9_goTo_231 : decode cX9_goTo 231 = .ok (.iconst 0, 1) := by decide +kernel
theorem dX9_goTo_232 : decode cX9_goTo 232 = .ok (.goto 9, 3) := by decide +kernel
theorem dX9_goTo_235 : decode cX9_goTo 235 = .ok (.aload_n 0, 1) := by decide +kernel
theorem dX9_goTo_236 : decode cX9_goTo 236 = .ok (.getfield 115, 3) := by decide +kernel
theorem dX9_goTo_239 : decode cX9_goTo 239 = .ok (.iload_n 3, 1) := by decide +kernel
theorem dX9_goTo_240 : decode cX9_goTo 240 = .ok (.iaload, 1) := by decide +kernel
theorem dX9_goTo_241 : decode cX9_goTo 241 = .ok (.iastore, 1) := by decide +kernel
theorem dX9_goTo_242 : decode cX9_goTo 242 = .ok (.aload_n 0, 1) := by decide +kernel
theorem dX9_goTo_243 : decode cX9_goTo 243 = .ok (.getfield 84, 3) := by decide +kernel
theorem dX9_goTo_246 : decode cX9_goTo 246 = .ok (.iload 4, 2) := by decide +kernel
theorem dX9_goTo_248 : decode cX9_goTo 248 = .ok (.aload_n 0, 1) := by decide +kernel
theorem dX9_goTo_249 : decode cX9_goTo 249 = .ok (.getfield 72, 3) := by decide +kernel
theorem dX9_goTo_252 : decode cX9_goTo 252 = .ok (.iload 4, 2) := by decide +kernel
theorem dX9_goTo_254 : decode cX9_goTo 254 = .ok (.iaload, 1) := by decide +kernel
theorem dX9_goTo_255 : decode cX9_goTo 255 = .ok (.ifCond .ne 7, 3) := by decide +kernel
theorem dX9_goTo_258 : decode cX9_goTo 258 = .ok (.iconst 0, 1) := by decide +kernel
theorem dX9_goTo_259 : decode cX9_goTo 259 = .ok (.goto 9, 3) := by decide +kernel
theorem dX9_goTo_262 : decode cX9_goTo 262 = .ok (.aload_n 0, 1) := by decide +kernel
theorem dX9_goTo_263 : decode cX9_goTo 263 = .ok (.getfield 118, 3) := by decide +kernel
theorem dX9_goTo_266 : decode cX9_goTo 266 = .ok (.iload_n 3, 1) := by decide +kernel
theorem dX9_goTo_267 : decode cX9_goTo 267 = .ok (.iaload, 1) := by decide +kernel
theorem dX9_goTo_268 : decode cX9_goTo 268 = .ok (.iastore, 1) := by decide +kernel
theorem dX9_goTo_269 : decode cX9_goTo 269 = .ok (.iinc 3 1, 3) := by decide +kernel
theorem dX9_goTo_272 : decode cX9_goTo 272 = .ok (.goto (-248), 3) := by decide +kernel
theorem dX9_goTo_275 : decode cX9_goTo 275 = .ok (.iconst 0, 1) := by decide +kernel
theorem dX9_goTo_276 : decode cX9_goTo 276 = .ok (.istore_n 3, 1) := by decide +kernel
theorem dX9_goTo_277 : decode cX9_goTo 277 = .ok (.iload_n 3, 1) := by decide +kernel
theorem dX9_goTo_278 : decode cX9_goTo 278 = .ok (.bipush 64, 2) := by decide +kernel
theorem dX9_goTo_280 : decode cX9_goTo 280 = .ok (.if_icmp .ge 237, 3) := by decide +kernel
theorem dX9_goTo_283 : decode cX9_goTo 283 = .ok (.bipush 64, 2) := by decide +kernel
theorem dX9_goTo_285 : decode cX9_goTo 285 = .ok (.iload_n 1, 1) := by decide +kernel
theorem dX9_goTo_286 : decode cX9_goTo 286 = .ok (.imul, 1) := by decide +kernel
theorem dX9_goTo_287 : decode cX9_goTo 287 = .ok (.iload_n 3, 1) := by decide +kernel
theorem dX9_goTo_288 : decode cX9_goTo 288 = .ok (.iadd, 1) := by decide +kernel
theorem dX9_goTo_289 : decode cX9_goTo 289 = .ok (.istore 4, 2) := by decide +kernel
theorem dX9_goTo_291 : decode cX9_goTo 291 = .ok (.bipush 11, 2) := by decide +kernel
theorem dX9_goTo_293 : decode cX9_goTo 293 = .ok (.iload_n 3, 1) := by decide +kernel
theorem dX9_goTo_294 : decode cX9_goTo 294 = .ok (.iadd, 1) := by decide +kernel
theorem dX9_goTo_295 : decode cX9_goTo 295 = .ok (.istore 5, 2) := by decide +kernel
theorem dX9_goTo_297 : decode cX9_goTo 297 = .ok (.aload_n 0, 1) := by decide +kernel
theorem dX9_goTo_298 : decode cX9_goTo 298 = .ok (.iload 5, 2) := by decide +kernel
theorem dX9_goTo_300 : decode cX9_goTo 300 = .ok (.iload_n 2, 1) := by decide +kernel
theorem dX9_goTo_301 : decode cX9_goTo 301 = .ok (.ifCond .eq 13, 3) := by decide +kernel
theorem dX9_goTo_304 : decode cX9_goTo 304 = .ok (.aload_n 0, 1) := by decide +kernel
theorem dX9_goTo_305 : decode cX9_goTo 305 = .ok (.getfield 106, 3) := by decide +kernel
theorem dX9_goTo_308 : decode cX9_goTo 308 = .ok (.iload 5, 2) := by decide +kernel
theorem dX9_goTo_310 : decode cX9_goTo 310 = .ok (.iaload, 1) := by decide +kernel
theorem dX9_goTo_311 : decode cX9_goTo 311 = .ok (.goto 10, 3) := by decide +kernel
theorem dX9_goTo_314 : decode cX9_goTo 314 = .ok (.aload_n 0, 1) := by decide +kernel
theorem dX9_goTo_315 : decode cX9_goTo 315 = .ok (.getfield 91, 3) := by decide +kernel
theorem dX9_goTo_318 : decode cX9_goTo 318 = .ok (.iload 4, 2) := by decide +kernel
theorem dX9_goTo_320 : decode cX9_goTo 320 = .ok (.iaload, 1) := by decide +kernel
theorem dX9_goTo_321 : decode cX9_goTo 321 = .ok (.iload_n 2, 1) := by decide +kernel
theorem dX9_goTo_322 : decode cX9_goTo 322 = .ok (.ifCond .eq 13, 3) := by decide +kernel
theorem dX9_goTo_325 : decode cX9_goTo 325 = .ok (.aload_n 0, 1) := by decide +kernel
theorem dX9_goTo_326 : decode cX9_goTo 326 = .ok (.getfield 109, 3) := by decide +kernel
theorem dX9_goTo_329 : decode cX9_goTo 329 = .ok (.iload 5, 2) := by decide +kernel
theorem dX9_goTo_331 : decode cX9_goTo 331 = .ok (.laload, 1) := by decide +kernel
theorem dX9_goTo_332 : decode cX9_goTo 332 = .ok (.goto 10, 3) := by decide +kernel
theorem dX9_goTo_335 : decode cX9_goTo 335 = .ok (.aload_n 0, 1) := by decide +kernel
theorem dX9_goTo_336 : decode cX9_goTo 336 = .ok (.getfield 94, 3) := by decide +kernel
theorem dX9_goTo_339 : decode cX9_goTo 339 = .ok (.iload 4, 2) := by decide +kernel
theorem dX9_goTo_341 : decode cX9_goTo 341 = .ok (.laload, 1) := by decide +kernel
theorem dX9_goTo_342 : decode cX9_goTo 342 = .ok (.iload_n 2, 1) := by decide +kernel
theorem dX9_goTo_343 : decode cX9_goTo 343 = .ok (.ifCond .eq 13, 3) := by decide +kernel
theorem dX9_goTo_346 : decode cX9_goTo 346 = .ok (.aload_n 0, 1) := by decide +kernel
theorem dX9_goTo_347 : decode cX9_goTo 347 = .ok (.getfield 112, 3) := by decide +kernel
theorem dX9_goTo_350 : decode cX9_goTo 350 = .ok (.iload 5, 2) := by decide +kernel
theorem dX9_goTo_352 : decode cX9_goTo 352 = .ok (.laload, 1) := by decide +kernel
theorem dX9_goTo_353 : decode cX9_goTo 353 = .ok (.goto 10, 3) := by decide +kernel
theorem dX9_goTo_356 : decode cX9_goTo 356 = .ok (.aload_n 0, 1) := by decide +kernel
theorem dX9_goTo_357 : decode cX9_goTo 357 = .ok (.getfield 97, 3) := by decide +kernel
theorem dX9_goTo_360 : decode cX9_goTo 360 = .ok (.iload 4, 2) := by decide +kernel
theorem dX9_goTo_362 : decode cX9_goTo 362 = .ok (.laload, 1) := by decide +kernel
theorem dX9_goTo_363 : decode cX9_goTo 363 = .ok (.iload_n 2, 1) := by decide +kernel
theorem dX9_goTo_364 : decode cX9_goTo 364 = .ok (.ifCond .eq 13, 3) := by decide +kernel
theorem dX9_goTo_367 : decode cX9_goTo 367 = .ok (.aload_n 0, 1) := by decide +kernel
theorem dX9_goTo_368 : decode cX9_goTo 368 = .ok (.getfield 115, 3) := by decide +kernel
theorem dX9_goTo_371 : decode cX9_goTo 371 = .ok (.iload 5, 2) := by decide +kernel
theorem dX9_goTo_373 : decode cX9_goTo 373 = .ok (.iaload, 1) := by decide +kernel
theorem dX9_goTo_374 : decode cX9_goTo 374 = .ok (.goto 10, 3) := by decide +kernel
theorem dX9_goTo_377 : decode cX9_goTo 377 = .ok (.aload_n 0, 1) := by decide +kernel
theorem dX9_goTo_378 : decode cX9_goTo 378 = .ok (.getfield 100, 3) := by decide +kernel
theorem dX9_goTo_381 : decode cX9_goTo 381 = .ok (.iload 4, 2) := by decide +kernel
theorem dX9_goTo_383 : decode cX9_goTo 383 = .ok (.iaload, 1) := by decide +kernel
theorem dX9_goTo_384 : decode cX9_goTo 384 = .ok (.iload_n 2, 1) := by decide +kernel
theorem dX9_goTo_385 : decode cX9_goTo 385 = .ok (.ifCond .eq 13, 3) := by decide +kernel
theorem dX9_goTo_388 : decode cX9_goTo 388 = .ok (.aload_n 0, 1) := by decide +kernel
theorem dX9_goTo_389 : decode cX9_goTo 389 = .ok (.getfield 118, 3) := by decide +kernel
theorem dX9_goTo_392 : decode cX9_goTo 392 = .ok (.iload 5, 2) := by decide +kernel
theorem dX9_goTo_394 : decode cX9_goTo 394 = .ok (.iaload, 1) := by decide +kernel
theorem dX9_goTo_395 : decode cX9_goTo 395 = .ok (.goto 10, 3) := by decide +kernel
theorem dX9_goTo_398 : decode cX9_goTo 398 = .ok (.aload_n 0, 1) := by decide +kernel
theorem dX9_goTo_399 : decode cX9_goTo 399 = .ok (.getfield 103, 3) := by decide +kernel
theorem dX9_goTo_402 : decode cX9_goTo 402 = .ok (.iload 4, 2) := by decide +kernel
theorem dX9_goTo_404 : decode cX9_goTo 404 = .ok (.iaload, 1) := by decide +kernel
theorem dX9_goTo_405 : decode cX9_goTo 405 = .ok (.invokevirtual 344, 3) := by decide +kernel
theorem dX9_goTo_408 : decode cX9_goTo 408 = .ok (.aload_n 0, 1) := by decide +kernel
theorem dX9_goTo_409 : decode cX9_goTo 409 = .ok (.getfield 91, 3) := by decide +kernel
theorem dX9_goTo_412 : decode cX9_goTo 412 = .ok (.iload 4, 2) := by decide +kernel
theorem dX9_goTo_414 : decode cX9_goTo 414 = .ok (.iload_n 2, 1) := by decide +kernel
theorem dX9_goTo_415 : decode cX9_goTo 415 = .ok (.ifCond .eq 13, 3) := by decide +kernel
theorem dX9_goTo_418 : decode cX9_goTo 418 = .ok (.aload_n 0, 1) := by decide +kernel
theorem dX9_goTo_419 : decode cX9_goTo 419 = .ok (.getfield 106, 3) := by decide +kernel
theorem dX9_goTo_422 : decode cX9_goTo 422 = .ok (.iload 5, 2) := by decide +kernel
theorem dX9_goTo_424 : decode cX9_goTo 424 = .ok (.iaload, 1) := by decide +kernel
theorem dX9_goTo_425 : decode cX9_goTo 425 = .ok (.goto 7, 3) := by decide +kernel
theorem dX9_goTo_428 : decode cX9_goTo 428 = .ok (.aload_n 0, 1) := by decide +kernel
theorem dX9_goTo_429 : decode cX9_goTo 429 = .ok (.getfield 329, 3) := by decide +kernel
theorem dX9_goTo_432 : decode cX9_goTo 432 = .ok (.iastore, 1) := by decide +kernel
theorem dX9_goTo_433 : decode cX9_goTo 433 = .ok (.aload_n 0, 1) := by decide +kernel
theorem dX9_goTo_434 : decode cX9_goTo 434 = .ok (.getfield 94, 3) := by decide +kernel
theorem dX9_goTo_437 : decode cX9_goTo 437 = .ok (.iload 4, 2) := by decide +kernel
theorem dX9_goTo_439 : decode cX9_goTo 439 = .ok (.iload_n 2, 1) := by decide +kernel
theorem dX9_goTo_440 : decode cX9_goTo 440 = .ok (.ifCond .eq 13, 3) := by decide +kernel
theorem dX9_goTo_443 : decode cX9_goTo 443 = .ok (.aload_n 0, 1) := by decide +kernel
theorem dX9_goTo_444 : decode cX9_goTo 444 = .ok (.getfield 109, 3) := by decide +kernel
theorem dX9_goTo_447 : decode cX9_goTo 447 = .ok (.iload 5, 2) := by decide +kernel
theorem dX9_goTo_449 : decode cX9_goTo 449 = .ok (.laload, 1) := by decide +kernel
theorem dX9_goTo_450 : decode cX9_goTo 450 = .ok (.goto 7, 3) := by decide +kernel
theorem dX9_goTo_453 : decode cX9_goTo 453 = .ok (.aload_n 0, 1) := by decide +kernel
theorem dX9_goTo_454 : decode cX9_goTo 454 = .ok (.getfield 332, 3) := by decide +kernel
theorem dX9_goTo_457 : decode cX9_goTo 457 = .ok (.lastore, 1) := by decide +kernel
theorem dX9_goTo_458 : decode cX9_goTo 458 = .ok (.aload_n 0, 1) := by decide +kernel
theorem dX9_goTo_459 : decode cX9_goTo 459 = .ok (.getfield 97, 3) := by decide +kernel
theorem dX9_goTo_462 : decode cX9_goTo 462 = .ok (.iload 4, 2) := by decide +kernel
theorem dX9_goTo_464 : decode cX9_goTo 464 = .ok (.iload_n 2, 1) := by decide +kernel
theorem dX9_goTo_465 : decode cX9_goTo 465 = .ok (.ifCond .eq 13, 3) := by decide +kernel
theorem dX9_goTo_468 : decode cX9_goTo 468 = .ok (.aload_n 0, 1) := by decide +kernel
theorem dX9_goTo_469 : decode cX9_goTo 469 = .ok (.getfield 112, 3) := by decide +kernel
