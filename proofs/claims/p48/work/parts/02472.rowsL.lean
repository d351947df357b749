theorem dL_law_245 : decode cL_law 245 = .ok (.pop, 1) := by decide +kernel
theorem dL_law_246 : decode cL_law 246 = .ok (.iload 7, 2) := by decide +kernel
theorem dL_law_248 : decode cL_law 248 = .ok (.iconst 5, 1) := by decide +kernel
theorem dL_law_249 : decode cL_law 249 = .ok (.if_icmp .le 21, 3) := by decide +kernel
theorem dL_law_252 : decode cL_law 252 = .ok (.aload_n 3, 1) := by decide +kernel
theorem dL_law_253 : decode cL_law 253 = .ok (.iload 6, 2) := by decide +kernel
theorem dL_law_255 : decode cL_law 255 = .ok (.invokevirtual 73, 3) := by decide +kernel
theorem dL_law_258 : decode cL_law 258 = .ok (.bipush 9, 2) := by decide +kernel
theorem dL_law_260 : decode cL_law 260 = .ok (.if_icmp .le 10, 3) := by decide +kernel
theorem dL_law_263 : decode cL_law 263 = .ok (.aload_n 3, 1) := by decide +kernel
theorem dL_law_264 : decode cL_law 264 = .ok (.iload 6, 2) := by decide +kernel
theorem dL_law_266 : decode cL_law 266 = .ok (.invokevirtual 86, 3) := by decide +kernel
theorem dL_law_269 : decode cL_law 269 = .ok (.pop, 1) := by decide +kernel
theorem dL_law_270 : decode cL_law 270 = .ok (.iinc 5 (-1), 3) := by decide +kernel
theorem dL_law_273 : decode cL_law 273 = .ok (.goto (-177), 3) := by decide +kernel
theorem dL_law_276 : decode cL_law 276 = .ok (.aload_n 3, 1) := by decide +kernel
theorem dL_law_277 : decode cL_law 277 = .ok (.invokevirtual 89, 3) := by decide +kernel
theorem dL_law_280 : decode cL_law 280 = .ok (.lstore 5, 2) := by decide +kernel
theorem dL_law_282 : decode cL_law 282 = .ok (.aload_n 3, 1) := by decide +kernel
theorem dL_law_283 : decode cL_law 283 = .ok (.invokevirtual 93, 3) := by decide +kernel
theorem dL_law_286 : decode cL_law 286 = .ok (.istore 7, 2) := by decide +kernel
theorem dL_law_288 : decode cL_law 288 = .ok (.iconst (-1), 1) := by decide +kernel
theorem dL_law_289 : decode cL_law 289 = .ok (.istore 8, 2) := by decide +kernel
theorem dL_law_291 : decode cL_law 291 = .ok (.iconst 0, 1) := by decide +kernel
theorem dL_law_292 : decode cL_law 292 = .ok (.istore 9, 2) := by decide +kernel
theorem dL_law_294 : decode cL_law 294 = .ok (.iconst 0, 1) := by decide +kernel
theorem dL_law_295 : decode cL_law 295 = .ok (.istore 10, 2) := by decide +kernel
theorem dL_law_297 : decode cL_law 297 = .ok (.bipush 15, 2) := by decide +kernel
theorem dL_law_299 : decode cL_law 299 = .ok (.istore 11, 2) := by decide +kernel
theorem dL_law_301 : decode cL_law 301 = .ok (.iload 11, 2) := by decide +kernel
theorem dL_law_303 : decode cL_law 303 = .ok (.ifCond .lt 121, 3) := by decide +kernel
theorem dL_law_306 : decode cL_law 306 = .ok (.aload_n 3, 1) := by decide +kernel
theorem dL_law_307 : decode cL_law 307 = .ok (.iload 11, 2) := by decide +kernel
theorem dL_law_309 : decode cL_law 309 = .ok (.invokevirtual 97, 3) := by decide +kernel
theorem dL_law_312 : decode cL_law 312 = .ok (.istore 12, 2) := by decide +kernel
theorem dL_law_314 : decode cL_law 314 = .ok (.aload_n 3, 1) := by decide +kernel
theorem dL_law_315 : decode cL_law 315 = .ok (.iload 11, 2) := by decide +kernel
theorem dL_law_317 : decode cL_law 317 = .ok (.invokevirtual 100, 3) := by decide +kernel
theorem dL_law_320 : decode cL_law 320 = .ok (.ifCond .eq 7, 3) := by decide +kernel
theorem dL_law_323 : decode cL_law 323 = .ok (.iload 11, 2) := by decide +kernel
theorem dL_law_325 : decode cL_law 325 = .ok (.istore 8, 2) := by decide +kernel
theorem dL_law_327 : decode cL_law 327 = .ok (.iload 12, 2) := by decide +kernel
theorem dL_law_329 : decode cL_law 329 = .ok (.ifCond .ge 6, 3) := by decide +kernel
theorem dL_law_332 : decode cL_law 332 = .ok (.goto 86, 3) := by decide +kernel
theorem dL_law_335 : decode cL_law 335 = .ok (.aload_n 3, 1) := by decide +kernel
theorem dL_law_336 : decode cL_law 336 = .ok (.iload 11, 2) := by decide +kernel
theorem dL_law_338 : decode cL_law 338 = .ok (.invokevirtual 100, 3) := by decide +kernel
theorem dL_law_341 : decode cL_law 341 = .ok (.ifCond .eq 26, 3) := by decide +kernel
theorem dL_law_344 : decode cL_law 344 = .ok (.iload 12, 2) := by decide +kernel
theorem dL_law_346 : decode cL_law 346 = .ok (.aload_n 3, 1) := by decide +kernel
theorem dL_law_347 : decode cL_law 347 = .ok (.iload 11, 2) := by decide +kernel
theorem dL_law_349 : decode cL_law 349 = .ok (.iconst 1, 1) := by decide +kernel
theorem dL_law_350 : decode cL_law 350 = .ok (.invokevirtual 103, 3) := by decide +kernel
theorem dL_law_353 : decode cL_law 353 = .ok (.if_icmp .ne 14, 3) := by decide +kernel
theorem dL_law_356 : decode cL_law 356 = .ok (.iload 10, 2) := by decide +kernel
theorem dL_law_358 : decode cL_law 358 = .ok (.iload 12, 2) := by decide +kernel
theorem dL_law_360 : decode cL_law 360 = .ok (.ishr, 1) := by decide +kernel
theorem dL_law_361 : decode cL_law 361 = .ok (.iconst 1, 1) := by decide +kernel
theorem dL_law_362 : decode cL_law 362 = .ok (.iand, 1) := by decide +kernel
theorem dL_law_363 : decode cL_law 363 = .ok (.iconst 1, 1) := by decide +kernel
theorem dL_law_364 : decode cL_law 364 = .ok (.if_icmp .ne 5, 3) := by decide +kernel
theorem dL_law_367 : decode cL_law 367 = .ok (.iconst 0, 1) := by decide +kernel
theorem dL_law_368 : decode cL_law 368 = .ok (.ireturn, 1) := by decide +kernel
theorem dL_law_369 : decode cL_law 369 = .ok (.iload 10, 2) := by decide +kernel
theorem dL_law_371 : decode cL_law 371 = .ok (.iconst 1, 1) := by decide +kernel
theorem dL_law_372 : decode cL_law 372 = .ok (.iload 12, 2) := by decide +kernel
theorem dL_law_374 : decode cL_law 374 = .ok (.ishl, 1) := by decide +kernel
theorem dL_law_375 : decode cL_law 375 = .ok (.ior, 1) := by decide +kernel
theorem dL_law_376 : decode cL_law 376 = .ok (.istore 10, 2) := by decide +kernel
theorem dL_law_378 : decode cL_law 378 = .ok (.iinc 9 1, 3) := by decide +kernel
theorem dL_law_381 : decode cL_law 381 = .ok (.iconst 2, 1) := by decide +kernel
theorem dL_law_382 : decode cL_law 382 = .ok (.istore 13, 2) := by decide +kernel
theorem dL_law_384 : decode cL_law 384 = .ok (.iload 13, 2) := by decide +kernel
theorem dL_law_386 : decode cL_law 386 = .ok (.bipush 8, 2) := by decide +kernel
theorem dL_law_388 : decode cL_law 388 = .ok (.if_icmp .ge 30, 3) := by decide +kernel
theorem dL_law_391 : decode cL_law 391 = .ok (.aload_n 3, 1) := by decide +kernel
theorem dL_law_392 : decode cL_law 392 = .ok (.iload 11, 2) := by decide +kernel
theorem dL_law_394 : decode cL_law 394 = .ok (.iload 13, 2) := by decide +kernel
theorem dL_law_396 : decode cL_law 396 = .ok (.invokevirtual 103, 3) := by decide +kernel
theorem dL_law_399 : decode cL_law 399 = .ok (.aload_n 3, 1) := by decide +kernel
theorem dL_law_400 : decode cL_law 400 = .ok (.iload 7, 2) := by decide +kernel
theorem dL_law_402 : decode cL_law 402 = .ok (.iload 13, 2) := by decide +kernel
theorem dL_law_404 : decode cL_law 404 = .ok (.invokevirtual 103, 3) := by decide +kernel
theorem dL_law_407 : decode cL_law 407 = .ok (.if_icmp .eq 5, 3) := by decide +kernel
theorem dL_law_410 : decode cL_law 410 = .ok (.iconst 0, 1) := by decide +kernel
theorem dL_law_411 : decode cL_law 411 = .ok (.ireturn, 1) := by decide +kernel
theorem dL_law_412 : decode cL_law 412 = .ok (.iinc 13 1, 3) := by decide +kernel
theorem dL_law_415 : decode cL_law 415 = .ok (.goto (-31), 3) := by decide +kernel
theorem dL_law_418 : decode cL_law 418 = .ok (.iinc 11 (-1), 3) := by decide +kernel
theorem dL_law_421 : decode cL_law 421 = .ok (.goto (-120), 3) := by decide +kernel
theorem dL_law_424 : decode cL_law 424 = .ok (.iload 7, 2) := by decide +kernel
theorem dL_law_426 : decode cL_law 426 = .ok (.iload 8, 2) := by decide +kernel
theorem dL_law_428 : decode cL_law 428 = .ok (.if_icmp .ne 22, 3) := by decide +kernel
theorem dL_law_431 : decode cL_law 431 = .ok (.iload 9, 2) := by decide +kernel
theorem dL_law_433 : decode cL_law 433 = .ok (.aload_n 3, 1) := by decide +kernel
theorem dL_law_434 : decode cL_law 434 = .ok (.invokevirtual 106, 3) := by decide +kernel
theorem dL_law_437 : decode cL_law 437 = .ok (.if_icmp .ne 13, 3) := by decide +kernel
