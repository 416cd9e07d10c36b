theorem d_L_law_248 : decode code 248 = .ok (.invokevirtual 84, 3) := by decide +kernel
theorem d_L_law_251 : decode code 251 = .ok (.istore 7, 2) := by decide +kernel
theorem d_L_law_253 : decode code 253 = .ok (.aload_n 2, 1) := by decide +kernel
theorem d_L_law_254 : decode code 254 = .ok (.invokevirtual 78, 3) := by decide +kernel
theorem d_L_law_257 : decode code 257 = .ok (.iload 6, 2) := by decide +kernel
theorem d_L_law_259 : decode code 259 = .ok (.if_icmp .eq 5, 3) := by decide +kernel
theorem d_L_law_262 : decode code 262 = .ok (.iconst 0, 1) := by decide +kernel
theorem d_L_law_263 : decode code 263 = .ok (.ireturn, 1) := by decide +kernel
theorem d_L_law_264 : decode code 264 = .ok (.iload 6, 2) := by decide +kernel
theorem d_L_law_266 : decode code 266 = .ok (.ifCond .ne 15, 3) := by decide +kernel
theorem d_L_law_269 : decode code 269 = .ok (.aload_n 3, 1) := by decide +kernel
theorem d_L_law_270 : decode code 270 = .ok (.iconst 0, 1) := by decide +kernel
theorem d_L_law_271 : decode code 271 = .ok (.laload, 1) := by decide +kernel
theorem d_L_law_272 : decode code 272 = .ok (.iload 7, 2) := by decide +kernel
theorem d_L_law_274 : decode code 274 = .ok (.i2l, 1) := by decide +kernel
theorem d_L_law_275 : decode code 275 = .ok (.lcmp, 1) := by decide +kernel
theorem d_L_law_276 : decode code 276 = .ok (.ifCond .eq 5, 3) := by decide +kernel
theorem d_L_law_279 : decode code 279 = .ok (.iconst 0, 1) := by decide +kernel
theorem d_L_law_280 : decode code 280 = .ok (.ireturn, 1) := by decide +kernel
theorem d_L_law_281 : decode code 281 = .ok (.goto 730, 3) := by decide +kernel
theorem d_L_law_284 : decode code 284 = .ok (.aload_n 1, 1) := by decide +kernel
theorem d_L_law_285 : decode code 285 = .ok (.aload_n 0, 1) := by decide +kernel
theorem d_L_law_286 : decode code 286 = .ok (.iload 5, 2) := by decide +kernel
theorem d_L_law_288 : decode code 288 = .ok (.iconst 1, 1) := by decide +kernel
theorem d_L_law_289 : decode code 289 = .ok (.iadd, 1) := by decide +kernel
theorem d_L_law_290 : decode code 290 = .ok (.iaload, 1) := by decide +kernel
theorem d_L_law_291 : decode code 291 = .ok (.aload_n 3, 1) := by decide +kernel
theorem d_L_law_292 : decode code 292 = .ok (.invokestatic 85, 3) := by decide +kernel
theorem d_L_law_295 : decode code 295 = .ok (.istore 6, 2) := by decide +kernel
theorem d_L_law_297 : decode code 297 = .ok (.aload_n 2, 1) := by decide +kernel
theorem d_L_law_298 : decode code 298 = .ok (.aload_n 0, 1) := by decide +kernel
theorem d_L_law_299 : decode code 299 = .ok (.iload 5, 2) := by decide +kernel
theorem d_L_law_301 : decode code 301 = .ok (.iconst 1, 1) := by decide +kernel
theorem d_L_law_302 : decode code 302 = .ok (.iadd, 1) := by decide +kernel
theorem d_L_law_303 : decode code 303 = .ok (.iaload, 1) := by decide +kernel
theorem d_L_law_304 : decode code 304 = .ok (.invokevirtual 88, 3) := by decide +kernel
theorem d_L_law_307 : decode code 307 = .ok (.istore 7, 2) := by decide +kernel
theorem d_L_law_309 : decode code 309 = .ok (.aload_n 2, 1) := by decide +kernel
theorem d_L_law_310 : decode code 310 = .ok (.invokevirtual 78, 3) := by decide +kernel
theorem d_L_law_313 : decode code 313 = .ok (.iload 6, 2) := by decide +kernel
theorem d_L_law_315 : decode code 315 = .ok (.if_icmp .eq 5, 3) := by decide +kernel
theorem d_L_law_318 : decode code 318 = .ok (.iconst 0, 1) := by decide +kernel
theorem d_L_law_319 : decode code 319 = .ok (.ireturn, 1) := by decide +kernel
theorem d_L_law_320 : decode code 320 = .ok (.iload 6, 2) := by decide +kernel
theorem d_L_law_322 : decode code 322 = .ok (.ifCond .ne 15, 3) := by decide +kernel
theorem d_L_law_325 : decode code 325 = .ok (.aload_n 3, 1) := by decide +kernel
theorem d_L_law_326 : decode code 326 = .ok (.iconst 0, 1) := by decide +kernel
theorem d_L_law_327 : decode code 327 = .ok (.laload, 1) := by decide +kernel
theorem d_L_law_328 : decode code 328 = .ok (.iload 7, 2) := by decide +kernel
theorem d_L_law_330 : decode code 330 = .ok (.i2l, 1) := by decide +kernel
theorem d_L_law_331 : decode code 331 = .ok (.lcmp, 1) := by decide +kernel
theorem d_L_law_332 : decode code 332 = .ok (.ifCond .eq 5, 3) := by decide +kernel
theorem d_L_law_335 : decode code 335 = .ok (.iconst 0, 1) := by decide +kernel
theorem d_L_law_336 : decode code 336 = .ok (.ireturn, 1) := by decide +kernel
theorem d_L_law_337 : decode code 337 = .ok (.goto 674, 3) := by decide +kernel
theorem d_L_law_340 : decode code 340 = .ok (.aload_n 1, 1) := by decide +kernel
theorem d_L_law_341 : decode code 341 = .ok (.aload_n 0, 1) := by decide +kernel
theorem d_L_law_342 : decode code 342 = .ok (.iload 5, 2) := by decide +kernel
theorem d_L_law_344 : decode code 344 = .ok (.iconst 1, 1) := by decide +kernel
theorem d_L_law_345 : decode code 345 = .ok (.iadd, 1) := by decide +kernel
theorem d_L_law_346 : decode code 346 = .ok (.iaload, 1) := by decide +kernel
theorem d_L_law_347 : decode code 347 = .ok (.aload_n 0, 1) := by decide +kernel
theorem d_L_law_348 : decode code 348 = .ok (.iload 5, 2) := by decide +kernel
theorem d_L_law_350 : decode code 350 = .ok (.iconst 2, 1) := by decide +kernel
theorem d_L_law_351 : decode code 351 = .ok (.iadd, 1) := by decide +kernel
theorem d_L_law_352 : decode code 352 = .ok (.iaload, 1) := by decide +kernel
theorem d_L_law_353 : decode code 353 = .ok (.aload_n 0, 1) := by decide +kernel
theorem d_L_law_354 : decode code 354 = .ok (.iload 5, 2) := by decide +kernel
theorem d_L_law_356 : decode code 356 = .ok (.iconst 3, 1) := by decide +kernel
theorem d_L_law_357 : decode code 357 = .ok (.iadd, 1) := by decide +kernel
theorem d_L_law_358 : decode code 358 = .ok (.iaload, 1) := by decide +kernel
theorem d_L_law_359 : decode code 359 = .ok (.ifCond .eq 7, 3) := by decide +kernel
theorem d_L_law_362 : decode code 362 = .ok (.iconst 1, 1) := by decide +kernel
theorem d_L_law_363 : decode code 363 = .ok (.goto 4, 3) := by decide +kernel
theorem d_L_law_366 : decode code 366 = .ok (.iconst 0, 1) := by decide +kernel
theorem d_L_law_367 : decode code 367 = .ok (.aload_n 3, 1) := by decide +kernel
theorem d_L_law_368 : decode code 368 = .ok (.invokestatic 89, 3) := by decide +kernel
theorem d_L_law_371 : decode code 371 = .ok (.istore 6, 2) := by decide +kernel
theorem d_L_law_373 : decode code 373 = .ok (.aload_n 2, 1) := by decide +kernel
theorem d_L_law_374 : decode code 374 = .ok (.aload_n 0, 1) := by decide +kernel
theorem d_L_law_375 : decode code 375 = .ok (.iload 5, 2) := by decide +kernel
theorem d_L_law_377 : decode code 377 = .ok (.iconst 1, 1) := by decide +kernel
theorem d_L_law_378 : decode code 378 = .ok (.iadd, 1) := by decide +kernel
theorem d_L_law_379 : decode code 379 = .ok (.iaload, 1) := by decide +kernel
theorem d_L_law_380 : decode code 380 = .ok (.aload_n 0, 1) := by decide +kernel
theorem d_L_law_381 : decode code 381 = .ok (.iload 5, 2) := by decide +kernel
theorem d_L_law_383 : decode code 383 = .ok (.iconst 2, 1) := by decide +kernel
theorem d_L_law_384 : decode code 384 = .ok (.iadd, 1) := by decide +kernel
theorem d_L_law_385 : decode code 385 = .ok (.iaload, 1) := by decide +kernel
theorem d_L_law_386 : decode code 386 = .ok (.aload_n 0, 1) := by decide +kernel
theorem d_L_law_387 : decode code 387 = .ok (.iload 5, 2) := by decide +kernel
theorem d_L_law_389 : decode code 389 = .ok (.iconst 3, 1) := by decide +kernel
theorem d_L_law_390 : decode code 390 = .ok (.iadd, 1) := by decide +kernel
theorem d_L_law_391 : decode code 391 = .ok (.iaload, 1) := by decide +kernel
theorem d_L_law_392 : decode code 392 = .ok (.ifCond .eq 7, 3) := by decide +kernel
theorem d_L_law_395 : decode code 395 = .ok (.iconst 1, 1) := by decide +kernel
theorem d_L_law_396 : decode code 396 = .ok (.goto 4, 3) := by decide +kernel
theorem d_L_law_399 : decode code 399 = .ok (.iconst 0, 1) := by decide +kernel
theorem d_L_law_400 : decode code 400 = .ok (.invokevirtual 92, 3) := by decide +kernel
theorem d_L_law_403 : decode code 403 = .ok (.istore 7, 2) := by decide +kernel
theorem d_L_law_405 : decode code 405 = .ok (.aload_n 2, 1) := by decide +kernel
theorem d_L_law_406 : decode code 406 = .ok (.invokevirtual 78, 3) := by decide +kernel
theorem d_L_law_409 : decode code 409 = .ok (.iload 6, 2) := by decide +kernel
theorem d_L_law_411 : decode code 411 = .ok (.if_icmp .eq 5, 3) := by decide +kernel
theorem d_L_law_414 : decode code 414 = .ok (.iconst 0, 1) := by decide +kernel
theorem d_L_law_415 : decode code 415 = .ok (.ireturn, 1) := by decide +kernel
theorem d_L_law_416 : decode code 416 = .ok (.iload 6, 2) := by decide +kernel
theorem d_L_law_418 : decode code 418 = .ok (.ifCond .ne 15, 3) := by decide +kernel
theorem d_L_law_421 : decode code 421 = .ok (.aload_n 3, 1) := by decide +kernel
theorem d_L_law_422 : decode code 422 = .ok (.iconst 0, 1) := by decide +kernel
theorem d_L_law_423 : decode code 423 = .ok (.laload, 1) := by decide +kernel
theorem d_L_law_424 : decode code 424 = .ok (.iload 7, 2) := by decide +kernel
theorem d_L_law_426 : decode code 426 = .ok (.i2l, 1) := by decide +kernel
theorem d_L_law_427 : decode code 427 = .ok (.lcmp, 1) := by decide +kernel
theorem d_L_law_428 : decode code 428 = .ok (.ifCond .eq 5, 3) := by decide +kernel
theorem d_L_law_431 : decode code 431 = .ok (.iconst 0, 1) := by decide +kernel
theorem d_L_law_432 : decode code 432 = .ok (.ireturn, 1) := by decide +kernel
theorem d_L_law_433 : decode code 433 = .ok (.goto 578, 3) := by decide +kernel
theorem d_L_law_436 : decode code 436 = .ok (.aload_n 1, 1) := by decide +kernel
theorem d_L_law_437 : decode code 437 = .ok (.aload_n 0, 1) := by decide +kernel
