theorem dLAW_249 : decode code 249 = .ok (.iload 5, 2) := by decide +kernel
theorem dLAW_251 : decode code 251 = .ok (.ifCond .ne 15, 3) := by decide +kernel
theorem dLAW_254 : decode code 254 = .ok (.aload_n 3, 1) := by decide +kernel
theorem dLAW_255 : decode code 255 = .ok (.iconst 0, 1) := by decide +kernel
theorem dLAW_256 : decode code 256 = .ok (.laload, 1) := by decide +kernel
theorem dLAW_257 : decode code 257 = .ok (.iload 6, 2) := by decide +kernel
theorem dLAW_259 : decode code 259 = .ok (.i2l, 1) := by decide +kernel
theorem dLAW_260 : decode code 260 = .ok (.lcmp, 1) := by decide +kernel
theorem dLAW_261 : decode code 261 = .ok (.ifCond .eq 5, 3) := by decide +kernel
theorem dLAW_264 : decode code 264 = .ok (.iconst 0, 1) := by decide +kernel
theorem dLAW_265 : decode code 265 = .ok (.ireturn, 1) := by decide +kernel
theorem dLAW_266 : decode code 266 = .ok (.goto 795, 3) := by decide +kernel
theorem dLAW_269 : decode code 269 = .ok (.aload_n 1, 1) := by decide +kernel
theorem dLAW_270 : decode code 270 = .ok (.invokevirtual 80, 3) := by decide +kernel
theorem dLAW_273 : decode code 273 = .ok (.aload_n 2, 1) := by decide +kernel
theorem dLAW_274 : decode code 274 = .ok (.invokevirtual 83, 3) := by decide +kernel
theorem dLAW_277 : decode code 277 = .ok (.if_icmp .eq 784, 3) := by decide +kernel
theorem dLAW_280 : decode code 280 = .ok (.iconst 0, 1) := by decide +kernel
theorem dLAW_281 : decode code 281 = .ok (.ireturn, 1) := by decide +kernel
theorem dLAW_282 : decode code 282 = .ok (.aload_n 1, 1) := by decide +kernel
theorem dLAW_283 : decode code 283 = .ok (.aload_n 0, 1) := by decide +kernel
theorem dLAW_284 : decode code 284 = .ok (.iload 4, 2) := by decide +kernel
theorem dLAW_286 : decode code 286 = .ok (.iconst 1, 1) := by decide +kernel
theorem dLAW_287 : decode code 287 = .ok (.iadd, 1) := by decide +kernel
theorem dLAW_288 : decode code 288 = .ok (.iaload, 1) := by decide +kernel
theorem dLAW_289 : decode code 289 = .ok (.aload_n 0, 1) := by decide +kernel
theorem dLAW_290 : decode code 290 = .ok (.iload 4, 2) := by decide +kernel
theorem dLAW_292 : decode code 292 = .ok (.iconst 2, 1) := by decide +kernel
theorem dLAW_293 : decode code 293 = .ok (.iadd, 1) := by decide +kernel
theorem dLAW_294 : decode code 294 = .ok (.iaload, 1) := by decide +kernel
theorem dLAW_295 : decode code 295 = .ok (.aload_n 0, 1) := by decide +kernel
theorem dLAW_296 : decode code 296 = .ok (.iload 4, 2) := by decide +kernel
theorem dLAW_298 : decode code 298 = .ok (.iconst 3, 1) := by decide +kernel
theorem dLAW_299 : decode code 299 = .ok (.iadd, 1) := by decide +kernel
theorem dLAW_300 : decode code 300 = .ok (.iaload, 1) := by decide +kernel
theorem dLAW_301 : decode code 301 = .ok (.ifCond .eq 7, 3) := by decide +kernel
theorem dLAW_304 : decode code 304 = .ok (.iconst 1, 1) := by decide +kernel
theorem dLAW_305 : decode code 305 = .ok (.goto 4, 3) := by decide +kernel
theorem dLAW_308 : decode code 308 = .ok (.iconst 0, 1) := by decide +kernel
theorem dLAW_309 : decode code 309 = .ok (.aload_n 3, 1) := by decide +kernel
theorem dLAW_310 : decode code 310 = .ok (.invokestatic 84, 3) := by decide +kernel
theorem dLAW_313 : decode code 313 = .ok (.istore 5, 2) := by decide +kernel
theorem dLAW_315 : decode code 315 = .ok (.aload_n 2, 1) := by decide +kernel
theorem dLAW_316 : decode code 316 = .ok (.aload_n 0, 1) := by decide +kernel
theorem dLAW_317 : decode code 317 = .ok (.iload 4, 2) := by decide +kernel
theorem dLAW_319 : decode code 319 = .ok (.iconst 1, 1) := by decide +kernel
theorem dLAW_320 : decode code 320 = .ok (.iadd, 1) := by decide +kernel
theorem dLAW_321 : decode code 321 = .ok (.iaload, 1) := by decide +kernel
theorem dLAW_322 : decode code 322 = .ok (.aload_n 0, 1) := by decide +kernel
theorem dLAW_323 : decode code 323 = .ok (.iload 4, 2) := by decide +kernel
theorem dLAW_325 : decode code 325 = .ok (.iconst 2, 1) := by decide +kernel
theorem dLAW_326 : decode code 326 = .ok (.iadd, 1) := by decide +kernel
theorem dLAW_327 : decode code 327 = .ok (.iaload, 1) := by decide +kernel
theorem dLAW_328 : decode code 328 = .ok (.aload_n 0, 1) := by decide +kernel
theorem dLAW_329 : decode code 329 = .ok (.iload 4, 2) := by decide +kernel
theorem dLAW_331 : decode code 331 = .ok (.iconst 3, 1) := by decide +kernel
theorem dLAW_332 : decode code 332 = .ok (.iadd, 1) := by decide +kernel
theorem dLAW_333 : decode code 333 = .ok (.iaload, 1) := by decide +kernel
theorem dLAW_334 : decode code 334 = .ok (.ifCond .eq 7, 3) := by decide +kernel
theorem dLAW_337 : decode code 337 = .ok (.iconst 1, 1) := by decide +kernel
theorem dLAW_338 : decode code 338 = .ok (.goto 4, 3) := by decide +kernel
theorem dLAW_341 : decode code 341 = .ok (.iconst 0, 1) := by decide +kernel
theorem dLAW_342 : decode code 342 = .ok (.invokevirtual 87, 3) := by decide +kernel
theorem dLAW_345 : decode code 345 = .ok (.istore 6, 2) := by decide +kernel
theorem dLAW_347 : decode code 347 = .ok (.aload_n 2, 1) := by decide +kernel
theorem dLAW_348 : decode code 348 = .ok (.invokevirtual 69, 3) := by decide +kernel
theorem dLAW_351 : decode code 351 = .ok (.iload 5, 2) := by decide +kernel
theorem dLAW_353 : decode code 353 = .ok (.if_icmp .eq 5, 3) := by decide +kernel
theorem dLAW_356 : decode code 356 = .ok (.iconst 0, 1) := by decide +kernel
theorem dLAW_357 : decode code 357 = .ok (.ireturn, 1) := by decide +kernel
theorem dLAW_358 : decode code 358 = .ok (.iload 5, 2) := by decide +kernel
theorem dLAW_360 : decode code 360 = .ok (.ifCond .ne 15, 3) := by decide +kernel
theorem dLAW_363 : decode code 363 = .ok (.aload_n 3, 1) := by decide +kernel
theorem dLAW_364 : decode code 364 = .ok (.iconst 0, 1) := by decide +kernel
theorem dLAW_365 : decode code 365 = .ok (.laload, 1) := by decide +kernel
theorem dLAW_366 : decode code 366 = .ok (.iload 6, 2) := by decide +kernel
theorem dLAW_368 : decode code 368 = .ok (.i2l, 1) := by decide +kernel
theorem dLAW_369 : decode code 369 = .ok (.lcmp, 1) := by decide +kernel
theorem dLAW_370 : decode code 370 = .ok (.ifCond .eq 5, 3) := by decide +kernel
theorem dLAW_373 : decode code 373 = .ok (.iconst 0, 1) := by decide +kernel
theorem dLAW_374 : decode code 374 = .ok (.ireturn, 1) := by decide +kernel
theorem dLAW_375 : decode code 375 = .ok (.goto 686, 3) := by decide +kernel
theorem dLAW_378 : decode code 378 = .ok (.aload_n 1, 1) := by decide +kernel
theorem dLAW_379 : decode code 379 = .ok (.aload_n 0, 1) := by decide +kernel
theorem dLAW_380 : decode code 380 = .ok (.iload 4, 2) := by decide +kernel
theorem dLAW_382 : decode code 382 = .ok (.iconst 1, 1) := by decide +kernel
theorem dLAW_383 : decode code 383 = .ok (.iadd, 1) := by decide +kernel
theorem dLAW_384 : decode code 384 = .ok (.iaload, 1) := by decide +kernel
theorem dLAW_385 : decode code 385 = .ok (.aload_n 3, 1) := by decide +kernel
theorem dLAW_386 : decode code 386 = .ok (.invokestatic 88, 3) := by decide +kernel
theorem dLAW_389 : decode code 389 = .ok (.istore 5, 2) := by decide +kernel
theorem dLAW_391 : decode code 391 = .ok (.aload_n 2, 1) := by decide +kernel
theorem dLAW_392 : decode code 392 = .ok (.aload_n 0, 1) := by decide +kernel
theorem dLAW_393 : decode code 393 = .ok (.iload 4, 2) := by decide +kernel
theorem dLAW_395 : decode code 395 = .ok (.iconst 1, 1) := by decide +kernel
theorem dLAW_396 : decode code 396 = .ok (.iadd, 1) := by decide +kernel
theorem dLAW_397 : decode code 397 = .ok (.iaload, 1) := by decide +kernel
theorem dLAW_398 : decode code 398 = .ok (.invokevirtual 91, 3) := by decide +kernel
theorem dLAW_401 : decode code 401 = .ok (.istore 6, 2) := by decide +kernel
theorem dLAW_403 : decode code 403 = .ok (.aload_n 2, 1) := by decide +kernel
theorem dLAW_404 : decode code 404 = .ok (.invokevirtual 69, 3) := by decide +kernel
theorem dLAW_407 : decode code 407 = .ok (.iload 5, 2) := by decide +kernel
theorem dLAW_409 : decode code 409 = .ok (.if_icmp .eq 5, 3) := by decide +kernel
theorem dLAW_412 : decode code 412 = .ok (.iconst 0, 1) := by decide +kernel
theorem dLAW_413 : decode code 413 = .ok (.ireturn, 1) := by decide +kernel
theorem dLAW_414 : decode code 414 = .ok (.iload 5, 2) := by decide +kernel
theorem dLAW_416 : decode code 416 = .ok (.ifCond .ne 15, 3) := by decide +kernel
theorem dLAW_419 : decode code 419 = .ok (.aload_n 3, 1) := by decide +kernel
theorem dLAW_420 : decode code 420 = .ok (.iconst 0, 1) := by decide +kernel
theorem dLAW_421 : decode code 421 = .ok (.laload, 1) := by decide +kernel
