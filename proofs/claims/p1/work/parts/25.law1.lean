abbrev cL_law : ByteArray := code
theorem dL_law_18 : decode cL_law 18 = .ok (.iload_n 3, 1) := by decide +kernel
theorem dL_law_19 : decode cL_law 19 = .ok (.aload_n 0, 1) := by decide +kernel
theorem dL_law_20 : decode cL_law 20 = .ok (.arraylength, 1) := by decide +kernel
theorem dL_law_21 : decode cL_law 21 = .ok (.bipush 6, 2) := by decide +kernel
theorem dL_law_23 : decode cL_law 23 = .ok (.isub, 1) := by decide +kernel
theorem dL_law_24 : decode cL_law 24 = .ok (.if_icmp .gt 1932, 3) := by decide +kernel
theorem dL_law_244 : decode cL_law 244 = .ok (.aload_n 1, 1) := by decide +kernel
theorem dL_law_245 : decode cL_law 245 = .ok (.aload_n 0, 1) := by decide +kernel
theorem dL_law_246 : decode cL_law 246 = .ok (.iload_n 3, 1) := by decide +kernel
theorem dL_law_247 : decode cL_law 247 = .ok (.iconst 1, 1) := by decide +kernel
theorem dL_law_248 : decode cL_law 248 = .ok (.iadd, 1) := by decide +kernel
theorem dL_law_249 : decode cL_law 249 = .ok (.iaload, 1) := by decide +kernel
theorem dL_law_250 : decode cL_law 250 = .ok (.aload_n 0, 1) := by decide +kernel
theorem dL_law_251 : decode cL_law 251 = .ok (.iload_n 3, 1) := by decide +kernel
theorem dL_law_252 : decode cL_law 252 = .ok (.iconst 2, 1) := by decide +kernel
theorem dL_law_253 : decode cL_law 253 = .ok (.iadd, 1) := by decide +kernel
theorem dL_law_254 : decode cL_law 254 = .ok (.iaload, 1) := by decide +kernel
theorem dL_law_255 : decode cL_law 255 = .ok (.aload_n 0, 1) := by decide +kernel
theorem dL_law_256 : decode cL_law 256 = .ok (.iload_n 3, 1) := by decide +kernel
theorem dL_law_257 : decode cL_law 257 = .ok (.iconst 3, 1) := by decide +kernel
theorem dL_law_258 : decode cL_law 258 = .ok (.iadd, 1) := by decide +kernel
theorem dL_law_259 : decode cL_law 259 = .ok (.iaload, 1) := by decide +kernel
theorem dL_law_260 : decode cL_law 260 = .ok (.aload_n 0, 1) := by decide +kernel
theorem dL_law_261 : decode cL_law 261 = .ok (.iload_n 3, 1) := by decide +kernel
theorem dL_law_262 : decode cL_law 262 = .ok (.iconst 4, 1) := by decide +kernel
theorem dL_law_263 : decode cL_law 263 = .ok (.iadd, 1) := by decide +kernel
theorem dL_law_264 : decode cL_law 264 = .ok (.iaload, 1) := by decide +kernel
theorem dL_law_265 : decode cL_law 265 = .ok (.aload_n 0, 1) := by decide +kernel
theorem dL_law_266 : decode cL_law 266 = .ok (.iload_n 3, 1) := by decide +kernel
theorem dL_law_267 : decode cL_law 267 = .ok (.iconst 5, 1) := by decide +kernel
theorem dL_law_268 : decode cL_law 268 = .ok (.iadd, 1) := by decide +kernel
theorem dL_law_269 : decode cL_law 269 = .ok (.iaload, 1) := by decide +kernel
theorem dL_law_270 : decode cL_law 270 = .ok (.invokevirtual 13, 3) := by decide +kernel
theorem dL_law_273 : decode cL_law 273 = .ok (.aload_n 2, 1) := by decide +kernel
theorem dL_law_274 : decode cL_law 274 = .ok (.aload_n 0, 1) := by decide +kernel
theorem dL_law_275 : decode cL_law 275 = .ok (.iload_n 3, 1) := by decide +kernel
theorem dL_law_276 : decode cL_law 276 = .ok (.iconst 1, 1) := by decide +kernel
theorem dL_law_277 : decode cL_law 277 = .ok (.iadd, 1) := by decide +kernel
theorem dL_law_278 : decode cL_law 278 = .ok (.iaload, 1) := by decide +kernel
theorem dL_law_279 : decode cL_law 279 = .ok (.aload_n 0, 1) := by decide +kernel
theorem dL_law_280 : decode cL_law 280 = .ok (.iload_n 3, 1) := by decide +kernel
theorem dL_law_281 : decode cL_law 281 = .ok (.iconst 2, 1) := by decide +kernel
theorem dL_law_282 : decode cL_law 282 = .ok (.iadd, 1) := by decide +kernel
theorem dL_law_283 : decode cL_law 283 = .ok (.iaload, 1) := by decide +kernel
theorem dL_law_284 : decode cL_law 284 = .ok (.aload_n 0, 1) := by decide +kernel
theorem dL_law_285 : decode cL_law 285 = .ok (.iload_n 3, 1) := by decide +kernel
theorem dL_law_286 : decode cL_law 286 = .ok (.iconst 3, 1) := by decide +kernel
theorem dL_law_287 : decode cL_law 287 = .ok (.iadd, 1) := by decide +kernel
theorem dL_law_288 : decode cL_law 288 = .ok (.iaload, 1) := by decide +kernel
theorem dL_law_289 : decode cL_law 289 = .ok (.aload_n 0, 1) := by decide +kernel
theorem dL_law_290 : decode cL_law 290 = .ok (.iload_n 3, 1) := by decide +kernel
theorem dL_law_291 : decode cL_law 291 = .ok (.iconst 4, 1) := by decide +kernel
theorem dL_law_292 : decode cL_law 292 = .ok (.iadd, 1) := by decide +kernel
theorem dL_law_293 : decode cL_law 293 = .ok (.iaload, 1) := by decide +kernel
theorem dL_law_294 : decode cL_law 294 = .ok (.aload_n 0, 1) := by decide +kernel
theorem dL_law_295 : decode cL_law 295 = .ok (.iload_n 3, 1) := by decide +kernel
theorem dL_law_296 : decode cL_law 296 = .ok (.iconst 5, 1) := by decide +kernel
theorem dL_law_297 : decode cL_law 297 = .ok (.iadd, 1) := by decide +kernel
theorem dL_law_298 : decode cL_law 298 = .ok (.iaload, 1) := by decide +kernel
theorem dL_law_299 : decode cL_law 299 = .ok (.invokevirtual 17, 3) := by decide +kernel
theorem dL_law_302 : decode cL_law 302 = .ok (.if_icmp .eq 1648, 3) := by decide +kernel
theorem dL_law_307 : decode cL_law 307 = .ok (.aload_n 1, 1) := by decide +kernel
theorem dL_law_308 : decode cL_law 308 = .ok (.aload_n 0, 1) := by decide +kernel
theorem dL_law_309 : decode cL_law 309 = .ok (.iload_n 3, 1) := by decide +kernel
theorem dL_law_310 : decode cL_law 310 = .ok (.iconst 1, 1) := by decide +kernel
theorem dL_law_311 : decode cL_law 311 = .ok (.iadd, 1) := by decide +kernel
theorem dL_law_312 : decode cL_law 312 = .ok (.iaload, 1) := by decide +kernel
theorem dL_law_313 : decode cL_law 313 = .ok (.invokevirtual 18, 3) := by decide +kernel
theorem dL_law_316 : decode cL_law 316 = .ok (.aload_n 2, 1) := by decide +kernel
theorem dL_law_317 : decode cL_law 317 = .ok (.aload_n 0, 1) := by decide +kernel
theorem dL_law_318 : decode cL_law 318 = .ok (.iload_n 3, 1) := by decide +kernel
theorem dL_law_319 : decode cL_law 319 = .ok (.iconst 1, 1) := by decide +kernel
theorem dL_law_320 : decode cL_law 320 = .ok (.iadd, 1) := by decide +kernel
theorem dL_law_321 : decode cL_law 321 = .ok (.iaload, 1) := by decide +kernel
theorem dL_law_322 : decode cL_law 322 = .ok (.invokevirtual 22, 3) := by decide +kernel
theorem dL_law_325 : decode cL_law 325 = .ok (.if_icmp .eq 1625, 3) := by decide +kernel
theorem dL_law_330 : decode cL_law 330 = .ok (.aload_n 1, 1) := by decide +kernel
theorem dL_law_331 : decode cL_law 331 = .ok (.invokevirtual 23, 3) := by decide +kernel
theorem dL_law_334 : decode cL_law 334 = .ok (.aload_n 2, 1) := by decide +kernel
theorem dL_law_335 : decode cL_law 335 = .ok (.invokevirtual 27, 3) := by decide +kernel
theorem dL_law_338 : decode cL_law 338 = .ok (.if_icmp .eq 1612, 3) := by decide +kernel
theorem dL_law_343 : decode cL_law 343 = .ok (.aload_n 1, 1) := by decide +kernel
theorem dL_law_344 : decode cL_law 344 = .ok (.aload_n 0, 1) := by decide +kernel
theorem dL_law_345 : decode cL_law 345 = .ok (.iload_n 3, 1) := by decide +kernel
theorem dL_law_346 : decode cL_law 346 = .ok (.iconst 1, 1) := by decide +kernel
theorem dL_law_347 : decode cL_law 347 = .ok (.iadd, 1) := by decide +kernel
theorem dL_law_348 : decode cL_law 348 = .ok (.iaload, 1) := by decide +kernel
theorem dL_law_349 : decode cL_law 349 = .ok (.aload_n 0, 1) := by decide +kernel
theorem dL_law_350 : decode cL_law 350 = .ok (.iload_n 3, 1) := by decide +kernel
theorem dL_law_351 : decode cL_law 351 = .ok (.iconst 2, 1) := by decide +kernel
theorem dL_law_352 : decode cL_law 352 = .ok (.iadd, 1) := by decide +kernel
theorem dL_law_353 : decode cL_law 353 = .ok (.iaload, 1) := by decide +kernel
theorem dL_law_354 : decode cL_law 354 = .ok (.aload_n 0, 1) := by decide +kernel
theorem dL_law_355 : decode cL_law 355 = .ok (.iload_n 3, 1) := by decide +kernel
theorem dL_law_356 : decode cL_law 356 = .ok (.iconst 3, 1) := by decide +kernel
theorem dL_law_357 : decode cL_law 357 = .ok (.iadd, 1) := by decide +kernel
theorem dL_law_358 : decode cL_law 358 = .ok (.iaload, 1) := by decide +kernel
theorem dL_law_359 : decode cL_law 359 = .ok (.invokevirtual 28, 3) := by decide +kernel
theorem dL_law_362 : decode cL_law 362 = .ok (.aload_n 2, 1) := by decide +kernel
theorem dL_law_363 : decode cL_law 363 = .ok (.aload_n 0, 1) := by decide +kernel
theorem dL_law_364 : decode cL_law 364 = .ok (.iload_n 3, 1) := by decide +kernel
theorem dL_law_365 : decode cL_law 365 = .ok (.iconst 1, 1) := by decide +kernel
theorem dL_law_366 : decode cL_law 366 = .ok (.iadd, 1) := by decide +kernel
theorem dL_law_367 : decode cL_law 367 = .ok (.iaload, 1) := by decide +kernel
theorem dL_law_368 : decode cL_law 368 = .ok (.aload_n 0, 1) := by decide +kernel
theorem dL_law_369 : decode cL_law 369 = .ok (.iload_n 3, 1) := by decide +kernel
theorem dL_law_370 : decode cL_law 370 = .ok (.iconst 2, 1) := by decide +kernel
theorem dL_law_371 : decode cL_law 371 = .ok (.iadd, 1) := by decide +kernel
theorem dL_law_372 : decode cL_law 372 = .ok (.iaload, 1) := by decide +kernel
theorem dL_law_373 : decode cL_law 373 = .ok (.aload_n 0, 1) := by decide +kernel
theorem dL_law_374 : decode cL_law 374 = .ok (.iload_n 3, 1) := by decide +kernel
theorem dL_law_375 : decode cL_law 375 = .ok (.iconst 3, 1) := by decide +kernel
theorem dL_law_376 : decode cL_law 376 = .ok (.iadd, 1) := by decide +kernel
theorem dL_law_377 : decode cL_law 377 = .ok (.iaload, 1) := by decide +kernel
theorem dL_law_378 : decode cL_law 378 = .ok (.invokevirtual 32, 3) := by decide +kernel
theorem dL_law_381 : decode cL_law 381 = .ok (.if_icmp .eq 1569, 3) := by decide +kernel
theorem dL_law_386 : decode cL_law 386 = .ok (.aload_n 1, 1) := by decide +kernel
theorem dL_law_387 : decode cL_law 387 = .ok (.aload_n 0, 1) := by decide +kernel
theorem dL_law_388 : decode cL_law 388 = .ok (.iload_n 3, 1) := by decide +kernel
theorem dL_law_389 : decode cL_law 389 = .ok (.iconst 1, 1) := by decide +kernel
theorem dL_law_390 : decode cL_law 390 = .ok (.iadd, 1) := by decide +kernel
theorem dL_law_391 : decode cL_law 391 = .ok (.iaload, 1) := by decide +kernel
theorem dL_law_392 : decode cL_law 392 = .ok (.aload_n 0, 1) := by decide +kernel
theorem dL_law_393 : decode cL_law 393 = .ok (.iload_n 3, 1) := by decide +kernel
theorem dL_law_394 : decode cL_law 394 = .ok (.iconst 2, 1) := by decide +kernel
theorem dL_law_395 : decode cL_law 395 = .ok (.iadd, 1) := by decide +kernel
theorem dL_law_396 : decode cL_law 396 = .ok (.iaload, 1) := by decide +kernel
theorem dL_law_397 : decode cL_law 397 = .ok (.invokevirtual 33, 3) := by decide +kernel
theorem dL_law_400 : decode cL_law 400 = .ok (.aload_n 2, 1) := by decide +kernel
theorem dL_law_401 : decode cL_law 401 = .ok (.aload_n 0, 1) := by decide +kernel
theorem dL_law_402 : decode cL_law 402 = .ok (.iload_n 3, 1) := by decide +kernel
theorem dL_law_403 : decode cL_law 403 = .ok (.iconst 1, 1) := by decide +kernel
theorem dL_law_404 : decode cL_law 404 = .ok (.iadd, 1) := by decide +kernel
theorem dL_law_405 : decode cL_law 405 = .ok (.iaload, 1) := by decide +kernel
theorem dL_law_406 : decode cL_law 406 = .ok (.aload_n 0, 1) := by decide +kernel
theorem dL_law_407 : decode cL_law 407 = .ok (.iload_n 3, 1) := by decide +kernel
theorem dL_law_408 : decode cL_law 408 = .ok (.iconst 2, 1) := by decide +kernel
theorem dL_law_409 : decode cL_law 409 = .ok (.iadd, 1) := by decide +kernel
theorem dL_law_410 : decode cL_law 410 = .ok (.iaload, 1) := by decide +kernel
theorem dL_law_411 : decode cL_law 411 = .ok (.invokevirtual 37, 3) := by decide +kernel
theorem dL_law_414 : decode cL_law 414 = .ok (.if_icmp .eq 1536, 3) := by decide +kernel
theorem dL_law_419 : decode cL_law 419 = .ok (.aload_n 1, 1) := by decide +kernel
theorem dL_law_420 : decode cL_law 420 = .ok (.aload_n 0, 1) := by decide +kernel
theorem dL_law_421 : decode cL_law 421 = .ok (.iload_n 3, 1) := by decide +kernel
theorem dL_law_422 : decode cL_law 422 = .ok (.iconst 1, 1) := by decide +kernel
theorem dL_law_423 : decode cL_law 423 = .ok (.iadd, 1) := by decide +kernel
theorem dL_law_424 : decode cL_law 424 = .ok (.iaload, 1) := by decide +kernel
theorem dL_law_425 : decode cL_law 425 = .ok (.aload_n 0, 1) := by decide +kernel
theorem dL_law_426 : decode cL_law 426 = .ok (.iload_n 3, 1) := by decide +kernel
theorem dL_law_427 : decode cL_law 427 = .ok (.iconst 2, 1) := by decide +kernel
theorem dL_law_428 : decode cL_law 428 = .ok (.iadd, 1) := by decide +kernel
theorem dL_law_429 : decode cL_law 429 = .ok (.iaload, 1) := by decide +kernel
theorem dL_law_430 : decode cL_law 430 = .ok (.aload_n 0, 1) := by decide +kernel
theorem dL_law_431 : decode cL_law 431 = .ok (.iload_n 3, 1) := by decide +kernel
theorem dL_law_432 : decode cL_law 432 = .ok (.iconst 3, 1) := by decide +kernel
theorem dL_law_433 : decode cL_law 433 = .ok (.iadd, 1) := by decide +kernel
theorem dL_law_434 : decode cL_law 434 = .ok (.iaload, 1) := by decide +kernel
theorem dL_law_435 : decode cL_law 435 = .ok (.invokevirtual 38, 3) := by decide +kernel
theorem dL_law_438 : decode cL_law 438 = .ok (.aload_n 2, 1) := by decide +kernel
theorem dL_law_439 : decode cL_law 439 = .ok (.aload_n 0, 1) := by decide +kernel
theorem dL_law_440 : decode cL_law 440 = .ok (.iload_n 3, 1) := by decide +kernel
theorem dL_law_441 : decode cL_law 441 = .ok (.iconst 1, 1) := by decide +kernel
theorem dL_law_442 : decode cL_law 442 = .ok (.iadd, 1) := by decide +kernel
theorem dL_law_443 : decode cL_law 443 = .ok (.iaload, 1) := by decide +kernel
theorem dL_law_444 : decode cL_law 444 = .ok (.aload_n 0, 1) := by decide +kernel
theorem dL_law_445 : decode cL_law 445 = .ok (.iload_n 3, 1) := by decide +kernel
theorem dL_law_446 : decode cL_law 446 = .ok (.iconst 2, 1) := by decide +kernel
theorem dL_law_447 : decode cL_law 447 = .ok (.iadd, 1) := by decide +kernel
theorem dL_law_448 : decode cL_law 448 = .ok (.iaload, 1) := by decide +kernel
theorem dL_law_449 : decode cL_law 449 = .ok (.aload_n 0, 1) := by decide +kernel
theorem dL_law_450 : decode cL_law 450 = .ok (.iload_n 3, 1) := by decide +kernel
theorem dL_law_451 : decode cL_law 451 = .ok (.iconst 3, 1) := by decide +kernel
theorem dL_law_452 : decode cL_law 452 = .ok (.iadd, 1) := by decide +kernel
theorem dL_law_453 : decode cL_law 453 = .ok (.iaload, 1) := by decide +kernel
theorem dL_law_454 : decode cL_law 454 = .ok (.invokevirtual 41, 3) := by decide +kernel
theorem dL_law_457 : decode cL_law 457 = .ok (.if_icmp .eq 1493, 3) := by decide +kernel
theorem dL_law_462 : decode cL_law 462 = .ok (.aload_n 1, 1) := by decide +kernel
theorem dL_law_463 : decode cL_law 463 = .ok (.aload_n 0, 1) := by decide +kernel
theorem dL_law_464 : decode cL_law 464 = .ok (.iload_n 3, 1) := by decide +kernel
theorem dL_law_465 : decode cL_law 465 = .ok (.iconst 1, 1) := by decide +kernel
theorem dL_law_466 : decode cL_law 466 = .ok (.iadd, 1) := by decide +kernel
theorem dL_law_467 : decode cL_law 467 = .ok (.iaload, 1) := by decide +kernel
theorem dL_law_468 : decode cL_law 468 = .ok (.aload_n 0, 1) := by decide +kernel
theorem dL_law_469 : decode cL_law 469 = .ok (.iload_n 3, 1) := by decide +kernel
theorem dL_law_470 : decode cL_law 470 = .ok (.iconst 2, 1) := by decide +kernel
theorem dL_law_471 : decode cL_law 471 = .ok (.iadd, 1) := by decide +kernel
theorem dL_law_472 : decode cL_law 472 = .ok (.iaload, 1) := by decide +kernel
theorem dL_law_473 : decode cL_law 473 = .ok (.aload_n 0, 1) := by decide +kernel
theorem dL_law_474 : decode cL_law 474 = .ok (.iload_n 3, 1) := by decide +kernel
theorem dL_law_475 : decode cL_law 475 = .ok (.iconst 3, 1) := by decide +kernel
theorem dL_law_476 : decode cL_law 476 = .ok (.iadd, 1) := by decide +kernel
theorem dL_law_477 : decode cL_law 477 = .ok (.iaload, 1) := by decide +kernel
theorem dL_law_478 : decode cL_law 478 = .ok (.invokevirtual 42, 3) := by decide +kernel
theorem dL_law_481 : decode cL_law 481 = .ok (.aload_n 2, 1) := by decide +kernel
theorem dL_law_482 : decode cL_law 482 = .ok (.aload_n 0, 1) := by decide +kernel
theorem dL_law_483 : decode cL_law 483 = .ok (.iload_n 3, 1) := by decide +kernel
theorem dL_law_484 : decode cL_law 484 = .ok (.iconst 1, 1) := by decide +kernel
theorem dL_law_485 : decode cL_law 485 = .ok (.iadd, 1) := by decide +kernel
theorem dL_law_486 : decode cL_law 486 = .ok (.iaload, 1) := by decide +kernel
theorem dL_law_487 : decode cL_law 487 = .ok (.aload_n 0, 1) := by decide +kernel
theorem dL_law_488 : decode cL_law 488 = .ok (.iload_n 3, 1) := by decide +kernel
theorem dL_law_489 : decode cL_law 489 = .ok (.iconst 2, 1) := by decide +kernel
theorem dL_law_490 : decode cL_law 490 = .ok (.iadd, 1) := by decide +kernel
theorem dL_law_491 : decode cL_law 491 = .ok (.iaload, 1) := by decide +kernel
theorem dL_law_492 : decode cL_law 492 = .ok (.aload_n 0, 1) := by decide +kernel
theorem dL_law_493 : decode cL_law 493 = .ok (.iload_n 3, 1) := by decide +kernel
theorem dL_law_494 : decode cL_law 494 = .ok (.iconst 3, 1) := by decide +kernel
theorem dL_law_495 : decode cL_law 495 = .ok (.iadd, 1) := by decide +kernel
theorem dL_law_496 : decode cL_law 496 = .ok (.iaload, 1) := by decide +kernel
theorem dL_law_497 : decode cL_law 497 = .ok (.invokevirtual 45, 3) := by decide +kernel
theorem dL_law_500 : decode cL_law 500 = .ok (.if_icmp .eq 1450, 3) := by decide +kernel
theorem dL_law_505 : decode cL_law 505 = .ok (.aload_n 1, 1) := by decide +kernel
theorem dL_law_506 : decode cL_law 506 = .ok (.aload_n 0, 1) := by decide +kernel
theorem dL_law_507 : decode cL_law 507 = .ok (.iload_n 3, 1) := by decide +kernel
theorem dL_law_508 : decode cL_law 508 = .ok (.iconst 1, 1) := by decide +kernel
theorem dL_law_509 : decode cL_law 509 = .ok (.iadd, 1) := by decide +kernel
theorem dL_law_510 : decode cL_law 510 = .ok (.iaload, 1) := by decide +kernel
theorem dL_law_511 : decode cL_law 511 = .ok (.aload_n 0, 1) := by decide +kernel
theorem dL_law_512 : decode cL_law 512 = .ok (.iload_n 3, 1) := by decide +kernel
theorem dL_law_513 : decode cL_law 513 = .ok (.iconst 2, 1) := by decide +kernel
theorem dL_law_514 : decode cL_law 514 = .ok (.iadd, 1) := by decide +kernel
theorem dL_law_515 : decode cL_law 515 = .ok (.iaload, 1) := by decide +kernel
theorem dL_law_516 : decode cL_law 516 = .ok (.aload_n 0, 1) := by decide +kernel
theorem dL_law_517 : decode cL_law 517 = .ok (.iload_n 3, 1) := by decide +kernel
theorem dL_law_518 : decode cL_law 518 = .ok (.iconst 3, 1) := by decide +kernel
theorem dL_law_519 : decode cL_law 519 = .ok (.iadd, 1) := by decide +kernel
theorem dL_law_520 : decode cL_law 520 = .ok (.iaload, 1) := by decide +kernel
theorem dL_law_521 : decode cL_law 521 = .ok (.invokevirtual 46, 3) := by decide +kernel
theorem dL_law_524 : decode cL_law 524 = .ok (.aload_n 2, 1) := by decide +kernel
theorem dL_law_525 : decode cL_law 525 = .ok (.aload_n 0, 1) := by decide +kernel
theorem dL_law_526 : decode cL_law 526 = .ok (.iload_n 3, 1) := by decide +kernel
theorem dL_law_527 : decode cL_law 527 = .ok (.iconst 1, 1) := by decide +kernel
theorem dL_law_528 : decode cL_law 528 = .ok (.iadd, 1) := by decide +kernel
theorem dL_law_529 : decode cL_law 529 = .ok (.iaload, 1) := by decide +kernel
theorem dL_law_530 : decode cL_law 530 = .ok (.aload_n 0, 1) := by decide +kernel
theorem dL_law_531 : decode cL_law 531 = .ok (.iload_n 3, 1) := by decide +kernel
theorem dL_law_532 : decode cL_law 532 = .ok (.iconst 2, 1) := by decide +kernel
theorem dL_law_533 : decode cL_law 533 = .ok (.iadd, 1) := by decide +kernel
theorem dL_law_534 : decode cL_law 534 = .ok (.iaload, 1) := by decide +kernel
theorem dL_law_535 : decode cL_law 535 = .ok (.aload_n 0, 1) := by decide +kernel
theorem dL_law_536 : decode cL_law 536 = .ok (.iload_n 3, 1) := by decide +kernel
theorem dL_law_537 : decode cL_law 537 = .ok (.iconst 3, 1) := by decide +kernel
theorem dL_law_538 : decode cL_law 538 = .ok (.iadd, 1) := by decide +kernel
theorem dL_law_539 : decode cL_law 539 = .ok (.iaload, 1) := by decide +kernel
theorem dL_law_540 : decode cL_law 540 = .ok (.invokevirtual 49, 3) := by decide +kernel
theorem dL_law_543 : decode cL_law 543 = .ok (.if_icmp .eq 1407, 3) := by decide +kernel
theorem dL_law_548 : decode cL_law 548 = .ok (.aload_n 1, 1) := by decide +kernel
theorem dL_law_549 : decode cL_law 549 = .ok (.aload_n 0, 1) := by decide +kernel
theorem dL_law_550 : decode cL_law 550 = .ok (.iload_n 3, 1) := by decide +kernel
theorem dL_law_551 : decode cL_law 551 = .ok (.iconst 1, 1) := by decide +kernel
theorem dL_law_552 : decode cL_law 552 = .ok (.iadd, 1) := by decide +kernel
theorem dL_law_553 : decode cL_law 553 = .ok (.iaload, 1) := by decide +kernel
theorem dL_law_554 : decode cL_law 554 = .ok (.invokevirtual 50, 3) := by decide +kernel
theorem dL_law_557 : decode cL_law 557 = .ok (.aload_n 2, 1) := by decide +kernel
theorem dL_law_558 : decode cL_law 558 = .ok (.aload_n 0, 1) := by decide +kernel
theorem dL_law_559 : decode cL_law 559 = .ok (.iload_n 3, 1) := by decide +kernel
theorem dL_law_560 : decode cL_law 560 = .ok (.iconst 1, 1) := by decide +kernel
theorem dL_law_561 : decode cL_law 561 = .ok (.iadd, 1) := by decide +kernel
theorem dL_law_562 : decode cL_law 562 = .ok (.iaload, 1) := by decide +kernel
theorem dL_law_563 : decode cL_law 563 = .ok (.invokevirtual 53, 3) := by decide +kernel
theorem dL_law_566 : decode cL_law 566 = .ok (.if_icmp .eq 1384, 3) := by decide +kernel
theorem dL_law_571 : decode cL_law 571 = .ok (.aload_n 1, 1) := by decide +kernel
theorem dL_law_572 : decode cL_law 572 = .ok (.aload_n 0, 1) := by decide +kernel
theorem dL_law_573 : decode cL_law 573 = .ok (.iload_n 3, 1) := by decide +kernel
theorem dL_law_574 : decode cL_law 574 = .ok (.iconst 1, 1) := by decide +kernel
theorem dL_law_575 : decode cL_law 575 = .ok (.iadd, 1) := by decide +kernel
theorem dL_law_576 : decode cL_law 576 = .ok (.iaload, 1) := by decide +kernel
theorem dL_law_577 : decode cL_law 577 = .ok (.invokevirtual 54, 3) := by decide +kernel
theorem dL_law_580 : decode cL_law 580 = .ok (.aload_n 2, 1) := by decide +kernel
theorem dL_law_581 : decode cL_law 581 = .ok (.aload_n 0, 1) := by decide +kernel
theorem dL_law_582 : decode cL_law 582 = .ok (.iload_n 3, 1) := by decide +kernel
theorem dL_law_583 : decode cL_law 583 = .ok (.iconst 1, 1) := by decide +kernel
theorem dL_law_584 : decode cL_law 584 = .ok (.iadd, 1) := by decide +kernel
theorem dL_law_585 : decode cL_law 585 = .ok (.iaload, 1) := by decide +kernel
theorem dL_law_586 : decode cL_law 586 = .ok (.invokevirtual 57, 3) := by decide +kernel
theorem dL_law_589 : decode cL_law 589 = .ok (.if_icmp .eq 1361, 3) := by decide +kernel
theorem dL_law_594 : decode cL_law 594 = .ok (.aload_n 1, 1) := by decide +kernel
theorem dL_law_595 : decode cL_law 595 = .ok (.aload_n 0, 1) := by decide +kernel
theorem dL_law_596 : decode cL_law 596 = .ok (.iload_n 3, 1) := by decide +kernel
theorem dL_law_597 : decode cL_law 597 = .ok (.iconst 1, 1) := by decide +kernel
theorem dL_law_598 : decode cL_law 598 = .ok (.iadd, 1) := by decide +kernel
theorem dL_law_599 : decode cL_law 599 = .ok (.iaload, 1) := by decide +kernel
theorem dL_law_600 : decode cL_law 600 = .ok (.aload_n 0, 1) := by decide +kernel
theorem dL_law_601 : decode cL_law 601 = .ok (.iload_n 3, 1) := by decide +kernel
theorem dL_law_602 : decode cL_law 602 = .ok (.iconst 2, 1) := by decide +kernel
theorem dL_law_603 : decode cL_law 603 = .ok (.iadd, 1) := by decide +kernel
theorem dL_law_604 : decode cL_law 604 = .ok (.iaload, 1) := by decide +kernel
theorem dL_law_605 : decode cL_law 605 = .ok (.aload_n 0, 1) := by decide +kernel
theorem dL_law_606 : decode cL_law 606 = .ok (.iload_n 3, 1) := by decide +kernel
theorem dL_law_607 : decode cL_law 607 = .ok (.iconst 3, 1) := by decide +kernel
theorem dL_law_608 : decode cL_law 608 = .ok (.iadd, 1) := by decide +kernel
theorem dL_law_609 : decode cL_law 609 = .ok (.iaload, 1) := by decide +kernel
theorem dL_law_610 : decode cL_law 610 = .ok (.aload_n 0, 1) := by decide +kernel
theorem dL_law_611 : decode cL_law 611 = .ok (.iload_n 3, 1) := by decide +kernel
theorem dL_law_612 : decode cL_law 612 = .ok (.iconst 4, 1) := by decide +kernel
theorem dL_law_613 : decode cL_law 613 = .ok (.iadd, 1) := by decide +kernel
theorem dL_law_614 : decode cL_law 614 = .ok (.iaload, 1) := by decide +kernel
theorem dL_law_615 : decode cL_law 615 = .ok (.aload_n 0, 1) := by decide +kernel
theorem dL_law_616 : decode cL_law 616 = .ok (.iload_n 3, 1) := by decide +kernel
theorem dL_law_617 : decode cL_law 617 = .ok (.iconst 5, 1) := by decide +kernel
theorem dL_law_618 : decode cL_law 618 = .ok (.iadd, 1) := by decide +kernel
theorem dL_law_619 : decode cL_law 619 = .ok (.iaload, 1) := by decide +kernel
theorem dL_law_620 : decode cL_law 620 = .ok (.invokevirtual 58, 3) := by decide +kernel
theorem dL_law_623 : decode cL_law 623 = .ok (.aload_n 2, 1) := by decide +kernel
theorem dL_law_624 : decode cL_law 624 = .ok (.aload_n 0, 1) := by decide +kernel
theorem dL_law_625 : decode cL_law 625 = .ok (.iload_n 3, 1) := by decide +kernel
theorem dL_law_626 : decode cL_law 626 = .ok (.iconst 1, 1) := by decide +kernel
theorem dL_law_627 : decode cL_law 627 = .ok (.iadd, 1) := by decide +kernel
theorem dL_law_628 : decode cL_law 628 = .ok (.iaload, 1) := by decide +kernel
theorem dL_law_629 : decode cL_law 629 = .ok (.aload_n 0, 1) := by decide +kernel
theorem dL_law_630 : decode cL_law 630 = .ok (.iload_n 3, 1) := by decide +kernel
theorem dL_law_631 : decode cL_law 631 = .ok (.iconst 2, 1) := by decide +kernel
theorem dL_law_632 : decode cL_law 632 = .ok (.iadd, 1) := by decide +kernel
theorem dL_law_633 : decode cL_law 633 = .ok (.iaload, 1) := by decide +kernel
theorem dL_law_634 : decode cL_law 634 = .ok (.aload_n 0, 1) := by decide +kernel
theorem dL_law_635 : decode cL_law 635 = .ok (.iload_n 3, 1) := by decide +kernel
theorem dL_law_636 : decode cL_law 636 = .ok (.iconst 3, 1) := by decide +kernel
theorem dL_law_637 : decode cL_law 637 = .ok (.iadd, 1) := by decide +kernel
theorem dL_law_638 : decode cL_law 638 = .ok (.iaload, 1) := by decide +kernel
theorem dL_law_639 : decode cL_law 639 = .ok (.aload_n 0, 1) := by decide +kernel
theorem dL_law_640 : decode cL_law 640 = .ok (.iload_n 3, 1) := by decide +kernel
theorem dL_law_641 : decode cL_law 641 = .ok (.iconst 4, 1) := by decide +kernel
theorem dL_law_642 : decode cL_law 642 = .ok (.iadd, 1) := by decide +kernel
theorem dL_law_643 : decode cL_law 643 = .ok (.iaload, 1) := by decide +kernel
theorem dL_law_644 : decode cL_law 644 = .ok (.aload_n 0, 1) := by decide +kernel
theorem dL_law_645 : decode cL_law 645 = .ok (.iload_n 3, 1) := by decide +kernel
theorem dL_law_646 : decode cL_law 646 = .ok (.iconst 5, 1) := by decide +kernel
theorem dL_law_647 : decode cL_law 647 = .ok (.iadd, 1) := by decide +kernel
theorem dL_law_648 : decode cL_law 648 = .ok (.iaload, 1) := by decide +kernel
theorem dL_law_649 : decode cL_law 649 = .ok (.invokevirtual 61, 3) := by decide +kernel
theorem dL_law_652 : decode cL_law 652 = .ok (.if_icmp .eq 1298, 3) := by decide +kernel
theorem dL_law_1950 : decode cL_law 1950 = .ok (.iinc 3 6, 3) := by decide +kernel
theorem dL_law_1953 : decode cL_law 1953 = .ok (.goto (-1935), 3) := by decide +kernel
theorem dL_law_1956 : decode cL_law 1956 = .ok (.iconst 1, 1) := by decide +kernel
theorem dL_law_1957 : decode cL_law 1957 = .ok (.ireturn, 1) := by decide +kernel
set_option maxRecDepth 100000 in
theorem pq386 : Cond.methodLink RL 13 yX6_feed ∈ pw := pw_mem (i := 386) (by decide +kernel) rfl
set_option maxRecDepth 100000 in
theorem pq387 : Cond.instanceMethod yX6_feed ∈ pw := pw_mem (i := 387) (by decide +kernel) rfl
set_option maxRecDepth 100000 in
theorem pq388 : Cond.selects RX6 yX6_feed yX6_feed ∈ pw := pw_mem (i := 388) (by decide +kernel) rfl
set_option maxRecDepth 100000 in
theorem pq389 : Cond.code yX6_feed cX6_feed 6 (some .int) ∈ pw := pw_mem (i := 389) (by rfl) rfl
set_option maxRecDepth 100000 in
theorem pq394 : Cond.methodLink RL 18 yX6_end ∈ pw := pw_mem (i := 394) (by decide +kernel) rfl
set_option maxRecDepth 100000 in
theorem pq395 : Cond.instanceMethod yX6_end ∈ pw := pw_mem (i := 395) (by decide +kernel) rfl
set_option maxRecDepth 100000 in
theorem pq396 : Cond.selects RX6 yX6_end yX6_end ∈ pw := pw_mem (i := 396) (by decide +kernel) rfl
set_option maxRecDepth 100000 in
theorem pq397 : Cond.code yX6_end cX6_end 2 (some .int) ∈ pw := pw_mem (i := 397) (by rfl) rfl
set_option maxRecDepth 100000 in
theorem pq398 : Cond.methodLink RL 23 yX6_tell ∈ pw := pw_mem (i := 398) (by decide +kernel) rfl
set_option maxRecDepth 100000 in
theorem pq399 : Cond.instanceMethod yX6_tell ∈ pw := pw_mem (i := 399) (by decide +kernel) rfl
set_option maxRecDepth 100000 in
theorem pq400 : Cond.selects RX6 yX6_tell yX6_tell ∈ pw := pw_mem (i := 400) (by decide +kernel) rfl
set_option maxRecDepth 100000 in
theorem pq401 : Cond.code yX6_tell cX6_tell 2 (some .int) ∈ pw := pw_mem (i := 401) (by rfl) rfl
set_option maxRecDepth 100000 in
theorem pq632 : Cond.methodLink RL 28 yX6_place ∈ pw := pw_mem (i := 632) (by decide +kernel) rfl
set_option maxRecDepth 100000 in
theorem pq633 : Cond.instanceMethod yX6_place ∈ pw := pw_mem (i := 633) (by decide +kernel) rfl
set_option maxRecDepth 100000 in
theorem pq634 : Cond.selects RX6 yX6_place yX6_place ∈ pw := pw_mem (i := 634) (by decide +kernel) rfl
set_option maxRecDepth 100000 in
theorem pq635 : Cond.code yX6_place cX6_place 5 (some .int) ∈ pw := pw_mem (i := 635) (by rfl) rfl
set_option maxRecDepth 100000 in
theorem pq647 : Cond.methodLink RL 33 yX6_flip ∈ pw := pw_mem (i := 647) (by decide +kernel) rfl
set_option maxRecDepth 100000 in
theorem pq648 : Cond.instanceMethod yX6_flip ∈ pw := pw_mem (i := 648) (by decide +kernel) rfl
set_option maxRecDepth 100000 in
theorem pq649 : Cond.selects RX6 yX6_flip yX6_flip ∈ pw := pw_mem (i := 649) (by decide +kernel) rfl
set_option maxRecDepth 100000 in
theorem pq650 : Cond.code yX6_flip cX6_flip 5 (some .int) ∈ pw := pw_mem (i := 650) (by rfl) rfl
set_option maxRecDepth 100000 in
theorem pq654 : Cond.methodLink RL 38 yX6_layers ∈ pw := pw_mem (i := 654) (by decide +kernel) rfl
set_option maxRecDepth 100000 in
theorem pq655 : Cond.instanceMethod yX6_layers ∈ pw := pw_mem (i := 655) (by decide +kernel) rfl
set_option maxRecDepth 100000 in
theorem pq656 : Cond.selects RX6 yX6_layers yX6_layers ∈ pw := pw_mem (i := 656) (by decide +kernel) rfl
set_option maxRecDepth 100000 in
theorem pq657 : Cond.code yX6_layers cX6_layers 5 (some .int) ∈ pw := pw_mem (i := 657) (by rfl) rfl
set_option maxRecDepth 100000 in
theorem pq658 : Cond.methodLink RL 42 yX6_speed ∈ pw := pw_mem (i := 658) (by decide +kernel) rfl
set_option maxRecDepth 100000 in
theorem pq659 : Cond.instanceMethod yX6_speed ∈ pw := pw_mem (i := 659) (by decide +kernel) rfl
set_option maxRecDepth 100000 in
theorem pq660 : Cond.selects RX6 yX6_speed yX6_speed ∈ pw := pw_mem (i := 660) (by decide +kernel) rfl
set_option maxRecDepth 100000 in
theorem pq661 : Cond.code yX6_speed cX6_speed 5 (some .int) ∈ pw := pw_mem (i := 661) (by rfl) rfl
set_option maxRecDepth 100000 in
theorem pq662 : Cond.methodLink RL 46 yX6_turn ∈ pw := pw_mem (i := 662) (by decide +kernel) rfl
set_option maxRecDepth 100000 in
theorem pq663 : Cond.instanceMethod yX6_turn ∈ pw := pw_mem (i := 663) (by decide +kernel) rfl
set_option maxRecDepth 100000 in
theorem pq664 : Cond.selects RX6 yX6_turn yX6_turn ∈ pw := pw_mem (i := 664) (by decide +kernel) rfl
set_option maxRecDepth 100000 in
theorem pq665 : Cond.code yX6_turn cX6_turn 5 (some .int) ∈ pw := pw_mem (i := 665) (by rfl) rfl
set_option maxRecDepth 100000 in
theorem pq677 : Cond.methodLink RL 50 yX6_grow ∈ pw := pw_mem (i := 677) (by decide +kernel) rfl
set_option maxRecDepth 100000 in
theorem pq678 : Cond.instanceMethod yX6_grow ∈ pw := pw_mem (i := 678) (by decide +kernel) rfl
set_option maxRecDepth 100000 in
theorem pq679 : Cond.selects RX6 yX6_grow yX6_grow ∈ pw := pw_mem (i := 679) (by decide +kernel) rfl
set_option maxRecDepth 100000 in
theorem pq680 : Cond.code yX6_grow cX6_grow 3 (some .int) ∈ pw := pw_mem (i := 680) (by rfl) rfl
set_option maxRecDepth 100000 in
theorem pq692 : Cond.methodLink RL 54 yX6_thin ∈ pw := pw_mem (i := 692) (by decide +kernel) rfl
set_option maxRecDepth 100000 in
theorem pq693 : Cond.instanceMethod yX6_thin ∈ pw := pw_mem (i := 693) (by decide +kernel) rfl
set_option maxRecDepth 100000 in
theorem pq694 : Cond.selects RX6 yX6_thin yX6_thin ∈ pw := pw_mem (i := 694) (by decide +kernel) rfl
set_option maxRecDepth 100000 in
theorem pq695 : Cond.code yX6_thin cX6_thin 3 (some .int) ∈ pw := pw_mem (i := 695) (by rfl) rfl
set_option maxRecDepth 100000 in
theorem pq700 : Cond.methodLink RL 58 yX6_join ∈ pw := pw_mem (i := 700) (by decide +kernel) rfl
set_option maxRecDepth 100000 in
theorem pq701 : Cond.instanceMethod yX6_join ∈ pw := pw_mem (i := 701) (by decide +kernel) rfl
set_option maxRecDepth 100000 in
theorem pq702 : Cond.selects RX6 yX6_join yX6_join ∈ pw := pw_mem (i := 702) (by decide +kernel) rfl
set_option maxRecDepth 100000 in
theorem pq703 : Cond.code yX6_join cX6_join 6 (some .int) ∈ pw := pw_mem (i := 703) (by rfl) rfl
set_option maxRecDepth 100000 in
theorem pq1195 : Cond.methodLink RL 17 yX7_feed ∈ pw := pw_mem (i := 1195) (by decide +kernel) rfl
set_option maxRecDepth 100000 in
theorem pq1196 : Cond.instanceMethod yX7_feed ∈ pw := pw_mem (i := 1196) (by decide +kernel) rfl
set_option maxRecDepth 100000 in
theorem pq1197 : Cond.selects RX7 yX7_feed yX7_feed ∈ pw := pw_mem (i := 1197) (by decide +kernel) rfl
set_option maxRecDepth 100000 in
theorem pq1198 : Cond.code yX7_feed cX7_feed 6 (some .int) ∈ pw := pw_mem (i := 1198) (by rfl) rfl
set_option maxRecDepth 100000 in
theorem pq1203 : Cond.methodLink RL 22 yX7_end ∈ pw := pw_mem (i := 1203) (by decide +kernel) rfl
set_option maxRecDepth 100000 in
theorem pq1204 : Cond.instanceMethod yX7_end ∈ pw := pw_mem (i := 1204) (by decide +kernel) rfl
set_option maxRecDepth 100000 in
theorem pq1205 : Cond.selects RX7 yX7_end yX7_end ∈ pw := pw_mem (i := 1205) (by decide +kernel) rfl
set_option maxRecDepth 100000 in
theorem pq1206 : Cond.code yX7_end cX7_end 2 (some .int) ∈ pw := pw_mem (i := 1206) (by rfl) rfl
set_option maxRecDepth 100000 in
theorem pq1207 : Cond.methodLink RL 27 yX7_tell ∈ pw := pw_mem (i := 1207) (by decide +kernel) rfl
set_option maxRecDepth 100000 in
theorem pq1208 : Cond.instanceMethod yX7_tell ∈ pw := pw_mem (i := 1208) (by decide +kernel) rfl
set_option maxRecDepth 100000 in
theorem pq1209 : Cond.selects RX7 yX7_tell yX7_tell ∈ pw := pw_mem (i := 1209) (by decide +kernel) rfl
set_option maxRecDepth 100000 in
theorem pq1210 : Cond.code yX7_tell cX7_tell 2 (some .int) ∈ pw := pw_mem (i := 1210) (by rfl) rfl
set_option maxRecDepth 100000 in
theorem pq1306 : Cond.methodLink RL 32 yX7_place ∈ pw := pw_mem (i := 1306) (by decide +kernel) rfl
set_option maxRecDepth 100000 in
theorem pq1307 : Cond.instanceMethod yX7_place ∈ pw := pw_mem (i := 1307) (by decide +kernel) rfl
set_option maxRecDepth 100000 in
theorem pq1308 : Cond.selects RX7 yX7_place yX7_place ∈ pw := pw_mem (i := 1308) (by decide +kernel) rfl
set_option maxRecDepth 100000 in
theorem pq1309 : Cond.code yX7_place cX7_place 4 (some .int) ∈ pw := pw_mem (i := 1309) (by rfl) rfl
set_option maxRecDepth 100000 in
theorem pq1340 : Cond.methodLink RL 37 yX7_flip ∈ pw := pw_mem (i := 1340) (by decide +kernel) rfl
set_option maxRecDepth 100000 in
theorem pq1341 : Cond.instanceMethod yX7_flip ∈ pw := pw_mem (i := 1341) (by decide +kernel) rfl
set_option maxRecDepth 100000 in
theorem pq1342 : Cond.selects RX7 yX7_flip yX7_flip ∈ pw := pw_mem (i := 1342) (by decide +kernel) rfl
set_option maxRecDepth 100000 in
theorem pq1343 : Cond.code yX7_flip cX7_flip 4 (some .int) ∈ pw := pw_mem (i := 1343) (by rfl) rfl
set_option maxRecDepth 100000 in
theorem pq1345 : Cond.methodLink RL 41 yX7_layers ∈ pw := pw_mem (i := 1345) (by decide +kernel) rfl
set_option maxRecDepth 100000 in
theorem pq1346 : Cond.instanceMethod yX7_layers ∈ pw := pw_mem (i := 1346) (by decide +kernel) rfl
set_option maxRecDepth 100000 in
theorem pq1347 : Cond.selects RX7 yX7_layers yX7_layers ∈ pw := pw_mem (i := 1347) (by decide +kernel) rfl
set_option maxRecDepth 100000 in
theorem pq1348 : Cond.code yX7_layers cX7_layers 4 (some .int) ∈ pw := pw_mem (i := 1348) (by rfl) rfl
set_option maxRecDepth 100000 in
theorem pq1354 : Cond.methodLink RL 45 yX7_speed ∈ pw := pw_mem (i := 1354) (by decide +kernel) rfl
set_option maxRecDepth 100000 in
theorem pq1355 : Cond.instanceMethod yX7_speed ∈ pw := pw_mem (i := 1355) (by decide +kernel) rfl
set_option maxRecDepth 100000 in
theorem pq1356 : Cond.selects RX7 yX7_speed yX7_speed ∈ pw := pw_mem (i := 1356) (by decide +kernel) rfl
set_option maxRecDepth 100000 in
theorem pq1357 : Cond.code yX7_speed cX7_speed 4 (some .int) ∈ pw := pw_mem (i := 1357) (by rfl) rfl
set_option maxRecDepth 100000 in
theorem pq1360 : Cond.methodLink RL 49 yX7_turn ∈ pw := pw_mem (i := 1360) (by decide +kernel) rfl
set_option maxRecDepth 100000 in
theorem pq1361 : Cond.instanceMethod yX7_turn ∈ pw := pw_mem (i := 1361) (by decide +kernel) rfl
set_option maxRecDepth 100000 in
theorem pq1362 : Cond.selects RX7 yX7_turn yX7_turn ∈ pw := pw_mem (i := 1362) (by decide +kernel) rfl
set_option maxRecDepth 100000 in
theorem pq1363 : Cond.code yX7_turn cX7_turn 4 (some .int) ∈ pw := pw_mem (i := 1363) (by rfl) rfl
set_option maxRecDepth 100000 in
theorem pq1383 : Cond.methodLink RL 53 yX7_grow ∈ pw := pw_mem (i := 1383) (by decide +kernel) rfl
set_option maxRecDepth 100000 in
theorem pq1384 : Cond.instanceMethod yX7_grow ∈ pw := pw_mem (i := 1384) (by decide +kernel) rfl
set_option maxRecDepth 100000 in
theorem pq1385 : Cond.selects RX7 yX7_grow yX7_grow ∈ pw := pw_mem (i := 1385) (by decide +kernel) rfl
set_option maxRecDepth 100000 in
theorem pq1386 : Cond.code yX7_grow cX7_grow 2 (some .int) ∈ pw := pw_mem (i := 1386) (by rfl) rfl
set_option maxRecDepth 100000 in
theorem pq1403 : Cond.methodLink RL 57 yX7_thin ∈ pw := pw_mem (i := 1403) (by decide +kernel) rfl
set_option maxRecDepth 100000 in
theorem pq1404 : Cond.instanceMethod yX7_thin ∈ pw := pw_mem (i := 1404) (by decide +kernel) rfl
set_option maxRecDepth 100000 in
theorem pq1405 : Cond.selects RX7 yX7_thin yX7_thin ∈ pw := pw_mem (i := 1405) (by decide +kernel) rfl
set_option maxRecDepth 100000 in
theorem pq1406 : Cond.code yX7_thin cX7_thin 2 (some .int) ∈ pw := pw_mem (i := 1406) (by rfl) rfl
set_option maxRecDepth 100000 in
theorem pq1407 : Cond.methodLink RL 61 yX7_join ∈ pw := pw_mem (i := 1407) (by decide +kernel) rfl
set_option maxRecDepth 100000 in
theorem pq1408 : Cond.instanceMethod yX7_join ∈ pw := pw_mem (i := 1408) (by decide +kernel) rfl
set_option maxRecDepth 100000 in
theorem pq1409 : Cond.selects RX7 yX7_join yX7_join ∈ pw := pw_mem (i := 1409) (by decide +kernel) rfl
set_option maxRecDepth 100000 in
theorem pq1410 : Cond.code yX7_join cX7_join 11 (some .int) ∈ pw := pw_mem (i := 1410) (by rfl) rfl
set_option maxRecDepth 100000 in
theorem sw49 (x : Int32) : x = 0 ∨ x = 1 ∨ x = 2 ∨ x = 3 ∨ x = 4 ∨ x = 5 ∨ x = 6 ∨ x = 7 ∨ x = 8 ∨ x = 9 ∨ x = 10 ∨ x = 11 ∨ x = 12 ∨ x = 13 ∨ x = 14 ∨ x = 15 ∨ x = 16 ∨ x = 17 ∨ x = 18 ∨ x = 19 ∨ x = 20 ∨ x = 21 ∨ x = 22 ∨ x = 23 ∨ x = 24 ∨ x = 25 ∨ x = 26 ∨ x = 27 ∨ x = 28 ∨ x = 29 ∨ x = 30 ∨ x = 31 ∨ x = 32 ∨ x = 33 ∨ x = 34 ∨ x = 35 ∨ x = 36 ∨ x = 37 ∨ x = 38 ∨ x = 39 ∨ x = 40 ∨ x = 41 ∨ x = 42 ∨ x = 43 ∨ x = 44 ∨ x = 45 ∨ x = 46 ∨ x = 47 ∨ x = 48 ∨ (x.toInt < 0 ∨ 48 < x.toInt) := by
  by_cases h : x.toInt < 0 ∨ 48 < x.toInt
  · simp [h]
  · have h0 : ¬ x < 0 := by rw [Int32.lt_iff_toInt_lt, show (0 : Int32).toInt = 0 from by decide +kernel]; omega
    have h1 : x ≤ 48 := by rw [Int32.le_iff_toInt_le, show (48 : Int32).toInt = 48 from by decide +kernel]; omega
    obtain ⟨j, hj, rfl⟩ := nI_of2 (M := 48) (n := 48) (by decide +kernel) h0 h1
    have key : ∀ j : Fin 49, (nI j.1 = 0 ∨ nI j.1 = 1 ∨ nI j.1 = 2 ∨ nI j.1 = 3 ∨ nI j.1 = 4 ∨ nI j.1 = 5 ∨ nI j.1 = 6 ∨ nI j.1 = 7 ∨ nI j.1 = 8 ∨ nI j.1 = 9 ∨ nI j.1 = 10 ∨ nI j.1 = 11 ∨ nI j.1 = 12 ∨ nI j.1 = 13 ∨ nI j.1 = 14 ∨ nI j.1 = 15 ∨ nI j.1 = 16 ∨ nI j.1 = 17 ∨ nI j.1 = 18 ∨ nI j.1 = 19 ∨ nI j.1 = 20 ∨ nI j.1 = 21 ∨ nI j.1 = 22 ∨ nI j.1 = 23 ∨ nI j.1 = 24 ∨ nI j.1 = 25 ∨ nI j.1 = 26 ∨ nI j.1 = 27 ∨ nI j.1 = 28 ∨ nI j.1 = 29 ∨ nI j.1 = 30 ∨ nI j.1 = 31 ∨ nI j.1 = 32 ∨ nI j.1 = 33 ∨ nI j.1 = 34 ∨ nI j.1 = 35 ∨ nI j.1 = 36 ∨ nI j.1 = 37 ∨ nI j.1 = 38 ∨ nI j.1 = 39 ∨ nI j.1 = 40 ∨ nI j.1 = 41 ∨ nI j.1 = 42 ∨ nI j.1 = 43 ∨ nI j.1 = 44 ∨ nI j.1 = 45 ∨ nI j.1 = 46 ∨ nI j.1 = 47 ∨ nI j.1 = 48) := by decide +kernel
    rcases Nat.lt_or_ge j 49 with q | q
    · have := key ⟨j, q⟩
      simp only [] at this
      rcases this with h2 | h2 | h2 | h2 | h2 | h2 | h2 | h2 | h2 | h2 | h2 | h2 | h2 | h2 | h2 | h2 | h2 | h2 | h2 | h2 | h2 | h2 | h2 | h2 | h2 | h2 | h2 | h2 | h2 | h2 | h2 | h2 | h2 | h2 | h2 | h2 | h2 | h2 | h2 | h2 | h2 | h2 | h2 | h2 | h2 | h2 | h2 | h2 | h2
      · exact Or.inl h2
      · exact Or.inr (Or.inl h2)
      · exact Or.inr (Or.inr (Or.inl h2))
      · exact Or.inr (Or.inr (Or.inr (Or.inl h2)))
      · exact Or.inr (Or.inr (Or.inr (Or.inr (Or.inl h2))))
      · exact Or.inr (Or.inr (Or.inr (Or.inr (Or.inr (Or.inl h2)))))
      · exact Or.inr (Or.inr (Or.inr (Or.inr (Or.inr (Or.inr (Or.inl h2))))))
      · exact Or.inr (Or.inr (Or.inr (Or.inr (Or.inr (Or.inr (Or.inr (Or.inl h2)))))))
      · exact Or.inr (Or.inr (Or.inr (Or.inr (Or.inr (Or.inr (Or.inr (Or.inr (Or.inl h2))))))))
      · exact Or.inr (Or.inr (Or.inr (Or.inr (Or.inr (Or.inr (Or.inr (Or.inr (Or.inr (Or.inl h2)))))))))
      · exact Or.inr (Or.inr (Or.inr (Or.inr (Or.inr (Or.inr (Or.inr (Or.inr (Or.inr (Or.inr (Or.inl h2))))))))))
      · exact Or.inr (Or.inr (Or.inr (Or.inr (Or.inr (Or.inr (Or.inr (Or.inr (Or.inr (Or.inr (Or.inr (Or.inl h2)))))))))))
      · exact Or.inr (Or.inr (Or.inr (Or.inr (Or.inr (Or.inr (Or.inr (Or.inr (Or.inr (Or.inr (Or.inr (Or.inr (Or.inl h2))))))))))))
      · exact Or.inr (Or.inr (Or.inr (Or.inr (Or.inr (Or.inr (Or.inr (Or.inr (Or.inr (Or.inr (Or.inr (Or.inr (Or.inr (Or.inl h2)))))))))))))
      · exact Or.inr (Or.inr (Or.inr (Or.inr (Or.inr (Or.inr (Or.inr (Or.inr (Or.inr (Or.inr (Or.inr (Or.inr (Or.inr (Or.inr (Or.inl h2))))))))))))))
      · exact Or.inr (Or.inr (Or.inr (Or.inr (Or.inr (Or.inr (Or.inr (Or.inr (Or.inr (Or.inr (Or.inr (Or.inr (Or.inr (Or.inr (Or.inr (Or.inl h2)))))))))))))))
      · exact Or.inr (Or.inr (Or.inr (Or.inr (Or.inr (Or.inr (Or.inr (Or.inr (Or.inr (Or.inr (Or.inr (Or.inr (Or.inr (Or.inr (Or.inr (Or.inr (Or.inl h2))))))))))))))))
      · exact Or.inr (Or.inr (Or.inr (Or.inr (Or.inr (Or.inr (Or.inr (Or.inr (Or.inr (Or.inr (Or.inr (Or.inr (Or.inr (Or.inr (Or.inr (Or.inr (Or.inr (Or.inl h2)))))))))))))))))
      · exact Or.inr (Or.inr (Or.inr (Or.inr (Or.inr (Or.inr (Or.inr (Or.inr (Or.inr (Or.inr (Or.inr (Or.inr (Or.inr (Or.inr (Or.inr (Or.inr (Or.inr (Or.inr (Or.inl h2))))))))))))))))))
      · exact Or.inr (Or.inr (Or.inr (Or.inr (Or.inr (Or.inr (Or.inr (Or.inr (Or.inr (Or.inr (Or.inr (Or.inr (Or.inr (Or.inr (Or.inr (Or.inr (Or.inr (Or.inr (Or.inr (Or.inl h2)))))))))))))))))))
      · exact Or.inr (Or.inr (Or.inr (Or.inr (Or.inr (Or.inr (Or.inr (Or.inr (Or.inr (Or.inr (Or.inr (Or.inr (Or.inr (Or.inr (Or.inr (Or.inr (Or.inr (Or.inr (Or.inr (Or.inr (Or.inl h2))))))))))))))))))))
      · exact Or.inr (Or.inr (Or.inr (Or.inr (Or.inr (Or.inr (Or.inr (Or.inr (Or.inr (Or.inr (Or.inr (Or.inr (Or.inr (Or.inr (Or.inr (Or.inr (Or.inr (Or.inr (Or.inr (Or.inr (Or.inr (Or.inl h2)))))))))))))))))))))
      · exact Or.inr (Or.inr (Or.inr (Or.inr (Or.inr (Or.inr (Or.inr (Or.inr (Or.inr (Or.inr (Or.inr (Or.inr (Or.inr (Or.inr (Or.inr (Or.inr (Or.inr (Or.inr (Or.inr (Or.inr (Or.inr (Or.inr (Or.inl h2))))))))))))))))))))))
      · exact Or.inr (Or.inr (Or.inr (Or.inr (Or.inr (Or.inr (Or.inr (Or.inr (Or.inr (Or.inr (Or.inr (Or.inr (Or.inr (Or.inr (Or.inr (Or.inr (Or.inr (Or.inr (Or.inr (Or.inr (Or.inr (Or.inr (Or.inr (Or.inl h2)))))))))))))))))))))))
      · exact Or.inr (Or.inr (Or.inr (Or.inr (Or.inr (Or.inr (Or.inr (Or.inr (Or.inr (Or.inr (Or.inr (Or.inr (Or.inr (Or.inr (Or.inr (Or.inr (Or.inr (Or.inr (Or.inr (Or.inr (Or.inr (Or.inr (Or.inr (Or.inr (Or.inl h2))))))))))))))))))))))))
      · exact Or.inr (Or.inr (Or.inr (Or.inr (Or.inr (Or.inr (Or.inr (Or.inr (Or.inr (Or.inr (Or.inr (Or.inr (Or.inr (Or.inr (Or.inr (Or.inr (Or.inr (Or.inr (Or.inr (Or.inr (Or.inr (Or.inr (Or.inr (Or.inr (Or.inr (Or.inl h2)))))))))))))))))))))))))
      · exact Or.inr (Or.inr (Or.inr (Or.inr (Or.inr (Or.inr (Or.inr (Or.inr (Or.inr (Or.inr (Or.inr (Or.inr (Or.inr (Or.inr (Or.inr (Or.inr (Or.inr (Or.inr (Or.inr (Or.inr (Or.inr (Or.inr (Or.inr (Or.inr (Or.inr (Or.inr (Or.inl h2))))))))))))))))))))))))))
      · exact Or.inr (Or.inr (Or.inr (Or.inr (Or.inr (Or.inr (Or.inr (Or.inr (Or.inr (Or.inr (Or.inr (Or.inr (Or.inr (Or.inr (Or.inr (Or.inr (Or.inr (Or.inr (Or.inr (Or.inr (Or.inr (Or.inr (Or.inr (Or.inr (Or.inr (Or.inr (Or.inr (Or.inl h2)))))))))))))))))))))))))))
      · exact Or.inr (Or.inr (Or.inr (Or.inr (Or.inr (Or.inr (Or.inr (Or.inr (Or.inr (Or.inr (Or.inr (Or.inr (Or.inr (Or.inr (Or.inr (Or.inr (Or.inr (Or.inr (Or.inr (Or.inr (Or.inr (Or.inr (Or.inr (Or.inr (Or.inr (Or.inr (Or.inr (Or.inr (Or.inl h2))))))))))))))))))))))))))))
      · exact Or.inr (Or.inr (Or.inr (Or.inr (Or.inr (Or.inr (Or.inr (Or.inr (Or.inr (Or.inr (Or.inr (Or.inr (Or.inr (Or.inr (Or.inr (Or.inr (Or.inr (Or.inr (Or.inr (Or.inr (Or.inr (Or.inr (Or.inr (Or.inr (Or.inr (Or.inr (Or.inr (Or.inr (Or.inr (Or.inl h2)))))))))))))))))))))))))))))
      · exact Or.inr (Or.inr (Or.inr (Or.inr (Or.inr (Or.inr (Or.inr (Or.inr (Or.inr (Or.inr (Or.inr (Or.inr (Or.inr (Or.inr (Or.inr (Or.inr (Or.inr (Or.inr (Or.inr (Or.inr (Or.inr (Or.inr (Or.inr (Or.inr (Or.inr (Or.inr (Or.inr (Or.inr (Or.inr (Or.inr (Or.inl h2))))))))))))))))))))))))))))))
      · exact Or.inr (Or.inr (Or.inr (Or.inr (Or.inr (Or.inr (Or.inr (Or.inr (Or.inr (Or.inr (Or.inr (Or.inr (Or.inr (Or.inr (Or.inr (Or.inr (Or.inr (Or.inr (Or.inr (Or.inr (Or.inr (Or.inr (Or.inr (Or.inr (Or.inr (Or.inr (Or.inr (Or.inr (Or.inr (Or.inr (Or.inr (Or.inl h2)))))))))))))))))))))))))))))))
      · exact Or.inr (Or.inr (Or.inr (Or.inr (Or.inr (Or.inr (Or.inr (Or.inr (Or.inr (Or.inr (Or.inr (Or.inr (Or.inr (Or.inr (Or.inr (Or.inr (Or.inr (Or.inr (Or.inr (Or.inr (Or.inr (Or.inr (Or.inr (Or.inr (Or.inr (Or.inr (Or.inr (Or.inr (Or.inr (Or.inr (Or.inr (Or.inr (Or.inl h2))))))))))))))))))))))))))))))))
      · exact Or.inr (Or.inr (Or.inr (Or.inr (Or.inr (Or.inr (Or.inr (Or.inr (Or.inr (Or.inr (Or.inr (Or.inr (Or.inr (Or.inr (Or.inr (Or.inr (Or.inr (Or.inr (Or.inr (Or.inr (Or.inr (Or.inr (Or.inr (Or.inr (Or.inr (Or.inr (Or.inr (Or.inr (Or.inr (Or.inr (Or.inr (Or.inr (Or.inr (Or.inl h2)))))))))))))))))))))))))))))))))
      · exact Or.inr (Or.inr (Or.inr (Or.inr (Or.inr (Or.inr (Or.inr (Or.inr (Or.inr (Or.inr (Or.inr (Or.inr (Or.inr (Or.inr (Or.inr (Or.inr (Or.inr (Or.inr (Or.inr (Or.inr (Or.inr (Or.inr (Or.inr (Or.inr (Or.inr (Or.inr (Or.inr (Or.inr (Or.inr (Or.inr (Or.inr (Or.inr (Or.inr (Or.inr (Or.inl h2))))))))))))))))))))))))))))))))))
      · exact Or.inr (Or.inr (Or.inr (Or.inr (Or.inr (Or.inr (Or.inr (Or.inr (Or.inr (Or.inr (Or.inr (Or.inr (Or.inr (Or.inr (Or.inr (Or.inr (Or.inr (Or.inr (Or.inr (Or.inr (Or.inr (Or.inr (Or.inr (Or.inr (Or.inr (Or.inr (Or.inr (Or.inr (Or.inr (Or.inr (Or.inr (Or.inr (Or.inr (Or.inr (Or.inr (Or.inl h2)))))))))))))))))))))))))))))))))))
      · exact Or.inr (Or.inr (Or.inr (Or.inr (Or.inr (Or.inr (Or.inr (Or.inr (Or.inr (Or.inr (Or.inr (Or.inr (Or.inr (Or.inr (Or.inr (Or.inr (Or.inr (Or.inr (Or.inr (Or.inr (Or.inr (Or.inr (Or.inr (Or.inr (Or.inr (Or.inr (Or.inr (Or.inr (Or.inr (Or.inr (Or.inr (Or.inr (Or.inr (Or.inr (Or.inr (Or.inr (Or.inl h2))))))))))))))))))))))))))))))))))))
      · exact Or.inr (Or.inr (Or.inr (Or.inr (Or.inr (Or.inr (Or.inr (Or.inr (Or.inr (Or.inr (Or.inr (Or.inr (Or.inr (Or.inr (Or.inr (Or.inr (Or.inr (Or.inr (Or.inr (Or.inr (Or.inr (Or.inr (Or.inr (Or.inr (Or.inr (Or.inr (Or.inr (Or.inr (Or.inr (Or.inr (Or.inr (Or.inr (Or.inr (Or.inr (Or.inr (Or.inr (Or.inr (Or.inl h2)))))))))))))))))))))))))))))))))))))
      · exact Or.inr (Or.inr (Or.inr (Or.inr (Or.inr (Or.inr (Or.inr (Or.inr (Or.inr (Or.inr (Or.inr (Or.inr (Or.inr (Or.inr (Or.inr (Or.inr (Or.inr (Or.inr (Or.inr (Or.inr (Or.inr (Or.inr (Or.inr (Or.inr (Or.inr (Or.inr (Or.inr (Or.inr (Or.inr (Or.inr (Or.inr (Or.inr (Or.inr (Or.inr (Or.inr (Or.inr (Or.inr (Or.inr (Or.inl h2))))))))))))))))))))))))))))))))))))))
      · exact Or.inr (Or.inr (Or.inr (Or.inr (Or.inr (Or.inr (Or.inr (Or.inr (Or.inr (Or.inr (Or.inr (Or.inr (Or.inr (Or.inr (Or.inr (Or.inr (Or.inr (Or.inr (Or.inr (Or.inr (Or.inr (Or.inr (Or.inr (Or.inr (Or.inr (Or.inr (Or.inr (Or.inr (Or.inr (Or.inr (Or.inr (Or.inr (Or.inr (Or.inr (Or.inr (Or.inr (Or.inr (Or.inr (Or.inr (Or.inl h2)))))))))))))))))))))))))))))))))))))))
      · exact Or.inr (Or.inr (Or.inr (Or.inr (Or.inr (Or.inr (Or.inr (Or.inr (Or.inr (Or.inr (Or.inr (Or.inr (Or.inr (Or.inr (Or.inr (Or.inr (Or.inr (Or.inr (Or.inr (Or.inr (Or.inr (Or.inr (Or.inr (Or.inr (Or.inr (Or.inr (Or.inr (Or.inr (Or.inr (Or.inr (Or.inr (Or.inr (Or.inr (Or.inr (Or.inr (Or.inr (Or.inr (Or.inr (Or.inr (Or.inr (Or.inl h2))))))))))))))))))))))))))))))))))))))))
      · exact Or.inr (Or.inr (Or.inr (Or.inr (Or.inr (Or.inr (Or.inr (Or.inr (Or.inr (Or.inr (Or.inr (Or.inr (Or.inr (Or.inr (Or.inr (Or.inr (Or.inr (Or.inr (Or.inr (Or.inr (Or.inr (Or.inr (Or.inr (Or.inr (Or.inr (Or.inr (Or.inr (Or.inr (Or.inr (Or.inr (Or.inr (Or.inr (Or.inr (Or.inr (Or.inr (Or.inr (Or.inr (Or.inr (Or.inr (Or.inr (Or.inr (Or.inl h2)))))))))))))))))))))))))))))))))))))))))
      · exact Or.inr (Or.inr (Or.inr (Or.inr (Or.inr (Or.inr (Or.inr (Or.inr (Or.inr (Or.inr (Or.inr (Or.inr (Or.inr (Or.inr (Or.inr (Or.inr (Or.inr (Or.inr (Or.inr (Or.inr (Or.inr (Or.inr (Or.inr (Or.inr (Or.inr (Or.inr (Or.inr (Or.inr (Or.inr (Or.inr (Or.inr (Or.inr (Or.inr (Or.inr (Or.inr (Or.inr (Or.inr (Or.inr (Or.inr (Or.inr (Or.inr (Or.inr (Or.inl h2))))))))))))))))))))))))))))))))))))))))))
      · exact Or.inr (Or.inr (Or.inr (Or.inr (Or.inr (Or.inr (Or.inr (Or.inr (Or.inr (Or.inr (Or.inr (Or.inr (Or.inr (Or.inr (Or.inr (Or.inr (Or.inr (Or.inr (Or.inr (Or.inr (Or.inr (Or.inr (Or.inr (Or.inr (Or.inr (Or.inr (Or.inr (Or.inr (Or.inr (Or.inr (Or.inr (Or.inr (Or.inr (Or.inr (Or.inr (Or.inr (Or.inr (Or.inr (Or.inr (Or.inr (Or.inr (Or.inr (Or.inr (Or.inl h2)))))))))))))))))))))))))))))))))))))))))))
      · exact Or.inr (Or.inr (Or.inr (Or.inr (Or.inr (Or.inr (Or.inr (Or.inr (Or.inr (Or.inr (Or.inr (Or.inr (Or.inr (Or.inr (Or.inr (Or.inr (Or.inr (Or.inr (Or.inr (Or.inr (Or.inr (Or.inr (Or.inr (Or.inr (Or.inr (Or.inr (Or.inr (Or.inr (Or.inr (Or.inr (Or.inr (Or.inr (Or.inr (Or.inr (Or.inr (Or.inr (Or.inr (Or.inr (Or.inr (Or.inr (Or.inr (Or.inr (Or.inr (Or.inr (Or.inl h2))))))))))))))))))))))))))))))))))))))))))))
      · exact Or.inr (Or.inr (Or.inr (Or.inr (Or.inr (Or.inr (Or.inr (Or.inr (Or.inr (Or.inr (Or.inr (Or.inr (Or.inr (Or.inr (Or.inr (Or.inr (Or.inr (Or.inr (Or.inr (Or.inr (Or.inr (Or.inr (Or.inr (Or.inr (Or.inr (Or.inr (Or.inr (Or.inr (Or.inr (Or.inr (Or.inr (Or.inr (Or.inr (Or.inr (Or.inr (Or.inr (Or.inr (Or.inr (Or.inr (Or.inr (Or.inr (Or.inr (Or.inr (Or.inr (Or.inr (Or.inl h2)))))))))))))))))))))))))))))))))))))))))))))
      · exact Or.inr (Or.inr (Or.inr (Or.inr (Or.inr (Or.inr (Or.inr (Or.inr (Or.inr (Or.inr (Or.inr (Or.inr (Or.inr (Or.inr (Or.inr (Or.inr (Or.inr (Or.inr (Or.inr (Or.inr (Or.inr (Or.inr (Or.inr (Or.inr (Or.inr (Or.inr (Or.inr (Or.inr (Or.inr (Or.inr (Or.inr (Or.inr (Or.inr (Or.inr (Or.inr (Or.inr (Or.inr (Or.inr (Or.inr (Or.inr (Or.inr (Or.inr (Or.inr (Or.inr (Or.inr (Or.inr (Or.inl h2))))))))))))))))))))))))))))))))))))))))))))))
      · exact Or.inr (Or.inr (Or.inr (Or.inr (Or.inr (Or.inr (Or.inr (Or.inr (Or.inr (Or.inr (Or.inr (Or.inr (Or.inr (Or.inr (Or.inr (Or.inr (Or.inr (Or.inr (Or.inr (Or.inr (Or.inr (Or.inr (Or.inr (Or.inr (Or.inr (Or.inr (Or.inr (Or.inr (Or.inr (Or.inr (Or.inr (Or.inr (Or.inr (Or.inr (Or.inr (Or.inr (Or.inr (Or.inr (Or.inr (Or.inr (Or.inr (Or.inr (Or.inr (Or.inr (Or.inr (Or.inr (Or.inr (Or.inl h2)))))))))))))))))))))))))))))))))))))))))))))))
      · exact Or.inr (Or.inr (Or.inr (Or.inr (Or.inr (Or.inr (Or.inr (Or.inr (Or.inr (Or.inr (Or.inr (Or.inr (Or.inr (Or.inr (Or.inr (Or.inr (Or.inr (Or.inr (Or.inr (Or.inr (Or.inr (Or.inr (Or.inr (Or.inr (Or.inr (Or.inr (Or.inr (Or.inr (Or.inr (Or.inr (Or.inr (Or.inr (Or.inr (Or.inr (Or.inr (Or.inr (Or.inr (Or.inr (Or.inr (Or.inr (Or.inr (Or.inr (Or.inr (Or.inr (Or.inr (Or.inr (Or.inr (Or.inr (Or.inl h2))))))))))))))))))))))))))))))))))))))))))))))))
    · omega

set_option maxHeartbeats 4000000 in
set_option maxRecDepth 100000 in
theorem lw_case0 {p : Program} {e : Env} {s : State} {m : MethodId} {below : List Frame} {meth : Method} {c : Code} (l : Launch) {b : Nat} {xs : Nat → Int32} {dC : Nat → ClassId} {dI : Nat → Nat → Nat} (C0 : lw_At p s m meth c b 6 xs) {x0 tp nw dr rd sc sk fl ps sh nm nb dm db ss m0 mnw mhd mas mps msf mdt mhdd masd mpsd msfd mkp mtp mld mmd men mil mqu mbx : Nat} {kB kF kG kI kI2 kI3 kI4 kI5 kJ kJ2 kJ3 kJ4 kJ5 kZ kY : ClassId} {H : Heap} {locs : List Loc} {ls : Array Slot} (hK : va_K (dC, dI) vwCl [(kB, .byte), (kF, .object RX1), (kG, .object RX1), (kI, .int), (kI2, .int), (kI3, .int), (kI4, .int), (kI5, .int), (kJ, .long), (kJ2, .long), (kJ3, .long), (kJ4, .long), (kJ5, .long), (kZ, .boolean), (kY, .byte)] s) (hP : va_P (dC, dI) vwCl [(x0, .inr (6, [.ref tp, .int 0, .ref nw, .ref dr, .ref rd, .ref sc, .ref sk, .ref fl, .ref ps, .int 0, .int 0, .ref sh])), (tp, .inl (kB, 400, .inl (fun _ => 0))), (nw, .inr (1, [.ref nm, .ref nb, .int 0, .int 0, .int 0])), (dr, .inr (1, [.ref dm, .ref db, .int 0, .int 0, .int 0])), (rd, .inr (4, [.ref tp, .int 0, .int 0, .int 0, .int 0, .int 0])), (sc, .inr (5, [.ref nw, .ref ss, .int 0, .int (-1), .int 0, .int 0, .int 0, .int 0, .int 0])), (ps, .inl (kF, 10, .inr (.inr (.inr (.inr (fun _ => none)))))), (sh, .inl (kG, 2, .inr (.inr (.inr (.inr (fun _ => none)))))), (m0, .inr (7, [.ref mnw, .ref mhd, .ref mas, .ref mps, .ref msf, .ref mdt, .ref mhdd, .ref masd, .ref mpsd, .ref msfd, .ref mkp, .int 0, .ref mtp, .int 0, .int 0, .int 0, .int 0, .ref mld, .int 0, .ref mmd, .ref men, .ref mil, .ref mqu, .int 0, .int 0, .ref mbx])), (mnw, .inl (kI, 99, .inl (fun _ => 0))), (mhd, .inl (kI2, 99, .inl (fun _ => 0))), (mas, .inl (kI3, 99, .inl (fun _ => 0))), (mps, .inl (kI4, 990, .inl (fun _ => 0))), (msf, .inl (kI5, 198, .inl (fun _ => 0))), (mdt, .inl (kJ, 640, .inr (.inl (fun _ => 0)))), (mhdd, .inl (kJ2, 640, .inr (.inl (fun _ => 0)))), (masd, .inl (kJ3, 640, .inr (.inl (fun _ => 0)))), (mpsd, .inl (kJ4, 6400, .inr (.inl (fun _ => 0)))), (msfd, .inl (kJ5, 1280, .inr (.inl (fun _ => 0)))), (mkp, .inl (kZ, 2, .inl (fun _ => 0))), (mtp, .inl (kY, 400, .inl (fun _ => 0)))] H) (hD : va_D (fun q : Nat => s.heap.size ≤ q) [(x0, .inr (6, [.ref tp, .int 0, .ref nw, .ref dr, .ref rd, .ref sc, .ref sk, .ref fl, .ref ps, .int 0, .int 0, .ref sh])), (tp, .inl (kB, 400, .inl (fun _ => 0))), (nw, .inr (1, [.ref nm, .ref nb, .int 0, .int 0, .int 0])), (dr, .inr (1, [.ref dm, .ref db, .int 0, .int 0, .int 0])), (rd, .inr (4, [.ref tp, .int 0, .int 0, .int 0, .int 0, .int 0])), (sc, .inr (5, [.ref nw, .ref ss, .int 0, .int (-1), .int 0, .int 0, .int 0, .int 0, .int 0])), (ps, .inl (kF, 10, .inr (.inr (.inr (.inr (fun _ => none)))))), (sh, .inl (kG, 2, .inr (.inr (.inr (.inr (fun _ => none)))))), (m0, .inr (7, [.ref mnw, .ref mhd, .ref mas, .ref mps, .ref msf, .ref mdt, .ref mhdd, .ref masd, .ref mpsd, .ref msfd, .ref mkp, .int 0, .ref mtp, .int 0, .int 0, .int 0, .int 0, .ref mld, .int 0, .ref mmd, .ref men, .ref mil, .ref mqu, .int 0, .int 0, .ref mbx])), (mnw, .inl (kI, 99, .inl (fun _ => 0))), (mhd, .inl (kI2, 99, .inl (fun _ => 0))), (mas, .inl (kI3, 99, .inl (fun _ => 0))), (mps, .inl (kI4, 990, .inl (fun _ => 0))), (msf, .inl (kI5, 198, .inl (fun _ => 0))), (mdt, .inl (kJ, 640, .inr (.inl (fun _ => 0)))), (mhdd, .inl (kJ2, 640, .inr (.inl (fun _ => 0)))), (masd, .inl (kJ3, 640, .inr (.inl (fun _ => 0)))), (mpsd, .inl (kJ4, 6400, .inr (.inl (fun _ => 0)))), (msfd, .inl (kJ5, 1280, .inr (.inl (fun _ => 0)))), (mkp, .inl (kZ, 2, .inl (fun _ => 0))), (mtp, .inl (kY, 400, .inl (fun _ => 0)))]) (hS : va_S (fun q : Nat => s.heap.size ≤ q) s.heap H locs) (hl : lv_has ls 4 [(3, .int 0), (2, .ref m0), (1, .ref x0), (0, .ref b)]) : W p l e room_1 s m #[Value.ref b] below meth c H locs 110 27528 (lw_Z below #[Value.ref b] s) (F0 m 244 ls []) := by
  obtain ⟨hx, hb, hr, hml, hown, htl, hX, hbl, hlocks, hgv⟩ := id C0
  have hb : c.code = cL_law := hb
  have hown : s.vm.findClass RL = some m.cls := hown
  have hts : ∀ w ∈ pw, w.before #[Value.ref b] s = true := fun w h => htl w (pw_tbl h)
  have hN : xN s := xN_of htl
  have hA : ∀ q : Nat, s.heap.size ≤ q → (fun q : Nat => s.heap.size ≤ q) q := fun _ h => h
  have hbA : ¬ (fun q : Nat => s.heap.size ≤ q) b := Nat.not_le.mpr hbl
  refine lv_aload_n hx hb dL_law_244 rfl (lv_at hl 2 rfl) ?_
  refine lv_aload_n hx hb dL_law_245 rfl (lv_at hl 3 rfl) ?_
  refine lv_iload_n hx hb dL_law_246 rfl (lv_at hl 0 rfl) ?_
  refine lv_iconst (v := 1) hx hb dL_law_247 (by decide +kernel) ?_
  refine lv_iadd hx hb dL_law_248 ?_
  refine lv_topi (fun z1 ez1 => ?_)
  obtain rfl : z1 = 1 := ez1.trans (by decide +kernel)
  refine va_sld hx hb hX hbl hbA hS (in_d (by decide +kernel)) dL_law_249 ?_
  refine lv_aload_n hx hb dL_law_250 rfl (lv_at hl 3 rfl) ?_
  refine lv_iload_n hx hb dL_law_251 rfl (lv_at hl 0 rfl) ?_
  refine lv_iconst (v := 2) hx hb dL_law_252 (by decide +kernel) ?_
  refine lv_iadd hx hb dL_law_253 ?_
  refine lv_topi (fun z2 ez2 => ?_)
  obtain rfl : z2 = 2 := ez2.trans (by decide +kernel)
  refine va_sld hx hb hX hbl hbA hS (in_d (by decide +kernel)) dL_law_254 ?_
  refine lv_aload_n hx hb dL_law_255 rfl (lv_at hl 3 rfl) ?_
  refine lv_iload_n hx hb dL_law_256 rfl (lv_at hl 0 rfl) ?_
  refine lv_iconst (v := 3) hx hb dL_law_257 (by decide +kernel) ?_
  refine lv_iadd hx hb dL_law_258 ?_
  refine lv_topi (fun z3 ez3 => ?_)
  obtain rfl : z3 = 3 := ez3.trans (by decide +kernel)
  refine va_sld hx hb hX hbl hbA hS (in_d (by decide +kernel)) dL_law_259 ?_
  refine lv_aload_n hx hb dL_law_260 rfl (lv_at hl 3 rfl) ?_
  refine lv_iload_n hx hb dL_law_261 rfl (lv_at hl 0 rfl) ?_
  refine lv_iconst (v := 4) hx hb dL_law_262 (by decide +kernel) ?_
  refine lv_iadd hx hb dL_law_263 ?_
  refine lv_topi (fun z4 ez4 => ?_)
  obtain rfl : z4 = 4 := ez4.trans (by decide +kernel)
  refine va_sld hx hb hX hbl hbA hS (in_d (by decide +kernel)) dL_law_264 ?_
  refine lv_aload_n hx hb dL_law_265 rfl (lv_at hl 3 rfl) ?_
  refine lv_iload_n hx hb dL_law_266 rfl (lv_at hl 0 rfl) ?_
  refine lv_iconst (v := 5) hx hb dL_law_267 (by decide +kernel) ?_
  refine lv_iadd hx hb dL_law_268 ?_
  refine lv_topi (fun z5 ez5 => ?_)
  obtain rfl : z5 = 5 := ez5.trans (by decide +kernel)
  refine va_sld hx hb hX hbl hbA hS (in_d (by decide +kernel)) dL_law_269 ?_
  have hPc := hP.sub (ws' := [(x0, .inr (6, [.ref tp, .int 0, .ref nw, .ref dr, .ref rd, .ref sc, .ref sk, .ref fl, .ref ps, .int 0, .int 0, .ref sh])), (tp, .inl (kB, 400, .inl (fun _ => 0)))]) [0, 1] rfl
  have hDc := hD.sub (ws' := [(x0, .inr (6, [.ref tp, .int 0, .ref nw, .ref dr, .ref rd, .ref sc, .ref sk, .ref fl, .ref ps, .int 0, .int 0, .ref sh])), (tp, .inl (kB, 400, .inl (fun _ => 0)))]) [0, 1] (by decide) rfl
  have hKc := hK.sub (tys' := [(kB, .byte)]) [0] rfl
  have hFc := va_free (wc := [(x0, .inr (6, [.ref tp, .int 0, .ref nw, .ref dr, .ref rd, .ref sc, .ref sk, .ref fl, .ref ps, .int 0, .int 0, .ref sh])), (tp, .inl (kB, 400, .inl (fun _ => 0)))]) hD hS hA [0, 1] rfl
  refine va_calli (va_runV (As := [.int (xs (1 : Int32).toNatClampNeg), .int (xs (2 : Int32).toNatClampNeg), .int (xs (3 : Int32).toNatClampNeg), .int (xs (4 : Int32).toNatClampNeg), .int (xs (5 : Int32).toNatClampNeg)]) (rest := []) ⟨hx, hb, hml, hown, hts⟩ (c_X6_feed l dC dI x0 tp nw dr rd sc sk fl ps sh kB H.size (xs (1 : Int32).toNatClampNeg) (xs (2 : Int32).toNatClampNeg) (xs (3 : Int32).toNatClampNeg) (xs (4 : Int32).toNatClampNeg) (xs (5 : Int32).toNatClampNeg) ) (cwV 5 hts (gV pq386 pq387 pq388 pq74 pq389) rfl rfl rfl (by decide +kernel) ⟨(Nat.le_of_ble_eq_true rfl), (Nat.le_of_ble_eq_true rfl)⟩) (pc_V hPc hDc hKc hN (va_recv hK hP (ci := 6) (q0 := 0) rfl rfl)) rfl rfl hl.1 rfl (lv_room (Nat.le_of_ble_eq_true rfl)) dL_law_270 ⟨(Nat.le_of_ble_eq_true rfl), (Nat.le_of_ble_eq_true rfl)⟩) hS (fun q _ h => hFc q h) hFc (fun r6 u t H1 locs ht hvm hr6 hB hz1 hk1 hS => ?_)
  obtain ⟨hP, hD⟩ := va_join (wr := [(nw, .inr (1, [.ref nm, .ref nb, .int 0, .int 0, .int 0])), (dr, .inr (1, [.ref dm, .ref db, .int 0, .int 0, .int 0])), (rd, .inr (4, [.ref tp, .int 0, .int 0, .int 0, .int 0, .int 0])), (sc, .inr (5, [.ref nw, .ref ss, .int 0, .int (-1), .int 0, .int 0, .int 0, .int 0, .int 0])), (ps, .inl (kF, 10, .inr (.inr (.inr (.inr (fun _ => none)))))), (sh, .inl (kG, 2, .inr (.inr (.inr (.inr (fun _ => none)))))), (m0, .inr (7, [.ref mnw, .ref mhd, .ref mas, .ref mps, .ref msf, .ref mdt, .ref mhdd, .ref masd, .ref mpsd, .ref msfd, .ref mkp, .int 0, .ref mtp, .int 0, .int 0, .int 0, .int 0, .ref mld, .int 0, .ref mmd, .ref men, .ref mil, .ref mqu, .int 0, .int 0, .ref mbx])), (mnw, .inl (kI, 99, .inl (fun _ => 0))), (mhd, .inl (kI2, 99, .inl (fun _ => 0))), (mas, .inl (kI3, 99, .inl (fun _ => 0))), (mps, .inl (kI4, 990, .inl (fun _ => 0))), (msf, .inl (kI5, 198, .inl (fun _ => 0))), (mdt, .inl (kJ, 640, .inr (.inl (fun _ => 0)))), (mhdd, .inl (kJ2, 640, .inr (.inl (fun _ => 0)))), (masd, .inl (kJ3, 640, .inr (.inl (fun _ => 0)))), (mpsd, .inl (kJ4, 6400, .inr (.inl (fun _ => 0)))), (msfd, .inl (kJ5, 1280, .inr (.inl (fun _ => 0)))), (mkp, .inl (kZ, 2, .inl (fun _ => 0))), (mtp, .inl (kY, 400, .inl (fun _ => 0)))]) (w1 := []) hP hD [0, 1] [2, 3, 4, 5, 6, 7, 8, 9, 10, 11, 12, 13, 14, 15, 16, 17, 18, 19, 20] rfl rfl (by decide) (by decide) hk1 hFc va_P0 va_D0
  generalize H1 = H at hP hS ⊢
  have hP : va_P (dC, dI) vwCl [(nw, .inr (1, [.ref nm, .ref nb, .int 0, .int 0, .int 0])), (dr, .inr (1, [.ref dm, .ref db, .int 0, .int 0, .int 0])), (rd, .inr (4, [.ref tp, .int 0, .int 0, .int 0, .int 0, .int 0])), (sc, .inr (5, [.ref nw, .ref ss, .int 0, .int (-1), .int 0, .int 0, .int 0, .int 0, .int 0])), (ps, .inl (kF, 10, .inr (.inr (.inr (.inr (fun _ => none)))))), (sh, .inl (kG, 2, .inr (.inr (.inr (.inr (fun _ => none)))))), (m0, .inr (7, [.ref mnw, .ref mhd, .ref mas, .ref mps, .ref msf, .ref mdt, .ref mhdd, .ref masd, .ref mpsd, .ref msfd, .ref mkp, .int 0, .ref mtp, .int 0, .int 0, .int 0, .int 0, .ref mld, .int 0, .ref mmd, .ref men, .ref mil, .ref mqu, .int 0, .int 0, .ref mbx])), (mnw, .inl (kI, 99, .inl (fun _ => 0))), (mhd, .inl (kI2, 99, .inl (fun _ => 0))), (mas, .inl (kI3, 99, .inl (fun _ => 0))), (mps, .inl (kI4, 990, .inl (fun _ => 0))), (msf, .inl (kI5, 198, .inl (fun _ => 0))), (mdt, .inl (kJ, 640, .inr (.inl (fun _ => 0)))), (mhdd, .inl (kJ2, 640, .inr (.inl (fun _ => 0)))), (masd, .inl (kJ3, 640, .inr (.inl (fun _ => 0)))), (mpsd, .inl (kJ4, 6400, .inr (.inl (fun _ => 0)))), (msfd, .inl (kJ5, 1280, .inr (.inl (fun _ => 0)))), (mkp, .inl (kZ, 2, .inl (fun _ => 0))), (mtp, .inl (kY, 400, .inl (fun _ => 0)))] H := hP
  have hD : va_D (fun q : Nat => s.heap.size ≤ q) [(nw, .inr (1, [.ref nm, .ref nb, .int 0, .int 0, .int 0])), (dr, .inr (1, [.ref dm, .ref db, .int 0, .int 0, .int 0])), (rd, .inr (4, [.ref tp, .int 0, .int 0, .int 0, .int 0, .int 0])), (sc, .inr (5, [.ref nw, .ref ss, .int 0, .int (-1), .int 0, .int 0, .int 0, .int 0, .int 0])), (ps, .inl (kF, 10, .inr (.inr (.inr (.inr (fun _ => none)))))), (sh, .inl (kG, 2, .inr (.inr (.inr (.inr (fun _ => none)))))), (m0, .inr (7, [.ref mnw, .ref mhd, .ref mas, .ref mps, .ref msf, .ref mdt, .ref mhdd, .ref masd, .ref mpsd, .ref msfd, .ref mkp, .int 0, .ref mtp, .int 0, .int 0, .int 0, .int 0, .ref mld, .int 0, .ref mmd, .ref men, .ref mil, .ref mqu, .int 0, .int 0, .ref mbx])), (mnw, .inl (kI, 99, .inl (fun _ => 0))), (mhd, .inl (kI2, 99, .inl (fun _ => 0))), (mas, .inl (kI3, 99, .inl (fun _ => 0))), (mps, .inl (kI4, 990, .inl (fun _ => 0))), (msf, .inl (kI5, 198, .inl (fun _ => 0))), (mdt, .inl (kJ, 640, .inr (.inl (fun _ => 0)))), (mhdd, .inl (kJ2, 640, .inr (.inl (fun _ => 0)))), (masd, .inl (kJ3, 640, .inr (.inl (fun _ => 0)))), (mpsd, .inl (kJ4, 6400, .inr (.inl (fun _ => 0)))), (msfd, .inl (kJ5, 1280, .inr (.inl (fun _ => 0)))), (mkp, .inl (kZ, 2, .inl (fun _ => 0))), (mtp, .inl (kY, 400, .inl (fun _ => 0)))] := hD
  subst hr6
  refine lv_aload_n hx hb dL_law_273 rfl (lv_at hl 1 rfl) ?_
  refine lv_aload_n hx hb dL_law_274 rfl (lv_at hl 3 rfl) ?_
  refine lv_iload_n hx hb dL_law_275 rfl (lv_at hl 0 rfl) ?_
  refine lv_iconst (v := 1) hx hb dL_law_276 (by decide +kernel) ?_
  refine lv_iadd hx hb dL_law_277 ?_
  refine lv_topi (fun z7 ez7 => ?_)
  obtain rfl : z7 = 1 := ez7.trans (by decide +kernel)
  refine va_sld hx hb hX hbl hbA hS (in_d (by decide +kernel)) dL_law_278 ?_
  refine lv_aload_n hx hb dL_law_279 rfl (lv_at hl 3 rfl) ?_
  refine lv_iload_n hx hb dL_law_280 rfl (lv_at hl 0 rfl) ?_
  refine lv_iconst (v := 2) hx hb dL_law_281 (by decide +kernel) ?_
  refine lv_iadd hx hb dL_law_282 ?_
  refine lv_topi (fun z8 ez8 => ?_)
  obtain rfl : z8 = 2 := ez8.trans (by decide +kernel)
  refine va_sld hx hb hX hbl hbA hS (in_d (by decide +kernel)) dL_law_283 ?_
  refine lv_aload_n hx hb dL_law_284 rfl (lv_at hl 3 rfl) ?_
  refine lv_iload_n hx hb dL_law_285 rfl (lv_at hl 0 rfl) ?_
  refine lv_iconst (v := 3) hx hb dL_law_286 (by decide +kernel) ?_
  refine lv_iadd hx hb dL_law_287 ?_
  refine lv_topi (fun z9 ez9 => ?_)
  obtain rfl : z9 = 3 := ez9.trans (by decide +kernel)
  refine va_sld hx hb hX hbl hbA hS (in_d (by decide +kernel)) dL_law_288 ?_
  refine lv_aload_n hx hb dL_law_289 rfl (lv_at hl 3 rfl) ?_
  refine lv_iload_n hx hb dL_law_290 rfl (lv_at hl 0 rfl) ?_
  refine lv_iconst (v := 4) hx hb dL_law_291 (by decide +kernel) ?_
  refine lv_iadd hx hb dL_law_292 ?_
  refine lv_topi (fun z10 ez10 => ?_)
  obtain rfl : z10 = 4 := ez10.trans (by decide +kernel)
  refine va_sld hx hb hX hbl hbA hS (in_d (by decide +kernel)) dL_law_293 ?_
  refine lv_aload_n hx hb dL_law_294 rfl (lv_at hl 3 rfl) ?_
  refine lv_iload_n hx hb dL_law_295 rfl (lv_at hl 0 rfl) ?_
  refine lv_iconst (v := 5) hx hb dL_law_296 (by decide +kernel) ?_
  refine lv_iadd hx hb dL_law_297 ?_
  refine lv_topi (fun z11 ez11 => ?_)
  obtain rfl : z11 = 5 := ez11.trans (by decide +kernel)
  refine va_sld hx hb hX hbl hbA hS (in_d (by decide +kernel)) dL_law_298 ?_
  have hPc := hP.sub (ws' := [(m0, .inr (7, [.ref mnw, .ref mhd, .ref mas, .ref mps, .ref msf, .ref mdt, .ref mhdd, .ref masd, .ref mpsd, .ref msfd, .ref mkp, .int 0, .ref mtp, .int 0, .int 0, .int 0, .int 0, .ref mld, .int 0, .ref mmd, .ref men, .ref mil, .ref mqu, .int 0, .int 0, .ref mbx])), (mtp, .inl (kY, 400, .inl (fun _ => 0)))]) [6, 18] rfl
  have hDc := hD.sub (ws' := [(m0, .inr (7, [.ref mnw, .ref mhd, .ref mas, .ref mps, .ref msf, .ref mdt, .ref mhdd, .ref masd, .ref mpsd, .ref msfd, .ref mkp, .int 0, .ref mtp, .int 0, .int 0, .int 0, .int 0, .ref mld, .int 0, .ref mmd, .ref men, .ref mil, .ref mqu, .int 0, .int 0, .ref mbx])), (mtp, .inl (kY, 400, .inl (fun _ => 0)))]) [6, 18] (by decide) rfl
  have hKc := hK.sub (tys' := [(kY, .byte)]) [14] rfl
  have hFc := va_free (wc := [(m0, .inr (7, [.ref mnw, .ref mhd, .ref mas, .ref mps, .ref msf, .ref mdt, .ref mhdd, .ref masd, .ref mpsd, .ref msfd, .ref mkp, .int 0, .ref mtp, .int 0, .int 0, .int 0, .int 0, .ref mld, .int 0, .ref mmd, .ref men, .ref mil, .ref mqu, .int 0, .int 0, .ref mbx])), (mtp, .inl (kY, 400, .inl (fun _ => 0)))]) hD hS hA [6, 18] rfl
  refine va_calli (va_runV (As := [.int (xs (1 : Int32).toNatClampNeg), .int (xs (2 : Int32).toNatClampNeg), .int (xs (3 : Int32).toNatClampNeg), .int (xs (4 : Int32).toNatClampNeg), .int (xs (5 : Int32).toNatClampNeg)]) (rest := [.int 20]) ⟨hx, hb, hml, hown, hts⟩ (c_X7_feed l dC dI m0 mnw mhd mas mps msf mdt mhdd masd mpsd msfd mkp mtp mld mmd men mil mqu mbx kY H.size (xs (1 : Int32).toNatClampNeg) (xs (2 : Int32).toNatClampNeg) (xs (3 : Int32).toNatClampNeg) (xs (4 : Int32).toNatClampNeg) (xs (5 : Int32).toNatClampNeg) ) (cwV 5 hts (gV pq1195 pq1196 pq1197 pq81 pq1198) rfl rfl rfl (by decide +kernel) ⟨(Nat.le_of_ble_eq_true rfl), (Nat.le_of_ble_eq_true rfl)⟩) (pc_V hPc hDc hKc hN (va_recv hK hP (ci := 7) (q0 := 6) rfl rfl)) rfl rfl hl.1 rfl (lv_room (Nat.le_of_ble_eq_true rfl)) dL_law_299 ⟨(Nat.le_of_ble_eq_true rfl), (Nat.le_of_ble_eq_true rfl)⟩) hS (fun q _ h => hFc q h) hFc (fun r12 u t H1 locs ht hvm hr12 hB hz1 hk1 hS => ?_)
  obtain ⟨hP, hD⟩ := va_join (wr := [(nw, .inr (1, [.ref nm, .ref nb, .int 0, .int 0, .int 0])), (dr, .inr (1, [.ref dm, .ref db, .int 0, .int 0, .int 0])), (rd, .inr (4, [.ref tp, .int 0, .int 0, .int 0, .int 0, .int 0])), (sc, .inr (5, [.ref nw, .ref ss, .int 0, .int (-1), .int 0, .int 0, .int 0, .int 0, .int 0])), (ps, .inl (kF, 10, .inr (.inr (.inr (.inr (fun _ => none)))))), (sh, .inl (kG, 2, .inr (.inr (.inr (.inr (fun _ => none)))))), (mnw, .inl (kI, 99, .inl (fun _ => 0))), (mhd, .inl (kI2, 99, .inl (fun _ => 0))), (mas, .inl (kI3, 99, .inl (fun _ => 0))), (mps, .inl (kI4, 990, .inl (fun _ => 0))), (msf, .inl (kI5, 198, .inl (fun _ => 0))), (mdt, .inl (kJ, 640, .inr (.inl (fun _ => 0)))), (mhdd, .inl (kJ2, 640, .inr (.inl (fun _ => 0)))), (masd, .inl (kJ3, 640, .inr (.inl (fun _ => 0)))), (mpsd, .inl (kJ4, 6400, .inr (.inl (fun _ => 0)))), (msfd, .inl (kJ5, 1280, .inr (.inl (fun _ => 0)))), (mkp, .inl (kZ, 2, .inl (fun _ => 0)))]) (w1 := []) hP hD [6, 18] [0, 1, 2, 3, 4, 5, 7, 8, 9, 10, 11, 12, 13, 14, 15, 16, 17] rfl rfl (by decide) (by decide) hk1 hFc va_P0 va_D0
  generalize H1 = H at hP hS ⊢
  have hP : va_P (dC, dI) vwCl [(nw, .inr (1, [.ref nm, .ref nb, .int 0, .int 0, .int 0])), (dr, .inr (1, [.ref dm, .ref db, .int 0, .int 0, .int 0])), (rd, .inr (4, [.ref tp, .int 0, .int 0, .int 0, .int 0, .int 0])), (sc, .inr (5, [.ref nw, .ref ss, .int 0, .int (-1), .int 0, .int 0, .int 0, .int 0, .int 0])), (ps, .inl (kF, 10, .inr (.inr (.inr (.inr (fun _ => none)))))), (sh, .inl (kG, 2, .inr (.inr (.inr (.inr (fun _ => none)))))), (mnw, .inl (kI, 99, .inl (fun _ => 0))), (mhd, .inl (kI2, 99, .inl (fun _ => 0))), (mas, .inl (kI3, 99, .inl (fun _ => 0))), (mps, .inl (kI4, 990, .inl (fun _ => 0))), (msf, .inl (kI5, 198, .inl (fun _ => 0))), (mdt, .inl (kJ, 640, .inr (.inl (fun _ => 0)))), (mhdd, .inl (kJ2, 640, .inr (.inl (fun _ => 0)))), (masd, .inl (kJ3, 640, .inr (.inl (fun _ => 0)))), (mpsd, .inl (kJ4, 6400, .inr (.inl (fun _ => 0)))), (msfd, .inl (kJ5, 1280, .inr (.inl (fun _ => 0)))), (mkp, .inl (kZ, 2, .inl (fun _ => 0)))] H := hP
  have hD : va_D (fun q : Nat => s.heap.size ≤ q) [(nw, .inr (1, [.ref nm, .ref nb, .int 0, .int 0, .int 0])), (dr, .inr (1, [.ref dm, .ref db, .int 0, .int 0, .int 0])), (rd, .inr (4, [.ref tp, .int 0, .int 0, .int 0, .int 0, .int 0])), (sc, .inr (5, [.ref nw, .ref ss, .int 0, .int (-1), .int 0, .int 0, .int 0, .int 0, .int 0])), (ps, .inl (kF, 10, .inr (.inr (.inr (.inr (fun _ => none)))))), (sh, .inl (kG, 2, .inr (.inr (.inr (.inr (fun _ => none)))))), (mnw, .inl (kI, 99, .inl (fun _ => 0))), (mhd, .inl (kI2, 99, .inl (fun _ => 0))), (mas, .inl (kI3, 99, .inl (fun _ => 0))), (mps, .inl (kI4, 990, .inl (fun _ => 0))), (msf, .inl (kI5, 198, .inl (fun _ => 0))), (mdt, .inl (kJ, 640, .inr (.inl (fun _ => 0)))), (mhdd, .inl (kJ2, 640, .inr (.inl (fun _ => 0)))), (masd, .inl (kJ3, 640, .inr (.inl (fun _ => 0)))), (mpsd, .inl (kJ4, 6400, .inr (.inl (fun _ => 0)))), (msfd, .inl (kJ5, 1280, .inr (.inl (fun _ => 0)))), (mkp, .inl (kZ, 2, .inl (fun _ => 0)))] := hD
  subst hr12
  refine lv_icmp_eq (tgt := 1950) hx hb dL_law_302 (by decide) (fun c13 => ?_) (fun c13 => absurd (by decide +kernel) c13)
  refine lv_iinc (v := 6) (lv' := [(3, .int 6), (2, .ref m0), (1, .ref x0), (0, .ref b)]) hx hb dL_law_1950 hl (k := 0) rfl (by decide +kernel) (by decide) rfl (fun ls hl => ?_)
  refine lv_goto (tgt := 18) hx hb dL_law_1953 (by decide) ?_
  refine lv_iload_n hx hb dL_law_18 rfl (lv_at hl 0 rfl) ?_
  refine lv_aload_n hx hb dL_law_19 rfl (lv_at hl 3 rfl) ?_
  refine va_slen hx hb hX hbl hbA hS dL_law_20 ?_
  refine lv_bipush (v := 6) hx hb dL_law_21 (by decide +kernel) ?_
  refine lv_isub hx hb dL_law_23 ?_
  refine lv_topi (fun z14 ez14 => ?_)
  obtain rfl : z14 = 0 := ez14.trans (by decide +kernel)
  refine lv_icmp_gt (tgt := 1956) hx hb dL_law_24 (by decide) (fun c15 => ?_) (fun c15 => absurd (by decide +kernel) c15)
  refine lv_iconst (v := 1) hx hb dL_law_1956 (by decide +kernel) ?_
  refine va_forget (fun q hq => hS.2.2 q hq) ?_
  refine W.widen (k := 600000) (n := 7302249) (Nat.le_of_ble_eq_true rfl) (Nat.le_of_ble_eq_true rfl) ?_
  refine W.base ?_
  exact lw_ret (Drawn.sameBut.refl s.drawn lw_cs) hx hb hr hlocks dL_law_1957

set_option maxHeartbeats 4000000 in
set_option maxRecDepth 100000 in
theorem lw_case1 {p : Program} {e : Env} {s : State} {m : MethodId} {below : List Frame} {meth : Method} {c : Code} (l : Launch) {b : Nat} {xs : Nat → Int32} {dC : Nat → ClassId} {dI : Nat → Nat → Nat} (C0 : lw_At p s m meth c b 6 xs) {x0 tp nw dr rd sc sk fl ps sh nm nb dm db ss m0 mnw mhd mas mps msf mdt mhdd masd mpsd msfd mkp mtp mld mmd men mil mqu mbx : Nat} {kB kF kG kI kI2 kI3 kI4 kI5 kJ kJ2 kJ3 kJ4 kJ5 kZ kY : ClassId} {H : Heap} {locs : List Loc} {ls : Array Slot} (hK : va_K (dC, dI) vwCl [(kB, .byte), (kF, .object RX1), (kG, .object RX1), (kI, .int), (kI2, .int), (kI3, .int), (kI4, .int), (kI5, .int), (kJ, .long), (kJ2, .long), (kJ3, .long), (kJ4, .long), (kJ5, .long), (kZ, .boolean), (kY, .byte)] s) (hP : va_P (dC, dI) vwCl [(x0, .inr (6, [.ref tp, .int 0, .ref nw, .ref dr, .ref rd, .ref sc, .ref sk, .ref fl, .ref ps, .int 0, .int 0, .ref sh])), (tp, .inl (kB, 400, .inl (fun _ => 0))), (nw, .inr (1, [.ref nm, .ref nb, .int 0, .int 0, .int 0])), (dr, .inr (1, [.ref dm, .ref db, .int 0, .int 0, .int 0])), (rd, .inr (4, [.ref tp, .int 0, .int 0, .int 0, .int 0, .int 0])), (sc, .inr (5, [.ref nw, .ref ss, .int 0, .int (-1), .int 0, .int 0, .int 0, .int 0, .int 0])), (ps, .inl (kF, 10, .inr (.inr (.inr (.inr (fun _ => none)))))), (sh, .inl (kG, 2, .inr (.inr (.inr (.inr (fun _ => none)))))), (m0, .inr (7, [.ref mnw, .ref mhd, .ref mas, .ref mps, .ref msf, .ref mdt, .ref mhdd, .ref masd, .ref mpsd, .ref msfd, .ref mkp, .int 0, .ref mtp, .int 0, .int 0, .int 0, .int 0, .ref mld, .int 0, .ref mmd, .ref men, .ref mil, .ref mqu, .int 0, .int 0, .ref mbx])), (mnw, .inl (kI, 99, .inl (fun _ => 0))), (mhd, .inl (kI2, 99, .inl (fun _ => 0))), (mas, .inl (kI3, 99, .inl (fun _ => 0))), (mps, .inl (kI4, 990, .inl (fun _ => 0))), (msf, .inl (kI5, 198, .inl (fun _ => 0))), (mdt, .inl (kJ, 640, .inr (.inl (fun _ => 0)))), (mhdd, .inl (kJ2, 640, .inr (.inl (fun _ => 0)))), (masd, .inl (kJ3, 640, .inr (.inl (fun _ => 0)))), (mpsd, .inl (kJ4, 6400, .inr (.inl (fun _ => 0)))), (msfd, .inl (kJ5, 1280, .inr (.inl (fun _ => 0)))), (mkp, .inl (kZ, 2, .inl (fun _ => 0))), (mtp, .inl (kY, 400, .inl (fun _ => 0)))] H) (hD : va_D (fun q : Nat => s.heap.size ≤ q) [(x0, .inr (6, [.ref tp, .int 0, .ref nw, .ref dr, .ref rd, .ref sc, .ref sk, .ref fl, .ref ps, .int 0, .int 0, .ref sh])), (tp, .inl (kB, 400, .inl (fun _ => 0))), (nw, .inr (1, [.ref nm, .ref nb, .int 0, .int 0, .int 0])), (dr, .inr (1, [.ref dm, .ref db, .int 0, .int 0, .int 0])), (rd, .inr (4, [.ref tp, .int 0, .int 0, .int 0, .int 0, .int 0])), (sc, .inr (5, [.ref nw, .ref ss, .int 0, .int (-1), .int 0, .int 0, .int 0, .int 0, .int 0])), (ps, .inl (kF, 10, .inr (.inr (.inr (.inr (fun _ => none)))))), (sh, .inl (kG, 2, .inr (.inr (.inr (.inr (fun _ => none)))))), (m0, .inr (7, [.ref mnw, .ref mhd, .ref mas, .ref mps, .ref msf, .ref mdt, .ref mhdd, .ref masd, .ref mpsd, .ref msfd, .ref mkp, .int 0, .ref mtp, .int 0, .int 0, .int 0, .int 0, .ref mld, .int 0, .ref mmd, .ref men, .ref mil, .ref mqu, .int 0, .int 0, .ref mbx])), (mnw, .inl (kI, 99, .inl (fun _ => 0))), (mhd, .inl (kI2, 99, .inl (fun _ => 0))), (mas, .inl (kI3, 99, .inl (fun _ => 0))), (mps, .inl (kI4, 990, .inl (fun _ => 0))), (msf, .inl (kI5, 198, .inl (fun _ => 0))), (mdt, .inl (kJ, 640, .inr (.inl (fun _ => 0)))), (mhdd, .inl (kJ2, 640, .inr (.inl (fun _ => 0)))), (masd, .inl (kJ3, 640, .inr (.inl (fun _ => 0)))), (mpsd, .inl (kJ4, 6400, .inr (.inl (fun _ => 0)))), (msfd, .inl (kJ5, 1280, .inr (.inl (fun _ => 0)))), (mkp, .inl (kZ, 2, .inl (fun _ => 0))), (mtp, .inl (kY, 400, .inl (fun _ => 0)))]) (hS : va_S (fun q : Nat => s.heap.size ≤ q) s.heap H locs) (hl : lv_has ls 4 [(3, .int 0), (2, .ref m0), (1, .ref x0), (0, .ref b)]) : W p l e room_1 s m #[Value.ref b] below meth c H locs 110 27528 (lw_Z below #[Value.ref b] s) (F0 m 307 ls []) := by
  obtain ⟨hx, hb, hr, hml, hown, htl, hX, hbl, hlocks, hgv⟩ := id C0
  have hb : c.code = cL_law := hb
  have hown : s.vm.findClass RL = some m.cls := hown
  have hts : ∀ w ∈ pw, w.before #[Value.ref b] s = true := fun w h => htl w (pw_tbl h)
  have hN : xN s := xN_of htl
  have hA : ∀ q : Nat, s.heap.size ≤ q → (fun q : Nat => s.heap.size ≤ q) q := fun _ h => h
  have hbA : ¬ (fun q : Nat => s.heap.size ≤ q) b := Nat.not_le.mpr hbl
  refine lv_aload_n hx hb dL_law_307 rfl (lv_at hl 2 rfl) ?_
  refine lv_aload_n hx hb dL_law_308 rfl (lv_at hl 3 rfl) ?_
  refine lv_iload_n hx hb dL_law_309 rfl (lv_at hl 0 rfl) ?_
  refine lv_iconst (v := 1) hx hb dL_law_310 (by decide +kernel) ?_
  refine lv_iadd hx hb dL_law_311 ?_
  refine lv_topi (fun z1 ez1 => ?_)
  obtain rfl : z1 = 1 := ez1.trans (by decide +kernel)
  refine va_sld hx hb hX hbl hbA hS (in_d (by decide +kernel)) dL_law_312 ?_
  have hPc := hP.sub (ws' := [(x0, .inr (6, [.ref tp, .int 0, .ref nw, .ref dr, .ref rd, .ref sc, .ref sk, .ref fl, .ref ps, .int 0, .int 0, .ref sh]))]) [0] rfl
  have hDc := hD.sub (ws' := [(x0, .inr (6, [.ref tp, .int 0, .ref nw, .ref dr, .ref rd, .ref sc, .ref sk, .ref fl, .ref ps, .int 0, .int 0, .ref sh]))]) [0] (by decide) rfl
  have hKc := hK.sub (tys' := []) [] rfl
  have hFc := va_free (wc := [(x0, .inr (6, [.ref tp, .int 0, .ref nw, .ref dr, .ref rd, .ref sc, .ref sk, .ref fl, .ref ps, .int 0, .int 0, .ref sh]))]) hD hS hA [0] rfl
  refine va_calli (va_runV (As := [.int (xs (1 : Int32).toNatClampNeg)]) (rest := []) ⟨hx, hb, hml, hown, hts⟩ (c_X6_end l dC dI x0 tp nw dr rd sc sk fl ps sh H.size (xs (1 : Int32).toNatClampNeg) ) (cwV 1 hts (gV pq394 pq395 pq396 pq74 pq397) rfl rfl rfl (by decide +kernel) ⟨(Nat.le_of_ble_eq_true rfl), (Nat.le_of_ble_eq_true rfl)⟩) (pc_V hPc hDc hKc hN (va_recv hK hP (ci := 6) (q0 := 0) rfl rfl)) rfl rfl hl.1 rfl (lv_room (Nat.le_of_ble_eq_true rfl)) dL_law_313 ⟨(Nat.le_of_ble_eq_true rfl), (Nat.le_of_ble_eq_true rfl)⟩) hS (fun q _ h => hFc q h) hFc (fun r2 u t H1 locs ht hvm hr2 hB hz1 hk1 hS => ?_)
  obtain ⟨hP, hD⟩ := va_join (wr := [(tp, .inl (kB, 400, .inl (fun _ => 0))), (nw, .inr (1, [.ref nm, .ref nb, .int 0, .int 0, .int 0])), (dr, .inr (1, [.ref dm, .ref db, .int 0, .int 0, .int 0])), (rd, .inr (4, [.ref tp, .int 0, .int 0, .int 0, .int 0, .int 0])), (sc, .inr (5, [.ref nw, .ref ss, .int 0, .int (-1), .int 0, .int 0, .int 0, .int 0, .int 0])), (ps, .inl (kF, 10, .inr (.inr (.inr (.inr (fun _ => none)))))), (sh, .inl (kG, 2, .inr (.inr (.inr (.inr (fun _ => none)))))), (m0, .inr (7, [.ref mnw, .ref mhd, .ref mas, .ref mps, .ref msf, .ref mdt, .ref mhdd, .ref masd, .ref mpsd, .ref msfd, .ref mkp, .int 0, .ref mtp, .int 0, .int 0, .int 0, .int 0, .ref mld, .int 0, .ref mmd, .ref men, .ref mil, .ref mqu, .int 0, .int 0, .ref mbx])), (mnw, .inl (kI, 99, .inl (fun _ => 0))), (mhd, .inl (kI2, 99, .inl (fun _ => 0))), (mas, .inl (kI3, 99, .inl (fun _ => 0))), (mps, .inl (kI4, 990, .inl (fun _ => 0))), (msf, .inl (kI5, 198, .inl (fun _ => 0))), (mdt, .inl (kJ, 640, .inr (.inl (fun _ => 0)))), (mhdd, .inl (kJ2, 640, .inr (.inl (fun _ => 0)))), (masd, .inl (kJ3, 640, .inr (.inl (fun _ => 0)))), (mpsd, .inl (kJ4, 6400, .inr (.inl (fun _ => 0)))), (msfd, .inl (kJ5, 1280, .inr (.inl (fun _ => 0)))), (mkp, .inl (kZ, 2, .inl (fun _ => 0))), (mtp, .inl (kY, 400, .inl (fun _ => 0)))]) (w1 := []) hP hD [0] [1, 2, 3, 4, 5, 6, 7, 8, 9, 10, 11, 12, 13, 14, 15, 16, 17, 18, 19, 20] rfl rfl (by decide) (by decide) hk1 hFc va_P0 va_D0
  generalize H1 = H at hP hS ⊢
  have hP : va_P (dC, dI) vwCl [(tp, .inl (kB, 400, .inl (fun _ => 0))), (nw, .inr (1, [.ref nm, .ref nb, .int 0, .int 0, .int 0])), (dr, .inr (1, [.ref dm, .ref db, .int 0, .int 0, .int 0])), (rd, .inr (4, [.ref tp, .int 0, .int 0, .int 0, .int 0, .int 0])), (sc, .inr (5, [.ref nw, .ref ss, .int 0, .int (-1), .int 0, .int 0, .int 0, .int 0, .int 0])), (ps, .inl (kF, 10, .inr (.inr (.inr (.inr (fun _ => none)))))), (sh, .inl (kG, 2, .inr (.inr (.inr (.inr (fun _ => none)))))), (m0, .inr (7, [.ref mnw, .ref mhd, .ref mas, .ref mps, .ref msf, .ref mdt, .ref mhdd, .ref masd, .ref mpsd, .ref msfd, .ref mkp, .int 0, .ref mtp, .int 0, .int 0, .int 0, .int 0, .ref mld, .int 0, .ref mmd, .ref men, .ref mil, .ref mqu, .int 0, .int 0, .ref mbx])), (mnw, .inl (kI, 99, .inl (fun _ => 0))), (mhd, .inl (kI2, 99, .inl (fun _ => 0))), (mas, .inl (kI3, 99, .inl (fun _ => 0))), (mps, .inl (kI4, 990, .inl (fun _ => 0))), (msf, .inl (kI5, 198, .inl (fun _ => 0))), (mdt, .inl (kJ, 640, .inr (.inl (fun _ => 0)))), (mhdd, .inl (kJ2, 640, .inr (.inl (fun _ => 0)))), (masd, .inl (kJ3, 640, .inr (.inl (fun _ => 0)))), (mpsd, .inl (kJ4, 6400, .inr (.inl (fun _ => 0)))), (msfd, .inl (kJ5, 1280, .inr (.inl (fun _ => 0)))), (mkp, .inl (kZ, 2, .inl (fun _ => 0))), (mtp, .inl (kY, 400, .inl (fun _ => 0)))] H := hP
  have hD : va_D (fun q : Nat => s.heap.size ≤ q) [(tp, .inl (kB, 400, .inl (fun _ => 0))), (nw, .inr (1, [.ref nm, .ref nb, .int 0, .int 0, .int 0])), (dr, .inr (1, [.ref dm, .ref db, .int 0, .int 0, .int 0])), (rd, .inr (4, [.ref tp, .int 0, .int 0, .int 0, .int 0, .int 0])), (sc, .inr (5, [.ref nw, .ref ss, .int 0, .int (-1), .int 0, .int 0, .int 0, .int 0, .int 0])), (ps, .inl (kF, 10, .inr (.inr (.inr (.inr (fun _ => none)))))), (sh, .inl (kG, 2, .inr (.inr (.inr (.inr (fun _ => none)))))), (m0, .inr (7, [.ref mnw, .ref mhd, .ref mas, .ref mps, .ref msf, .ref mdt, .ref mhdd, .ref masd, .ref mpsd, .ref msfd, .ref mkp, .int 0, .ref mtp, .int 0, .int 0, .int 0, .int 0, .ref mld, .int 0, .ref mmd, .ref men, .ref mil, .ref mqu, .int 0, .int 0, .ref mbx])), (mnw, .inl (kI, 99, .inl (fun _ => 0))), (mhd, .inl (kI2, 99, .inl (fun _ => 0))), (mas, .inl (kI3, 99, .inl (fun _ => 0))), (mps, .inl (kI4, 990, .inl (fun _ => 0))), (msf, .inl (kI5, 198, .inl (fun _ => 0))), (mdt, .inl (kJ, 640, .inr (.inl (fun _ => 0)))), (mhdd, .inl (kJ2, 640, .inr (.inl (fun _ => 0)))), (masd, .inl (kJ3, 640, .inr (.inl (fun _ => 0)))), (mpsd, .inl (kJ4, 6400, .inr (.inl (fun _ => 0)))), (msfd, .inl (kJ5, 1280, .inr (.inl (fun _ => 0)))), (mkp, .inl (kZ, 2, .inl (fun _ => 0))), (mtp, .inl (kY, 400, .inl (fun _ => 0)))] := hD
  refine lv_aload_n hx hb dL_law_316 rfl (lv_at hl 1 rfl) ?_
  refine lv_aload_n hx hb dL_law_317 rfl (lv_at hl 3 rfl) ?_
  refine lv_iload_n hx hb dL_law_318 rfl (lv_at hl 0 rfl) ?_
  refine lv_iconst (v := 1) hx hb dL_law_319 (by decide +kernel) ?_
  refine lv_iadd hx hb dL_law_320 ?_
  refine lv_topi (fun z3 ez3 => ?_)
  obtain rfl : z3 = 1 := ez3.trans (by decide +kernel)
  refine va_sld hx hb hX hbl hbA hS (in_d (by decide +kernel)) dL_law_321 ?_
  have hPc := hP.sub (ws' := [(m0, .inr (7, [.ref mnw, .ref mhd, .ref mas, .ref mps, .ref msf, .ref mdt, .ref mhdd, .ref masd, .ref mpsd, .ref msfd, .ref mkp, .int 0, .ref mtp, .int 0, .int 0, .int 0, .int 0, .ref mld, .int 0, .ref mmd, .ref men, .ref mil, .ref mqu, .int 0, .int 0, .ref mbx]))]) [7] rfl
  have hDc := hD.sub (ws' := [(m0, .inr (7, [.ref mnw, .ref mhd, .ref mas, .ref mps, .ref msf, .ref mdt, .ref mhdd, .ref masd, .ref mpsd, .ref msfd, .ref mkp, .int 0, .ref mtp, .int 0, .int 0, .int 0, .int 0, .ref mld, .int 0, .ref mmd, .ref men, .ref mil, .ref mqu, .int 0, .int 0, .ref mbx]))]) [7] (by decide) rfl
  have hKc := hK.sub (tys' := []) [] rfl
  have hFc := va_free (wc := [(m0, .inr (7, [.ref mnw, .ref mhd, .ref mas, .ref mps, .ref msf, .ref mdt, .ref mhdd, .ref masd, .ref mpsd, .ref msfd, .ref mkp, .int 0, .ref mtp, .int 0, .int 0, .int 0, .int 0, .ref mld, .int 0, .ref mmd, .ref men, .ref mil, .ref mqu, .int 0, .int 0, .ref mbx]))]) hD hS hA [7] rfl
  refine va_calli (va_runV (As := [.int (xs (1 : Int32).toNatClampNeg)]) (rest := [.int r2]) ⟨hx, hb, hml, hown, hts⟩ (c_X7_end l dC dI m0 mnw mhd mas mps msf mdt mhdd masd mpsd msfd mkp mtp mld mmd men mil mqu mbx H.size (xs (1 : Int32).toNatClampNeg) ) (cwV 1 hts (gV pq1203 pq1204 pq1205 pq81 pq1206) rfl rfl rfl (by decide +kernel) ⟨(Nat.le_of_ble_eq_true rfl), (Nat.le_of_ble_eq_true rfl)⟩) (pc_V hPc hDc hKc hN (va_recv hK hP (ci := 7) (q0 := 7) rfl rfl)) rfl rfl hl.1 rfl (lv_room (Nat.le_of_ble_eq_true rfl)) dL_law_322 ⟨(Nat.le_of_ble_eq_true rfl), (Nat.le_of_ble_eq_true rfl)⟩) hS (fun q _ h => hFc q h) hFc (fun r4 u t H1 locs ht hvm hr4 hB hz1 hk1 hS => ?_)
  obtain ⟨hP, hD⟩ := va_join (wr := [(tp, .inl (kB, 400, .inl (fun _ => 0))), (nw, .inr (1, [.ref nm, .ref nb, .int 0, .int 0, .int 0])), (dr, .inr (1, [.ref dm, .ref db, .int 0, .int 0, .int 0])), (rd, .inr (4, [.ref tp, .int 0, .int 0, .int 0, .int 0, .int 0])), (sc, .inr (5, [.ref nw, .ref ss, .int 0, .int (-1), .int 0, .int 0, .int 0, .int 0, .int 0])), (ps, .inl (kF, 10, .inr (.inr (.inr (.inr (fun _ => none)))))), (sh, .inl (kG, 2, .inr (.inr (.inr (.inr (fun _ => none)))))), (mnw, .inl (kI, 99, .inl (fun _ => 0))), (mhd, .inl (kI2, 99, .inl (fun _ => 0))), (mas, .inl (kI3, 99, .inl (fun _ => 0))), (mps, .inl (kI4, 990, .inl (fun _ => 0))), (msf, .inl (kI5, 198, .inl (fun _ => 0))), (mdt, .inl (kJ, 640, .inr (.inl (fun _ => 0)))), (mhdd, .inl (kJ2, 640, .inr (.inl (fun _ => 0)))), (masd, .inl (kJ3, 640, .inr (.inl (fun _ => 0)))), (mpsd, .inl (kJ4, 6400, .inr (.inl (fun _ => 0)))), (msfd, .inl (kJ5, 1280, .inr (.inl (fun _ => 0)))), (mkp, .inl (kZ, 2, .inl (fun _ => 0))), (mtp, .inl (kY, 400, .inl (fun _ => 0)))]) (w1 := []) hP hD [7] [0, 1, 2, 3, 4, 5, 6, 8, 9, 10, 11, 12, 13, 14, 15, 16, 17, 18, 19] rfl rfl (by decide) (by decide) hk1 hFc va_P0 va_D0
  generalize H1 = H at hP hS ⊢
  have hP : va_P (dC, dI) vwCl [(tp, .inl (kB, 400, .inl (fun _ => 0))), (nw, .inr (1, [.ref nm, .ref nb, .int 0, .int 0, .int 0])), (dr, .inr (1, [.ref dm, .ref db, .int 0, .int 0, .int 0])), (rd, .inr (4, [.ref tp, .int 0, .int 0, .int 0, .int 0, .int 0])), (sc, .inr (5, [.ref nw, .ref ss, .int 0, .int (-1), .int 0, .int 0, .int 0, .int 0, .int 0])), (ps, .inl (kF, 10, .inr (.inr (.inr (.inr (fun _ => none)))))), (sh, .inl (kG, 2, .inr (.inr (.inr (.inr (fun _ => none)))))), (mnw, .inl (kI, 99, .inl (fun _ => 0))), (mhd, .inl (kI2, 99, .inl (fun _ => 0))), (mas, .inl (kI3, 99, .inl (fun _ => 0))), (mps, .inl (kI4, 990, .inl (fun _ => 0))), (msf, .inl (kI5, 198, .inl (fun _ => 0))), (mdt, .inl (kJ, 640, .inr (.inl (fun _ => 0)))), (mhdd, .inl (kJ2, 640, .inr (.inl (fun _ => 0)))), (masd, .inl (kJ3, 640, .inr (.inl (fun _ => 0)))), (mpsd, .inl (kJ4, 6400, .inr (.inl (fun _ => 0)))), (msfd, .inl (kJ5, 1280, .inr (.inl (fun _ => 0)))), (mkp, .inl (kZ, 2, .inl (fun _ => 0))), (mtp, .inl (kY, 400, .inl (fun _ => 0)))] H := hP
  have hD : va_D (fun q : Nat => s.heap.size ≤ q) [(tp, .inl (kB, 400, .inl (fun _ => 0))), (nw, .inr (1, [.ref nm, .ref nb, .int 0, .int 0, .int 0])), (dr, .inr (1, [.ref dm, .ref db, .int 0, .int 0, .int 0])), (rd, .inr (4, [.ref tp, .int 0, .int 0, .int 0, .int 0, .int 0])), (sc, .inr (5, [.ref nw, .ref ss, .int 0, .int (-1), .int 0, .int 0, .int 0, .int 0, .int 0])), (ps, .inl (kF, 10, .inr (.inr (.inr (.inr (fun _ => none)))))), (sh, .inl (kG, 2, .inr (.inr (.inr (.inr (fun _ => none)))))), (mnw, .inl (kI, 99, .inl (fun _ => 0))), (mhd, .inl (kI2, 99, .inl (fun _ => 0))), (mas, .inl (kI3, 99, .inl (fun _ => 0))), (mps, .inl (kI4, 990, .inl (fun _ => 0))), (msf, .inl (kI5, 198, .inl (fun _ => 0))), (mdt, .inl (kJ, 640, .inr (.inl (fun _ => 0)))), (mhdd, .inl (kJ2, 640, .inr (.inl (fun _ => 0)))), (masd, .inl (kJ3, 640, .inr (.inl (fun _ => 0)))), (mpsd, .inl (kJ4, 6400, .inr (.inl (fun _ => 0)))), (msfd, .inl (kJ5, 1280, .inr (.inl (fun _ => 0)))), (mkp, .inl (kZ, 2, .inl (fun _ => 0))), (mtp, .inl (kY, 400, .inl (fun _ => 0)))] := hD
  refine lv_icmp_eq (tgt := 1950) hx hb dL_law_325 (by decide) (fun c5 => ?_) (fun c5 => absurd (hr2.trans hr4.symm) c5)
  refine lv_iinc (v := 6) (lv' := [(3, .int 6), (2, .ref m0), (1, .ref x0), (0, .ref b)]) hx hb dL_law_1950 hl (k := 0) rfl (by decide +kernel) (by decide) rfl (fun ls hl => ?_)
  refine lv_goto (tgt := 18) hx hb dL_law_1953 (by decide) ?_
  refine lv_iload_n hx hb dL_law_18 rfl (lv_at hl 0 rfl) ?_
  refine lv_aload_n hx hb dL_law_19 rfl (lv_at hl 3 rfl) ?_
  refine va_slen hx hb hX hbl hbA hS dL_law_20 ?_
  refine lv_bipush (v := 6) hx hb dL_law_21 (by decide +kernel) ?_
  refine lv_isub hx hb dL_law_23 ?_
  refine lv_topi (fun z6 ez6 => ?_)
  obtain rfl : z6 = 0 := ez6.trans (by decide +kernel)
  refine lv_icmp_gt (tgt := 1956) hx hb dL_law_24 (by decide) (fun c7 => ?_) (fun c7 => absurd (by decide +kernel) c7)
  refine lv_iconst (v := 1) hx hb dL_law_1956 (by decide +kernel) ?_
  refine va_forget (fun q hq => hS.2.2 q hq) ?_
  refine W.widen (k := 600000) (n := 7302249) (Nat.le_of_ble_eq_true rfl) (Nat.le_of_ble_eq_true rfl) ?_
  refine W.base ?_
  exact lw_ret (Drawn.sameBut.refl s.drawn lw_cs) hx hb hr hlocks dL_law_1957

set_option maxHeartbeats 4000000 in
set_option maxRecDepth 100000 in
theorem lw_case2 {p : Program} {e : Env} {s : State} {m : MethodId} {below : List Frame} {meth : Method} {c : Code} (l : Launch) {b : Nat} {xs : Nat → Int32} {dC : Nat → ClassId} {dI : Nat → Nat → Nat} (C0 : lw_At p s m meth c b 6 xs) {x0 tp nw dr rd sc sk fl ps sh nm nb dm db ss m0 mnw mhd mas mps msf mdt mhdd masd mpsd msfd mkp mtp mld mmd men mil mqu mbx : Nat} {kB kF kG kI kI2 kI3 kI4 kI5 kJ kJ2 kJ3 kJ4 kJ5 kZ kY : ClassId} {H : Heap} {locs : List Loc} {ls : Array Slot} (hK : va_K (dC, dI) vwCl [(kB, .byte), (kF, .object RX1), (kG, .object RX1), (kI, .int), (kI2, .int), (kI3, .int), (kI4, .int), (kI5, .int), (kJ, .long), (kJ2, .long), (kJ3, .long), (kJ4, .long), (kJ5, .long), (kZ, .boolean), (kY, .byte)] s) (hP : va_P (dC, dI) vwCl [(x0, .inr (6, [.ref tp, .int 0, .ref nw, .ref dr, .ref rd, .ref sc, .ref sk, .ref fl, .ref ps, .int 0, .int 0, .ref sh])), (tp, .inl (kB, 400, .inl (fun _ => 0))), (nw, .inr (1, [.ref nm, .ref nb, .int 0, .int 0, .int 0])), (dr, .inr (1, [.ref dm, .ref db, .int 0, .int 0, .int 0])), (rd, .inr (4, [.ref tp, .int 0, .int 0, .int 0, .int 0, .int 0])), (sc, .inr (5, [.ref nw, .ref ss, .int 0, .int (-1), .int 0, .int 0, .int 0, .int 0, .int 0])), (ps, .inl (kF, 10, .inr (.inr (.inr (.inr (fun _ => none)))))), (sh, .inl (kG, 2, .inr (.inr (.inr (.inr (fun _ => none)))))), (m0, .inr (7, [.ref mnw, .ref mhd, .ref mas, .ref mps, .ref msf, .ref mdt, .ref mhdd, .ref masd, .ref mpsd, .ref msfd, .ref mkp, .int 0, .ref mtp, .int 0, .int 0, .int 0, .int 0, .ref mld, .int 0, .ref mmd, .ref men, .ref mil, .ref mqu, .int 0, .int 0, .ref mbx])), (mnw, .inl (kI, 99, .inl (fun _ => 0))), (mhd, .inl (kI2, 99, .inl (fun _ => 0))), (mas, .inl (kI3, 99, .inl (fun _ => 0))), (mps, .inl (kI4, 990, .inl (fun _ => 0))), (msf, .inl (kI5, 198, .inl (fun _ => 0))), (mdt, .inl (kJ, 640, .inr (.inl (fun _ => 0)))), (mhdd, .inl (kJ2, 640, .inr (.inl (fun _ => 0)))), (masd, .inl (kJ3, 640, .inr (.inl (fun _ => 0)))), (mpsd, .inl (kJ4, 6400, .inr (.inl (fun _ => 0)))), (msfd, .inl (kJ5, 1280, .inr (.inl (fun _ => 0)))), (mkp, .inl (kZ, 2, .inl (fun _ => 0))), (mtp, .inl (kY, 400, .inl (fun _ => 0)))] H) (hD : va_D (fun q : Nat => s.heap.size ≤ q) [(x0, .inr (6, [.ref tp, .int 0, .ref nw, .ref dr, .ref rd, .ref sc, .ref sk, .ref fl, .ref ps, .int 0, .int 0, .ref sh])), (tp, .inl (kB, 400, .inl (fun _ => 0))), (nw, .inr (1, [.ref nm, .ref nb, .int 0, .int 0, .int 0])), (dr, .inr (1, [.ref dm, .ref db, .int 0, .int 0, .int 0])), (rd, .inr (4, [.ref tp, .int 0, .int 0, .int 0, .int 0, .int 0])), (sc, .inr (5, [.ref nw, .ref ss, .int 0, .int (-1), .int 0, .int 0, .int 0, .int 0, .int 0])), (ps, .inl (kF, 10, .inr (.inr (.inr (.inr (fun _ => none)))))), (sh, .inl (kG, 2, .inr (.inr (.inr (.inr (fun _ => none)))))), (m0, .inr (7, [.ref mnw, .ref mhd, .ref mas, .ref mps, .ref msf, .ref mdt, .ref mhdd, .ref masd, .ref mpsd, .ref msfd, .ref mkp, .int 0, .ref mtp, .int 0, .int 0, .int 0, .int 0, .ref mld, .int 0, .ref mmd, .ref men, .ref mil, .ref mqu, .int 0, .int 0, .ref mbx])), (mnw, .inl (kI, 99, .inl (fun _ => 0))), (mhd, .inl (kI2, 99, .inl (fun _ => 0))), (mas, .inl (kI3, 99, .inl (fun _ => 0))), (mps, .inl (kI4, 990, .inl (fun _ => 0))), (msf, .inl (kI5, 198, .inl (fun _ => 0))), (mdt, .inl (kJ, 640, .inr (.inl (fun _ => 0)))), (mhdd, .inl (kJ2, 640, .inr (.inl (fun _ => 0)))), (masd, .inl (kJ3, 640, .inr (.inl (fun _ => 0)))), (mpsd, .inl (kJ4, 6400, .inr (.inl (fun _ => 0)))), (msfd, .inl (kJ5, 1280, .inr (.inl (fun _ => 0)))), (mkp, .inl (kZ, 2, .inl (fun _ => 0))), (mtp, .inl (kY, 400, .inl (fun _ => 0)))]) (hS : va_S (fun q : Nat => s.heap.size ≤ q) s.heap H locs) (hl : lv_has ls 4 [(3, .int 0), (2, .ref m0), (1, .ref x0), (0, .ref b)]) : W p l e room_1 s m #[Value.ref b] below meth c H locs 110 27528 (lw_Z below #[Value.ref b] s) (F0 m 330 ls []) := by
  obtain ⟨hx, hb, hr, hml, hown, htl, hX, hbl, hlocks, hgv⟩ := id C0
  have hb : c.code = cL_law := hb
  have hown : s.vm.findClass RL = some m.cls := hown
  have hts : ∀ w ∈ pw, w.before #[Value.ref b] s = true := fun w h => htl w (pw_tbl h)
  have hN : xN s := xN_of htl
  have hA : ∀ q : Nat, s.heap.size ≤ q → (fun q : Nat => s.heap.size ≤ q) q := fun _ h => h
  have hbA : ¬ (fun q : Nat => s.heap.size ≤ q) b := Nat.not_le.mpr hbl
  refine lv_aload_n hx hb dL_law_330 rfl (lv_at hl 2 rfl) ?_
  have hPc := hP.sub (ws' := [(x0, .inr (6, [.ref tp, .int 0, .ref nw, .ref dr, .ref rd, .ref sc, .ref sk, .ref fl, .ref ps, .int 0, .int 0, .ref sh])), (tp, .inl (kB, 400, .inl (fun _ => 0))), (nw, .inr (1, [.ref nm, .ref nb, .int 0, .int 0, .int 0])), (dr, .inr (1, [.ref dm, .ref db, .int 0, .int 0, .int 0])), (rd, .inr (4, [.ref tp, .int 0, .int 0, .int 0, .int 0, .int 0])), (sc, .inr (5, [.ref nw, .ref ss, .int 0, .int (-1), .int 0, .int 0, .int 0, .int 0, .int 0]))]) [0, 1, 2, 3, 4, 5] rfl
  have hDc := hD.sub (ws' := [(x0, .inr (6, [.ref tp, .int 0, .ref nw, .ref dr, .ref rd, .ref sc, .ref sk, .ref fl, .ref ps, .int 0, .int 0, .ref sh])), (tp, .inl (kB, 400, .inl (fun _ => 0))), (nw, .inr (1, [.ref nm, .ref nb, .int 0, .int 0, .int 0])), (dr, .inr (1, [.ref dm, .ref db, .int 0, .int 0, .int 0])), (rd, .inr (4, [.ref tp, .int 0, .int 0, .int 0, .int 0, .int 0])), (sc, .inr (5, [.ref nw, .ref ss, .int 0, .int (-1), .int 0, .int 0, .int 0, .int 0, .int 0]))]) [0, 1, 2, 3, 4, 5] (by decide) rfl
  have hKc := hK.sub (tys' := [(kB, .byte)]) [0] rfl
  have hFc := va_free (wc := [(x0, .inr (6, [.ref tp, .int 0, .ref nw, .ref dr, .ref rd, .ref sc, .ref sk, .ref fl, .ref ps, .int 0, .int 0, .ref sh])), (tp, .inl (kB, 400, .inl (fun _ => 0))), (nw, .inr (1, [.ref nm, .ref nb, .int 0, .int 0, .int 0])), (dr, .inr (1, [.ref dm, .ref db, .int 0, .int 0, .int 0])), (rd, .inr (4, [.ref tp, .int 0, .int 0, .int 0, .int 0, .int 0])), (sc, .inr (5, [.ref nw, .ref ss, .int 0, .int (-1), .int 0, .int 0, .int 0, .int 0, .int 0]))]) hD hS hA [0, 1, 2, 3, 4, 5] rfl
  refine va_calli (va_runV (As := []) (rest := []) ⟨hx, hb, hml, hown, hts⟩ (c_X6_tell l dC dI x0 tp nw dr rd sc sk fl ps sh nm nb dm db ss kB H.size  ) (cwV 0 hts (gV pq398 pq399 pq400 pq74 pq401) rfl rfl rfl (by decide +kernel) ⟨(Nat.le_of_ble_eq_true rfl), (Nat.le_of_ble_eq_true rfl)⟩) (pc_V hPc hDc hKc hN (va_recv hK hP (ci := 6) (q0 := 0) rfl rfl)) rfl rfl hl.1 rfl (lv_room (Nat.le_of_ble_eq_true rfl)) dL_law_331 ⟨(Nat.le_of_ble_eq_true rfl), (Nat.le_of_ble_eq_true rfl)⟩) hS (fun q _ h => hFc q h) hFc (fun r1 u t H1 locs ht hvm hr1 hB hz1 hk1 hS => ?_)
  obtain ⟨hP, hD⟩ := va_join (wr := [(ps, .inl (kF, 10, .inr (.inr (.inr (.inr (fun _ => none)))))), (sh, .inl (kG, 2, .inr (.inr (.inr (.inr (fun _ => none)))))), (m0, .inr (7, [.ref mnw, .ref mhd, .ref mas, .ref mps, .ref msf, .ref mdt, .ref mhdd, .ref masd, .ref mpsd, .ref msfd, .ref mkp, .int 0, .ref mtp, .int 0, .int 0, .int 0, .int 0, .ref mld, .int 0, .ref mmd, .ref men, .ref mil, .ref mqu, .int 0, .int 0, .ref mbx])), (mnw, .inl (kI, 99, .inl (fun _ => 0))), (mhd, .inl (kI2, 99, .inl (fun _ => 0))), (mas, .inl (kI3, 99, .inl (fun _ => 0))), (mps, .inl (kI4, 990, .inl (fun _ => 0))), (msf, .inl (kI5, 198, .inl (fun _ => 0))), (mdt, .inl (kJ, 640, .inr (.inl (fun _ => 0)))), (mhdd, .inl (kJ2, 640, .inr (.inl (fun _ => 0)))), (masd, .inl (kJ3, 640, .inr (.inl (fun _ => 0)))), (mpsd, .inl (kJ4, 6400, .inr (.inl (fun _ => 0)))), (msfd, .inl (kJ5, 1280, .inr (.inl (fun _ => 0)))), (mkp, .inl (kZ, 2, .inl (fun _ => 0))), (mtp, .inl (kY, 400, .inl (fun _ => 0)))]) (w1 := []) hP hD [0, 1, 2, 3, 4, 5] [6, 7, 8, 9, 10, 11, 12, 13, 14, 15, 16, 17, 18, 19, 20] rfl rfl (by decide) (by decide) hk1 hFc va_P0 va_D0
  generalize H1 = H at hP hS ⊢
  have hP : va_P (dC, dI) vwCl [(ps, .inl (kF, 10, .inr (.inr (.inr (.inr (fun _ => none)))))), (sh, .inl (kG, 2, .inr (.inr (.inr (.inr (fun _ => none)))))), (m0, .inr (7, [.ref mnw, .ref mhd, .ref mas, .ref mps, .ref msf, .ref mdt, .ref mhdd, .ref masd, .ref mpsd, .ref msfd, .ref mkp, .int 0, .ref mtp, .int 0, .int 0, .int 0, .int 0, .ref mld, .int 0, .ref mmd, .ref men, .ref mil, .ref mqu, .int 0, .int 0, .ref mbx])), (mnw, .inl (kI, 99, .inl (fun _ => 0))), (mhd, .inl (kI2, 99, .inl (fun _ => 0))), (mas, .inl (kI3, 99, .inl (fun _ => 0))), (mps, .inl (kI4, 990, .inl (fun _ => 0))), (msf, .inl (kI5, 198, .inl (fun _ => 0))), (mdt, .inl (kJ, 640, .inr (.inl (fun _ => 0)))), (mhdd, .inl (kJ2, 640, .inr (.inl (fun _ => 0)))), (masd, .inl (kJ3, 640, .inr (.inl (fun _ => 0)))), (mpsd, .inl (kJ4, 6400, .inr (.inl (fun _ => 0)))), (msfd, .inl (kJ5, 1280, .inr (.inl (fun _ => 0)))), (mkp, .inl (kZ, 2, .inl (fun _ => 0))), (mtp, .inl (kY, 400, .inl (fun _ => 0)))] H := hP
  have hD : va_D (fun q : Nat => s.heap.size ≤ q) [(ps, .inl (kF, 10, .inr (.inr (.inr (.inr (fun _ => none)))))), (sh, .inl (kG, 2, .inr (.inr (.inr (.inr (fun _ => none)))))), (m0, .inr (7, [.ref mnw, .ref mhd, .ref mas, .ref mps, .ref msf, .ref mdt, .ref mhdd, .ref masd, .ref mpsd, .ref msfd, .ref mkp, .int 0, .ref mtp, .int 0, .int 0, .int 0, .int 0, .ref mld, .int 0, .ref mmd, .ref men, .ref mil, .ref mqu, .int 0, .int 0, .ref mbx])), (mnw, .inl (kI, 99, .inl (fun _ => 0))), (mhd, .inl (kI2, 99, .inl (fun _ => 0))), (mas, .inl (kI3, 99, .inl (fun _ => 0))), (mps, .inl (kI4, 990, .inl (fun _ => 0))), (msf, .inl (kI5, 198, .inl (fun _ => 0))), (mdt, .inl (kJ, 640, .inr (.inl (fun _ => 0)))), (mhdd, .inl (kJ2, 640, .inr (.inl (fun _ => 0)))), (masd, .inl (kJ3, 640, .inr (.inl (fun _ => 0)))), (mpsd, .inl (kJ4, 6400, .inr (.inl (fun _ => 0)))), (msfd, .inl (kJ5, 1280, .inr (.inl (fun _ => 0)))), (mkp, .inl (kZ, 2, .inl (fun _ => 0))), (mtp, .inl (kY, 400, .inl (fun _ => 0)))] := hD
  subst hr1
  refine lv_aload_n hx hb dL_law_334 rfl (lv_at hl 1 rfl) ?_
  have hPc := hP.sub (ws' := [(m0, .inr (7, [.ref mnw, .ref mhd, .ref mas, .ref mps, .ref msf, .ref mdt, .ref mhdd, .ref masd, .ref mpsd, .ref msfd, .ref mkp, .int 0, .ref mtp, .int 0, .int 0, .int 0, .int 0, .ref mld, .int 0, .ref mmd, .ref men, .ref mil, .ref mqu, .int 0, .int 0, .ref mbx])), (mhd, .inl (kI2, 99, .inl (fun _ => 0))), (mhdd, .inl (kJ2, 640, .inr (.inl (fun _ => 0)))), (mnw, .inl (kI, 99, .inl (fun _ => 0))), (mdt, .inl (kJ, 640, .inr (.inl (fun _ => 0))))]) [2, 4, 9, 3, 8] rfl
  have hDc := hD.sub (ws' := [(m0, .inr (7, [.ref mnw, .ref mhd, .ref mas, .ref mps, .ref msf, .ref mdt, .ref mhdd, .ref masd, .ref mpsd, .ref msfd, .ref mkp, .int 0, .ref mtp, .int 0, .int 0, .int 0, .int 0, .ref mld, .int 0, .ref mmd, .ref men, .ref mil, .ref mqu, .int 0, .int 0, .ref mbx])), (mhd, .inl (kI2, 99, .inl (fun _ => 0))), (mhdd, .inl (kJ2, 640, .inr (.inl (fun _ => 0)))), (mnw, .inl (kI, 99, .inl (fun _ => 0))), (mdt, .inl (kJ, 640, .inr (.inl (fun _ => 0))))]) [2, 4, 9, 3, 8] (by decide) rfl
  have hKc := hK.sub (tys' := [(kI2, .int), (kJ2, .long), (kI, .int), (kJ, .long)]) [4, 9, 3, 8] rfl
  have hFc := va_free (wc := [(m0, .inr (7, [.ref mnw, .ref mhd, .ref mas, .ref mps, .ref msf, .ref mdt, .ref mhdd, .ref masd, .ref mpsd, .ref msfd, .ref mkp, .int 0, .ref mtp, .int 0, .int 0, .int 0, .int 0, .ref mld, .int 0, .ref mmd, .ref men, .ref mil, .ref mqu, .int 0, .int 0, .ref mbx])), (mhd, .inl (kI2, 99, .inl (fun _ => 0))), (mhdd, .inl (kJ2, 640, .inr (.inl (fun _ => 0)))), (mnw, .inl (kI, 99, .inl (fun _ => 0))), (mdt, .inl (kJ, 640, .inr (.inl (fun _ => 0))))]) hD hS hA [2, 4, 9, 3, 8] rfl
  refine va_calli (va_runV (As := []) (rest := [.int 0]) ⟨hx, hb, hml, hown, hts⟩ (c_X7_tell l dC dI m0 mnw mhd mas mps msf mdt mhdd masd mpsd msfd mkp mtp mld mmd men mil mqu mbx kI2 kJ2 kI kJ H.size  ) (cwV 0 hts (gV pq1207 pq1208 pq1209 pq81 pq1210) rfl rfl rfl (by decide +kernel) ⟨(Nat.le_of_ble_eq_true rfl), (Nat.le_of_ble_eq_true rfl)⟩) (pc_V hPc hDc hKc hN (va_recv hK hP (ci := 7) (q0 := 2) rfl rfl)) rfl rfl hl.1 rfl (lv_room (Nat.le_of_ble_eq_true rfl)) dL_law_335 ⟨(Nat.le_of_ble_eq_true rfl), (Nat.le_of_ble_eq_true rfl)⟩) hS (fun q _ h => hFc q h) hFc (fun r2 u t H1 locs ht hvm hr2 hB hz1 hk1 hS => ?_)
  obtain ⟨hP, hD⟩ := va_join (wr := [(ps, .inl (kF, 10, .inr (.inr (.inr (.inr (fun _ => none)))))), (sh, .inl (kG, 2, .inr (.inr (.inr (.inr (fun _ => none)))))), (mas, .inl (kI3, 99, .inl (fun _ => 0))), (mps, .inl (kI4, 990, .inl (fun _ => 0))), (msf, .inl (kI5, 198, .inl (fun _ => 0))), (masd, .inl (kJ3, 640, .inr (.inl (fun _ => 0)))), (mpsd, .inl (kJ4, 6400, .inr (.inl (fun _ => 0)))), (msfd, .inl (kJ5, 1280, .inr (.inl (fun _ => 0)))), (mkp, .inl (kZ, 2, .inl (fun _ => 0))), (mtp, .inl (kY, 400, .inl (fun _ => 0)))]) (w1 := []) hP hD [2, 4, 9, 3, 8] [0, 1, 5, 6, 7, 10, 11, 12, 13, 14] rfl rfl (by decide) (by decide) hk1 hFc va_P0 va_D0
  generalize H1 = H at hP hS ⊢
  have hP : va_P (dC, dI) vwCl [(ps, .inl (kF, 10, .inr (.inr (.inr (.inr (fun _ => none)))))), (sh, .inl (kG, 2, .inr (.inr (.inr (.inr (fun _ => none)))))), (mas, .inl (kI3, 99, .inl (fun _ => 0))), (mps, .inl (kI4, 990, .inl (fun _ => 0))), (msf, .inl (kI5, 198, .inl (fun _ => 0))), (masd, .inl (kJ3, 640, .inr (.inl (fun _ => 0)))), (mpsd, .inl (kJ4, 6400, .inr (.inl (fun _ => 0)))), (msfd, .inl (kJ5, 1280, .inr (.inl (fun _ => 0)))), (mkp, .inl (kZ, 2, .inl (fun _ => 0))), (mtp, .inl (kY, 400, .inl (fun _ => 0)))] H := hP
  have hD : va_D (fun q : Nat => s.heap.size ≤ q) [(ps, .inl (kF, 10, .inr (.inr (.inr (.inr (fun _ => none)))))), (sh, .inl (kG, 2, .inr (.inr (.inr (.inr (fun _ => none)))))), (mas, .inl (kI3, 99, .inl (fun _ => 0))), (mps, .inl (kI4, 990, .inl (fun _ => 0))), (msf, .inl (kI5, 198, .inl (fun _ => 0))), (masd, .inl (kJ3, 640, .inr (.inl (fun _ => 0)))), (mpsd, .inl (kJ4, 6400, .inr (.inl (fun _ => 0)))), (msfd, .inl (kJ5, 1280, .inr (.inl (fun _ => 0)))), (mkp, .inl (kZ, 2, .inl (fun _ => 0))), (mtp, .inl (kY, 400, .inl (fun _ => 0)))] := hD
  subst hr2
  refine lv_icmp_eq (tgt := 1950) hx hb dL_law_338 (by decide) (fun c3 => ?_) (fun c3 => absurd (by decide +kernel) c3)
  refine lv_iinc (v := 6) (lv' := [(3, .int 6), (2, .ref m0), (1, .ref x0), (0, .ref b)]) hx hb dL_law_1950 hl (k := 0) rfl (by decide +kernel) (by decide) rfl (fun ls hl => ?_)
  refine lv_goto (tgt := 18) hx hb dL_law_1953 (by decide) ?_
  refine lv_iload_n hx hb dL_law_18 rfl (lv_at hl 0 rfl) ?_
  refine lv_aload_n hx hb dL_law_19 rfl (lv_at hl 3 rfl) ?_
  refine va_slen hx hb hX hbl hbA hS dL_law_20 ?_
  refine lv_bipush (v := 6) hx hb dL_law_21 (by decide +kernel) ?_
  refine lv_isub hx hb dL_law_23 ?_
  refine lv_topi (fun z4 ez4 => ?_)
  obtain rfl : z4 = 0 := ez4.trans (by decide +kernel)
  refine lv_icmp_gt (tgt := 1956) hx hb dL_law_24 (by decide) (fun c5 => ?_) (fun c5 => absurd (by decide +kernel) c5)
  refine lv_iconst (v := 1) hx hb dL_law_1956 (by decide +kernel) ?_
  refine va_forget (fun q hq => hS.2.2 q hq) ?_
  refine W.widen (k := 600000) (n := 7302249) (Nat.le_of_ble_eq_true rfl) (Nat.le_of_ble_eq_true rfl) ?_
  refine W.base ?_
  exact lw_ret (Drawn.sameBut.refl s.drawn lw_cs) hx hb hr hlocks dL_law_1957

set_option maxHeartbeats 4000000 in
set_option maxRecDepth 100000 in
theorem lw_case3 {p : Program} {e : Env} {s : State} {m : MethodId} {below : List Frame} {meth : Method} {c : Code} (l : Launch) {b : Nat} {xs : Nat → Int32} {dC : Nat → ClassId} {dI : Nat → Nat → Nat} (C0 : lw_At p s m meth c b 6 xs) {x0 tp nw dr rd sc sk fl ps sh nm nb dm db ss m0 mnw mhd mas mps msf mdt mhdd masd mpsd msfd mkp mtp mld mmd men mil mqu mbx : Nat} {kB kF kG kI kI2 kI3 kI4 kI5 kJ kJ2 kJ3 kJ4 kJ5 kZ kY : ClassId} {H : Heap} {locs : List Loc} {ls : Array Slot} (hK : va_K (dC, dI) vwCl [(kB, .byte), (kF, .object RX1), (kG, .object RX1), (kI, .int), (kI2, .int), (kI3, .int), (kI4, .int), (kI5, .int), (kJ, .long), (kJ2, .long), (kJ3, .long), (kJ4, .long), (kJ5, .long), (kZ, .boolean), (kY, .byte)] s) (hP : va_P (dC, dI) vwCl [(x0, .inr (6, [.ref tp, .int 0, .ref nw, .ref dr, .ref rd, .ref sc, .ref sk, .ref fl, .ref ps, .int 0, .int 0, .ref sh])), (tp, .inl (kB, 400, .inl (fun _ => 0))), (nw, .inr (1, [.ref nm, .ref nb, .int 0, .int 0, .int 0])), (dr, .inr (1, [.ref dm, .ref db, .int 0, .int 0, .int 0])), (rd, .inr (4, [.ref tp, .int 0, .int 0, .int 0, .int 0, .int 0])), (sc, .inr (5, [.ref nw, .ref ss, .int 0, .int (-1), .int 0, .int 0, .int 0, .int 0, .int 0])), (ps, .inl (kF, 10, .inr (.inr (.inr (.inr (fun _ => none)))))), (sh, .inl (kG, 2, .inr (.inr (.inr (.inr (fun _ => none)))))), (m0, .inr (7, [.ref mnw, .ref mhd, .ref mas, .ref mps, .ref msf, .ref mdt, .ref mhdd, .ref masd, .ref mpsd, .ref msfd, .ref mkp, .int 0, .ref mtp, .int 0, .int 0, .int 0, .int 0, .ref mld, .int 0, .ref mmd, .ref men, .ref mil, .ref mqu, .int 0, .int 0, .ref mbx])), (mnw, .inl (kI, 99, .inl (fun _ => 0))), (mhd, .inl (kI2, 99, .inl (fun _ => 0))), (mas, .inl (kI3, 99, .inl (fun _ => 0))), (mps, .inl (kI4, 990, .inl (fun _ => 0))), (msf, .inl (kI5, 198, .inl (fun _ => 0))), (mdt, .inl (kJ, 640, .inr (.inl (fun _ => 0)))), (mhdd, .inl (kJ2, 640, .inr (.inl (fun _ => 0)))), (masd, .inl (kJ3, 640, .inr (.inl (fun _ => 0)))), (mpsd, .inl (kJ4, 6400, .inr (.inl (fun _ => 0)))), (msfd, .inl (kJ5, 1280, .inr (.inl (fun _ => 0)))), (mkp, .inl (kZ, 2, .inl (fun _ => 0))), (mtp, .inl (kY, 400, .inl (fun _ => 0)))] H) (hD : va_D (fun q : Nat => s.heap.size ≤ q) [(x0, .inr (6, [.ref tp, .int 0, .ref nw, .ref dr, .ref rd, .ref sc, .ref sk, .ref fl, .ref ps, .int 0, .int 0, .ref sh])), (tp, .inl (kB, 400, .inl (fun _ => 0))), (nw, .inr (1, [.ref nm, .ref nb, .int 0, .int 0, .int 0])), (dr, .inr (1, [.ref dm, .ref db, .int 0, .int 0, .int 0])), (rd, .inr (4, [.ref tp, .int 0, .int 0, .int 0, .int 0, .int 0])), (sc, .inr (5, [.ref nw, .ref ss, .int 0, .int (-1), .int 0, .int 0, .int 0, .int 0, .int 0])), (ps, .inl (kF, 10, .inr (.inr (.inr (.inr (fun _ => none)))))), (sh, .inl (kG, 2, .inr (.inr (.inr (.inr (fun _ => none)))))), (m0, .inr (7, [.ref mnw, .ref mhd, .ref mas, .ref mps, .ref msf, .ref mdt, .ref mhdd, .ref masd, .ref mpsd, .ref msfd, .ref mkp, .int 0, .ref mtp, .int 0, .int 0, .int 0, .int 0, .ref mld, .int 0, .ref mmd, .ref men, .ref mil, .ref mqu, .int 0, .int 0, .ref mbx])), (mnw, .inl (kI, 99, .inl (fun _ => 0))), (mhd, .inl (kI2, 99, .inl (fun _ => 0))), (mas, .inl (kI3, 99, .inl (fun _ => 0))), (mps, .inl (kI4, 990, .inl (fun _ => 0))), (msf, .inl (kI5, 198, .inl (fun _ => 0))), (mdt, .inl (kJ, 640, .inr (.inl (fun _ => 0)))), (mhdd, .inl (kJ2, 640, .inr (.inl (fun _ => 0)))), (masd, .inl (kJ3, 640, .inr (.inl (fun _ => 0)))), (mpsd, .inl (kJ4, 6400, .inr (.inl (fun _ => 0)))), (msfd, .inl (kJ5, 1280, .inr (.inl (fun _ => 0)))), (mkp, .inl (kZ, 2, .inl (fun _ => 0))), (mtp, .inl (kY, 400, .inl (fun _ => 0)))]) (hS : va_S (fun q : Nat => s.heap.size ≤ q) s.heap H locs) (hl : lv_has ls 4 [(3, .int 0), (2, .ref m0), (1, .ref x0), (0, .ref b)]) : W p l e room_1 s m #[Value.ref b] below meth c H locs 110 27528 (lw_Z below #[Value.ref b] s) (F0 m 343 ls []) := by
  obtain ⟨hx, hb, hr, hml, hown, htl, hX, hbl, hlocks, hgv⟩ := id C0
  have hb : c.code = cL_law := hb
  have hown : s.vm.findClass RL = some m.cls := hown
  have hts : ∀ w ∈ pw, w.before #[Value.ref b] s = true := fun w h => htl w (pw_tbl h)
  have hN : xN s := xN_of htl
  have hA : ∀ q : Nat, s.heap.size ≤ q → (fun q : Nat => s.heap.size ≤ q) q := fun _ h => h
  have hbA : ¬ (fun q : Nat => s.heap.size ≤ q) b := Nat.not_le.mpr hbl
  refine lv_aload_n hx hb dL_law_343 rfl (lv_at hl 2 rfl) ?_
  refine lv_aload_n hx hb dL_law_344 rfl (lv_at hl 3 rfl) ?_
  refine lv_iload_n hx hb dL_law_345 rfl (lv_at hl 0 rfl) ?_
  refine lv_iconst (v := 1) hx hb dL_law_346 (by decide +kernel) ?_
  refine lv_iadd hx hb dL_law_347 ?_
  refine lv_topi (fun z1 ez1 => ?_)
  obtain rfl : z1 = 1 := ez1.trans (by decide +kernel)
  refine va_sld hx hb hX hbl hbA hS (in_d (by decide +kernel)) dL_law_348 ?_
  refine lv_aload_n hx hb dL_law_349 rfl (lv_at hl 3 rfl) ?_
  refine lv_iload_n hx hb dL_law_350 rfl (lv_at hl 0 rfl) ?_
  refine lv_iconst (v := 2) hx hb dL_law_351 (by decide +kernel) ?_
  refine lv_iadd hx hb dL_law_352 ?_
  refine lv_topi (fun z2 ez2 => ?_)
  obtain rfl : z2 = 2 := ez2.trans (by decide +kernel)
  refine va_sld hx hb hX hbl hbA hS (in_d (by decide +kernel)) dL_law_353 ?_
  refine lv_aload_n hx hb dL_law_354 rfl (lv_at hl 3 rfl) ?_
  refine lv_iload_n hx hb dL_law_355 rfl (lv_at hl 0 rfl) ?_
  refine lv_iconst (v := 3) hx hb dL_law_356 (by decide +kernel) ?_
  refine lv_iadd hx hb dL_law_357 ?_
  refine lv_topi (fun z3 ez3 => ?_)
  obtain rfl : z3 = 3 := ez3.trans (by decide +kernel)
  refine va_sld hx hb hX hbl hbA hS (in_d (by decide +kernel)) dL_law_358 ?_
  have hPc := hP.sub (ws' := [(x0, .inr (6, [.ref tp, .int 0, .ref nw, .ref dr, .ref rd, .ref sc, .ref sk, .ref fl, .ref ps, .int 0, .int 0, .ref sh])), (nw, .inr (1, [.ref nm, .ref nb, .int 0, .int 0, .int 0]))]) [0, 2] rfl
  have hDc := hD.sub (ws' := [(x0, .inr (6, [.ref tp, .int 0, .ref nw, .ref dr, .ref rd, .ref sc, .ref sk, .ref fl, .ref ps, .int 0, .int 0, .ref sh])), (nw, .inr (1, [.ref nm, .ref nb, .int 0, .int 0, .int 0]))]) [0, 2] (by decide) rfl
  have hKc := hK.sub (tys' := []) [] rfl
  refine ro_i (va_runV (As := [.int (xs (1 : Int32).toNatClampNeg), .int (xs (2 : Int32).toNatClampNeg), .int (xs (3 : Int32).toNatClampNeg)]) (rest := []) ⟨hx, hb, hml, hown, hts⟩ (c_X6_place l dC dI x0 tp nw dr rd sc sk fl ps sh nm nb H.size (xs (1 : Int32).toNatClampNeg) (xs (2 : Int32).toNatClampNeg) (xs (3 : Int32).toNatClampNeg) ) (cwV 3 hts (gV pq632 pq633 pq634 pq74 pq635) rfl rfl rfl (by decide +kernel) ⟨(Nat.le_of_ble_eq_true rfl), (Nat.le_of_ble_eq_true rfl)⟩) (pc_V hPc hDc hKc hN (va_recv hK hP (ci := 6) (q0 := 0) rfl rfl)) rfl rfl hl.1 rfl (lv_room (Nat.le_of_ble_eq_true rfl)) dL_law_359 ⟨(Nat.le_of_ble_eq_true rfl), (Nat.le_of_ble_eq_true rfl)⟩) hS hP (fun r4 H locs hr4 hP hS => ?_)
  subst hr4
  refine lv_aload_n hx hb dL_law_362 rfl (lv_at hl 1 rfl) ?_
  refine lv_aload_n hx hb dL_law_363 rfl (lv_at hl 3 rfl) ?_
  refine lv_iload_n hx hb dL_law_364 rfl (lv_at hl 0 rfl) ?_
  refine lv_iconst (v := 1) hx hb dL_law_365 (by decide +kernel) ?_
  refine lv_iadd hx hb dL_law_366 ?_
  refine lv_topi (fun z5 ez5 => ?_)
  obtain rfl : z5 = 1 := ez5.trans (by decide +kernel)
  refine va_sld hx hb hX hbl hbA hS (in_d (by decide +kernel)) dL_law_367 ?_
  refine lv_aload_n hx hb dL_law_368 rfl (lv_at hl 3 rfl) ?_
  refine lv_iload_n hx hb dL_law_369 rfl (lv_at hl 0 rfl) ?_
  refine lv_iconst (v := 2) hx hb dL_law_370 (by decide +kernel) ?_
  refine lv_iadd hx hb dL_law_371 ?_
  refine lv_topi (fun z6 ez6 => ?_)
  obtain rfl : z6 = 2 := ez6.trans (by decide +kernel)
  refine va_sld hx hb hX hbl hbA hS (in_d (by decide +kernel)) dL_law_372 ?_
  refine lv_aload_n hx hb dL_law_373 rfl (lv_at hl 3 rfl) ?_
  refine lv_iload_n hx hb dL_law_374 rfl (lv_at hl 0 rfl) ?_
  refine lv_iconst (v := 3) hx hb dL_law_375 (by decide +kernel) ?_
  refine lv_iadd hx hb dL_law_376 ?_
  refine lv_topi (fun z7 ez7 => ?_)
  obtain rfl : z7 = 3 := ez7.trans (by decide +kernel)
  refine va_sld hx hb hX hbl hbA hS (in_d (by decide +kernel)) dL_law_377 ?_
  have hPc := hP.sub (ws' := [(m0, .inr (7, [.ref mnw, .ref mhd, .ref mas, .ref mps, .ref msf, .ref mdt, .ref mhdd, .ref masd, .ref mpsd, .ref msfd, .ref mkp, .int 0, .ref mtp, .int 0, .int 0, .int 0, .int 0, .ref mld, .int 0, .ref mmd, .ref men, .ref mil, .ref mqu, .int 0, .int 0, .ref mbx])), (mnw, .inl (kI, 99, .inl (fun _ => 0)))]) [8, 9] rfl
  have hDc := hD.sub (ws' := [(m0, .inr (7, [.ref mnw, .ref mhd, .ref mas, .ref mps, .ref msf, .ref mdt, .ref mhdd, .ref masd, .ref mpsd, .ref msfd, .ref mkp, .int 0, .ref mtp, .int 0, .int 0, .int 0, .int 0, .ref mld, .int 0, .ref mmd, .ref men, .ref mil, .ref mqu, .int 0, .int 0, .ref mbx])), (mnw, .inl (kI, 99, .inl (fun _ => 0)))]) [8, 9] (by decide) rfl
  have hKc := hK.sub (tys' := [(kI, .int)]) [3] rfl
  refine ro_i (va_runV (As := [.int (xs (1 : Int32).toNatClampNeg), .int (xs (2 : Int32).toNatClampNeg), .int (xs (3 : Int32).toNatClampNeg)]) (rest := [.int (-1)]) ⟨hx, hb, hml, hown, hts⟩ (c_X7_place l dC dI m0 mnw mhd mas mps msf mdt mhdd masd mpsd msfd mkp mtp mld mmd men mil mqu mbx kI H.size (xs (1 : Int32).toNatClampNeg) (xs (2 : Int32).toNatClampNeg) (xs (3 : Int32).toNatClampNeg) ) (cwV 3 hts (gV pq1306 pq1307 pq1308 pq81 pq1309) rfl rfl rfl (by decide +kernel) ⟨(Nat.le_of_ble_eq_true rfl), (Nat.le_of_ble_eq_true rfl)⟩) (pc_V hPc hDc hKc hN (va_recv hK hP (ci := 7) (q0 := 8) rfl rfl)) rfl rfl hl.1 rfl (lv_room (Nat.le_of_ble_eq_true rfl)) dL_law_378 ⟨(Nat.le_of_ble_eq_true rfl), (Nat.le_of_ble_eq_true rfl)⟩) hS hP (fun r8 H locs hr8 hP hS => ?_)
  subst hr8
  refine lv_icmp_eq (tgt := 1950) hx hb dL_law_381 (by decide) (fun c9 => ?_) (fun c9 => absurd (by decide +kernel) c9)
  refine lv_iinc (v := 6) (lv' := [(3, .int 6), (2, .ref m0), (1, .ref x0), (0, .ref b)]) hx hb dL_law_1950 hl (k := 0) rfl (by decide +kernel) (by decide) rfl (fun ls hl => ?_)
  refine lv_goto (tgt := 18) hx hb dL_law_1953 (by decide) ?_
  refine lv_iload_n hx hb dL_law_18 rfl (lv_at hl 0 rfl) ?_
  refine lv_aload_n hx hb dL_law_19 rfl (lv_at hl 3 rfl) ?_
  refine va_slen hx hb hX hbl hbA hS dL_law_20 ?_
  refine lv_bipush (v := 6) hx hb dL_law_21 (by decide +kernel) ?_
  refine lv_isub hx hb dL_law_23 ?_
  refine lv_topi (fun z10 ez10 => ?_)
  obtain rfl : z10 = 0 := ez10.trans (by decide +kernel)
  refine lv_icmp_gt (tgt := 1956) hx hb dL_law_24 (by decide) (fun c11 => ?_) (fun c11 => absurd (by decide +kernel) c11)
  refine lv_iconst (v := 1) hx hb dL_law_1956 (by decide +kernel) ?_
  refine va_forget (fun q hq => hS.2.2 q hq) ?_
  refine W.widen (k := 600000) (n := 7302249) (Nat.le_of_ble_eq_true rfl) (Nat.le_of_ble_eq_true rfl) ?_
  refine W.base ?_
  exact lw_ret (Drawn.sameBut.refl s.drawn lw_cs) hx hb hr hlocks dL_law_1957

set_option maxHeartbeats 4000000 in
set_option maxRecDepth 100000 in
theorem lw_case4 {p : Program} {e : Env} {s : State} {m : MethodId} {below : List Frame} {meth : Method} {c : Code} (l : Launch) {b : Nat} {xs : Nat → Int32} {dC : Nat → ClassId} {dI : Nat → Nat → Nat} (C0 : lw_At p s m meth c b 6 xs) {x0 tp nw dr rd sc sk fl ps sh nm nb dm db ss m0 mnw mhd mas mps msf mdt mhdd masd mpsd msfd mkp mtp mld mmd men mil mqu mbx : Nat} {kB kF kG kI kI2 kI3 kI4 kI5 kJ kJ2 kJ3 kJ4 kJ5 kZ kY : ClassId} {H : Heap} {locs : List Loc} {ls : Array Slot} (hK : va_K (dC, dI) vwCl [(kB, .byte), (kF, .object RX1), (kG, .object RX1), (kI, .int), (kI2, .int), (kI3, .int), (kI4, .int), (kI5, .int), (kJ, .long), (kJ2, .long), (kJ3, .long), (kJ4, .long), (kJ5, .long), (kZ, .boolean), (kY, .byte)] s) (hP : va_P (dC, dI) vwCl [(x0, .inr (6, [.ref tp, .int 0, .ref nw, .ref dr, .ref rd, .ref sc, .ref sk, .ref fl, .ref ps, .int 0, .int 0, .ref sh])), (tp, .inl (kB, 400, .inl (fun _ => 0))), (nw, .inr (1, [.ref nm, .ref nb, .int 0, .int 0, .int 0])), (dr, .inr (1, [.ref dm, .ref db, .int 0, .int 0, .int 0])), (rd, .inr (4, [.ref tp, .int 0, .int 0, .int 0, .int 0, .int 0])), (sc, .inr (5, [.ref nw, .ref ss, .int 0, .int (-1), .int 0, .int 0, .int 0, .int 0, .int 0])), (ps, .inl (kF, 10, .inr (.inr (.inr (.inr (fun _ => none)))))), (sh, .inl (kG, 2, .inr (.inr (.inr (.inr (fun _ => none)))))), (m0, .inr (7, [.ref mnw, .ref mhd, .ref mas, .ref mps, .ref msf, .ref mdt, .ref mhdd, .ref masd, .ref mpsd, .ref msfd, .ref mkp, .int 0, .ref mtp, .int 0, .int 0, .int 0, .int 0, .ref mld, .int 0, .ref mmd, .ref men, .ref mil, .ref mqu, .int 0, .int 0, .ref mbx])), (mnw, .inl (kI, 99, .inl (fun _ => 0))), (mhd, .inl (kI2, 99, .inl (fun _ => 0))), (mas, .inl (kI3, 99, .inl (fun _ => 0))), (mps, .inl (kI4, 990, .inl (fun _ => 0))), (msf, .inl (kI5, 198, .inl (fun _ => 0))), (mdt, .inl (kJ, 640, .inr (.inl (fun _ => 0)))), (mhdd, .inl (kJ2, 640, .inr (.inl (fun _ => 0)))), (masd, .inl (kJ3, 640, .inr (.inl (fun _ => 0)))), (mpsd, .inl (kJ4, 6400, .inr (.inl (fun _ => 0)))), (msfd, .inl (kJ5, 1280, .inr (.inl (fun _ => 0)))), (mkp, .inl (kZ, 2, .inl (fun _ => 0))), (mtp, .inl (kY, 400, .inl (fun _ => 0)))] H) (hD : va_D (fun q : Nat => s.heap.size ≤ q) [(x0, .inr (6, [.ref tp, .int 0, .ref nw, .ref dr, .ref rd, .ref sc, .ref sk, .ref fl, .ref ps, .int 0, .int 0, .ref sh])), (tp, .inl (kB, 400, .inl (fun _ => 0))), (nw, .inr (1, [.ref nm, .ref nb, .int 0, .int 0, .int 0])), (dr, .inr (1, [.ref dm, .ref db, .int 0, .int 0, .int 0])), (rd, .inr (4, [.ref tp, .int 0, .int 0, .int 0, .int 0, .int 0])), (sc, .inr (5, [.ref nw, .ref ss, .int 0, .int (-1), .int 0, .int 0, .int 0, .int 0, .int 0])), (ps, .inl (kF, 10, .inr (.inr (.inr (.inr (fun _ => none)))))), (sh, .inl (kG, 2, .inr (.inr (.inr (.inr (fun _ => none)))))), (m0, .inr (7, [.ref mnw, .ref mhd, .ref mas, .ref mps, .ref msf, .ref mdt, .ref mhdd, .ref masd, .ref mpsd, .ref msfd, .ref mkp, .int 0, .ref mtp, .int 0, .int 0, .int 0, .int 0, .ref mld, .int 0, .ref mmd, .ref men, .ref mil, .ref mqu, .int 0, .int 0, .ref mbx])), (mnw, .inl (kI, 99, .inl (fun _ => 0))), (mhd, .inl (kI2, 99, .inl (fun _ => 0))), (mas, .inl (kI3, 99, .inl (fun _ => 0))), (mps, .inl (kI4, 990, .inl (fun _ => 0))), (msf, .inl (kI5, 198, .inl (fun _ => 0))), (mdt, .inl (kJ, 640, .inr (.inl (fun _ => 0)))), (mhdd, .inl (kJ2, 640, .inr (.inl (fun _ => 0)))), (masd, .inl (kJ3, 640, .inr (.inl (fun _ => 0)))), (mpsd, .inl (kJ4, 6400, .inr (.inl (fun _ => 0)))), (msfd, .inl (kJ5, 1280, .inr (.inl (fun _ => 0)))), (mkp, .inl (kZ, 2, .inl (fun _ => 0))), (mtp, .inl (kY, 400, .inl (fun _ => 0)))]) (hS : va_S (fun q : Nat => s.heap.size ≤ q) s.heap H locs) (hl : lv_has ls 4 [(3, .int 0), (2, .ref m0), (1, .ref x0), (0, .ref b)]) : W p l e room_1 s m #[Value.ref b] below meth c H locs 110 27528 (lw_Z below #[Value.ref b] s) (F0 m 386 ls []) := by
  obtain ⟨hx, hb, hr, hml, hown, htl, hX, hbl, hlocks, hgv⟩ := id C0
  have hb : c.code = cL_law := hb
  have hown : s.vm.findClass RL = some m.cls := hown
  have hts : ∀ w ∈ pw, w.before #[Value.ref b] s = true := fun w h => htl w (pw_tbl h)
  have hN : xN s := xN_of htl
  have hA : ∀ q : Nat, s.heap.size ≤ q → (fun q : Nat => s.heap.size ≤ q) q := fun _ h => h
  have hbA : ¬ (fun q : Nat => s.heap.size ≤ q) b := Nat.not_le.mpr hbl
  refine lv_aload_n hx hb dL_law_386 rfl (lv_at hl 2 rfl) ?_
  refine lv_aload_n hx hb dL_law_387 rfl (lv_at hl 3 rfl) ?_
  refine lv_iload_n hx hb dL_law_388 rfl (lv_at hl 0 rfl) ?_
  refine lv_iconst (v := 1) hx hb dL_law_389 (by decide +kernel) ?_
  refine lv_iadd hx hb dL_law_390 ?_
  refine lv_topi (fun z1 ez1 => ?_)
  obtain rfl : z1 = 1 := ez1.trans (by decide +kernel)
  refine va_sld hx hb hX hbl hbA hS (in_d (by decide +kernel)) dL_law_391 ?_
  refine lv_aload_n hx hb dL_law_392 rfl (lv_at hl 3 rfl) ?_
  refine lv_iload_n hx hb dL_law_393 rfl (lv_at hl 0 rfl) ?_
  refine lv_iconst (v := 2) hx hb dL_law_394 (by decide +kernel) ?_
  refine lv_iadd hx hb dL_law_395 ?_
  refine lv_topi (fun z2 ez2 => ?_)
  obtain rfl : z2 = 2 := ez2.trans (by decide +kernel)
  refine va_sld hx hb hX hbl hbA hS (in_d (by decide +kernel)) dL_law_396 ?_
  have hPc := hP.sub (ws' := [(x0, .inr (6, [.ref tp, .int 0, .ref nw, .ref dr, .ref rd, .ref sc, .ref sk, .ref fl, .ref ps, .int 0, .int 0, .ref sh])), (nw, .inr (1, [.ref nm, .ref nb, .int 0, .int 0, .int 0]))]) [0, 2] rfl
  have hDc := hD.sub (ws' := [(x0, .inr (6, [.ref tp, .int 0, .ref nw, .ref dr, .ref rd, .ref sc, .ref sk, .ref fl, .ref ps, .int 0, .int 0, .ref sh])), (nw, .inr (1, [.ref nm, .ref nb, .int 0, .int 0, .int 0]))]) [0, 2] (by decide) rfl
  have hKc := hK.sub (tys' := []) [] rfl
  refine ro_i (va_runV (As := [.int (xs (1 : Int32).toNatClampNeg), .int (xs (2 : Int32).toNatClampNeg)]) (rest := []) ⟨hx, hb, hml, hown, hts⟩ (c_X6_flip l dC dI x0 tp nw dr rd sc sk fl ps sh nm nb H.size (xs (1 : Int32).toNatClampNeg) (xs (2 : Int32).toNatClampNeg) ) (cwV 2 hts (gV pq647 pq648 pq649 pq74 pq650) rfl rfl rfl (by decide +kernel) ⟨(Nat.le_of_ble_eq_true rfl), (Nat.le_of_ble_eq_true rfl)⟩) (pc_V hPc hDc hKc hN (va_recv hK hP (ci := 6) (q0 := 0) rfl rfl)) rfl rfl hl.1 rfl (lv_room (Nat.le_of_ble_eq_true rfl)) dL_law_397 ⟨(Nat.le_of_ble_eq_true rfl), (Nat.le_of_ble_eq_true rfl)⟩) hS hP (fun r3 H locs hr3 hP hS => ?_)
  subst hr3
  refine lv_aload_n hx hb dL_law_400 rfl (lv_at hl 1 rfl) ?_
  refine lv_aload_n hx hb dL_law_401 rfl (lv_at hl 3 rfl) ?_
  refine lv_iload_n hx hb dL_law_402 rfl (lv_at hl 0 rfl) ?_
  refine lv_iconst (v := 1) hx hb dL_law_403 (by decide +kernel) ?_
  refine lv_iadd hx hb dL_law_404 ?_
  refine lv_topi (fun z4 ez4 => ?_)
  obtain rfl : z4 = 1 := ez4.trans (by decide +kernel)
  refine va_sld hx hb hX hbl hbA hS (in_d (by decide +kernel)) dL_law_405 ?_
  refine lv_aload_n hx hb dL_law_406 rfl (lv_at hl 3 rfl) ?_
  refine lv_iload_n hx hb dL_law_407 rfl (lv_at hl 0 rfl) ?_
  refine lv_iconst (v := 2) hx hb dL_law_408 (by decide +kernel) ?_
  refine lv_iadd hx hb dL_law_409 ?_
  refine lv_topi (fun z5 ez5 => ?_)
  obtain rfl : z5 = 2 := ez5.trans (by decide +kernel)
  refine va_sld hx hb hX hbl hbA hS (in_d (by decide +kernel)) dL_law_410 ?_
  have hPc := hP.sub (ws' := [(m0, .inr (7, [.ref mnw, .ref mhd, .ref mas, .ref mps, .ref msf, .ref mdt, .ref mhdd, .ref masd, .ref mpsd, .ref msfd, .ref mkp, .int 0, .ref mtp, .int 0, .int 0, .int 0, .int 0, .ref mld, .int 0, .ref mmd, .ref men, .ref mil, .ref mqu, .int 0, .int 0, .ref mbx])), (mnw, .inl (kI, 99, .inl (fun _ => 0)))]) [8, 9] rfl
  have hDc := hD.sub (ws' := [(m0, .inr (7, [.ref mnw, .ref mhd, .ref mas, .ref mps, .ref msf, .ref mdt, .ref mhdd, .ref masd, .ref mpsd, .ref msfd, .ref mkp, .int 0, .ref mtp, .int 0, .int 0, .int 0, .int 0, .ref mld, .int 0, .ref mmd, .ref men, .ref mil, .ref mqu, .int 0, .int 0, .ref mbx])), (mnw, .inl (kI, 99, .inl (fun _ => 0)))]) [8, 9] (by decide) rfl
  have hKc := hK.sub (tys' := [(kI, .int)]) [3] rfl
  refine ro_i (va_runV (As := [.int (xs (1 : Int32).toNatClampNeg), .int (xs (2 : Int32).toNatClampNeg)]) (rest := [.int (-1)]) ⟨hx, hb, hml, hown, hts⟩ (c_X7_flip l dC dI m0 mnw mhd mas mps msf mdt mhdd masd mpsd msfd mkp mtp mld mmd men mil mqu mbx kI H.size (xs (1 : Int32).toNatClampNeg) (xs (2 : Int32).toNatClampNeg) ) (cwV 2 hts (gV pq1340 pq1341 pq1342 pq81 pq1343) rfl rfl rfl (by decide +kernel) ⟨(Nat.le_of_ble_eq_true rfl), (Nat.le_of_ble_eq_true rfl)⟩) (pc_V hPc hDc hKc hN (va_recv hK hP (ci := 7) (q0 := 8) rfl rfl)) rfl rfl hl.1 rfl (lv_room (Nat.le_of_ble_eq_true rfl)) dL_law_411 ⟨(Nat.le_of_ble_eq_true rfl), (Nat.le_of_ble_eq_true rfl)⟩) hS hP (fun r6 H locs hr6 hP hS => ?_)
  subst hr6
  refine lv_icmp_eq (tgt := 1950) hx hb dL_law_414 (by decide) (fun c7 => ?_) (fun c7 => absurd (by decide +kernel) c7)
  refine lv_iinc (v := 6) (lv' := [(3, .int 6), (2, .ref m0), (1, .ref x0), (0, .ref b)]) hx hb dL_law_1950 hl (k := 0) rfl (by decide +kernel) (by decide) rfl (fun ls hl => ?_)
  refine lv_goto (tgt := 18) hx hb dL_law_1953 (by decide) ?_
  refine lv_iload_n hx hb dL_law_18 rfl (lv_at hl 0 rfl) ?_
  refine lv_aload_n hx hb dL_law_19 rfl (lv_at hl 3 rfl) ?_
  refine va_slen hx hb hX hbl hbA hS dL_law_20 ?_
  refine lv_bipush (v := 6) hx hb dL_law_21 (by decide +kernel) ?_
  refine lv_isub hx hb dL_law_23 ?_
  refine lv_topi (fun z8 ez8 => ?_)
  obtain rfl : z8 = 0 := ez8.trans (by decide +kernel)
  refine lv_icmp_gt (tgt := 1956) hx hb dL_law_24 (by decide) (fun c9 => ?_) (fun c9 => absurd (by decide +kernel) c9)
  refine lv_iconst (v := 1) hx hb dL_law_1956 (by decide +kernel) ?_
  refine va_forget (fun q hq => hS.2.2 q hq) ?_
  refine W.widen (k := 600000) (n := 7302249) (Nat.le_of_ble_eq_true rfl) (Nat.le_of_ble_eq_true rfl) ?_
  refine W.base ?_
  exact lw_ret (Drawn.sameBut.refl s.drawn lw_cs) hx hb hr hlocks dL_law_1957

set_option maxHeartbeats 4000000 in
set_option maxRecDepth 100000 in
theorem lw_case5 {p : Program} {e : Env} {s : State} {m : MethodId} {below : List Frame} {meth : Method} {c : Code} (l : Launch) {b : Nat} {xs : Nat → Int32} {dC : Nat → ClassId} {dI : Nat → Nat → Nat} (C0 : lw_At p s m meth c b 6 xs) {x0 tp nw dr rd sc sk fl ps sh nm nb dm db ss m0 mnw mhd mas mps msf mdt mhdd masd mpsd msfd mkp mtp mld mmd men mil mqu mbx : Nat} {kB kF kG kI kI2 kI3 kI4 kI5 kJ kJ2 kJ3 kJ4 kJ5 kZ kY : ClassId} {H : Heap} {locs : List Loc} {ls : Array Slot} (hK : va_K (dC, dI) vwCl [(kB, .byte), (kF, .object RX1), (kG, .object RX1), (kI, .int), (kI2, .int), (kI3, .int), (kI4, .int), (kI5, .int), (kJ, .long), (kJ2, .long), (kJ3, .long), (kJ4, .long), (kJ5, .long), (kZ, .boolean), (kY, .byte)] s) (hP : va_P (dC, dI) vwCl [(x0, .inr (6, [.ref tp, .int 0, .ref nw, .ref dr, .ref rd, .ref sc, .ref sk, .ref fl, .ref ps, .int 0, .int 0, .ref sh])), (tp, .inl (kB, 400, .inl (fun _ => 0))), (nw, .inr (1, [.ref nm, .ref nb, .int 0, .int 0, .int 0])), (dr, .inr (1, [.ref dm, .ref db, .int 0, .int 0, .int 0])), (rd, .inr (4, [.ref tp, .int 0, .int 0, .int 0, .int 0, .int 0])), (sc, .inr (5, [.ref nw, .ref ss, .int 0, .int (-1), .int 0, .int 0, .int 0, .int 0, .int 0])), (ps, .inl (kF, 10, .inr (.inr (.inr (.inr (fun _ => none)))))), (sh, .inl (kG, 2, .inr (.inr (.inr (.inr (fun _ => none)))))), (m0, .inr (7, [.ref mnw, .ref mhd, .ref mas, .ref mps, .ref msf, .ref mdt, .ref mhdd, .ref masd, .ref mpsd, .ref msfd, .ref mkp, .int 0, .ref mtp, .int 0, .int 0, .int 0, .int 0, .ref mld, .int 0, .ref mmd, .ref men, .ref mil, .ref mqu, .int 0, .int 0, .ref mbx])), (mnw, .inl (kI, 99, .inl (fun _ => 0))), (mhd, .inl (kI2, 99, .inl (fun _ => 0))), (mas, .inl (kI3, 99, .inl (fun _ => 0))), (mps, .inl (kI4, 990, .inl (fun _ => 0))), (msf, .inl (kI5, 198, .inl (fun _ => 0))), (mdt, .inl (kJ, 640, .inr (.inl (fun _ => 0)))), (mhdd, .inl (kJ2, 640, .inr (.inl (fun _ => 0)))), (masd, .inl (kJ3, 640, .inr (.inl (fun _ => 0)))), (mpsd, .inl (kJ4, 6400, .inr (.inl (fun _ => 0)))), (msfd, .inl (kJ5, 1280, .inr (.inl (fun _ => 0)))), (mkp, .inl (kZ, 2, .inl (fun _ => 0))), (mtp, .inl (kY, 400, .inl (fun _ => 0)))] H) (hD : va_D (fun q : Nat => s.heap.size ≤ q) [(x0, .inr (6, [.ref tp, .int 0, .ref nw, .ref dr, .ref rd, .ref sc, .ref sk, .ref fl, .ref ps, .int 0, .int 0, .ref sh])), (tp, .inl (kB, 400, .inl (fun _ => 0))), (nw, .inr (1, [.ref nm, .ref nb, .int 0, .int 0, .int 0])), (dr, .inr (1, [.ref dm, .ref db, .int 0, .int 0, .int 0])), (rd, .inr (4, [.ref tp, .int 0, .int 0, .int 0, .int 0, .int 0])), (sc, .inr (5, [.ref nw, .ref ss, .int 0, .int (-1), .int 0, .int 0, .int 0, .int 0, .int 0])), (ps, .inl (kF, 10, .inr (.inr (.inr (.inr (fun _ => none)))))), (sh, .inl (kG, 2, .inr (.inr (.inr (.inr (fun _ => none)))))), (m0, .inr (7, [.ref mnw, .ref mhd, .ref mas, .ref mps, .ref msf, .ref mdt, .ref mhdd, .ref masd, .ref mpsd, .ref msfd, .ref mkp, .int 0, .ref mtp, .int 0, .int 0, .int 0, .int 0, .ref mld, .int 0, .ref mmd, .ref men, .ref mil, .ref mqu, .int 0, .int 0, .ref mbx])), (mnw, .inl (kI, 99, .inl (fun _ => 0))), (mhd, .inl (kI2, 99, .inl (fun _ => 0))), (mas, .inl (kI3, 99, .inl (fun _ => 0))), (mps, .inl (kI4, 990, .inl (fun _ => 0))), (msf, .inl (kI5, 198, .inl (fun _ => 0))), (mdt, .inl (kJ, 640, .inr (.inl (fun _ => 0)))), (mhdd, .inl (kJ2, 640, .inr (.inl (fun _ => 0)))), (masd, .inl (kJ3, 640, .inr (.inl (fun _ => 0)))), (mpsd, .inl (kJ4, 6400, .inr (.inl (fun _ => 0)))), (msfd, .inl (kJ5, 1280, .inr (.inl (fun _ => 0)))), (mkp, .inl (kZ, 2, .inl (fun _ => 0))), (mtp, .inl (kY, 400, .inl (fun _ => 0)))]) (hS : va_S (fun q : Nat => s.heap.size ≤ q) s.heap H locs) (hl : lv_has ls 4 [(3, .int 0), (2, .ref m0), (1, .ref x0), (0, .ref b)]) : W p l e room_1 s m #[Value.ref b] below meth c H locs 110 27528 (lw_Z below #[Value.ref b] s) (F0 m 419 ls []) := by
  obtain ⟨hx, hb, hr, hml, hown, htl, hX, hbl, hlocks, hgv⟩ := id C0
  have hb : c.code = cL_law := hb
  have hown : s.vm.findClass RL = some m.cls := hown
  have hts : ∀ w ∈ pw, w.before #[Value.ref b] s = true := fun w h => htl w (pw_tbl h)
  have hN : xN s := xN_of htl
  have hA : ∀ q : Nat, s.heap.size ≤ q → (fun q : Nat => s.heap.size ≤ q) q := fun _ h => h
  have hbA : ¬ (fun q : Nat => s.heap.size ≤ q) b := Nat.not_le.mpr hbl
  refine lv_aload_n hx hb dL_law_419 rfl (lv_at hl 2 rfl) ?_
  refine lv_aload_n hx hb dL_law_420 rfl (lv_at hl 3 rfl) ?_
  refine lv_iload_n hx hb dL_law_421 rfl (lv_at hl 0 rfl) ?_
  refine lv_iconst (v := 1) hx hb dL_law_422 (by decide +kernel) ?_
  refine lv_iadd hx hb dL_law_423 ?_
  refine lv_topi (fun z1 ez1 => ?_)
  obtain rfl : z1 = 1 := ez1.trans (by decide +kernel)
  refine va_sld hx hb hX hbl hbA hS (in_d (by decide +kernel)) dL_law_424 ?_
  refine lv_aload_n hx hb dL_law_425 rfl (lv_at hl 3 rfl) ?_
  refine lv_iload_n hx hb dL_law_426 rfl (lv_at hl 0 rfl) ?_
  refine lv_iconst (v := 2) hx hb dL_law_427 (by decide +kernel) ?_
  refine lv_iadd hx hb dL_law_428 ?_
  refine lv_topi (fun z2 ez2 => ?_)
  obtain rfl : z2 = 2 := ez2.trans (by decide +kernel)
  refine va_sld hx hb hX hbl hbA hS (in_d (by decide +kernel)) dL_law_429 ?_
  refine lv_aload_n hx hb dL_law_430 rfl (lv_at hl 3 rfl) ?_
  refine lv_iload_n hx hb dL_law_431 rfl (lv_at hl 0 rfl) ?_
  refine lv_iconst (v := 3) hx hb dL_law_432 (by decide +kernel) ?_
  refine lv_iadd hx hb dL_law_433 ?_
  refine lv_topi (fun z3 ez3 => ?_)
  obtain rfl : z3 = 3 := ez3.trans (by decide +kernel)
  refine va_sld hx hb hX hbl hbA hS (in_d (by decide +kernel)) dL_law_434 ?_
  have hPc := hP.sub (ws' := [(x0, .inr (6, [.ref tp, .int 0, .ref nw, .ref dr, .ref rd, .ref sc, .ref sk, .ref fl, .ref ps, .int 0, .int 0, .ref sh])), (nw, .inr (1, [.ref nm, .ref nb, .int 0, .int 0, .int 0]))]) [0, 2] rfl
  have hDc := hD.sub (ws' := [(x0, .inr (6, [.ref tp, .int 0, .ref nw, .ref dr, .ref rd, .ref sc, .ref sk, .ref fl, .ref ps, .int 0, .int 0, .ref sh])), (nw, .inr (1, [.ref nm, .ref nb, .int 0, .int 0, .int 0]))]) [0, 2] (by decide) rfl
  have hKc := hK.sub (tys' := []) [] rfl
  refine ro_i (va_runV (As := [.int (xs (1 : Int32).toNatClampNeg), .int (xs (2 : Int32).toNatClampNeg), .int (xs (3 : Int32).toNatClampNeg)]) (rest := []) ⟨hx, hb, hml, hown, hts⟩ (c_X6_layers l dC dI x0 tp nw dr rd sc sk fl ps sh nm nb H.size (xs (1 : Int32).toNatClampNeg) (xs (2 : Int32).toNatClampNeg) (xs (3 : Int32).toNatClampNeg) ) (cwV 3 hts (gV pq654 pq655 pq656 pq74 pq657) rfl rfl rfl (by decide +kernel) ⟨(Nat.le_of_ble_eq_true rfl), (Nat.le_of_ble_eq_true rfl)⟩) (pc_V hPc hDc hKc hN (va_recv hK hP (ci := 6) (q0 := 0) rfl rfl)) rfl rfl hl.1 rfl (lv_room (Nat.le_of_ble_eq_true rfl)) dL_law_435 ⟨(Nat.le_of_ble_eq_true rfl), (Nat.le_of_ble_eq_true rfl)⟩) hS hP (fun r4 H locs hr4 hP hS => ?_)
  subst hr4
  refine lv_aload_n hx hb dL_law_438 rfl (lv_at hl 1 rfl) ?_
  refine lv_aload_n hx hb dL_law_439 rfl (lv_at hl 3 rfl) ?_
  refine lv_iload_n hx hb dL_law_440 rfl (lv_at hl 0 rfl) ?_
  refine lv_iconst (v := 1) hx hb dL_law_441 (by decide +kernel) ?_
  refine lv_iadd hx hb dL_law_442 ?_
  refine lv_topi (fun z5 ez5 => ?_)
  obtain rfl : z5 = 1 := ez5.trans (by decide +kernel)
  refine va_sld hx hb hX hbl hbA hS (in_d (by decide +kernel)) dL_law_443 ?_
  refine lv_aload_n hx hb dL_law_444 rfl (lv_at hl 3 rfl) ?_
  refine lv_iload_n hx hb dL_law_445 rfl (lv_at hl 0 rfl) ?_
  refine lv_iconst (v := 2) hx hb dL_law_446 (by decide +kernel) ?_
  refine lv_iadd hx hb dL_law_447 ?_
  refine lv_topi (fun z6 ez6 => ?_)
  obtain rfl : z6 = 2 := ez6.trans (by decide +kernel)
  refine va_sld hx hb hX hbl hbA hS (in_d (by decide +kernel)) dL_law_448 ?_
  refine lv_aload_n hx hb dL_law_449 rfl (lv_at hl 3 rfl) ?_
  refine lv_iload_n hx hb dL_law_450 rfl (lv_at hl 0 rfl) ?_
  refine lv_iconst (v := 3) hx hb dL_law_451 (by decide +kernel) ?_
  refine lv_iadd hx hb dL_law_452 ?_
  refine lv_topi (fun z7 ez7 => ?_)
  obtain rfl : z7 = 3 := ez7.trans (by decide +kernel)
  refine va_sld hx hb hX hbl hbA hS (in_d (by decide +kernel)) dL_law_453 ?_
  have hPc := hP.sub (ws' := [(m0, .inr (7, [.ref mnw, .ref mhd, .ref mas, .ref mps, .ref msf, .ref mdt, .ref mhdd, .ref masd, .ref mpsd, .ref msfd, .ref mkp, .int 0, .ref mtp, .int 0, .int 0, .int 0, .int 0, .ref mld, .int 0, .ref mmd, .ref men, .ref mil, .ref mqu, .int 0, .int 0, .ref mbx])), (mnw, .inl (kI, 99, .inl (fun _ => 0)))]) [8, 9] rfl
  have hDc := hD.sub (ws' := [(m0, .inr (7, [.ref mnw, .ref mhd, .ref mas, .ref mps, .ref msf, .ref mdt, .ref mhdd, .ref masd, .ref mpsd, .ref msfd, .ref mkp, .int 0, .ref mtp, .int 0, .int 0, .int 0, .int 0, .ref mld, .int 0, .ref mmd, .ref men, .ref mil, .ref mqu, .int 0, .int 0, .ref mbx])), (mnw, .inl (kI, 99, .inl (fun _ => 0)))]) [8, 9] (by decide) rfl
  have hKc := hK.sub (tys' := [(kI, .int)]) [3] rfl
  refine ro_i (va_runV (As := [.int (xs (1 : Int32).toNatClampNeg), .int (xs (2 : Int32).toNatClampNeg), .int (xs (3 : Int32).toNatClampNeg)]) (rest := [.int (-1)]) ⟨hx, hb, hml, hown, hts⟩ (c_X7_layers l dC dI m0 mnw mhd mas mps msf mdt mhdd masd mpsd msfd mkp mtp mld mmd men mil mqu mbx kI H.size (xs (1 : Int32).toNatClampNeg) (xs (2 : Int32).toNatClampNeg) (xs (3 : Int32).toNatClampNeg) ) (cwV 3 hts (gV pq1345 pq1346 pq1347 pq81 pq1348) rfl rfl rfl (by decide +kernel) ⟨(Nat.le_of_ble_eq_true rfl), (Nat.le_of_ble_eq_true rfl)⟩) (pc_V hPc hDc hKc hN (va_recv hK hP (ci := 7) (q0 := 8) rfl rfl)) rfl rfl hl.1 rfl (lv_room (Nat.le_of_ble_eq_true rfl)) dL_law_454 ⟨(Nat.le_of_ble_eq_true rfl), (Nat.le_of_ble_eq_true rfl)⟩) hS hP (fun r8 H locs hr8 hP hS => ?_)
  subst hr8
  refine lv_icmp_eq (tgt := 1950) hx hb dL_law_457 (by decide) (fun c9 => ?_) (fun c9 => absurd (by decide +kernel) c9)
  refine lv_iinc (v := 6) (lv' := [(3, .int 6), (2, .ref m0), (1, .ref x0), (0, .ref b)]) hx hb dL_law_1950 hl (k := 0) rfl (by decide +kernel) (by decide) rfl (fun ls hl => ?_)
  refine lv_goto (tgt := 18) hx hb dL_law_1953 (by decide) ?_
  refine lv_iload_n hx hb dL_law_18 rfl (lv_at hl 0 rfl) ?_
  refine lv_aload_n hx hb dL_law_19 rfl (lv_at hl 3 rfl) ?_
  refine va_slen hx hb hX hbl hbA hS dL_law_20 ?_
  refine lv_bipush (v := 6) hx hb dL_law_21 (by decide +kernel) ?_
  refine lv_isub hx hb dL_law_23 ?_
  refine lv_topi (fun z10 ez10 => ?_)
  obtain rfl : z10 = 0 := ez10.trans (by decide +kernel)
  refine lv_icmp_gt (tgt := 1956) hx hb dL_law_24 (by decide) (fun c11 => ?_) (fun c11 => absurd (by decide +kernel) c11)
  refine lv_iconst (v := 1) hx hb dL_law_1956 (by decide +kernel) ?_
  refine va_forget (fun q hq => hS.2.2 q hq) ?_
  refine W.widen (k := 600000) (n := 7302249) (Nat.le_of_ble_eq_true rfl) (Nat.le_of_ble_eq_true rfl) ?_
  refine W.base ?_
  exact lw_ret (Drawn.sameBut.refl s.drawn lw_cs) hx hb hr hlocks dL_law_1957

set_option maxHeartbeats 4000000 in
set_option maxRecDepth 100000 in
theorem lw_case6 {p : Program} {e : Env} {s : State} {m : MethodId} {below : List Frame} {meth : Method} {c : Code} (l : Launch) {b : Nat} {xs : Nat → Int32} {dC : Nat → ClassId} {dI : Nat → Nat → Nat} (C0 : lw_At p s m meth c b 6 xs) {x0 tp nw dr rd sc sk fl ps sh nm nb dm db ss m0 mnw mhd mas mps msf mdt mhdd masd mpsd msfd mkp mtp mld mmd men mil mqu mbx : Nat} {kB kF kG kI kI2 kI3 kI4 kI5 kJ kJ2 kJ3 kJ4 kJ5 kZ kY : ClassId} {H : Heap} {locs : List Loc} {ls : Array Slot} (hK : va_K (dC, dI) vwCl [(kB, .byte), (kF, .object RX1), (kG, .object RX1), (kI, .int), (kI2, .int), (kI3, .int), (kI4, .int), (kI5, .int), (kJ, .long), (kJ2, .long), (kJ3, .long), (kJ4, .long), (kJ5, .long), (kZ, .boolean), (kY, .byte)] s) (hP : va_P (dC, dI) vwCl [(x0, .inr (6, [.ref tp, .int 0, .ref nw, .ref dr, .ref rd, .ref sc, .ref sk, .ref fl, .ref ps, .int 0, .int 0, .ref sh])), (tp, .inl (kB, 400, .inl (fun _ => 0))), (nw, .inr (1, [.ref nm, .ref nb, .int 0, .int 0, .int 0])), (dr, .inr (1, [.ref dm, .ref db, .int 0, .int 0, .int 0])), (rd, .inr (4, [.ref tp, .int 0, .int 0, .int 0, .int 0, .int 0])), (sc, .inr (5, [.ref nw, .ref ss, .int 0, .int (-1), .int 0, .int 0, .int 0, .int 0, .int 0])), (ps, .inl (kF, 10, .inr (.inr (.inr (.inr (fun _ => none)))))), (sh, .inl (kG, 2, .inr (.inr (.inr (.inr (fun _ => none)))))), (m0, .inr (7, [.ref mnw, .ref mhd, .ref mas, .ref mps, .ref msf, .ref mdt, .ref mhdd, .ref masd, .ref mpsd, .ref msfd, .ref mkp, .int 0, .ref mtp, .int 0, .int 0, .int 0, .int 0, .ref mld, .int 0, .ref mmd, .ref men, .ref mil, .ref mqu, .int 0, .int 0, .ref mbx])), (mnw, .inl (kI, 99, .inl (fun _ => 0))), (mhd, .inl (kI2, 99, .inl (fun _ => 0))), (mas, .inl (kI3, 99, .inl (fun _ => 0))), (mps, .inl (kI4, 990, .inl (fun _ => 0))), (msf, .inl (kI5, 198, .inl (fun _ => 0))), (mdt, .inl (kJ, 640, .inr (.inl (fun _ => 0)))), (mhdd, .inl (kJ2, 640, .inr (.inl (fun _ => 0)))), (masd, .inl (kJ3, 640, .inr (.inl (fun _ => 0)))), (mpsd, .inl (kJ4, 6400, .inr (.inl (fun _ => 0)))), (msfd, .inl (kJ5, 1280, .inr (.inl (fun _ => 0)))), (mkp, .inl (kZ, 2, .inl (fun _ => 0))), (mtp, .inl (kY, 400, .inl (fun _ => 0)))] H) (hD : va_D (fun q : Nat => s.heap.size ≤ q) [(x0, .inr (6, [.ref tp, .int 0, .ref nw, .ref dr, .ref rd, .ref sc, .ref sk, .ref fl, .ref ps, .int 0, .int 0, .ref sh])), (tp, .inl (kB, 400, .inl (fun _ => 0))), (nw, .inr (1, [.ref nm, .ref nb, .int 0, .int 0, .int 0])), (dr, .inr (1, [.ref dm, .ref db, .int 0, .int 0, .int 0])), (rd, .inr (4, [.ref tp, .int 0, .int 0, .int 0, .int 0, .int 0])), (sc, .inr (5, [.ref nw, .ref ss, .int 0, .int (-1), .int 0, .int 0, .int 0, .int 0, .int 0])), (ps, .inl (kF, 10, .inr (.inr (.inr (.inr (fun _ => none)))))), (sh, .inl (kG, 2, .inr (.inr (.inr (.inr (fun _ => none)))))), (m0, .inr (7, [.ref mnw, .ref mhd, .ref mas, .ref mps, .ref msf, .ref mdt, .ref mhdd, .ref masd, .ref mpsd, .ref msfd, .ref mkp, .int 0, .ref mtp, .int 0, .int 0, .int 0, .int 0, .ref mld, .int 0, .ref mmd, .ref men, .ref mil, .ref mqu, .int 0, .int 0, .ref mbx])), (mnw, .inl (kI, 99, .inl (fun _ => 0))), (mhd, .inl (kI2, 99, .inl (fun _ => 0))), (mas, .inl (kI3, 99, .inl (fun _ => 0))), (mps, .inl (kI4, 990, .inl (fun _ => 0))), (msf, .inl (kI5, 198, .inl (fun _ => 0))), (mdt, .inl (kJ, 640, .inr (.inl (fun _ => 0)))), (mhdd, .inl (kJ2, 640, .inr (.inl (fun _ => 0)))), (masd, .inl (kJ3, 640, .inr (.inl (fun _ => 0)))), (mpsd, .inl (kJ4, 6400, .inr (.inl (fun _ => 0)))), (msfd, .inl (kJ5, 1280, .inr (.inl (fun _ => 0)))), (mkp, .inl (kZ, 2, .inl (fun _ => 0))), (mtp, .inl (kY, 400, .inl (fun _ => 0)))]) (hS : va_S (fun q : Nat => s.heap.size ≤ q) s.heap H locs) (hl : lv_has ls 4 [(3, .int 0), (2, .ref m0), (1, .ref x0), (0, .ref b)]) : W p l e room_1 s m #[Value.ref b] below meth c H locs 110 27528 (lw_Z below #[Value.ref b] s) (F0 m 462 ls []) := by
  obtain ⟨hx, hb, hr, hml, hown, htl, hX, hbl, hlocks, hgv⟩ := id C0
  have hb : c.code = cL_law := hb
  have hown : s.vm.findClass RL = some m.cls := hown
  have hts : ∀ w ∈ pw, w.before #[Value.ref b] s = true := fun w h => htl w (pw_tbl h)
  have hN : xN s := xN_of htl
  have hA : ∀ q : Nat, s.heap.size ≤ q → (fun q : Nat => s.heap.size ≤ q) q := fun _ h => h
  have hbA : ¬ (fun q : Nat => s.heap.size ≤ q) b := Nat.not_le.mpr hbl
  refine lv_aload_n hx hb dL_law_462 rfl (lv_at hl 2 rfl) ?_
  refine lv_aload_n hx hb dL_law_463 rfl (lv_at hl 3 rfl) ?_
  refine lv_iload_n hx hb dL_law_464 rfl (lv_at hl 0 rfl) ?_
  refine lv_iconst (v := 1) hx hb dL_law_465 (by decide +kernel) ?_
  refine lv_iadd hx hb dL_law_466 ?_
  refine lv_topi (fun z1 ez1 => ?_)
  obtain rfl : z1 = 1 := ez1.trans (by decide +kernel)
  refine va_sld hx hb hX hbl hbA hS (in_d (by decide +kernel)) dL_law_467 ?_
  refine lv_aload_n hx hb dL_law_468 rfl (lv_at hl 3 rfl) ?_
  refine lv_iload_n hx hb dL_law_469 rfl (lv_at hl 0 rfl) ?_
  refine lv_iconst (v := 2) hx hb dL_law_470 (by decide +kernel) ?_
  refine lv_iadd hx hb dL_law_471 ?_
  refine lv_topi (fun z2 ez2 => ?_)
  obtain rfl : z2 = 2 := ez2.trans (by decide +kernel)
  refine va_sld hx hb hX hbl hbA hS (in_d (by decide +kernel)) dL_law_472 ?_
  refine lv_aload_n hx hb dL_law_473 rfl (lv_at hl 3 rfl) ?_
  refine lv_iload_n hx hb dL_law_474 rfl (lv_at hl 0 rfl) ?_
  refine lv_iconst (v := 3) hx hb dL_law_475 (by decide +kernel) ?_
  refine lv_iadd hx hb dL_law_476 ?_
  refine lv_topi (fun z3 ez3 => ?_)
  obtain rfl : z3 = 3 := ez3.trans (by decide +kernel)
  refine va_sld hx hb hX hbl hbA hS (in_d (by decide +kernel)) dL_law_477 ?_
  have hPc := hP.sub (ws' := [(x0, .inr (6, [.ref tp, .int 0, .ref nw, .ref dr, .ref rd, .ref sc, .ref sk, .ref fl, .ref ps, .int 0, .int 0, .ref sh])), (nw, .inr (1, [.ref nm, .ref nb, .int 0, .int 0, .int 0]))]) [0, 2] rfl
  have hDc := hD.sub (ws' := [(x0, .inr (6, [.ref tp, .int 0, .ref nw, .ref dr, .ref rd, .ref sc, .ref sk, .ref fl, .ref ps, .int 0, .int 0, .ref sh])), (nw, .inr (1, [.ref nm, .ref nb, .int 0, .int 0, .int 0]))]) [0, 2] (by decide) rfl
  have hKc := hK.sub (tys' := []) [] rfl
  refine ro_i (va_runV (As := [.int (xs (1 : Int32).toNatClampNeg), .int (xs (2 : Int32).toNatClampNeg), .int (xs (3 : Int32).toNatClampNeg)]) (rest := []) ⟨hx, hb, hml, hown, hts⟩ (c_X6_speed l dC dI x0 tp nw dr rd sc sk fl ps sh nm nb H.size (xs (1 : Int32).toNatClampNeg) (xs (2 : Int32).toNatClampNeg) (xs (3 : Int32).toNatClampNeg) ) (cwV 3 hts (gV pq658 pq659 pq660 pq74 pq661) rfl rfl rfl (by decide +kernel) ⟨(Nat.le_of_ble_eq_true rfl), (Nat.le_of_ble_eq_true rfl)⟩) (pc_V hPc hDc hKc hN (va_recv hK hP (ci := 6) (q0 := 0) rfl rfl)) rfl rfl hl.1 rfl (lv_room (Nat.le_of_ble_eq_true rfl)) dL_law_478 ⟨(Nat.le_of_ble_eq_true rfl), (Nat.le_of_ble_eq_true rfl)⟩) hS hP (fun r4 H locs hr4 hP hS => ?_)
  subst hr4
  refine lv_aload_n hx hb dL_law_481 rfl (lv_at hl 1 rfl) ?_
  refine lv_aload_n hx hb dL_law_482 rfl (lv_at hl 3 rfl) ?_
  refine lv_iload_n hx hb dL_law_483 rfl (lv_at hl 0 rfl) ?_
  refine lv_iconst (v := 1) hx hb dL_law_484 (by decide +kernel) ?_
  refine lv_iadd hx hb dL_law_485 ?_
  refine lv_topi (fun z5 ez5 => ?_)
  obtain rfl : z5 = 1 := ez5.trans (by decide +kernel)
  refine va_sld hx hb hX hbl hbA hS (in_d (by decide +kernel)) dL_law_486 ?_
  refine lv_aload_n hx hb dL_law_487 rfl (lv_at hl 3 rfl) ?_
  refine lv_iload_n hx hb dL_law_488 rfl (lv_at hl 0 rfl) ?_
  refine lv_iconst (v := 2) hx hb dL_law_489 (by decide +kernel) ?_
  refine lv_iadd hx hb dL_law_490 ?_
  refine lv_topi (fun z6 ez6 => ?_)
  obtain rfl : z6 = 2 := ez6.trans (by decide +kernel)
  refine va_sld hx hb hX hbl hbA hS (in_d (by decide +kernel)) dL_law_491 ?_
  refine lv_aload_n hx hb dL_law_492 rfl (lv_at hl 3 rfl) ?_
  refine lv_iload_n hx hb dL_law_493 rfl (lv_at hl 0 rfl) ?_
  refine lv_iconst (v := 3) hx hb dL_law_494 (by decide +kernel) ?_
  refine lv_iadd hx hb dL_law_495 ?_
  refine lv_topi (fun z7 ez7 => ?_)
  obtain rfl : z7 = 3 := ez7.trans (by decide +kernel)
  refine va_sld hx hb hX hbl hbA hS (in_d (by decide +kernel)) dL_law_496 ?_
  have hPc := hP.sub (ws' := [(m0, .inr (7, [.ref mnw, .ref mhd, .ref mas, .ref mps, .ref msf, .ref mdt, .ref mhdd, .ref masd, .ref mpsd, .ref msfd, .ref mkp, .int 0, .ref mtp, .int 0, .int 0, .int 0, .int 0, .ref mld, .int 0, .ref mmd, .ref men, .ref mil, .ref mqu, .int 0, .int 0, .ref mbx])), (mnw, .inl (kI, 99, .inl (fun _ => 0)))]) [8, 9] rfl
  have hDc := hD.sub (ws' := [(m0, .inr (7, [.ref mnw, .ref mhd, .ref mas, .ref mps, .ref msf, .ref mdt, .ref mhdd, .ref masd, .ref mpsd, .ref msfd, .ref mkp, .int 0, .ref mtp, .int 0, .int 0, .int 0, .int 0, .ref mld, .int 0, .ref mmd, .ref men, .ref mil, .ref mqu, .int 0, .int 0, .ref mbx])), (mnw, .inl (kI, 99, .inl (fun _ => 0)))]) [8, 9] (by decide) rfl
  have hKc := hK.sub (tys' := [(kI, .int)]) [3] rfl
  refine ro_i (va_runV (As := [.int (xs (1 : Int32).toNatClampNeg), .int (xs (2 : Int32).toNatClampNeg), .int (xs (3 : Int32).toNatClampNeg)]) (rest := [.int (-1)]) ⟨hx, hb, hml, hown, hts⟩ (c_X7_speed l dC dI m0 mnw mhd mas mps msf mdt mhdd masd mpsd msfd mkp mtp mld mmd men mil mqu mbx kI H.size (xs (1 : Int32).toNatClampNeg) (xs (2 : Int32).toNatClampNeg) (xs (3 : Int32).toNatClampNeg) ) (cwV 3 hts (gV pq1354 pq1355 pq1356 pq81 pq1357) rfl rfl rfl (by decide +kernel) ⟨(Nat.le_of_ble_eq_true rfl), (Nat.le_of_ble_eq_true rfl)⟩) (pc_V hPc hDc hKc hN (va_recv hK hP (ci := 7) (q0 := 8) rfl rfl)) rfl rfl hl.1 rfl (lv_room (Nat.le_of_ble_eq_true rfl)) dL_law_497 ⟨(Nat.le_of_ble_eq_true rfl), (Nat.le_of_ble_eq_true rfl)⟩) hS hP (fun r8 H locs hr8 hP hS => ?_)
  subst hr8
  refine lv_icmp_eq (tgt := 1950) hx hb dL_law_500 (by decide) (fun c9 => ?_) (fun c9 => absurd (by decide +kernel) c9)
  refine lv_iinc (v := 6) (lv' := [(3, .int 6), (2, .ref m0), (1, .ref x0), (0, .ref b)]) hx hb dL_law_1950 hl (k := 0) rfl (by decide +kernel) (by decide) rfl (fun ls hl => ?_)
  refine lv_goto (tgt := 18) hx hb dL_law_1953 (by decide) ?_
  refine lv_iload_n hx hb dL_law_18 rfl (lv_at hl 0 rfl) ?_
  refine lv_aload_n hx hb dL_law_19 rfl (lv_at hl 3 rfl) ?_
  refine va_slen hx hb hX hbl hbA hS dL_law_20 ?_
  refine lv_bipush (v := 6) hx hb dL_law_21 (by decide +kernel) ?_
  refine lv_isub hx hb dL_law_23 ?_
  refine lv_topi (fun z10 ez10 => ?_)
  obtain rfl : z10 = 0 := ez10.trans (by decide +kernel)
  refine lv_icmp_gt (tgt := 1956) hx hb dL_law_24 (by decide) (fun c11 => ?_) (fun c11 => absurd (by decide +kernel) c11)
  refine lv_iconst (v := 1) hx hb dL_law_1956 (by decide +kernel) ?_
  refine va_forget (fun q hq => hS.2.2 q hq) ?_
  refine W.widen (k := 600000) (n := 7302249) (Nat.le_of_ble_eq_true rfl) (Nat.le_of_ble_eq_true rfl) ?_
  refine W.base ?_
  exact lw_ret (Drawn.sameBut.refl s.drawn lw_cs) hx hb hr hlocks dL_law_1957

set_option maxHeartbeats 4000000 in
set_option maxRecDepth 100000 in
theorem lw_case7 {p : Program} {e : Env} {s : State} {m : MethodId} {below : List Frame} {meth : Method} {c : Code} (l : Launch) {b : Nat} {xs : Nat → Int32} {dC : Nat → ClassId} {dI : Nat → Nat → Nat} (C0 : lw_At p s m meth c b 6 xs) {x0 tp nw dr rd sc sk fl ps sh nm nb dm db ss m0 mnw mhd mas mps msf mdt mhdd masd mpsd msfd mkp mtp mld mmd men mil mqu mbx : Nat} {kB kF kG kI kI2 kI3 kI4 kI5 kJ kJ2 kJ3 kJ4 kJ5 kZ kY : ClassId} {H : Heap} {locs : List Loc} {ls : Array Slot} (hK : va_K (dC, dI) vwCl [(kB, .byte), (kF, .object RX1), (kG, .object RX1), (kI, .int), (kI2, .int), (kI3, .int), (kI4, .int), (kI5, .int), (kJ, .long), (kJ2, .long), (kJ3, .long), (kJ4, .long), (kJ5, .long), (kZ, .boolean), (kY, .byte)] s) (hP : va_P (dC, dI) vwCl [(x0, .inr (6, [.ref tp, .int 0, .ref nw, .ref dr, .ref rd, .ref sc, .ref sk, .ref fl, .ref ps, .int 0, .int 0, .ref sh])), (tp, .inl (kB, 400, .inl (fun _ => 0))), (nw, .inr (1, [.ref nm, .ref nb, .int 0, .int 0, .int 0])), (dr, .inr (1, [.ref dm, .ref db, .int 0, .int 0, .int 0])), (rd, .inr (4, [.ref tp, .int 0, .int 0, .int 0, .int 0, .int 0])), (sc, .inr (5, [.ref nw, .ref ss, .int 0, .int (-1), .int 0, .int 0, .int 0, .int 0, .int 0])), (ps, .inl (kF, 10, .inr (.inr (.inr (.inr (fun _ => none)))))), (sh, .inl (kG, 2, .inr (.inr (.inr (.inr (fun _ => none)))))), (m0, .inr (7, [.ref mnw, .ref mhd, .ref mas, .ref mps, .ref msf, .ref mdt, .ref mhdd, .ref masd, .ref mpsd, .ref msfd, .ref mkp, .int 0, .ref mtp, .int 0, .int 0, .int 0, .int 0, .ref mld, .int 0, .ref mmd, .ref men, .ref mil, .ref mqu, .int 0, .int 0, .ref mbx])), (mnw, .inl (kI, 99, .inl (fun _ => 0))), (mhd, .inl (kI2, 99, .inl (fun _ => 0))), (mas, .inl (kI3, 99, .inl (fun _ => 0))), (mps, .inl (kI4, 990, .inl (fun _ => 0))), (msf, .inl (kI5, 198, .inl (fun _ => 0))), (mdt, .inl (kJ, 640, .inr (.inl (fun _ => 0)))), (mhdd, .inl (kJ2, 640, .inr (.inl (fun _ => 0)))), (masd, .inl (kJ3, 640, .inr (.inl (fun _ => 0)))), (mpsd, .inl (kJ4, 6400, .inr (.inl (fun _ => 0)))), (msfd, .inl (kJ5, 1280, .inr (.inl (fun _ => 0)))), (mkp, .inl (kZ, 2, .inl (fun _ => 0))), (mtp, .inl (kY, 400, .inl (fun _ => 0)))] H) (hD : va_D (fun q : Nat => s.heap.size ≤ q) [(x0, .inr (6, [.ref tp, .int 0, .ref nw, .ref dr, .ref rd, .ref sc, .ref sk, .ref fl, .ref ps, .int 0, .int 0, .ref sh])), (tp, .inl (kB, 400, .inl (fun _ => 0))), (nw, .inr (1, [.ref nm, .ref nb, .int 0, .int 0, .int 0])), (dr, .inr (1, [.ref dm, .ref db, .int 0, .int 0, .int 0])), (rd, .inr (4, [.ref tp, .int 0, .int 0, .int 0, .int 0, .int 0])), (sc, .inr (5, [.ref nw, .ref ss, .int 0, .int (-1), .int 0, .int 0, .int 0, .int 0, .int 0])), (ps, .inl (kF, 10, .inr (.inr (.inr (.inr (fun _ => none)))))), (sh, .inl (kG, 2, .inr (.inr (.inr (.inr (fun _ => none)))))), (m0, .inr (7, [.ref mnw, .ref mhd, .ref mas, .ref mps, .ref msf, .ref mdt, .ref mhdd, .ref masd, .ref mpsd, .ref msfd, .ref mkp, .int 0, .ref mtp, .int 0, .int 0, .int 0, .int 0, .ref mld, .int 0, .ref mmd, .ref men, .ref mil, .ref mqu, .int 0, .int 0, .ref mbx])), (mnw, .inl (kI, 99, .inl (fun _ => 0))), (mhd, .inl (kI2, 99, .inl (fun _ => 0))), (mas, .inl (kI3, 99, .inl (fun _ => 0))), (mps, .inl (kI4, 990, .inl (fun _ => 0))), (msf, .inl (kI5, 198, .inl (fun _ => 0))), (mdt, .inl (kJ, 640, .inr (.inl (fun _ => 0)))), (mhdd, .inl (kJ2, 640, .inr (.inl (fun _ => 0)))), (masd, .inl (kJ3, 640, .inr (.inl (fun _ => 0)))), (mpsd, .inl (kJ4, 6400, .inr (.inl (fun _ => 0)))), (msfd, .inl (kJ5, 1280, .inr (.inl (fun _ => 0)))), (mkp, .inl (kZ, 2, .inl (fun _ => 0))), (mtp, .inl (kY, 400, .inl (fun _ => 0)))]) (hS : va_S (fun q : Nat => s.heap.size ≤ q) s.heap H locs) (hl : lv_has ls 4 [(3, .int 0), (2, .ref m0), (1, .ref x0), (0, .ref b)]) : W p l e room_1 s m #[Value.ref b] below meth c H locs 110 27528 (lw_Z below #[Value.ref b] s) (F0 m 505 ls []) := by
  obtain ⟨hx, hb, hr, hml, hown, htl, hX, hbl, hlocks, hgv⟩ := id C0
  have hb : c.code = cL_law := hb
  have hown : s.vm.findClass RL = some m.cls := hown
  have hts : ∀ w ∈ pw, w.before #[Value.ref b] s = true := fun w h => htl w (pw_tbl h)
  have hN : xN s := xN_of htl
  have hA : ∀ q : Nat, s.heap.size ≤ q → (fun q : Nat => s.heap.size ≤ q) q := fun _ h => h
  have hbA : ¬ (fun q : Nat => s.heap.size ≤ q) b := Nat.not_le.mpr hbl
  refine lv_aload_n hx hb dL_law_505 rfl (lv_at hl 2 rfl) ?_
  refine lv_aload_n hx hb dL_law_506 rfl (lv_at hl 3 rfl) ?_
  refine lv_iload_n hx hb dL_law_507 rfl (lv_at hl 0 rfl) ?_
  refine lv_iconst (v := 1) hx hb dL_law_508 (by decide +kernel) ?_
  refine lv_iadd hx hb dL_law_509 ?_
  refine lv_topi (fun z1 ez1 => ?_)
  obtain rfl : z1 = 1 := ez1.trans (by decide +kernel)
  refine va_sld hx hb hX hbl hbA hS (in_d (by decide +kernel)) dL_law_510 ?_
  refine lv_aload_n hx hb dL_law_511 rfl (lv_at hl 3 rfl) ?_
  refine lv_iload_n hx hb dL_law_512 rfl (lv_at hl 0 rfl) ?_
  refine lv_iconst (v := 2) hx hb dL_law_513 (by decide +kernel) ?_
  refine lv_iadd hx hb dL_law_514 ?_
  refine lv_topi (fun z2 ez2 => ?_)
  obtain rfl : z2 = 2 := ez2.trans (by decide +kernel)
  refine va_sld hx hb hX hbl hbA hS (in_d (by decide +kernel)) dL_law_515 ?_
  refine lv_aload_n hx hb dL_law_516 rfl (lv_at hl 3 rfl) ?_
  refine lv_iload_n hx hb dL_law_517 rfl (lv_at hl 0 rfl) ?_
  refine lv_iconst (v := 3) hx hb dL_law_518 (by decide +kernel) ?_
  refine lv_iadd hx hb dL_law_519 ?_
  refine lv_topi (fun z3 ez3 => ?_)
  obtain rfl : z3 = 3 := ez3.trans (by decide +kernel)
  refine va_sld hx hb hX hbl hbA hS (in_d (by decide +kernel)) dL_law_520 ?_
  have hPc := hP.sub (ws' := [(x0, .inr (6, [.ref tp, .int 0, .ref nw, .ref dr, .ref rd, .ref sc, .ref sk, .ref fl, .ref ps, .int 0, .int 0, .ref sh])), (nw, .inr (1, [.ref nm, .ref nb, .int 0, .int 0, .int 0]))]) [0, 2] rfl
  have hDc := hD.sub (ws' := [(x0, .inr (6, [.ref tp, .int 0, .ref nw, .ref dr, .ref rd, .ref sc, .ref sk, .ref fl, .ref ps, .int 0, .int 0, .ref sh])), (nw, .inr (1, [.ref nm, .ref nb, .int 0, .int 0, .int 0]))]) [0, 2] (by decide) rfl
  have hKc := hK.sub (tys' := []) [] rfl
  refine ro_i (va_runV (As := [.int (xs (1 : Int32).toNatClampNeg), .int (xs (2 : Int32).toNatClampNeg), .int (xs (3 : Int32).toNatClampNeg)]) (rest := []) ⟨hx, hb, hml, hown, hts⟩ (c_X6_turn l dC dI x0 tp nw dr rd sc sk fl ps sh nm nb H.size (xs (1 : Int32).toNatClampNeg) (xs (2 : Int32).toNatClampNeg) (xs (3 : Int32).toNatClampNeg) ) (cwV 3 hts (gV pq662 pq663 pq664 pq74 pq665) rfl rfl rfl (by decide +kernel) ⟨(Nat.le_of_ble_eq_true rfl), (Nat.le_of_ble_eq_true rfl)⟩) (pc_V hPc hDc hKc hN (va_recv hK hP (ci := 6) (q0 := 0) rfl rfl)) rfl rfl hl.1 rfl (lv_room (Nat.le_of_ble_eq_true rfl)) dL_law_521 ⟨(Nat.le_of_ble_eq_true rfl), (Nat.le_of_ble_eq_true rfl)⟩) hS hP (fun r4 H locs hr4 hP hS => ?_)
  subst hr4
  refine lv_aload_n hx hb dL_law_524 rfl (lv_at hl 1 rfl) ?_
  refine lv_aload_n hx hb dL_law_525 rfl (lv_at hl 3 rfl) ?_
  refine lv_iload_n hx hb dL_law_526 rfl (lv_at hl 0 rfl) ?_
  refine lv_iconst (v := 1) hx hb dL_law_527 (by decide +kernel) ?_
  refine lv_iadd hx hb dL_law_528 ?_
  refine lv_topi (fun z5 ez5 => ?_)
  obtain rfl : z5 = 1 := ez5.trans (by decide +kernel)
  refine va_sld hx hb hX hbl hbA hS (in_d (by decide +kernel)) dL_law_529 ?_
  refine lv_aload_n hx hb dL_law_530 rfl (lv_at hl 3 rfl) ?_
  refine lv_iload_n hx hb dL_law_531 rfl (lv_at hl 0 rfl) ?_
  refine lv_iconst (v := 2) hx hb dL_law_532 (by decide +kernel) ?_
  refine lv_iadd hx hb dL_law_533 ?_
  refine lv_topi (fun z6 ez6 => ?_)
  obtain rfl : z6 = 2 := ez6.trans (by decide +kernel)
  refine va_sld hx hb hX hbl hbA hS (in_d (by decide +kernel)) dL_law_534 ?_
  refine lv_aload_n hx hb dL_law_535 rfl (lv_at hl 3 rfl) ?_
  refine lv_iload_n hx hb dL_law_536 rfl (lv_at hl 0 rfl) ?_
  refine lv_iconst (v := 3) hx hb dL_law_537 (by decide +kernel) ?_
  refine lv_iadd hx hb dL_law_538 ?_
  refine lv_topi (fun z7 ez7 => ?_)
  obtain rfl : z7 = 3 := ez7.trans (by decide +kernel)
  refine va_sld hx hb hX hbl hbA hS (in_d (by decide +kernel)) dL_law_539 ?_
  have hPc := hP.sub (ws' := [(m0, .inr (7, [.ref mnw, .ref mhd, .ref mas, .ref mps, .ref msf, .ref mdt, .ref mhdd, .ref masd, .ref mpsd, .ref msfd, .ref mkp, .int 0, .ref mtp, .int 0, .int 0, .int 0, .int 0, .ref mld, .int 0, .ref mmd, .ref men, .ref mil, .ref mqu, .int 0, .int 0, .ref mbx])), (mnw, .inl (kI, 99, .inl (fun _ => 0)))]) [8, 9] rfl
  have hDc := hD.sub (ws' := [(m0, .inr (7, [.ref mnw, .ref mhd, .ref mas, .ref mps, .ref msf, .ref mdt, .ref mhdd, .ref masd, .ref mpsd, .ref msfd, .ref mkp, .int 0, .ref mtp, .int 0, .int 0, .int 0, .int 0, .ref mld, .int 0, .ref mmd, .ref men, .ref mil, .ref mqu, .int 0, .int 0, .ref mbx])), (mnw, .inl (kI, 99, .inl (fun _ => 0)))]) [8, 9] (by decide) rfl
  have hKc := hK.sub (tys' := [(kI, .int)]) [3] rfl
  refine ro_i (va_runV (As := [.int (xs (1 : Int32).toNatClampNeg), .int (xs (2 : Int32).toNatClampNeg), .int (xs (3 : Int32).toNatClampNeg)]) (rest := [.int (-1)]) ⟨hx, hb, hml, hown, hts⟩ (c_X7_turn l dC dI m0 mnw mhd mas mps msf mdt mhdd masd mpsd msfd mkp mtp mld mmd men mil mqu mbx kI H.size (xs (1 : Int32).toNatClampNeg) (xs (2 : Int32).toNatClampNeg) (xs (3 : Int32).toNatClampNeg) ) (cwV 3 hts (gV pq1360 pq1361 pq1362 pq81 pq1363) rfl rfl rfl (by decide +kernel) ⟨(Nat.le_of_ble_eq_true rfl), (Nat.le_of_ble_eq_true rfl)⟩) (pc_V hPc hDc hKc hN (va_recv hK hP (ci := 7) (q0 := 8) rfl rfl)) rfl rfl hl.1 rfl (lv_room (Nat.le_of_ble_eq_true rfl)) dL_law_540 ⟨(Nat.le_of_ble_eq_true rfl), (Nat.le_of_ble_eq_true rfl)⟩) hS hP (fun r8 H locs hr8 hP hS => ?_)
  subst hr8
  refine lv_icmp_eq (tgt := 1950) hx hb dL_law_543 (by decide) (fun c9 => ?_) (fun c9 => absurd (by decide +kernel) c9)
  refine lv_iinc (v := 6) (lv' := [(3, .int 6), (2, .ref m0), (1, .ref x0), (0, .ref b)]) hx hb dL_law_1950 hl (k := 0) rfl (by decide +kernel) (by decide) rfl (fun ls hl => ?_)
  refine lv_goto (tgt := 18) hx hb dL_law_1953 (by decide) ?_
  refine lv_iload_n hx hb dL_law_18 rfl (lv_at hl 0 rfl) ?_
  refine lv_aload_n hx hb dL_law_19 rfl (lv_at hl 3 rfl) ?_
  refine va_slen hx hb hX hbl hbA hS dL_law_20 ?_
  refine lv_bipush (v := 6) hx hb dL_law_21 (by decide +kernel) ?_
  refine lv_isub hx hb dL_law_23 ?_
  refine lv_topi (fun z10 ez10 => ?_)
  obtain rfl : z10 = 0 := ez10.trans (by decide +kernel)
  refine lv_icmp_gt (tgt := 1956) hx hb dL_law_24 (by decide) (fun c11 => ?_) (fun c11 => absurd (by decide +kernel) c11)
  refine lv_iconst (v := 1) hx hb dL_law_1956 (by decide +kernel) ?_
  refine va_forget (fun q hq => hS.2.2 q hq) ?_
  refine W.widen (k := 600000) (n := 7302249) (Nat.le_of_ble_eq_true rfl) (Nat.le_of_ble_eq_true rfl) ?_
  refine W.base ?_
  exact lw_ret (Drawn.sameBut.refl s.drawn lw_cs) hx hb hr hlocks dL_law_1957

set_option maxHeartbeats 4000000 in
set_option maxRecDepth 100000 in
theorem lw_case8 {p : Program} {e : Env} {s : State} {m : MethodId} {below : List Frame} {meth : Method} {c : Code} (l : Launch) {b : Nat} {xs : Nat → Int32} {dC : Nat → ClassId} {dI : Nat → Nat → Nat} (C0 : lw_At p s m meth c b 6 xs) {x0 tp nw dr rd sc sk fl ps sh nm nb dm db ss m0 mnw mhd mas mps msf mdt mhdd masd mpsd msfd mkp mtp mld mmd men mil mqu mbx : Nat} {kB kF kG kI kI2 kI3 kI4 kI5 kJ kJ2 kJ3 kJ4 kJ5 kZ kY : ClassId} {H : Heap} {locs : List Loc} {ls : Array Slot} (hK : va_K (dC, dI) vwCl [(kB, .byte), (kF, .object RX1), (kG, .object RX1), (kI, .int), (kI2, .int), (kI3, .int), (kI4, .int), (kI5, .int), (kJ, .long), (kJ2, .long), (kJ3, .long), (kJ4, .long), (kJ5, .long), (kZ, .boolean), (kY, .byte)] s) (hP : va_P (dC, dI) vwCl [(x0, .inr (6, [.ref tp, .int 0, .ref nw, .ref dr, .ref rd, .ref sc, .ref sk, .ref fl, .ref ps, .int 0, .int 0, .ref sh])), (tp, .inl (kB, 400, .inl (fun _ => 0))), (nw, .inr (1, [.ref nm, .ref nb, .int 0, .int 0, .int 0])), (dr, .inr (1, [.ref dm, .ref db, .int 0, .int 0, .int 0])), (rd, .inr (4, [.ref tp, .int 0, .int 0, .int 0, .int 0, .int 0])), (sc, .inr (5, [.ref nw, .ref ss, .int 0, .int (-1), .int 0, .int 0, .int 0, .int 0, .int 0])), (ps, .inl (kF, 10, .inr (.inr (.inr (.inr (fun _ => none)))))), (sh, .inl (kG, 2, .inr (.inr (.inr (.inr (fun _ => none)))))), (m0, .inr (7, [.ref mnw, .ref mhd, .ref mas, .ref mps, .ref msf, .ref mdt, .ref mhdd, .ref masd, .ref mpsd, .ref msfd, .ref mkp, .int 0, .ref mtp, .int 0, .int 0, .int 0, .int 0, .ref mld, .int 0, .ref mmd, .ref men, .ref mil, .ref mqu, .int 0, .int 0, .ref mbx])), (mnw, .inl (kI, 99, .inl (fun _ => 0))), (mhd, .inl (kI2, 99, .inl (fun _ => 0))), (mas, .inl (kI3, 99, .inl (fun _ => 0))), (mps, .inl (kI4, 990, .inl (fun _ => 0))), (msf, .inl (kI5, 198, .inl (fun _ => 0))), (mdt, .inl (kJ, 640, .inr (.inl (fun _ => 0)))), (mhdd, .inl (kJ2, 640, .inr (.inl (fun _ => 0)))), (masd, .inl (kJ3, 640, .inr (.inl (fun _ => 0)))), (mpsd, .inl (kJ4, 6400, .inr (.inl (fun _ => 0)))), (msfd, .inl (kJ5, 1280, .inr (.inl (fun _ => 0)))), (mkp, .inl (kZ, 2, .inl (fun _ => 0))), (mtp, .inl (kY, 400, .inl (fun _ => 0)))] H) (hD : va_D (fun q : Nat => s.heap.size ≤ q) [(x0, .inr (6, [.ref tp, .int 0, .ref nw, .ref dr, .ref rd, .ref sc, .ref sk, .ref fl, .ref ps, .int 0, .int 0, .ref sh])), (tp, .inl (kB, 400, .inl (fun _ => 0))), (nw, .inr (1, [.ref nm, .ref nb, .int 0, .int 0, .int 0])), (dr, .inr (1, [.ref dm, .ref db, .int 0, .int 0, .int 0])), (rd, .inr (4, [.ref tp, .int 0, .int 0, .int 0, .int 0, .int 0])), (sc, .inr (5, [.ref nw, .ref ss, .int 0, .int (-1), .int 0, .int 0, .int 0, .int 0, .int 0])), (ps, .inl (kF, 10, .inr (.inr (.inr (.inr (fun _ => none)))))), (sh, .inl (kG, 2, .inr (.inr (.inr (.inr (fun _ => none)))))), (m0, .inr (7, [.ref mnw, .ref mhd, .ref mas, .ref mps, .ref msf, .ref mdt, .ref mhdd, .ref masd, .ref mpsd, .ref msfd, .ref mkp, .int 0, .ref mtp, .int 0, .int 0, .int 0, .int 0, .ref mld, .int 0, .ref mmd, .ref men, .ref mil, .ref mqu, .int 0, .int 0, .ref mbx])), (mnw, .inl (kI, 99, .inl (fun _ => 0))), (mhd, .inl (kI2, 99, .inl (fun _ => 0))), (mas, .inl (kI3, 99, .inl (fun _ => 0))), (mps, .inl (kI4, 990, .inl (fun _ => 0))), (msf, .inl (kI5, 198, .inl (fun _ => 0))), (mdt, .inl (kJ, 640, .inr (.inl (fun _ => 0)))), (mhdd, .inl (kJ2, 640, .inr (.inl (fun _ => 0)))), (masd, .inl (kJ3, 640, .inr (.inl (fun _ => 0)))), (mpsd, .inl (kJ4, 6400, .inr (.inl (fun _ => 0)))), (msfd, .inl (kJ5, 1280, .inr (.inl (fun _ => 0)))), (mkp, .inl (kZ, 2, .inl (fun _ => 0))), (mtp, .inl (kY, 400, .inl (fun _ => 0)))]) (hS : va_S (fun q : Nat => s.heap.size ≤ q) s.heap H locs) (hl : lv_has ls 4 [(3, .int 0), (2, .ref m0), (1, .ref x0), (0, .ref b)]) : W p l e room_1 s m #[Value.ref b] below meth c H locs 110 27528 (lw_Z below #[Value.ref b] s) (F0 m 548 ls []) := by
  obtain ⟨hx, hb, hr, hml, hown, htl, hX, hbl, hlocks, hgv⟩ := id C0
  have hb : c.code = cL_law := hb
  have hown : s.vm.findClass RL = some m.cls := hown
  have hts : ∀ w ∈ pw, w.before #[Value.ref b] s = true := fun w h => htl w (pw_tbl h)
  have hN : xN s := xN_of htl
  have hA : ∀ q : Nat, s.heap.size ≤ q → (fun q : Nat => s.heap.size ≤ q) q := fun _ h => h
  have hbA : ¬ (fun q : Nat => s.heap.size ≤ q) b := Nat.not_le.mpr hbl
  refine lv_aload_n hx hb dL_law_548 rfl (lv_at hl 2 rfl) ?_
  refine lv_aload_n hx hb dL_law_549 rfl (lv_at hl 3 rfl) ?_
  refine lv_iload_n hx hb dL_law_550 rfl (lv_at hl 0 rfl) ?_
  refine lv_iconst (v := 1) hx hb dL_law_551 (by decide +kernel) ?_
  refine lv_iadd hx hb dL_law_552 ?_
  refine lv_topi (fun z1 ez1 => ?_)
  obtain rfl : z1 = 1 := ez1.trans (by decide +kernel)
  refine va_sld hx hb hX hbl hbA hS (in_d (by decide +kernel)) dL_law_553 ?_
  have hPc := hP.sub (ws' := [(x0, .inr (6, [.ref tp, .int 0, .ref nw, .ref dr, .ref rd, .ref sc, .ref sk, .ref fl, .ref ps, .int 0, .int 0, .ref sh])), (nw, .inr (1, [.ref nm, .ref nb, .int 0, .int 0, .int 0]))]) [0, 2] rfl
  have hDc := hD.sub (ws' := [(x0, .inr (6, [.ref tp, .int 0, .ref nw, .ref dr, .ref rd, .ref sc, .ref sk, .ref fl, .ref ps, .int 0, .int 0, .ref sh])), (nw, .inr (1, [.ref nm, .ref nb, .int 0, .int 0, .int 0]))]) [0, 2] (by decide) rfl
  have hKc := hK.sub (tys' := []) [] rfl
  refine ro_i (va_runV (As := [.int (xs (1 : Int32).toNatClampNeg)]) (rest := []) ⟨hx, hb, hml, hown, hts⟩ (c_X6_grow l dC dI x0 tp nw dr rd sc sk fl ps sh nm nb H.size (xs (1 : Int32).toNatClampNeg) ) (cwV 1 hts (gV pq677 pq678 pq679 pq74 pq680) rfl rfl rfl (by decide +kernel) ⟨(Nat.le_of_ble_eq_true rfl), (Nat.le_of_ble_eq_true rfl)⟩) (pc_V hPc hDc hKc hN (va_recv hK hP (ci := 6) (q0 := 0) rfl rfl)) rfl rfl hl.1 rfl (lv_room (Nat.le_of_ble_eq_true rfl)) dL_law_554 ⟨(Nat.le_of_ble_eq_true rfl), (Nat.le_of_ble_eq_true rfl)⟩) hS hP (fun r2 H locs hr2 hP hS => ?_)
  subst hr2
  refine lv_aload_n hx hb dL_law_557 rfl (lv_at hl 1 rfl) ?_
  refine lv_aload_n hx hb dL_law_558 rfl (lv_at hl 3 rfl) ?_
  refine lv_iload_n hx hb dL_law_559 rfl (lv_at hl 0 rfl) ?_
  refine lv_iconst (v := 1) hx hb dL_law_560 (by decide +kernel) ?_
  refine lv_iadd hx hb dL_law_561 ?_
  refine lv_topi (fun z3 ez3 => ?_)
  obtain rfl : z3 = 1 := ez3.trans (by decide +kernel)
  refine va_sld hx hb hX hbl hbA hS (in_d (by decide +kernel)) dL_law_562 ?_
  have hPc := hP.sub (ws' := [(m0, .inr (7, [.ref mnw, .ref mhd, .ref mas, .ref mps, .ref msf, .ref mdt, .ref mhdd, .ref masd, .ref mpsd, .ref msfd, .ref mkp, .int 0, .ref mtp, .int 0, .int 0, .int 0, .int 0, .ref mld, .int 0, .ref mmd, .ref men, .ref mil, .ref mqu, .int 0, .int 0, .ref mbx])), (mnw, .inl (kI, 99, .inl (fun _ => 0)))]) [8, 9] rfl
  have hDc := hD.sub (ws' := [(m0, .inr (7, [.ref mnw, .ref mhd, .ref mas, .ref mps, .ref msf, .ref mdt, .ref mhdd, .ref masd, .ref mpsd, .ref msfd, .ref mkp, .int 0, .ref mtp, .int 0, .int 0, .int 0, .int 0, .ref mld, .int 0, .ref mmd, .ref men, .ref mil, .ref mqu, .int 0, .int 0, .ref mbx])), (mnw, .inl (kI, 99, .inl (fun _ => 0)))]) [8, 9] (by decide) rfl
  have hKc := hK.sub (tys' := [(kI, .int)]) [3] rfl
  refine ro_i (va_runV (As := [.int (xs (1 : Int32).toNatClampNeg)]) (rest := [.int (-1)]) ⟨hx, hb, hml, hown, hts⟩ (c_X7_grow l dC dI m0 mnw mhd mas mps msf mdt mhdd masd mpsd msfd mkp mtp mld mmd men mil mqu mbx kI H.size (xs (1 : Int32).toNatClampNeg) ) (cwV 1 hts (gV pq1383 pq1384 pq1385 pq81 pq1386) rfl rfl rfl (by decide +kernel) ⟨(Nat.le_of_ble_eq_true rfl), (Nat.le_of_ble_eq_true rfl)⟩) (pc_V hPc hDc hKc hN (va_recv hK hP (ci := 7) (q0 := 8) rfl rfl)) rfl rfl hl.1 rfl (lv_room (Nat.le_of_ble_eq_true rfl)) dL_law_563 ⟨(Nat.le_of_ble_eq_true rfl), (Nat.le_of_ble_eq_true rfl)⟩) hS hP (fun r4 H locs hr4 hP hS => ?_)
  subst hr4
  refine lv_icmp_eq (tgt := 1950) hx hb dL_law_566 (by decide) (fun c5 => ?_) (fun c5 => absurd (by decide +kernel) c5)
  refine lv_iinc (v := 6) (lv' := [(3, .int 6), (2, .ref m0), (1, .ref x0), (0, .ref b)]) hx hb dL_law_1950 hl (k := 0) rfl (by decide +kernel) (by decide) rfl (fun ls hl => ?_)
  refine lv_goto (tgt := 18) hx hb dL_law_1953 (by decide) ?_
  refine lv_iload_n hx hb dL_law_18 rfl (lv_at hl 0 rfl) ?_
  refine lv_aload_n hx hb dL_law_19 rfl (lv_at hl 3 rfl) ?_
  refine va_slen hx hb hX hbl hbA hS dL_law_20 ?_
  refine lv_bipush (v := 6) hx hb dL_law_21 (by decide +kernel) ?_
  refine lv_isub hx hb dL_law_23 ?_
  refine lv_topi (fun z6 ez6 => ?_)
  obtain rfl : z6 = 0 := ez6.trans (by decide +kernel)
  refine lv_icmp_gt (tgt := 1956) hx hb dL_law_24 (by decide) (fun c7 => ?_) (fun c7 => absurd (by decide +kernel) c7)
  refine lv_iconst (v := 1) hx hb dL_law_1956 (by decide +kernel) ?_
  refine va_forget (fun q hq => hS.2.2 q hq) ?_
  refine W.widen (k := 600000) (n := 7302249) (Nat.le_of_ble_eq_true rfl) (Nat.le_of_ble_eq_true rfl) ?_
  refine W.base ?_
  exact lw_ret (Drawn.sameBut.refl s.drawn lw_cs) hx hb hr hlocks dL_law_1957

set_option maxHeartbeats 4000000 in
set_option maxRecDepth 100000 in
theorem lw_case9 {p : Program} {e : Env} {s : State} {m : MethodId} {below : List Frame} {meth : Method} {c : Code} (l : Launch) {b : Nat} {xs : Nat → Int32} {dC : Nat → ClassId} {dI : Nat → Nat → Nat} (C0 : lw_At p s m meth c b 6 xs) {x0 tp nw dr rd sc sk fl ps sh nm nb dm db ss m0 mnw mhd mas mps msf mdt mhdd masd mpsd msfd mkp mtp mld mmd men mil mqu mbx : Nat} {kB kF kG kI kI2 kI3 kI4 kI5 kJ kJ2 kJ3 kJ4 kJ5 kZ kY : ClassId} {H : Heap} {locs : List Loc} {ls : Array Slot} (hK : va_K (dC, dI) vwCl [(kB, .byte), (kF, .object RX1), (kG, .object RX1), (kI, .int), (kI2, .int), (kI3, .int), (kI4, .int), (kI5, .int), (kJ, .long), (kJ2, .long), (kJ3, .long), (kJ4, .long), (kJ5, .long), (kZ, .boolean), (kY, .byte)] s) (hP : va_P (dC, dI) vwCl [(x0, .inr (6, [.ref tp, .int 0, .ref nw, .ref dr, .ref rd, .ref sc, .ref sk, .ref fl, .ref ps, .int 0, .int 0, .ref sh])), (tp, .inl (kB, 400, .inl (fun _ => 0))), (nw, .inr (1, [.ref nm, .ref nb, .int 0, .int 0, .int 0])), (dr, .inr (1, [.ref dm, .ref db, .int 0, .int 0, .int 0])), (rd, .inr (4, [.ref tp, .int 0, .int 0, .int 0, .int 0, .int 0])), (sc, .inr (5, [.ref nw, .ref ss, .int 0, .int (-1), .int 0, .int 0, .int 0, .int 0, .int 0])), (ps, .inl (kF, 10, .inr (.inr (.inr (.inr (fun _ => none)))))), (sh, .inl (kG, 2, .inr (.inr (.inr (.inr (fun _ => none)))))), (m0, .inr (7, [.ref mnw, .ref mhd, .ref mas, .ref mps, .ref msf, .ref mdt, .ref mhdd, .ref masd, .ref mpsd, .ref msfd, .ref mkp, .int 0, .ref mtp, .int 0, .int 0, .int 0, .int 0, .ref mld, .int 0, .ref mmd, .ref men, .ref mil, .ref mqu, .int 0, .int 0, .ref mbx])), (mnw, .inl (kI, 99, .inl (fun _ => 0))), (mhd, .inl (kI2, 99, .inl (fun _ => 0))), (mas, .inl (kI3, 99, .inl (fun _ => 0))), (mps, .inl (kI4, 990, .inl (fun _ => 0))), (msf, .inl (kI5, 198, .inl (fun _ => 0))), (mdt, .inl (kJ, 640, .inr (.inl (fun _ => 0)))), (mhdd, .inl (kJ2, 640, .inr (.inl (fun _ => 0)))), (masd, .inl (kJ3, 640, .inr (.inl (fun _ => 0)))), (mpsd, .inl (kJ4, 6400, .inr (.inl (fun _ => 0)))), (msfd, .inl (kJ5, 1280, .inr (.inl (fun _ => 0)))), (mkp, .inl (kZ, 2, .inl (fun _ => 0))), (mtp, .inl (kY, 400, .inl (fun _ => 0)))] H) (hD : va_D (fun q : Nat => s.heap.size ≤ q) [(x0, .inr (6, [.ref tp, .int 0, .ref nw, .ref dr, .ref rd, .ref sc, .ref sk, .ref fl, .ref ps, .int 0, .int 0, .ref sh])), (tp, .inl (kB, 400, .inl (fun _ => 0))), (nw, .inr (1, [.ref nm, .ref nb, .int 0, .int 0, .int 0])), (dr, .inr (1, [.ref dm, .ref db, .int 0, .int 0, .int 0])), (rd, .inr (4, [.ref tp, .int 0, .int 0, .int 0, .int 0, .int 0])), (sc, .inr (5, [.ref nw, .ref ss, .int 0, .int (-1), .int 0, .int 0, .int 0, .int 0, .int 0])), (ps, .inl (kF, 10, .inr (.inr (.inr (.inr (fun _ => none)))))), (sh, .inl (kG, 2, .inr (.inr (.inr (.inr (fun _ => none)))))), (m0, .inr (7, [.ref mnw, .ref mhd, .ref mas, .ref mps, .ref msf, .ref mdt, .ref mhdd, .ref masd, .ref mpsd, .ref msfd, .ref mkp, .int 0, .ref mtp, .int 0, .int 0, .int 0, .int 0, .ref mld, .int 0, .ref mmd, .ref men, .ref mil, .ref mqu, .int 0, .int 0, .ref mbx])), (mnw, .inl (kI, 99, .inl (fun _ => 0))), (mhd, .inl (kI2, 99, .inl (fun _ => 0))), (mas, .inl (kI3, 99, .inl (fun _ => 0))), (mps, .inl (kI4, 990, .inl (fun _ => 0))), (msf, .inl (kI5, 198, .inl (fun _ => 0))), (mdt, .inl (kJ, 640, .inr (.inl (fun _ => 0)))), (mhdd, .inl (kJ2, 640, .inr (.inl (fun _ => 0)))), (masd, .inl (kJ3, 640, .inr (.inl (fun _ => 0)))), (mpsd, .inl (kJ4, 6400, .inr (.inl (fun _ => 0)))), (msfd, .inl (kJ5, 1280, .inr (.inl (fun _ => 0)))), (mkp, .inl (kZ, 2, .inl (fun _ => 0))), (mtp, .inl (kY, 400, .inl (fun _ => 0)))]) (hS : va_S (fun q : Nat => s.heap.size ≤ q) s.heap H locs) (hl : lv_has ls 4 [(3, .int 0), (2, .ref m0), (1, .ref x0), (0, .ref b)]) : W p l e room_1 s m #[Value.ref b] below meth c H locs 110 27528 (lw_Z below #[Value.ref b] s) (F0 m 571 ls []) := by
  obtain ⟨hx, hb, hr, hml, hown, htl, hX, hbl, hlocks, hgv⟩ := id C0
  have hb : c.code = cL_law := hb
  have hown : s.vm.findClass RL = some m.cls := hown
  have hts : ∀ w ∈ pw, w.before #[Value.ref b] s = true := fun w h => htl w (pw_tbl h)
  have hN : xN s := xN_of htl
  have hA : ∀ q : Nat, s.heap.size ≤ q → (fun q : Nat => s.heap.size ≤ q) q := fun _ h => h
  have hbA : ¬ (fun q : Nat => s.heap.size ≤ q) b := Nat.not_le.mpr hbl
  refine lv_aload_n hx hb dL_law_571 rfl (lv_at hl 2 rfl) ?_
  refine lv_aload_n hx hb dL_law_572 rfl (lv_at hl 3 rfl) ?_
  refine lv_iload_n hx hb dL_law_573 rfl (lv_at hl 0 rfl) ?_
  refine lv_iconst (v := 1) hx hb dL_law_574 (by decide +kernel) ?_
  refine lv_iadd hx hb dL_law_575 ?_
  refine lv_topi (fun z1 ez1 => ?_)
  obtain rfl : z1 = 1 := ez1.trans (by decide +kernel)
  refine va_sld hx hb hX hbl hbA hS (in_d (by decide +kernel)) dL_law_576 ?_
  have hPc := hP.sub (ws' := [(x0, .inr (6, [.ref tp, .int 0, .ref nw, .ref dr, .ref rd, .ref sc, .ref sk, .ref fl, .ref ps, .int 0, .int 0, .ref sh])), (nw, .inr (1, [.ref nm, .ref nb, .int 0, .int 0, .int 0]))]) [0, 2] rfl
  have hDc := hD.sub (ws' := [(x0, .inr (6, [.ref tp, .int 0, .ref nw, .ref dr, .ref rd, .ref sc, .ref sk, .ref fl, .ref ps, .int 0, .int 0, .ref sh])), (nw, .inr (1, [.ref nm, .ref nb, .int 0, .int 0, .int 0]))]) [0, 2] (by decide) rfl
  have hKc := hK.sub (tys' := []) [] rfl
  refine ro_i (va_runV (As := [.int (xs (1 : Int32).toNatClampNeg)]) (rest := []) ⟨hx, hb, hml, hown, hts⟩ (c_X6_thin l dC dI x0 tp nw dr rd sc sk fl ps sh nm nb H.size (xs (1 : Int32).toNatClampNeg) ) (cwV 1 hts (gV pq692 pq693 pq694 pq74 pq695) rfl rfl rfl (by decide +kernel) ⟨(Nat.le_of_ble_eq_true rfl), (Nat.le_of_ble_eq_true rfl)⟩) (pc_V hPc hDc hKc hN (va_recv hK hP (ci := 6) (q0 := 0) rfl rfl)) rfl rfl hl.1 rfl (lv_room (Nat.le_of_ble_eq_true rfl)) dL_law_577 ⟨(Nat.le_of_ble_eq_true rfl), (Nat.le_of_ble_eq_true rfl)⟩) hS hP (fun r2 H locs hr2 hP hS => ?_)
  subst hr2
  refine lv_aload_n hx hb dL_law_580 rfl (lv_at hl 1 rfl) ?_
  refine lv_aload_n hx hb dL_law_581 rfl (lv_at hl 3 rfl) ?_
  refine lv_iload_n hx hb dL_law_582 rfl (lv_at hl 0 rfl) ?_
  refine lv_iconst (v := 1) hx hb dL_law_583 (by decide +kernel) ?_
  refine lv_iadd hx hb dL_law_584 ?_
  refine lv_topi (fun z3 ez3 => ?_)
  obtain rfl : z3 = 1 := ez3.trans (by decide +kernel)
  refine va_sld hx hb hX hbl hbA hS (in_d (by decide +kernel)) dL_law_585 ?_
  have hPc := hP.sub (ws' := [(m0, .inr (7, [.ref mnw, .ref mhd, .ref mas, .ref mps, .ref msf, .ref mdt, .ref mhdd, .ref masd, .ref mpsd, .ref msfd, .ref mkp, .int 0, .ref mtp, .int 0, .int 0, .int 0, .int 0, .ref mld, .int 0, .ref mmd, .ref men, .ref mil, .ref mqu, .int 0, .int 0, .ref mbx])), (mnw, .inl (kI, 99, .inl (fun _ => 0)))]) [8, 9] rfl
  have hDc := hD.sub (ws' := [(m0, .inr (7, [.ref mnw, .ref mhd, .ref mas, .ref mps, .ref msf, .ref mdt, .ref mhdd, .ref masd, .ref mpsd, .ref msfd, .ref mkp, .int 0, .ref mtp, .int 0, .int 0, .int 0, .int 0, .ref mld, .int 0, .ref mmd, .ref men, .ref mil, .ref mqu, .int 0, .int 0, .ref mbx])), (mnw, .inl (kI, 99, .inl (fun _ => 0)))]) [8, 9] (by decide) rfl
  have hKc := hK.sub (tys' := [(kI, .int)]) [3] rfl
  refine ro_i (va_runV (As := [.int (xs (1 : Int32).toNatClampNeg)]) (rest := [.int (-1)]) ⟨hx, hb, hml, hown, hts⟩ (c_X7_thin l dC dI m0 mnw mhd mas mps msf mdt mhdd masd mpsd msfd mkp mtp mld mmd men mil mqu mbx kI H.size (xs (1 : Int32).toNatClampNeg) ) (cwV 1 hts (gV pq1403 pq1404 pq1405 pq81 pq1406) rfl rfl rfl (by decide +kernel) ⟨(Nat.le_of_ble_eq_true rfl), (Nat.le_of_ble_eq_true rfl)⟩) (pc_V hPc hDc hKc hN (va_recv hK hP (ci := 7) (q0 := 8) rfl rfl)) rfl rfl hl.1 rfl (lv_room (Nat.le_of_ble_eq_true rfl)) dL_law_586 ⟨(Nat.le_of_ble_eq_true rfl), (Nat.le_of_ble_eq_true rfl)⟩) hS hP (fun r4 H locs hr4 hP hS => ?_)
  subst hr4
  refine lv_icmp_eq (tgt := 1950) hx hb dL_law_589 (by decide) (fun c5 => ?_) (fun c5 => absurd (by decide +kernel) c5)
  refine lv_iinc (v := 6) (lv' := [(3, .int 6), (2, .ref m0), (1, .ref x0), (0, .ref b)]) hx hb dL_law_1950 hl (k := 0) rfl (by decide +kernel) (by decide) rfl (fun ls hl => ?_)
  refine lv_goto (tgt := 18) hx hb dL_law_1953 (by decide) ?_
  refine lv_iload_n hx hb dL_law_18 rfl (lv_at hl 0 rfl) ?_
  refine lv_aload_n hx hb dL_law_19 rfl (lv_at hl 3 rfl) ?_
  refine va_slen hx hb hX hbl hbA hS dL_law_20 ?_
  refine lv_bipush (v := 6) hx hb dL_law_21 (by decide +kernel) ?_
  refine lv_isub hx hb dL_law_23 ?_
  refine lv_topi (fun z6 ez6 => ?_)
  obtain rfl : z6 = 0 := ez6.trans (by decide +kernel)
  refine lv_icmp_gt (tgt := 1956) hx hb dL_law_24 (by decide) (fun c7 => ?_) (fun c7 => absurd (by decide +kernel) c7)
  refine lv_iconst (v := 1) hx hb dL_law_1956 (by decide +kernel) ?_
  refine va_forget (fun q hq => hS.2.2 q hq) ?_
  refine W.widen (k := 600000) (n := 7302249) (Nat.le_of_ble_eq_true rfl) (Nat.le_of_ble_eq_true rfl) ?_
  refine W.base ?_
  exact lw_ret (Drawn.sameBut.refl s.drawn lw_cs) hx hb hr hlocks dL_law_1957

set_option maxHeartbeats 4000000 in
set_option maxRecDepth 100000 in
theorem lw_case10 {p : Program} {e : Env} {s : State} {m : MethodId} {below : List Frame} {meth : Method} {c : Code} (l : Launch) {b : Nat} {xs : Nat → Int32} {dC : Nat → ClassId} {dI : Nat → Nat → Nat} (C0 : lw_At p s m meth c b 6 xs) {x0 tp nw dr rd sc sk fl ps sh nm nb dm db ss m0 mnw mhd mas mps msf mdt mhdd masd mpsd msfd mkp mtp mld mmd men mil mqu mbx : Nat} {kB kF kG kI kI2 kI3 kI4 kI5 kJ kJ2 kJ3 kJ4 kJ5 kZ kY : ClassId} {H : Heap} {locs : List Loc} {ls : Array Slot} (hK : va_K (dC, dI) vwCl [(kB, .byte), (kF, .object RX1), (kG, .object RX1), (kI, .int), (kI2, .int), (kI3, .int), (kI4, .int), (kI5, .int), (kJ, .long), (kJ2, .long), (kJ3, .long), (kJ4, .long), (kJ5, .long), (kZ, .boolean), (kY, .byte)] s) (hP : va_P (dC, dI) vwCl [(x0, .inr (6, [.ref tp, .int 0, .ref nw, .ref dr, .ref rd, .ref sc, .ref sk, .ref fl, .ref ps, .int 0, .int 0, .ref sh])), (tp, .inl (kB, 400, .inl (fun _ => 0))), (nw, .inr (1, [.ref nm, .ref nb, .int 0, .int 0, .int 0])), (dr, .inr (1, [.ref dm, .ref db, .int 0, .int 0, .int 0])), (rd, .inr (4, [.ref tp, .int 0, .int 0, .int 0, .int 0, .int 0])), (sc, .inr (5, [.ref nw, .ref ss, .int 0, .int (-1), .int 0, .int 0, .int 0, .int 0, .int 0])), (ps, .inl (kF, 10, .inr (.inr (.inr (.inr (fun _ => none)))))), (sh, .inl (kG, 2, .inr (.inr (.inr (.inr (fun _ => none)))))), (m0, .inr (7, [.ref mnw, .ref mhd, .ref mas, .ref mps, .ref msf, .ref mdt, .ref mhdd, .ref masd, .ref mpsd, .ref msfd, .ref mkp, .int 0, .ref mtp, .int 0, .int 0, .int 0, .int 0, .ref mld, .int 0, .ref mmd, .ref men, .ref mil, .ref mqu, .int 0, .int 0, .ref mbx])), (mnw, .inl (kI, 99, .inl (fun _ => 0))), (mhd, .inl (kI2, 99, .inl (fun _ => 0))), (mas, .inl (kI3, 99, .inl (fun _ => 0))), (mps, .inl (kI4, 990, .inl (fun _ => 0))), (msf, .inl (kI5, 198, .inl (fun _ => 0))), (mdt, .inl (kJ, 640, .inr (.inl (fun _ => 0)))), (mhdd, .inl (kJ2, 640, .inr (.inl (fun _ => 0)))), (masd, .inl (kJ3, 640, .inr (.inl (fun _ => 0)))), (mpsd, .inl (kJ4, 6400, .inr (.inl (fun _ => 0)))), (msfd, .inl (kJ5, 1280, .inr (.inl (fun _ => 0)))), (mkp, .inl (kZ, 2, .inl (fun _ => 0))), (mtp, .inl (kY, 400, .inl (fun _ => 0)))] H) (hD : va_D (fun q : Nat => s.heap.size ≤ q) [(x0, .inr (6, [.ref tp, .int 0, .ref nw, .ref dr, .ref rd, .ref sc, .ref sk, .ref fl, .ref ps, .int 0, .int 0, .ref sh])), (tp, .inl (kB, 400, .inl (fun _ => 0))), (nw, .inr (1, [.ref nm, .ref nb, .int 0, .int 0, .int 0])), (dr, .inr (1, [.ref dm, .ref db, .int 0, .int 0, .int 0])), (rd, .inr (4, [.ref tp, .int 0, .int 0, .int 0, .int 0, .int 0])), (sc, .inr (5, [.ref nw, .ref ss, .int 0, .int (-1), .int 0, .int 0, .int 0, .int 0, .int 0])), (ps, .inl (kF, 10, .inr (.inr (.inr (.inr (fun _ => none)))))), (sh, .inl (kG, 2, .inr (.inr (.inr (.inr (fun _ => none)))))), (m0, .inr (7, [.ref mnw, .ref mhd, .ref mas, .ref mps, .ref msf, .ref mdt, .ref mhdd, .ref masd, .ref mpsd, .ref msfd, .ref mkp, .int 0, .ref mtp, .int 0, .int 0, .int 0, .int 0, .ref mld, .int 0, .ref mmd, .ref men, .ref mil, .ref mqu, .int 0, .int 0, .ref mbx])), (mnw, .inl (kI, 99, .inl (fun _ => 0))), (mhd, .inl (kI2, 99, .inl (fun _ => 0))), (mas, .inl (kI3, 99, .inl (fun _ => 0))), (mps, .inl (kI4, 990, .inl (fun _ => 0))), (msf, .inl (kI5, 198, .inl (fun _ => 0))), (mdt, .inl (kJ, 640, .inr (.inl (fun _ => 0)))), (mhdd, .inl (kJ2, 640, .inr (.inl (fun _ => 0)))), (masd, .inl (kJ3, 640, .inr (.inl (fun _ => 0)))), (mpsd, .inl (kJ4, 6400, .inr (.inl (fun _ => 0)))), (msfd, .inl (kJ5, 1280, .inr (.inl (fun _ => 0)))), (mkp, .inl (kZ, 2, .inl (fun _ => 0))), (mtp, .inl (kY, 400, .inl (fun _ => 0)))]) (hS : va_S (fun q : Nat => s.heap.size ≤ q) s.heap H locs) (hl : lv_has ls 4 [(3, .int 0), (2, .ref m0), (1, .ref x0), (0, .ref b)]) : W p l e room_1 s m #[Value.ref b] below meth c H locs 110 27528 (lw_Z below #[Value.ref b] s) (F0 m 594 ls []) := by
  obtain ⟨hx, hb, hr, hml, hown, htl, hX, hbl, hlocks, hgv⟩ := id C0
  have hb : c.code = cL_law := hb
  have hown : s.vm.findClass RL = some m.cls := hown
  have hts : ∀ w ∈ pw, w.before #[Value.ref b] s = true := fun w h => htl w (pw_tbl h)
  have hN : xN s := xN_of htl
  have hA : ∀ q : Nat, s.heap.size ≤ q → (fun q : Nat => s.heap.size ≤ q) q := fun _ h => h
  have hbA : ¬ (fun q : Nat => s.heap.size ≤ q) b := Nat.not_le.mpr hbl
  refine lv_aload_n hx hb dL_law_594 rfl (lv_at hl 2 rfl) ?_
  refine lv_aload_n hx hb dL_law_595 rfl (lv_at hl 3 rfl) ?_
  refine lv_iload_n hx hb dL_law_596 rfl (lv_at hl 0 rfl) ?_
  refine lv_iconst (v := 1) hx hb dL_law_597 (by decide +kernel) ?_
  refine lv_iadd hx hb dL_law_598 ?_
  refine lv_topi (fun z1 ez1 => ?_)
  obtain rfl : z1 = 1 := ez1.trans (by decide +kernel)
  refine va_sld hx hb hX hbl hbA hS (in_d (by decide +kernel)) dL_law_599 ?_
  refine lv_aload_n hx hb dL_law_600 rfl (lv_at hl 3 rfl) ?_
  refine lv_iload_n hx hb dL_law_601 rfl (lv_at hl 0 rfl) ?_
  refine lv_iconst (v := 2) hx hb dL_law_602 (by decide +kernel) ?_
  refine lv_iadd hx hb dL_law_603 ?_
  refine lv_topi (fun z2 ez2 => ?_)
  obtain rfl : z2 = 2 := ez2.trans (by decide +kernel)
  refine va_sld hx hb hX hbl hbA hS (in_d (by decide +kernel)) dL_law_604 ?_
  refine lv_aload_n hx hb dL_law_605 rfl (lv_at hl 3 rfl) ?_
  refine lv_iload_n hx hb dL_law_606 rfl (lv_at hl 0 rfl) ?_
  refine lv_iconst (v := 3) hx hb dL_law_607 (by decide +kernel) ?_
  refine lv_iadd hx hb dL_law_608 ?_
  refine lv_topi (fun z3 ez3 => ?_)
  obtain rfl : z3 = 3 := ez3.trans (by decide +kernel)
  refine va_sld hx hb hX hbl hbA hS (in_d (by decide +kernel)) dL_law_609 ?_
  refine lv_aload_n hx hb dL_law_610 rfl (lv_at hl 3 rfl) ?_
  refine lv_iload_n hx hb dL_law_611 rfl (lv_at hl 0 rfl) ?_
  refine lv_iconst (v := 4) hx hb dL_law_612 (by decide +kernel) ?_
  refine lv_iadd hx hb dL_law_613 ?_
  refine lv_topi (fun z4 ez4 => ?_)
  obtain rfl : z4 = 4 := ez4.trans (by decide +kernel)
  refine va_sld hx hb hX hbl hbA hS (in_d (by decide +kernel)) dL_law_614 ?_
  refine lv_aload_n hx hb dL_law_615 rfl (lv_at hl 3 rfl) ?_
  refine lv_iload_n hx hb dL_law_616 rfl (lv_at hl 0 rfl) ?_
  refine lv_iconst (v := 5) hx hb dL_law_617 (by decide +kernel) ?_
  refine lv_iadd hx hb dL_law_618 ?_
  refine lv_topi (fun z5 ez5 => ?_)
  obtain rfl : z5 = 5 := ez5.trans (by decide +kernel)
  refine va_sld hx hb hX hbl hbA hS (in_d (by decide +kernel)) dL_law_619 ?_
  have hPc := hP.sub (ws' := [(x0, .inr (6, [.ref tp, .int 0, .ref nw, .ref dr, .ref rd, .ref sc, .ref sk, .ref fl, .ref ps, .int 0, .int 0, .ref sh])), (nw, .inr (1, [.ref nm, .ref nb, .int 0, .int 0, .int 0]))]) [0, 2] rfl
  have hDc := hD.sub (ws' := [(x0, .inr (6, [.ref tp, .int 0, .ref nw, .ref dr, .ref rd, .ref sc, .ref sk, .ref fl, .ref ps, .int 0, .int 0, .ref sh])), (nw, .inr (1, [.ref nm, .ref nb, .int 0, .int 0, .int 0]))]) [0, 2] (by decide) rfl
  have hKc := hK.sub (tys' := []) [] rfl
  refine ro_i (va_runV (As := [.int (xs (1 : Int32).toNatClampNeg), .int (xs (2 : Int32).toNatClampNeg), .int (xs (3 : Int32).toNatClampNeg), .int (xs (4 : Int32).toNatClampNeg), .int (xs (5 : Int32).toNatClampNeg)]) (rest := []) ⟨hx, hb, hml, hown, hts⟩ (c_X6_join l dC dI x0 tp nw dr rd sc sk fl ps sh nm nb H.size (xs (1 : Int32).toNatClampNeg) (xs (2 : Int32).toNatClampNeg) (xs (3 : Int32).toNatClampNeg) (xs (4 : Int32).toNatClampNeg) (xs (5 : Int32).toNatClampNeg) ) (cwV 5 hts (gV pq700 pq701 pq702 pq74 pq703) rfl rfl rfl (by decide +kernel) ⟨(Nat.le_of_ble_eq_true rfl), (Nat.le_of_ble_eq_true rfl)⟩) (pc_V hPc hDc hKc hN (va_recv hK hP (ci := 6) (q0 := 0) rfl rfl)) rfl rfl hl.1 rfl (lv_room (Nat.le_of_ble_eq_true rfl)) dL_law_620 ⟨(Nat.le_of_ble_eq_true rfl), (Nat.le_of_ble_eq_true rfl)⟩) hS hP (fun r6 H locs hr6 hP hS => ?_)
  subst hr6
  refine lv_aload_n hx hb dL_law_623 rfl (lv_at hl 1 rfl) ?_
  refine lv_aload_n hx hb dL_law_624 rfl (lv_at hl 3 rfl) ?_
  refine lv_iload_n hx hb dL_law_625 rfl (lv_at hl 0 rfl) ?_
  refine lv_iconst (v := 1) hx hb dL_law_626 (by decide +kernel) ?_
  refine lv_iadd hx hb dL_law_627 ?_
  refine lv_topi (fun z7 ez7 => ?_)
  obtain rfl : z7 = 1 := ez7.trans (by decide +kernel)
  refine va_sld hx hb hX hbl hbA hS (in_d (by decide +kernel)) dL_law_628 ?_
  refine lv_aload_n hx hb dL_law_629 rfl (lv_at hl 3 rfl) ?_
  refine lv_iload_n hx hb dL_law_630 rfl (lv_at hl 0 rfl) ?_
  refine lv_iconst (v := 2) hx hb dL_law_631 (by decide +kernel) ?_
  refine lv_iadd hx hb dL_law_632 ?_
  refine lv_topi (fun z8 ez8 => ?_)
  obtain rfl : z8 = 2 := ez8.trans (by decide +kernel)
  refine va_sld hx hb hX hbl hbA hS (in_d (by decide +kernel)) dL_law_633 ?_
  refine lv_aload_n hx hb dL_law_634 rfl (lv_at hl 3 rfl) ?_
  refine lv_iload_n hx hb dL_law_635 rfl (lv_at hl 0 rfl) ?_
  refine lv_iconst (v := 3) hx hb dL_law_636 (by decide +kernel) ?_
  refine lv_iadd hx hb dL_law_637 ?_
  refine lv_topi (fun z9 ez9 => ?_)
  obtain rfl : z9 = 3 := ez9.trans (by decide +kernel)
  refine va_sld hx hb hX hbl hbA hS (in_d (by decide +kernel)) dL_law_638 ?_
  refine lv_aload_n hx hb dL_law_639 rfl (lv_at hl 3 rfl) ?_
  refine lv_iload_n hx hb dL_law_640 rfl (lv_at hl 0 rfl) ?_
  refine lv_iconst (v := 4) hx hb dL_law_641 (by decide +kernel) ?_
  refine lv_iadd hx hb dL_law_642 ?_
  refine lv_topi (fun z10 ez10 => ?_)
  obtain rfl : z10 = 4 := ez10.trans (by decide +kernel)
  refine va_sld hx hb hX hbl hbA hS (in_d (by decide +kernel)) dL_law_643 ?_
  refine lv_aload_n hx hb dL_law_644 rfl (lv_at hl 3 rfl) ?_
  refine lv_iload_n hx hb dL_law_645 rfl (lv_at hl 0 rfl) ?_
  refine lv_iconst (v := 5) hx hb dL_law_646 (by decide +kernel) ?_
  refine lv_iadd hx hb dL_law_647 ?_
  refine lv_topi (fun z11 ez11 => ?_)
  obtain rfl : z11 = 5 := ez11.trans (by decide +kernel)
  refine va_sld hx hb hX hbl hbA hS (in_d (by decide +kernel)) dL_law_648 ?_
  have hPc := hP.sub (ws' := [(m0, .inr (7, [.ref mnw, .ref mhd, .ref mas, .ref mps, .ref msf, .ref mdt, .ref mhdd, .ref masd, .ref mpsd, .ref msfd, .ref mkp, .int 0, .ref mtp, .int 0, .int 0, .int 0, .int 0, .ref mld, .int 0, .ref mmd, .ref men, .ref mil, .ref mqu, .int 0, .int 0, .ref mbx])), (mnw, .inl (kI, 99, .inl (fun _ => 0)))]) [8, 9] rfl
  have hDc := hD.sub (ws' := [(m0, .inr (7, [.ref mnw, .ref mhd, .ref mas, .ref mps, .ref msf, .ref mdt, .ref mhdd, .ref masd, .ref mpsd, .ref msfd, .ref mkp, .int 0, .ref mtp, .int 0, .int 0, .int 0, .int 0, .ref mld, .int 0, .ref mmd, .ref men, .ref mil, .ref mqu, .int 0, .int 0, .ref mbx])), (mnw, .inl (kI, 99, .inl (fun _ => 0)))]) [8, 9] (by decide) rfl
  have hKc := hK.sub (tys' := [(kI, .int)]) [3] rfl
  refine ro_i (va_runV (As := [.int (xs (1 : Int32).toNatClampNeg), .int (xs (2 : Int32).toNatClampNeg), .int (xs (3 : Int32).toNatClampNeg), .int (xs (4 : Int32).toNatClampNeg), .int (xs (5 : Int32).toNatClampNeg)]) (rest := [.int (-1)]) ⟨hx, hb, hml, hown, hts⟩ (c_X7_join l dC dI m0 mnw mhd mas mps msf mdt mhdd masd mpsd msfd mkp mtp mld mmd men mil mqu mbx kI H.size (xs (1 : Int32).toNatClampNeg) (xs (2 : Int32).toNatClampNeg) (xs (3 : Int32).toNatClampNeg) (xs (4 : Int32).toNatClampNeg) (xs (5 : Int32).toNatClampNeg) ) (cwV 5 hts (gV pq1407 pq1408 pq1409 pq81 pq1410) rfl rfl rfl (by decide +kernel) ⟨(Nat.le_of_ble_eq_true rfl), (Nat.le_of_ble_eq_true rfl)⟩) (pc_V hPc hDc hKc hN (va_recv hK hP (ci := 7) (q0 := 8) rfl rfl)) rfl rfl hl.1 rfl (lv_room (Nat.le_of_ble_eq_true rfl)) dL_law_649 ⟨(Nat.le_of_ble_eq_true rfl), (Nat.le_of_ble_eq_true rfl)⟩) hS hP (fun r12 H locs hr12 hP hS => ?_)
  subst hr12
  refine lv_icmp_eq (tgt := 1950) hx hb dL_law_652 (by decide) (fun c13 => ?_) (fun c13 => absurd (by decide +kernel) c13)
  refine lv_iinc (v := 6) (lv' := [(3, .int 6), (2, .ref m0), (1, .ref x0), (0, .ref b)]) hx hb dL_law_1950 hl (k := 0) rfl (by decide +kernel) (by decide) rfl (fun ls hl => ?_)
  refine lv_goto (tgt := 18) hx hb dL_law_1953 (by decide) ?_
  refine lv_iload_n hx hb dL_law_18 rfl (lv_at hl 0 rfl) ?_
  refine lv_aload_n hx hb dL_law_19 rfl (lv_at hl 3 rfl) ?_
  refine va_slen hx hb hX hbl hbA hS dL_law_20 ?_
  refine lv_bipush (v := 6) hx hb dL_law_21 (by decide +kernel) ?_
  refine lv_isub hx hb dL_law_23 ?_
  refine lv_topi (fun z14 ez14 => ?_)
  obtain rfl : z14 = 0 := ez14.trans (by decide +kernel)
  refine lv_icmp_gt (tgt := 1956) hx hb dL_law_24 (by decide) (fun c15 => ?_) (fun c15 => absurd (by decide +kernel) c15)
  refine lv_iconst (v := 1) hx hb dL_law_1956 (by decide +kernel) ?_
  refine va_forget (fun q hq => hS.2.2 q hq) ?_
  refine W.widen (k := 600000) (n := 7302249) (Nat.le_of_ble_eq_true rfl) (Nat.le_of_ble_eq_true rfl) ?_
  refine W.base ?_
  exact lw_ret (Drawn.sameBut.refl s.drawn lw_cs) hx hb hr hlocks dL_law_1957
