abbrev cL_law : ByteArray := code
theorem dL_law_244 : decode cL_law 244 = .ok (.aload_n 1, 1) := by decide +kernel
theorem dL_law_245 : decode cL_law 245 = .ok (.aload_n 0, 1) := by decide +kernel
theorem dL_law_246 : decode cL_law 246 = .ok (.iload_n 3, 1) := by decide +kernel
theorem dL_law_247 : decode cL_law 247 = .ok (.iconst 1, 1) := by decide +kernel
theorem dL_law_248 : decode cL_law 248 = .ok (.iadd, 1) := by decide +kernel
theorem dL_law_249 : decode cL_law 249 = .ok (.iaload, 1) := by decide +kernel
theorem dL_law_250 : decode cL_law 250 = .ok (.aload_n 0, 1) := by decide +kernel
theorem dL_law_251 : decode cL_law 251 = .ok (.iload_n 3, 1) := by decide +kernel
theorem dL_law_252 : decode cL_law 252 = .ok (.iconst 2, 1) := by decide +kernel
theorem dL_law_253 : decode cL_law 253 = .ok (.iadd, 1) := by decide +kernel
theorem dL_law_254 : decode cL_law 254 = .ok (.iaload, 1) := by decide +kernel
theorem dL_law_255 : decode cL_law 255 = .ok (.aload_n 0, 1) := by decide +kernel
theorem dL_law_256 : decode cL_law 256 = .ok (.iload_n 3, 1) := by decide +kernel
theorem dL_law_257 : decode cL_law 257 = .ok (.iconst 3, 1) := by decide +kernel
theorem dL_law_258 : decode cL_law 258 = .ok (.iadd, 1) := by decide +kernel
theorem dL_law_259 : decode cL_law 259 = .ok (.iaload, 1) := by decide +kernel
theorem dL_law_260 : decode cL_law 260 = .ok (.aload_n 0, 1) := by decide +kernel
theorem dL_law_261 : decode cL_law 261 = .ok (.iload_n 3, 1) := by decide +kernel
theorem dL_law_262 : decode cL_law 262 = .ok (.iconst 4, 1) := by decide +kernel
theorem dL_law_263 : decode cL_law 263 = .ok (.iadd, 1) := by decide +kernel
theorem dL_law_264 : decode cL_law 264 = .ok (.iaload, 1) := by decide +kernel
theorem dL_law_265 : decode cL_law 265 = .ok (.aload_n 0, 1) := by decide +kernel
theorem dL_law_266 : decode cL_law 266 = .ok (.iload_n 3, 1) := by decide +kernel
theorem dL_law_267 : decode cL_law 267 = .ok (.iconst 5, 1) := by decide +kernel
theorem dL_law_268 : decode cL_law 268 = .ok (.iadd, 1) := by decide +kernel
theorem dL_law_269 : decode cL_law 269 = .ok (.iaload, 1) := by decide +kernel
theorem dL_law_270 : decode cL_law 270 = .ok (.invokevirtual 13, 3) := by decide +kernel
theorem dL_law_273 : decode cL_law 273 = .ok (.pop, 1) := by decide +kernel
theorem dL_law_274 : decode cL_law 274 = .ok (.aload_n 2, 1) := by decide +kernel
theorem dL_law_275 : decode cL_law 275 = .ok (.aload_n 0, 1) := by decide +kernel
theorem dL_law_276 : decode cL_law 276 = .ok (.iload_n 3, 1) := by decide +kernel
theorem dL_law_277 : decode cL_law 277 = .ok (.iconst 1, 1) := by decide +kernel
theorem dL_law_278 : decode cL_law 278 = .ok (.iadd, 1) := by decide +kernel
theorem dL_law_279 : decode cL_law 279 = .ok (.iaload, 1) := by decide +kernel
theorem dL_law_280 : decode cL_law 280 = .ok (.aload_n 0, 1) := by decide +kernel
theorem dL_law_281 : decode cL_law 281 = .ok (.iload_n 3, 1) := by decide +kernel
theorem dL_law_282 : decode cL_law 282 = .ok (.iconst 2, 1) := by decide +kernel
theorem dL_law_283 : decode cL_law 283 = .ok (.iadd, 1) := by decide +kernel
theorem dL_law_284 : decode cL_law 284 = .ok (.iaload, 1) := by decide +kernel
theorem dL_law_285 : decode cL_law 285 = .ok (.aload_n 0, 1) := by decide +kernel
theorem dL_law_286 : decode cL_law 286 = .ok (.iload_n 3, 1) := by decide +kernel
theorem dL_law_287 : decode cL_law 287 = .ok (.iconst 3, 1) := by decide +kernel
theorem dL_law_288 : decode cL_law 288 = .ok (.iadd, 1) := by decide +kernel
theorem dL_law_289 : decode cL_law 289 = .ok (.iaload, 1) := by decide +kernel
theorem dL_law_290 : decode cL_law 290 = .ok (.aload_n 0, 1) := by decide +kernel
theorem dL_law_291 : decode cL_law 291 = .ok (.iload_n 3, 1) := by decide +kernel
theorem dL_law_292 : decode cL_law 292 = .ok (.iconst 4, 1) := by decide +kernel
theorem dL_law_293 : decode cL_law 293 = .ok (.iadd, 1) := by decide +kernel
theorem dL_law_294 : decode cL_law 294 = .ok (.iaload, 1) := by decide +kernel
theorem dL_law_295 : decode cL_law 295 = .ok (.aload_n 0, 1) := by decide +kernel
theorem dL_law_296 : decode cL_law 296 = .ok (.iload_n 3, 1) := by decide +kernel
theorem dL_law_297 : decode cL_law 297 = .ok (.iconst 5, 1) := by decide +kernel
theorem dL_law_298 : decode cL_law 298 = .ok (.iadd, 1) := by decide +kernel
theorem dL_law_299 : decode cL_law 299 = .ok (.iaload, 1) := by decide +kernel
theorem dL_law_300 : decode cL_law 300 = .ok (.invokevirtual 17, 3) := by decide +kernel
theorem dL_law_303 : decode cL_law 303 = .ok (.pop, 1) := by decide +kernel
theorem dL_law_304 : decode cL_law 304 = .ok (.goto 1643, 3) := by decide +kernel
theorem dL_law_307 : decode cL_law 307 = .ok (.aload_n 1, 1) := by decide +kernel
theorem dL_law_308 : decode cL_law 308 = .ok (.aload_n 0, 1) := by decide +kernel
theorem dL_law_309 : decode cL_law 309 = .ok (.iload_n 3, 1) := by decide +kernel
theorem dL_law_310 : decode cL_law 310 = .ok (.iconst 1, 1) := by decide +kernel
theorem dL_law_311 : decode cL_law 311 = .ok (.iadd, 1) := by decide +kernel
theorem dL_law_312 : decode cL_law 312 = .ok (.iaload, 1) := by decide +kernel
theorem dL_law_313 : decode cL_law 313 = .ok (.invokevirtual 18, 3) := by decide +kernel
theorem dL_law_316 : decode cL_law 316 = .ok (.pop, 1) := by decide +kernel
theorem dL_law_317 : decode cL_law 317 = .ok (.aload_n 2, 1) := by decide +kernel
theorem dL_law_318 : decode cL_law 318 = .ok (.aload_n 0, 1) := by decide +kernel
theorem dL_law_319 : decode cL_law 319 = .ok (.iload_n 3, 1) := by decide +kernel
theorem dL_law_320 : decode cL_law 320 = .ok (.iconst 1, 1) := by decide +kernel
theorem dL_law_321 : decode cL_law 321 = .ok (.iadd, 1) := by decide +kernel
theorem dL_law_322 : decode cL_law 322 = .ok (.iaload, 1) := by decide +kernel
theorem dL_law_323 : decode cL_law 323 = .ok (.invokevirtual 22, 3) := by decide +kernel
theorem dL_law_326 : decode cL_law 326 = .ok (.pop, 1) := by decide +kernel
theorem dL_law_327 : decode cL_law 327 = .ok (.goto 1620, 3) := by decide +kernel
theorem dL_law_330 : decode cL_law 330 = .ok (.aload_n 1, 1) := by decide +kernel
theorem dL_law_331 : decode cL_law 331 = .ok (.invokevirtual 23, 3) := by decide +kernel
theorem dL_law_334 : decode cL_law 334 = .ok (.pop, 1) := by decide +kernel
theorem dL_law_335 : decode cL_law 335 = .ok (.aload_n 2, 1) := by decide +kernel
theorem dL_law_336 : decode cL_law 336 = .ok (.invokevirtual 27, 3) := by decide +kernel
theorem dL_law_339 : decode cL_law 339 = .ok (.pop, 1) := by decide +kernel
theorem dL_law_340 : decode cL_law 340 = .ok (.goto 1607, 3) := by decide +kernel
theorem dL_law_343 : decode cL_law 343 = .ok (.aload_n 1, 1) := by decide +kernel
theorem dL_law_344 : decode cL_law 344 = .ok (.aload_n 0, 1) := by decide +kernel
theorem dL_law_345 : decode cL_law 345 = .ok (.iload_n 3, 1) := by decide +kernel
theorem dL_law_346 : decode cL_law 346 = .ok (.iconst 1, 1) := by decide +kernel
theorem dL_law_347 : decode cL_law 347 = .ok (.iadd, 1) := by decide +kernel
theorem dL_law_348 : decode cL_law 348 = .ok (.iaload, 1) := by decide +kernel
theorem dL_law_349 : decode cL_law 349 = .ok (.aload_n 0, 1) := by decide +kernel
theorem dL_law_350 : decode cL_law 350 = .ok (.iload_n 3, 1) := by decide +kernel
theorem dL_law_351 : decode cL_law 351 = .ok (.iconst 2, 1) := by decide +kernel
theorem dL_law_352 : decode cL_law 352 = .ok (.iadd, 1) := by decide +kernel
theorem dL_law_353 : decode cL_law 353 = .ok (.iaload, 1) := by decide +kernel
theorem dL_law_354 : decode cL_law 354 = .ok (.aload_n 0, 1) := by decide +kernel
theorem dL_law_355 : decode cL_law 355 = .ok (.iload_n 3, 1) := by decide +kernel
theorem dL_law_356 : decode cL_law 356 = .ok (.iconst 3, 1) := by decide +kernel
theorem dL_law_357 : decode cL_law 357 = .ok (.iadd, 1) := by decide +kernel
theorem dL_law_358 : decode cL_law 358 = .ok (.iaload, 1) := by decide +kernel
theorem dL_law_359 : decode cL_law 359 = .ok (.invokevirtual 28, 3) := by decide +kernel
theorem dL_law_362 : decode cL_law 362 = .ok (.pop, 1) := by decide +kernel
theorem dL_law_363 : decode cL_law 363 = .ok (.aload_n 2, 1) := by decide +kernel
theorem dL_law_364 : decode cL_law 364 = .ok (.aload_n 0, 1) := by decide +kernel
theorem dL_law_365 : decode cL_law 365 = .ok (.iload_n 3, 1) := by decide +kernel
theorem dL_law_366 : decode cL_law 366 = .ok (.iconst 1, 1) := by decide +kernel
theorem dL_law_367 : decode cL_law 367 = .ok (.iadd, 1) := by decide +kernel
theorem dL_law_368 : decode cL_law 368 = .ok (.iaload, 1) := by decide +kernel
theorem dL_law_369 : decode cL_law 369 = .ok (.aload_n 0, 1) := by decide +kernel
theorem dL_law_370 : decode cL_law 370 = .ok (.iload_n 3, 1) := by decide +kernel
theorem dL_law_371 : decode cL_law 371 = .ok (.iconst 2, 1) := by decide +kernel
theorem dL_law_372 : decode cL_law 372 = .ok (.iadd, 1) := by decide +kernel
theorem dL_law_373 : decode cL_law 373 = .ok (.iaload, 1) := by decide +kernel
theorem dL_law_374 : decode cL_law 374 = .ok (.aload_n 0, 1) := by decide +kernel
theorem dL_law_375 : decode cL_law 375 = .ok (.iload_n 3, 1) := by decide +kernel
theorem dL_law_376 : decode cL_law 376 = .ok (.iconst 3, 1) := by decide +kernel
theorem dL_law_377 : decode cL_law 377 = .ok (.iadd, 1) := by decide +kernel
theorem dL_law_378 : decode cL_law 378 = .ok (.iaload, 1) := by decide +kernel
theorem dL_law_379 : decode cL_law 379 = .ok (.invokevirtual 32, 3) := by decide +kernel
theorem dL_law_382 : decode cL_law 382 = .ok (.pop, 1) := by decide +kernel
theorem dL_law_383 : decode cL_law 383 = .ok (.goto 1564, 3) := by decide +kernel
theorem dL_law_386 : decode cL_law 386 = .ok (.aload_n 1, 1) := by decide +kernel
theorem dL_law_387 : decode cL_law 387 = .ok (.aload_n 0, 1) := by decide +kernel
theorem dL_law_388 : decode cL_law 388 = .ok (.iload_n 3, 1) := by decide +kernel
theorem dL_law_389 : decode cL_law 389 = .ok (.iconst 1, 1) := by decide +kernel
theorem dL_law_390 : decode cL_law 390 = .ok (.iadd, 1) := by decide +kernel
theorem dL_law_391 : decode cL_law 391 = .ok (.iaload, 1) := by decide +kernel
theorem dL_law_392 : decode cL_law 392 = .ok (.aload_n 0, 1) := by decide +kernel
theorem dL_law_393 : decode cL_law 393 = .ok (.iload_n 3, 1) := by decide +kernel
theorem dL_law_394 : decode cL_law 394 = .ok (.iconst 2, 1) := by decide +kernel
theorem dL_law_395 : decode cL_law 395 = .ok (.iadd, 1) := by decide +kernel
theorem dL_law_396 : decode cL_law 396 = .ok (.iaload, 1) := by decide +kernel
theorem dL_law_397 : decode cL_law 397 = .ok (.invokevirtual 33, 3) := by decide +kernel
theorem dL_law_400 : decode cL_law 400 = .ok (.pop, 1) := by decide +kernel
theorem dL_law_401 : decode cL_law 401 = .ok (.aload_n 2, 1) := by decide +kernel
theorem dL_law_402 : decode cL_law 402 = .ok (.aload_n 0, 1) := by decide +kernel
theorem dL_law_403 : decode cL_law 403 = .ok (.iload_n 3, 1) := by decide +kernel
theorem dL_law_404 : decode cL_law 404 = .ok (.iconst 1, 1) := by decide +kernel
theorem dL_law_405 : decode cL_law 405 = .ok (.iadd, 1) := by decide +kernel
theorem dL_law_406 : decode cL_law 406 = .ok (.iaload, 1) := by decide +kernel
theorem dL_law_407 : decode cL_law 407 = .ok (.aload_n 0, 1) := by decide +kernel
theorem dL_law_408 : decode cL_law 408 = .ok (.iload_n 3, 1) := by decide +kernel
theorem dL_law_409 : decode cL_law 409 = .ok (.iconst 2, 1) := by decide +kernel
theorem dL_law_410 : decode cL_law 410 = .ok (.iadd, 1) := by decide +kernel
theorem dL_law_411 : decode cL_law 411 = .ok (.iaload, 1) := by decide +kernel
theorem dL_law_412 : decode cL_law 412 = .ok (.invokevirtual 37, 3) := by decide +kernel
theorem dL_law_415 : decode cL_law 415 = .ok (.pop, 1) := by decide +kernel
theorem dL_law_416 : decode cL_law 416 = .ok (.goto 1531, 3) := by decide +kernel
theorem dL_law_419 : decode cL_law 419 = .ok (.aload_n 1, 1) := by decide +kernel
theorem dL_law_420 : decode cL_law 420 = .ok (.aload_n 0, 1) := by decide +kernel
theorem dL_law_421 : decode cL_law 421 = .ok (.iload_n 3, 1) := by decide +kernel
theorem dL_law_422 : decode cL_law 422 = .ok (.iconst 1, 1) := by decide +kernel
theorem dL_law_423 : decode cL_law 423 = .ok (.iadd, 1) := by decide +kernel
theorem dL_law_424 : decode cL_law 424 = .ok (.iaload, 1) := by decide +kernel
theorem dL_law_425 : decode cL_law 425 = .ok (.aload_n 0, 1) := by decide +kernel
theorem dL_law_426 : decode cL_law 426 = .ok (.iload_n 3, 1) := by decide +kernel
theorem dL_law_427 : decode cL_law 427 = .ok (.iconst 2, 1) := by decide +kernel
theorem dL_law_428 : decode cL_law 428 = .ok (.iadd, 1) := by decide +kernel
theorem dL_law_429 : decode cL_law 429 = .ok (.iaload, 1) := by decide +kernel
theorem dL_law_430 : decode cL_law 430 = .ok (.aload_n 0, 1) := by decide +kernel
theorem dL_law_431 : decode cL_law 431 = .ok (.iload_n 3, 1) := by decide +kernel
theorem dL_law_432 : decode cL_law 432 = .ok (.iconst 3, 1) := by decide +kernel
theorem dL_law_433 : decode cL_law 433 = .ok (.iadd, 1) := by decide +kernel
theorem dL_law_434 : decode cL_law 434 = .ok (.iaload, 1) := by decide +kernel
theorem dL_law_435 : decode cL_law 435 = .ok (.invokevirtual 38, 3) := by decide +kernel
theorem dL_law_438 : decode cL_law 438 = .ok (.pop, 1) := by decide +kernel
theorem dL_law_439 : decode cL_law 439 = .ok (.aload_n 2, 1) := by decide +kernel
theorem dL_law_440 : decode cL_law 440 = .ok (.aload_n 0, 1) := by decide +kernel
theorem dL_law_441 : decode cL_law 441 = .ok (.iload_n 3, 1) := by decide +kernel
theorem dL_law_442 : decode cL_law 442 = .ok (.iconst 1, 1) := by decide +kernel
theorem dL_law_443 : decode cL_law 443 = .ok (.iadd, 1) := by decide +kernel
theorem dL_law_444 : decode cL_law 444 = .ok (.iaload, 1) := by decide +kernel
theorem dL_law_445 : decode cL_law 445 = .ok (.aload_n 0, 1) := by decide +kernel
theorem dL_law_446 : decode cL_law 446 = .ok (.iload_n 3, 1) := by decide +kernel
theorem dL_law_447 : decode cL_law 447 = .ok (.iconst 2, 1) := by decide +kernel
theorem dL_law_448 : decode cL_law 448 = .ok (.iadd, 1) := by decide +kernel
theorem dL_law_449 : decode cL_law 449 = .ok (.iaload, 1) := by decide +kernel
theorem dL_law_450 : decode cL_law 450 = .ok (.aload_n 0, 1) := by decide +kernel
theorem dL_law_451 : decode cL_law 451 = .ok (.iload_n 3, 1) := by decide +kernel
theorem dL_law_452 : decode cL_law 452 = .ok (.iconst 3, 1) := by decide +kernel
theorem dL_law_453 : decode cL_law 453 = .ok (.iadd, 1) := by decide +kernel
theorem dL_law_454 : decode cL_law 454 = .ok (.iaload, 1) := by decide +kernel
theorem dL_law_455 : decode cL_law 455 = .ok (.invokevirtual 41, 3) := by decide +kernel
theorem dL_law_458 : decode cL_law 458 = .ok (.pop, 1) := by decide +kernel
theorem dL_law_459 : decode cL_law 459 = .ok (.goto 1488, 3) := by decide +kernel
theorem dL_law_462 : decode cL_law 462 = .ok (.aload_n 1, 1) := by decide +kernel
theorem dL_law_463 : decode cL_law 463 = .ok (.aload_n 0, 1) := by decide +kernel
theorem dL_law_464 : decode cL_law 464 = .ok (.iload_n 3, 1) := by decide +kernel
theorem dL_law_465 : decode cL_law 465 = .ok (.iconst 1, 1) := by decide +kernel
theorem dL_law_466 : decode cL_law 466 = .ok (.iadd, 1) := by decide +kernel
theorem dL_law_467 : decode cL_law 467 = .ok (.iaload, 1) := by decide +kernel
theorem dL_law_468 : decode cL_law 468 = .ok (.aload_n 0, 1) := by decide +kernel
theorem dL_law_469 : decode cL_law 469 = .ok (.iload_n 3, 1) := by decide +kernel
theorem dL_law_470 : decode cL_law 470 = .ok (.iconst 2, 1) := by decide +kernel
theorem dL_law_471 : decode cL_law 471 = .ok (.iadd, 1) := by decide +kernel
theorem dL_law_472 : decode cL_law 472 = .ok (.iaload, 1) := by decide +kernel
theorem dL_law_473 : decode cL_law 473 = .ok (.aload_n 0, 1) := by decide +kernel
theorem dL_law_474 : decode cL_law 474 = .ok (.iload_n 3, 1) := by decide +kernel
theorem dL_law_475 : decode cL_law 475 = .ok (.iconst 3, 1) := by decide +kernel
theorem dL_law_476 : decode cL_law 476 = .ok (.iadd, 1) := by decide +kernel
theorem dL_law_477 : decode cL_law 477 = .ok (.iaload, 1) := by decide +kernel
theorem dL_law_478 : decode cL_law 478 = .ok (.invokevirtual 42, 3) := by decide +kernel
theorem dL_law_481 : decode cL_law 481 = .ok (.pop, 1) := by decide +kernel
theorem dL_law_482 : decode cL_law 482 = .ok (.aload_n 2, 1) := by decide +kernel
theorem dL_law_483 : decode cL_law 483 = .ok (.aload_n 0, 1) := by decide +kernel
theorem dL_law_484 : decode cL_law 484 = .ok (.iload_n 3, 1) := by decide +kernel
theorem dL_law_485 : decode cL_law 485 = .ok (.iconst 1, 1) := by decide +kernel
theorem dL_law_486 : decode cL_law 486 = .ok (.iadd, 1) := by decide +kernel
theorem dL_law_487 : decode cL_law 487 = .ok (.iaload, 1) := by decide +kernel
theorem dL_law_488 : decode cL_law 488 = .ok (.aload_n 0, 1) := by decide +kernel
theorem dL_law_489 : decode cL_law 489 = .ok (.iload_n 3, 1) := by decide +kernel
theorem dL_law_490 : decode cL_law 490 = .ok (.iconst 2, 1) := by decide +kernel
theorem dL_law_491 : decode cL_law 491 = .ok (.iadd, 1) := by decide +kernel
theorem dL_law_492 : decode cL_law 492 = .ok (.iaload, 1) := by decide +kernel
theorem dL_law_493 : decode cL_law 493 = .ok (.aload_n 0, 1) := by decide +kernel
theorem dL_law_494 : decode cL_law 494 = .ok (.iload_n 3, 1) := by decide +kernel
theorem dL_law_495 : decode cL_law 495 = .ok (.iconst 3, 1) := by decide +kernel
theorem dL_law_496 : decode cL_law 496 = .ok (.iadd, 1) := by decide +kernel
theorem dL_law_497 : decode cL_law 497 = .ok (.iaload, 1) := by decide +kernel
theorem dL_law_498 : decode cL_law 498 = .ok (.invokevirtual 45, 3) := by decide +kernel
theorem dL_law_501 : decode cL_law 501 = .ok (.pop, 1) := by decide +kernel
theorem dL_law_502 : decode cL_law 502 = .ok (.goto 1445, 3) := by decide +kernel
theorem dL_law_505 : decode cL_law 505 = .ok (.aload_n 1, 1) := by decide +kernel
theorem dL_law_506 : decode cL_law 506 = .ok (.aload_n 0, 1) := by decide +kernel
theorem dL_law_507 : decode cL_law 507 = .ok (.iload_n 3, 1) := by decide +kernel
theorem dL_law_508 : decode cL_law 508 = .ok (.iconst 1, 1) := by decide +kernel
theorem dL_law_509 : decode cL_law 509 = .ok (.iadd, 1) := by decide +kernel
theorem dL_law_510 : decode cL_law 510 = .ok (.iaload, 1) := by decide +kernel
theorem dL_law_511 : decode cL_law 511 = .ok (.aload_n 0, 1) := by decide +kernel
theorem dL_law_512 : decode cL_law 512 = .ok (.iload_n 3, 1) := by decide +kernel
theorem dL_law_513 : decode cL_law 513 = .ok (.iconst 2, 1) := by decide +kernel
theorem dL_law_514 : decode cL_law 514 = .ok (.iadd, 1) := by decide +kernel
theorem dL_law_515 : decode cL_law 515 = .ok (.iaload, 1) := by decide +kernel
theorem dL_law_516 : decode cL_law 516 = .ok (.aload_n 0, 1) := by decide +kernel
theorem dL_law_517 : decode cL_law 517 = .ok (.iload_n 3, 1) := by decide +kernel
theorem dL_law_518 : decode cL_law 518 = .ok (.iconst 3, 1) := by decide +kernel
theorem dL_law_519 : decode cL_law 519 = .ok (.iadd, 1) := by decide +kernel
theorem dL_law_520 : decode cL_law 520 = .ok (.iaload, 1) := by decide +kernel
theorem dL_law_521 : decode cL_law 521 = .ok (.invokevirtual 46, 3) := by decide +kernel
theorem dL_law_524 : decode cL_law 524 = .ok (.pop, 1) := by decide +kernel
theorem dL_law_525 : decode cL_law 525 = .ok (.aload_n 2, 1) := by decide +kernel
theorem dL_law_526 : decode cL_law 526 = .ok (.aload_n 0, 1) := by decide +kernel
theorem dL_law_527 : decode cL_law 527 = .ok (.iload_n 3, 1) := by decide +kernel
theorem dL_law_528 : decode cL_law 528 = .ok (.iconst 1, 1) := by decide +kernel
theorem dL_law_529 : decode cL_law 529 = .ok (.iadd, 1) := by decide +kernel
theorem dL_law_530 : decode cL_law 530 = .ok (.iaload, 1) := by decide +kernel
theorem dL_law_531 : decode cL_law 531 = .ok (.aload_n 0, 1) := by decide +kernel
theorem dL_law_532 : decode cL_law 532 = .ok (.iload_n 3, 1) := by decide +kernel
theorem dL_law_533 : decode cL_law 533 = .ok (.iconst 2, 1) := by decide +kernel
theorem dL_law_534 : decode cL_law 534 = .ok (.iadd, 1) := by decide +kernel
theorem dL_law_535 : decode cL_law 535 = .ok (.iaload, 1) := by decide +kernel
theorem dL_law_536 : decode cL_law 536 = .ok (.aload_n 0, 1) := by decide +kernel
theorem dL_law_537 : decode cL_law 537 = .ok (.iload_n 3, 1) := by decide +kernel
theorem dL_law_538 : decode cL_law 538 = .ok (.iconst 3, 1) := by decide +kernel
theorem dL_law_539 : decode cL_law 539 = .ok (.iadd, 1) := by decide +kernel
theorem dL_law_540 : decode cL_law 540 = .ok (.iaload, 1) := by decide +kernel
theorem dL_law_541 : decode cL_law 541 = .ok (.invokevirtual 49, 3) := by decide +kernel
theorem dL_law_544 : decode cL_law 544 = .ok (.pop, 1) := by decide +kernel
theorem dL_law_545 : decode cL_law 545 = .ok (.goto 1402, 3) := by decide +kernel
theorem dL_law_548 : decode cL_law 548 = .ok (.aload_n 1, 1) := by decide +kernel
theorem dL_law_549 : decode cL_law 549 = .ok (.aload_n 0, 1) := by decide +kernel
theorem dL_law_550 : decode cL_law 550 = .ok (.iload_n 3, 1) := by decide +kernel
theorem dL_law_551 : decode cL_law 551 = .ok (.iconst 1, 1) := by decide +kernel
theorem dL_law_552 : decode cL_law 552 = .ok (.iadd, 1) := by decide +kernel
theorem dL_law_553 : decode cL_law 553 = .ok (.iaload, 1) := by decide +kernel
theorem dL_law_554 : decode cL_law 554 = .ok (.invokevirtual 50, 3) := by decide +kernel
theorem dL_law_557 : decode cL_law 557 = .ok (.pop, 1) := by decide +kernel
theorem dL_law_558 : decode cL_law 558 = .ok (.aload_n 2, 1) := by decide +kernel
theorem dL_law_559 : decode cL_law 559 = .ok (.aload_n 0, 1) := by decide +kernel
theorem dL_law_560 : decode cL_law 560 = .ok (.iload_n 3, 1) := by decide +kernel
theorem dL_law_561 : decode cL_law 561 = .ok (.iconst 1, 1) := by decide +kernel
theorem dL_law_562 : decode cL_law 562 = .ok (.iadd, 1) := by decide +kernel
theorem dL_law_563 : decode cL_law 563 = .ok (.iaload, 1) := by decide +kernel
theorem dL_law_564 : decode cL_law 564 = .ok (.invokevirtual 53, 3) := by decide +kernel
theorem dL_law_567 : decode cL_law 567 = .ok (.pop, 1) := by decide +kernel
theorem dL_law_568 : decode cL_law 568 = .ok (.goto 1379, 3) := by decide +kernel
theorem dL_law_571 : decode cL_law 571 = .ok (.aload_n 1, 1) := by decide +kernel
theorem dL_law_572 : decode cL_law 572 = .ok (.aload_n 0, 1) := by decide +kernel
theorem dL_law_573 : decode cL_law 573 = .ok (.iload_n 3, 1) := by decide +kernel
theorem dL_law_574 : decode cL_law 574 = .ok (.iconst 1, 1) := by decide +kernel
theorem dL_law_575 : decode cL_law 575 = .ok (.iadd, 1) := by decide +kernel
theorem dL_law_576 : decode cL_law 576 = .ok (.iaload, 1) := by decide +kernel
theorem dL_law_577 : decode cL_law 577 = .ok (.invokevirtual 54, 3) := by decide +kernel
theorem dL_law_580 : decode cL_law 580 = .ok (.pop, 1) := by decide +kernel
theorem dL_law_581 : decode cL_law 581 = .ok (.aload_n 2, 1) := by decide +kernel
theorem dL_law_582 : decode cL_law 582 = .ok (.aload_n 0, 1) := by decide +kernel
theorem dL_law_583 : decode cL_law 583 = .ok (.iload_n 3, 1) := by decide +kernel
theorem dL_law_584 : decode cL_law 584 = .ok (.iconst 1, 1) := by decide +kernel
theorem dL_law_585 : decode cL_law 585 = .ok (.iadd, 1) := by decide +kernel
theorem dL_law_586 : decode cL_law 586 = .ok (.iaload, 1) := by decide +kernel
theorem dL_law_587 : decode cL_law 587 = .ok (.invokevirtual 57, 3) := by decide +kernel
theorem dL_law_590 : decode cL_law 590 = .ok (.pop, 1) := by decide +kernel
theorem dL_law_591 : decode cL_law 591 = .ok (.goto 1356, 3) := by decide +kernel
theorem dL_law_594 : decode cL_law 594 = .ok (.aload_n 1, 1) := by decide +kernel
theorem dL_law_595 : decode cL_law 595 = .ok (.aload_n 0, 1) := by decide +kernel
theorem dL_law_596 : decode cL_law 596 = .ok (.iload_n 3, 1) := by decide +kernel
theorem dL_law_597 : decode cL_law 597 = .ok (.iconst 1, 1) := by decide +kernel
theorem dL_law_598 : decode cL_law 598 = .ok (.iadd, 1) := by decide +kernel
theorem dL_law_599 : decode cL_law 599 = .ok (.iaload, 1) := by decide +kernel
theorem dL_law_600 : decode cL_law 600 = .ok (.aload_n 0, 1) := by decide +kernel
theorem dL_law_601 : decode cL_law 601 = .ok (.iload_n 3, 1) := by decide +kernel
theorem dL_law_602 : decode cL_law 602 = .ok (.iconst 2, 1) := by decide +kernel
theorem dL_law_603 : decode cL_law 603 = .ok (.iadd, 1) := by decide +kernel
theorem dL_law_604 : decode cL_law 604 = .ok (.iaload, 1) := by decide +kernel
theorem dL_law_605 : decode cL_law 605 = .ok (.aload_n 0, 1) := by decide +kernel
theorem dL_law_606 : decode cL_law 606 = .ok (.iload_n 3, 1) := by decide +kernel
theorem dL_law_607 : decode cL_law 607 = .ok (.iconst 3, 1) := by decide +kernel
theorem dL_law_608 : decode cL_law 608 = .ok (.iadd, 1) := by decide +kernel
theorem dL_law_609 : decode cL_law 609 = .ok (.iaload, 1) := by decide +kernel
theorem dL_law_610 : decode cL_law 610 = .ok (.aload_n 0, 1) := by decide +kernel
theorem dL_law_611 : decode cL_law 611 = .ok (.iload_n 3, 1) := by decide +kernel
theorem dL_law_612 : decode cL_law 612 = .ok (.iconst 4, 1) := by decide +kernel
theorem dL_law_613 : decode cL_law 613 = .ok (.iadd, 1) := by decide +kernel
theorem dL_law_614 : decode cL_law 614 = .ok (.iaload, 1) := by decide +kernel
theorem dL_law_615 : decode cL_law 615 = .ok (.aload_n 0, 1) := by decide +kernel
theorem dL_law_616 : decode cL_law 616 = .ok (.iload_n 3, 1) := by decide +kernel
theorem dL_law_617 : decode cL_law 617 = .ok (.iconst 5, 1) := by decide +kernel
theorem dL_law_618 : decode cL_law 618 = .ok (.iadd, 1) := by decide +kernel
theorem dL_law_619 : decode cL_law 619 = .ok (.iaload, 1) := by decide +kernel
theorem dL_law_620 : decode cL_law 620 = .ok (.invokevirtual 58, 3) := by decide +kernel
theorem dL_law_623 : decode cL_law 623 = .ok (.pop, 1) := by decide +kernel
theorem dL_law_624 : decode cL_law 624 = .ok (.aload_n 2, 1) := by decide +kernel
theorem dL_law_625 : decode cL_law 625 = .ok (.aload_n 0, 1) := by decide +kernel
theorem dL_law_626 : decode cL_law 626 = .ok (.iload_n 3, 1) := by decide +kernel
theorem dL_law_627 : decode cL_law 627 = .ok (.iconst 1, 1) := by decide +kernel
theorem dL_law_628 : decode cL_law 628 = .ok (.iadd, 1) := by decide +kernel
theorem dL_law_629 : decode cL_law 629 = .ok (.iaload, 1) := by decide +kernel
theorem dL_law_630 : decode cL_law 630 = .ok (.aload_n 0, 1) := by decide +kernel
theorem dL_law_631 : decode cL_law 631 = .ok (.iload_n 3, 1) := by decide +kernel
theorem dL_law_632 : decode cL_law 632 = .ok (.iconst 2, 1) := by decide +kernel
theorem dL_law_633 : decode cL_law 633 = .ok (.iadd, 1) := by decide +kernel
theorem dL_law_634 : decode cL_law 634 = .ok (.iaload, 1) := by decide +kernel
theorem dL_law_635 : decode cL_law 635 = .ok (.aload_n 0, 1) := by decide +kernel
theorem dL_law_636 : decode cL_law 636 = .ok (.iload_n 3, 1) := by decide +kernel
theorem dL_law_637 : decode cL_law 637 = .ok (.iconst 3, 1) := by decide +kernel
theorem dL_law_638 : decode cL_law 638 = .ok (.iadd, 1) := by decide +kernel
theorem dL_law_639 : decode cL_law 639 = .ok (.iaload, 1) := by decide +kernel
theorem dL_law_640 : decode cL_law 640 = .ok (.aload_n 0, 1) := by decide +kernel
theorem dL_law_641 : decode cL_law 641 = .ok (.iload_n 3, 1) := by decide +kernel
theorem dL_law_642 : decode cL_law 642 = .ok (.iconst 4, 1) := by decide +kernel
theorem dL_law_643 : decode cL_law 643 = .ok (.iadd, 1) := by decide +kernel
theorem dL_law_644 : decode cL_law 644 = .ok (.iaload, 1) := by decide +kernel
theorem dL_law_645 : decode cL_law 645 = .ok (.aload_n 0, 1) := by decide +kernel
theorem dL_law_646 : decode cL_law 646 = .ok (.iload_n 3, 1) := by decide +kernel
theorem dL_law_647 : decode cL_law 647 = .ok (.iconst 5, 1) := by decide +kernel
theorem dL_law_648 : decode cL_law 648 = .ok (.iadd, 1) := by decide +kernel
theorem dL_law_649 : decode cL_law 649 = .ok (.iaload, 1) := by decide +kernel
theorem dL_law_650 : decode cL_law 650 = .ok (.invokevirtual 61, 3) := by decide +kernel
theorem dL_law_653 : decode cL_law 653 = .ok (.pop, 1) := by decide +kernel
theorem dL_law_654 : decode cL_law 654 = .ok (.goto 1293, 3) := by decide +kernel
theorem dL_law_657 : decode cL_law 657 = .ok (.aload_n 1, 1) := by decide +kernel
theorem dL_law_658 : decode cL_law 658 = .ok (.aload_n 0, 1) := by decide +kernel
theorem dL_law_659 : decode cL_law 659 = .ok (.iload_n 3, 1) := by decide +kernel
theorem dL_law_660 : decode cL_law 660 = .ok (.iconst 1, 1) := by decide +kernel
theorem dL_law_661 : decode cL_law 661 = .ok (.iadd, 1) := by decide +kernel
theorem dL_law_662 : decode cL_law 662 = .ok (.iaload, 1) := by decide +kernel
theorem dL_law_663 : decode cL_law 663 = .ok (.aload_n 0, 1) := by decide +kernel
theorem dL_law_664 : decode cL_law 664 = .ok (.iload_n 3, 1) := by decide +kernel
theorem dL_law_665 : decode cL_law 665 = .ok (.iconst 2, 1) := by decide +kernel
theorem dL_law_666 : decode cL_law 666 = .ok (.iadd, 1) := by decide +kernel
theorem dL_law_667 : decode cL_law 667 = .ok (.iaload, 1) := by decide +kernel
theorem dL_law_668 : decode cL_law 668 = .ok (.aload_n 0, 1) := by decide +kernel
theorem dL_law_669 : decode cL_law 669 = .ok (.iload_n 3, 1) := by decide +kernel
theorem dL_law_670 : decode cL_law 670 = .ok (.iconst 3, 1) := by decide +kernel
theorem dL_law_671 : decode cL_law 671 = .ok (.iadd, 1) := by decide +kernel
theorem dL_law_672 : decode cL_law 672 = .ok (.iaload, 1) := by decide +kernel
theorem dL_law_673 : decode cL_law 673 = .ok (.invokevirtual 62, 3) := by decide +kernel
theorem dL_law_676 : decode cL_law 676 = .ok (.pop, 1) := by decide +kernel
theorem dL_law_677 : decode cL_law 677 = .ok (.aload_n 2, 1) := by decide +kernel
theorem dL_law_678 : decode cL_law 678 = .ok (.aload_n 0, 1) := by decide +kernel
theorem dL_law_679 : decode cL_law 679 = .ok (.iload_n 3, 1) := by decide +kernel
theorem dL_law_680 : decode cL_law 680 = .ok (.iconst 1, 1) := by decide +kernel
theorem dL_law_681 : decode cL_law 681 = .ok (.iadd, 1) := by decide +kernel
theorem dL_law_682 : decode cL_law 682 = .ok (.iaload, 1) := by decide +kernel
theorem dL_law_683 : decode cL_law 683 = .ok (.aload_n 0, 1) := by decide +kernel
theorem dL_law_684 : decode cL_law 684 = .ok (.iload_n 3, 1) := by decide +kernel
theorem dL_law_685 : decode cL_law 685 = .ok (.iconst 2, 1) := by decide +kernel
theorem dL_law_686 : decode cL_law 686 = .ok (.iadd, 1) := by decide +kernel
theorem dL_law_687 : decode cL_law 687 = .ok (.iaload, 1) := by decide +kernel
theorem dL_law_688 : decode cL_law 688 = .ok (.aload_n 0, 1) := by decide +kernel
theorem dL_law_689 : decode cL_law 689 = .ok (.iload_n 3, 1) := by decide +kernel
theorem dL_law_690 : decode cL_law 690 = .ok (.iconst 3, 1) := by decide +kernel
theorem dL_law_691 : decode cL_law 691 = .ok (.iadd, 1) := by decide +kernel
theorem dL_law_692 : decode cL_law 692 = .ok (.iaload, 1) := by decide +kernel
theorem dL_law_693 : decode cL_law 693 = .ok (.invokevirtual 65, 3) := by decide +kernel
theorem dL_law_696 : decode cL_law 696 = .ok (.pop, 1) := by decide +kernel
theorem dL_law_697 : decode cL_law 697 = .ok (.goto 1250, 3) := by decide +kernel
theorem dL_law_700 : decode cL_law 700 = .ok (.aload_n 1, 1) := by decide +kernel
theorem dL_law_701 : decode cL_law 701 = .ok (.aload_n 0, 1) := by decide +kernel
theorem dL_law_702 : decode cL_law 702 = .ok (.iload_n 3, 1) := by decide +kernel
theorem dL_law_703 : decode cL_law 703 = .ok (.iconst 1, 1) := by decide +kernel
theorem dL_law_704 : decode cL_law 704 = .ok (.iadd, 1) := by decide +kernel
theorem dL_law_705 : decode cL_law 705 = .ok (.iaload, 1) := by decide +kernel
theorem dL_law_706 : decode cL_law 706 = .ok (.aload_n 0, 1) := by decide +kernel
theorem dL_law_707 : decode cL_law 707 = .ok (.iload_n 3, 1) := by decide +kernel
theorem dL_law_708 : decode cL_law 708 = .ok (.iconst 2, 1) := by decide +kernel
theorem dL_law_709 : decode cL_law 709 = .ok (.iadd, 1) := by decide +kernel
theorem dL_law_710 : decode cL_law 710 = .ok (.iaload, 1) := by decide +kernel
theorem dL_law_711 : decode cL_law 711 = .ok (.aload_n 0, 1) := by decide +kernel
theorem dL_law_712 : decode cL_law 712 = .ok (.iload_n 3, 1) := by decide +kernel
theorem dL_law_713 : decode cL_law 713 = .ok (.iconst 3, 1) := by decide +kernel
theorem dL_law_714 : decode cL_law 714 = .ok (.iadd, 1) := by decide +kernel
theorem dL_law_715 : decode cL_law 715 = .ok (.iaload, 1) := by decide +kernel
theorem dL_law_716 : decode cL_law 716 = .ok (.invokevirtual 66, 3) := by decide +kernel
theorem dL_law_719 : decode cL_law 719 = .ok (.pop, 1) := by decide +kernel
theorem dL_law_720 : decode cL_law 720 = .ok (.aload_n 2, 1) := by decide +kernel
theorem dL_law_721 : decode cL_law 721 = .ok (.aload_n 0, 1) := by decide +kernel
theorem dL_law_722 : decode cL_law 722 = .ok (.iload_n 3, 1) := by decide +kernel
theorem dL_law_723 : decode cL_law 723 = .ok (.iconst 1, 1) := by decide +kernel
theorem dL_law_724 : decode cL_law 724 = .ok (.iadd, 1) := by decide +kernel
theorem dL_law_725 : decode cL_law 725 = .ok (.iaload, 1) := by decide +kernel
theorem dL_law_726 : decode cL_law 726 = .ok (.aload_n 0, 1) := by decide +kernel
theorem dL_law_727 : decode cL_law 727 = .ok (.iload_n 3, 1) := by decide +kernel
theorem dL_law_728 : decode cL_law 728 = .ok (.iconst 2, 1) := by decide +kernel
theorem dL_law_729 : decode cL_law 729 = .ok (.iadd, 1) := by decide +kernel
theorem dL_law_730 : decode cL_law 730 = .ok (.iaload, 1) := by decide +kernel
theorem dL_law_731 : decode cL_law 731 = .ok (.aload_n 0, 1) := by decide +kernel
theorem dL_law_732 : decode cL_law 732 = .ok (.iload_n 3, 1) := by decide +kernel
theorem dL_law_733 : decode cL_law 733 = .ok (.iconst 3, 1) := by decide +kernel
theorem dL_law_734 : decode cL_law 734 = .ok (.iadd, 1) := by decide +kernel
theorem dL_law_735 : decode cL_law 735 = .ok (.iaload, 1) := by decide +kernel
theorem dL_law_736 : decode cL_law 736 = .ok (.invokevirtual 69, 3) := by decide +kernel
theorem dL_law_739 : decode cL_law 739 = .ok (.pop, 1) := by decide +kernel
theorem dL_law_740 : decode cL_law 740 = .ok (.goto 1207, 3) := by decide +kernel
set_option maxRecDepth 100000 in
theorem pq386 : Cond.methodLink RL 13 yX6_feed ∈ pw := pw_mem (i := 386) (by decide +kernel) rfl
set_option maxRecDepth 100000 in
theorem pq387 : Cond.instanceMethod yX6_feed ∈ pw := pw_mem (i := 387) (by decide +kernel) rfl
set_option maxRecDepth 100000 in
theorem pq388 : Cond.selects RX6 yX6_feed yX6_feed ∈ pw := pw_mem (i := 388) (by decide +kernel) rfl
set_option maxRecDepth 100000 in
theorem pq389 : Cond.code yX6_feed cX6_feed 6 (some .int) ∈ pw := pw_mem (i := 389) (by rfl) rfl
set_option maxRecDepth 100000 in
theorem pq394 : Cond.methodLink RL 18 yX6_end ∈ pw := pw_mem (i := 394) (by decide +kernel) rfl
set_option maxRecDepth 100000 in
theorem pq395 : Cond.instanceMethod yX6_end ∈ pw := pw_mem (i := 395) (by decide +kernel) rfl
set_option maxRecDepth 100000 in
theorem pq396 : Cond.selects RX6 yX6_end yX6_end ∈ pw := pw_mem (i := 396) (by decide +kernel) rfl
set_option maxRecDepth 100000 in
theorem pq397 : Cond.code yX6_end cX6_end 2 (some .int) ∈ pw := pw_mem (i := 397) (by rfl) rfl
set_option maxRecDepth 100000 in
theorem pq398 : Cond.methodLink RL 23 yX6_tell ∈ pw := pw_mem (i := 398) (by decide +kernel) rfl
set_option maxRecDepth 100000 in
theorem pq399 : Cond.instanceMethod yX6_tell ∈ pw := pw_mem (i := 399) (by decide +kernel) rfl
set_option maxRecDepth 100000 in
theorem pq400 : Cond.selects RX6 yX6_tell yX6_tell ∈ pw := pw_mem (i := 400) (by decide +kernel) rfl
set_option maxRecDepth 100000 in
theorem pq401 : Cond.code yX6_tell cX6_tell 2 (some .int) ∈ pw := pw_mem (i := 401) (by rfl) rfl
set_option maxRecDepth 100000 in
theorem pq632 : Cond.methodLink RL 28 yX6_place ∈ pw := pw_mem (i := 632) (by decide +kernel) rfl
set_option maxRecDepth 100000 in
theorem pq633 : Cond.instanceMethod yX6_place ∈ pw := pw_mem (i := 633) (by decide +kernel) rfl
set_option maxRecDepth 100000 in
theorem pq634 : Cond.selects RX6 yX6_place yX6_place ∈ pw := pw_mem (i := 634) (by decide +kernel) rfl
set_option maxRecDepth 100000 in
theorem pq635 : Cond.code yX6_place cX6_place 5 (some .int) ∈ pw := pw_mem (i := 635) (by rfl) rfl
set_option maxRecDepth 100000 in
theorem pq647 : Cond.methodLink RL 33 yX6_flip ∈ pw := pw_mem (i := 647) (by decide +kernel) rfl
set_option maxRecDepth 100000 in
theorem pq648 : Cond.instanceMethod yX6_flip ∈ pw := pw_mem (i := 648) (by decide +kernel) rfl
set_option maxRecDepth 100000 in
theorem pq649 : Cond.selects RX6 yX6_flip yX6_flip ∈ pw := pw_mem (i := 649) (by decide +kernel) rfl
set_option maxRecDepth 100000 in
theorem pq650 : Cond.code yX6_flip cX6_flip 5 (some .int) ∈ pw := pw_mem (i := 650) (by rfl) rfl
set_option maxRecDepth 100000 in
theorem pq654 : Cond.methodLink RL 38 yX6_layers ∈ pw := pw_mem (i := 654) (by decide +kernel) rfl
set_option maxRecDepth 100000 in
theorem pq655 : Cond.instanceMethod yX6_layers ∈ pw := pw_mem (i := 655) (by decide +kernel) rfl
set_option maxRecDepth 100000 in
theorem pq656 : Cond.selects RX6 yX6_layers yX6_layers ∈ pw := pw_mem (i := 656) (by decide +kernel) rfl
set_option maxRecDepth 100000 in
theorem pq657 : Cond.code yX6_layers cX6_layers 5 (some .int) ∈ pw := pw_mem (i := 657) (by rfl) rfl
set_option maxRecDepth 100000 in
theorem pq658 : Cond.methodLink RL 42 yX6_speed ∈ pw := pw_mem (i := 658) (by decide +kernel) rfl
set_option maxRecDepth 100000 in
theorem pq659 : Cond.instanceMethod yX6_speed ∈ pw := pw_mem (i := 659) (by decide +kernel) rfl
set_option maxRecDepth 100000 in
theorem pq660 : Cond.selects RX6 yX6_speed yX6_speed ∈ pw := pw_mem (i := 660) (by decide +kernel) rfl
set_option maxRecDepth 100000 in
theorem pq661 : Cond.code yX6_speed cX6_speed 5 (some .int) ∈ pw := pw_mem (i := 661) (by rfl) rfl
set_option maxRecDepth 100000 in
theorem pq662 : Cond.methodLink RL 46 yX6_turn ∈ pw := pw_mem (i := 662) (by decide +kernel) rfl
set_option maxRecDepth 100000 in
theorem pq663 : Cond.instanceMethod yX6_turn ∈ pw := pw_mem (i := 663) (by decide +kernel) rfl
set_option maxRecDepth 100000 in
theorem pq664 : Cond.selects RX6 yX6_turn yX6_turn ∈ pw := pw_mem (i := 664) (by decide +kernel) rfl
set_option maxRecDepth 100000 in
theorem pq665 : Cond.code yX6_turn cX6_turn 5 (some .int) ∈ pw := pw_mem (i := 665) (by rfl) rfl
set_option maxRecDepth 100000 in
theorem pq677 : Cond.methodLink RL 50 yX6_grow ∈ pw := pw_mem (i := 677) (by decide +kernel) rfl
set_option maxRecDepth 100000 in
theorem pq678 : Cond.instanceMethod yX6_grow ∈ pw := pw_mem (i := 678) (by decide +kernel) rfl
set_option maxRecDepth 100000 in
theorem pq679 : Cond.selects RX6 yX6_grow yX6_grow ∈ pw := pw_mem (i := 679) (by decide +kernel) rfl
set_option maxRecDepth 100000 in
theorem pq680 : Cond.code yX6_grow cX6_grow 3 (some .int) ∈ pw := pw_mem (i := 680) (by rfl) rfl
set_option maxRecDepth 100000 in
theorem pq692 : Cond.methodLink RL 54 yX6_thin ∈ pw := pw_mem (i := 692) (by decide +kernel) rfl
set_option maxRecDepth 100000 in
theorem pq693 : Cond.instanceMethod yX6_thin ∈ pw := pw_mem (i := 693) (by decide +kernel) rfl
set_option maxRecDepth 100000 in
theorem pq694 : Cond.selects RX6 yX6_thin yX6_thin ∈ pw := pw_mem (i := 694) (by decide +kernel) rfl
set_option maxRecDepth 100000 in
theorem pq695 : Cond.code yX6_thin cX6_thin 3 (some .int) ∈ pw := pw_mem (i := 695) (by rfl) rfl
set_option maxRecDepth 100000 in
theorem pq700 : Cond.methodLink RL 58 yX6_join ∈ pw := pw_mem (i := 700) (by decide +kernel) rfl
set_option maxRecDepth 100000 in
theorem pq701 : Cond.instanceMethod yX6_join ∈ pw := pw_mem (i := 701) (by decide +kernel) rfl
set_option maxRecDepth 100000 in
theorem pq702 : Cond.selects RX6 yX6_join yX6_join ∈ pw := pw_mem (i := 702) (by decide +kernel) rfl
set_option maxRecDepth 100000 in
theorem pq703 : Cond.code yX6_join cX6_join 6 (some .int) ∈ pw := pw_mem (i := 703) (by rfl) rfl
set_option maxRecDepth 100000 in
theorem pq735 : Cond.methodLink RL 62 yX6_slide ∈ pw := pw_mem (i := 735) (by decide +kernel) rfl
set_option maxRecDepth 100000 in
theorem pq736 : Cond.instanceMethod yX6_slide ∈ pw := pw_mem (i := 736) (by decide +kernel) rfl
set_option maxRecDepth 100000 in
theorem pq737 : Cond.selects RX6 yX6_slide yX6_slide ∈ pw := pw_mem (i := 737) (by decide +kernel) rfl
set_option maxRecDepth 100000 in
theorem pq738 : Cond.code yX6_slide cX6_slide 4 (some .int) ∈ pw := pw_mem (i := 738) (by rfl) rfl
set_option maxRecDepth 100000 in
theorem pq793 : Cond.methodLink RL 66 yX6_push ∈ pw := pw_mem (i := 793) (by decide +kernel) rfl
set_option maxRecDepth 100000 in
theorem pq794 : Cond.instanceMethod yX6_push ∈ pw := pw_mem (i := 794) (by decide +kernel) rfl
set_option maxRecDepth 100000 in
theorem pq795 : Cond.selects RX6 yX6_push yX6_push ∈ pw := pw_mem (i := 795) (by decide +kernel) rfl
set_option maxRecDepth 100000 in
theorem pq796 : Cond.code yX6_push cX6_push 10 (some .int) ∈ pw := pw_mem (i := 796) (by rfl) rfl
set_option maxRecDepth 100000 in
theorem pq1195 : Cond.methodLink RL 17 yX7_feed ∈ pw := pw_mem (i := 1195) (by decide +kernel) rfl
set_option maxRecDepth 100000 in
theorem pq1196 : Cond.instanceMethod yX7_feed ∈ pw := pw_mem (i := 1196) (by decide +kernel) rfl
set_option maxRecDepth 100000 in
theorem pq1197 : Cond.selects RX7 yX7_feed yX7_feed ∈ pw := pw_mem (i := 1197) (by decide +kernel) rfl
set_option maxRecDepth 100000 in
theorem pq1198 : Cond.code yX7_feed cX7_feed 6 (some .int) ∈ pw := pw_mem (i := 1198) (by rfl) rfl
set_option maxRecDepth 100000 in
theorem pq1203 : Cond.methodLink RL 22 yX7_end ∈ pw := pw_mem (i := 1203) (by decide +kernel) rfl
set_option maxRecDepth 100000 in
theorem pq1204 : Cond.instanceMethod yX7_end ∈ pw := pw_mem (i := 1204) (by decide +kernel) rfl
set_option maxRecDepth 100000 in
theorem pq1205 : Cond.selects RX7 yX7_end yX7_end ∈ pw := pw_mem (i := 1205) (by decide +kernel) rfl
set_option maxRecDepth 100000 in
theorem pq1206 : Cond.code yX7_end cX7_end 2 (some .int) ∈ pw := pw_mem (i := 1206) (by rfl) rfl
set_option maxRecDepth 100000 in
theorem pq1207 : Cond.methodLink RL 27 yX7_tell ∈ pw := pw_mem (i := 1207) (by decide +kernel) rfl
set_option maxRecDepth 100000 in
theorem pq1208 : Cond.instanceMethod yX7_tell ∈ pw := pw_mem (i := 1208) (by decide +kernel) rfl
set_option maxRecDepth 100000 in
theorem pq1209 : Cond.selects RX7 yX7_tell yX7_tell ∈ pw := pw_mem (i := 1209) (by decide +kernel) rfl
set_option maxRecDepth 100000 in
theorem pq1210 : Cond.code yX7_tell cX7_tell 2 (some .int) ∈ pw := pw_mem (i := 1210) (by rfl) rfl
set_option maxRecDepth 100000 in
theorem pq1306 : Cond.methodLink RL 32 yX7_place ∈ pw := pw_mem (i := 1306) (by decide +kernel) rfl
set_option maxRecDepth 100000 in
theorem pq1307 : Cond.instanceMethod yX7_place ∈ pw := pw_mem (i := 1307) (by decide +kernel) rfl
set_option maxRecDepth 100000 in
theorem pq1308 : Cond.selects RX7 yX7_place yX7_place ∈ pw := pw_mem (i := 1308) (by decide +kernel) rfl
set_option maxRecDepth 100000 in
theorem pq1309 : Cond.code yX7_place cX7_place 4 (some .int) ∈ pw := pw_mem (i := 1309) (by rfl) rfl
set_option maxRecDepth 100000 in
theorem pq1340 : Cond.methodLink RL 37 yX7_flip ∈ pw := pw_mem (i := 1340) (by decide +kernel) rfl
set_option maxRecDepth 100000 in
theorem pq1341 : Cond.instanceMethod yX7_flip ∈ pw := pw_mem (i := 1341) (by decide +kernel) rfl
set_option maxRecDepth 100000 in
theorem pq1342 : Cond.selects RX7 yX7_flip yX7_flip ∈ pw := pw_mem (i := 1342) (by decide +kernel) rfl
set_option maxRecDepth 100000 in
theorem pq1343 : Cond.code yX7_flip cX7_flip 4 (some .int) ∈ pw := pw_mem (i := 1343) (by rfl) rfl
set_option maxRecDepth 100000 in
theorem pq1345 : Cond.methodLink RL 41 yX7_layers ∈ pw := pw_mem (i := 1345) (by decide +kernel) rfl
set_option maxRecDepth 100000 in
theorem pq1346 : Cond.instanceMethod yX7_layers ∈ pw := pw_mem (i := 1346) (by decide +kernel) rfl
set_option maxRecDepth 100000 in
theorem pq1347 : Cond.selects RX7 yX7_layers yX7_layers ∈ pw := pw_mem (i := 1347) (by decide +kernel) rfl
set_option maxRecDepth 100000 in
theorem pq1348 : Cond.code yX7_layers cX7_layers 4 (some .int) ∈ pw := pw_mem (i := 1348) (by rfl) rfl
set_option maxRecDepth 100000 in
theorem pq1354 : Cond.methodLink RL 45 yX7_speed ∈ pw := pw_mem (i := 1354) (by decide +kernel) rfl
set_option maxRecDepth 100000 in
theorem pq1355 : Cond.instanceMethod yX7_speed ∈ pw := pw_mem (i := 1355) (by decide +kernel) rfl
set_option maxRecDepth 100000 in
theorem pq1356 : Cond.selects RX7 yX7_speed yX7_speed ∈ pw := pw_mem (i := 1356) (by decide +kernel) rfl
set_option maxRecDepth 100000 in
theorem pq1357 : Cond.code yX7_speed cX7_speed 4 (some .int) ∈ pw := pw_mem (i := 1357) (by rfl) rfl
set_option maxRecDepth 100000 in
theorem pq1360 : Cond.methodLink RL 49 yX7_turn ∈ pw := pw_mem (i := 1360) (by decide +kernel) rfl
set_option maxRecDepth 100000 in
theorem pq1361 : Cond.instanceMethod yX7_turn ∈ pw := pw_mem (i := 1361) (by decide +kernel) rfl
set_option maxRecDepth 100000 in
theorem pq1362 : Cond.selects RX7 yX7_turn yX7_turn ∈ pw := pw_mem (i := 1362) (by decide +kernel) rfl
set_option maxRecDepth 100000 in
theorem pq1363 : Cond.code yX7_turn cX7_turn 4 (some .int) ∈ pw := pw_mem (i := 1363) (by rfl) rfl
set_option maxRecDepth 100000 in
theorem pq1383 : Cond.methodLink RL 53 yX7_grow ∈ pw := pw_mem (i := 1383) (by decide +kernel) rfl
set_option maxRecDepth 100000 in
theorem pq1384 : Cond.instanceMethod yX7_grow ∈ pw := pw_mem (i := 1384) (by decide +kernel) rfl
set_option maxRecDepth 100000 in
theorem pq1385 : Cond.selects RX7 yX7_grow yX7_grow ∈ pw := pw_mem (i := 1385) (by decide +kernel) rfl
set_option maxRecDepth 100000 in
theorem pq1386 : Cond.code yX7_grow cX7_grow 2 (some .int) ∈ pw := pw_mem (i := 1386) (by rfl) rfl
set_option maxRecDepth 100000 in
theorem pq1403 : Cond.methodLink RL 57 yX7_thin ∈ pw := pw_mem (i := 1403) (by decide +kernel) rfl
set_option maxRecDepth 100000 in
theorem pq1404 : Cond.instanceMethod yX7_thin ∈ pw := pw_mem (i := 1404) (by decide +kernel) rfl
set_option maxRecDepth 100000 in
theorem pq1405 : Cond.selects RX7 yX7_thin yX7_thin ∈ pw := pw_mem (i := 1405) (by decide +kernel) rfl
set_option maxRecDepth 100000 in
theorem pq1406 : Cond.code yX7_thin cX7_thin 2 (some .int) ∈ pw := pw_mem (i := 1406) (by rfl) rfl
set_option maxRecDepth 100000 in
theorem pq1407 : Cond.methodLink RL 61 yX7_join ∈ pw := pw_mem (i := 1407) (by decide +kernel) rfl
set_option maxRecDepth 100000 in
theorem pq1408 : Cond.instanceMethod yX7_join ∈ pw := pw_mem (i := 1408) (by decide +kernel) rfl
set_option maxRecDepth 100000 in
theorem pq1409 : Cond.selects RX7 yX7_join yX7_join ∈ pw := pw_mem (i := 1409) (by decide +kernel) rfl
set_option maxRecDepth 100000 in
theorem pq1410 : Cond.code yX7_join cX7_join 11 (some .int) ∈ pw := pw_mem (i := 1410) (by rfl) rfl
set_option maxRecDepth 100000 in
theorem pq1418 : Cond.methodLink RL 65 yX7_slide ∈ pw := pw_mem (i := 1418) (by decide +kernel) rfl
set_option maxRecDepth 100000 in
theorem pq1419 : Cond.instanceMethod yX7_slide ∈ pw := pw_mem (i := 1419) (by decide +kernel) rfl
set_option maxRecDepth 100000 in
theorem pq1420 : Cond.selects RX7 yX7_slide yX7_slide ∈ pw := pw_mem (i := 1420) (by decide +kernel) rfl
set_option maxRecDepth 100000 in
theorem pq1421 : Cond.code yX7_slide cX7_slide 6 (some .int) ∈ pw := pw_mem (i := 1421) (by rfl) rfl
set_option maxRecDepth 100000 in
theorem pq1478 : Cond.methodLink RL 69 yX7_push ∈ pw := pw_mem (i := 1478) (by decide +kernel) rfl
set_option maxRecDepth 100000 in
theorem pq1479 : Cond.instanceMethod yX7_push ∈ pw := pw_mem (i := 1479) (by decide +kernel) rfl
set_option maxRecDepth 100000 in
theorem pq1480 : Cond.selects RX7 yX7_push yX7_push ∈ pw := pw_mem (i := 1480) (by decide +kernel) rfl
set_option maxRecDepth 100000 in
theorem pq1481 : Cond.code yX7_push cX7_push 12 (some .int) ∈ pw := pw_mem (i := 1481) (by rfl) rfl
set_option maxHeartbeats 4000000 in
set_option maxRecDepth 100000 in
theorem s_lwcase0 {p : Program} {e : Env} {s : State} {m : MethodId} {below : List Frame} {meth : Method} {c : Code} (l : Launch) {b Ln : Nat} {xs : Nat → Int32} {dC : Nat → ClassId} {dI : Nat → Nat → Nat} {cs : Nat → ClassId} {x0 m0 : Nat} (C0 : lw_At p s m meth c b Ln xs) (hLn : Ln ≤ 3072) (hK : va_K (dC, dI) vwCl (tysA cs) s) (hXs : xS (fun q : Nat => s.heap.size ≤ q) s s.heap) (i : Int32) (n : Nat) (hn : n < 512) (hi : i.toInt = 6 * (n : Int)) (hiL : i.toInt + 5 < (Ln : Int)) {d0 : Drawn} {H : Heap} {lo : List Loc} {ls : Array Slot} {nc ns : Nat} (h : lwI dC dI cs x0 m0 b s i n d0 H lo ls nc ns) (kk : ∀ (d0 : Drawn) (H : Heap) (lo : List Loc) (ls : Array Slot) (nc ns : Nat), lwI dC dI cs x0 m0 b s i (n + 1) d0 H lo ls nc ns → W p l e room_1 (s.setDrawn d0) m #[Value.ref b] below meth c H lo nc ns (lw_Z below #[Value.ref b] s) (F0 m 1947 ls [])) : W p l e room_1 (s.setDrawn d0) m #[Value.ref b] below meth c H lo nc ns (lw_Z below #[Value.ref b] s) (F0 m 244 ls []) := by
  obtain ⟨hx, hb, hr, hml, hown, htl, hX, hbl, hlocks, hgv⟩ := id C0
  have hb : c.code = cL_law := hb
  have hown : s.vm.findClass RL = some m.cls := hown
  have hts0 : ∀ w ∈ pw, w.before #[Value.ref b] s = true := fun w h => htl w (pw_tbl h)
  have hts := dr_words hts0 d0
  have hN : xN s := xN_of htl
  have hA : ∀ q : Nat, s.heap.size ≤ q → (fun q : Nat => s.heap.size ≤ q) q := fun _ h => h
  have hbA : ¬ (fun q : Nat => s.heap.size ≤ q) b := Nat.not_le.mpr hbl
  obtain ⟨L, K, G, Q, I, J, tx, tm, B, σ, hQ, hI, hx0, hm0, hB, hT, hC, hM, hD, hAL, hP, hS, hl, hd0, hnc, hns⟩ := h
  have hi0 : 0 ≤ i.toInt := by omega
  have hok : okF σ.1 := hC.1.1.1
  refine lv_aload_n hx hb dL_law_244 rfl (lv_at hl 2 rfl) ?_
  refine lv_aload_n hx hb dL_law_245 rfl (lv_at hl 3 rfl) ?_
  refine lv_iload_n hx hb dL_law_246 rfl (lv_at hl 0 rfl) ?_
  refine lv_iconst (v := 1) hx hb dL_law_247 (by decide +kernel) ?_
  refine lv_iadd hx hb dL_law_248 ?_
  refine va_sld (s := s.setDrawn d0) hx hb hX hbl hbA hS (lw_in (j := (1 : Int32)) (J := 1) (by decide +kernel) (by decide) (by decide) hi0 hiL hLn) dL_law_249 ?_
  refine lv_aload_n hx hb dL_law_250 rfl (lv_at hl 3 rfl) ?_
  refine lv_iload_n hx hb dL_law_251 rfl (lv_at hl 0 rfl) ?_
  refine lv_iconst (v := 2) hx hb dL_law_252 (by decide +kernel) ?_
  refine lv_iadd hx hb dL_law_253 ?_
  refine va_sld (s := s.setDrawn d0) hx hb hX hbl hbA hS (lw_in (j := (2 : Int32)) (J := 2) (by decide +kernel) (by decide) (by decide) hi0 hiL hLn) dL_law_254 ?_
  refine lv_aload_n hx hb dL_law_255 rfl (lv_at hl 3 rfl) ?_
  refine lv_iload_n hx hb dL_law_256 rfl (lv_at hl 0 rfl) ?_
  refine lv_iconst (v := 3) hx hb dL_law_257 (by decide +kernel) ?_
  refine lv_iadd hx hb dL_law_258 ?_
  refine va_sld (s := s.setDrawn d0) hx hb hX hbl hbA hS (lw_in (j := (3 : Int32)) (J := 3) (by decide +kernel) (by decide) (by decide) hi0 hiL hLn) dL_law_259 ?_
  refine lv_aload_n hx hb dL_law_260 rfl (lv_at hl 3 rfl) ?_
  refine lv_iload_n hx hb dL_law_261 rfl (lv_at hl 0 rfl) ?_
  refine lv_iconst (v := 4) hx hb dL_law_262 (by decide +kernel) ?_
  refine lv_iadd hx hb dL_law_263 ?_
  refine va_sld (s := s.setDrawn d0) hx hb hX hbl hbA hS (lw_in (j := (4 : Int32)) (J := 4) (by decide +kernel) (by decide) (by decide) hi0 hiL hLn) dL_law_264 ?_
  refine lv_aload_n hx hb dL_law_265 rfl (lv_at hl 3 rfl) ?_
  refine lv_iload_n hx hb dL_law_266 rfl (lv_at hl 0 rfl) ?_
  refine lv_iconst (v := 5) hx hb dL_law_267 (by decide +kernel) ?_
  refine lv_iadd hx hb dL_law_268 ?_
  refine va_sld (s := s.setDrawn d0) hx hb hX hbl hbA hS (lw_in (j := (5 : Int32)) (J := 5) (by decide +kernel) (by decide) (by decide) hi0 hiL hLn) dL_law_269 ?_
  refine sw_ir (va_runV (As := [.int (xs (i + 1).toNatClampNeg), .int (xs (i + 2).toNatClampNeg), .int (xs (i + 3).toNatClampNeg), .int (xs (i + 4).toNatClampNeg), .int (xs (i + 5).toNatClampNeg)]) (rest := []) ⟨hx, hb, hml, hown, hts⟩ (s_X6_feed l dC dI cs L K G Q hQ x0 m0 tx (tm, B) H.size I J (Iv_fx hI) x0 hx0 hI.2.1.1 (xs (i + 1).toNatClampNeg) (xs (i + 2).toNatClampNeg) (xs (i + 3).toNatClampNeg) (xs (i + 4).toNatClampNeg) (xs (i + 5).toNatClampNeg)) (cwV 5 hts (gV pq386 pq387 pq388 pq74 pq389) rfl rfl rfl (by decide +kernel) ⟨(Nat.le_of_ble_eq_true rfl), (Nat.le_of_ble_eq_true rfl)⟩) (sP_V hP hD hK hN hx0 hI.2.1.1 rfl rfl) rfl rfl hl.1 rfl (lv_room (Nat.le_of_ble_eq_true rfl)) dL_law_270 ⟨(show nc + 0 ≤ room_1.cells from (show nc + 0 ≤ 600000 from by omega)), (show ns + 0 ≤ room_1.slots from (show ns + 0 ≤ 7302249 from by omega))⟩) hS hAL hA (fun r1 I1 J1 H lo hr1 hI1 hP hS => ?_)
  obtain ⟨hIn1, zr1, fz1, dnc1, jz1, dj1⟩ := hI1
  have hz1 := And.intro zr1 fz1
  have hC := jz1 σ hC
  have hM := cmA_w hQ hm0 hI.2.1.2 hM dnc1 (fun b _ => congrFun dj1 b)
  have hIold := hI
  have e0 : I x0 1 = tx.1 := hI.2.2.1
  have tX : I tx.2.1 = tx.2.2 := tpX hQ hI hx0 hI.2.1.1
  have hI := hIn1
  refine lv_pop hx hb dL_law_273 rfl ?_
  refine lv_aload_n hx hb dL_law_274 rfl (lv_at hl 1 rfl) ?_
  refine lv_aload_n hx hb dL_law_275 rfl (lv_at hl 3 rfl) ?_
  refine lv_iload_n hx hb dL_law_276 rfl (lv_at hl 0 rfl) ?_
  refine lv_iconst (v := 1) hx hb dL_law_277 (by decide +kernel) ?_
  refine lv_iadd hx hb dL_law_278 ?_
  refine va_sld (s := s.setDrawn d0) hx hb hX hbl hbA hS (lw_in (j := (1 : Int32)) (J := 1) (by decide +kernel) (by decide) (by decide) hi0 hiL hLn) dL_law_279 ?_
  refine lv_aload_n hx hb dL_law_280 rfl (lv_at hl 3 rfl) ?_
  refine lv_iload_n hx hb dL_law_281 rfl (lv_at hl 0 rfl) ?_
  refine lv_iconst (v := 2) hx hb dL_law_282 (by decide +kernel) ?_
  refine lv_iadd hx hb dL_law_283 ?_
  refine va_sld (s := s.setDrawn d0) hx hb hX hbl hbA hS (lw_in (j := (2 : Int32)) (J := 2) (by decide +kernel) (by decide) (by decide) hi0 hiL hLn) dL_law_284 ?_
  refine lv_aload_n hx hb dL_law_285 rfl (lv_at hl 3 rfl) ?_
  refine lv_iload_n hx hb dL_law_286 rfl (lv_at hl 0 rfl) ?_
  refine lv_iconst (v := 3) hx hb dL_law_287 (by decide +kernel) ?_
  refine lv_iadd hx hb dL_law_288 ?_
  refine va_sld (s := s.setDrawn d0) hx hb hX hbl hbA hS (lw_in (j := (3 : Int32)) (J := 3) (by decide +kernel) (by decide) (by decide) hi0 hiL hLn) dL_law_289 ?_
  refine lv_aload_n hx hb dL_law_290 rfl (lv_at hl 3 rfl) ?_
  refine lv_iload_n hx hb dL_law_291 rfl (lv_at hl 0 rfl) ?_
  refine lv_iconst (v := 4) hx hb dL_law_292 (by decide +kernel) ?_
  refine lv_iadd hx hb dL_law_293 ?_
  refine va_sld (s := s.setDrawn d0) hx hb hX hbl hbA hS (lw_in (j := (4 : Int32)) (J := 4) (by decide +kernel) (by decide) (by decide) hi0 hiL hLn) dL_law_294 ?_
  refine lv_aload_n hx hb dL_law_295 rfl (lv_at hl 3 rfl) ?_
  refine lv_iload_n hx hb dL_law_296 rfl (lv_at hl 0 rfl) ?_
  refine lv_iconst (v := 5) hx hb dL_law_297 (by decide +kernel) ?_
  refine lv_iadd hx hb dL_law_298 ?_
  refine va_sld (s := s.setDrawn d0) hx hb hX hbl hbA hS (lw_in (j := (5 : Int32)) (J := 5) (by decide +kernel) (by decide) (by decide) hi0 hiL hLn) dL_law_299 ?_
  refine sw_ir (va_runV (As := [.int (xs (i + 1).toNatClampNeg), .int (xs (i + 2).toNatClampNeg), .int (xs (i + 3).toNatClampNeg), .int (xs (i + 4).toNatClampNeg), .int (xs (i + 5).toNatClampNeg)]) (rest := []) ⟨hx, hb, hml, hown, hts⟩ (s_X7_feed l dC dI cs L K G Q hQ x0 m0 (I1 x0 1, tx.2.1, I1 tx.2.1) (tm, B) H.size I1 J1 (Iv_fm hI) m0 hm0 hI.2.1.2 (xs (i + 1).toNatClampNeg) (xs (i + 2).toNatClampNeg) (xs (i + 3).toNatClampNeg) (xs (i + 4).toNatClampNeg) (xs (i + 5).toNatClampNeg)) (cwV 5 hts (gV pq1195 pq1196 pq1197 pq81 pq1198) rfl rfl rfl (by decide +kernel) ⟨(Nat.le_of_ble_eq_true rfl), (Nat.le_of_ble_eq_true rfl)⟩) (sP_V hP hD hK hN hm0 hI.2.1.2 rfl rfl) rfl rfl hl.1 rfl (lv_room (Nat.le_of_ble_eq_true rfl)) dL_law_300 ⟨(show nc + 0 ≤ room_1.cells from (show nc + 0 ≤ 600000 from by omega)), (show ns + 0 ≤ room_1.slots from (show ns + 0 ≤ 7302249 from by omega))⟩) hS hAL hA (fun r2 I2 J2 H lo hr2 hI2 hP hS => ?_)
  obtain ⟨hIn2, zr2, fz2, dnc2, jz2, dj2⟩ := hI2
  have hz2 := And.intro zr2 fz2
  have hM := jz2 σ hM
  have hC := cxA_w hQ hx0 hI.2.1.1 hC dnc2 (fun b _ => congrFun dj2 b)
  have hIold := hI
  have f1 : I1 m0 13 = tm.1 := hI.2.2.2.1
  have tM : I1 tm.2.1 = tm.2.2 := tpM hQ hI hm0 hI.2.1.2
  have fe : (I1 m0 13) = tx.1 := f1.trans hT.1.symm
  rw [e0, tX] at hz1
  rw [show I1 (tm, B).1.2.1 = tm.2.2 from tM, fe] at hz2
  have heq : r1 = r2 := Int32.toInt_inj.mp ((Int.lt_or_le 400 (tx.1.toInt + 20)).elim (fun w => by rw [(hz1.1.1 w).1, (hz2.1.1 w).1]) (fun w => by rw [(hz1.1.2 w).1, (hz2.1.2 w).1]))
  have hte : I1 x0 1 = I2 m0 13 := Int32.toInt_inj.mp ((Int.lt_or_le 400 (tx.1.toInt + 20)).elim (fun w => by rw [(hz1.1.1 w).2, (hz2.1.1 w).2]) (fun w => by rw [(hz1.1.2 w).2, (hz2.1.2 w).2]))
  have hta : ∀ k : Nat, k < (I1 x0 1).toInt.toNat → I1 tx.2.1 k = I2 tm.2.1 k := (Int.lt_or_le 400 (tx.1.toInt + 20)).elim (fun w k hk => by rw [hz1.2.1 w, show I2 tm.2.1 = tm.2.2 from hz2.2.1 w]; exact hT.2 k (by rw [(hz1.1.1 w).2] at hk; exact hk)) (fun w k hk => by rw [hz1.2.2 w, show I2 tm.2.1 = _ from hz2.2.2 w]; exact fd5_agr hT.2 k (by rw [(hz1.1.2 w).2] at hk; omega))
  have hT : agr (I1 x0 1, tx.2.1, I1 tx.2.1) (I2 m0 13, tm.2.1, I2 tm.2.1) := ⟨hte, hta⟩
  have hI := hIn2
  refine lv_pop hx hb dL_law_303 rfl ?_
  refine lv_goto (tgt := 1947) hx hb dL_law_304 (by decide) ?_
  exact kk _ _ _ _ _ _ ⟨L, K, G, Q, I2, J2, (I1 x0 1, tx.2.1, I1 tx.2.1), (I2 m0 13, tm.2.1, I2 tm.2.1), B, _, hQ, hI, hx0, hm0, by omega, hT, hC, hM, hD, hAL, hP, hS, hl, hd0, by omega, by omega⟩

set_option maxHeartbeats 4000000 in
set_option maxRecDepth 100000 in
theorem s_lwcase1 {p : Program} {e : Env} {s : State} {m : MethodId} {below : List Frame} {meth : Method} {c : Code} (l : Launch) {b Ln : Nat} {xs : Nat → Int32} {dC : Nat → ClassId} {dI : Nat → Nat → Nat} {cs : Nat → ClassId} {x0 m0 : Nat} (C0 : lw_At p s m meth c b Ln xs) (hLn : Ln ≤ 3072) (hK : va_K (dC, dI) vwCl (tysA cs) s) (hXs : xS (fun q : Nat => s.heap.size ≤ q) s s.heap) (i : Int32) (n : Nat) (hn : n < 512) (hi : i.toInt = 6 * (n : Int)) (hiL : i.toInt + 5 < (Ln : Int)) {d0 : Drawn} {H : Heap} {lo : List Loc} {ls : Array Slot} {nc ns : Nat} (h : lwI dC dI cs x0 m0 b s i n d0 H lo ls nc ns) (kk : ∀ (d0 : Drawn) (H : Heap) (lo : List Loc) (ls : Array Slot) (nc ns : Nat), lwI dC dI cs x0 m0 b s i (n + 1) d0 H lo ls nc ns → W p l e room_1 (s.setDrawn d0) m #[Value.ref b] below meth c H lo nc ns (lw_Z below #[Value.ref b] s) (F0 m 1947 ls [])) : W p l e room_1 (s.setDrawn d0) m #[Value.ref b] below meth c H lo nc ns (lw_Z below #[Value.ref b] s) (F0 m 307 ls []) := by
  obtain ⟨hx, hb, hr, hml, hown, htl, hX, hbl, hlocks, hgv⟩ := id C0
  have hb : c.code = cL_law := hb
  have hown : s.vm.findClass RL = some m.cls := hown
  have hts0 : ∀ w ∈ pw, w.before #[Value.ref b] s = true := fun w h => htl w (pw_tbl h)
  have hts := dr_words hts0 d0
  have hN : xN s := xN_of htl
  have hA : ∀ q : Nat, s.heap.size ≤ q → (fun q : Nat => s.heap.size ≤ q) q := fun _ h => h
  have hbA : ¬ (fun q : Nat => s.heap.size ≤ q) b := Nat.not_le.mpr hbl
  obtain ⟨L, K, G, Q, I, J, tx, tm, B, σ, hQ, hI, hx0, hm0, hB, hT, hC, hM, hD, hAL, hP, hS, hl, hd0, hnc, hns⟩ := h
  have hi0 : 0 ≤ i.toInt := by omega
  have hok : okF σ.1 := hC.1.1.1
  refine lv_aload_n hx hb dL_law_307 rfl (lv_at hl 2 rfl) ?_
  refine lv_aload_n hx hb dL_law_308 rfl (lv_at hl 3 rfl) ?_
  refine lv_iload_n hx hb dL_law_309 rfl (lv_at hl 0 rfl) ?_
  refine lv_iconst (v := 1) hx hb dL_law_310 (by decide +kernel) ?_
  refine lv_iadd hx hb dL_law_311 ?_
  refine va_sld (s := s.setDrawn d0) hx hb hX hbl hbA hS (lw_in (j := (1 : Int32)) (J := 1) (by decide +kernel) (by decide) (by decide) hi0 hiL hLn) dL_law_312 ?_
  refine sw_ir (va_runV (As := [.int (xs (i + 1).toNatClampNeg)]) (rest := []) ⟨hx, hb, hml, hown, hts⟩ (s_X6_end l dC dI cs L K G Q hQ x0 m0 tx (tm, B) H.size I J (Iv_fx hI) x0 hx0 hI.2.1.1 (xs (i + 1).toNatClampNeg)) (cwV 1 hts (gV pq394 pq395 pq396 pq74 pq397) rfl rfl rfl (by decide +kernel) ⟨(Nat.le_of_ble_eq_true rfl), (Nat.le_of_ble_eq_true rfl)⟩) (sP_V hP hD hK hN hx0 hI.2.1.1 rfl rfl) rfl rfl hl.1 rfl (lv_room (Nat.le_of_ble_eq_true rfl)) dL_law_313 ⟨(show nc + 0 ≤ room_1.cells from (show nc + 0 ≤ 600000 from by omega)), (show ns + 0 ≤ room_1.slots from (show ns + 0 ≤ 7302249 from by omega))⟩) hS hAL hA (fun r1 I1 J1 H lo hr1 hI1 hP hS => ?_)
  obtain ⟨hIn1, zr1, fz1, dnc1, jz1, dj1⟩ := hI1
  have hz1 := And.intro zr1 fz1
  have hC := jz1 σ hC
  have hM := cmA_w hQ hm0 hI.2.1.2 hM dnc1 (fun b _ => congrFun dj1 b)
  have hIold := hI
  have e0 : I x0 1 = tx.1 := hI.2.2.1
  have tX : I tx.2.1 = tx.2.2 := tpX hQ hI hx0 hI.2.1.1
  have hI := hIn1
  refine lv_pop hx hb dL_law_316 rfl ?_
  refine lv_aload_n hx hb dL_law_317 rfl (lv_at hl 1 rfl) ?_
  refine lv_aload_n hx hb dL_law_318 rfl (lv_at hl 3 rfl) ?_
  refine lv_iload_n hx hb dL_law_319 rfl (lv_at hl 0 rfl) ?_
  refine lv_iconst (v := 1) hx hb dL_law_320 (by decide +kernel) ?_
  refine lv_iadd hx hb dL_law_321 ?_
  refine va_sld (s := s.setDrawn d0) hx hb hX hbl hbA hS (lw_in (j := (1 : Int32)) (J := 1) (by decide +kernel) (by decide) (by decide) hi0 hiL hLn) dL_law_322 ?_
  refine sw_ir (va_runV (As := [.int (xs (i + 1).toNatClampNeg)]) (rest := []) ⟨hx, hb, hml, hown, hts⟩ (s_X7_end l dC dI cs L K G Q hQ x0 m0 (I1 x0 1, tx.2.1, I1 tx.2.1) (tm, B) H.size I1 J1 (Iv_fm hI) m0 hm0 hI.2.1.2 (xs (i + 1).toNatClampNeg)) (cwV 1 hts (gV pq1203 pq1204 pq1205 pq81 pq1206) rfl rfl rfl (by decide +kernel) ⟨(Nat.le_of_ble_eq_true rfl), (Nat.le_of_ble_eq_true rfl)⟩) (sP_V hP hD hK hN hm0 hI.2.1.2 rfl rfl) rfl rfl hl.1 rfl (lv_room (Nat.le_of_ble_eq_true rfl)) dL_law_323 ⟨(show nc + 0 ≤ room_1.cells from (show nc + 0 ≤ 600000 from by omega)), (show ns + 0 ≤ room_1.slots from (show ns + 0 ≤ 7302249 from by omega))⟩) hS hAL hA (fun r2 I2 J2 H lo hr2 hI2 hP hS => ?_)
  obtain ⟨hIn2, zr2, fz2, dnc2, jz2, dj2⟩ := hI2
  have hz2 := And.intro zr2 fz2
  have hM := jz2 σ hM
  have hC := cxA_w hQ hx0 hI.2.1.1 hC dnc2 (fun b _ => congrFun dj2 b)
  have hIold := hI
  have f1 : I1 m0 13 = tm.1 := hI.2.2.2.1
  have tM : I1 tm.2.1 = tm.2.2 := tpM hQ hI hm0 hI.2.1.2
  have fe : (I1 m0 13) = tx.1 := f1.trans hT.1.symm
  rw [e0, tX] at hz1
  rw [show I1 (tm, B).1.2.1 = tm.2.2 from tM, fe] at hz2
  have heq : r1 = r2 := (Classical.em (0 ≤ (xs (i + 1).toNatClampNeg).toInt ∧ (xs (i + 1).toNatClampNeg).toInt ≤ tx.1.toInt)).elim (fun w => (hz1.1.1 w).1.trans (hz2.1.1 w).1.symm) (fun w => Int32.toInt_inj.mp (by rw [(hz1.1.2 w).1, (hz2.1.2 w).1]))
  have hte : I1 x0 1 = I2 m0 13 := (Classical.em (0 ≤ (xs (i + 1).toNatClampNeg).toInt ∧ (xs (i + 1).toNatClampNeg).toInt ≤ tx.1.toInt)).elim (fun w => by rw [(hz1.1.1 w).2, (hz2.1.1 w).2]) (fun w => by rw [(hz1.1.2 w).2, (hz2.1.2 w).2])
  have hta : ∀ k : Nat, k < (I1 x0 1).toInt.toNat → I1 tx.2.1 k = I2 tm.2.1 k := fun k hk => by rw [hz1.2, show I2 tm.2.1 = tm.2.2 from hz2.2]; exact hT.2 k ((Classical.em (0 ≤ (xs (i + 1).toNatClampNeg).toInt ∧ (xs (i + 1).toNatClampNeg).toInt ≤ tx.1.toInt)).elim (fun w => by rw [(hz1.1.1 w).2] at hk; omega) (fun w => by rw [(hz1.1.2 w).2] at hk; exact hk))
  have hT : agr (I1 x0 1, tx.2.1, I1 tx.2.1) (I2 m0 13, tm.2.1, I2 tm.2.1) := ⟨hte, hta⟩
  have hI := hIn2
  refine lv_pop hx hb dL_law_326 rfl ?_
  refine lv_goto (tgt := 1947) hx hb dL_law_327 (by decide) ?_
  exact kk _ _ _ _ _ _ ⟨L, K, G, Q, I2, J2, (I1 x0 1, tx.2.1, I1 tx.2.1), (I2 m0 13, tm.2.1, I2 tm.2.1), B, _, hQ, hI, hx0, hm0, by omega, hT, hC, hM, hD, hAL, hP, hS, hl, hd0, by omega, by omega⟩

set_option maxHeartbeats 4000000 in
set_option maxRecDepth 100000 in
theorem s_lwcase2 {p : Program} {e : Env} {s : State} {m : MethodId} {below : List Frame} {meth : Method} {c : Code} (l : Launch) {b Ln : Nat} {xs : Nat → Int32} {dC : Nat → ClassId} {dI : Nat → Nat → Nat} {cs : Nat → ClassId} {x0 m0 : Nat} (C0 : lw_At p s m meth c b Ln xs) (hLn : Ln ≤ 3072) (hK : va_K (dC, dI) vwCl (tysA cs) s) (hXs : xS (fun q : Nat => s.heap.size ≤ q) s s.heap) (i : Int32) (n : Nat) (hn : n < 512) (hi : i.toInt = 6 * (n : Int)) (hiL : i.toInt + 5 < (Ln : Int)) {d0 : Drawn} {H : Heap} {lo : List Loc} {ls : Array Slot} {nc ns : Nat} (h : lwI dC dI cs x0 m0 b s i n d0 H lo ls nc ns) (kk : ∀ (d0 : Drawn) (H : Heap) (lo : List Loc) (ls : Array Slot) (nc ns : Nat), lwI dC dI cs x0 m0 b s i (n + 1) d0 H lo ls nc ns → W p l e room_1 (s.setDrawn d0) m #[Value.ref b] below meth c H lo nc ns (lw_Z below #[Value.ref b] s) (F0 m 1947 ls [])) : W p l e room_1 (s.setDrawn d0) m #[Value.ref b] below meth c H lo nc ns (lw_Z below #[Value.ref b] s) (F0 m 330 ls []) := by
  obtain ⟨hx, hb, hr, hml, hown, htl, hX, hbl, hlocks, hgv⟩ := id C0
  have hb : c.code = cL_law := hb
  have hown : s.vm.findClass RL = some m.cls := hown
  have hts0 : ∀ w ∈ pw, w.before #[Value.ref b] s = true := fun w h => htl w (pw_tbl h)
  have hts := dr_words hts0 d0
  have hN : xN s := xN_of htl
  have hA : ∀ q : Nat, s.heap.size ≤ q → (fun q : Nat => s.heap.size ≤ q) q := fun _ h => h
  have hbA : ¬ (fun q : Nat => s.heap.size ≤ q) b := Nat.not_le.mpr hbl
  obtain ⟨L, K, G, Q, I, J, tx, tm, B, σ, hQ, hI, hx0, hm0, hB, hT, hC, hM, hD, hAL, hP, hS, hl, hd0, hnc, hns⟩ := h
  have hi0 : 0 ≤ i.toInt := by omega
  have hok : okF σ.1 := hC.1.1.1
  refine lv_aload_n hx hb dL_law_330 rfl (lv_at hl 2 rfl) ?_
  refine sw_ir (va_runV (As := []) (rest := []) ⟨hx, hb, hml, hown, hts⟩ (s_X6_tell l dC dI cs L K G Q hQ x0 m0 tx (tm, B) H.size I J (Iv_fx hI) x0 hx0 hI.2.1.1 rfl) (cwV 0 hts (gV pq398 pq399 pq400 pq74 pq401) rfl rfl rfl (by decide +kernel) ⟨(Nat.le_of_ble_eq_true rfl), (Nat.le_of_ble_eq_true rfl)⟩) (sPX_V hP hD hK hN hx0 hI.2.1.1 rfl rfl gX_x hS hXs (fun q h => h.elim (hAL q) (fun h => hA q (Nat.le_trans hS.1 h)))) rfl rfl hl.1 rfl (lv_room (Nat.le_of_ble_eq_true rfl)) dL_law_331 ⟨(show nc + 0 ≤ room_1.cells from (show nc + 0 ≤ 600000 from by omega)), (show ns + 0 ≤ room_1.slots from (show ns + 0 ≤ 7302249 from by omega))⟩) hS hAL hA (fun r1 I1 J1 H lo hr1 hI1 hP hS => ?_)
  obtain ⟨hIn1, zp1, fz1, dnc1, jz1, dj1⟩ := hI1
  have hz1 := And.intro zp1 fz1
  have hC := jz1 σ hC
  have hM := cmA_w hQ hm0 hI.2.1.2 hM dnc1 (fun b hb => dj1 b (by omega))
  have hIold := hI
  have e0 : I x0 1 = tx.1 := hI.2.2.1
  have tX : I tx.2.1 = tx.2.2 := tpX hQ hI hx0 hI.2.1.1
  have hI := hIn1
  refine lv_pop hx hb dL_law_334 rfl ?_
  refine lv_aload_n hx hb dL_law_335 rfl (lv_at hl 1 rfl) ?_
  refine sw_ir (va_runV (As := []) (rest := []) ⟨hx, hb, hml, hown, hts⟩ (s_X7_tell l dC dI cs L K G Q hQ x0 m0 (I1 x0 1, tx.2.1, I1 tx.2.1) (tm, B) H.size I1 J1 (Iv_fm hI) m0 hm0 hI.2.1.2 rfl) (cwV 0 hts (gV pq1207 pq1208 pq1209 pq81 pq1210) rfl rfl rfl (by decide +kernel) ⟨(Nat.le_of_ble_eq_true rfl), (Nat.le_of_ble_eq_true rfl)⟩) (sPX_V hP hD hK hN hm0 hI.2.1.2 rfl rfl gX_x hS hXs (fun q h => h.elim (hAL q) (fun h => hA q (Nat.le_trans hS.1 h)))) rfl rfl hl.1 rfl (lv_room (Nat.le_of_ble_eq_true rfl)) dL_law_336 ⟨(show nc + 0 ≤ room_1.cells from (show nc + 0 ≤ 600000 from by omega)), (show ns + 0 ≤ room_1.slots from (show ns + 0 ≤ 7302249 from by omega))⟩) hS hAL hA (fun r2 I2 J2 H lo hr2 hI2 hP hS => ?_)
  obtain ⟨hIn2, zp2, fz2, dnc2, jz2, dj2⟩ := hI2
  have hz2 := And.intro zp2 fz2
  have hM := jz2 σ hM
  have hC := cxA_w hQ hx0 hI.2.1.1 hC dnc2 (fun b hb => dj2 b (by omega))
  have hIold := hI
  have f1 : I1 m0 13 = tm.1 := hI.2.2.2.1
  have tM : I1 tm.2.1 = tm.2.2 := tpM hQ hI hm0 hI.2.1.2
  have fe : (I1 m0 13) = tx.1 := f1.trans hT.1.symm
  have hte : I1 x0 1 = I2 m0 13 := Int32.toInt_inj.mp (by rw [hz1.1, hz2.1])
  have hta : ∀ k : Nat, k < (I1 x0 1).toInt.toNat → I1 tx.2.1 k = I2 tm.2.1 k := fun k hk => absurd hk (by rw [hz1.1]; exact Nat.not_lt_zero _)
  have g1 := hz1.2
  have g2 := hz2.2
  rw [e0, tX] at g1 hC
  rw [show I1 (tm, B).1.2.1 = tm.2.2 from tM, fe] at g2 hM
  rw [← tb_agr hT.2] at hM
  have heq : r1 = r2 := Int32.toInt_inj.mp (by rw [g1, g2, tb_agr hT.2])
  have hT : agr (I1 x0 1, tx.2.1, I1 tx.2.1) (I2 m0 13, tm.2.1, I2 tm.2.1) := ⟨hte, hta⟩
  have hI := hIn2
  refine lv_pop hx hb dL_law_339 rfl ?_
  refine lv_goto (tgt := 1947) hx hb dL_law_340 (by decide) ?_
  exact kk _ _ _ _ _ _ ⟨L, K, G, Q, I2, J2, (I1 x0 1, tx.2.1, I1 tx.2.1), (I2 m0 13, tm.2.1, I2 tm.2.1), B, _, hQ, hI, hx0, hm0, by omega, hT, hC, hM, hD, hAL, hP, hS, hl, hd0, by omega, by omega⟩

set_option maxHeartbeats 4000000 in
set_option maxRecDepth 100000 in
theorem s_lwcase3 {p : Program} {e : Env} {s : State} {m : MethodId} {below : List Frame} {meth : Method} {c : Code} (l : Launch) {b Ln : Nat} {xs : Nat → Int32} {dC : Nat → ClassId} {dI : Nat → Nat → Nat} {cs : Nat → ClassId} {x0 m0 : Nat} (C0 : lw_At p s m meth c b Ln xs) (hLn : Ln ≤ 3072) (hK : va_K (dC, dI) vwCl (tysA cs) s) (hXs : xS (fun q : Nat => s.heap.size ≤ q) s s.heap) (i : Int32) (n : Nat) (hn : n < 512) (hi : i.toInt = 6 * (n : Int)) (hiL : i.toInt + 5 < (Ln : Int)) {d0 : Drawn} {H : Heap} {lo : List Loc} {ls : Array Slot} {nc ns : Nat} (h : lwI dC dI cs x0 m0 b s i n d0 H lo ls nc ns) (kk : ∀ (d0 : Drawn) (H : Heap) (lo : List Loc) (ls : Array Slot) (nc ns : Nat), lwI dC dI cs x0 m0 b s i (n + 1) d0 H lo ls nc ns → W p l e room_1 (s.setDrawn d0) m #[Value.ref b] below meth c H lo nc ns (lw_Z below #[Value.ref b] s) (F0 m 1947 ls [])) : W p l e room_1 (s.setDrawn d0) m #[Value.ref b] below meth c H lo nc ns (lw_Z below #[Value.ref b] s) (F0 m 343 ls []) := by
  obtain ⟨hx, hb, hr, hml, hown, htl, hX, hbl, hlocks, hgv⟩ := id C0
  have hb : c.code = cL_law := hb
  have hown : s.vm.findClass RL = some m.cls := hown
  have hts0 : ∀ w ∈ pw, w.before #[Value.ref b] s = true := fun w h => htl w (pw_tbl h)
  have hts := dr_words hts0 d0
  have hN : xN s := xN_of htl
  have hA : ∀ q : Nat, s.heap.size ≤ q → (fun q : Nat => s.heap.size ≤ q) q := fun _ h => h
  have hbA : ¬ (fun q : Nat => s.heap.size ≤ q) b := Nat.not_le.mpr hbl
  obtain ⟨L, K, G, Q, I, J, tx, tm, B, σ, hQ, hI, hx0, hm0, hB, hT, hC, hM, hD, hAL, hP, hS, hl, hd0, hnc, hns⟩ := h
  have hi0 : 0 ≤ i.toInt := by omega
  have hok : okF σ.1 := hC.1.1.1
  refine lv_aload_n hx hb dL_law_343 rfl (lv_at hl 2 rfl) ?_
  refine lv_aload_n hx hb dL_law_344 rfl (lv_at hl 3 rfl) ?_
  refine lv_iload_n hx hb dL_law_345 rfl (lv_at hl 0 rfl) ?_
  refine lv_iconst (v := 1) hx hb dL_law_346 (by decide +kernel) ?_
  refine lv_iadd hx hb dL_law_347 ?_
  refine va_sld (s := s.setDrawn d0) hx hb hX hbl hbA hS (lw_in (j := (1 : Int32)) (J := 1) (by decide +kernel) (by decide) (by decide) hi0 hiL hLn) dL_law_348 ?_
  refine lv_aload_n hx hb dL_law_349 rfl (lv_at hl 3 rfl) ?_
  refine lv_iload_n hx hb dL_law_350 rfl (lv_at hl 0 rfl) ?_
  refine lv_iconst (v := 2) hx hb dL_law_351 (by decide +kernel) ?_
  refine lv_iadd hx hb dL_law_352 ?_
  refine va_sld (s := s.setDrawn d0) hx hb hX hbl hbA hS (lw_in (j := (2 : Int32)) (J := 2) (by decide +kernel) (by decide) (by decide) hi0 hiL hLn) dL_law_353 ?_
  refine lv_aload_n hx hb dL_law_354 rfl (lv_at hl 3 rfl) ?_
  refine lv_iload_n hx hb dL_law_355 rfl (lv_at hl 0 rfl) ?_
  refine lv_iconst (v := 3) hx hb dL_law_356 (by decide +kernel) ?_
  refine lv_iadd hx hb dL_law_357 ?_
  refine va_sld (s := s.setDrawn d0) hx hb hX hbl hbA hS (lw_in (j := (3 : Int32)) (J := 3) (by decide +kernel) (by decide) (by decide) hi0 hiL hLn) dL_law_358 ?_
  have hQo := hQ
  have hx0o := hx0
  have hm0o := hm0
  have hIo := hI
  refine sa_i (va_runV (As := [.int (xs (i + 1).toNatClampNeg), .int (xs (i + 2).toNatClampNeg), .int (xs (i + 3).toNatClampNeg)]) (rest := []) ⟨hx, hb, hml, hown, hts⟩ (s_X6_place l dC dI cs L K G Q hQ x0 m0 tx (tm, B) hx0 hm0 H.size I J hI x0 hx0 hI.2.1.1 (xs (i + 1).toNatClampNeg) (xs (i + 2).toNatClampNeg) (xs (i + 3).toNatClampNeg)) (cwV 3 hts (gV pq632 pq633 pq634 pq74 pq635) rfl rfl rfl (by decide +kernel) ⟨(Nat.le_of_ble_eq_true rfl), (Nat.le_of_ble_eq_true rfl)⟩) (sP_V hP hD hK hN hx0 hI.2.1.1 rfl rfl) rfl rfl hl.1 rfl (lv_room (Nat.le_of_ble_eq_true rfl)) dL_law_359 ⟨(show nc + 29 ≤ room_1.cells from (show nc + 29 ≤ 600000 from by omega)), (show ns + 807 ≤ room_1.slots from (show ns + 807 ≤ 7302249 from by omega))⟩) hS hAL hA (fun r1 L K G Q I1 J1 H lo hr1 hE hQ hI hD hAL hP hz1 hS => ?_)
  have hx0 := (hE x0 hx0).1
  have hm0 := (hE m0 hm0).1
  obtain ⟨rz1, dnc1, dj1⟩ := hz1
  have hk1 := hr1 σ hC
  have hC := rz1 σ hC
  have hM := cmA_al hQo hm0o hIo.2.1.2 hE hM dnc1 (fun b hl hb => dj1 b hl (by omega))
  refine lv_pop hx hb dL_law_362 rfl ?_
  refine lv_aload_n hx hb dL_law_363 rfl (lv_at hl 1 rfl) ?_
  refine lv_aload_n hx hb dL_law_364 rfl (lv_at hl 3 rfl) ?_
  refine lv_iload_n hx hb dL_law_365 rfl (lv_at hl 0 rfl) ?_
  refine lv_iconst (v := 1) hx hb dL_law_366 (by decide +kernel) ?_
  refine lv_iadd hx hb dL_law_367 ?_
  refine va_sld (s := s.setDrawn d0) hx hb hX hbl hbA hS (lw_in (j := (1 : Int32)) (J := 1) (by decide +kernel) (by decide) (by decide) hi0 hiL hLn) dL_law_368 ?_
  refine lv_aload_n hx hb dL_law_369 rfl (lv_at hl 3 rfl) ?_
  refine lv_iload_n hx hb dL_law_370 rfl (lv_at hl 0 rfl) ?_
  refine lv_iconst (v := 2) hx hb dL_law_371 (by decide +kernel) ?_
  refine lv_iadd hx hb dL_law_372 ?_
  refine va_sld (s := s.setDrawn d0) hx hb hX hbl hbA hS (lw_in (j := (2 : Int32)) (J := 2) (by decide +kernel) (by decide) (by decide) hi0 hiL hLn) dL_law_373 ?_
  refine lv_aload_n hx hb dL_law_374 rfl (lv_at hl 3 rfl) ?_
  refine lv_iload_n hx hb dL_law_375 rfl (lv_at hl 0 rfl) ?_
  refine lv_iconst (v := 3) hx hb dL_law_376 (by decide +kernel) ?_
  refine lv_iadd hx hb dL_law_377 ?_
  refine va_sld (s := s.setDrawn d0) hx hb hX hbl hbA hS (lw_in (j := (3 : Int32)) (J := 3) (by decide +kernel) (by decide) (by decide) hi0 hiL hLn) dL_law_378 ?_
  refine sw_i (va_runV (As := [.int (xs (i + 1).toNatClampNeg), .int (xs (i + 2).toNatClampNeg), .int (xs (i + 3).toNatClampNeg)]) (rest := []) ⟨hx, hb, hml, hown, hts⟩ (s_X7_place l dC dI cs L K G Q hQ x0 m0 tx (tm, B) H.size I1 J1 hI m0 hm0 hI.2.1.2 (xs (i + 1).toNatClampNeg) (xs (i + 2).toNatClampNeg) (xs (i + 3).toNatClampNeg)) (cwV 3 hts (gV pq1306 pq1307 pq1308 pq81 pq1309) rfl rfl rfl (by decide +kernel) ⟨(Nat.le_of_ble_eq_true rfl), (Nat.le_of_ble_eq_true rfl)⟩) (sP_V hP hD hK hN hm0 hI.2.1.2 rfl rfl) rfl rfl hl.1 rfl (lv_room (Nat.le_of_ble_eq_true rfl)) dL_law_379 ⟨(show (nc + 29) + 0 ≤ room_1.cells from (show (nc + 29) + 0 ≤ 600000 from by omega)), (show (ns + 807) + 0 ≤ room_1.slots from (show (ns + 807) + 0 ≤ 7302249 from by omega))⟩) hS hAL hA (fun r2 I2 J2 H lo hr2 hI2 hP hS => ?_)
  obtain ⟨hIn2, dnc2, jz2, dj2⟩ := hI2
  have hk2 := hr2 σ hM
  have hM := jz2 σ hM
  have hC := cxA_w hQ hx0 hI.2.1.1 hC dnc2 (fun b hb => dj2 b (by omega))
  have hIold := hI
  have hI := hIn2
  have heq : r1 = r2 := Int32.toInt_inj.mp (hk1.trans hk2.symm)
  refine lv_pop hx hb dL_law_382 rfl ?_
  refine lv_goto (tgt := 1947) hx hb dL_law_383 (by decide) ?_
  exact kk _ _ _ _ _ _ ⟨L, K, G, Q, I2, J2, tx, tm, B, _, hQ, hI, hx0, hm0, by omega, hT, hC, hM, hD, hAL, hP, hS, hl, hd0, by omega, by omega⟩

set_option maxHeartbeats 4000000 in
set_option maxRecDepth 100000 in
theorem s_lwcase4 {p : Program} {e : Env} {s : State} {m : MethodId} {below : List Frame} {meth : Method} {c : Code} (l : Launch) {b Ln : Nat} {xs : Nat → Int32} {dC : Nat → ClassId} {dI : Nat → Nat → Nat} {cs : Nat → ClassId} {x0 m0 : Nat} (C0 : lw_At p s m meth c b Ln xs) (hLn : Ln ≤ 3072) (hK : va_K (dC, dI) vwCl (tysA cs) s) (hXs : xS (fun q : Nat => s.heap.size ≤ q) s s.heap) (i : Int32) (n : Nat) (hn : n < 512) (hi : i.toInt = 6 * (n : Int)) (hiL : i.toInt + 5 < (Ln : Int)) {d0 : Drawn} {H : Heap} {lo : List Loc} {ls : Array Slot} {nc ns : Nat} (h : lwI dC dI cs x0 m0 b s i n d0 H lo ls nc ns) (kk : ∀ (d0 : Drawn) (H : Heap) (lo : List Loc) (ls : Array Slot) (nc ns : Nat), lwI dC dI cs x0 m0 b s i (n + 1) d0 H lo ls nc ns → W p l e room_1 (s.setDrawn d0) m #[Value.ref b] below meth c H lo nc ns (lw_Z below #[Value.ref b] s) (F0 m 1947 ls [])) : W p l e room_1 (s.setDrawn d0) m #[Value.ref b] below meth c H lo nc ns (lw_Z below #[Value.ref b] s) (F0 m 386 ls []) := by
  obtain ⟨hx, hb, hr, hml, hown, htl, hX, hbl, hlocks, hgv⟩ := id C0
  have hb : c.code = cL_law := hb
  have hown : s.vm.findClass RL = some m.cls := hown
  have hts0 : ∀ w ∈ pw, w.before #[Value.ref b] s = true := fun w h => htl w (pw_tbl h)
  have hts := dr_words hts0 d0
  have hN : xN s := xN_of htl
  have hA : ∀ q : Nat, s.heap.size ≤ q → (fun q : Nat => s.heap.size ≤ q) q := fun _ h => h
  have hbA : ¬ (fun q : Nat => s.heap.size ≤ q) b := Nat.not_le.mpr hbl
  obtain ⟨L, K, G, Q, I, J, tx, tm, B, σ, hQ, hI, hx0, hm0, hB, hT, hC, hM, hD, hAL, hP, hS, hl, hd0, hnc, hns⟩ := h
  have hi0 : 0 ≤ i.toInt := by omega
  have hok : okF σ.1 := hC.1.1.1
  refine lv_aload_n hx hb dL_law_386 rfl (lv_at hl 2 rfl) ?_
  refine lv_aload_n hx hb dL_law_387 rfl (lv_at hl 3 rfl) ?_
  refine lv_iload_n hx hb dL_law_388 rfl (lv_at hl 0 rfl) ?_
  refine lv_iconst (v := 1) hx hb dL_law_389 (by decide +kernel) ?_
  refine lv_iadd hx hb dL_law_390 ?_
  refine va_sld (s := s.setDrawn d0) hx hb hX hbl hbA hS (lw_in (j := (1 : Int32)) (J := 1) (by decide +kernel) (by decide) (by decide) hi0 hiL hLn) dL_law_391 ?_
  refine lv_aload_n hx hb dL_law_392 rfl (lv_at hl 3 rfl) ?_
  refine lv_iload_n hx hb dL_law_393 rfl (lv_at hl 0 rfl) ?_
  refine lv_iconst (v := 2) hx hb dL_law_394 (by decide +kernel) ?_
  refine lv_iadd hx hb dL_law_395 ?_
  refine va_sld (s := s.setDrawn d0) hx hb hX hbl hbA hS (lw_in (j := (2 : Int32)) (J := 2) (by decide +kernel) (by decide) (by decide) hi0 hiL hLn) dL_law_396 ?_
  have hQo := hQ
  have hx0o := hx0
  have hm0o := hm0
  have hIo := hI
  refine sa_i (va_runV (As := [.int (xs (i + 1).toNatClampNeg), .int (xs (i + 2).toNatClampNeg)]) (rest := []) ⟨hx, hb, hml, hown, hts⟩ (s_X6_flip l dC dI cs L K G Q hQ x0 m0 tx (tm, B) hx0 hm0 H.size I J hI x0 hx0 hI.2.1.1 (xs (i + 1).toNatClampNeg) (xs (i + 2).toNatClampNeg)) (cwV 2 hts (gV pq647 pq648 pq649 pq74 pq650) rfl rfl rfl (by decide +kernel) ⟨(Nat.le_of_ble_eq_true rfl), (Nat.le_of_ble_eq_true rfl)⟩) (sP_V hP hD hK hN hx0 hI.2.1.1 rfl rfl) rfl rfl hl.1 rfl (lv_room (Nat.le_of_ble_eq_true rfl)) dL_law_397 ⟨(show nc + 29 ≤ room_1.cells from (show nc + 29 ≤ 600000 from by omega)), (show ns + 807 ≤ room_1.slots from (show ns + 807 ≤ 7302249 from by omega))⟩) hS hAL hA (fun r1 L K G Q I1 J1 H lo hr1 hE hQ hI hD hAL hP hz1 hS => ?_)
  have hx0 := (hE x0 hx0).1
  have hm0 := (hE m0 hm0).1
  obtain ⟨rz1, dnc1, dj1⟩ := hz1
  have hk1 := hr1 σ hC
  have hC := rz1 σ hC
  have hM := cmA_al hQo hm0o hIo.2.1.2 hE hM dnc1 (fun b hl hb => dj1 b hl (by omega))
  refine lv_pop hx hb dL_law_400 rfl ?_
  refine lv_aload_n hx hb dL_law_401 rfl (lv_at hl 1 rfl) ?_
  refine lv_aload_n hx hb dL_law_402 rfl (lv_at hl 3 rfl) ?_
  refine lv_iload_n hx hb dL_law_403 rfl (lv_at hl 0 rfl) ?_
  refine lv_iconst (v := 1) hx hb dL_law_404 (by decide +kernel) ?_
  refine lv_iadd hx hb dL_law_405 ?_
  refine va_sld (s := s.setDrawn d0) hx hb hX hbl hbA hS (lw_in (j := (1 : Int32)) (J := 1) (by decide +kernel) (by decide) (by decide) hi0 hiL hLn) dL_law_406 ?_
  refine lv_aload_n hx hb dL_law_407 rfl (lv_at hl 3 rfl) ?_
  refine lv_iload_n hx hb dL_law_408 rfl (lv_at hl 0 rfl) ?_
  refine lv_iconst (v := 2) hx hb dL_law_409 (by decide +kernel) ?_
  refine lv_iadd hx hb dL_law_410 ?_
  refine va_sld (s := s.setDrawn d0) hx hb hX hbl hbA hS (lw_in (j := (2 : Int32)) (J := 2) (by decide +kernel) (by decide) (by decide) hi0 hiL hLn) dL_law_411 ?_
  refine sw_i (va_runV (As := [.int (xs (i + 1).toNatClampNeg), .int (xs (i + 2).toNatClampNeg)]) (rest := []) ⟨hx, hb, hml, hown, hts⟩ (s_X7_flip l dC dI cs L K G Q hQ x0 m0 tx (tm, B) H.size I1 J1 hI m0 hm0 hI.2.1.2 (xs (i + 1).toNatClampNeg) (xs (i + 2).toNatClampNeg)) (cwV 2 hts (gV pq1340 pq1341 pq1342 pq81 pq1343) rfl rfl rfl (by decide +kernel) ⟨(Nat.le_of_ble_eq_true rfl), (Nat.le_of_ble_eq_true rfl)⟩) (sP_V hP hD hK hN hm0 hI.2.1.2 rfl rfl) rfl rfl hl.1 rfl (lv_room (Nat.le_of_ble_eq_true rfl)) dL_law_412 ⟨(show (nc + 29) + 0 ≤ room_1.cells from (show (nc + 29) + 0 ≤ 600000 from by omega)), (show (ns + 807) + 0 ≤ room_1.slots from (show (ns + 807) + 0 ≤ 7302249 from by omega))⟩) hS hAL hA (fun r2 I2 J2 H lo hr2 hI2 hP hS => ?_)
  obtain ⟨hIn2, dnc2, jz2, dj2⟩ := hI2
  have hk2 := hr2 σ hM
  have hM := jz2 σ hM
  have hC := cxA_w hQ hx0 hI.2.1.1 hC dnc2 (fun b hb => dj2 b (by omega))
  have hIold := hI
  have hI := hIn2
  have heq : r1 = r2 := Int32.toInt_inj.mp (hk1.trans hk2.symm)
  refine lv_pop hx hb dL_law_415 rfl ?_
  refine lv_goto (tgt := 1947) hx hb dL_law_416 (by decide) ?_
  exact kk _ _ _ _ _ _ ⟨L, K, G, Q, I2, J2, tx, tm, B, _, hQ, hI, hx0, hm0, by omega, hT, hC, hM, hD, hAL, hP, hS, hl, hd0, by omega, by omega⟩

set_option maxHeartbeats 4000000 in
set_option maxRecDepth 100000 in
theorem s_lwcase5 {p : Program} {e : Env} {s : State} {m : MethodId} {below : List Frame} {meth : Method} {c : Code} (l : Launch) {b Ln : Nat} {xs : Nat → Int32} {dC : Nat → ClassId} {dI : Nat → Nat → Nat} {cs : Nat → ClassId} {x0 m0 : Nat} (C0 : lw_At p s m meth c b Ln xs) (hLn : Ln ≤ 3072) (hK : va_K (dC, dI) vwCl (tysA cs) s) (hXs : xS (fun q : Nat => s.heap.size ≤ q) s s.heap) (i : Int32) (n : Nat) (hn : n < 512) (hi : i.toInt = 6 * (n : Int)) (hiL : i.toInt + 5 < (Ln : Int)) {d0 : Drawn} {H : Heap} {lo : List Loc} {ls : Array Slot} {nc ns : Nat} (h : lwI dC dI cs x0 m0 b s i n d0 H lo ls nc ns) (kk : ∀ (d0 : Drawn) (H : Heap) (lo : List Loc) (ls : Array Slot) (nc ns : Nat), lwI dC dI cs x0 m0 b s i (n + 1) d0 H lo ls nc ns → W p l e room_1 (s.setDrawn d0) m #[Value.ref b] below meth c H lo nc ns (lw_Z below #[Value.ref b] s) (F0 m 1947 ls [])) : W p l e room_1 (s.setDrawn d0) m #[Value.ref b] below meth c H lo nc ns (lw_Z below #[Value.ref b] s) (F0 m 419 ls []) := by
  obtain ⟨hx, hb, hr, hml, hown, htl, hX, hbl, hlocks, hgv⟩ := id C0
  have hb : c.code = cL_law := hb
  have hown : s.vm.findClass RL = some m.cls := hown
  have hts0 : ∀ w ∈ pw, w.before #[Value.ref b] s = true := fun w h => htl w (pw_tbl h)
  have hts := dr_words hts0 d0
  have hN : xN s := xN_of htl
  have hA : ∀ q : Nat, s.heap.size ≤ q → (fun q : Nat => s.heap.size ≤ q) q := fun _ h => h
  have hbA : ¬ (fun q : Nat => s.heap.size ≤ q) b := Nat.not_le.mpr hbl
  obtain ⟨L, K, G, Q, I, J, tx, tm, B, σ, hQ, hI, hx0, hm0, hB, hT, hC, hM, hD, hAL, hP, hS, hl, hd0, hnc, hns⟩ := h
  have hi0 : 0 ≤ i.toInt := by omega
  have hok : okF σ.1 := hC.1.1.1
  refine lv_aload_n hx hb dL_law_419 rfl (lv_at hl 2 rfl) ?_
  refine lv_aload_n hx hb dL_law_420 rfl (lv_at hl 3 rfl) ?_
  refine lv_iload_n hx hb dL_law_421 rfl (lv_at hl 0 rfl) ?_
  refine lv_iconst (v := 1) hx hb dL_law_422 (by decide +kernel) ?_
  refine lv_iadd hx hb dL_law_423 ?_
  refine va_sld (s := s.setDrawn d0) hx hb hX hbl hbA hS (lw_in (j := (1 : Int32)) (J := 1) (by decide +kernel) (by decide) (by decide) hi0 hiL hLn) dL_law_424 ?_
  refine lv_aload_n hx hb dL_law_425 rfl (lv_at hl 3 rfl) ?_
  refine lv_iload_n hx hb dL_law_426 rfl (lv_at hl 0 rfl) ?_
  refine lv_iconst (v := 2) hx hb dL_law_427 (by decide +kernel) ?_
  refine lv_iadd hx hb dL_law_428 ?_
  refine va_sld (s := s.setDrawn d0) hx hb hX hbl hbA hS (lw_in (j := (2 : Int32)) (J := 2) (by decide +kernel) (by decide) (by decide) hi0 hiL hLn) dL_law_429 ?_
  refine lv_aload_n hx hb dL_law_430 rfl (lv_at hl 3 rfl) ?_
  refine lv_iload_n hx hb dL_law_431 rfl (lv_at hl 0 rfl) ?_
  refine lv_iconst (v := 3) hx hb dL_law_432 (by decide +kernel) ?_
  refine lv_iadd hx hb dL_law_433 ?_
  refine va_sld (s := s.setDrawn d0) hx hb hX hbl hbA hS (lw_in (j := (3 : Int32)) (J := 3) (by decide +kernel) (by decide) (by decide) hi0 hiL hLn) dL_law_434 ?_
  have hQo := hQ
  have hx0o := hx0
  have hm0o := hm0
  have hIo := hI
  refine sa_i (va_runV (As := [.int (xs (i + 1).toNatClampNeg), .int (xs (i + 2).toNatClampNeg), .int (xs (i + 3).toNatClampNeg)]) (rest := []) ⟨hx, hb, hml, hown, hts⟩ (s_X6_layers l dC dI cs L K G Q hQ x0 m0 tx (tm, B) hx0 hm0 H.size I J hI x0 hx0 hI.2.1.1 (xs (i + 1).toNatClampNeg) (xs (i + 2).toNatClampNeg) (xs (i + 3).toNatClampNeg)) (cwV 3 hts (gV pq654 pq655 pq656 pq74 pq657) rfl rfl rfl (by decide +kernel) ⟨(Nat.le_of_ble_eq_true rfl), (Nat.le_of_ble_eq_true rfl)⟩) (sP_V hP hD hK hN hx0 hI.2.1.1 rfl rfl) rfl rfl hl.1 rfl (lv_room (Nat.le_of_ble_eq_true rfl)) dL_law_435 ⟨(show nc + 29 ≤ room_1.cells from (show nc + 29 ≤ 600000 from by omega)), (show ns + 807 ≤ room_1.slots from (show ns + 807 ≤ 7302249 from by omega))⟩) hS hAL hA (fun r1 L K G Q I1 J1 H lo hr1 hE hQ hI hD hAL hP hz1 hS => ?_)
  have hx0 := (hE x0 hx0).1
  have hm0 := (hE m0 hm0).1
  obtain ⟨rz1, dnc1, dj1⟩ := hz1
  have hk1 := hr1 σ hC
  have hC := rz1 σ hC
  have hM := cmA_al hQo hm0o hIo.2.1.2 hE hM dnc1 (fun b hl hb => dj1 b hl (by omega))
  refine lv_pop hx hb dL_law_438 rfl ?_
  refine lv_aload_n hx hb dL_law_439 rfl (lv_at hl 1 rfl) ?_
  refine lv_aload_n hx hb dL_law_440 rfl (lv_at hl 3 rfl) ?_
  refine lv_iload_n hx hb dL_law_441 rfl (lv_at hl 0 rfl) ?_
  refine lv_iconst (v := 1) hx hb dL_law_442 (by decide +kernel) ?_
  refine lv_iadd hx hb dL_law_443 ?_
  refine va_sld (s := s.setDrawn d0) hx hb hX hbl hbA hS (lw_in (j := (1 : Int32)) (J := 1) (by decide +kernel) (by decide) (by decide) hi0 hiL hLn) dL_law_444 ?_
  refine lv_aload_n hx hb dL_law_445 rfl (lv_at hl 3 rfl) ?_
  refine lv_iload_n hx hb dL_law_446 rfl (lv_at hl 0 rfl) ?_
  refine lv_iconst (v := 2) hx hb dL_law_447 (by decide +kernel) ?_
  refine lv_iadd hx hb dL_law_448 ?_
  refine va_sld (s := s.setDrawn d0) hx hb hX hbl hbA hS (lw_in (j := (2 : Int32)) (J := 2) (by decide +kernel) (by decide) (by decide) hi0 hiL hLn) dL_law_449 ?_
  refine lv_aload_n hx hb dL_law_450 rfl (lv_at hl 3 rfl) ?_
  refine lv_iload_n hx hb dL_law_451 rfl (lv_at hl 0 rfl) ?_
  refine lv_iconst (v := 3) hx hb dL_law_452 (by decide +kernel) ?_
  refine lv_iadd hx hb dL_law_453 ?_
  refine va_sld (s := s.setDrawn d0) hx hb hX hbl hbA hS (lw_in (j := (3 : Int32)) (J := 3) (by decide +kernel) (by decide) (by decide) hi0 hiL hLn) dL_law_454 ?_
  refine sw_i (va_runV (As := [.int (xs (i + 1).toNatClampNeg), .int (xs (i + 2).toNatClampNeg), .int (xs (i + 3).toNatClampNeg)]) (rest := []) ⟨hx, hb, hml, hown, hts⟩ (s_X7_layers l dC dI cs L K G Q hQ x0 m0 tx (tm, B) H.size I1 J1 hI m0 hm0 hI.2.1.2 (xs (i + 1).toNatClampNeg) (xs (i + 2).toNatClampNeg) (xs (i + 3).toNatClampNeg)) (cwV 3 hts (gV pq1345 pq1346 pq1347 pq81 pq1348) rfl rfl rfl (by decide +kernel) ⟨(Nat.le_of_ble_eq_true rfl), (Nat.le_of_ble_eq_true rfl)⟩) (sP_V hP hD hK hN hm0 hI.2.1.2 rfl rfl) rfl rfl hl.1 rfl (lv_room (Nat.le_of_ble_eq_true rfl)) dL_law_455 ⟨(show (nc + 29) + 0 ≤ room_1.cells from (show (nc + 29) + 0 ≤ 600000 from by omega)), (show (ns + 807) + 0 ≤ room_1.slots from (show (ns + 807) + 0 ≤ 7302249 from by omega))⟩) hS hAL hA (fun r2 I2 J2 H lo hr2 hI2 hP hS => ?_)
  obtain ⟨hIn2, dnc2, jz2, dj2⟩ := hI2
  have hk2 := hr2 σ hM
  have hM := jz2 σ hM
  have hC := cxA_w hQ hx0 hI.2.1.1 hC dnc2 (fun b hb => dj2 b (by omega))
  have hIold := hI
  have hI := hIn2
  have heq : r1 = r2 := Int32.toInt_inj.mp (hk1.trans hk2.symm)
  refine lv_pop hx hb dL_law_458 rfl ?_
  refine lv_goto (tgt := 1947) hx hb dL_law_459 (by decide) ?_
  exact kk _ _ _ _ _ _ ⟨L, K, G, Q, I2, J2, tx, tm, B, _, hQ, hI, hx0, hm0, by omega, hT, hC, hM, hD, hAL, hP, hS, hl, hd0, by omega, by omega⟩

set_option maxHeartbeats 4000000 in
set_option maxRecDepth 100000 in
theorem s_lwcase6 {p : Program} {e : Env} {s : State} {m : MethodId} {below : List Frame} {meth : Method} {c : Code} (l : Launch) {b Ln : Nat} {xs : Nat → Int32} {dC : Nat → ClassId} {dI : Nat → Nat → Nat} {cs : Nat → ClassId} {x0 m0 : Nat} (C0 : lw_At p s m meth c b Ln xs) (hLn : Ln ≤ 3072) (hK : va_K (dC, dI) vwCl (tysA cs) s) (hXs : xS (fun q : Nat => s.heap.size ≤ q) s s.heap) (i : Int32) (n : Nat) (hn : n < 512) (hi : i.toInt = 6 * (n : Int)) (hiL : i.toInt + 5 < (Ln : Int)) {d0 : Drawn} {H : Heap} {lo : List Loc} {ls : Array Slot} {nc ns : Nat} (h : lwI dC dI cs x0 m0 b s i n d0 H lo ls nc ns) (kk : ∀ (d0 : Drawn) (H : Heap) (lo : List Loc) (ls : Array Slot) (nc ns : Nat), lwI dC dI cs x0 m0 b s i (n + 1) d0 H lo ls nc ns → W p l e room_1 (s.setDrawn d0) m #[Value.ref b] below meth c H lo nc ns (lw_Z below #[Value.ref b] s) (F0 m 1947 ls [])) : W p l e room_1 (s.setDrawn d0) m #[Value.ref b] below meth c H lo nc ns (lw_Z below #[Value.ref b] s) (F0 m 462 ls []) := by
  obtain ⟨hx, hb, hr, hml, hown, htl, hX, hbl, hlocks, hgv⟩ := id C0
  have hb : c.code = cL_law := hb
  have hown : s.vm.findClass RL = some m.cls := hown
  have hts0 : ∀ w ∈ pw, w.before #[Value.ref b] s = true := fun w h => htl w (pw_tbl h)
  have hts := dr_words hts0 d0
  have hN : xN s := xN_of htl
  have hA : ∀ q : Nat, s.heap.size ≤ q → (fun q : Nat => s.heap.size ≤ q) q := fun _ h => h
  have hbA : ¬ (fun q : Nat => s.heap.size ≤ q) b := Nat.not_le.mpr hbl
  obtain ⟨L, K, G, Q, I, J, tx, tm, B, σ, hQ, hI, hx0, hm0, hB, hT, hC, hM, hD, hAL, hP, hS, hl, hd0, hnc, hns⟩ := h
  have hi0 : 0 ≤ i.toInt := by omega
  have hok : okF σ.1 := hC.1.1.1
  refine lv_aload_n hx hb dL_law_462 rfl (lv_at hl 2 rfl) ?_
  refine lv_aload_n hx hb dL_law_463 rfl (lv_at hl 3 rfl) ?_
  refine lv_iload_n hx hb dL_law_464 rfl (lv_at hl 0 rfl) ?_
  refine lv_iconst (v := 1) hx hb dL_law_465 (by decide +kernel) ?_
  refine lv_iadd hx hb dL_law_466 ?_
  refine va_sld (s := s.setDrawn d0) hx hb hX hbl hbA hS (lw_in (j := (1 : Int32)) (J := 1) (by decide +kernel) (by decide) (by decide) hi0 hiL hLn) dL_law_467 ?_
  refine lv_aload_n hx hb dL_law_468 rfl (lv_at hl 3 rfl) ?_
  refine lv_iload_n hx hb dL_law_469 rfl (lv_at hl 0 rfl) ?_
  refine lv_iconst (v := 2) hx hb dL_law_470 (by decide +kernel) ?_
  refine lv_iadd hx hb dL_law_471 ?_
  refine va_sld (s := s.setDrawn d0) hx hb hX hbl hbA hS (lw_in (j := (2 : Int32)) (J := 2) (by decide +kernel) (by decide) (by decide) hi0 hiL hLn) dL_law_472 ?_
  refine lv_aload_n hx hb dL_law_473 rfl (lv_at hl 3 rfl) ?_
  refine lv_iload_n hx hb dL_law_474 rfl (lv_at hl 0 rfl) ?_
  refine lv_iconst (v := 3) hx hb dL_law_475 (by decide +kernel) ?_
  refine lv_iadd hx hb dL_law_476 ?_
  refine va_sld (s := s.setDrawn d0) hx hb hX hbl hbA hS (lw_in (j := (3 : Int32)) (J := 3) (by decide +kernel) (by decide) (by decide) hi0 hiL hLn) dL_law_477 ?_
  have hQo := hQ
  have hx0o := hx0
  have hm0o := hm0
  have hIo := hI
  refine sa_i (va_runV (As := [.int (xs (i + 1).toNatClampNeg), .int (xs (i + 2).toNatClampNeg), .int (xs (i + 3).toNatClampNeg)]) (rest := []) ⟨hx, hb, hml, hown, hts⟩ (s_X6_speed l dC dI cs L K G Q hQ x0 m0 tx (tm, B) hx0 hm0 H.size I J hI x0 hx0 hI.2.1.1 (xs (i + 1).toNatClampNeg) (xs (i + 2).toNatClampNeg) (xs (i + 3).toNatClampNeg)) (cwV 3 hts (gV pq658 pq659 pq660 pq74 pq661) rfl rfl rfl (by decide +kernel) ⟨(Nat.le_of_ble_eq_true rfl), (Nat.le_of_ble_eq_true rfl)⟩) (sP_V hP hD hK hN hx0 hI.2.1.1 rfl rfl) rfl rfl hl.1 rfl (lv_room (Nat.le_of_ble_eq_true rfl)) dL_law_478 ⟨(show nc + 29 ≤ room_1.cells from (show nc + 29 ≤ 600000 from by omega)), (show ns + 807 ≤ room_1.slots from (show ns + 807 ≤ 7302249 from by omega))⟩) hS hAL hA (fun r1 L K G Q I1 J1 H lo hr1 hE hQ hI hD hAL hP hz1 hS => ?_)
  have hx0 := (hE x0 hx0).1
  have hm0 := (hE m0 hm0).1
  obtain ⟨rz1, dnc1, dj1⟩ := hz1
  have hk1 := hr1 σ hC
  have hC := rz1 σ hC
  have hM := cmA_al hQo hm0o hIo.2.1.2 hE hM dnc1 (fun b hl hb => dj1 b hl (by omega))
  refine lv_pop hx hb dL_law_481 rfl ?_
  refine lv_aload_n hx hb dL_law_482 rfl (lv_at hl 1 rfl) ?_
  refine lv_aload_n hx hb dL_law_483 rfl (lv_at hl 3 rfl) ?_
  refine lv_iload_n hx hb dL_law_484 rfl (lv_at hl 0 rfl) ?_
  refine lv_iconst (v := 1) hx hb dL_law_485 (by decide +kernel) ?_
  refine lv_iadd hx hb dL_law_486 ?_
  refine va_sld (s := s.setDrawn d0) hx hb hX hbl hbA hS (lw_in (j := (1 : Int32)) (J := 1) (by decide +kernel) (by decide) (by decide) hi0 hiL hLn) dL_law_487 ?_
  refine lv_aload_n hx hb dL_law_488 rfl (lv_at hl 3 rfl) ?_
  refine lv_iload_n hx hb dL_law_489 rfl (lv_at hl 0 rfl) ?_
  refine lv_iconst (v := 2) hx hb dL_law_490 (by decide +kernel) ?_
  refine lv_iadd hx hb dL_law_491 ?_
  refine va_sld (s := s.setDrawn d0) hx hb hX hbl hbA hS (lw_in (j := (2 : Int32)) (J := 2) (by decide +kernel) (by decide) (by decide) hi0 hiL hLn) dL_law_492 ?_
  refine lv_aload_n hx hb dL_law_493 rfl (lv_at hl 3 rfl) ?_
  refine lv_iload_n hx hb dL_law_494 rfl (lv_at hl 0 rfl) ?_
  refine lv_iconst (v := 3) hx hb dL_law_495 (by decide +kernel) ?_
  refine lv_iadd hx hb dL_law_496 ?_
  refine va_sld (s := s.setDrawn d0) hx hb hX hbl hbA hS (lw_in (j := (3 : Int32)) (J := 3) (by decide +kernel) (by decide) (by decide) hi0 hiL hLn) dL_law_497 ?_
  refine sw_i (va_runV (As := [.int (xs (i + 1).toNatClampNeg), .int (xs (i + 2).toNatClampNeg), .int (xs (i + 3).toNatClampNeg)]) (rest := []) ⟨hx, hb, hml, hown, hts⟩ (s_X7_speed l dC dI cs L K G Q hQ x0 m0 tx (tm, B) H.size I1 J1 hI m0 hm0 hI.2.1.2 (xs (i + 1).toNatClampNeg) (xs (i + 2).toNatClampNeg) (xs (i + 3).toNatClampNeg)) (cwV 3 hts (gV pq1354 pq1355 pq1356 pq81 pq1357) rfl rfl rfl (by decide +kernel) ⟨(Nat.le_of_ble_eq_true rfl), (Nat.le_of_ble_eq_true rfl)⟩) (sP_V hP hD hK hN hm0 hI.2.1.2 rfl rfl) rfl rfl hl.1 rfl (lv_room (Nat.le_of_ble_eq_true rfl)) dL_law_498 ⟨(show (nc + 29) + 0 ≤ room_1.cells from (show (nc + 29) + 0 ≤ 600000 from by omega)), (show (ns + 807) + 0 ≤ room_1.slots from (show (ns + 807) + 0 ≤ 7302249 from by omega))⟩) hS hAL hA (fun r2 I2 J2 H lo hr2 hI2 hP hS => ?_)
  obtain ⟨hIn2, dnc2, jz2, dj2⟩ := hI2
  have hk2 := hr2 σ hM
  have hM := jz2 σ hM
  have hC := cxA_w hQ hx0 hI.2.1.1 hC dnc2 (fun b hb => dj2 b (by omega))
  have hIold := hI
  have hI := hIn2
  have heq : r1 = r2 := Int32.toInt_inj.mp (hk1.trans hk2.symm)
  refine lv_pop hx hb dL_law_501 rfl ?_
  refine lv_goto (tgt := 1947) hx hb dL_law_502 (by decide) ?_
  exact kk _ _ _ _ _ _ ⟨L, K, G, Q, I2, J2, tx, tm, B, _, hQ, hI, hx0, hm0, by omega, hT, hC, hM, hD, hAL, hP, hS, hl, hd0, by omega, by omega⟩

set_option maxHeartbeats 4000000 in
set_option maxRecDepth 100000 in
theorem s_lwcase7 {p : Program} {e : Env} {s : State} {m : MethodId} {below : List Frame} {meth : Method} {c : Code} (l : Launch) {b Ln : Nat} {xs : Nat → Int32} {dC : Nat → ClassId} {dI : Nat → Nat → Nat} {cs : Nat → ClassId} {x0 m0 : Nat} (C0 : lw_At p s m meth c b Ln xs) (hLn : Ln ≤ 3072) (hK : va_K (dC, dI) vwCl (tysA cs) s) (hXs : xS (fun q : Nat => s.heap.size ≤ q) s s.heap) (i : Int32) (n : Nat) (hn : n < 512) (hi : i.toInt = 6 * (n : Int)) (hiL : i.toInt + 5 < (Ln : Int)) {d0 : Drawn} {H : Heap} {lo : List Loc} {ls : Array Slot} {nc ns : Nat} (h : lwI dC dI cs x0 m0 b s i n d0 H lo ls nc ns) (kk : ∀ (d0 : Drawn) (H : Heap) (lo : List Loc) (ls : Array Slot) (nc ns : Nat), lwI dC dI cs x0 m0 b s i (n + 1) d0 H lo ls nc ns → W p l e room_1 (s.setDrawn d0) m #[Value.ref b] below meth c H lo nc ns (lw_Z below #[Value.ref b] s) (F0 m 1947 ls [])) : W p l e room_1 (s.setDrawn d0) m #[Value.ref b] below meth c H lo nc ns (lw_Z below #[Value.ref b] s) (F0 m 505 ls []) := by
  obtain ⟨hx, hb, hr, hml, hown, htl, hX, hbl, hlocks, hgv⟩ := id C0
  have hb : c.code = cL_law := hb
  have hown : s.vm.findClass RL = some m.cls := hown
  have hts0 : ∀ w ∈ pw, w.before #[Value.ref b] s = true := fun w h => htl w (pw_tbl h)
  have hts := dr_words hts0 d0
  have hN : xN s := xN_of htl
  have hA : ∀ q : Nat, s.heap.size ≤ q → (fun q : Nat => s.heap.size ≤ q) q := fun _ h => h
  have hbA : ¬ (fun q : Nat => s.heap.size ≤ q) b := Nat.not_le.mpr hbl
  obtain ⟨L, K, G, Q, I, J, tx, tm, B, σ, hQ, hI, hx0, hm0, hB, hT, hC, hM, hD, hAL, hP, hS, hl, hd0, hnc, hns⟩ := h
  have hi0 : 0 ≤ i.toInt := by omega
  have hok : okF σ.1 := hC.1.1.1
  refine lv_aload_n hx hb dL_law_505 rfl (lv_at hl 2 rfl) ?_
  refine lv_aload_n hx hb dL_law_506 rfl (lv_at hl 3 rfl) ?_
  refine lv_iload_n hx hb dL_law_507 rfl (lv_at hl 0 rfl) ?_
  refine lv_iconst (v := 1) hx hb dL_law_508 (by decide +kernel) ?_
  refine lv_iadd hx hb dL_law_509 ?_
  refine va_sld (s := s.setDrawn d0) hx hb hX hbl hbA hS (lw_in (j := (1 : Int32)) (J := 1) (by decide +kernel) (by decide) (by decide) hi0 hiL hLn) dL_law_510 ?_
  refine lv_aload_n hx hb dL_law_511 rfl (lv_at hl 3 rfl) ?_
  refine lv_iload_n hx hb dL_law_512 rfl (lv_at hl 0 rfl) ?_
  refine lv_iconst (v := 2) hx hb dL_law_513 (by decide +kernel) ?_
  refine lv_iadd hx hb dL_law_514 ?_
  refine va_sld (s := s.setDrawn d0) hx hb hX hbl hbA hS (lw_in (j := (2 : Int32)) (J := 2) (by decide +kernel) (by decide) (by decide) hi0 hiL hLn) dL_law_515 ?_
  refine lv_aload_n hx hb dL_law_516 rfl (lv_at hl 3 rfl) ?_
  refine lv_iload_n hx hb dL_law_517 rfl (lv_at hl 0 rfl) ?_
  refine lv_iconst (v := 3) hx hb dL_law_518 (by decide +kernel) ?_
  refine lv_iadd hx hb dL_law_519 ?_
  refine va_sld (s := s.setDrawn d0) hx hb hX hbl hbA hS (lw_in (j := (3 : Int32)) (J := 3) (by decide +kernel) (by decide) (by decide) hi0 hiL hLn) dL_law_520 ?_
  have hQo := hQ
  have hx0o := hx0
  have hm0o := hm0
  have hIo := hI
  refine sa_i (va_runV (As := [.int (xs (i + 1).toNatClampNeg), .int (xs (i + 2).toNatClampNeg), .int (xs (i + 3).toNatClampNeg)]) (rest := []) ⟨hx, hb, hml, hown, hts⟩ (s_X6_turn l dC dI cs L K G Q hQ x0 m0 tx (tm, B) hx0 hm0 H.size I J hI x0 hx0 hI.2.1.1 (xs (i + 1).toNatClampNeg) (xs (i + 2).toNatClampNeg) (xs (i + 3).toNatClampNeg)) (cwV 3 hts (gV pq662 pq663 pq664 pq74 pq665) rfl rfl rfl (by decide +kernel) ⟨(Nat.le_of_ble_eq_true rfl), (Nat.le_of_ble_eq_true rfl)⟩) (sP_V hP hD hK hN hx0 hI.2.1.1 rfl rfl) rfl rfl hl.1 rfl (lv_room (Nat.le_of_ble_eq_true rfl)) dL_law_521 ⟨(show nc + 29 ≤ room_1.cells from (show nc + 29 ≤ 600000 from by omega)), (show ns + 807 ≤ room_1.slots from (show ns + 807 ≤ 7302249 from by omega))⟩) hS hAL hA (fun r1 L K G Q I1 J1 H lo hr1 hE hQ hI hD hAL hP hz1 hS => ?_)
  have hx0 := (hE x0 hx0).1
  have hm0 := (hE m0 hm0).1
  obtain ⟨rz1, dnc1, dj1⟩ := hz1
  have hk1 := hr1 σ hC
  have hC := rz1 σ hC
  have hM := cmA_al hQo hm0o hIo.2.1.2 hE hM dnc1 (fun b hl hb => dj1 b hl (by omega))
  refine lv_pop hx hb dL_law_524 rfl ?_
  refine lv_aload_n hx hb dL_law_525 rfl (lv_at hl 1 rfl) ?_
  refine lv_aload_n hx hb dL_law_526 rfl (lv_at hl 3 rfl) ?_
  refine lv_iload_n hx hb dL_law_527 rfl (lv_at hl 0 rfl) ?_
  refine lv_iconst (v := 1) hx hb dL_law_528 (by decide +kernel) ?_
  refine lv_iadd hx hb dL_law_529 ?_
  refine va_sld (s := s.setDrawn d0) hx hb hX hbl hbA hS (lw_in (j := (1 : Int32)) (J := 1) (by decide +kernel) (by decide) (by decide) hi0 hiL hLn) dL_law_530 ?_
  refine lv_aload_n hx hb dL_law_531 rfl (lv_at hl 3 rfl) ?_
  refine lv_iload_n hx hb dL_law_532 rfl (lv_at hl 0 rfl) ?_
  refine lv_iconst (v := 2) hx hb dL_law_533 (by decide +kernel) ?_
  refine lv_iadd hx hb dL_law_534 ?_
  refine va_sld (s := s.setDrawn d0) hx hb hX hbl hbA hS (lw_in (j := (2 : Int32)) (J := 2) (by decide +kernel) (by decide) (by decide) hi0 hiL hLn) dL_law_535 ?_
  refine lv_aload_n hx hb dL_law_536 rfl (lv_at hl 3 rfl) ?_
  refine lv_iload_n hx hb dL_law_537 rfl (lv_at hl 0 rfl) ?_
  refine lv_iconst (v := 3) hx hb dL_law_538 (by decide +kernel) ?_
  refine lv_iadd hx hb dL_law_539 ?_
  refine va_sld (s := s.setDrawn d0) hx hb hX hbl hbA hS (lw_in (j := (3 : Int32)) (J := 3) (by decide +kernel) (by decide) (by decide) hi0 hiL hLn) dL_law_540 ?_
  refine sw_i (va_runV (As := [.int (xs (i + 1).toNatClampNeg), .int (xs (i + 2).toNatClampNeg), .int (xs (i + 3).toNatClampNeg)]) (rest := []) ⟨hx, hb, hml, hown, hts⟩ (s_X7_turn l dC dI cs L K G Q hQ x0 m0 tx (tm, B) H.size I1 J1 hI m0 hm0 hI.2.1.2 (xs (i + 1).toNatClampNeg) (xs (i + 2).toNatClampNeg) (xs (i + 3).toNatClampNeg)) (cwV 3 hts (gV pq1360 pq1361 pq1362 pq81 pq1363) rfl rfl rfl (by decide +kernel) ⟨(Nat.le_of_ble_eq_true rfl), (Nat.le_of_ble_eq_true rfl)⟩) (sP_V hP hD hK hN hm0 hI.2.1.2 rfl rfl) rfl rfl hl.1 rfl (lv_room (Nat.le_of_ble_eq_true rfl)) dL_law_541 ⟨(show (nc + 29) + 0 ≤ room_1.cells from (show (nc + 29) + 0 ≤ 600000 from by omega)), (show (ns + 807) + 0 ≤ room_1.slots from (show (ns + 807) + 0 ≤ 7302249 from by omega))⟩) hS hAL hA (fun r2 I2 J2 H lo hr2 hI2 hP hS => ?_)
  obtain ⟨hIn2, dnc2, jz2, dj2⟩ := hI2
  have hk2 := hr2 σ hok hM
  have hM := jz2 σ hok hM
  have hC := cxA_w hQ hx0 hI.2.1.1 hC dnc2 (fun b hb => dj2 b (by omega))
  have hIold := hI
  have hI := hIn2
  have heq : r1 = r2 := Int32.toInt_inj.mp (hk1.trans hk2.symm)
  refine lv_pop hx hb dL_law_544 rfl ?_
  refine lv_goto (tgt := 1947) hx hb dL_law_545 (by decide) ?_
  exact kk _ _ _ _ _ _ ⟨L, K, G, Q, I2, J2, tx, tm, B, _, hQ, hI, hx0, hm0, by omega, hT, hC, hM, hD, hAL, hP, hS, hl, hd0, by omega, by omega⟩

set_option maxHeartbeats 4000000 in
set_option maxRecDepth 100000 in
theorem s_lwcase8 {p : Program} {e : Env} {s : State} {m : MethodId} {below : List Frame} {meth : Method} {c : Code} (l : Launch) {b Ln : Nat} {xs : Nat → Int32} {dC : Nat → ClassId} {dI : Nat → Nat → Nat} {cs : Nat → ClassId} {x0 m0 : Nat} (C0 : lw_At p s m meth c b Ln xs) (hLn : Ln ≤ 3072) (hK : va_K (dC, dI) vwCl (tysA cs) s) (hXs : xS (fun q : Nat => s.heap.size ≤ q) s s.heap) (i : Int32) (n : Nat) (hn : n < 512) (hi : i.toInt = 6 * (n : Int)) (hiL : i.toInt + 5 < (Ln : Int)) {d0 : Drawn} {H : Heap} {lo : List Loc} {ls : Array Slot} {nc ns : Nat} (h : lwI dC dI cs x0 m0 b s i n d0 H lo ls nc ns) (kk : ∀ (d0 : Drawn) (H : Heap) (lo : List Loc) (ls : Array Slot) (nc ns : Nat), lwI dC dI cs x0 m0 b s i (n + 1) d0 H lo ls nc ns → W p l e room_1 (s.setDrawn d0) m #[Value.ref b] below meth c H lo nc ns (lw_Z below #[Value.ref b] s) (F0 m 1947 ls [])) : W p l e room_1 (s.setDrawn d0) m #[Value.ref b] below meth c H lo nc ns (lw_Z below #[Value.ref b] s) (F0 m 548 ls []) := by
  obtain ⟨hx, hb, hr, hml, hown, htl, hX, hbl, hlocks, hgv⟩ := id C0
  have hb : c.code = cL_law := hb
  have hown : s.vm.findClass RL = some m.cls := hown
  have hts0 : ∀ w ∈ pw, w.before #[Value.ref b] s = true := fun w h => htl w (pw_tbl h)
  have hts := dr_words hts0 d0
  have hN : xN s := xN_of htl
  have hA : ∀ q : Nat, s.heap.size ≤ q → (fun q : Nat => s.heap.size ≤ q) q := fun _ h => h
  have hbA : ¬ (fun q : Nat => s.heap.size ≤ q) b := Nat.not_le.mpr hbl
  obtain ⟨L, K, G, Q, I, J, tx, tm, B, σ, hQ, hI, hx0, hm0, hB, hT, hC, hM, hD, hAL, hP, hS, hl, hd0, hnc, hns⟩ := h
  have hi0 : 0 ≤ i.toInt := by omega
  have hok : okF σ.1 := hC.1.1.1
  refine lv_aload_n hx hb dL_law_548 rfl (lv_at hl 2 rfl) ?_
  refine lv_aload_n hx hb dL_law_549 rfl (lv_at hl 3 rfl) ?_
  refine lv_iload_n hx hb dL_law_550 rfl (lv_at hl 0 rfl) ?_
  refine lv_iconst (v := 1) hx hb dL_law_551 (by decide +kernel) ?_
  refine lv_iadd hx hb dL_law_552 ?_
  refine va_sld (s := s.setDrawn d0) hx hb hX hbl hbA hS (lw_in (j := (1 : Int32)) (J := 1) (by decide +kernel) (by decide) (by decide) hi0 hiL hLn) dL_law_553 ?_
  have hQo := hQ
  have hx0o := hx0
  have hm0o := hm0
  have hIo := hI
  refine sa_i (va_runV (As := [.int (xs (i + 1).toNatClampNeg)]) (rest := []) ⟨hx, hb, hml, hown, hts⟩ (s_X6_grow l dC dI cs L K G Q hQ x0 m0 tx (tm, B) hx0 hm0 H.size I J hI x0 hx0 hI.2.1.1 (xs (i + 1).toNatClampNeg)) (cwV 1 hts (gV pq677 pq678 pq679 pq74 pq680) rfl rfl rfl (by decide +kernel) ⟨(Nat.le_of_ble_eq_true rfl), (Nat.le_of_ble_eq_true rfl)⟩) (sP_V hP hD hK hN hx0 hI.2.1.1 rfl rfl) rfl rfl hl.1 rfl (lv_room (Nat.le_of_ble_eq_true rfl)) dL_law_554 ⟨(show nc + 29 ≤ room_1.cells from (show nc + 29 ≤ 600000 from by omega)), (show ns + 807 ≤ room_1.slots from (show ns + 807 ≤ 7302249 from by omega))⟩) hS hAL hA (fun r1 L K G Q I1 J1 H lo hr1 hE hQ hI hD hAL hP hz1 hS => ?_)
  have hx0 := (hE x0 hx0).1
  have hm0 := (hE m0 hm0).1
  obtain ⟨rz1, dnc1, dj1⟩ := hz1
  have hk1 := hr1 σ hC
  have hC := rz1 σ hC
  have hM := cmA_al hQo hm0o hIo.2.1.2 hE hM dnc1 (fun b hl hb => dj1 b hl (by omega))
  refine lv_pop hx hb dL_law_557 rfl ?_
  refine lv_aload_n hx hb dL_law_558 rfl (lv_at hl 1 rfl) ?_
  refine lv_aload_n hx hb dL_law_559 rfl (lv_at hl 3 rfl) ?_
  refine lv_iload_n hx hb dL_law_560 rfl (lv_at hl 0 rfl) ?_
  refine lv_iconst (v := 1) hx hb dL_law_561 (by decide +kernel) ?_
  refine lv_iadd hx hb dL_law_562 ?_
  refine va_sld (s := s.setDrawn d0) hx hb hX hbl hbA hS (lw_in (j := (1 : Int32)) (J := 1) (by decide +kernel) (by decide) (by decide) hi0 hiL hLn) dL_law_563 ?_
  refine sw_i (va_runV (As := [.int (xs (i + 1).toNatClampNeg)]) (rest := []) ⟨hx, hb, hml, hown, hts⟩ (s_X7_grow l dC dI cs L K G Q hQ x0 m0 tx (tm, B) H.size I1 J1 hI m0 hm0 hI.2.1.2 (xs (i + 1).toNatClampNeg)) (cwV 1 hts (gV pq1383 pq1384 pq1385 pq81 pq1386) rfl rfl rfl (by decide +kernel) ⟨(Nat.le_of_ble_eq_true rfl), (Nat.le_of_ble_eq_true rfl)⟩) (sP_V hP hD hK hN hm0 hI.2.1.2 rfl rfl) rfl rfl hl.1 rfl (lv_room (Nat.le_of_ble_eq_true rfl)) dL_law_564 ⟨(show (nc + 29) + 0 ≤ room_1.cells from (show (nc + 29) + 0 ≤ 600000 from by omega)), (show (ns + 807) + 0 ≤ room_1.slots from (show (ns + 807) + 0 ≤ 7302249 from by omega))⟩) hS hAL hA (fun r2 I2 J2 H lo hr2 hI2 hP hS => ?_)
  obtain ⟨hIn2, dnc2, jz2, dj2⟩ := hI2
  have hk2 := hr2 σ hok hM
  have hM := jz2 σ hok hM
  have hC := cxA_w hQ hx0 hI.2.1.1 hC dnc2 (fun b hb => dj2 b (by omega))
  have hIold := hI
  have hI := hIn2
  have heq : r1 = r2 := Int32.toInt_inj.mp (hk1.trans hk2.symm)
  refine lv_pop hx hb dL_law_567 rfl ?_
  refine lv_goto (tgt := 1947) hx hb dL_law_568 (by decide) ?_
  exact kk _ _ _ _ _ _ ⟨L, K, G, Q, I2, J2, tx, tm, B, _, hQ, hI, hx0, hm0, by omega, hT, hC, hM, hD, hAL, hP, hS, hl, hd0, by omega, by omega⟩

set_option maxHeartbeats 4000000 in
set_option maxRecDepth 100000 in
theorem s_lwcase9 {p : Program} {e : Env} {s : State} {m : MethodId} {below : List Frame} {meth : Method} {c : Code} (l : Launch) {b Ln : Nat} {xs : Nat → Int32} {dC : Nat → ClassId} {dI : Nat → Nat → Nat} {cs : Nat → ClassId} {x0 m0 : Nat} (C0 : lw_At p s m meth c b Ln xs) (hLn : Ln ≤ 3072) (hK : va_K (dC, dI) vwCl (tysA cs) s) (hXs : xS (fun q : Nat => s.heap.size ≤ q) s s.heap) (i : Int32) (n : Nat) (hn : n < 512) (hi : i.toInt = 6 * (n : Int)) (hiL : i.toInt + 5 < (Ln : Int)) {d0 : Drawn} {H : Heap} {lo : List Loc} {ls : Array Slot} {nc ns : Nat} (h : lwI dC dI cs x0 m0 b s i n d0 H lo ls nc ns) (kk : ∀ (d0 : Drawn) (H : Heap) (lo : List Loc) (ls : Array Slot) (nc ns : Nat), lwI dC dI cs x0 m0 b s i (n + 1) d0 H lo ls nc ns → W p l e room_1 (s.setDrawn d0) m #[Value.ref b] below meth c H lo nc ns (lw_Z below #[Value.ref b] s) (F0 m 1947 ls [])) : W p l e room_1 (s.setDrawn d0) m #[Value.ref b] below meth c H lo nc ns (lw_Z below #[Value.ref b] s) (F0 m 571 ls []) := by
  obtain ⟨hx, hb, hr, hml, hown, htl, hX, hbl, hlocks, hgv⟩ := id C0
  have hb : c.code = cL_law := hb
  have hown : s.vm.findClass RL = some m.cls := hown
  have hts0 : ∀ w ∈ pw, w.before #[Value.ref b] s = true := fun w h => htl w (pw_tbl h)
  have hts := dr_words hts0 d0
  have hN : xN s := xN_of htl
  have hA : ∀ q : Nat, s.heap.size ≤ q → (fun q : Nat => s.heap.size ≤ q) q := fun _ h => h
  have hbA : ¬ (fun q : Nat => s.heap.size ≤ q) b := Nat.not_le.mpr hbl
  obtain ⟨L, K, G, Q, I, J, tx, tm, B, σ, hQ, hI, hx0, hm0, hB, hT, hC, hM, hD, hAL, hP, hS, hl, hd0, hnc, hns⟩ := h
  have hi0 : 0 ≤ i.toInt := by omega
  have hok : okF σ.1 := hC.1.1.1
  refine lv_aload_n hx hb dL_law_571 rfl (lv_at hl 2 rfl) ?_
  refine lv_aload_n hx hb dL_law_572 rfl (lv_at hl 3 rfl) ?_
  refine lv_iload_n hx hb dL_law_573 rfl (lv_at hl 0 rfl) ?_
  refine lv_iconst (v := 1) hx hb dL_law_574 (by decide +kernel) ?_
  refine lv_iadd hx hb dL_law_575 ?_
  refine va_sld (s := s.setDrawn d0) hx hb hX hbl hbA hS (lw_in (j := (1 : Int32)) (J := 1) (by decide +kernel) (by decide) (by decide) hi0 hiL hLn) dL_law_576 ?_
  have hQo := hQ
  have hx0o := hx0
  have hm0o := hm0
  have hIo := hI
  refine sa_i (va_runV (As := [.int (xs (i + 1).toNatClampNeg)]) (rest := []) ⟨hx, hb, hml, hown, hts⟩ (s_X6_thin l dC dI cs L K G Q hQ x0 m0 tx (tm, B) hx0 hm0 H.size I J hI x0 hx0 hI.2.1.1 (xs (i + 1).toNatClampNeg)) (cwV 1 hts (gV pq692 pq693 pq694 pq74 pq695) rfl rfl rfl (by decide +kernel) ⟨(Nat.le_of_ble_eq_true rfl), (Nat.le_of_ble_eq_true rfl)⟩) (sP_V hP hD hK hN hx0 hI.2.1.1 rfl rfl) rfl rfl hl.1 rfl (lv_room (Nat.le_of_ble_eq_true rfl)) dL_law_577 ⟨(show nc + 29 ≤ room_1.cells from (show nc + 29 ≤ 600000 from by omega)), (show ns + 807 ≤ room_1.slots from (show ns + 807 ≤ 7302249 from by omega))⟩) hS hAL hA (fun r1 L K G Q I1 J1 H lo hr1 hE hQ hI hD hAL hP hz1 hS => ?_)
  have hx0 := (hE x0 hx0).1
  have hm0 := (hE m0 hm0).1
  obtain ⟨rz1, dnc1, dj1⟩ := hz1
  have hk1 := hr1 σ hC
  have hC := rz1 σ hC
  have hM := cmA_al hQo hm0o hIo.2.1.2 hE hM dnc1 (fun b hl hb => dj1 b hl (by omega))
  refine lv_pop hx hb dL_law_580 rfl ?_
  refine lv_aload_n hx hb dL_law_581 rfl (lv_at hl 1 rfl) ?_
  refine lv_aload_n hx hb dL_law_582 rfl (lv_at hl 3 rfl) ?_
  refine lv_iload_n hx hb dL_law_583 rfl (lv_at hl 0 rfl) ?_
  refine lv_iconst (v := 1) hx hb dL_law_584 (by decide +kernel) ?_
  refine lv_iadd hx hb dL_law_585 ?_
  refine va_sld (s := s.setDrawn d0) hx hb hX hbl hbA hS (lw_in (j := (1 : Int32)) (J := 1) (by decide +kernel) (by decide) (by decide) hi0 hiL hLn) dL_law_586 ?_
  refine sw_i (va_runV (As := [.int (xs (i + 1).toNatClampNeg)]) (rest := []) ⟨hx, hb, hml, hown, hts⟩ (s_X7_thin l dC dI cs L K G Q hQ x0 m0 tx (tm, B) H.size I1 J1 hI m0 hm0 hI.2.1.2 (xs (i + 1).toNatClampNeg)) (cwV 1 hts (gV pq1403 pq1404 pq1405 pq81 pq1406) rfl rfl rfl (by decide +kernel) ⟨(Nat.le_of_ble_eq_true rfl), (Nat.le_of_ble_eq_true rfl)⟩) (sP_V hP hD hK hN hm0 hI.2.1.2 rfl rfl) rfl rfl hl.1 rfl (lv_room (Nat.le_of_ble_eq_true rfl)) dL_law_587 ⟨(show (nc + 29) + 0 ≤ room_1.cells from (show (nc + 29) + 0 ≤ 600000 from by omega)), (show (ns + 807) + 0 ≤ room_1.slots from (show (ns + 807) + 0 ≤ 7302249 from by omega))⟩) hS hAL hA (fun r2 I2 J2 H lo hr2 hI2 hP hS => ?_)
  obtain ⟨hIn2, dnc2, jz2, dj2⟩ := hI2
  have hk2 := hr2 σ hok hM
  have hM := jz2 σ hok hM
  have hC := cxA_w hQ hx0 hI.2.1.1 hC dnc2 (fun b hb => dj2 b (by omega))
  have hIold := hI
  have hI := hIn2
  have heq : r1 = r2 := Int32.toInt_inj.mp (hk1.trans hk2.symm)
  refine lv_pop hx hb dL_law_590 rfl ?_
  refine lv_goto (tgt := 1947) hx hb dL_law_591 (by decide) ?_
  exact kk _ _ _ _ _ _ ⟨L, K, G, Q, I2, J2, tx, tm, B, _, hQ, hI, hx0, hm0, by omega, hT, hC, hM, hD, hAL, hP, hS, hl, hd0, by omega, by omega⟩

set_option maxHeartbeats 4000000 in
set_option maxRecDepth 100000 in
theorem s_lwcase10 {p : Program} {e : Env} {s : State} {m : MethodId} {below : List Frame} {meth : Method} {c : Code} (l : Launch) {b Ln : Nat} {xs : Nat → Int32} {dC : Nat → ClassId} {dI : Nat → Nat → Nat} {cs : Nat → ClassId} {x0 m0 : Nat} (C0 : lw_At p s m meth c b Ln xs) (hLn : Ln ≤ 3072) (hK : va_K (dC, dI) vwCl (tysA cs) s) (hXs : xS (fun q : Nat => s.heap.size ≤ q) s s.heap) (i : Int32) (n : Nat) (hn : n < 512) (hi : i.toInt = 6 * (n : Int)) (hiL : i.toInt + 5 < (Ln : Int)) {d0 : Drawn} {H : Heap} {lo : List Loc} {ls : Array Slot} {nc ns : Nat} (h : lwI dC dI cs x0 m0 b s i n d0 H lo ls nc ns) (kk : ∀ (d0 : Drawn) (H : Heap) (lo : List Loc) (ls : Array Slot) (nc ns : Nat), lwI dC dI cs x0 m0 b s i (n + 1) d0 H lo ls nc ns → W p l e room_1 (s.setDrawn d0) m #[Value.ref b] below meth c H lo nc ns (lw_Z below #[Value.ref b] s) (F0 m 1947 ls [])) : W p l e room_1 (s.setDrawn d0) m #[Value.ref b] below meth c H lo nc ns (lw_Z below #[Value.ref b] s) (F0 m 594 ls []) := by
  obtain ⟨hx, hb, hr, hml, hown, htl, hX, hbl, hlocks, hgv⟩ := id C0
  have hb : c.code = cL_law := hb
  have hown : s.vm.findClass RL = some m.cls := hown
  have hts0 : ∀ w ∈ pw, w.before #[Value.ref b] s = true := fun w h => htl w (pw_tbl h)
  have hts := dr_words hts0 d0
  have hN : xN s := xN_of htl
  have hA : ∀ q : Nat, s.heap.size ≤ q → (fun q : Nat => s.heap.size ≤ q) q := fun _ h => h
  have hbA : ¬ (fun q : Nat => s.heap.size ≤ q) b := Nat.not_le.mpr hbl
  obtain ⟨L, K, G, Q, I, J, tx, tm, B, σ, hQ, hI, hx0, hm0, hB, hT, hC, hM, hD, hAL, hP, hS, hl, hd0, hnc, hns⟩ := h
  have hi0 : 0 ≤ i.toInt := by omega
  have hok : okF σ.1 := hC.1.1.1
  refine lv_aload_n hx hb dL_law_594 rfl (lv_at hl 2 rfl) ?_
  refine lv_aload_n hx hb dL_law_595 rfl (lv_at hl 3 rfl) ?_
  refine lv_iload_n hx hb dL_law_596 rfl (lv_at hl 0 rfl) ?_
  refine lv_iconst (v := 1) hx hb dL_law_597 (by decide +kernel) ?_
  refine lv_iadd hx hb dL_law_598 ?_
  refine va_sld (s := s.setDrawn d0) hx hb hX hbl hbA hS (lw_in (j := (1 : Int32)) (J := 1) (by decide +kernel) (by decide) (by decide) hi0 hiL hLn) dL_law_599 ?_
  refine lv_aload_n hx hb dL_law_600 rfl (lv_at hl 3 rfl) ?_
  refine lv_iload_n hx hb dL_law_601 rfl (lv_at hl 0 rfl) ?_
  refine lv_iconst (v := 2) hx hb dL_law_602 (by decide +kernel) ?_
  refine lv_iadd hx hb dL_law_603 ?_
  refine va_sld (s := s.setDrawn d0) hx hb hX hbl hbA hS (lw_in (j := (2 : Int32)) (J := 2) (by decide +kernel) (by decide) (by decide) hi0 hiL hLn) dL_law_604 ?_
  refine lv_aload_n hx hb dL_law_605 rfl (lv_at hl 3 rfl) ?_
  refine lv_iload_n hx hb dL_law_606 rfl (lv_at hl 0 rfl) ?_
  refine lv_iconst (v := 3) hx hb dL_law_607 (by decide +kernel) ?_
  refine lv_iadd hx hb dL_law_608 ?_
  refine va_sld (s := s.setDrawn d0) hx hb hX hbl hbA hS (lw_in (j := (3 : Int32)) (J := 3) (by decide +kernel) (by decide) (by decide) hi0 hiL hLn) dL_law_609 ?_
  refine lv_aload_n hx hb dL_law_610 rfl (lv_at hl 3 rfl) ?_
  refine lv_iload_n hx hb dL_law_611 rfl (lv_at hl 0 rfl) ?_
  refine lv_iconst (v := 4) hx hb dL_law_612 (by decide +kernel) ?_
  refine lv_iadd hx hb dL_law_613 ?_
  refine va_sld (s := s.setDrawn d0) hx hb hX hbl hbA hS (lw_in (j := (4 : Int32)) (J := 4) (by decide +kernel) (by decide) (by decide) hi0 hiL hLn) dL_law_614 ?_
  refine lv_aload_n hx hb dL_law_615 rfl (lv_at hl 3 rfl) ?_
  refine lv_iload_n hx hb dL_law_616 rfl (lv_at hl 0 rfl) ?_
  refine lv_iconst (v := 5) hx hb dL_law_617 (by decide +kernel) ?_
  refine lv_iadd hx hb dL_law_618 ?_
  refine va_sld (s := s.setDrawn d0) hx hb hX hbl hbA hS (lw_in (j := (5 : Int32)) (J := 5) (by decide +kernel) (by decide) (by decide) hi0 hiL hLn) dL_law_619 ?_
  have hQo := hQ
  have hx0o := hx0
  have hm0o := hm0
  have hIo := hI
  refine sa_i (va_runV (As := [.int (xs (i + 1).toNatClampNeg), .int (xs (i + 2).toNatClampNeg), .int (xs (i + 3).toNatClampNeg), .int (xs (i + 4).toNatClampNeg), .int (xs (i + 5).toNatClampNeg)]) (rest := []) ⟨hx, hb, hml, hown, hts⟩ (s_X6_join l dC dI cs L K G Q hQ x0 m0 tx (tm, B) hx0 hm0 H.size I J hI x0 hx0 hI.2.1.1 (xs (i + 1).toNatClampNeg) (xs (i + 2).toNatClampNeg) (xs (i + 3).toNatClampNeg) (xs (i + 4).toNatClampNeg) (xs (i + 5).toNatClampNeg)) (cwV 5 hts (gV pq700 pq701 pq702 pq74 pq703) rfl rfl rfl (by decide +kernel) ⟨(Nat.le_of_ble_eq_true rfl), (Nat.le_of_ble_eq_true rfl)⟩) (sP_V hP hD hK hN hx0 hI.2.1.1 rfl rfl) rfl rfl hl.1 rfl (lv_room (Nat.le_of_ble_eq_true rfl)) dL_law_620 ⟨(show nc + 29 ≤ room_1.cells from (show nc + 29 ≤ 600000 from by omega)), (show ns + 807 ≤ room_1.slots from (show ns + 807 ≤ 7302249 from by omega))⟩) hS hAL hA (fun r1 L K G Q I1 J1 H lo hr1 hE hQ hI hD hAL hP hz1 hS => ?_)
  have hx0 := (hE x0 hx0).1
  have hm0 := (hE m0 hm0).1
  obtain ⟨rz1, dnc1, dj1⟩ := hz1
  have hk1 := hr1 σ hC
  have hC := rz1 σ hC
  have hM := cmA_al hQo hm0o hIo.2.1.2 hE hM dnc1 (fun b hl hb => dj1 b hl (by omega))
  refine lv_pop hx hb dL_law_623 rfl ?_
  refine lv_aload_n hx hb dL_law_624 rfl (lv_at hl 1 rfl) ?_
  refine lv_aload_n hx hb dL_law_625 rfl (lv_at hl 3 rfl) ?_
  refine lv_iload_n hx hb dL_law_626 rfl (lv_at hl 0 rfl) ?_
  refine lv_iconst (v := 1) hx hb dL_law_627 (by decide +kernel) ?_
  refine lv_iadd hx hb dL_law_628 ?_
  refine va_sld (s := s.setDrawn d0) hx hb hX hbl hbA hS (lw_in (j := (1 : Int32)) (J := 1) (by decide +kernel) (by decide) (by decide) hi0 hiL hLn) dL_law_629 ?_
  refine lv_aload_n hx hb dL_law_630 rfl (lv_at hl 3 rfl) ?_
  refine lv_iload_n hx hb dL_law_631 rfl (lv_at hl 0 rfl) ?_
  refine lv_iconst (v := 2) hx hb dL_law_632 (by decide +kernel) ?_
  refine lv_iadd hx hb dL_law_633 ?_
  refine va_sld (s := s.setDrawn d0) hx hb hX hbl hbA hS (lw_in (j := (2 : Int32)) (J := 2) (by decide +kernel) (by decide) (by decide) hi0 hiL hLn) dL_law_634 ?_
  refine lv_aload_n hx hb dL_law_635 rfl (lv_at hl 3 rfl) ?_
  refine lv_iload_n hx hb dL_law_636 rfl (lv_at hl 0 rfl) ?_
  refine lv_iconst (v := 3) hx hb dL_law_637 (by decide +kernel) ?_
  refine lv_iadd hx hb dL_law_638 ?_
  refine va_sld (s := s.setDrawn d0) hx hb hX hbl hbA hS (lw_in (j := (3 : Int32)) (J := 3) (by decide +kernel) (by decide) (by decide) hi0 hiL hLn) dL_law_639 ?_
  refine lv_aload_n hx hb dL_law_640 rfl (lv_at hl 3 rfl) ?_
  refine lv_iload_n hx hb dL_law_641 rfl (lv_at hl 0 rfl) ?_
  refine lv_iconst (v := 4) hx hb dL_law_642 (by decide +kernel) ?_
  refine lv_iadd hx hb dL_law_643 ?_
  refine va_sld (s := s.setDrawn d0) hx hb hX hbl hbA hS (lw_in (j := (4 : Int32)) (J := 4) (by decide +kernel) (by decide) (by decide) hi0 hiL hLn) dL_law_644 ?_
  refine lv_aload_n hx hb dL_law_645 rfl (lv_at hl 3 rfl) ?_
  refine lv_iload_n hx hb dL_law_646 rfl (lv_at hl 0 rfl) ?_
  refine lv_iconst (v := 5) hx hb dL_law_647 (by decide +kernel) ?_
  refine lv_iadd hx hb dL_law_648 ?_
  refine va_sld (s := s.setDrawn d0) hx hb hX hbl hbA hS (lw_in (j := (5 : Int32)) (J := 5) (by decide +kernel) (by decide) (by decide) hi0 hiL hLn) dL_law_649 ?_
  refine sw_i (va_runV (As := [.int (xs (i + 1).toNatClampNeg), .int (xs (i + 2).toNatClampNeg), .int (xs (i + 3).toNatClampNeg), .int (xs (i + 4).toNatClampNeg), .int (xs (i + 5).toNatClampNeg)]) (rest := []) ⟨hx, hb, hml, hown, hts⟩ (s_X7_join l dC dI cs L K G Q hQ x0 m0 tx (tm, B) H.size I1 J1 hI m0 hm0 hI.2.1.2 (xs (i + 1).toNatClampNeg) (xs (i + 2).toNatClampNeg) (xs (i + 3).toNatClampNeg) (xs (i + 4).toNatClampNeg) (xs (i + 5).toNatClampNeg)) (cwV 5 hts (gV pq1407 pq1408 pq1409 pq81 pq1410) rfl rfl rfl (by decide +kernel) ⟨(Nat.le_of_ble_eq_true rfl), (Nat.le_of_ble_eq_true rfl)⟩) (sP_V hP hD hK hN hm0 hI.2.1.2 rfl rfl) rfl rfl hl.1 rfl (lv_room (Nat.le_of_ble_eq_true rfl)) dL_law_650 ⟨(show (nc + 29) + 0 ≤ room_1.cells from (show (nc + 29) + 0 ≤ 600000 from by omega)), (show (ns + 807) + 0 ≤ room_1.slots from (show (ns + 807) + 0 ≤ 7302249 from by omega))⟩) hS hAL hA (fun r2 I2 J2 H lo hr2 hI2 hP hS => ?_)
  obtain ⟨hIn2, dnc2, jz2, dj2⟩ := hI2
  have hk2 := hr2 σ hok hM
  have hM := jz2 σ hok hM
  have hC := cxA_w hQ hx0 hI.2.1.1 hC dnc2 (fun b hb => dj2 b (by omega))
  have hIold := hI
  have hI := hIn2
  have heq : r1 = r2 := Int32.toInt_inj.mp (hk1.trans hk2.symm)
  refine lv_pop hx hb dL_law_653 rfl ?_
  refine lv_goto (tgt := 1947) hx hb dL_law_654 (by decide) ?_
  exact kk _ _ _ _ _ _ ⟨L, K, G, Q, I2, J2, tx, tm, B, _, hQ, hI, hx0, hm0, by omega, hT, hC, hM, hD, hAL, hP, hS, hl, hd0, by omega, by omega⟩

set_option maxHeartbeats 4000000 in
set_option maxRecDepth 100000 in
theorem s_lwcase11 {p : Program} {e : Env} {s : State} {m : MethodId} {below : List Frame} {meth : Method} {c : Code} (l : Launch) {b Ln : Nat} {xs : Nat → Int32} {dC : Nat → ClassId} {dI : Nat → Nat → Nat} {cs : Nat → ClassId} {x0 m0 : Nat} (C0 : lw_At p s m meth c b Ln xs) (hLn : Ln ≤ 3072) (hK : va_K (dC, dI) vwCl (tysA cs) s) (hXs : xS (fun q : Nat => s.heap.size ≤ q) s s.heap) (i : Int32) (n : Nat) (hn : n < 512) (hi : i.toInt = 6 * (n : Int)) (hiL : i.toInt + 5 < (Ln : Int)) {d0 : Drawn} {H : Heap} {lo : List Loc} {ls : Array Slot} {nc ns : Nat} (h : lwI dC dI cs x0 m0 b s i n d0 H lo ls nc ns) (kk : ∀ (d0 : Drawn) (H : Heap) (lo : List Loc) (ls : Array Slot) (nc ns : Nat), lwI dC dI cs x0 m0 b s i (n + 1) d0 H lo ls nc ns → W p l e room_1 (s.setDrawn d0) m #[Value.ref b] below meth c H lo nc ns (lw_Z below #[Value.ref b] s) (F0 m 1947 ls [])) : W p l e room_1 (s.setDrawn d0) m #[Value.ref b] below meth c H lo nc ns (lw_Z below #[Value.ref b] s) (F0 m 657 ls []) := by
  obtain ⟨hx, hb, hr, hml, hown, htl, hX, hbl, hlocks, hgv⟩ := id C0
  have hb : c.code = cL_law := hb
  have hown : s.vm.findClass RL = some m.cls := hown
  have hts0 : ∀ w ∈ pw, w.before #[Value.ref b] s = true := fun w h => htl w (pw_tbl h)
  have hts := dr_words hts0 d0
  have hN : xN s := xN_of htl
  have hA : ∀ q : Nat, s.heap.size ≤ q → (fun q : Nat => s.heap.size ≤ q) q := fun _ h => h
  have hbA : ¬ (fun q : Nat => s.heap.size ≤ q) b := Nat.not_le.mpr hbl
  obtain ⟨L, K, G, Q, I, J, tx, tm, B, σ, hQ, hI, hx0, hm0, hB, hT, hC, hM, hD, hAL, hP, hS, hl, hd0, hnc, hns⟩ := h
  have hi0 : 0 ≤ i.toInt := by omega
  have hok : okF σ.1 := hC.1.1.1
  refine lv_aload_n hx hb dL_law_657 rfl (lv_at hl 2 rfl) ?_
  refine lv_aload_n hx hb dL_law_658 rfl (lv_at hl 3 rfl) ?_
  refine lv_iload_n hx hb dL_law_659 rfl (lv_at hl 0 rfl) ?_
  refine lv_iconst (v := 1) hx hb dL_law_660 (by decide +kernel) ?_
  refine lv_iadd hx hb dL_law_661 ?_
  refine va_sld (s := s.setDrawn d0) hx hb hX hbl hbA hS (lw_in (j := (1 : Int32)) (J := 1) (by decide +kernel) (by decide) (by decide) hi0 hiL hLn) dL_law_662 ?_
  refine lv_aload_n hx hb dL_law_663 rfl (lv_at hl 3 rfl) ?_
  refine lv_iload_n hx hb dL_law_664 rfl (lv_at hl 0 rfl) ?_
  refine lv_iconst (v := 2) hx hb dL_law_665 (by decide +kernel) ?_
  refine lv_iadd hx hb dL_law_666 ?_
  refine va_sld (s := s.setDrawn d0) hx hb hX hbl hbA hS (lw_in (j := (2 : Int32)) (J := 2) (by decide +kernel) (by decide) (by decide) hi0 hiL hLn) dL_law_667 ?_
  refine lv_aload_n hx hb dL_law_668 rfl (lv_at hl 3 rfl) ?_
  refine lv_iload_n hx hb dL_law_669 rfl (lv_at hl 0 rfl) ?_
  refine lv_iconst (v := 3) hx hb dL_law_670 (by decide +kernel) ?_
  refine lv_iadd hx hb dL_law_671 ?_
  refine va_sld (s := s.setDrawn d0) hx hb hX hbl hbA hS (lw_in (j := (3 : Int32)) (J := 3) (by decide +kernel) (by decide) (by decide) hi0 hiL hLn) dL_law_672 ?_
  have hQo := hQ
  have hx0o := hx0
  have hm0o := hm0
  have hIo := hI
  refine sa_i (va_runV (As := [.int (xs (i + 1).toNatClampNeg), .int (xs (i + 2).toNatClampNeg), .int (xs (i + 3).toNatClampNeg)]) (rest := []) ⟨hx, hb, hml, hown, hts⟩ (s_X6_slide l dC dI cs L K G Q hQ x0 m0 tx (tm, B) hx0 hm0 H.size I J hI x0 hx0 hI.2.1.1 (xs (i + 1).toNatClampNeg) (xs (i + 2).toNatClampNeg) (xs (i + 3).toNatClampNeg)) (cwV 3 hts (gV pq735 pq736 pq737 pq74 pq738) rfl rfl rfl (by decide +kernel) ⟨(Nat.le_of_ble_eq_true rfl), (Nat.le_of_ble_eq_true rfl)⟩) (sP_V hP hD hK hN hx0 hI.2.1.1 rfl rfl) rfl rfl hl.1 rfl (lv_room (Nat.le_of_ble_eq_true rfl)) dL_law_673 ⟨(show nc + 29 ≤ room_1.cells from (show nc + 29 ≤ 600000 from by omega)), (show ns + 807 ≤ room_1.slots from (show ns + 807 ≤ 7302249 from by omega))⟩) hS hAL hA (fun r1 L K G Q I1 J1 H lo hr1 hE hQ hI hD hAL hP hz1 hS => ?_)
  have hx0 := (hE x0 hx0).1
  have hm0 := (hE m0 hm0).1
  obtain ⟨rz1, dnc1, dj1⟩ := hz1
  have hk1 := hr1 σ hC
  have hC := rz1 σ hC
  have hM := cmA_al hQo hm0o hIo.2.1.2 hE hM dnc1 (fun b hl hb => dj1 b hl (by omega))
  refine lv_pop hx hb dL_law_676 rfl ?_
  refine lv_aload_n hx hb dL_law_677 rfl (lv_at hl 1 rfl) ?_
  refine lv_aload_n hx hb dL_law_678 rfl (lv_at hl 3 rfl) ?_
  refine lv_iload_n hx hb dL_law_679 rfl (lv_at hl 0 rfl) ?_
  refine lv_iconst (v := 1) hx hb dL_law_680 (by decide +kernel) ?_
  refine lv_iadd hx hb dL_law_681 ?_
  refine va_sld (s := s.setDrawn d0) hx hb hX hbl hbA hS (lw_in (j := (1 : Int32)) (J := 1) (by decide +kernel) (by decide) (by decide) hi0 hiL hLn) dL_law_682 ?_
  refine lv_aload_n hx hb dL_law_683 rfl (lv_at hl 3 rfl) ?_
  refine lv_iload_n hx hb dL_law_684 rfl (lv_at hl 0 rfl) ?_
  refine lv_iconst (v := 2) hx hb dL_law_685 (by decide +kernel) ?_
  refine lv_iadd hx hb dL_law_686 ?_
  refine va_sld (s := s.setDrawn d0) hx hb hX hbl hbA hS (lw_in (j := (2 : Int32)) (J := 2) (by decide +kernel) (by decide) (by decide) hi0 hiL hLn) dL_law_687 ?_
  refine lv_aload_n hx hb dL_law_688 rfl (lv_at hl 3 rfl) ?_
  refine lv_iload_n hx hb dL_law_689 rfl (lv_at hl 0 rfl) ?_
  refine lv_iconst (v := 3) hx hb dL_law_690 (by decide +kernel) ?_
  refine lv_iadd hx hb dL_law_691 ?_
  refine va_sld (s := s.setDrawn d0) hx hb hX hbl hbA hS (lw_in (j := (3 : Int32)) (J := 3) (by decide +kernel) (by decide) (by decide) hi0 hiL hLn) dL_law_692 ?_
  refine sw_i (va_runV (As := [.int (xs (i + 1).toNatClampNeg), .int (xs (i + 2).toNatClampNeg), .int (xs (i + 3).toNatClampNeg)]) (rest := []) ⟨hx, hb, hml, hown, hts⟩ (s_X7_slide l dC dI cs L K G Q hQ x0 m0 tx (tm, B) H.size I1 J1 hI m0 hm0 hI.2.1.2 (xs (i + 1).toNatClampNeg) (xs (i + 2).toNatClampNeg) (xs (i + 3).toNatClampNeg)) (cwV 3 hts (gV pq1418 pq1419 pq1420 pq81 pq1421) rfl rfl rfl (by decide +kernel) ⟨(Nat.le_of_ble_eq_true rfl), (Nat.le_of_ble_eq_true rfl)⟩) (sP_V hP hD hK hN hm0 hI.2.1.2 rfl rfl) rfl rfl hl.1 rfl (lv_room (Nat.le_of_ble_eq_true rfl)) dL_law_693 ⟨(show (nc + 29) + 0 ≤ room_1.cells from (show (nc + 29) + 0 ≤ 600000 from by omega)), (show (ns + 807) + 0 ≤ room_1.slots from (show (ns + 807) + 0 ≤ 7302249 from by omega))⟩) hS hAL hA (fun r2 I2 J2 H lo hr2 hI2 hP hS => ?_)
  obtain ⟨hIn2, dnc2, jz2, dj2⟩ := hI2
  have hk2 := hr2 σ hok hM
  have hM := jz2 σ hok hM
  have hC := cxA_w hQ hx0 hI.2.1.1 hC dnc2 (fun b hb => dj2 b (by omega))
  have hIold := hI
  have hI := hIn2
  have heq : r1 = r2 := Int32.toInt_inj.mp (hk1.trans hk2.symm)
  refine lv_pop hx hb dL_law_696 rfl ?_
  refine lv_goto (tgt := 1947) hx hb dL_law_697 (by decide) ?_
  exact kk _ _ _ _ _ _ ⟨L, K, G, Q, I2, J2, tx, tm, B, _, hQ, hI, hx0, hm0, by omega, hT, hC, hM, hD, hAL, hP, hS, hl, hd0, by omega, by omega⟩

set_option maxHeartbeats 4000000 in
set_option maxRecDepth 100000 in
theorem s_lwcase12 {p : Program} {e : Env} {s : State} {m : MethodId} {below : List Frame} {meth : Method} {c : Code} (l : Launch) {b Ln : Nat} {xs : Nat → Int32} {dC : Nat → ClassId} {dI : Nat → Nat → Nat} {cs : Nat → ClassId} {x0 m0 : Nat} (C0 : lw_At p s m meth c b Ln xs) (hLn : Ln ≤ 3072) (hK : va_K (dC, dI) vwCl (tysA cs) s) (hXs : xS (fun q : Nat => s.heap.size ≤ q) s s.heap) (i : Int32) (n : Nat) (hn : n < 512) (hi : i.toInt = 6 * (n : Int)) (hiL : i.toInt + 5 < (Ln : Int)) {d0 : Drawn} {H : Heap} {lo : List Loc} {ls : Array Slot} {nc ns : Nat} (h : lwI dC dI cs x0 m0 b s i n d0 H lo ls nc ns) (kk : ∀ (d0 : Drawn) (H : Heap) (lo : List Loc) (ls : Array Slot) (nc ns : Nat), lwI dC dI cs x0 m0 b s i (n + 1) d0 H lo ls nc ns → W p l e room_1 (s.setDrawn d0) m #[Value.ref b] below meth c H lo nc ns (lw_Z below #[Value.ref b] s) (F0 m 1947 ls [])) : W p l e room_1 (s.setDrawn d0) m #[Value.ref b] below meth c H lo nc ns (lw_Z below #[Value.ref b] s) (F0 m 700 ls []) := by
  obtain ⟨hx, hb, hr, hml, hown, htl, hX, hbl, hlocks, hgv⟩ := id C0
  have hb : c.code = cL_law := hb
  have hown : s.vm.findClass RL = some m.cls := hown
  have hts0 : ∀ w ∈ pw, w.before #[Value.ref b] s = true := fun w h => htl w (pw_tbl h)
  have hts := dr_words hts0 d0
  have hN : xN s := xN_of htl
  have hA : ∀ q : Nat, s.heap.size ≤ q → (fun q : Nat => s.heap.size ≤ q) q := fun _ h => h
  have hbA : ¬ (fun q : Nat => s.heap.size ≤ q) b := Nat.not_le.mpr hbl
  obtain ⟨L, K, G, Q, I, J, tx, tm, B, σ, hQ, hI, hx0, hm0, hB, hT, hC, hM, hD, hAL, hP, hS, hl, hd0, hnc, hns⟩ := h
  have hi0 : 0 ≤ i.toInt := by omega
  have hok : okF σ.1 := hC.1.1.1
  refine lv_aload_n hx hb dL_law_700 rfl (lv_at hl 2 rfl) ?_
  refine lv_aload_n hx hb dL_law_701 rfl (lv_at hl 3 rfl) ?_
  refine lv_iload_n hx hb dL_law_702 rfl (lv_at hl 0 rfl) ?_
  refine lv_iconst (v := 1) hx hb dL_law_703 (by decide +kernel) ?_
  refine lv_iadd hx hb dL_law_704 ?_
  refine va_sld (s := s.setDrawn d0) hx hb hX hbl hbA hS (lw_in (j := (1 : Int32)) (J := 1) (by decide +kernel) (by decide) (by decide) hi0 hiL hLn) dL_law_705 ?_
  refine lv_aload_n hx hb dL_law_706 rfl (lv_at hl 3 rfl) ?_
  refine lv_iload_n hx hb dL_law_707 rfl (lv_at hl 0 rfl) ?_
  refine lv_iconst (v := 2) hx hb dL_law_708 (by decide +kernel) ?_
  refine lv_iadd hx hb dL_law_709 ?_
  refine va_sld (s := s.setDrawn d0) hx hb hX hbl hbA hS (lw_in (j := (2 : Int32)) (J := 2) (by decide +kernel) (by decide) (by decide) hi0 hiL hLn) dL_law_710 ?_
  refine lv_aload_n hx hb dL_law_711 rfl (lv_at hl 3 rfl) ?_
  refine lv_iload_n hx hb dL_law_712 rfl (lv_at hl 0 rfl) ?_
  refine lv_iconst (v := 3) hx hb dL_law_713 (by decide +kernel) ?_
  refine lv_iadd hx hb dL_law_714 ?_
  refine va_sld (s := s.setDrawn d0) hx hb hX hbl hbA hS (lw_in (j := (3 : Int32)) (J := 3) (by decide +kernel) (by decide) (by decide) hi0 hiL hLn) dL_law_715 ?_
  have hQo := hQ
  have hx0o := hx0
  have hm0o := hm0
  have hIo := hI
  refine sa_i (va_runV (As := [.int (xs (i + 1).toNatClampNeg), .int (xs (i + 2).toNatClampNeg), .int (xs (i + 3).toNatClampNeg)]) (rest := []) ⟨hx, hb, hml, hown, hts⟩ (s_X6_push l dC dI cs L K G Q hQ x0 m0 tx (tm, B) hx0 hm0 H.size I J hI x0 hx0 hI.2.1.1 (xs (i + 1).toNatClampNeg) (xs (i + 2).toNatClampNeg) (xs (i + 3).toNatClampNeg)) (cwV 3 hts (gV pq793 pq794 pq795 pq74 pq796) rfl rfl rfl (by decide +kernel) ⟨(Nat.le_of_ble_eq_true rfl), (Nat.le_of_ble_eq_true rfl)⟩) (sP_V hP hD hK hN hx0 hI.2.1.1 rfl rfl) rfl rfl hl.1 rfl (lv_room (Nat.le_of_ble_eq_true rfl)) dL_law_716 ⟨(show nc + 29 ≤ room_1.cells from (show nc + 29 ≤ 600000 from by omega)), (show ns + 807 ≤ room_1.slots from (show ns + 807 ≤ 7302249 from by omega))⟩) hS hAL hA (fun r1 L K G Q I1 J1 H lo hr1 hE hQ hI hD hAL hP hz1 hS => ?_)
  have hx0 := (hE x0 hx0).1
  have hm0 := (hE m0 hm0).1
  obtain ⟨rz1, dnc1, dj1⟩ := hz1
  have hk1 := hr1 σ hC
  have hC := rz1 σ hC
  have hM := cmA_al hQo hm0o hIo.2.1.2 hE hM dnc1 (fun b hl hb => dj1 b hl (by omega))
  refine lv_pop hx hb dL_law_719 rfl ?_
  refine lv_aload_n hx hb dL_law_720 rfl (lv_at hl 1 rfl) ?_
  refine lv_aload_n hx hb dL_law_721 rfl (lv_at hl 3 rfl) ?_
  refine lv_iload_n hx hb dL_law_722 rfl (lv_at hl 0 rfl) ?_
  refine lv_iconst (v := 1) hx hb dL_law_723 (by decide +kernel) ?_
  refine lv_iadd hx hb dL_law_724 ?_
  refine va_sld (s := s.setDrawn d0) hx hb hX hbl hbA hS (lw_in (j := (1 : Int32)) (J := 1) (by decide +kernel) (by decide) (by decide) hi0 hiL hLn) dL_law_725 ?_
  refine lv_aload_n hx hb dL_law_726 rfl (lv_at hl 3 rfl) ?_
  refine lv_iload_n hx hb dL_law_727 rfl (lv_at hl 0 rfl) ?_
  refine lv_iconst (v := 2) hx hb dL_law_728 (by decide +kernel) ?_
  refine lv_iadd hx hb dL_law_729 ?_
  refine va_sld (s := s.setDrawn d0) hx hb hX hbl hbA hS (lw_in (j := (2 : Int32)) (J := 2) (by decide +kernel) (by decide) (by decide) hi0 hiL hLn) dL_law_730 ?_
  refine lv_aload_n hx hb dL_law_731 rfl (lv_at hl 3 rfl) ?_
  refine lv_iload_n hx hb dL_law_732 rfl (lv_at hl 0 rfl) ?_
  refine lv_iconst (v := 3) hx hb dL_law_733 (by decide +kernel) ?_
  refine lv_iadd hx hb dL_law_734 ?_
  refine va_sld (s := s.setDrawn d0) hx hb hX hbl hbA hS (lw_in (j := (3 : Int32)) (J := 3) (by decide +kernel) (by decide) (by decide) hi0 hiL hLn) dL_law_735 ?_
  refine sw_i (va_runV (As := [.int (xs (i + 1).toNatClampNeg), .int (xs (i + 2).toNatClampNeg), .int (xs (i + 3).toNatClampNeg)]) (rest := []) ⟨hx, hb, hml, hown, hts⟩ (s_X7_push l dC dI cs L K G Q hQ x0 m0 tx (tm, B) H.size I1 J1 hI m0 hm0 hI.2.1.2 (xs (i + 1).toNatClampNeg) (xs (i + 2).toNatClampNeg) (xs (i + 3).toNatClampNeg)) (cwV 3 hts (gV pq1478 pq1479 pq1480 pq81 pq1481) rfl rfl rfl (by decide +kernel) ⟨(Nat.le_of_ble_eq_true rfl), (Nat.le_of_ble_eq_true rfl)⟩) (sP_V hP hD hK hN hm0 hI.2.1.2 rfl rfl) rfl rfl hl.1 rfl (lv_room (Nat.le_of_ble_eq_true rfl)) dL_law_736 ⟨(show (nc + 29) + 0 ≤ room_1.cells from (show (nc + 29) + 0 ≤ 600000 from by omega)), (show (ns + 807) + 0 ≤ room_1.slots from (show (ns + 807) + 0 ≤ 7302249 from by omega))⟩) hS hAL hA (fun r2 I2 J2 H lo hr2 hI2 hP hS => ?_)
  obtain ⟨hIn2, dnc2, jz2, dj2⟩ := hI2
  have hk2 := hr2 σ hok hM
  have hM := jz2 σ hok hM
  have hC := cxA_w hQ hx0 hI.2.1.1 hC dnc2 (fun b hb => dj2 b (by omega))
  have hIold := hI
  have hI := hIn2
  have heq : r1 = r2 := Int32.toInt_inj.mp (hk1.trans hk2.symm)
  refine lv_pop hx hb dL_law_739 rfl ?_
  refine lv_goto (tgt := 1947) hx hb dL_law_740 (by decide) ?_
  exact kk _ _ _ _ _ _ ⟨L, K, G, Q, I2, J2, tx, tm, B, _, hQ, hI, hx0, hm0, by omega, hT, hC, hM, hD, hAL, hP, hS, hl, hd0, by omega, by omega⟩
