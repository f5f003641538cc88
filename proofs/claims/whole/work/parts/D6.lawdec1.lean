theorem dL_law_0 : decode code 0 = .ok (.new 8, 3) := by decide +kernel
theorem dL_law_3 : decode code 3 = .ok (.dup, 1) := by decide +kernel
theorem dL_law_4 : decode code 4 = .ok (.invokespecial 15, 3) := by decide +kernel
theorem dL_law_7 : decode code 7 = .ok (.astore_n 1, 1) := by decide +kernel
theorem dL_law_8 : decode code 8 = .ok (.new 16, 3) := by decide +kernel
theorem dL_law_11 : decode code 11 = .ok (.dup, 1) := by decide +kernel
theorem dL_law_12 : decode code 12 = .ok (.invokespecial 18, 3) := by decide +kernel
theorem dL_law_15 : decode code 15 = .ok (.astore_n 2, 1) := by decide +kernel
theorem dL_law_16 : decode code 16 = .ok (.iconst 1, 1) := by decide +kernel
theorem dL_law_17 : decode code 17 = .ok (.newarray .long, 2) := by decide +kernel
theorem dL_law_19 : decode code 19 = .ok (.astore_n 3, 1) := by decide +kernel
theorem dL_law_20 : decode code 20 = .ok (.iconst 0, 1) := by decide +kernel
theorem dL_law_21 : decode code 21 = .ok (.istore 4, 2) := by decide +kernel
theorem dL_law_23 : decode code 23 = .ok (.iload 4, 2) := by decide +kernel
theorem dL_law_25 : decode code 25 = .ok (.aload_n 0, 1) := by decide +kernel
theorem dL_law_26 : decode code 26 = .ok (.arraylength, 1) := by decide +kernel
theorem dL_law_27 : decode code 27 = .ok (.bipush 7, 2) := by decide +kernel
theorem dL_law_29 : decode code 29 = .ok (.isub, 1) := by decide +kernel
theorem dL_law_30 : decode code 30 = .ok (.if_icmp .gt 2388, 3) := by decide +kernel
theorem dL_law_33 : decode code 33 = .ok (.aload_n 0, 1) := by decide +kernel
theorem dL_law_34 : decode code 34 = .ok (.iload 4, 2) := by decide +kernel
theorem dL_law_36 : decode code 36 = .ok (.iaload, 1) := by decide +kernel
theorem dL_law_37 : decode code 37 = .ok (.bipush 63, 2) := by decide +kernel
theorem dL_law_39 : decode code 39 = .ok (.iand, 1) := by decide +kernel
theorem dL_law_40 : decode code 40 = .ok (.tableswitch 2372 0 47 #[208, 281, 306, 319, 332, 369, 418, 455, 516, 577, 626, 713, 762, 823, 848, 910, 947, 973, 998, 1060, 1097, 1184, 1233, 1282, 1343, 1392, 1441, 1478, 1527, 1576, 1637, 1674, 1761, 1822, 1871, 1908, 1969, 2030, 2067, 2104, 2153, 2178, 2215, 2228, 2253, 2278, 2346, 2359], 208) := by decide +kernel
theorem dL_law_248 : decode code 248 = .ok (.aload_n 1, 1) := by decide +kernel
theorem dL_law_249 : decode code 249 = .ok (.aload_n 0, 1) := by decide +kernel
theorem dL_law_250 : decode code 250 = .ok (.iload 4, 2) := by decide +kernel
theorem dL_law_252 : decode code 252 = .ok (.iconst 1, 1) := by decide +kernel
theorem dL_law_253 : decode code 253 = .ok (.iadd, 1) := by decide +kernel
theorem dL_law_254 : decode code 254 = .ok (.iaload, 1) := by decide +kernel
theorem dL_law_255 : decode code 255 = .ok (.aload_n 0, 1) := by decide +kernel
theorem dL_law_256 : decode code 256 = .ok (.iload 4, 2) := by decide +kernel
theorem dL_law_258 : decode code 258 = .ok (.iconst 2, 1) := by decide +kernel
theorem dL_law_259 : decode code 259 = .ok (.iadd, 1) := by decide +kernel
theorem dL_law_260 : decode code 260 = .ok (.iaload, 1) := by decide +kernel
theorem dL_law_261 : decode code 261 = .ok (.aload_n 0, 1) := by decide +kernel
theorem dL_law_262 : decode code 262 = .ok (.iload 4, 2) := by decide +kernel
theorem dL_law_264 : decode code 264 = .ok (.iconst 3, 1) := by decide +kernel
theorem dL_law_265 : decode code 265 = .ok (.iadd, 1) := by decide +kernel
theorem dL_law_266 : decode code 266 = .ok (.iaload, 1) := by decide +kernel
theorem dL_law_267 : decode code 267 = .ok (.aload_n 0, 1) := by decide +kernel
theorem dL_law_268 : decode code 268 = .ok (.iload 4, 2) := by decide +kernel
theorem dL_law_270 : decode code 270 = .ok (.iconst 4, 1) := by decide +kernel
theorem dL_law_271 : decode code 271 = .ok (.iadd, 1) := by decide +kernel
theorem dL_law_272 : decode code 272 = .ok (.iaload, 1) := by decide +kernel
theorem dL_law_273 : decode code 273 = .ok (.aload_n 0, 1) := by decide +kernel
theorem dL_law_274 : decode code 274 = .ok (.iload 4, 2) := by decide +kernel
theorem dL_law_276 : decode code 276 = .ok (.iconst 5, 1) := by decide +kernel
theorem dL_law_277 : decode code 277 = .ok (.iadd, 1) := by decide +kernel
theorem dL_law_278 : decode code 278 = .ok (.iaload, 1) := by decide +kernel
theorem dL_law_279 : decode code 279 = .ok (.invokevirtual 19, 3) := by decide +kernel
theorem dL_law_282 : decode code 282 = .ok (.aload_n 2, 1) := by decide +kernel
theorem dL_law_283 : decode code 283 = .ok (.aload_n 0, 1) := by decide +kernel
theorem dL_law_284 : decode code 284 = .ok (.iload 4, 2) := by decide +kernel
theorem dL_law_286 : decode code 286 = .ok (.iconst 1, 1) := by decide +kernel
theorem dL_law_287 : decode code 287 = .ok (.iadd, 1) := by decide +kernel
theorem dL_law_288 : decode code 288 = .ok (.iaload, 1) := by decide +kernel
theorem dL_law_289 : decode code 289 = .ok (.aload_n 0, 1) := by decide +kernel
theorem dL_law_290 : decode code 290 = .ok (.iload 4, 2) := by decide +kernel
theorem dL_law_292 : decode code 292 = .ok (.iconst 2, 1) := by decide +kernel
theorem dL_law_293 : decode code 293 = .ok (.iadd, 1) := by decide +kernel
theorem dL_law_294 : decode code 294 = .ok (.iaload, 1) := by decide +kernel
theorem dL_law_295 : decode code 295 = .ok (.aload_n 0, 1) := by decide +kernel
theorem dL_law_296 : decode code 296 = .ok (.iload 4, 2) := by decide +kernel
theorem dL_law_298 : decode code 298 = .ok (.iconst 3, 1) := by decide +kernel
theorem dL_law_299 : decode code 299 = .ok (.iadd, 1) := by decide +kernel
theorem dL_law_300 : decode code 300 = .ok (.iaload, 1) := by decide +kernel
theorem dL_law_301 : decode code 301 = .ok (.aload_n 0, 1) := by decide +kernel
theorem dL_law_302 : decode code 302 = .ok (.iload 4, 2) := by decide +kernel
theorem dL_law_304 : decode code 304 = .ok (.iconst 4, 1) := by decide +kernel
theorem dL_law_305 : decode code 305 = .ok (.iadd, 1) := by decide +kernel
theorem dL_law_306 : decode code 306 = .ok (.iaload, 1) := by decide +kernel
theorem dL_law_307 : decode code 307 = .ok (.aload_n 0, 1) := by decide +kernel
theorem dL_law_308 : decode code 308 = .ok (.iload 4, 2) := by decide +kernel
theorem dL_law_310 : decode code 310 = .ok (.iconst 5, 1) := by decide +kernel
theorem dL_law_311 : decode code 311 = .ok (.iadd, 1) := by decide +kernel
theorem dL_law_312 : decode code 312 = .ok (.iaload, 1) := by decide +kernel
theorem dL_law_313 : decode code 313 = .ok (.invokevirtual 23, 3) := by decide +kernel
theorem dL_law_316 : decode code 316 = .ok (.if_icmp .eq 2096, 3) := by decide +kernel
theorem dL_law_319 : decode code 319 = .ok (.iconst 0, 1) := by decide +kernel
theorem dL_law_320 : decode code 320 = .ok (.ireturn, 1) := by decide +kernel
theorem dL_law_321 : decode code 321 = .ok (.aload_n 1, 1) := by decide +kernel
theorem dL_law_322 : decode code 322 = .ok (.aload_n 0, 1) := by decide +kernel
theorem dL_law_323 : decode code 323 = .ok (.iload 4, 2) := by decide +kernel
theorem dL_law_325 : decode code 325 = .ok (.iconst 1, 1) := by decide +kernel
theorem dL_law_326 : decode code 326 = .ok (.iadd, 1) := by decide +kernel
theorem dL_law_327 : decode code 327 = .ok (.iaload, 1) := by decide +kernel
theorem dL_law_328 : decode code 328 = .ok (.invokevirtual 24, 3) := by decide +kernel
theorem dL_law_331 : decode code 331 = .ok (.aload_n 2, 1) := by decide +kernel
theorem dL_law_332 : decode code 332 = .ok (.aload_n 0, 1) := by decide +kernel
theorem dL_law_333 : decode code 333 = .ok (.iload 4, 2) := by decide +kernel
theorem dL_law_335 : decode code 335 = .ok (.iconst 1, 1) := by decide +kernel
theorem dL_law_336 : decode code 336 = .ok (.iadd, 1) := by decide +kernel
theorem dL_law_337 : decode code 337 = .ok (.iaload, 1) := by decide +kernel
theorem dL_law_338 : decode code 338 = .ok (.invokevirtual 28, 3) := by decide +kernel
theorem dL_law_341 : decode code 341 = .ok (.if_icmp .eq 2071, 3) := by decide +kernel
theorem dL_law_344 : decode code 344 = .ok (.iconst 0, 1) := by decide +kernel
theorem dL_law_345 : decode code 345 = .ok (.ireturn, 1) := by decide +kernel
theorem dL_law_346 : decode code 346 = .ok (.aload_n 1, 1) := by decide +kernel
theorem dL_law_347 : decode code 347 = .ok (.invokevirtual 29, 3) := by decide +kernel
theorem dL_law_350 : decode code 350 = .ok (.aload_n 2, 1) := by decide +kernel
theorem dL_law_351 : decode code 351 = .ok (.invokevirtual 33, 3) := by decide +kernel
theorem dL_law_354 : decode code 354 = .ok (.if_icmp .eq 2058, 3) := by decide +kernel
theorem dL_law_357 : decode code 357 = .ok (.iconst 0, 1) := by decide +kernel
theorem dL_law_358 : decode code 358 = .ok (.ireturn, 1) := by decide +kernel
theorem dL_law_359 : decode code 359 = .ok (.aload_n 1, 1) := by decide +kernel
theorem dL_law_360 : decode code 360 = .ok (.invokevirtual 34, 3) := by decide +kernel
theorem dL_law_363 : decode code 363 = .ok (.aload_n 2, 1) := by decide +kernel
theorem dL_law_364 : decode code 364 = .ok (.invokevirtual 37, 3) := by decide +kernel
theorem dL_law_367 : decode code 367 = .ok (.if_icmp .eq 2045, 3) := by decide +kernel
theorem dL_law_370 : decode code 370 = .ok (.iconst 0, 1) := by decide +kernel
theorem dL_law_371 : decode code 371 = .ok (.ireturn, 1) := by decide +kernel
theorem dL_law_372 : decode code 372 = .ok (.aload_n 1, 1) := by decide +kernel
theorem dL_law_373 : decode code 373 = .ok (.aload_n 0, 1) := by decide +kernel
theorem dL_law_374 : decode code 374 = .ok (.iload 4, 2) := by decide +kernel
theorem dL_law_376 : decode code 376 = .ok (.iconst 1, 1) := by decide +kernel
theorem dL_law_377 : decode code 377 = .ok (.iadd, 1) := by decide +kernel
theorem dL_law_378 : decode code 378 = .ok (.iaload, 1) := by decide +kernel
theorem dL_law_379 : decode code 379 = .ok (.aload_n 0, 1) := by decide +kernel
theorem dL_law_380 : decode code 380 = .ok (.iload 4, 2) := by decide +kernel
theorem dL_law_382 : decode code 382 = .ok (.iconst 2, 1) := by decide +kernel
theorem dL_law_383 : decode code 383 = .ok (.iadd, 1) := by decide +kernel
theorem dL_law_384 : decode code 384 = .ok (.iaload, 1) := by decide +kernel
theorem dL_law_385 : decode code 385 = .ok (.invokevirtual 38, 3) := by decide +kernel
theorem dL_law_388 : decode code 388 = .ok (.aload_n 2, 1) := by decide +kernel
theorem dL_law_389 : decode code 389 = .ok (.aload_n 0, 1) := by decide +kernel
theorem dL_law_390 : decode code 390 = .ok (.iload 4, 2) := by decide +kernel
theorem dL_law_392 : decode code 392 = .ok (.iconst 1, 1) := by decide +kernel
theorem dL_law_393 : decode code 393 = .ok (.iadd, 1) := by decide +kernel
theorem dL_law_394 : decode code 394 = .ok (.iaload, 1) := by decide +kernel
theorem dL_law_395 : decode code 395 = .ok (.aload_n 0, 1) := by decide +kernel
theorem dL_law_396 : decode code 396 = .ok (.iload 4, 2) := by decide +kernel
theorem dL_law_398 : decode code 398 = .ok (.iconst 2, 1) := by decide +kernel
theorem dL_law_399 : decode code 399 = .ok (.iadd, 1) := by decide +kernel
theorem dL_law_400 : decode code 400 = .ok (.iaload, 1) := by decide +kernel
theorem dL_law_401 : decode code 401 = .ok (.invokevirtual 41, 3) := by decide +kernel
theorem dL_law_404 : decode code 404 = .ok (.if_icmp .eq 2008, 3) := by decide +kernel
theorem dL_law_407 : decode code 407 = .ok (.iconst 0, 1) := by decide +kernel
theorem dL_law_408 : decode code 408 = .ok (.ireturn, 1) := by decide +kernel
theorem dL_law_409 : decode code 409 = .ok (.aload_n 1, 1) := by decide +kernel
theorem dL_law_410 : decode code 410 = .ok (.aload_n 0, 1) := by decide +kernel
theorem dL_law_411 : decode code 411 = .ok (.iload 4, 2) := by decide +kernel
theorem dL_law_413 : decode code 413 = .ok (.iconst 1, 1) := by decide +kernel
theorem dL_law_414 : decode code 414 = .ok (.iadd, 1) := by decide +kernel
theorem dL_law_415 : decode code 415 = .ok (.iaload, 1) := by decide +kernel
theorem dL_law_416 : decode code 416 = .ok (.aload_n 0, 1) := by decide +kernel
theorem dL_law_417 : decode code 417 = .ok (.iload 4, 2) := by decide +kernel
theorem dL_law_419 : decode code 419 = .ok (.iconst 2, 1) := by decide +kernel
theorem dL_law_420 : decode code 420 = .ok (.iadd, 1) := by decide +kernel
theorem dL_law_421 : decode code 421 = .ok (.iaload, 1) := by decide +kernel
theorem dL_law_422 : decode code 422 = .ok (.aload_n 0, 1) := by decide +kernel
theorem dL_law_423 : decode code 423 = .ok (.iload 4, 2) := by decide +kernel
theorem dL_law_425 : decode code 425 = .ok (.iconst 3, 1) := by decide +kernel
theorem dL_law_426 : decode code 426 = .ok (.iadd, 1) := by decide +kernel
theorem dL_law_427 : decode code 427 = .ok (.iaload, 1) := by decide +kernel
theorem dL_law_428 : decode code 428 = .ok (.invokevirtual 42, 3) := by decide +kernel
theorem dL_law_431 : decode code 431 = .ok (.aload_n 2, 1) := by decide +kernel
theorem dL_law_432 : decode code 432 = .ok (.aload_n 0, 1) := by decide +kernel
theorem dL_law_433 : decode code 433 = .ok (.iload 4, 2) := by decide +kernel
theorem dL_law_435 : decode code 435 = .ok (.iconst 1, 1) := by decide +kernel
theorem dL_law_436 : decode code 436 = .ok (.iadd, 1) := by decide +kernel
theorem dL_law_437 : decode code 437 = .ok (.iaload, 1) := by decide +kernel
theorem dL_law_438 : decode code 438 = .ok (.aload_n 0, 1) := by decide +kernel
theorem dL_law_439 : decode code 439 = .ok (.iload 4, 2) := by decide +kernel
theorem dL_law_441 : decode code 441 = .ok (.iconst 2, 1) := by decide +kernel
theorem dL_law_442 : decode code 442 = .ok (.iadd, 1) := by decide +kernel
theorem dL_law_443 : decode code 443 = .ok (.iaload, 1) := by decide +kernel
theorem dL_law_444 : decode code 444 = .ok (.aload_n 0, 1) := by decide +kernel
theorem dL_law_445 : decode code 445 = .ok (.iload 4, 2) := by decide +kernel
theorem dL_law_447 : decode code 447 = .ok (.iconst 3, 1) := by decide +kernel
theorem dL_law_448 : decode code 448 = .ok (.iadd, 1) := by decide +kernel
theorem dL_law_449 : decode code 449 = .ok (.iaload, 1) := by decide +kernel
theorem dL_law_450 : decode code 450 = .ok (.invokevirtual 46, 3) := by decide +kernel
theorem dL_law_453 : decode code 453 = .ok (.if_icmp .eq 1959, 3) := by decide +kernel
theorem dL_law_456 : decode code 456 = .ok (.iconst 0, 1) := by decide +kernel
theorem dL_law_457 : decode code 457 = .ok (.ireturn, 1) := by decide +kernel
theorem dL_law_458 : decode code 458 = .ok (.aload_n 1, 1) := by decide +kernel
theorem dL_law_459 : decode code 459 = .ok (.aload_n 0, 1) := by decide +kernel
theorem dL_law_460 : decode code 460 = .ok (.iload 4, 2) := by decide +kernel
theorem dL_law_462 : decode code 462 = .ok (.iconst 1, 1) := by decide +kernel
theorem dL_law_463 : decode code 463 = .ok (.iadd, 1) := by decide +kernel
theorem dL_law_464 : decode code 464 = .ok (.iaload, 1) := by decide +kernel
theorem dL_law_465 : decode code 465 = .ok (.aload_n 0, 1) := by decide +kernel
theorem dL_law_466 : decode code 466 = .ok (.iload 4, 2) := by decide +kernel
theorem dL_law_468 : decode code 468 = .ok (.iconst 2, 1) := by decide +kernel
theorem dL_law_469 : decode code 469 = .ok (.iadd, 1) := by decide +kernel
theorem dL_law_470 : decode code 470 = .ok (.iaload, 1) := by decide +kernel
theorem dL_law_471 : decode code 471 = .ok (.invokevirtual 47, 3) := by decide +kernel
theorem dL_law_474 : decode code 474 = .ok (.aload_n 2, 1) := by decide +kernel
theorem dL_law_475 : decode code 475 = .ok (.aload_n 0, 1) := by decide +kernel
theorem dL_law_476 : decode code 476 = .ok (.iload 4, 2) := by decide +kernel
theorem dL_law_478 : decode code 478 = .ok (.iconst 1, 1) := by decide +kernel
theorem dL_law_479 : decode code 479 = .ok (.iadd, 1) := by decide +kernel
theorem dL_law_480 : decode code 480 = .ok (.iaload, 1) := by decide +kernel
theorem dL_law_481 : decode code 481 = .ok (.aload_n 0, 1) := by decide +kernel
theorem dL_law_482 : decode code 482 = .ok (.iload 4, 2) := by decide +kernel
theorem dL_law_484 : decode code 484 = .ok (.iconst 2, 1) := by decide +kernel
theorem dL_law_485 : decode code 485 = .ok (.iadd, 1) := by decide +kernel
theorem dL_law_486 : decode code 486 = .ok (.iaload, 1) := by decide +kernel
theorem dL_law_487 : decode code 487 = .ok (.invokevirtual 50, 3) := by decide +kernel
theorem dL_law_490 : decode code 490 = .ok (.if_icmp .eq 1922, 3) := by decide +kernel
theorem dL_law_493 : decode code 493 = .ok (.iconst 0, 1) := by decide +kernel
theorem dL_law_494 : decode code 494 = .ok (.ireturn, 1) := by decide +kernel
theorem dL_law_495 : decode code 495 = .ok (.aload_n 1, 1) := by decide +kernel
theorem dL_law_496 : decode code 496 = .ok (.aload_n 0, 1) := by decide +kernel
theorem dL_law_497 : decode code 497 = .ok (.iload 4, 2) := by decide +kernel
theorem dL_law_499 : decode code 499 = .ok (.iconst 1, 1) := by decide +kernel
theorem dL_law_500 : decode code 500 = .ok (.iadd, 1) := by decide +kernel
theorem dL_law_501 : decode code 501 = .ok (.iaload, 1) := by decide +kernel
theorem dL_law_502 : decode code 502 = .ok (.aload_n 0, 1) := by decide +kernel
theorem dL_law_503 : decode code 503 = .ok (.iload 4, 2) := by decide +kernel
theorem dL_law_505 : decode code 505 = .ok (.iconst 2, 1) := by decide +kernel
theorem dL_law_506 : decode code 506 = .ok (.iadd, 1) := by decide +kernel
theorem dL_law_507 : decode code 507 = .ok (.iaload, 1) := by decide +kernel
theorem dL_law_508 : decode code 508 = .ok (.aload_n 0, 1) := by decide +kernel
theorem dL_law_509 : decode code 509 = .ok (.iload 4, 2) := by decide +kernel
theorem dL_law_511 : decode code 511 = .ok (.iconst 3, 1) := by decide +kernel
theorem dL_law_512 : decode code 512 = .ok (.iadd, 1) := by decide +kernel
theorem dL_law_513 : decode code 513 = .ok (.iaload, 1) := by decide +kernel
theorem dL_law_514 : decode code 514 = .ok (.aload_n 0, 1) := by decide +kernel
theorem dL_law_515 : decode code 515 = .ok (.iload 4, 2) := by decide +kernel
theorem dL_law_517 : decode code 517 = .ok (.iconst 4, 1) := by decide +kernel
theorem dL_law_518 : decode code 518 = .ok (.iadd, 1) := by decide +kernel
theorem dL_law_519 : decode code 519 = .ok (.iaload, 1) := by decide +kernel
theorem dL_law_520 : decode code 520 = .ok (.invokevirtual 51, 3) := by decide +kernel
theorem dL_law_523 : decode code 523 = .ok (.aload_n 2, 1) := by decide +kernel
theorem dL_law_524 : decode code 524 = .ok (.aload_n 0, 1) := by decide +kernel
theorem dL_law_525 : decode code 525 = .ok (.iload 4, 2) := by decide +kernel
theorem dL_law_527 : decode code 527 = .ok (.iconst 1, 1) := by decide +kernel
theorem dL_law_528 : decode code 528 = .ok (.iadd, 1) := by decide +kernel
theorem dL_law_529 : decode code 529 = .ok (.iaload, 1) := by decide +kernel
theorem dL_law_530 : decode code 530 = .ok (.aload_n 0, 1) := by decide +kernel
theorem dL_law_531 : decode code 531 = .ok (.iload 4, 2) := by decide +kernel
theorem dL_law_533 : decode code 533 = .ok (.iconst 2, 1) := by decide +kernel
theorem dL_law_534 : decode code 534 = .ok (.iadd, 1) := by decide +kernel
theorem dL_law_535 : decode code 535 = .ok (.iaload, 1) := by decide +kernel
theorem dL_law_536 : decode code 536 = .ok (.aload_n 0, 1) := by decide +kernel
theorem dL_law_537 : decode code 537 = .ok (.iload 4, 2) := by decide +kernel
theorem dL_law_539 : decode code 539 = .ok (.iconst 3, 1) := by decide +kernel
theorem dL_law_540 : decode code 540 = .ok (.iadd, 1) := by decide +kernel
theorem dL_law_541 : decode code 541 = .ok (.iaload, 1) := by decide +kernel
theorem dL_law_542 : decode code 542 = .ok (.aload_n 0, 1) := by decide +kernel
theorem dL_law_543 : decode code 543 = .ok (.iload 4, 2) := by decide +kernel
theorem dL_law_545 : decode code 545 = .ok (.iconst 4, 1) := by decide +kernel
theorem dL_law_546 : decode code 546 = .ok (.iadd, 1) := by decide +kernel
theorem dL_law_547 : decode code 547 = .ok (.iaload, 1) := by decide +kernel
theorem dL_law_548 : decode code 548 = .ok (.invokevirtual 55, 3) := by decide +kernel
theorem dL_law_551 : decode code 551 = .ok (.if_icmp .eq 1861, 3) := by decide +kernel
theorem dL_law_554 : decode code 554 = .ok (.iconst 0, 1) := by decide +kernel
theorem dL_law_555 : decode code 555 = .ok (.ireturn, 1) := by decide +kernel
theorem dL_law_556 : decode code 556 = .ok (.aload_n 1, 1) := by decide +kernel
theorem dL_law_557 : decode code 557 = .ok (.aload_n 0, 1) := by decide +kernel
theorem dL_law_558 : decode code 558 = .ok (.iload 4, 2) := by decide +kernel
theorem dL_law_560 : decode code 560 = .ok (.iconst 1, 1) := by decide +kernel
theorem dL_law_561 : decode code 561 = .ok (.iadd, 1) := by decide +kernel
theorem dL_law_562 : decode code 562 = .ok (.iaload, 1) := by decide +kernel
theorem dL_law_563 : decode code 563 = .ok (.aload_n 0, 1) := by decide +kernel
theorem dL_law_564 : decode code 564 = .ok (.iload 4, 2) := by decide +kernel
theorem dL_law_566 : decode code 566 = .ok (.iconst 2, 1) := by decide +kernel
theorem dL_law_567 : decode code 567 = .ok (.iadd, 1) := by decide +kernel
theorem dL_law_568 : decode code 568 = .ok (.iaload, 1) := by decide +kernel
theorem dL_law_569 : decode code 569 = .ok (.aload_n 0, 1) := by decide +kernel
theorem dL_law_570 : decode code 570 = .ok (.iload 4, 2) := by decide +kernel
theorem dL_law_572 : decode code 572 = .ok (.iconst 3, 1) := by decide +kernel
theorem dL_law_573 : decode code 573 = .ok (.iadd, 1) := by decide +kernel
theorem dL_law_574 : decode code 574 = .ok (.iaload, 1) := by decide +kernel
theorem dL_law_575 : decode code 575 = .ok (.aload_n 0, 1) := by decide +kernel
theorem dL_law_576 : decode code 576 = .ok (.iload 4, 2) := by decide +kernel
theorem dL_law_578 : decode code 578 = .ok (.iconst 4, 1) := by decide +kernel
theorem dL_law_579 : decode code 579 = .ok (.iadd, 1) := by decide +kernel
theorem dL_law_580 : decode code 580 = .ok (.iaload, 1) := by decide +kernel
theorem dL_law_581 : decode code 581 = .ok (.invokevirtual 56, 3) := by decide +kernel
theorem dL_law_584 : decode code 584 = .ok (.aload_n 2, 1) := by decide +kernel
theorem dL_law_585 : decode code 585 = .ok (.aload_n 0, 1) := by decide +kernel
theorem dL_law_586 : decode code 586 = .ok (.iload 4, 2) := by decide +kernel
theorem dL_law_588 : decode code 588 = .ok (.iconst 1, 1) := by decide +kernel
theorem dL_law_589 : decode code 589 = .ok (.iadd, 1) := by decide +kernel
theorem dL_law_590 : decode code 590 = .ok (.iaload, 1) := by decide +kernel
theorem dL_law_591 : decode code 591 = .ok (.aload_n 0, 1) := by decide +kernel
theorem dL_law_592 : decode code 592 = .ok (.iload 4, 2) := by decide +kernel
theorem dL_law_594 : decode code 594 = .ok (.iconst 2, 1) := by decide +kernel
theorem dL_law_595 : decode code 595 = .ok (.iadd, 1) := by decide +kernel
theorem dL_law_596 : decode code 596 = .ok (.iaload, 1) := by decide +kernel
theorem dL_law_597 : decode code 597 = .ok (.aload_n 0, 1) := by decide +kernel
theorem dL_law_598 : decode code 598 = .ok (.iload 4, 2) := by decide +kernel
theorem dL_law_600 : decode code 600 = .ok (.iconst 3, 1) := by decide +kernel
theorem dL_law_601 : decode code 601 = .ok (.iadd, 1) := by decide +kernel
theorem dL_law_602 : decode code 602 = .ok (.iaload, 1) := by decide +kernel
theorem dL_law_603 : decode code 603 = .ok (.aload_n 0, 1) := by decide +kernel
theorem dL_law_604 : decode code 604 = .ok (.iload 4, 2) := by decide +kernel
theorem dL_law_606 : decode code 606 = .ok (.iconst 4, 1) := by decide +kernel
theorem dL_law_607 : decode code 607 = .ok (.iadd, 1) := by decide +kernel
theorem dL_law_608 : decode code 608 = .ok (.iaload, 1) := by decide +kernel
theorem dL_law_609 : decode code 609 = .ok (.invokevirtual 60, 3) := by decide +kernel
theorem dL_law_612 : decode code 612 = .ok (.if_icmp .eq 1800, 3) := by decide +kernel
theorem dL_law_615 : decode code 615 = .ok (.iconst 0, 1) := by decide +kernel
theorem dL_law_616 : decode code 616 = .ok (.ireturn, 1) := by decide +kernel
theorem dL_law_617 : decode code 617 = .ok (.aload_n 1, 1) := by decide +kernel
theorem dL_law_618 : decode code 618 = .ok (.aload_n 0, 1) := by decide +kernel
theorem dL_law_619 : decode code 619 = .ok (.iload 4, 2) := by decide +kernel
theorem dL_law_621 : decode code 621 = .ok (.iconst 1, 1) := by decide +kernel
theorem dL_law_622 : decode code 622 = .ok (.iadd, 1) := by decide +kernel
theorem dL_law_623 : decode code 623 = .ok (.iaload, 1) := by decide +kernel
theorem dL_law_624 : decode code 624 = .ok (.aload_n 0, 1) := by decide +kernel
theorem dL_law_625 : decode code 625 = .ok (.iload 4, 2) := by decide +kernel
theorem dL_law_627 : decode code 627 = .ok (.iconst 2, 1) := by decide +kernel
theorem dL_law_628 : decode code 628 = .ok (.iadd, 1) := by decide +kernel
theorem dL_law_629 : decode code 629 = .ok (.iaload, 1) := by decide +kernel
theorem dL_law_630 : decode code 630 = .ok (.aload_n 0, 1) := by decide +kernel
theorem dL_law_631 : decode code 631 = .ok (.iload 4, 2) := by decide +kernel
theorem dL_law_633 : decode code 633 = .ok (.iconst 3, 1) := by decide +kernel
theorem dL_law_634 : decode code 634 = .ok (.iadd, 1) := by decide +kernel
theorem dL_law_635 : decode code 635 = .ok (.iaload, 1) := by decide +kernel
theorem dL_law_636 : decode code 636 = .ok (.invokevirtual 61, 3) := by decide +kernel
theorem dL_law_639 : decode code 639 = .ok (.aload_n 2, 1) := by decide +kernel
theorem dL_law_640 : decode code 640 = .ok (.aload_n 0, 1) := by decide +kernel
theorem dL_law_641 : decode code 641 = .ok (.iload 4, 2) := by decide +kernel
theorem dL_law_643 : decode code 643 = .ok (.iconst 1, 1) := by decide +kernel
theorem dL_law_644 : decode code 644 = .ok (.iadd, 1) := by decide +kernel
theorem dL_law_645 : decode code 645 = .ok (.iaload, 1) := by decide +kernel
theorem dL_law_646 : decode code 646 = .ok (.aload_n 0, 1) := by decide +kernel
theorem dL_law_647 : decode code 647 = .ok (.iload 4, 2) := by decide +kernel
theorem dL_law_649 : decode code 649 = .ok (.iconst 2, 1) := by decide +kernel
theorem dL_law_650 : decode code 650 = .ok (.iadd, 1) := by decide +kernel
theorem dL_law_651 : decode code 651 = .ok (.iaload, 1) := by decide +kernel
theorem dL_law_652 : decode code 652 = .ok (.aload_n 0, 1) := by decide +kernel
theorem dL_law_653 : decode code 653 = .ok (.iload 4, 2) := by decide +kernel
theorem dL_law_655 : decode code 655 = .ok (.iconst 3, 1) := by decide +kernel
theorem dL_law_656 : decode code 656 = .ok (.iadd, 1) := by decide +kernel
theorem dL_law_657 : decode code 657 = .ok (.iaload, 1) := by decide +kernel
theorem dL_law_658 : decode code 658 = .ok (.invokevirtual 65, 3) := by decide +kernel
theorem dL_law_661 : decode code 661 = .ok (.if_icmp .eq 1751, 3) := by decide +kernel
theorem dL_law_664 : decode code 664 = .ok (.iconst 0, 1) := by decide +kernel
theorem dL_law_665 : decode code 665 = .ok (.ireturn, 1) := by decide +kernel
theorem dL_law_666 : decode code 666 = .ok (.aload_n 1, 1) := by decide +kernel
theorem dL_law_667 : decode code 667 = .ok (.aload_n 0, 1) := by decide +kernel
theorem dL_law_668 : decode code 668 = .ok (.iload 4, 2) := by decide +kernel
theorem dL_law_670 : decode code 670 = .ok (.iconst 1, 1) := by decide +kernel
theorem dL_law_671 : decode code 671 = .ok (.iadd, 1) := by decide +kernel
theorem dL_law_672 : decode code 672 = .ok (.iaload, 1) := by decide +kernel
theorem dL_law_673 : decode code 673 = .ok (.aload_n 0, 1) := by decide +kernel
theorem dL_law_674 : decode code 674 = .ok (.iload 4, 2) := by decide +kernel
theorem dL_law_676 : decode code 676 = .ok (.iconst 2, 1) := by decide +kernel
theorem dL_law_677 : decode code 677 = .ok (.iadd, 1) := by decide +kernel
theorem dL_law_678 : decode code 678 = .ok (.iaload, 1) := by decide +kernel
theorem dL_law_679 : decode code 679 = .ok (.aload_n 0, 1) := by decide +kernel
theorem dL_law_680 : decode code 680 = .ok (.iload 4, 2) := by decide +kernel
theorem dL_law_682 : decode code 682 = .ok (.iconst 3, 1) := by decide +kernel
theorem dL_law_683 : decode code 683 = .ok (.iadd, 1) := by decide +kernel
theorem dL_law_684 : decode code 684 = .ok (.iaload, 1) := by decide +kernel
theorem dL_law_685 : decode code 685 = .ok (.aload_n 0, 1) := by decide +kernel
theorem dL_law_686 : decode code 686 = .ok (.iload 4, 2) := by decide +kernel
theorem dL_law_688 : decode code 688 = .ok (.iconst 4, 1) := by decide +kernel
theorem dL_law_689 : decode code 689 = .ok (.iadd, 1) := by decide +kernel
theorem dL_law_690 : decode code 690 = .ok (.iaload, 1) := by decide +kernel
theorem dL_law_691 : decode code 691 = .ok (.aload_n 0, 1) := by decide +kernel
theorem dL_law_692 : decode code 692 = .ok (.iload 4, 2) := by decide +kernel
theorem dL_law_694 : decode code 694 = .ok (.iconst 5, 1) := by decide +kernel
theorem dL_law_695 : decode code 695 = .ok (.iadd, 1) := by decide +kernel
theorem dL_law_696 : decode code 696 = .ok (.iaload, 1) := by decide +kernel
theorem dL_law_697 : decode code 697 = .ok (.aload_n 0, 1) := by decide +kernel
theorem dL_law_698 : decode code 698 = .ok (.iload 4, 2) := by decide +kernel
theorem dL_law_700 : decode code 700 = .ok (.bipush 6, 2) := by decide +kernel
theorem dL_law_702 : decode code 702 = .ok (.iadd, 1) := by decide +kernel
theorem dL_law_703 : decode code 703 = .ok (.iaload, 1) := by decide +kernel
theorem dL_law_704 : decode code 704 = .ok (.invokevirtual 66, 3) := by decide +kernel
theorem dL_law_707 : decode code 707 = .ok (.aload_n 2, 1) := by decide +kernel
theorem dL_law_708 : decode code 708 = .ok (.aload_n 0, 1) := by decide +kernel
theorem dL_law_709 : decode code 709 = .ok (.iload 4, 2) := by decide +kernel
theorem dL_law_711 : decode code 711 = .ok (.iconst 1, 1) := by decide +kernel
theorem dL_law_712 : decode code 712 = .ok (.iadd, 1) := by decide +kernel
theorem dL_law_713 : decode code 713 = .ok (.iaload, 1) := by decide +kernel
theorem dL_law_714 : decode code 714 = .ok (.aload_n 0, 1) := by decide +kernel
theorem dL_law_715 : decode code 715 = .ok (.iload 4, 2) := by decide +kernel
theorem dL_law_717 : decode code 717 = .ok (.iconst 2, 1) := by decide +kernel
theorem dL_law_718 : decode code 718 = .ok (.iadd, 1) := by decide +kernel
theorem dL_law_719 : decode code 719 = .ok (.iaload, 1) := by decide +kernel
theorem dL_law_720 : decode code 720 = .ok (.aload_n 0, 1) := by decide +kernel
theorem dL_law_721 : decode code 721 = .ok (.iload 4, 2) := by decide +kernel
theorem dL_law_723 : decode code 723 = .ok (.iconst 3, 1) := by decide +kernel
theorem dL_law_724 : decode code 724 = .ok (.iadd, 1) := by decide +kernel
theorem dL_law_725 : decode code 725 = .ok (.iaload, 1) := by decide +kernel
theorem dL_law_726 : decode code 726 = .ok (.aload_n 0, 1) := by decide +kernel
theorem dL_law_727 : decode code 727 = .ok (.iload 4, 2) := by decide +kernel
theorem dL_law_729 : decode code 729 = .ok (.iconst 4, 1) := by decide +kernel
theorem dL_law_730 : decode code 730 = .ok (.iadd, 1) := by decide +kernel
theorem dL_law_731 : decode code 731 = .ok (.iaload, 1) := by decide +kernel
theorem dL_law_732 : decode code 732 = .ok (.aload_n 0, 1) := by decide +kernel
theorem dL_law_733 : decode code 733 = .ok (.iload 4, 2) := by decide +kernel
theorem dL_law_735 : decode code 735 = .ok (.iconst 5, 1) := by decide +kernel
theorem dL_law_736 : decode code 736 = .ok (.iadd, 1) := by decide +kernel
theorem dL_law_737 : decode code 737 = .ok (.iaload, 1) := by decide +kernel
theorem dL_law_738 : decode code 738 = .ok (.aload_n 0, 1) := by decide +kernel
theorem dL_law_739 : decode code 739 = .ok (.iload 4, 2) := by decide +kernel
theorem dL_law_741 : decode code 741 = .ok (.bipush 6, 2) := by decide +kernel
theorem dL_law_743 : decode code 743 = .ok (.iadd, 1) := by decide +kernel
theorem dL_law_744 : decode code 744 = .ok (.iaload, 1) := by decide +kernel
theorem dL_law_745 : decode code 745 = .ok (.invokevirtual 70, 3) := by decide +kernel
theorem dL_law_748 : decode code 748 = .ok (.if_icmp .eq 1664, 3) := by decide +kernel
theorem dL_law_751 : decode code 751 = .ok (.iconst 0, 1) := by decide +kernel
theorem dL_law_752 : decode code 752 = .ok (.ireturn, 1) := by decide +kernel
theorem dL_law_753 : decode code 753 = .ok (.aload_n 1, 1) := by decide +kernel
theorem dL_law_754 : decode code 754 = .ok (.aload_n 0, 1) := by decide +kernel
theorem dL_law_755 : decode code 755 = .ok (.iload 4, 2) := by decide +kernel
theorem dL_law_757 : decode code 757 = .ok (.iconst 1, 1) := by decide +kernel
theorem dL_law_758 : decode code 758 = .ok (.iadd, 1) := by decide +kernel
theorem dL_law_759 : decode code 759 = .ok (.iaload, 1) := by decide +kernel
theorem dL_law_760 : decode code 760 = .ok (.aload_n 0, 1) := by decide +kernel
theorem dL_law_761 : decode code 761 = .ok (.iload 4, 2) := by decide +kernel
theorem dL_law_763 : decode code 763 = .ok (.iconst 2, 1) := by decide +kernel
theorem dL_law_764 : decode code 764 = .ok (.iadd, 1) := by decide +kernel
theorem dL_law_765 : decode code 765 = .ok (.iaload, 1) := by decide +kernel
theorem dL_law_766 : decode code 766 = .ok (.aload_n 0, 1) := by decide +kernel
theorem dL_law_767 : decode code 767 = .ok (.iload 4, 2) := by decide +kernel
theorem dL_law_769 : decode code 769 = .ok (.iconst 3, 1) := by decide +kernel
theorem dL_law_770 : decode code 770 = .ok (.iadd, 1) := by decide +kernel
theorem dL_law_771 : decode code 771 = .ok (.iaload, 1) := by decide +kernel
theorem dL_law_772 : decode code 772 = .ok (.invokevirtual 71, 3) := by decide +kernel
theorem dL_law_775 : decode code 775 = .ok (.aload_n 2, 1) := by decide +kernel
theorem dL_law_776 : decode code 776 = .ok (.aload_n 0, 1) := by decide +kernel
theorem dL_law_777 : decode code 777 = .ok (.iload 4, 2) := by decide +kernel
theorem dL_law_779 : decode code 779 = .ok (.iconst 1, 1) := by decide +kernel
theorem dL_law_780 : decode code 780 = .ok (.iadd, 1) := by decide +kernel
theorem dL_law_781 : decode code 781 = .ok (.iaload, 1) := by decide +kernel
theorem dL_law_782 : decode code 782 = .ok (.aload_n 0, 1) := by decide +kernel
theorem dL_law_783 : decode code 783 = .ok (.iload 4, 2) := by decide +kernel
theorem dL_law_785 : decode code 785 = .ok (.iconst 2, 1) := by decide +kernel
theorem dL_law_786 : decode code 786 = .ok (.iadd, 1) := by decide +kernel
theorem dL_law_787 : decode code 787 = .ok (.iaload, 1) := by decide +kernel
theorem dL_law_788 : decode code 788 = .ok (.aload_n 0, 1) := by decide +kernel
theorem dL_law_789 : decode code 789 = .ok (.iload 4, 2) := by decide +kernel
theorem dL_law_791 : decode code 791 = .ok (.iconst 3, 1) := by decide +kernel
theorem dL_law_792 : decode code 792 = .ok (.iadd, 1) := by decide +kernel
theorem dL_law_793 : decode code 793 = .ok (.iaload, 1) := by decide +kernel
theorem dL_law_794 : decode code 794 = .ok (.invokevirtual 74, 3) := by decide +kernel
theorem dL_law_797 : decode code 797 = .ok (.if_icmp .eq 1615, 3) := by decide +kernel
theorem dL_law_800 : decode code 800 = .ok (.iconst 0, 1) := by decide +kernel
theorem dL_law_801 : decode code 801 = .ok (.ireturn, 1) := by decide +kernel
theorem dL_law_802 : decode code 802 = .ok (.aload_n 1, 1) := by decide +kernel
theorem dL_law_803 : decode code 803 = .ok (.aload_n 0, 1) := by decide +kernel
theorem dL_law_804 : decode code 804 = .ok (.iload 4, 2) := by decide +kernel
theorem dL_law_806 : decode code 806 = .ok (.iconst 1, 1) := by decide +kernel
theorem dL_law_807 : decode code 807 = .ok (.iadd, 1) := by decide +kernel
theorem dL_law_808 : decode code 808 = .ok (.iaload, 1) := by decide +kernel
theorem dL_law_809 : decode code 809 = .ok (.aload_n 0, 1) := by decide +kernel
theorem dL_law_810 : decode code 810 = .ok (.iload 4, 2) := by decide +kernel
theorem dL_law_812 : decode code 812 = .ok (.iconst 2, 1) := by decide +kernel
theorem dL_law_813 : decode code 813 = .ok (.iadd, 1) := by decide +kernel
theorem dL_law_814 : decode code 814 = .ok (.iaload, 1) := by decide +kernel
theorem dL_law_815 : decode code 815 = .ok (.aload_n 0, 1) := by decide +kernel
theorem dL_law_816 : decode code 816 = .ok (.iload 4, 2) := by decide +kernel
theorem dL_law_818 : decode code 818 = .ok (.iconst 3, 1) := by decide +kernel
theorem dL_law_819 : decode code 819 = .ok (.iadd, 1) := by decide +kernel
theorem dL_law_820 : decode code 820 = .ok (.iaload, 1) := by decide +kernel
theorem dL_law_821 : decode code 821 = .ok (.aload_n 0, 1) := by decide +kernel
theorem dL_law_822 : decode code 822 = .ok (.iload 4, 2) := by decide +kernel
theorem dL_law_824 : decode code 824 = .ok (.iconst 4, 1) := by decide +kernel
theorem dL_law_825 : decode code 825 = .ok (.iadd, 1) := by decide +kernel
theorem dL_law_826 : decode code 826 = .ok (.iaload, 1) := by decide +kernel
theorem dL_law_827 : decode code 827 = .ok (.invokevirtual 75, 3) := by decide +kernel
theorem dL_law_830 : decode code 830 = .ok (.aload_n 2, 1) := by decide +kernel
theorem dL_law_831 : decode code 831 = .ok (.aload_n 0, 1) := by decide +kernel
theorem dL_law_832 : decode code 832 = .ok (.iload 4, 2) := by decide +kernel
theorem dL_law_834 : decode code 834 = .ok (.iconst 1, 1) := by decide +kernel
theorem dL_law_835 : decode code 835 = .ok (.iadd, 1) := by decide +kernel
theorem dL_law_836 : decode code 836 = .ok (.iaload, 1) := by decide +kernel
theorem dL_law_837 : decode code 837 = .ok (.aload_n 0, 1) := by decide +kernel
theorem dL_law_838 : decode code 838 = .ok (.iload 4, 2) := by decide +kernel
theorem dL_law_840 : decode code 840 = .ok (.iconst 2, 1) := by decide +kernel
theorem dL_law_841 : decode code 841 = .ok (.iadd, 1) := by decide +kernel
theorem dL_law_842 : decode code 842 = .ok (.iaload, 1) := by decide +kernel
theorem dL_law_843 : decode code 843 = .ok (.aload_n 0, 1) := by decide +kernel
theorem dL_law_844 : decode code 844 = .ok (.iload 4, 2) := by decide +kernel
theorem dL_law_846 : decode code 846 = .ok (.iconst 3, 1) := by decide +kernel
theorem dL_law_847 : decode code 847 = .ok (.iadd, 1) := by decide +kernel
theorem dL_law_848 : decode code 848 = .ok (.iaload, 1) := by decide +kernel
theorem dL_law_849 : decode code 849 = .ok (.aload_n 0, 1) := by decide +kernel
theorem dL_law_850 : decode code 850 = .ok (.iload 4, 2) := by decide +kernel
theorem dL_law_852 : decode code 852 = .ok (.iconst 4, 1) := by decide +kernel
theorem dL_law_853 : decode code 853 = .ok (.iadd, 1) := by decide +kernel
theorem dL_law_854 : decode code 854 = .ok (.iaload, 1) := by decide +kernel
theorem dL_law_855 : decode code 855 = .ok (.invokevirtual 78, 3) := by decide +kernel
theorem dL_law_858 : decode code 858 = .ok (.if_icmp .eq 1554, 3) := by decide +kernel
theorem dL_law_861 : decode code 861 = .ok (.iconst 0, 1) := by decide +kernel
theorem dL_law_862 : decode code 862 = .ok (.ireturn, 1) := by decide +kernel
theorem dL_law_863 : decode code 863 = .ok (.aload_n 1, 1) := by decide +kernel
theorem dL_law_864 : decode code 864 = .ok (.aload_n 0, 1) := by decide +kernel
theorem dL_law_865 : decode code 865 = .ok (.iload 4, 2) := by decide +kernel
theorem dL_law_867 : decode code 867 = .ok (.iconst 1, 1) := by decide +kernel
theorem dL_law_868 : decode code 868 = .ok (.iadd, 1) := by decide +kernel
theorem dL_law_869 : decode code 869 = .ok (.iaload, 1) := by decide +kernel
theorem dL_law_870 : decode code 870 = .ok (.invokevirtual 79, 3) := by decide +kernel
theorem dL_law_873 : decode code 873 = .ok (.aload_n 2, 1) := by decide +kernel
theorem dL_law_874 : decode code 874 = .ok (.aload_n 0, 1) := by decide +kernel
theorem dL_law_875 : decode code 875 = .ok (.iload 4, 2) := by decide +kernel
theorem dL_law_877 : decode code 877 = .ok (.iconst 1, 1) := by decide +kernel
theorem dL_law_878 : decode code 878 = .ok (.iadd, 1) := by decide +kernel
theorem dL_law_879 : decode code 879 = .ok (.iaload, 1) := by decide +kernel
theorem dL_law_880 : decode code 880 = .ok (.invokevirtual 82, 3) := by decide +kernel
theorem dL_law_883 : decode code 883 = .ok (.if_icmp .eq 1529, 3) := by decide +kernel
theorem dL_law_886 : decode code 886 = .ok (.iconst 0, 1) := by decide +kernel
theorem dL_law_887 : decode code 887 = .ok (.ireturn, 1) := by decide +kernel
theorem dL_law_888 : decode code 888 = .ok (.aload_n 1, 1) := by decide +kernel
theorem dL_law_889 : decode code 889 = .ok (.aload_n 0, 1) := by decide +kernel
theorem dL_law_890 : decode code 890 = .ok (.iload 4, 2) := by decide +kernel
theorem dL_law_892 : decode code 892 = .ok (.iconst 1, 1) := by decide +kernel
theorem dL_law_893 : decode code 893 = .ok (.iadd, 1) := by decide +kernel
theorem dL_law_894 : decode code 894 = .ok (.iaload, 1) := by decide +kernel
theorem dL_law_895 : decode code 895 = .ok (.aload_n 0, 1) := by decide +kernel
theorem dL_law_896 : decode code 896 = .ok (.iload 4, 2) := by decide +kernel
theorem dL_law_898 : decode code 898 = .ok (.iconst 2, 1) := by decide +kernel
theorem dL_law_899 : decode code 899 = .ok (.iadd, 1) := by decide +kernel
theorem dL_law_900 : decode code 900 = .ok (.iaload, 1) := by decide +kernel
theorem dL_law_901 : decode code 901 = .ok (.aload_n 0, 1) := by decide +kernel
theorem dL_law_902 : decode code 902 = .ok (.iload 4, 2) := by decide +kernel
theorem dL_law_904 : decode code 904 = .ok (.iconst 3, 1) := by decide +kernel
theorem dL_law_905 : decode code 905 = .ok (.iadd, 1) := by decide +kernel
theorem dL_law_906 : decode code 906 = .ok (.iaload, 1) := by decide +kernel
theorem dL_law_907 : decode code 907 = .ok (.aload_n 0, 1) := by decide +kernel
theorem dL_law_908 : decode code 908 = .ok (.iload 4, 2) := by decide +kernel
theorem dL_law_910 : decode code 910 = .ok (.iconst 4, 1) := by decide +kernel
theorem dL_law_911 : decode code 911 = .ok (.iadd, 1) := by decide +kernel
theorem dL_law_912 : decode code 912 = .ok (.iaload, 1) := by decide +kernel
theorem dL_law_913 : decode code 913 = .ok (.invokevirtual 83, 3) := by decide +kernel
theorem dL_law_916 : decode code 916 = .ok (.aload_n 2, 1) := by decide +kernel
theorem dL_law_917 : decode code 917 = .ok (.aload_n 0, 1) := by decide +kernel
theorem dL_law_918 : decode code 918 = .ok (.iload 4, 2) := by decide +kernel
theorem dL_law_920 : decode code 920 = .ok (.iconst 1, 1) := by decide +kernel
theorem dL_law_921 : decode code 921 = .ok (.iadd, 1) := by decide +kernel
theorem dL_law_922 : decode code 922 = .ok (.iaload, 1) := by decide +kernel
theorem dL_law_923 : decode code 923 = .ok (.aload_n 0, 1) := by decide +kernel
theorem dL_law_924 : decode code 924 = .ok (.iload 4, 2) := by decide +kernel
theorem dL_law_926 : decode code 926 = .ok (.iconst 2, 1) := by decide +kernel
theorem dL_law_927 : decode code 927 = .ok (.iadd, 1) := by decide +kernel
theorem dL_law_928 : decode code 928 = .ok (.iaload, 1) := by decide +kernel
theorem dL_law_929 : decode code 929 = .ok (.aload_n 0, 1) := by decide +kernel
theorem dL_law_930 : decode code 930 = .ok (.iload 4, 2) := by decide +kernel
theorem dL_law_932 : decode code 932 = .ok (.iconst 3, 1) := by decide +kernel
theorem dL_law_933 : decode code 933 = .ok (.iadd, 1) := by decide +kernel
theorem dL_law_934 : decode code 934 = .ok (.iaload, 1) := by decide +kernel
theorem dL_law_935 : decode code 935 = .ok (.aload_n 0, 1) := by decide +kernel
theorem dL_law_936 : decode code 936 = .ok (.iload 4, 2) := by decide +kernel
theorem dL_law_938 : decode code 938 = .ok (.iconst 4, 1) := by decide +kernel
theorem dL_law_939 : decode code 939 = .ok (.iadd, 1) := by decide +kernel
theorem dL_law_940 : decode code 940 = .ok (.iaload, 1) := by decide +kernel
theorem dL_law_941 : decode code 941 = .ok (.invokevirtual 87, 3) := by decide +kernel
theorem dL_law_944 : decode code 944 = .ok (.lcmp, 1) := by decide +kernel
theorem dL_law_945 : decode code 945 = .ok (.ifCond .eq 1467, 3) := by decide +kernel
theorem dL_law_948 : decode code 948 = .ok (.iconst 0, 1) := by decide +kernel
theorem dL_law_949 : decode code 949 = .ok (.ireturn, 1) := by decide +kernel
theorem dL_law_950 : decode code 950 = .ok (.aload_n 1, 1) := by decide +kernel
theorem dL_law_951 : decode code 951 = .ok (.aload_n 0, 1) := by decide +kernel
theorem dL_law_952 : decode code 952 = .ok (.iload 4, 2) := by decide +kernel
theorem dL_law_954 : decode code 954 = .ok (.iconst 1, 1) := by decide +kernel
theorem dL_law_955 : decode code 955 = .ok (.iadd, 1) := by decide +kernel
theorem dL_law_956 : decode code 956 = .ok (.iaload, 1) := by decide +kernel
theorem dL_law_957 : decode code 957 = .ok (.aload_n 0, 1) := by decide +kernel
theorem dL_law_958 : decode code 958 = .ok (.iload 4, 2) := by decide +kernel
theorem dL_law_960 : decode code 960 = .ok (.iconst 2, 1) := by decide +kernel
theorem dL_law_961 : decode code 961 = .ok (.iadd, 1) := by decide +kernel
theorem dL_law_962 : decode code 962 = .ok (.iaload, 1) := by decide +kernel
theorem dL_law_963 : decode code 963 = .ok (.invokevirtual 88, 3) := by decide +kernel
theorem dL_law_966 : decode code 966 = .ok (.aload_n 2, 1) := by decide +kernel
theorem dL_law_967 : decode code 967 = .ok (.aload_n 0, 1) := by decide +kernel
theorem dL_law_968 : decode code 968 = .ok (.iload 4, 2) := by decide +kernel
theorem dL_law_970 : decode code 970 = .ok (.iconst 1, 1) := by decide +kernel
theorem dL_law_971 : decode code 971 = .ok (.iadd, 1) := by decide +kernel
theorem dL_law_972 : decode code 972 = .ok (.iaload, 1) := by decide +kernel
theorem dL_law_973 : decode code 973 = .ok (.aload_n 0, 1) := by decide +kernel
theorem dL_law_974 : decode code 974 = .ok (.iload 4, 2) := by decide +kernel
theorem dL_law_976 : decode code 976 = .ok (.iconst 2, 1) := by decide +kernel
theorem dL_law_977 : decode code 977 = .ok (.iadd, 1) := by decide +kernel
theorem dL_law_978 : decode code 978 = .ok (.iaload, 1) := by decide +kernel
theorem dL_law_979 : decode code 979 = .ok (.invokevirtual 91, 3) := by decide +kernel
theorem dL_law_982 : decode code 982 = .ok (.if_icmp .eq 1430, 3) := by decide +kernel
theorem dL_law_985 : decode code 985 = .ok (.iconst 0, 1) := by decide +kernel
theorem dL_law_986 : decode code 986 = .ok (.ireturn, 1) := by decide +kernel
theorem dL_law_987 : decode code 987 = .ok (.aload_n 1, 1) := by decide +kernel
theorem dL_law_988 : decode code 988 = .ok (.aload_n 0, 1) := by decide +kernel
theorem dL_law_989 : decode code 989 = .ok (.iload 4, 2) := by decide +kernel
theorem dL_law_991 : decode code 991 = .ok (.iconst 1, 1) := by decide +kernel
theorem dL_law_992 : decode code 992 = .ok (.iadd, 1) := by decide +kernel
theorem dL_law_993 : decode code 993 = .ok (.iaload, 1) := by decide +kernel
theorem dL_law_994 : decode code 994 = .ok (.invokevirtual 92, 3) := by decide +kernel
theorem dL_law_997 : decode code 997 = .ok (.aload_n 2, 1) := by decide +kernel
theorem dL_law_998 : decode code 998 = .ok (.aload_n 0, 1) := by decide +kernel
theorem dL_law_999 : decode code 999 = .ok (.iload 4, 2) := by decide +kernel
theorem dL_law_1001 : decode code 1001 = .ok (.iconst 1, 1) := by decide +kernel
theorem dL_law_1002 : decode code 1002 = .ok (.iadd, 1) := by decide +kernel
theorem dL_law_1003 : decode code 1003 = .ok (.iaload, 1) := by decide +kernel
theorem dL_law_1004 : decode code 1004 = .ok (.invokevirtual 96, 3) := by decide +kernel
theorem dL_law_1007 : decode code 1007 = .ok (.lcmp, 1) := by decide +kernel
theorem dL_law_1008 : decode code 1008 = .ok (.ifCond .eq 1404, 3) := by decide +kernel
theorem dL_law_1011 : decode code 1011 = .ok (.iconst 0, 1) := by decide +kernel
theorem dL_law_1012 : decode code 1012 = .ok (.ireturn, 1) := by decide +kernel
theorem dL_law_1013 : decode code 1013 = .ok (.aload_n 1, 1) := by decide +kernel
theorem dL_law_1014 : decode code 1014 = .ok (.aload_n 0, 1) := by decide +kernel
theorem dL_law_1015 : decode code 1015 = .ok (.iload 4, 2) := by decide +kernel
theorem dL_law_1017 : decode code 1017 = .ok (.iconst 1, 1) := by decide +kernel
theorem dL_law_1018 : decode code 1018 = .ok (.iadd, 1) := by decide +kernel
theorem dL_law_1019 : decode code 1019 = .ok (.iaload, 1) := by decide +kernel
theorem dL_law_1020 : decode code 1020 = .ok (.invokevirtual 97, 3) := by decide +kernel
theorem dL_law_1023 : decode code 1023 = .ok (.aload_n 2, 1) := by decide +kernel
theorem dL_law_1024 : decode code 1024 = .ok (.aload_n 0, 1) := by decide +kernel
theorem dL_law_1025 : decode code 1025 = .ok (.iload 4, 2) := by decide +kernel
theorem dL_law_1027 : decode code 1027 = .ok (.iconst 1, 1) := by decide +kernel
theorem dL_law_1028 : decode code 1028 = .ok (.iadd, 1) := by decide +kernel
theorem dL_law_1029 : decode code 1029 = .ok (.iaload, 1) := by decide +kernel
theorem dL_law_1030 : decode code 1030 = .ok (.invokevirtual 100, 3) := by decide +kernel
theorem dL_law_1033 : decode code 1033 = .ok (.if_icmp .eq 1379, 3) := by decide +kernel
theorem dL_law_1036 : decode code 1036 = .ok (.iconst 0, 1) := by decide +kernel
theorem dL_law_1037 : decode code 1037 = .ok (.ireturn, 1) := by decide +kernel
theorem dL_law_1038 : decode code 1038 = .ok (.aload_n 1, 1) := by decide +kernel
theorem dL_law_1039 : decode code 1039 = .ok (.aload_n 0, 1) := by decide +kernel
theorem dL_law_1040 : decode code 1040 = .ok (.iload 4, 2) := by decide +kernel
theorem dL_law_1042 : decode code 1042 = .ok (.iconst 1, 1) := by decide +kernel
theorem dL_law_1043 : decode code 1043 = .ok (.iadd, 1) := by decide +kernel
theorem dL_law_1044 : decode code 1044 = .ok (.iaload, 1) := by decide +kernel
theorem dL_law_1045 : decode code 1045 = .ok (.aload_n 0, 1) := by decide +kernel
theorem dL_law_1046 : decode code 1046 = .ok (.iload 4, 2) := by decide +kernel
theorem dL_law_1048 : decode code 1048 = .ok (.iconst 2, 1) := by decide +kernel
theorem dL_law_1049 : decode code 1049 = .ok (.iadd, 1) := by decide +kernel
theorem dL_law_1050 : decode code 1050 = .ok (.iaload, 1) := by decide +kernel
theorem dL_law_1051 : decode code 1051 = .ok (.aload_n 0, 1) := by decide +kernel
theorem dL_law_1052 : decode code 1052 = .ok (.iload 4, 2) := by decide +kernel
theorem dL_law_1054 : decode code 1054 = .ok (.iconst 3, 1) := by decide +kernel
theorem dL_law_1055 : decode code 1055 = .ok (.iadd, 1) := by decide +kernel
theorem dL_law_1056 : decode code 1056 = .ok (.iaload, 1) := by decide +kernel
theorem dL_law_1057 : decode code 1057 = .ok (.aload_n 0, 1) := by decide +kernel
theorem dL_law_1058 : decode code 1058 = .ok (.iload 4, 2) := by decide +kernel
theorem dL_law_1060 : decode code 1060 = .ok (.iconst 4, 1) := by decide +kernel
theorem dL_law_1061 : decode code 1061 = .ok (.iadd, 1) := by decide +kernel
theorem dL_law_1062 : decode code 1062 = .ok (.iaload, 1) := by decide +kernel
theorem dL_law_1063 : decode code 1063 = .ok (.invokevirtual 101, 3) := by decide +kernel
theorem dL_law_1066 : decode code 1066 = .ok (.aload_n 2, 1) := by decide +kernel
theorem dL_law_1067 : decode code 1067 = .ok (.aload_n 0, 1) := by decide +kernel
theorem dL_law_1068 : decode code 1068 = .ok (.iload 4, 2) := by decide +kernel
theorem dL_law_1070 : decode code 1070 = .ok (.iconst 1, 1) := by decide +kernel
theorem dL_law_1071 : decode code 1071 = .ok (.iadd, 1) := by decide +kernel
theorem dL_law_1072 : decode code 1072 = .ok (.iaload, 1) := by decide +kernel
theorem dL_law_1073 : decode code 1073 = .ok (.aload_n 0, 1) := by decide +kernel
theorem dL_law_1074 : decode code 1074 = .ok (.iload 4, 2) := by decide +kernel
theorem dL_law_1076 : decode code 1076 = .ok (.iconst 2, 1) := by decide +kernel
theorem dL_law_1077 : decode code 1077 = .ok (.iadd, 1) := by decide +kernel
theorem dL_law_1078 : decode code 1078 = .ok (.iaload, 1) := by decide +kernel
theorem dL_law_1079 : decode code 1079 = .ok (.aload_n 0, 1) := by decide +kernel
theorem dL_law_1080 : decode code 1080 = .ok (.iload 4, 2) := by decide +kernel
theorem dL_law_1082 : decode code 1082 = .ok (.iconst 3, 1) := by decide +kernel
theorem dL_law_1083 : decode code 1083 = .ok (.iadd, 1) := by decide +kernel
theorem dL_law_1084 : decode code 1084 = .ok (.iaload, 1) := by decide +kernel
theorem dL_law_1085 : decode code 1085 = .ok (.aload_n 0, 1) := by decide +kernel
theorem dL_law_1086 : decode code 1086 = .ok (.iload 4, 2) := by decide +kernel
theorem dL_law_1088 : decode code 1088 = .ok (.iconst 4, 1) := by decide +kernel
theorem dL_law_1089 : decode code 1089 = .ok (.iadd, 1) := by decide +kernel
theorem dL_law_1090 : decode code 1090 = .ok (.iaload, 1) := by decide +kernel
theorem dL_law_1091 : decode code 1091 = .ok (.invokevirtual 104, 3) := by decide +kernel
theorem dL_law_1094 : decode code 1094 = .ok (.lcmp, 1) := by decide +kernel
theorem dL_law_1095 : decode code 1095 = .ok (.ifCond .eq 1317, 3) := by decide +kernel
theorem dL_law_1098 : decode code 1098 = .ok (.iconst 0, 1) := by decide +kernel
theorem dL_law_1099 : decode code 1099 = .ok (.ireturn, 1) := by decide +kernel
theorem dL_law_1100 : decode code 1100 = .ok (.aload_n 1, 1) := by decide +kernel
theorem dL_law_1101 : decode code 1101 = .ok (.aload_n 0, 1) := by decide +kernel
theorem dL_law_1102 : decode code 1102 = .ok (.iload 4, 2) := by decide +kernel
theorem dL_law_1104 : decode code 1104 = .ok (.iconst 1, 1) := by decide +kernel
theorem dL_law_1105 : decode code 1105 = .ok (.iadd, 1) := by decide +kernel
theorem dL_law_1106 : decode code 1106 = .ok (.iaload, 1) := by decide +kernel
theorem dL_law_1107 : decode code 1107 = .ok (.aload_n 0, 1) := by decide +kernel
theorem dL_law_1108 : decode code 1108 = .ok (.iload 4, 2) := by decide +kernel
theorem dL_law_1110 : decode code 1110 = .ok (.iconst 2, 1) := by decide +kernel
theorem dL_law_1111 : decode code 1111 = .ok (.iadd, 1) := by decide +kernel
theorem dL_law_1112 : decode code 1112 = .ok (.iaload, 1) := by decide +kernel
theorem dL_law_1113 : decode code 1113 = .ok (.invokevirtual 105, 3) := by decide +kernel
theorem dL_law_1116 : decode code 1116 = .ok (.aload_n 2, 1) := by decide +kernel
theorem dL_law_1117 : decode code 1117 = .ok (.aload_n 0, 1) := by decide +kernel
theorem dL_law_1118 : decode code 1118 = .ok (.iload 4, 2) := by decide +kernel
theorem dL_law_1120 : decode code 1120 = .ok (.iconst 1, 1) := by decide +kernel
theorem dL_law_1121 : decode code 1121 = .ok (.iadd, 1) := by decide +kernel
theorem dL_law_1122 : decode code 1122 = .ok (.iaload, 1) := by decide +kernel
theorem dL_law_1123 : decode code 1123 = .ok (.aload_n 0, 1) := by decide +kernel
theorem dL_law_1124 : decode code 1124 = .ok (.iload 4, 2) := by decide +kernel
theorem dL_law_1126 : decode code 1126 = .ok (.iconst 2, 1) := by decide +kernel
theorem dL_law_1127 : decode code 1127 = .ok (.iadd, 1) := by decide +kernel
theorem dL_law_1128 : decode code 1128 = .ok (.iaload, 1) := by decide +kernel
theorem dL_law_1129 : decode code 1129 = .ok (.invokevirtual 108, 3) := by decide +kernel
theorem dL_law_1132 : decode code 1132 = .ok (.if_icmp .eq 1280, 3) := by decide +kernel
theorem dL_law_1135 : decode code 1135 = .ok (.iconst 0, 1) := by decide +kernel
theorem dL_law_1136 : decode code 1136 = .ok (.ireturn, 1) := by decide +kernel
theorem dL_law_1137 : decode code 1137 = .ok (.aload_n 1, 1) := by decide +kernel
theorem dL_law_1138 : decode code 1138 = .ok (.aload_n 0, 1) := by decide +kernel
theorem dL_law_1139 : decode code 1139 = .ok (.iload 4, 2) := by decide +kernel
theorem dL_law_1141 : decode code 1141 = .ok (.iconst 1, 1) := by decide +kernel
theorem dL_law_1142 : decode code 1142 = .ok (.iadd, 1) := by decide +kernel
theorem dL_law_1143 : decode code 1143 = .ok (.iaload, 1) := by decide +kernel
theorem dL_law_1144 : decode code 1144 = .ok (.aload_n 0, 1) := by decide +kernel
theorem dL_law_1145 : decode code 1145 = .ok (.iload 4, 2) := by decide +kernel
theorem dL_law_1147 : decode code 1147 = .ok (.iconst 2, 1) := by decide +kernel
theorem dL_law_1148 : decode code 1148 = .ok (.iadd, 1) := by decide +kernel
theorem dL_law_1149 : decode code 1149 = .ok (.iaload, 1) := by decide +kernel
theorem dL_law_1150 : decode code 1150 = .ok (.aload_n 0, 1) := by decide +kernel
theorem dL_law_1151 : decode code 1151 = .ok (.iload 4, 2) := by decide +kernel
theorem dL_law_1153 : decode code 1153 = .ok (.iconst 3, 1) := by decide +kernel
theorem dL_law_1154 : decode code 1154 = .ok (.iadd, 1) := by decide +kernel
theorem dL_law_1155 : decode code 1155 = .ok (.iaload, 1) := by decide +kernel
theorem dL_law_1156 : decode code 1156 = .ok (.aload_n 0, 1) := by decide +kernel
theorem dL_law_1157 : decode code 1157 = .ok (.iload 4, 2) := by decide +kernel
theorem dL_law_1159 : decode code 1159 = .ok (.iconst 4, 1) := by decide +kernel
theorem dL_law_1160 : decode code 1160 = .ok (.iadd, 1) := by decide +kernel
theorem dL_law_1161 : decode code 1161 = .ok (.iaload, 1) := by decide +kernel
theorem dL_law_1162 : decode code 1162 = .ok (.aload_n 0, 1) := by decide +kernel
theorem dL_law_1163 : decode code 1163 = .ok (.iload 4, 2) := by decide +kernel
theorem dL_law_1165 : decode code 1165 = .ok (.iconst 5, 1) := by decide +kernel
theorem dL_law_1166 : decode code 1166 = .ok (.iadd, 1) := by decide +kernel
theorem dL_law_1167 : decode code 1167 = .ok (.iaload, 1) := by decide +kernel
theorem dL_law_1168 : decode code 1168 = .ok (.aload_n 0, 1) := by decide +kernel
theorem dL_law_1169 : decode code 1169 = .ok (.iload 4, 2) := by decide +kernel
theorem dL_law_1171 : decode code 1171 = .ok (.bipush 6, 2) := by decide +kernel
theorem dL_law_1173 : decode code 1173 = .ok (.iadd, 1) := by decide +kernel
theorem dL_law_1174 : decode code 1174 = .ok (.iaload, 1) := by decide +kernel
theorem dL_law_1175 : decode code 1175 = .ok (.invokevirtual 109, 3) := by decide +kernel
theorem dL_law_1178 : decode code 1178 = .ok (.aload_n 2, 1) := by decide +kernel
theorem dL_law_1179 : decode code 1179 = .ok (.aload_n 0, 1) := by decide +kernel
theorem dL_law_1180 : decode code 1180 = .ok (.iload 4, 2) := by decide +kernel
theorem dL_law_1182 : decode code 1182 = .ok (.iconst 1, 1) := by decide +kernel
theorem dL_law_1183 : decode code 1183 = .ok (.iadd, 1) := by decide +kernel
theorem dL_law_1184 : decode code 1184 = .ok (.iaload, 1) := by decide +kernel
theorem dL_law_1185 : decode code 1185 = .ok (.aload_n 0, 1) := by decide +kernel
theorem dL_law_1186 : decode code 1186 = .ok (.iload 4, 2) := by decide +kernel
theorem dL_law_1188 : decode code 1188 = .ok (.iconst 2, 1) := by decide +kernel
theorem dL_law_1189 : decode code 1189 = .ok (.iadd, 1) := by decide +kernel
theorem dL_law_1190 : decode code 1190 = .ok (.iaload, 1) := by decide +kernel
theorem dL_law_1191 : decode code 1191 = .ok (.aload_n 0, 1) := by decide +kernel
theorem dL_law_1192 : decode code 1192 = .ok (.iload 4, 2) := by decide +kernel
theorem dL_law_1194 : decode code 1194 = .ok (.iconst 3, 1) := by decide +kernel
theorem dL_law_1195 : decode code 1195 = .ok (.iadd, 1) := by decide +kernel
theorem dL_law_1196 : decode code 1196 = .ok (.iaload, 1) := by decide +kernel
theorem dL_law_1197 : decode code 1197 = .ok (.aload_n 0, 1) := by decide +kernel
theorem dL_law_1198 : decode code 1198 = .ok (.iload 4, 2) := by decide +kernel
theorem dL_law_1200 : decode code 1200 = .ok (.iconst 4, 1) := by decide +kernel
theorem dL_law_1201 : decode code 1201 = .ok (.iadd, 1) := by decide +kernel
theorem dL_law_1202 : decode code 1202 = .ok (.iaload, 1) := by decide +kernel
theorem dL_law_1203 : decode code 1203 = .ok (.aload_n 0, 1) := by decide +kernel
theorem dL_law_1204 : decode code 1204 = .ok (.iload 4, 2) := by decide +kernel
theorem dL_law_1206 : decode code 1206 = .ok (.iconst 5, 1) := by decide +kernel
theorem dL_law_1207 : decode code 1207 = .ok (.iadd, 1) := by decide +kernel
theorem dL_law_1208 : decode code 1208 = .ok (.iaload, 1) := by decide +kernel
theorem dL_law_1209 : decode code 1209 = .ok (.aload_n 0, 1) := by decide +kernel
theorem dL_law_1210 : decode code 1210 = .ok (.iload 4, 2) := by decide +kernel
theorem dL_law_1212 : decode code 1212 = .ok (.bipush 6, 2) := by decide +kernel
theorem dL_law_1214 : decode code 1214 = .ok (.iadd, 1) := by decide +kernel
theorem dL_law_1215 : decode code 1215 = .ok (.iaload, 1) := by decide +kernel
theorem dL_law_1216 : decode code 1216 = .ok (.invokevirtual 113, 3) := by decide +kernel
theorem dL_law_1219 : decode code 1219 = .ok (.if_icmp .eq 1193, 3) := by decide +kernel
theorem dL_law_1222 : decode code 1222 = .ok (.iconst 0, 1) := by decide +kernel
theorem dL_law_1223 : decode code 1223 = .ok (.ireturn, 1) := by decide +kernel
theorem dL_law_1224 : decode code 1224 = .ok (.aload_n 1, 1) := by decide +kernel
theorem dL_law_1225 : decode code 1225 = .ok (.aload_n 0, 1) := by decide +kernel
theorem dL_law_1226 : decode code 1226 = .ok (.iload 4, 2) := by decide +kernel
theorem dL_law_1228 : decode code 1228 = .ok (.iconst 1, 1) := by decide +kernel
theorem dL_law_1229 : decode code 1229 = .ok (.iadd, 1) := by decide +kernel
theorem dL_law_1230 : decode code 1230 = .ok (.iaload, 1) := by decide +kernel
theorem dL_law_1231 : decode code 1231 = .ok (.aload_n 0, 1) := by decide +kernel
theorem dL_law_1232 : decode code 1232 = .ok (.iload 4, 2) := by decide +kernel
theorem dL_law_1234 : decode code 1234 = .ok (.iconst 2, 1) := by decide +kernel
theorem dL_law_1235 : decode code 1235 = .ok (.iadd, 1) := by decide +kernel
theorem dL_law_1236 : decode code 1236 = .ok (.iaload, 1) := by decide +kernel
theorem dL_law_1237 : decode code 1237 = .ok (.aload_n 0, 1) := by decide +kernel
theorem dL_law_1238 : decode code 1238 = .ok (.iload 4, 2) := by decide +kernel
theorem dL_law_1240 : decode code 1240 = .ok (.iconst 3, 1) := by decide +kernel
theorem dL_law_1241 : decode code 1241 = .ok (.iadd, 1) := by decide +kernel
theorem dL_law_1242 : decode code 1242 = .ok (.iaload, 1) := by decide +kernel
theorem dL_law_1243 : decode code 1243 = .ok (.invokevirtual 114, 3) := by decide +kernel
theorem dL_law_1246 : decode code 1246 = .ok (.aload_n 2, 1) := by decide +kernel
theorem dL_law_1247 : decode code 1247 = .ok (.aload_n 0, 1) := by decide +kernel
theorem dL_law_1248 : decode code 1248 = .ok (.iload 4, 2) := by decide +kernel
