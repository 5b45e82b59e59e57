theorem dX12_init_304 : decode cX12_init 304 = .ok (.iastore, 1) := q_iastore (bat_get dg_X12_init_281_281 19 rfl rfl)
theorem dX12_init_305 : decode cX12_init 305 = .ok (.dup, 1) := q_dup (bat_get dg_X12_init_281_281 20 rfl rfl)
theorem dX12_init_306 : decode cX12_init 306 = .ok (.iconst 4, 1) := q_iconst4 (bat_get dg_X12_init_281_281 21 rfl rfl)
theorem dX12_init_307 : decode cX12_init 307 = .ok (.iconst (-1), 1) := q_iconstm1 (bat_get dg_X12_init_281_281 22 rfl rfl)
theorem dX12_init_308 : decode cX12_init 308 = .ok (.iastore, 1) := q_iastore (bat_get dg_X12_init_281_281 23 rfl rfl)
theorem dX12_init_309 : decode cX12_init 309 = .ok (.dup, 1) := q_dup (bat_get dg_X12_init_281_281 24 rfl rfl)
theorem dX12_init_310 : decode cX12_init 310 = .ok (.iconst 5, 1) := q_iconst5 (bat_get dg_X12_init_281_281 25 rfl rfl)
theorem dX12_init_311 : decode cX12_init 311 = .ok (.iconst (-1), 1) := q_iconstm1 (bat_get dg_X12_init_281_281 26 rfl rfl)
theorem dX12_init_312 : decode cX12_init 312 = .ok (.iastore, 1) := q_iastore (bat_get dg_X12_init_281_281 27 rfl rfl)
theorem dX12_init_313 : decode cX12_init 313 = .ok (.putfield 54, 3) := q_putfield (bat_get dg_X12_init_281_281 28 rfl rfl) rfl
theorem dX12_init_316 : decode cX12_init 316 = .ok (.aload_n 0, 1) := q_aload_n0 (bat_get dg_X12_init_281_281 29 rfl rfl)
theorem dX12_init_317 : decode cX12_init 317 = .ok (.bipush 6, 2) := q_bipush (bat_get dg_X12_init_281_281 30 rfl rfl) rfl
theorem dX12_init_319 : decode cX12_init 319 = .ok (.newarray .int, 2) := q_newarray_int (bat_get dg_X12_init_281_281 31 rfl rfl)
theorem dX12_init_321 : decode cX12_init 321 = .ok (.putfield 57, 3) := q_putfield (bat_get dg_X12_init_281_281 32 rfl rfl) rfl
theorem dX12_init_324 : decode cX12_init 324 = .ok (.aload_n 0, 1) := q_aload_n0 (bat_get dg_X12_init_281_281 33 rfl rfl)
theorem dX12_init_325 : decode cX12_init 325 = .ok (.sipush 3200, 3) := q_sipush (bat_get dg_X12_init_281_281 34 rfl rfl) rfl
theorem dX12_init_328 : decode cX12_init 328 = .ok (.newarray .int, 2) := q_newarray_int (bat_get dg_X12_init_281_281 35 rfl rfl)
theorem dX12_init_330 : decode cX12_init 330 = .ok (.putfield 60, 3) := q_putfield (bat_get dg_X12_init_281_281 36 rfl rfl) rfl
theorem dX12_init_333 : decode cX12_init 333 = .ok (.aload_n 0, 1) := q_aload_n0 (bat_get dg_X12_init_281_281 37 rfl rfl)
theorem dX12_init_334 : decode cX12_init 334 = .ok (.bipush 120, 2) := q_bipush (bat_get dg_X12_init_281_281 38 rfl rfl) rfl
theorem dX12_init_336 : decode cX12_init 336 = .ok (.newarray .int, 2) := q_newarray_int (bat_get dg_X12_init_281_281 39 rfl rfl)
theorem dg_X12_init_338_338 : bqL cX12_init 338 [(0, [181, 0, 63]), (3, [42]), (4, [16, 29]), (6, [188, 10]), (8, [181, 0, 66]), (11, [42]), (12, [17, 3, 132]), (15, [188, 4]), (17, [181, 0, 69]), (20, [42]), (21, [17, 3, 132]), (24, [188, 4]), (26, [181, 0, 73]), (29, [42]), (30, [16, 90]), (32, [188, 10]), (34, [181, 0, 76]), (37, [42]), (38, [2]), (39, [181, 0, 79]), (42, [42]), (43, [16, 90]), (45, [188, 11]), (47, [181, 0, 82]), (50, [42]), (51, [16, 90]), (53, [188, 11]), (55, [181, 0, 86]), (58, [42]), (59, [16, 9]), (61, [188, 10]), (63, [181, 0, 89]), (66, [42]), (67, [16, 90]), (69, [188, 11]), (71, [181, 0, 92]), (74, [42]), (75, [17, 18, 0]), (78, [188, 11]), (80, [181, 0, 95])] = true := by decide +kernel
theorem dX12_init_338 : decode cX12_init 338 = .ok (.putfield 63, 3) := q_putfield (bat_get dg_X12_init_338_338 0 rfl rfl) rfl
theorem dX12_init_341 : decode cX12_init 341 = .ok (.aload_n 0, 1) := q_aload_n0 (bat_get dg_X12_init_338_338 1 rfl rfl)
theorem dX12_init_342 : decode cX12_init 342 = .ok (.bipush 29, 2) := q_bipush (bat_get dg_X12_init_338_338 2 rfl rfl) rfl
theorem dX12_init_344 : decode cX12_init 344 = .ok (.newarray .int, 2) := q_newarray_int (bat_get dg_X12_init_338_338 3 rfl rfl)
theorem dX12_init_346 : decode cX12_init 346 = .ok (.putfield 66, 3) := q_putfield (bat_get dg_X12_init_338_338 4 rfl rfl) rfl
theorem dX12_init_349 : decode cX12_init 349 = .ok (.aload_n 0, 1) := q_aload_n0 (bat_get dg_X12_init_338_338 5 rfl rfl)
theorem dX12_init_350 : decode cX12_init 350 = .ok (.sipush 900, 3) := q_sipush (bat_get dg_X12_init_338_338 6 rfl rfl) rfl
theorem dX12_init_353 : decode cX12_init 353 = .ok (.newarray .boolean, 2) := q_newarray_boolean (bat_get dg_X12_init_338_338 7 rfl rfl)
theorem dX12_init_355 : decode cX12_init 355 = .ok (.putfield 69, 3) := q_putfield (bat_get dg_X12_init_338_338 8 rfl rfl) rfl
theorem dX12_init_358 : decode cX12_init 358 = .ok (.aload_n 0, 1) := q_aload_n0 (bat_get dg_X12_init_338_338 9 rfl rfl)
theorem dX12_init_359 : decode cX12_init 359 = .ok (.sipush 900, 3) := q_sipush (bat_get dg_X12_init_338_338 10 rfl rfl) rfl
theorem dX12_init_362 : decode cX12_init 362 = .ok (.newarray .boolean, 2) := q_newarray_boolean (bat_get dg_X12_init_338_338 11 rfl rfl)
theorem dX12_init_364 : decode cX12_init 364 = .ok (.putfield 73, 3) := q_putfield (bat_get dg_X12_init_338_338 12 rfl rfl) rfl
theorem dX12_init_367 : decode cX12_init 367 = .ok (.aload_n 0, 1) := q_aload_n0 (bat_get dg_X12_init_338_338 13 rfl rfl)
theorem dX12_init_368 : decode cX12_init 368 = .ok (.bipush 90, 2) := q_bipush (bat_get dg_X12_init_338_338 14 rfl rfl) rfl
theorem dX12_init_370 : decode cX12_init 370 = .ok (.newarray .int, 2) := q_newarray_int (bat_get dg_X12_init_338_338 15 rfl rfl)
theorem dX12_init_372 : decode cX12_init 372 = .ok (.putfield 76, 3) := q_putfield (bat_get dg_X12_init_338_338 16 rfl rfl) rfl
theorem dX12_init_375 : decode cX12_init 375 = .ok (.aload_n 0, 1) := q_aload_n0 (bat_get dg_X12_init_338_338 17 rfl rfl)
theorem dX12_init_376 : decode cX12_init 376 = .ok (.iconst (-1), 1) := q_iconstm1 (bat_get dg_X12_init_338_338 18 rfl rfl)
theorem dX12_init_377 : decode cX12_init 377 = .ok (.putfield 79, 3) := q_putfield (bat_get dg_X12_init_338_338 19 rfl rfl) rfl
theorem dX12_init_380 : decode cX12_init 380 = .ok (.aload_n 0, 1) := q_aload_n0 (bat_get dg_X12_init_338_338 20 rfl rfl)
theorem dX12_init_381 : decode cX12_init 381 = .ok (.bipush 90, 2) := q_bipush (bat_get dg_X12_init_338_338 21 rfl rfl) rfl
theorem dX12_init_383 : decode cX12_init 383 = .ok (.newarray .long, 2) := q_newarray_long (bat_get dg_X12_init_338_338 22 rfl rfl)
theorem dX12_init_385 : decode cX12_init 385 = .ok (.putfield 82, 3) := q_putfield (bat_get dg_X12_init_338_338 23 rfl rfl) rfl
theorem dX12_init_388 : decode cX12_init 388 = .ok (.aload_n 0, 1) := q_aload_n0 (bat_get dg_X12_init_338_338 24 rfl rfl)
theorem dX12_init_389 : decode cX12_init 389 = .ok (.bipush 90, 2) := q_bipush (bat_get dg_X12_init_338_338 25 rfl rfl) rfl
theorem dX12_init_391 : decode cX12_init 391 = .ok (.newarray .long, 2) := q_newarray_long (bat_get dg_X12_init_338_338 26 rfl rfl)
theorem dX12_init_393 : decode cX12_init 393 = .ok (.putfield 86, 3) := q_putfield (bat_get dg_X12_init_338_338 27 rfl rfl) rfl
theorem dX12_init_396 : decode cX12_init 396 = .ok (.aload_n 0, 1) := q_aload_n0 (bat_get dg_X12_init_338_338 28 rfl rfl)
theorem dX12_init_397 : decode cX12_init 397 = .ok (.bipush 9, 2) := q_bipush (bat_get dg_X12_init_338_338 29 rfl rfl) rfl
theorem dX12_init_399 : decode cX12_init 399 = .ok (.newarray .int, 2) := q_newarray_int (bat_get dg_X12_init_338_338 30 rfl rfl)
theorem dX12_init_401 : decode cX12_init 401 = .ok (.putfield 89, 3) := q_putfield (bat_get dg_X12_init_338_338 31 rfl rfl) rfl
theorem dX12_init_404 : decode cX12_init 404 = .ok (.aload_n 0, 1) := q_aload_n0 (bat_get dg_X12_init_338_338 32 rfl rfl)
theorem dX12_init_405 : decode cX12_init 405 = .ok (.bipush 90, 2) := q_bipush (bat_get dg_X12_init_338_338 33 rfl rfl) rfl
theorem dX12_init_407 : decode cX12_init 407 = .ok (.newarray .long, 2) := q_newarray_long (bat_get dg_X12_init_338_338 34 rfl rfl)
theorem dX12_init_409 : decode cX12_init 409 = .ok (.putfield 92, 3) := q_putfield (bat_get dg_X12_init_338_338 35 rfl rfl) rfl
theorem dX12_init_412 : decode cX12_init 412 = .ok (.aload_n 0, 1) := q_aload_n0 (bat_get dg_X12_init_338_338 36 rfl rfl)
theorem dX12_init_413 : decode cX12_init 413 = .ok (.sipush 4608, 3) := q_sipush (bat_get dg_X12_init_338_338 37 rfl rfl) rfl
theorem dX12_init_416 : decode cX12_init 416 = .ok (.newarray .long, 2) := q_newarray_long (bat_get dg_X12_init_338_338 38 rfl rfl)
theorem dX12_init_418 : decode cX12_init 418 = .ok (.putfield 95, 3) := q_putfield (bat_get dg_X12_init_338_338 39 rfl rfl) rfl
theorem dg_X12_init_421_421 : bqL cX12_init 421 [(0, [42]), (1, [17, 2, 0]), (4, [188, 4]), (6, [181, 0, 98]), (9, [42]), (10, [16, 9]), (12, [188, 10]), (14, [181, 0, 101]), (17, [42]), (18, [16, 32]), (20, [188, 10]), (22, [181, 0, 104]), (25, [42]), (26, [17, 9, 96]), (29, [188, 10]), (31, [181, 0, 107]), (34, [42]), (35, [10]), (36, [181, 0, 110]), (39, [42]), (40, [8]), (41, [188, 5]), (43, [89]), (44, [3]), (45, [16, 102]), (47, [85]), (48, [89]), (49, [4]), (50, [16, 105]), (52, [85]), (53, [89]), (54, [5]), (55, [16, 114]), (57, [85]), (58, [89]), (59, [6]), (60, [16, 115]), (62, [85]), (63, [89]), (64, [7])] = true := by decide +kernel
theorem dX12_init_421 : decode cX12_init 421 = .ok (.aload_n 0, 1) := q_aload_n0 (bat_get dg_X12_init_421_421 0 rfl rfl)
theorem dX12_init_422 : decode cX12_init 422 = .ok (.sipush 512, 3) := q_sipush (bat_get dg_X12_init_421_421 1 rfl rfl) rfl
theorem dX12_init_425 : decode cX12_init 425 = .ok (.newarray .boolean, 2) := q_newarray_boolean (bat_get dg_X12_init_421_421 2 rfl rfl)
theorem dX12_init_427 : decode cX12_init 427 = .ok (.putfield 98, 3) := q_putfield (bat_get dg_X12_init_421_421 3 rfl rfl) rfl
theorem dX12_init_430 : decode cX12_init 430 = .ok (.aload_n 0, 1) := q_aload_n0 (bat_get dg_X12_init_421_421 4 rfl rfl)
theorem dX12_init_431 : decode cX12_init 431 = .ok (.bipush 9, 2) := q_bipush (bat_get dg_X12_init_421_421 5 rfl rfl) rfl
theorem dX12_init_433 : decode cX12_init 433 = .ok (.newarray .int, 2) := q_newarray_int (bat_get dg_X12_init_421_421 6 rfl rfl)
theorem dX12_init_435 : decode cX12_init 435 = .ok (.putfield 101, 3) := q_putfield (bat_get dg_X12_init_421_421 7 rfl rfl) rfl
theorem dX12_init_438 : decode cX12_init 438 = .ok (.aload_n 0, 1) := q_aload_n0 (bat_get dg_X12_init_421_421 8 rfl rfl)
theorem dX12_init_439 : decode cX12_init 439 = .ok (.bipush 32, 2) := q_bipush (bat_get dg_X12_init_421_421 9 rfl rfl) rfl
theorem dX12_init_441 : decode cX12_init 441 = .ok (.newarray .int, 2) := q_newarray_int (bat_get dg_X12_init_421_421 10 rfl rfl)
theorem dX12_init_443 : decode cX12_init 443 = .ok (.putfield 104, 3) := q_putfield (bat_get dg_X12_init_421_421 11 rfl rfl) rfl
theorem dX12_init_446 : decode cX12_init 446 = .ok (.aload_n 0, 1) := q_aload_n0 (bat_get dg_X12_init_421_421 12 rfl rfl)
theorem dX12_init_447 : decode cX12_init 447 = .ok (.sipush 2400, 3) := q_sipush (bat_get dg_X12_init_421_421 13 rfl rfl) rfl
theorem dX12_init_450 : decode cX12_init 450 = .ok (.newarray .int, 2) := q_newarray_int (bat_get dg_X12_init_421_421 14 rfl rfl)
theorem dX12_init_452 : decode cX12_init 452 = .ok (.putfield 107, 3) := q_putfield (bat_get dg_X12_init_421_421 15 rfl rfl) rfl
theorem dX12_init_455 : decode cX12_init 455 = .ok (.aload_n 0, 1) := q_aload_n0 (bat_get dg_X12_init_421_421 16 rfl rfl)
theorem dX12_init_456 : decode cX12_init 456 = .ok (.lconst 1, 1) := q_lconst1 (bat_get dg_X12_init_421_421 17 rfl rfl)
theorem dX12_init_457 : decode cX12_init 457 = .ok (.putfield 110, 3) := q_putfield (bat_get dg_X12_init_421_421 18 rfl rfl) rfl
theorem dX12_init_460 : decode cX12_init 460 = .ok (.aload_n 0, 1) := q_aload_n0 (bat_get dg_X12_init_421_421 19 rfl rfl)
theorem dX12_init_461 : decode cX12_init 461 = .ok (.iconst 5, 1) := q_iconst5 (bat_get dg_X12_init_421_421 20 rfl rfl)
theorem dX12_init_462 : decode cX12_init 462 = .ok (.newarray .char, 2) := q_newarray_char (bat_get dg_X12_init_421_421 21 rfl rfl)
theorem dX12_init_464 : decode cX12_init 464 = .ok (.dup, 1) := q_dup (bat_get dg_X12_init_421_421 22 rfl rfl)
theorem dX12_init_465 : decode cX12_init 465 = .ok (.iconst 0, 1) := q_iconst0 (bat_get dg_X12_init_421_421 23 rfl rfl)
theorem dX12_init_466 : decode cX12_init 466 = .ok (.bipush 102, 2) := q_bipush (bat_get dg_X12_init_421_421 24 rfl rfl) rfl
theorem dX12_init_468 : decode cX12_init 468 = .ok (.castore, 1) := q_castore (bat_get dg_X12_init_421_421 25 rfl rfl)
theorem dX12_init_469 : decode cX12_init 469 = .ok (.dup, 1) := q_dup (bat_get dg_X12_init_421_421 26 rfl rfl)
theorem dX12_init_470 : decode cX12_init 470 = .ok (.iconst 1, 1) := q_iconst1 (bat_get dg_X12_init_421_421 27 rfl rfl)
theorem dX12_init_471 : decode cX12_init 471 = .ok (.bipush 105, 2) := q_bipush (bat_get dg_X12_init_421_421 28 rfl rfl) rfl
theorem dX12_init_473 : decode cX12_init 473 = .ok (.castore, 1) := q_castore (bat_get dg_X12_init_421_421 29 rfl rfl)
theorem dX12_init_474 : decode cX12_init 474 = .ok (.dup, 1) := q_dup (bat_get dg_X12_init_421_421 30 rfl rfl)
theorem dX12_init_475 : decode cX12_init 475 = .ok (.iconst 2, 1) := q_iconst2 (bat_get dg_X12_init_421_421 31 rfl rfl)
theorem dX12_init_476 : decode cX12_init 476 = .ok (.bipush 114, 2) := q_bipush (bat_get dg_X12_init_421_421 32 rfl rfl) rfl
theorem dX12_init_478 : decode cX12_init 478 = .ok (.castore, 1) := q_castore (bat_get dg_X12_init_421_421 33 rfl rfl)
theorem dX12_init_479 : decode cX12_init 479 = .ok (.dup, 1) := q_dup (bat_get dg_X12_init_421_421 34 rfl rfl)
theorem dX12_init_480 : decode cX12_init 480 = .ok (.iconst 3, 1) := q_iconst3 (bat_get dg_X12_init_421_421 35 rfl rfl)
theorem dX12_init_481 : decode cX12_init 481 = .ok (.bipush 115, 2) := q_bipush (bat_get dg_X12_init_421_421 36 rfl rfl) rfl
theorem dX12_init_483 : decode cX12_init 483 = .ok (.castore, 1) := q_castore (bat_get dg_X12_init_421_421 37 rfl rfl)
theorem dX12_init_484 : decode cX12_init 484 = .ok (.dup, 1) := q_dup (bat_get dg_X12_init_421_421 38 rfl rfl)
theorem dX12_init_485 : decode cX12_init 485 = .ok (.iconst 4, 1) := q_iconst4 (bat_get dg_X12_init_421_421 39 rfl rfl)
theorem dg_X12_init_486_486 : bqL cX12_init 486 [(0, [16, 116]), (2, [85]), (3, [181, 0, 114]), (6, [42]), (7, [7]), (8, [188, 5]), (10, [89]), (11, [3]), (12, [16, 108]), (14, [85]), (15, [89]), (16, [4]), (17, [16, 97]), (19, [85]), (20, [89]), (21, [5]), (22, [16, 115]), (24, [85]), (25, [89]), (26, [6]), (27, [16, 116]), (29, [85]), (30, [181, 0, 117]), (33, [42]), (34, [8]), (35, [188, 5]), (37, [89]), (38, [3]), (39, [16, 111]), (41, [85]), (42, [89]), (43, [4]), (44, [16, 102]), (46, [85]), (47, [89]), (48, [5]), (49, [16, 116]), (51, [85]), (52, [89]), (53, [6])] = true := by decide +kernel
theorem dX12_init_486 : decode cX12_init 486 = .ok (.bipush 116, 2) := q_bipush (bat_get dg_X12_init_486_486 0 rfl rfl) rfl
theorem dX12_init_488 : decode cX12_init 488 = .ok (.castore, 1) := q_castore (bat_get dg_X12_init_486_486 1 rfl rfl)
theorem dX12_init_489 : decode cX12_init 489 = .ok (.putfield 114, 3) := q_putfield (bat_get dg_X12_init_486_486 2 rfl rfl) rfl
theorem dX12_init_492 : decode cX12_init 492 = .ok (.aload_n 0, 1) := q_aload_n0 (bat_get dg_X12_init_486_486 3 rfl rfl)
theorem dX12_init_493 : decode cX12_init 493 = .ok (.iconst 4, 1) := q_iconst4 (bat_get dg_X12_init_486_486 4 rfl rfl)
theorem dX12_init_494 : decode cX12_init 494 = .ok (.newarray .char, 2) := q_newarray_char (bat_get dg_X12_init_486_486 5 rfl rfl)
theorem dX12_init_496 : decode cX12_init 496 = .ok (.dup, 1) := q_dup (bat_get dg_X12_init_486_486 6 rfl rfl)
theorem dX12_init_497 : decode cX12_init 497 = .ok (.iconst 0, 1) := q_iconst0 (bat_get dg_X12_init_486_486 7 rfl rfl)
theorem dX12_init_498 : decode cX12_init 498 = .ok (.bipush 108, 2) := q_bipush (bat_get dg_X12_init_486_486 8 rfl rfl) rfl
theorem dX12_init_500 : decode cX12_init 500 = .ok (.castore, 1) := q_castore (bat_get dg_X12_init_486_486 9 rfl rfl)
theorem dX12_init_501 : decode cX12_init 501 = .ok (.dup, 1) := q_dup (bat_get dg_X12_init_486_486 10 rfl rfl)
theorem dX12_init_502 : decode cX12_init 502 = .ok (.iconst 1, 1) := q_iconst1 (bat_get dg_X12_init_486_486 11 rfl rfl)
theorem dX12_init_503 : decode cX12_init 503 = .ok (.bipush 97, 2) := q_bipush (bat_get dg_X12_init_486_486 12 rfl rfl) rfl
theorem dX12_init_505 : decode cX12_init 505 = .ok (.castore, 1) := q_castore (bat_get dg_X12_init_486_486 13 rfl rfl)
