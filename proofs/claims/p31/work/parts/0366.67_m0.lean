theorem dX12_init_506 : decode cX12_init 506 = .ok (.dup, 1) := q_dup (bat_get dg_X12_init_486_486 14 rfl rfl)
theorem dX12_init_507 : decode cX12_init 507 = .ok (.iconst 2, 1) := q_iconst2 (bat_get dg_X12_init_486_486 15 rfl rfl)
theorem dX12_init_508 : decode cX12_init 508 = .ok (.bipush 115, 2) := q_bipush (bat_get dg_X12_init_486_486 16 rfl rfl) rfl
theorem dX12_init_510 : decode cX12_init 510 = .ok (.castore, 1) := q_castore (bat_get dg_X12_init_486_486 17 rfl rfl)
theorem dX12_init_511 : decode cX12_init 511 = .ok (.dup, 1) := q_dup (bat_get dg_X12_init_486_486 18 rfl rfl)
theorem dX12_init_512 : decode cX12_init 512 = .ok (.iconst 3, 1) := q_iconst3 (bat_get dg_X12_init_486_486 19 rfl rfl)
theorem dX12_init_513 : decode cX12_init 513 = .ok (.bipush 116, 2) := q_bipush (bat_get dg_X12_init_486_486 20 rfl rfl) rfl
theorem dX12_init_515 : decode cX12_init 515 = .ok (.castore, 1) := q_castore (bat_get dg_X12_init_486_486 21 rfl rfl)
theorem dX12_init_516 : decode cX12_init 516 = .ok (.putfield 117, 3) := q_putfield (bat_get dg_X12_init_486_486 22 rfl rfl) rfl
theorem dX12_init_519 : decode cX12_init 519 = .ok (.aload_n 0, 1) := q_aload_n0 (bat_get dg_X12_init_486_486 23 rfl rfl)
theorem dX12_init_520 : decode cX12_init 520 = .ok (.iconst 5, 1) := q_iconst5 (bat_get dg_X12_init_486_486 24 rfl rfl)
theorem dX12_init_521 : decode cX12_init 521 = .ok (.newarray .char, 2) := q_newarray_char (bat_get dg_X12_init_486_486 25 rfl rfl)
theorem dX12_init_523 : decode cX12_init 523 = .ok (.dup, 1) := q_dup (bat_get dg_X12_init_486_486 26 rfl rfl)
theorem dX12_init_524 : decode cX12_init 524 = .ok (.iconst 0, 1) := q_iconst0 (bat_get dg_X12_init_486_486 27 rfl rfl)
theorem dX12_init_525 : decode cX12_init 525 = .ok (.bipush 111, 2) := q_bipush (bat_get dg_X12_init_486_486 28 rfl rfl) rfl
theorem dX12_init_527 : decode cX12_init 527 = .ok (.castore, 1) := q_castore (bat_get dg_X12_init_486_486 29 rfl rfl)
theorem dX12_init_528 : decode cX12_init 528 = .ok (.dup, 1) := q_dup (bat_get dg_X12_init_486_486 30 rfl rfl)
theorem dX12_init_529 : decode cX12_init 529 = .ok (.iconst 1, 1) := q_iconst1 (bat_get dg_X12_init_486_486 31 rfl rfl)
theorem dX12_init_530 : decode cX12_init 530 = .ok (.bipush 102, 2) := q_bipush (bat_get dg_X12_init_486_486 32 rfl rfl) rfl
theorem dX12_init_532 : decode cX12_init 532 = .ok (.castore, 1) := q_castore (bat_get dg_X12_init_486_486 33 rfl rfl)
theorem dX12_init_533 : decode cX12_init 533 = .ok (.dup, 1) := q_dup (bat_get dg_X12_init_486_486 34 rfl rfl)
theorem dX12_init_534 : decode cX12_init 534 = .ok (.iconst 2, 1) := q_iconst2 (bat_get dg_X12_init_486_486 35 rfl rfl)
theorem dX12_init_535 : decode cX12_init 535 = .ok (.bipush 116, 2) := q_bipush (bat_get dg_X12_init_486_486 36 rfl rfl) rfl
theorem dX12_init_537 : decode cX12_init 537 = .ok (.castore, 1) := q_castore (bat_get dg_X12_init_486_486 37 rfl rfl)
theorem dX12_init_538 : decode cX12_init 538 = .ok (.dup, 1) := q_dup (bat_get dg_X12_init_486_486 38 rfl rfl)
theorem dX12_init_539 : decode cX12_init 539 = .ok (.iconst 3, 1) := q_iconst3 (bat_get dg_X12_init_486_486 39 rfl rfl)
theorem dg_X12_init_540_540 : bqL cX12_init 540 [(0, [16, 101]), (2, [85]), (3, [89]), (4, [7]), (5, [16, 110]), (7, [85]), (8, [181, 0, 120]), (11, [42]), (12, [8]), (13, [188, 5]), (15, [89]), (16, [3]), (17, [16, 116]), (19, [85]), (20, [89]), (21, [4]), (22, [16, 111]), (24, [85]), (25, [89]), (26, [5]), (27, [16, 116]), (29, [85]), (30, [89]), (31, [6]), (32, [16, 97]), (34, [85]), (35, [89]), (36, [7]), (37, [16, 108]), (39, [85]), (40, [181, 0, 123]), (43, [42]), (44, [7]), (45, [188, 5]), (47, [89]), (48, [3]), (49, [16, 109]), (51, [85]), (52, [89]), (53, [4])] = true := by decide +kernel
theorem dX12_init_540 : decode cX12_init 540 = .ok (.bipush 101, 2) := q_bipush (bat_get dg_X12_init_540_540 0 rfl rfl) rfl
theorem dX12_init_542 : decode cX12_init 542 = .ok (.castore, 1) := q_castore (bat_get dg_X12_init_540_540 1 rfl rfl)
theorem dX12_init_543 : decode cX12_init 543 = .ok (.dup, 1) := q_dup (bat_get dg_X12_init_540_540 2 rfl rfl)
theorem dX12_init_544 : decode cX12_init 544 = .ok (.iconst 4, 1) := q_iconst4 (bat_get dg_X12_init_540_540 3 rfl rfl)
theorem dX12_init_545 : decode cX12_init 545 = .ok (.bipush 110, 2) := q_bipush (bat_get dg_X12_init_540_540 4 rfl rfl) rfl
theorem dX12_init_547 : decode cX12_init 547 = .ok (.castore, 1) := q_castore (bat_get dg_X12_init_540_540 5 rfl rfl)
theorem dX12_init_548 : decode cX12_init 548 = .ok (.putfield 120, 3) := q_putfield (bat_get dg_X12_init_540_540 6 rfl rfl) rfl
theorem dX12_init_551 : decode cX12_init 551 = .ok (.aload_n 0, 1) := q_aload_n0 (bat_get dg_X12_init_540_540 7 rfl rfl)
theorem dX12_init_552 : decode cX12_init 552 = .ok (.iconst 5, 1) := q_iconst5 (bat_get dg_X12_init_540_540 8 rfl rfl)
theorem dX12_init_553 : decode cX12_init 553 = .ok (.newarray .char, 2) := q_newarray_char (bat_get dg_X12_init_540_540 9 rfl rfl)
theorem dX12_init_555 : decode cX12_init 555 = .ok (.dup, 1) := q_dup (bat_get dg_X12_init_540_540 10 rfl rfl)
theorem dX12_init_556 : decode cX12_init 556 = .ok (.iconst 0, 1) := q_iconst0 (bat_get dg_X12_init_540_540 11 rfl rfl)
theorem dX12_init_557 : decode cX12_init 557 = .ok (.bipush 116, 2) := q_bipush (bat_get dg_X12_init_540_540 12 rfl rfl) rfl
theorem dX12_init_559 : decode cX12_init 559 = .ok (.castore, 1) := q_castore (bat_get dg_X12_init_540_540 13 rfl rfl)
theorem dX12_init_560 : decode cX12_init 560 = .ok (.dup, 1) := q_dup (bat_get dg_X12_init_540_540 14 rfl rfl)
theorem dX12_init_561 : decode cX12_init 561 = .ok (.iconst 1, 1) := q_iconst1 (bat_get dg_X12_init_540_540 15 rfl rfl)
theorem dX12_init_562 : decode cX12_init 562 = .ok (.bipush 111, 2) := q_bipush (bat_get dg_X12_init_540_540 16 rfl rfl) rfl
theorem dX12_init_564 : decode cX12_init 564 = .ok (.castore, 1) := q_castore (bat_get dg_X12_init_540_540 17 rfl rfl)
theorem dX12_init_565 : decode cX12_init 565 = .ok (.dup, 1) := q_dup (bat_get dg_X12_init_540_540 18 rfl rfl)
theorem dX12_init_566 : decode cX12_init 566 = .ok (.iconst 2, 1) := q_iconst2 (bat_get dg_X12_init_540_540 19 rfl rfl)
theorem dX12_init_567 : decode cX12_init 567 = .ok (.bipush 116, 2) := q_bipush (bat_get dg_X12_init_540_540 20 rfl rfl) rfl
theorem dX12_init_569 : decode cX12_init 569 = .ok (.castore, 1) := q_castore (bat_get dg_X12_init_540_540 21 rfl rfl)
theorem dX12_init_570 : decode cX12_init 570 = .ok (.dup, 1) := q_dup (bat_get dg_X12_init_540_540 22 rfl rfl)
theorem dX12_init_571 : decode cX12_init 571 = .ok (.iconst 3, 1) := q_iconst3 (bat_get dg_X12_init_540_540 23 rfl rfl)
theorem dX12_init_572 : decode cX12_init 572 = .ok (.bipush 97, 2) := q_bipush (bat_get dg_X12_init_540_540 24 rfl rfl) rfl
theorem dX12_init_574 : decode cX12_init 574 = .ok (.castore, 1) := q_castore (bat_get dg_X12_init_540_540 25 rfl rfl)
theorem dX12_init_575 : decode cX12_init 575 = .ok (.dup, 1) := q_dup (bat_get dg_X12_init_540_540 26 rfl rfl)
theorem dX12_init_576 : decode cX12_init 576 = .ok (.iconst 4, 1) := q_iconst4 (bat_get dg_X12_init_540_540 27 rfl rfl)
theorem dX12_init_577 : decode cX12_init 577 = .ok (.bipush 108, 2) := q_bipush (bat_get dg_X12_init_540_540 28 rfl rfl) rfl
theorem dX12_init_579 : decode cX12_init 579 = .ok (.castore, 1) := q_castore (bat_get dg_X12_init_540_540 29 rfl rfl)
theorem dX12_init_580 : decode cX12_init 580 = .ok (.putfield 123, 3) := q_putfield (bat_get dg_X12_init_540_540 30 rfl rfl) rfl
theorem dX12_init_583 : decode cX12_init 583 = .ok (.aload_n 0, 1) := q_aload_n0 (bat_get dg_X12_init_540_540 31 rfl rfl)
theorem dX12_init_584 : decode cX12_init 584 = .ok (.iconst 4, 1) := q_iconst4 (bat_get dg_X12_init_540_540 32 rfl rfl)
theorem dX12_init_585 : decode cX12_init 585 = .ok (.newarray .char, 2) := q_newarray_char (bat_get dg_X12_init_540_540 33 rfl rfl)
theorem dX12_init_587 : decode cX12_init 587 = .ok (.dup, 1) := q_dup (bat_get dg_X12_init_540_540 34 rfl rfl)
theorem dX12_init_588 : decode cX12_init 588 = .ok (.iconst 0, 1) := q_iconst0 (bat_get dg_X12_init_540_540 35 rfl rfl)
theorem dX12_init_589 : decode cX12_init 589 = .ok (.bipush 109, 2) := q_bipush (bat_get dg_X12_init_540_540 36 rfl rfl) rfl
theorem dX12_init_591 : decode cX12_init 591 = .ok (.castore, 1) := q_castore (bat_get dg_X12_init_540_540 37 rfl rfl)
theorem dX12_init_592 : decode cX12_init 592 = .ok (.dup, 1) := q_dup (bat_get dg_X12_init_540_540 38 rfl rfl)
theorem dX12_init_593 : decode cX12_init 593 = .ok (.iconst 1, 1) := q_iconst1 (bat_get dg_X12_init_540_540 39 rfl rfl)

