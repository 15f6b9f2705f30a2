-- the law's code, forty rows at once
def zLaw5 : List (Nat × Instr × Nat) := [(406, .invokevirtual 40, 3), (409, .aload_n 2, 1), (410, .aload_n 0, 1), (411, .iload_n 3, 1), (412, .iconst 1, 1), (413, .iadd, 1), (414, .iaload, 1), (415, .invokevirtual 43, 3), (418, .if_icmp .eq 884, 3), (421, .iconst 0, 1), (422, .ireturn, 1), (423, .aload_n 1, 1), (424, .aload_n 0, 1), (425, .iload_n 3, 1), (426, .iconst 1, 1), (427, .iadd, 1), (428, .iaload, 1), (429, .invokevirtual 44, 3), (432, .aload_n 2, 1), (433, .aload_n 0, 1), (434, .iload_n 3, 1), (435, .iconst 1, 1), (436, .iadd, 1), (437, .iaload, 1), (438, .invokevirtual 47, 3), (441, .if_icmp .eq 861, 3), (444, .iconst 0, 1), (445, .ireturn, 1), (446, .aload_n 1, 1), (447, .aload_n 0, 1), (448, .iload_n 3, 1), (449, .iconst 1, 1), (450, .iadd, 1), (451, .iaload, 1), (452, .invokevirtual 48, 3), (455, .aload_n 2, 1), (456, .aload_n 0, 1), (457, .iload_n 3, 1), (458, .iconst 1, 1), (459, .iadd, 1)]
theorem zLaw5_ok : zLaw5.all (fun e => match decode code e.1 with | .ok x => decide (x.1 = e.2.1 ∧ x.2 = e.2.2) | _ => false) = true := by decide +kernel
set_option maxRecDepth 100000 in
theorem dL_406 : decode code 406 = .ok (.invokevirtual 40, 3) := dLg zLaw5_ok (by decide +kernel)
set_option maxRecDepth 100000 in
theorem dL_409 : decode code 409 = .ok (.aload_n 2, 1) := dLg zLaw5_ok (by decide +kernel)
set_option maxRecDepth 100000 in
theorem dL_410 : decode code 410 = .ok (.aload_n 0, 1) := dLg zLaw5_ok (by decide +kernel)
set_option maxRecDepth 100000 in
theorem dL_411 : decode code 411 = .ok (.iload_n 3, 1) := dLg zLaw5_ok (by decide +kernel)
set_option maxRecDepth 100000 in
theorem dL_412 : decode code 412 = .ok (.iconst 1, 1) := dLg zLaw5_ok (by decide +kernel)
set_option maxRecDepth 100000 in
theorem dL_413 : decode code 413 = .ok (.iadd, 1) := dLg zLaw5_ok (by decide +kernel)
set_option maxRecDepth 100000 in
theorem dL_414 : decode code 414 = .ok (.iaload, 1) := dLg zLaw5_ok (by decide +kernel)
set_option maxRecDepth 100000 in
theorem dL_415 : decode code 415 = .ok (.invokevirtual 43, 3) := dLg zLaw5_ok (by decide +kernel)
set_option maxRecDepth 100000 in
theorem dL_418 : decode code 418 = .ok (.if_icmp .eq 884, 3) := dLg zLaw5_ok (by decide +kernel)
set_option maxRecDepth 100000 in
theorem dL_421 : decode code 421 = .ok (.iconst 0, 1) := dLg zLaw5_ok (by decide +kernel)
set_option maxRecDepth 100000 in
theorem dL_422 : decode code 422 = .ok (.ireturn, 1) := dLg zLaw5_ok (by decide +kernel)
set_option maxRecDepth 100000 in
theorem dL_423 : decode code 423 = .ok (.aload_n 1, 1) := dLg zLaw5_ok (by decide +kernel)
set_option maxRecDepth 100000 in
theorem dL_424 : decode code 424 = .ok (.aload_n 0, 1) := dLg zLaw5_ok (by decide +kernel)
set_option maxRecDepth 100000 in
theorem dL_425 : decode code 425 = .ok (.iload_n 3, 1) := dLg zLaw5_ok (by decide +kernel)
set_option maxRecDepth 100000 in
theorem dL_426 : decode code 426 = .ok (.iconst 1, 1) := dLg zLaw5_ok (by decide +kernel)
set_option maxRecDepth 100000 in
theorem dL_427 : decode code 427 = .ok (.iadd, 1) := dLg zLaw5_ok (by decide +kernel)
set_option maxRecDepth 100000 in
theorem dL_428 : decode code 428 = .ok (.iaload, 1) := dLg zLaw5_ok (by decide +kernel)
set_option maxRecDepth 100000 in
theorem dL_429 : decode code 429 = .ok (.invokevirtual 44, 3) := dLg zLaw5_ok (by decide +kernel)
set_option maxRecDepth 100000 in
theorem dL_432 : decode code 432 = .ok (.aload_n 2, 1) := dLg zLaw5_ok (by decide +kernel)
set_option maxRecDepth 100000 in
theorem dL_433 : decode code 433 = .ok (.aload_n 0, 1) := dLg zLaw5_ok (by decide +kernel)
set_option maxRecDepth 100000 in
theorem dL_434 : decode code 434 = .ok (.iload_n 3, 1) := dLg zLaw5_ok (by decide +kernel)
set_option maxRecDepth 100000 in
theorem dL_435 : decode code 435 = .ok (.iconst 1, 1) := dLg zLaw5_ok (by decide +kernel)
set_option maxRecDepth 100000 in
theorem dL_436 : decode code 436 = .ok (.iadd, 1) := dLg zLaw5_ok (by decide +kernel)
set_option maxRecDepth 100000 in
theorem dL_437 : decode code 437 = .ok (.iaload, 1) := dLg zLaw5_ok (by decide +kernel)
set_option maxRecDepth 100000 in
theorem dL_438 : decode code 438 = .ok (.invokevirtual 47, 3) := dLg zLaw5_ok (by decide +kernel)
set_option maxRecDepth 100000 in
theorem dL_441 : decode code 441 = .ok (.if_icmp .eq 861, 3) := dLg zLaw5_ok (by decide +kernel)
set_option maxRecDepth 100000 in
theorem dL_444 : decode code 444 = .ok (.iconst 0, 1) := dLg zLaw5_ok (by decide +kernel)
set_option maxRecDepth 100000 in
theorem dL_445 : decode code 445 = .ok (.ireturn, 1) := dLg zLaw5_ok (by decide +kernel)
set_option maxRecDepth 100000 in
theorem dL_446 : decode code 446 = .ok (.aload_n 1, 1) := dLg zLaw5_ok (by decide +kernel)
set_option maxRecDepth 100000 in
theorem dL_447 : decode code 447 = .ok (.aload_n 0, 1) := dLg zLaw5_ok (by decide +kernel)
set_option maxRecDepth 100000 in
theorem dL_448 : decode code 448 = .ok (.iload_n 3, 1) := dLg zLaw5_ok (by decide +kernel)
set_option maxRecDepth 100000 in
theorem dL_449 : decode code 449 = .ok (.iconst 1, 1) := dLg zLaw5_ok (by decide +kernel)
set_option maxRecDepth 100000 in
theorem dL_450 : decode code 450 = .ok (.iadd, 1) := dLg zLaw5_ok (by decide +kernel)
set_option maxRecDepth 100000 in
theorem dL_451 : decode code 451 = .ok (.iaload, 1) := dLg zLaw5_ok (by decide +kernel)
set_option maxRecDepth 100000 in
theorem dL_452 : decode code 452 = .ok (.invokevirtual 48, 3) := dLg zLaw5_ok (by decide +kernel)
set_option maxRecDepth 100000 in
theorem dL_455 : decode code 455 = .ok (.aload_n 2, 1) := dLg zLaw5_ok (by decide +kernel)
set_option maxRecDepth 100000 in
theorem dL_456 : decode code 456 = .ok (.aload_n 0, 1) := dLg zLaw5_ok (by decide +kernel)
set_option maxRecDepth 100000 in
theorem dL_457 : decode code 457 = .ok (.iload_n 3, 1) := dLg zLaw5_ok (by decide +kernel)
set_option maxRecDepth 100000 in
theorem dL_458 : decode code 458 = .ok (.iconst 1, 1) := dLg zLaw5_ok (by decide +kernel)
set_option maxRecDepth 100000 in
theorem dL_459 : decode code 459 = .ok (.iadd, 1) := dLg zLaw5_ok (by decide +kernel)
def zLaw6 : List (Nat × Instr × Nat) := [(460, .iaload, 1), (461, .invokevirtual 51, 3), (464, .if_icmp .eq 838, 3), (467, .iconst 0, 1), (468, .ireturn, 1), (469, .aload_n 1, 1), (470, .aload_n 0, 1), (471, .iload_n 3, 1), (472, .iconst 1, 1), (473, .iadd, 1), (474, .iaload, 1), (475, .invokevirtual 52, 3), (478, .aload_n 2, 1), (479, .aload_n 0, 1), (480, .iload_n 3, 1), (481, .iconst 1, 1), (482, .iadd, 1), (483, .iaload, 1), (484, .invokevirtual 55, 3), (487, .if_icmp .eq 815, 3), (490, .iconst 0, 1), (491, .ireturn, 1), (492, .aload_n 1, 1), (493, .aload_n 0, 1), (494, .iload_n 3, 1), (495, .iconst 1, 1), (496, .iadd, 1), (497, .iaload, 1), (498, .invokevirtual 56, 3), (501, .aload_n 2, 1), (502, .aload_n 0, 1), (503, .iload_n 3, 1), (504, .iconst 1, 1), (505, .iadd, 1), (506, .iaload, 1), (507, .invokevirtual 59, 3), (510, .if_icmp .eq 792, 3), (513, .iconst 0, 1), (514, .ireturn, 1), (515, .aload_n 1, 1)]
theorem zLaw6_ok : zLaw6.all (fun e => match decode code e.1 with | .ok x => decide (x.1 = e.2.1 ∧ x.2 = e.2.2) | _ => false) = true := by decide +kernel
set_option maxRecDepth 100000 in
theorem dL_460 : decode code 460 = .ok (.iaload, 1) := dLg zLaw6_ok (by decide +kernel)
set_option maxRecDepth 100000 in
theorem dL_461 : decode code 461 = .ok (.invokevirtual 51, 3) := dLg zLaw6_ok (by decide +kernel)
set_option maxRecDepth 100000 in
theorem dL_464 : decode code 464 = .ok (.if_icmp .eq 838, 3) := dLg zLaw6_ok (by decide +kernel)
set_option maxRecDepth 100000 in
theorem dL_467 : decode code 467 = .ok (.iconst 0, 1) := dLg zLaw6_ok (by decide +kernel)
set_option maxRecDepth 100000 in
theorem dL_468 : decode code 468 = .ok (.ireturn, 1) := dLg zLaw6_ok (by decide +kernel)
set_option maxRecDepth 100000 in
theorem dL_469 : decode code 469 = .ok (.aload_n 1, 1) := dLg zLaw6_ok (by decide +kernel)
set_option maxRecDepth 100000 in
theorem dL_470 : decode code 470 = .ok (.aload_n 0, 1) := dLg zLaw6_ok (by decide +kernel)
set_option maxRecDepth 100000 in
theorem dL_471 : decode code 471 = .ok (.iload_n 3, 1) := dLg zLaw6_ok (by decide +kernel)
set_option maxRecDepth 100000 in
theorem dL_472 : decode code 472 = .ok (.iconst 1, 1) := dLg zLaw6_ok (by decide +kernel)
set_option maxRecDepth 100000 in
theorem dL_473 : decode code 473 = .ok (.iadd, 1) := dLg zLaw6_ok (by decide +kernel)
set_option maxRecDepth 100000 in
theorem dL_474 : decode code 474 = .ok (.iaload, 1) := dLg zLaw6_ok (by decide +kernel)
set_option maxRecDepth 100000 in
theorem dL_475 : decode code 475 = .ok (.invokevirtual 52, 3) := dLg zLaw6_ok (by decide +kernel)
set_option maxRecDepth 100000 in
theorem dL_478 : decode code 478 = .ok (.aload_n 2, 1) := dLg zLaw6_ok (by decide +kernel)
set_option maxRecDepth 100000 in
theorem dL_479 : decode code 479 = .ok (.aload_n 0, 1) := dLg zLaw6_ok (by decide +kernel)
set_option maxRecDepth 100000 in
theorem dL_480 : decode code 480 = .ok (.iload_n 3, 1) := dLg zLaw6_ok (by decide +kernel)
set_option maxRecDepth 100000 in
theorem dL_481 : decode code 481 = .ok (.iconst 1, 1) := dLg zLaw6_ok (by decide +kernel)
set_option maxRecDepth 100000 in
theorem dL_482 : decode code 482 = .ok (.iadd, 1) := dLg zLaw6_ok (by decide +kernel)
set_option maxRecDepth 100000 in
theorem dL_483 : decode code 483 = .ok (.iaload, 1) := dLg zLaw6_ok (by decide +kernel)
set_option maxRecDepth 100000 in
theorem dL_484 : decode code 484 = .ok (.invokevirtual 55, 3) := dLg zLaw6_ok (by decide +kernel)
set_option maxRecDepth 100000 in
theorem dL_487 : decode code 487 = .ok (.if_icmp .eq 815, 3) := dLg zLaw6_ok (by decide +kernel)
set_option maxRecDepth 100000 in
theorem dL_490 : decode code 490 = .ok (.iconst 0, 1) := dLg zLaw6_ok (by decide +kernel)
set_option maxRecDepth 100000 in
theorem dL_491 : decode code 491 = .ok (.ireturn, 1) := dLg zLaw6_ok (by decide +kernel)
set_option maxRecDepth 100000 in
theorem dL_492 : decode code 492 = .ok (.aload_n 1, 1) := dLg zLaw6_ok (by decide +kernel)
set_option maxRecDepth 100000 in
theorem dL_493 : decode code 493 = .ok (.aload_n 0, 1) := dLg zLaw6_ok (by decide +kernel)
set_option maxRecDepth 100000 in
theorem dL_494 : decode code 494 = .ok (.iload_n 3, 1) := dLg zLaw6_ok (by decide +kernel)
set_option maxRecDepth 100000 in
theorem dL_495 : decode code 495 = .ok (.iconst 1, 1) := dLg zLaw6_ok (by decide +kernel)
set_option maxRecDepth 100000 in
theorem dL_496 : decode code 496 = .ok (.iadd, 1) := dLg zLaw6_ok (by decide +kernel)
set_option maxRecDepth 100000 in
theorem dL_497 : decode code 497 = .ok (.iaload, 1) := dLg zLaw6_ok (by decide +kernel)
set_option maxRecDepth 100000 in
theorem dL_498 : decode code 498 = .ok (.invokevirtual 56, 3) := dLg zLaw6_ok (by decide +kernel)
set_option maxRecDepth 100000 in
theorem dL_501 : decode code 501 = .ok (.aload_n 2, 1) := dLg zLaw6_ok (by decide +kernel)
set_option maxRecDepth 100000 in
theorem dL_502 : decode code 502 = .ok (.aload_n 0, 1) := dLg zLaw6_ok (by decide +kernel)
set_option maxRecDepth 100000 in
theorem dL_503 : decode code 503 = .ok (.iload_n 3, 1) := dLg zLaw6_ok (by decide +kernel)
set_option maxRecDepth 100000 in
theorem dL_504 : decode code 504 = .ok (.iconst 1, 1) := dLg zLaw6_ok (by decide +kernel)
set_option maxRecDepth 100000 in
theorem dL_505 : decode code 505 = .ok (.iadd, 1) := dLg zLaw6_ok (by decide +kernel)
set_option maxRecDepth 100000 in
theorem dL_506 : decode code 506 = .ok (.iaload, 1) := dLg zLaw6_ok (by decide +kernel)
set_option maxRecDepth 100000 in
theorem dL_507 : decode code 507 = .ok (.invokevirtual 59, 3) := dLg zLaw6_ok (by decide +kernel)
set_option maxRecDepth 100000 in
theorem dL_510 : decode code 510 = .ok (.if_icmp .eq 792, 3) := dLg zLaw6_ok (by decide +kernel)
set_option maxRecDepth 100000 in
theorem dL_513 : decode code 513 = .ok (.iconst 0, 1) := dLg zLaw6_ok (by decide +kernel)
set_option maxRecDepth 100000 in
theorem dL_514 : decode code 514 = .ok (.ireturn, 1) := dLg zLaw6_ok (by decide +kernel)
set_option maxRecDepth 100000 in
theorem dL_515 : decode code 515 = .ok (.aload_n 1, 1) := dLg zLaw6_ok (by decide +kernel)
def zLaw7 : List (Nat × Instr × Nat) := [(516, .aload_n 0, 1), (517, .iload_n 3, 1), (518, .iconst 1, 1), (519, .iadd, 1), (520, .iaload, 1), (521, .invokevirtual 60, 3), (524, .aload_n 2, 1), (525, .aload_n 0, 1), (526, .iload_n 3, 1), (527, .iconst 1, 1), (528, .iadd, 1), (529, .iaload, 1), (530, .invokevirtual 63, 3), (533, .if_icmp .eq 769, 3), (536, .iconst 0, 1), (537, .ireturn, 1), (538, .aload_n 1, 1), (539, .aload_n 0, 1), (540, .iload_n 3, 1), (541, .iconst 1, 1), (542, .iadd, 1), (543, .iaload, 1), (544, .aload_n 0, 1), (545, .iload_n 3, 1), (546, .iconst 2, 1), (547, .iadd, 1), (548, .iaload, 1), (549, .aload_n 0, 1), (550, .iload_n 3, 1), (551, .iconst 3, 1), (552, .iadd, 1), (553, .iaload, 1), (554, .aload_n 0, 1), (555, .iload_n 3, 1), (556, .iconst 4, 1), (557, .iadd, 1), (558, .iaload, 1), (559, .aload_n 0, 1), (560, .iload_n 3, 1), (561, .iconst 5, 1)]
theorem zLaw7_ok : zLaw7.all (fun e => match decode code e.1 with | .ok x => decide (x.1 = e.2.1 ∧ x.2 = e.2.2) | _ => false) = true := by decide +kernel
set_option maxRecDepth 100000 in
theorem dL_516 : decode code 516 = .ok (.aload_n 0, 1) := dLg zLaw7_ok (by decide +kernel)
set_option maxRecDepth 100000 in
theorem dL_517 : decode code 517 = .ok (.iload_n 3, 1) := dLg zLaw7_ok (by decide +kernel)
set_option maxRecDepth 100000 in
theorem dL_518 : decode code 518 = .ok (.iconst 1, 1) := dLg zLaw7_ok (by decide +kernel)
set_option maxRecDepth 100000 in
theorem dL_519 : decode code 519 = .ok (.iadd, 1) := dLg zLaw7_ok (by decide +kernel)
set_option maxRecDepth 100000 in
theorem dL_520 : decode code 520 = .ok (.iaload, 1) := dLg zLaw7_ok (by decide +kernel)
set_option maxRecDepth 100000 in
theorem dL_521 : decode code 521 = .ok (.invokevirtual 60, 3) := dLg zLaw7_ok (by decide +kernel)
set_option maxRecDepth 100000 in
theorem dL_524 : decode code 524 = .ok (.aload_n 2, 1) := dLg zLaw7_ok (by decide +kernel)
set_option maxRecDepth 100000 in
theorem dL_525 : decode code 525 = .ok (.aload_n 0, 1) := dLg zLaw7_ok (by decide +kernel)
set_option maxRecDepth 100000 in
theorem dL_526 : decode code 526 = .ok (.iload_n 3, 1) := dLg zLaw7_ok (by decide +kernel)
set_option maxRecDepth 100000 in
theorem dL_527 : decode code 527 = .ok (.iconst 1, 1) := dLg zLaw7_ok (by decide +kernel)
set_option maxRecDepth 100000 in
theorem dL_528 : decode code 528 = .ok (.iadd, 1) := dLg zLaw7_ok (by decide +kernel)
set_option maxRecDepth 100000 in
theorem dL_529 : decode code 529 = .ok (.iaload, 1) := dLg zLaw7_ok (by decide +kernel)
set_option maxRecDepth 100000 in
theorem dL_530 : decode code 530 = .ok (.invokevirtual 63, 3) := dLg zLaw7_ok (by decide +kernel)
set_option maxRecDepth 100000 in
theorem dL_533 : decode code 533 = .ok (.if_icmp .eq 769, 3) := dLg zLaw7_ok (by decide +kernel)
set_option maxRecDepth 100000 in
theorem dL_536 : decode code 536 = .ok (.iconst 0, 1) := dLg zLaw7_ok (by decide +kernel)
set_option maxRecDepth 100000 in
theorem dL_537 : decode code 537 = .ok (.ireturn, 1) := dLg zLaw7_ok (by decide +kernel)
set_option maxRecDepth 100000 in
theorem dL_538 : decode code 538 = .ok (.aload_n 1, 1) := dLg zLaw7_ok (by decide +kernel)
set_option maxRecDepth 100000 in
theorem dL_539 : decode code 539 = .ok (.aload_n 0, 1) := dLg zLaw7_ok (by decide +kernel)
set_option maxRecDepth 100000 in
theorem dL_540 : decode code 540 = .ok (.iload_n 3, 1) := dLg zLaw7_ok (by decide +kernel)
set_option maxRecDepth 100000 in
theorem dL_541 : decode code 541 = .ok (.iconst 1, 1) := dLg zLaw7_ok (by decide +kernel)
set_option maxRecDepth 100000 in
theorem dL_542 : decode code 542 = .ok (.iadd, 1) := dLg zLaw7_ok (by decide +kernel)
set_option maxRecDepth 100000 in
theorem dL_543 : decode code 543 = .ok (.iaload, 1) := dLg zLaw7_ok (by decide +kernel)
set_option maxRecDepth 100000 in
theorem dL_544 : decode code 544 = .ok (.aload_n 0, 1) := dLg zLaw7_ok (by decide +kernel)
set_option maxRecDepth 100000 in
theorem dL_545 : decode code 545 = .ok (.iload_n 3, 1) := dLg zLaw7_ok (by decide +kernel)
set_option maxRecDepth 100000 in
theorem dL_546 : decode code 546 = .ok (.iconst 2, 1) := dLg zLaw7_ok (by decide +kernel)
set_option maxRecDepth 100000 in
theorem dL_547 : decode code 547 = .ok (.iadd, 1) := dLg zLaw7_ok (by decide +kernel)
set_option maxRecDepth 100000 in
theorem dL_548 : decode code 548 = .ok (.iaload, 1) := dLg zLaw7_ok (by decide +kernel)
set_option maxRecDepth 100000 in
theorem dL_549 : decode code 549 = .ok (.aload_n 0, 1) := dLg zLaw7_ok (by decide +kernel)
set_option maxRecDepth 100000 in
theorem dL_550 : decode code 550 = .ok (.iload_n 3, 1) := dLg zLaw7_ok (by decide +kernel)
set_option maxRecDepth 100000 in
theorem dL_551 : decode code 551 = .ok (.iconst 3, 1) := dLg zLaw7_ok (by decide +kernel)
set_option maxRecDepth 100000 in
theorem dL_552 : decode code 552 = .ok (.iadd, 1) := dLg zLaw7_ok (by decide +kernel)
set_option maxRecDepth 100000 in
theorem dL_553 : decode code 553 = .ok (.iaload, 1) := dLg zLaw7_ok (by decide +kernel)
set_option maxRecDepth 100000 in
theorem dL_554 : decode code 554 = .ok (.aload_n 0, 1) := dLg zLaw7_ok (by decide +kernel)
set_option maxRecDepth 100000 in
theorem dL_555 : decode code 555 = .ok (.iload_n 3, 1) := dLg zLaw7_ok (by decide +kernel)
set_option maxRecDepth 100000 in
theorem dL_556 : decode code 556 = .ok (.iconst 4, 1) := dLg zLaw7_ok (by decide +kernel)
set_option maxRecDepth 100000 in
theorem dL_557 : decode code 557 = .ok (.iadd, 1) := dLg zLaw7_ok (by decide +kernel)
set_option maxRecDepth 100000 in
theorem dL_558 : decode code 558 = .ok (.iaload, 1) := dLg zLaw7_ok (by decide +kernel)
set_option maxRecDepth 100000 in
theorem dL_559 : decode code 559 = .ok (.aload_n 0, 1) := dLg zLaw7_ok (by decide +kernel)
set_option maxRecDepth 100000 in
theorem dL_560 : decode code 560 = .ok (.iload_n 3, 1) := dLg zLaw7_ok (by decide +kernel)
set_option maxRecDepth 100000 in
theorem dL_561 : decode code 561 = .ok (.iconst 5, 1) := dLg zLaw7_ok (by decide +kernel)
def zLaw8 : List (Nat × Instr × Nat) := [(562, .iadd, 1), (563, .iaload, 1), (564, .invokevirtual 64, 3), (567, .aload_n 2, 1), (568, .aload_n 0, 1), (569, .iload_n 3, 1), (570, .iconst 1, 1), (571, .iadd, 1), (572, .iaload, 1), (573, .aload_n 0, 1), (574, .iload_n 3, 1), (575, .iconst 2, 1), (576, .iadd, 1), (577, .iaload, 1), (578, .aload_n 0, 1), (579, .iload_n 3, 1), (580, .iconst 3, 1), (581, .iadd, 1), (582, .iaload, 1), (583, .aload_n 0, 1), (584, .iload_n 3, 1), (585, .iconst 4, 1), (586, .iadd, 1), (587, .iaload, 1), (588, .aload_n 0, 1), (589, .iload_n 3, 1), (590, .iconst 5, 1), (591, .iadd, 1), (592, .iaload, 1), (593, .invokevirtual 68, 3), (596, .if_icmp .eq 706, 3), (599, .iconst 0, 1), (600, .ireturn, 1), (601, .aload_n 1, 1), (602, .aload_n 0, 1), (603, .iload_n 3, 1), (604, .iconst 1, 1), (605, .iadd, 1), (606, .iaload, 1), (607, .invokevirtual 69, 3)]
theorem zLaw8_ok : zLaw8.all (fun e => match decode code e.1 with | .ok x => decide (x.1 = e.2.1 ∧ x.2 = e.2.2) | _ => false) = true := by decide +kernel
set_option maxRecDepth 100000 in
theorem dL_562 : decode code 562 = .ok (.iadd, 1) := dLg zLaw8_ok (by decide +kernel)
set_option maxRecDepth 100000 in
theorem dL_563 : decode code 563 = .ok (.iaload, 1) := dLg zLaw8_ok (by decide +kernel)
set_option maxRecDepth 100000 in
theorem dL_564 : decode code 564 = .ok (.invokevirtual 64, 3) := dLg zLaw8_ok (by decide +kernel)
set_option maxRecDepth 100000 in
theorem dL_567 : decode code 567 = .ok (.aload_n 2, 1) := dLg zLaw8_ok (by decide +kernel)
set_option maxRecDepth 100000 in
theorem dL_568 : decode code 568 = .ok (.aload_n 0, 1) := dLg zLaw8_ok (by decide +kernel)
set_option maxRecDepth 100000 in
theorem dL_569 : decode code 569 = .ok (.iload_n 3, 1) := dLg zLaw8_ok (by decide +kernel)
set_option maxRecDepth 100000 in
theorem dL_570 : decode code 570 = .ok (.iconst 1, 1) := dLg zLaw8_ok (by decide +kernel)
set_option maxRecDepth 100000 in
theorem dL_571 : decode code 571 = .ok (.iadd, 1) := dLg zLaw8_ok (by decide +kernel)
set_option maxRecDepth 100000 in
theorem dL_572 : decode code 572 = .ok (.iaload, 1) := dLg zLaw8_ok (by decide +kernel)
set_option maxRecDepth 100000 in
theorem dL_573 : decode code 573 = .ok (.aload_n 0, 1) := dLg zLaw8_ok (by decide +kernel)
set_option maxRecDepth 100000 in
theorem dL_574 : decode code 574 = .ok (.iload_n 3, 1) := dLg zLaw8_ok (by decide +kernel)
set_option maxRecDepth 100000 in
theorem dL_575 : decode code 575 = .ok (.iconst 2, 1) := dLg zLaw8_ok (by decide +kernel)
set_option maxRecDepth 100000 in
theorem dL_576 : decode code 576 = .ok (.iadd, 1) := dLg zLaw8_ok (by decide +kernel)
set_option maxRecDepth 100000 in
theorem dL_577 : decode code 577 = .ok (.iaload, 1) := dLg zLaw8_ok (by decide +kernel)
set_option maxRecDepth 100000 in
theorem dL_578 : decode code 578 = .ok (.aload_n 0, 1) := dLg zLaw8_ok (by decide +kernel)
set_option maxRecDepth 100000 in
theorem dL_579 : decode code 579 = .ok (.iload_n 3, 1) := dLg zLaw8_ok (by decide +kernel)
set_option maxRecDepth 100000 in
theorem dL_580 : decode code 580 = .ok (.iconst 3, 1) := dLg zLaw8_ok (by decide +kernel)
set_option maxRecDepth 100000 in
theorem dL_581 : decode code 581 = .ok (.iadd, 1) := dLg zLaw8_ok (by decide +kernel)
set_option maxRecDepth 100000 in
theorem dL_582 : decode code 582 = .ok (.iaload, 1) := dLg zLaw8_ok (by decide +kernel)
set_option maxRecDepth 100000 in
theorem dL_583 : decode code 583 = .ok (.aload_n 0, 1) := dLg zLaw8_ok (by decide +kernel)
set_option maxRecDepth 100000 in
theorem dL_584 : decode code 584 = .ok (.iload_n 3, 1) := dLg zLaw8_ok (by decide +kernel)
set_option maxRecDepth 100000 in
theorem dL_585 : decode code 585 = .ok (.iconst 4, 1) := dLg zLaw8_ok (by decide +kernel)
set_option maxRecDepth 100000 in
theorem dL_586 : decode code 586 = .ok (.iadd, 1) := dLg zLaw8_ok (by decide +kernel)
set_option maxRecDepth 100000 in
theorem dL_587 : decode code 587 = .ok (.iaload, 1) := dLg zLaw8_ok (by decide +kernel)
set_option maxRecDepth 100000 in
theorem dL_588 : decode code 588 = .ok (.aload_n 0, 1) := dLg zLaw8_ok (by decide +kernel)
set_option maxRecDepth 100000 in
theorem dL_589 : decode code 589 = .ok (.iload_n 3, 1) := dLg zLaw8_ok (by decide +kernel)
set_option maxRecDepth 100000 in
theorem dL_590 : decode code 590 = .ok (.iconst 5, 1) := dLg zLaw8_ok (by decide +kernel)
set_option maxRecDepth 100000 in
theorem dL_591 : decode code 591 = .ok (.iadd, 1) := dLg zLaw8_ok (by decide +kernel)
set_option maxRecDepth 100000 in
theorem dL_592 : decode code 592 = .ok (.iaload, 1) := dLg zLaw8_ok (by decide +kernel)
set_option maxRecDepth 100000 in
theorem dL_593 : decode code 593 = .ok (.invokevirtual 68, 3) := dLg zLaw8_ok (by decide +kernel)
set_option maxRecDepth 100000 in
theorem dL_596 : decode code 596 = .ok (.if_icmp .eq 706, 3) := dLg zLaw8_ok (by decide +kernel)
set_option maxRecDepth 100000 in
theorem dL_599 : decode code 599 = .ok (.iconst 0, 1) := dLg zLaw8_ok (by decide +kernel)
set_option maxRecDepth 100000 in
theorem dL_600 : decode code 600 = .ok (.ireturn, 1) := dLg zLaw8_ok (by decide +kernel)
set_option maxRecDepth 100000 in
theorem dL_601 : decode code 601 = .ok (.aload_n 1, 1) := dLg zLaw8_ok (by decide +kernel)
set_option maxRecDepth 100000 in
theorem dL_602 : decode code 602 = .ok (.aload_n 0, 1) := dLg zLaw8_ok (by decide +kernel)
set_option maxRecDepth 100000 in
theorem dL_603 : decode code 603 = .ok (.iload_n 3, 1) := dLg zLaw8_ok (by decide +kernel)
set_option maxRecDepth 100000 in
theorem dL_604 : decode code 604 = .ok (.iconst 1, 1) := dLg zLaw8_ok (by decide +kernel)
set_option maxRecDepth 100000 in
theorem dL_605 : decode code 605 = .ok (.iadd, 1) := dLg zLaw8_ok (by decide +kernel)
set_option maxRecDepth 100000 in
theorem dL_606 : decode code 606 = .ok (.iaload, 1) := dLg zLaw8_ok (by decide +kernel)
set_option maxRecDepth 100000 in
theorem dL_607 : decode code 607 = .ok (.invokevirtual 69, 3) := dLg zLaw8_ok (by decide +kernel)
def zLaw9 : List (Nat × Instr × Nat) := [(610, .aload_n 2, 1), (611, .aload_n 0, 1), (612, .iload_n 3, 1), (613, .iconst 1, 1), (614, .iadd, 1), (615, .iaload, 1), (616, .invokevirtual 72, 3), (619, .if_icmp .eq 683, 3), (622, .iconst 0, 1), (623, .ireturn, 1), (624, .aload_n 1, 1), (625, .aload_n 0, 1), (626, .iload_n 3, 1), (627, .iconst 1, 1), (628, .iadd, 1), (629, .iaload, 1), (630, .aload_n 0, 1), (631, .iload_n 3, 1), (632, .iconst 2, 1), (633, .iadd, 1), (634, .iaload, 1), (635, .invokevirtual 73, 3), (638, .aload_n 2, 1), (639, .aload_n 0, 1), (640, .iload_n 3, 1), (641, .iconst 1, 1), (642, .iadd, 1), (643, .iaload, 1), (644, .aload_n 0, 1), (645, .iload_n 3, 1), (646, .iconst 2, 1), (647, .iadd, 1), (648, .iaload, 1), (649, .invokevirtual 76, 3), (652, .if_icmp .eq 650, 3), (655, .iconst 0, 1), (656, .ireturn, 1), (657, .aload_n 1, 1), (658, .aload_n 0, 1), (659, .iload_n 3, 1)]
theorem zLaw9_ok : zLaw9.all (fun e => match decode code e.1 with | .ok x => decide (x.1 = e.2.1 ∧ x.2 = e.2.2) | _ => false) = true := by decide +kernel
set_option maxRecDepth 100000 in
theorem dL_610 : decode code 610 = .ok (.aload_n 2, 1) := dLg zLaw9_ok (by decide +kernel)
set_option maxRecDepth 100000 in
theorem dL_611 : decode code 611 = .ok (.aload_n 0, 1) := dLg zLaw9_ok (by decide +kernel)
set_option maxRecDepth 100000 in
theorem dL_612 : decode code 612 = .ok (.iload_n 3, 1) := dLg zLaw9_ok (by decide +kernel)
set_option maxRecDepth 100000 in
theorem dL_613 : decode code 613 = .ok (.iconst 1, 1) := dLg zLaw9_ok (by decide +kernel)
set_option maxRecDepth 100000 in
theorem dL_614 : decode code 614 = .ok (.iadd, 1) := dLg zLaw9_ok (by decide +kernel)
set_option maxRecDepth 100000 in
theorem dL_615 : decode code 615 = .ok (.iaload, 1) := dLg zLaw9_ok (by decide +kernel)
set_option maxRecDepth 100000 in
theorem dL_616 : decode code 616 = .ok (.invokevirtual 72, 3) := dLg zLaw9_ok (by decide +kernel)
set_option maxRecDepth 100000 in
theorem dL_619 : decode code 619 = .ok (.if_icmp .eq 683, 3) := dLg zLaw9_ok (by decide +kernel)
set_option maxRecDepth 100000 in
theorem dL_622 : decode code 622 = .ok (.iconst 0, 1) := dLg zLaw9_ok (by decide +kernel)
set_option maxRecDepth 100000 in
theorem dL_623 : decode code 623 = .ok (.ireturn, 1) := dLg zLaw9_ok (by decide +kernel)
set_option maxRecDepth 100000 in
theorem dL_624 : decode code 624 = .ok (.aload_n 1, 1) := dLg zLaw9_ok (by decide +kernel)
set_option maxRecDepth 100000 in
theorem dL_625 : decode code 625 = .ok (.aload_n 0, 1) := dLg zLaw9_ok (by decide +kernel)
set_option maxRecDepth 100000 in
theorem dL_626 : decode code 626 = .ok (.iload_n 3, 1) := dLg zLaw9_ok (by decide +kernel)
set_option maxRecDepth 100000 in
theorem dL_627 : decode code 627 = .ok (.iconst 1, 1) := dLg zLaw9_ok (by decide +kernel)
set_option maxRecDepth 100000 in
theorem dL_628 : decode code 628 = .ok (.iadd, 1) := dLg zLaw9_ok (by decide +kernel)
set_option maxRecDepth 100000 in
theorem dL_629 : decode code 629 = .ok (.iaload, 1) := dLg zLaw9_ok (by decide +kernel)
set_option maxRecDepth 100000 in
theorem dL_630 : decode code 630 = .ok (.aload_n 0, 1) := dLg zLaw9_ok (by decide +kernel)
set_option maxRecDepth 100000 in
theorem dL_631 : decode code 631 = .ok (.iload_n 3, 1) := dLg zLaw9_ok (by decide +kernel)
set_option maxRecDepth 100000 in
theorem dL_632 : decode code 632 = .ok (.iconst 2, 1) := dLg zLaw9_ok (by decide +kernel)
set_option maxRecDepth 100000 in
theorem dL_633 : decode code 633 = .ok (.iadd, 1) := dLg zLaw9_ok (by decide +kernel)
set_option maxRecDepth 100000 in
theorem dL_634 : decode code 634 = .ok (.iaload, 1) := dLg zLaw9_ok (by decide +kernel)
set_option maxRecDepth 100000 in
theorem dL_635 : decode code 635 = .ok (.invokevirtual 73, 3) := dLg zLaw9_ok (by decide +kernel)
set_option maxRecDepth 100000 in
theorem dL_638 : decode code 638 = .ok (.aload_n 2, 1) := dLg zLaw9_ok (by decide +kernel)
set_option maxRecDepth 100000 in
theorem dL_639 : decode code 639 = .ok (.aload_n 0, 1) := dLg zLaw9_ok (by decide +kernel)
set_option maxRecDepth 100000 in
theorem dL_640 : decode code 640 = .ok (.iload_n 3, 1) := dLg zLaw9_ok (by decide +kernel)
set_option maxRecDepth 100000 in
theorem dL_641 : decode code 641 = .ok (.iconst 1, 1) := dLg zLaw9_ok (by decide +kernel)
set_option maxRecDepth 100000 in
theorem dL_642 : decode code 642 = .ok (.iadd, 1) := dLg zLaw9_ok (by decide +kernel)
set_option maxRecDepth 100000 in
theorem dL_643 : decode code 643 = .ok (.iaload, 1) := dLg zLaw9_ok (by decide +kernel)
set_option maxRecDepth 100000 in
theorem dL_644 : decode code 644 = .ok (.aload_n 0, 1) := dLg zLaw9_ok (by decide +kernel)
set_option maxRecDepth 100000 in
theorem dL_645 : decode code 645 = .ok (.iload_n 3, 1) := dLg zLaw9_ok (by decide +kernel)
set_option maxRecDepth 100000 in
theorem dL_646 : decode code 646 = .ok (.iconst 2, 1) := dLg zLaw9_ok (by decide +kernel)
set_option maxRecDepth 100000 in
theorem dL_647 : decode code 647 = .ok (.iadd, 1) := dLg zLaw9_ok (by decide +kernel)
set_option maxRecDepth 100000 in
theorem dL_648 : decode code 648 = .ok (.iaload, 1) := dLg zLaw9_ok (by decide +kernel)
set_option maxRecDepth 100000 in
theorem dL_649 : decode code 649 = .ok (.invokevirtual 76, 3) := dLg zLaw9_ok (by decide +kernel)
set_option maxRecDepth 100000 in
theorem dL_652 : decode code 652 = .ok (.if_icmp .eq 650, 3) := dLg zLaw9_ok (by decide +kernel)
set_option maxRecDepth 100000 in
theorem dL_655 : decode code 655 = .ok (.iconst 0, 1) := dLg zLaw9_ok (by decide +kernel)
set_option maxRecDepth 100000 in
theorem dL_656 : decode code 656 = .ok (.ireturn, 1) := dLg zLaw9_ok (by decide +kernel)
set_option maxRecDepth 100000 in
theorem dL_657 : decode code 657 = .ok (.aload_n 1, 1) := dLg zLaw9_ok (by decide +kernel)
set_option maxRecDepth 100000 in
theorem dL_658 : decode code 658 = .ok (.aload_n 0, 1) := dLg zLaw9_ok (by decide +kernel)
set_option maxRecDepth 100000 in
theorem dL_659 : decode code 659 = .ok (.iload_n 3, 1) := dLg zLaw9_ok (by decide +kernel)
