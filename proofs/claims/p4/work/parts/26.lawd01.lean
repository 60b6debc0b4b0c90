noncomputable def dL_law_528_l : List (Nat × Instr × Nat) := [(528, .iaload, 1), (529, .aload_n 0, 1), (530, .iload_n 3, 1), (531, .iconst 2, 1), (532, .iadd, 1), (533, .iaload, 1), (534, .aload_n 0, 1), (535, .iload_n 3, 1), (536, .iconst 3, 1), (537, .iadd, 1), (538, .iaload, 1), (539, .aload_n 0, 1), (540, .iload_n 3, 1), (541, .iconst 4, 1), (542, .iadd, 1), (543, .iaload, 1), (544, .aload_n 0, 1), (545, .iload_n 3, 1), (546, .iconst 5, 1), (547, .iadd, 1), (548, .iaload, 1), (549, .invokevirtual 61, 3), (552, .pop, 1), (553, .goto 692, 3), (556, .aload_n 1, 1), (557, .aload_n 0, 1), (558, .iload_n 3, 1), (559, .iconst 1, 1), (560, .iadd, 1), (561, .iaload, 1), (562, .aload_n 0, 1), (563, .iload_n 3, 1), (564, .iconst 2, 1), (565, .iadd, 1), (566, .iaload, 1), (567, .aload_n 0, 1), (568, .iload_n 3, 1), (569, .iconst 3, 1), (570, .iadd, 1), (571, .iaload, 1), (572, .invokevirtual 62, 3), (575, .pop, 1), (576, .aload_n 2, 1), (577, .aload_n 0, 1), (578, .iload_n 3, 1), (579, .iconst 1, 1), (580, .iadd, 1), (581, .iaload, 1), (582, .aload_n 0, 1), (583, .iload_n 3, 1), (584, .iconst 2, 1), (585, .iadd, 1), (586, .iaload, 1), (587, .aload_n 0, 1), (588, .iload_n 3, 1), (589, .iconst 3, 1), (590, .iadd, 1), (591, .iaload, 1), (592, .invokevirtual 66, 3), (595, .pop, 1), (596, .goto 649, 3), (599, .aload_n 1, 1), (600, .aload_n 0, 1), (601, .iload_n 3, 1), (602, .iconst 1, 1), (603, .iadd, 1), (604, .iaload, 1), (605, .aload_n 0, 1), (606, .iload_n 3, 1), (607, .iconst 2, 1), (608, .iadd, 1), (609, .iaload, 1), (610, .invokevirtual 67, 3), (613, .pop, 1), (614, .aload_n 2, 1), (615, .aload_n 0, 1), (616, .iload_n 3, 1), (617, .iconst 1, 1), (618, .iadd, 1), (619, .iaload, 1), (620, .aload_n 0, 1), (621, .iload_n 3, 1), (622, .iconst 2, 1), (623, .iadd, 1), (624, .iaload, 1), (625, .invokevirtual 70, 3), (628, .pop, 1), (629, .goto 616, 3), (632, .aload_n 1, 1), (633, .aload_n 0, 1), (634, .iload_n 3, 1), (635, .iconst 1, 1), (636, .iadd, 1), (637, .iaload, 1), (638, .aload_n 0, 1), (639, .iload_n 3, 1), (640, .iconst 2, 1), (641, .iadd, 1), (642, .iaload, 1), (643, .aload_n 0, 1), (644, .iload_n 3, 1), (645, .iconst 3, 1), (646, .iadd, 1), (647, .iaload, 1), (648, .aload_n 0, 1), (649, .iload_n 3, 1), (650, .iconst 4, 1), (651, .iadd, 1), (652, .iaload, 1), (653, .invokevirtual 71, 3), (656, .pop, 1), (657, .aload_n 2, 1), (658, .aload_n 0, 1), (659, .iload_n 3, 1), (660, .iconst 1, 1), (661, .iadd, 1), (662, .iaload, 1), (663, .aload_n 0, 1), (664, .iload_n 3, 1), (665, .iconst 2, 1), (666, .iadd, 1), (667, .iaload, 1), (668, .aload_n 0, 1), (669, .iload_n 3, 1), (670, .iconst 3, 1), (671, .iadd, 1), (672, .iaload, 1), (673, .aload_n 0, 1), (674, .iload_n 3, 1), (675, .iconst 4, 1), (676, .iadd, 1), (677, .iaload, 1), (678, .invokevirtual 74, 3), (681, .pop, 1), (682, .goto 563, 3), (685, .aload_n 1, 1), (686, .aload_n 0, 1), (687, .iload_n 3, 1), (688, .iconst 1, 1), (689, .iadd, 1), (690, .iaload, 1), (691, .aload_n 0, 1), (692, .iload_n 3, 1), (693, .iconst 2, 1), (694, .iadd, 1), (695, .iaload, 1), (696, .aload_n 0, 1), (697, .iload_n 3, 1), (698, .iconst 3, 1), (699, .iadd, 1)]
set_option maxRecDepth 100000 in
theorem dL_law_528_g : dL_law_528_l.all (fun x => decide (decode cL_law x.1 = .ok x.2)) = true := by decide +kernel
theorem dL_law_528 : decode cL_law 528 = .ok (.iaload, 1) := nq_d dL_law_528_g (n := 0) rfl
theorem dL_law_529 : decode cL_law 529 = .ok (.aload_n 0, 1) := nq_d dL_law_528_g (n := 1) rfl
theorem dL_law_530 : decode cL_law 530 = .ok (.iload_n 3, 1) := nq_d dL_law_528_g (n := 2) rfl
theorem dL_law_531 : decode cL_law 531 = .ok (.iconst 2, 1) := nq_d dL_law_528_g (n := 3) rfl
theorem dL_law_532 : decode cL_law 532 = .ok (.iadd, 1) := nq_d dL_law_528_g (n := 4) rfl
theorem dL_law_533 : decode cL_law 533 = .ok (.iaload, 1) := nq_d dL_law_528_g (n := 5) rfl
theorem dL_law_534 : decode cL_law 534 = .ok (.aload_n 0, 1) := nq_d dL_law_528_g (n := 6) rfl
theorem dL_law_535 : decode cL_law 535 = .ok (.iload_n 3, 1) := nq_d dL_law_528_g (n := 7) rfl
theorem dL_law_536 : decode cL_law 536 = .ok (.iconst 3, 1) := nq_d dL_law_528_g (n := 8) rfl
theorem dL_law_537 : decode cL_law 537 = .ok (.iadd, 1) := nq_d dL_law_528_g (n := 9) rfl
theorem dL_law_538 : decode cL_law 538 = .ok (.iaload, 1) := nq_d dL_law_528_g (n := 10) rfl
theorem dL_law_539 : decode cL_law 539 = .ok (.aload_n 0, 1) := nq_d dL_law_528_g (n := 11) rfl
theorem dL_law_540 : decode cL_law 540 = .ok (.iload_n 3, 1) := nq_d dL_law_528_g (n := 12) rfl
theorem dL_law_541 : decode cL_law 541 = .ok (.iconst 4, 1) := nq_d dL_law_528_g (n := 13) rfl
theorem dL_law_542 : decode cL_law 542 = .ok (.iadd, 1) := nq_d dL_law_528_g (n := 14) rfl
theorem dL_law_543 : decode cL_law 543 = .ok (.iaload, 1) := nq_d dL_law_528_g (n := 15) rfl
theorem dL_law_544 : decode cL_law 544 = .ok (.aload_n 0, 1) := nq_d dL_law_528_g (n := 16) rfl
theorem dL_law_545 : decode cL_law 545 = .ok (.iload_n 3, 1) := nq_d dL_law_528_g (n := 17) rfl
theorem dL_law_546 : decode cL_law 546 = .ok (.iconst 5, 1) := nq_d dL_law_528_g (n := 18) rfl
theorem dL_law_547 : decode cL_law 547 = .ok (.iadd, 1) := nq_d dL_law_528_g (n := 19) rfl
theorem dL_law_548 : decode cL_law 548 = .ok (.iaload, 1) := nq_d dL_law_528_g (n := 20) rfl
theorem dL_law_549 : decode cL_law 549 = .ok (.invokevirtual 61, 3) := nq_d dL_law_528_g (n := 21) rfl
theorem dL_law_552 : decode cL_law 552 = .ok (.pop, 1) := nq_d dL_law_528_g (n := 22) rfl
theorem dL_law_553 : decode cL_law 553 = .ok (.goto 692, 3) := nq_d dL_law_528_g (n := 23) rfl
theorem dL_law_556 : decode cL_law 556 = .ok (.aload_n 1, 1) := nq_d dL_law_528_g (n := 24) rfl
theorem dL_law_557 : decode cL_law 557 = .ok (.aload_n 0, 1) := nq_d dL_law_528_g (n := 25) rfl
theorem dL_law_558 : decode cL_law 558 = .ok (.iload_n 3, 1) := nq_d dL_law_528_g (n := 26) rfl
theorem dL_law_559 : decode cL_law 559 = .ok (.iconst 1, 1) := nq_d dL_law_528_g (n := 27) rfl
theorem dL_law_560 : decode cL_law 560 = .ok (.iadd, 1) := nq_d dL_law_528_g (n := 28) rfl
theorem dL_law_561 : decode cL_law 561 = .ok (.iaload, 1) := nq_d dL_law_528_g (n := 29) rfl
theorem dL_law_562 : decode cL_law 562 = .ok (.aload_n 0, 1) := nq_d dL_law_528_g (n := 30) rfl
theorem dL_law_563 : decode cL_law 563 = .ok (.iload_n 3, 1) := nq_d dL_law_528_g (n := 31) rfl
theorem dL_law_564 : decode cL_law 564 = .ok (.iconst 2, 1) := nq_d dL_law_528_g (n := 32) rfl
theorem dL_law_565 : decode cL_law 565 = .ok (.iadd, 1) := nq_d dL_law_528_g (n := 33) rfl
theorem dL_law_566 : decode cL_law 566 = .ok (.iaload, 1) := nq_d dL_law_528_g (n := 34) rfl
theorem dL_law_567 : decode cL_law 567 = .ok (.aload_n 0, 1) := nq_d dL_law_528_g (n := 35) rfl
theorem dL_law_568 : decode cL_law 568 = .ok (.iload_n 3, 1) := nq_d dL_law_528_g (n := 36) rfl
theorem dL_law_569 : decode cL_law 569 = .ok (.iconst 3, 1) := nq_d dL_law_528_g (n := 37) rfl
theorem dL_law_570 : decode cL_law 570 = .ok (.iadd, 1) := nq_d dL_law_528_g (n := 38) rfl
theorem dL_law_571 : decode cL_law 571 = .ok (.iaload, 1) := nq_d dL_law_528_g (n := 39) rfl
theorem dL_law_572 : decode cL_law 572 = .ok (.invokevirtual 62, 3) := nq_d dL_law_528_g (n := 40) rfl
theorem dL_law_575 : decode cL_law 575 = .ok (.pop, 1) := nq_d dL_law_528_g (n := 41) rfl
theorem dL_law_576 : decode cL_law 576 = .ok (.aload_n 2, 1) := nq_d dL_law_528_g (n := 42) rfl
theorem dL_law_577 : decode cL_law 577 = .ok (.aload_n 0, 1) := nq_d dL_law_528_g (n := 43) rfl
theorem dL_law_578 : decode cL_law 578 = .ok (.iload_n 3, 1) := nq_d dL_law_528_g (n := 44) rfl
theorem dL_law_579 : decode cL_law 579 = .ok (.iconst 1, 1) := nq_d dL_law_528_g (n := 45) rfl
theorem dL_law_580 : decode cL_law 580 = .ok (.iadd, 1) := nq_d dL_law_528_g (n := 46) rfl
theorem dL_law_581 : decode cL_law 581 = .ok (.iaload, 1) := nq_d dL_law_528_g (n := 47) rfl
theorem dL_law_582 : decode cL_law 582 = .ok (.aload_n 0, 1) := nq_d dL_law_528_g (n := 48) rfl
theorem dL_law_583 : decode cL_law 583 = .ok (.iload_n 3, 1) := nq_d dL_law_528_g (n := 49) rfl
theorem dL_law_584 : decode cL_law 584 = .ok (.iconst 2, 1) := nq_d dL_law_528_g (n := 50) rfl
theorem dL_law_585 : decode cL_law 585 = .ok (.iadd, 1) := nq_d dL_law_528_g (n := 51) rfl
theorem dL_law_586 : decode cL_law 586 = .ok (.iaload, 1) := nq_d dL_law_528_g (n := 52) rfl
theorem dL_law_587 : decode cL_law 587 = .ok (.aload_n 0, 1) := nq_d dL_law_528_g (n := 53) rfl
theorem dL_law_588 : decode cL_law 588 = .ok (.iload_n 3, 1) := nq_d dL_law_528_g (n := 54) rfl
theorem dL_law_589 : decode cL_law 589 = .ok (.iconst 3, 1) := nq_d dL_law_528_g (n := 55) rfl
theorem dL_law_590 : decode cL_law 590 = .ok (.iadd, 1) := nq_d dL_law_528_g (n := 56) rfl
theorem dL_law_591 : decode cL_law 591 = .ok (.iaload, 1) := nq_d dL_law_528_g (n := 57) rfl
theorem dL_law_592 : decode cL_law 592 = .ok (.invokevirtual 66, 3) := nq_d dL_law_528_g (n := 58) rfl
theorem dL_law_595 : decode cL_law 595 = .ok (.pop, 1) := nq_d dL_law_528_g (n := 59) rfl
theorem dL_law_596 : decode cL_law 596 = .ok (.goto 649, 3) := nq_d dL_law_528_g (n := 60) rfl
theorem dL_law_599 : decode cL_law 599 = .ok (.aload_n 1, 1) := nq_d dL_law_528_g (n := 61) rfl
theorem dL_law_600 : decode cL_law 600 = .ok (.aload_n 0, 1) := nq_d dL_law_528_g (n := 62) rfl
theorem dL_law_601 : decode cL_law 601 = .ok (.iload_n 3, 1) := nq_d dL_law_528_g (n := 63) rfl
theorem dL_law_602 : decode cL_law 602 = .ok (.iconst 1, 1) := nq_d dL_law_528_g (n := 64) rfl
theorem dL_law_603 : decode cL_law 603 = .ok (.iadd, 1) := nq_d dL_law_528_g (n := 65) rfl
theorem dL_law_604 : decode cL_law 604 = .ok (.iaload, 1) := nq_d dL_law_528_g (n := 66) rfl
theorem dL_law_605 : decode cL_law 605 = .ok (.aload_n 0, 1) := nq_d dL_law_528_g (n := 67) rfl
theorem dL_law_606 : decode cL_law 606 = .ok (.iload_n 3, 1) := nq_d dL_law_528_g (n := 68) rfl
theorem dL_law_607 : decode cL_law 607 = .ok (.iconst 2, 1) := nq_d dL_law_528_g (n := 69) rfl
theorem dL_law_608 : decode cL_law 608 = .ok (.iadd, 1) := nq_d dL_law_528_g (n := 70) rfl
theorem dL_law_609 : decode cL_law 609 = .ok (.iaload, 1) := nq_d dL_law_528_g (n := 71) rfl
theorem dL_law_610 : decode cL_law 610 = .ok (.invokevirtual 67, 3) := nq_d dL_law_528_g (n := 72) rfl
theorem dL_law_613 : decode cL_law 613 = .ok (.pop, 1) := nq_d dL_law_528_g (n := 73) rfl
theorem dL_law_614 : decode cL_law 614 = .ok (.aload_n 2, 1) := nq_d dL_law_528_g (n := 74) rfl
theorem dL_law_615 : decode cL_law 615 = .ok (.aload_n 0, 1) := nq_d dL_law_528_g (n := 75) rfl
theorem dL_law_616 : decode cL_law 616 = .ok (.iload_n 3, 1) := nq_d dL_law_528_g (n := 76) rfl
theorem dL_law_617 : decode cL_law 617 = .ok (.iconst 1, 1) := nq_d dL_law_528_g (n := 77) rfl
theorem dL_law_618 : decode cL_law 618 = .ok (.iadd, 1) := nq_d dL_law_528_g (n := 78) rfl
theorem dL_law_619 : decode cL_law 619 = .ok (.iaload, 1) := nq_d dL_law_528_g (n := 79) rfl
theorem dL_law_620 : decode cL_law 620 = .ok (.aload_n 0, 1) := nq_d dL_law_528_g (n := 80) rfl
theorem dL_law_621 : decode cL_law 621 = .ok (.iload_n 3, 1) := nq_d dL_law_528_g (n := 81) rfl
theorem dL_law_622 : decode cL_law 622 = .ok (.iconst 2, 1) := nq_d dL_law_528_g (n := 82) rfl
theorem dL_law_623 : decode cL_law 623 = .ok (.iadd, 1) := nq_d dL_law_528_g (n := 83) rfl
theorem dL_law_624 : decode cL_law 624 = .ok (.iaload, 1) := nq_d dL_law_528_g (n := 84) rfl
theorem dL_law_625 : decode cL_law 625 = .ok (.invokevirtual 70, 3) := nq_d dL_law_528_g (n := 85) rfl
theorem dL_law_628 : decode cL_law 628 = .ok (.pop, 1) := nq_d dL_law_528_g (n := 86) rfl
theorem dL_law_629 : decode cL_law 629 = .ok (.goto 616, 3) := nq_d dL_law_528_g (n := 87) rfl
theorem dL_law_632 : decode cL_law 632 = .ok (.aload_n 1, 1) := nq_d dL_law_528_g (n := 88) rfl
theorem dL_law_633 : decode cL_law 633 = .ok (.aload_n 0, 1) := nq_d dL_law_528_g (n := 89) rfl
theorem dL_law_634 : decode cL_law 634 = .ok (.iload_n 3, 1) := nq_d dL_law_528_g (n := 90) rfl
theorem dL_law_635 : decode cL_law 635 = .ok (.iconst 1, 1) := nq_d dL_law_528_g (n := 91) rfl
theorem dL_law_636 : decode cL_law 636 = .ok (.iadd, 1) := nq_d dL_law_528_g (n := 92) rfl
theorem dL_law_637 : decode cL_law 637 = .ok (.iaload, 1) := nq_d dL_law_528_g (n := 93) rfl
theorem dL_law_638 : decode cL_law 638 = .ok (.aload_n 0, 1) := nq_d dL_law_528_g (n := 94) rfl
theorem dL_law_639 : decode cL_law 639 = .ok (.iload_n 3, 1) := nq_d dL_law_528_g (n := 95) rfl
theorem dL_law_640 : decode cL_law 640 = .ok (.iconst 2, 1) := nq_d dL_law_528_g (n := 96) rfl
theorem dL_law_641 : decode cL_law 641 = .ok (.iadd, 1) := nq_d dL_law_528_g (n := 97) rfl
theorem dL_law_642 : decode cL_law 642 = .ok (.iaload, 1) := nq_d dL_law_528_g (n := 98) rfl
theorem dL_law_643 : decode cL_law 643 = .ok (.aload_n 0, 1) := nq_d dL_law_528_g (n := 99) rfl
theorem dL_law_644 : decode cL_law 644 = .ok (.iload_n 3, 1) := nq_d dL_law_528_g (n := 100) rfl
theorem dL_law_645 : decode cL_law 645 = .ok (.iconst 3, 1) := nq_d dL_law_528_g (n := 101) rfl
theorem dL_law_646 : decode cL_law 646 = .ok (.iadd, 1) := nq_d dL_law_528_g (n := 102) rfl
theorem dL_law_647 : decode cL_law 647 = .ok (.iaload, 1) := nq_d dL_law_528_g (n := 103) rfl
theorem dL_law_648 : decode cL_law 648 = .ok (.aload_n 0, 1) := nq_d dL_law_528_g (n := 104) rfl
theorem dL_law_649 : decode cL_law 649 = .ok (.iload_n 3, 1) := nq_d dL_law_528_g (n := 105) rfl
theorem dL_law_650 : decode cL_law 650 = .ok (.iconst 4, 1) := nq_d dL_law_528_g (n := 106) rfl
theorem dL_law_651 : decode cL_law 651 = .ok (.iadd, 1) := nq_d dL_law_528_g (n := 107) rfl
theorem dL_law_652 : decode cL_law 652 = .ok (.iaload, 1) := nq_d dL_law_528_g (n := 108) rfl
theorem dL_law_653 : decode cL_law 653 = .ok (.invokevirtual 71, 3) := nq_d dL_law_528_g (n := 109) rfl
theorem dL_law_656 : decode cL_law 656 = .ok (.pop, 1) := nq_d dL_law_528_g (n := 110) rfl
theorem dL_law_657 : decode cL_law 657 = .ok (.aload_n 2, 1) := nq_d dL_law_528_g (n := 111) rfl
theorem dL_law_658 : decode cL_law 658 = .ok (.aload_n 0, 1) := nq_d dL_law_528_g (n := 112) rfl
theorem dL_law_659 : decode cL_law 659 = .ok (.iload_n 3, 1) := nq_d dL_law_528_g (n := 113) rfl
theorem dL_law_660 : decode cL_law 660 = .ok (.iconst 1, 1) := nq_d dL_law_528_g (n := 114) rfl
theorem dL_law_661 : decode cL_law 661 = .ok (.iadd, 1) := nq_d dL_law_528_g (n := 115) rfl
theorem dL_law_662 : decode cL_law 662 = .ok (.iaload, 1) := nq_d dL_law_528_g (n := 116) rfl
theorem dL_law_663 : decode cL_law 663 = .ok (.aload_n 0, 1) := nq_d dL_law_528_g (n := 117) rfl
theorem dL_law_664 : decode cL_law 664 = .ok (.iload_n 3, 1) := nq_d dL_law_528_g (n := 118) rfl
theorem dL_law_665 : decode cL_law 665 = .ok (.iconst 2, 1) := nq_d dL_law_528_g (n := 119) rfl
theorem dL_law_666 : decode cL_law 666 = .ok (.iadd, 1) := nq_d dL_law_528_g (n := 120) rfl
theorem dL_law_667 : decode cL_law 667 = .ok (.iaload, 1) := nq_d dL_law_528_g (n := 121) rfl
theorem dL_law_668 : decode cL_law 668 = .ok (.aload_n 0, 1) := nq_d dL_law_528_g (n := 122) rfl
theorem dL_law_669 : decode cL_law 669 = .ok (.iload_n 3, 1) := nq_d dL_law_528_g (n := 123) rfl
theorem dL_law_670 : decode cL_law 670 = .ok (.iconst 3, 1) := nq_d dL_law_528_g (n := 124) rfl
theorem dL_law_671 : decode cL_law 671 = .ok (.iadd, 1) := nq_d dL_law_528_g (n := 125) rfl
theorem dL_law_672 : decode cL_law 672 = .ok (.iaload, 1) := nq_d dL_law_528_g (n := 126) rfl
theorem dL_law_673 : decode cL_law 673 = .ok (.aload_n 0, 1) := nq_d dL_law_528_g (n := 127) rfl
theorem dL_law_674 : decode cL_law 674 = .ok (.iload_n 3, 1) := nq_d dL_law_528_g (n := 128) rfl
theorem dL_law_675 : decode cL_law 675 = .ok (.iconst 4, 1) := nq_d dL_law_528_g (n := 129) rfl
theorem dL_law_676 : decode cL_law 676 = .ok (.iadd, 1) := nq_d dL_law_528_g (n := 130) rfl
theorem dL_law_677 : decode cL_law 677 = .ok (.iaload, 1) := nq_d dL_law_528_g (n := 131) rfl
theorem dL_law_678 : decode cL_law 678 = .ok (.invokevirtual 74, 3) := nq_d dL_law_528_g (n := 132) rfl
theorem dL_law_681 : decode cL_law 681 = .ok (.pop, 1) := nq_d dL_law_528_g (n := 133) rfl
theorem dL_law_682 : decode cL_law 682 = .ok (.goto 563, 3) := nq_d dL_law_528_g (n := 134) rfl
theorem dL_law_685 : decode cL_law 685 = .ok (.aload_n 1, 1) := nq_d dL_law_528_g (n := 135) rfl
theorem dL_law_686 : decode cL_law 686 = .ok (.aload_n 0, 1) := nq_d dL_law_528_g (n := 136) rfl
theorem dL_law_687 : decode cL_law 687 = .ok (.iload_n 3, 1) := nq_d dL_law_528_g (n := 137) rfl
theorem dL_law_688 : decode cL_law 688 = .ok (.iconst 1, 1) := nq_d dL_law_528_g (n := 138) rfl
theorem dL_law_689 : decode cL_law 689 = .ok (.iadd, 1) := nq_d dL_law_528_g (n := 139) rfl
theorem dL_law_690 : decode cL_law 690 = .ok (.iaload, 1) := nq_d dL_law_528_g (n := 140) rfl
theorem dL_law_691 : decode cL_law 691 = .ok (.aload_n 0, 1) := nq_d dL_law_528_g (n := 141) rfl
theorem dL_law_692 : decode cL_law 692 = .ok (.iload_n 3, 1) := nq_d dL_law_528_g (n := 142) rfl
theorem dL_law_693 : decode cL_law 693 = .ok (.iconst 2, 1) := nq_d dL_law_528_g (n := 143) rfl
theorem dL_law_694 : decode cL_law 694 = .ok (.iadd, 1) := nq_d dL_law_528_g (n := 144) rfl
theorem dL_law_695 : decode cL_law 695 = .ok (.iaload, 1) := nq_d dL_law_528_g (n := 145) rfl
theorem dL_law_696 : decode cL_law 696 = .ok (.aload_n 0, 1) := nq_d dL_law_528_g (n := 146) rfl
theorem dL_law_697 : decode cL_law 697 = .ok (.iload_n 3, 1) := nq_d dL_law_528_g (n := 147) rfl
theorem dL_law_698 : decode cL_law 698 = .ok (.iconst 3, 1) := nq_d dL_law_528_g (n := 148) rfl
theorem dL_law_699 : decode cL_law 699 = .ok (.iadd, 1) := nq_d dL_law_528_g (n := 149) rfl
noncomputable def dL_law_700_l : List (Nat × Instr × Nat) := [(700, .iaload, 1), (701, .invokevirtual 75, 3), (704, .pop, 1), (705, .aload_n 2, 1), (706, .aload_n 0, 1), (707, .iload_n 3, 1), (708, .iconst 1, 1), (709, .iadd, 1), (710, .iaload, 1), (711, .aload_n 0, 1), (712, .iload_n 3, 1), (713, .iconst 2, 1), (714, .iadd, 1), (715, .iaload, 1), (716, .aload_n 0, 1), (717, .iload_n 3, 1), (718, .iconst 3, 1), (719, .iadd, 1), (720, .iaload, 1), (721, .invokevirtual 78, 3), (724, .pop, 1), (725, .goto 520, 3), (728, .aload_n 1, 1), (729, .aload_n 0, 1), (730, .iload_n 3, 1), (731, .iconst 1, 1), (732, .iadd, 1), (733, .iaload, 1), (734, .invokevirtual 79, 3), (737, .pop, 1), (738, .aload_n 2, 1), (739, .aload_n 0, 1), (740, .iload_n 3, 1), (741, .iconst 1, 1), (742, .iadd, 1), (743, .iaload, 1), (744, .invokevirtual 82, 3), (747, .pop, 1), (748, .goto 497, 3), (751, .aload_n 1, 1), (752, .aload_n 0, 1), (753, .iload_n 3, 1), (754, .iconst 1, 1), (755, .iadd, 1), (756, .iaload, 1), (757, .aload_n 0, 1), (758, .iload_n 3, 1), (759, .iconst 2, 1), (760, .iadd, 1), (761, .iaload, 1), (762, .invokevirtual 83, 3), (765, .pop, 1), (766, .aload_n 2, 1), (767, .aload_n 0, 1), (768, .iload_n 3, 1), (769, .iconst 1, 1), (770, .iadd, 1), (771, .iaload, 1), (772, .aload_n 0, 1), (773, .iload_n 3, 1), (774, .iconst 2, 1), (775, .iadd, 1), (776, .iaload, 1), (777, .invokevirtual 86, 3), (780, .pop, 1), (781, .goto 464, 3), (784, .aload_n 1, 1), (785, .invokevirtual 87, 3), (788, .pop, 1), (789, .aload_n 2, 1), (790, .invokevirtual 90, 3), (793, .pop, 1), (794, .goto 451, 3), (797, .aload_n 1, 1), (798, .aload_n 0, 1), (799, .iload_n 3, 1), (800, .iconst 1, 1), (801, .iadd, 1), (802, .iaload, 1), (803, .aload_n 0, 1), (804, .iload_n 3, 1), (805, .iconst 2, 1), (806, .iadd, 1), (807, .iaload, 1), (808, .invokevirtual 91, 3), (811, .pop, 1), (812, .aload_n 2, 1), (813, .aload_n 0, 1), (814, .iload_n 3, 1), (815, .iconst 1, 1), (816, .iadd, 1), (817, .iaload, 1), (818, .aload_n 0, 1), (819, .iload_n 3, 1), (820, .iconst 2, 1), (821, .iadd, 1), (822, .iaload, 1), (823, .invokevirtual 94, 3), (826, .pop, 1), (827, .goto 418, 3), (830, .aload_n 1, 1), (831, .aload_n 0, 1), (832, .iload_n 3, 1), (833, .iconst 1, 1), (834, .iadd, 1), (835, .iaload, 1), (836, .invokevirtual 95, 3), (839, .pop, 1), (840, .aload_n 2, 1), (841, .aload_n 0, 1), (842, .iload_n 3, 1), (843, .iconst 1, 1), (844, .iadd, 1), (845, .iaload, 1), (846, .invokevirtual 98, 3), (849, .pop, 1), (850, .goto 395, 3), (853, .aload_n 1, 1), (854, .invokevirtual 99, 3), (857, .pop, 1), (858, .aload_n 2, 1), (859, .invokevirtual 102, 3), (862, .pop, 1), (863, .goto 382, 3), (866, .aload_n 1, 1), (867, .aload_n 0, 1), (868, .iload_n 3, 1), (869, .iconst 1, 1), (870, .iadd, 1), (871, .iaload, 1), (872, .aload_n 0, 1), (873, .iload_n 3, 1), (874, .iconst 2, 1), (875, .iadd, 1), (876, .iaload, 1), (877, .invokevirtual 103, 3), (880, .pop, 1), (881, .aload_n 2, 1), (882, .aload_n 0, 1), (883, .iload_n 3, 1), (884, .iconst 1, 1), (885, .iadd, 1), (886, .iaload, 1), (887, .aload_n 0, 1), (888, .iload_n 3, 1), (889, .iconst 2, 1), (890, .iadd, 1), (891, .iaload, 1), (892, .invokevirtual 106, 3), (895, .pop, 1)]
set_option maxRecDepth 100000 in
theorem dL_law_700_g : dL_law_700_l.all (fun x => decide (decode cL_law x.1 = .ok x.2)) = true := by decide +kernel
theorem dL_law_700 : decode cL_law 700 = .ok (.iaload, 1) := nq_d dL_law_700_g (n := 0) rfl
theorem dL_law_701 : decode cL_law 701 = .ok (.invokevirtual 75, 3) := nq_d dL_law_700_g (n := 1) rfl
theorem dL_law_704 : decode cL_law 704 = .ok (.pop, 1) := nq_d dL_law_700_g (n := 2) rfl
theorem dL_law_705 : decode cL_law 705 = .ok (.aload_n 2, 1) := nq_d dL_law_700_g (n := 3) rfl
theorem dL_law_706 : decode cL_law 706 = .ok (.aload_n 0, 1) := nq_d dL_law_700_g (n := 4) rfl
theorem dL_law_707 : decode cL_law 707 = .ok (.iload_n 3, 1) := nq_d dL_law_700_g (n := 5) rfl
theorem dL_law_708 : decode cL_law 708 = .ok (.iconst 1, 1) := nq_d dL_law_700_g (n := 6) rfl
theorem dL_law_709 : decode cL_law 709 = .ok (.iadd, 1) := nq_d dL_law_700_g (n := 7) rfl
theorem dL_law_710 : decode cL_law 710 = .ok (.iaload, 1) := nq_d dL_law_700_g (n := 8) rfl
theorem dL_law_711 : decode cL_law 711 = .ok (.aload_n 0, 1) := nq_d dL_law_700_g (n := 9) rfl
theorem dL_law_712 : decode cL_law 712 = .ok (.iload_n 3, 1) := nq_d dL_law_700_g (n := 10) rfl
theorem dL_law_713 : decode cL_law 713 = .ok (.iconst 2, 1) := nq_d dL_law_700_g (n := 11) rfl
theorem dL_law_714 : decode cL_law 714 = .ok (.iadd, 1) := nq_d dL_law_700_g (n := 12) rfl
theorem dL_law_715 : decode cL_law 715 = .ok (.iaload, 1) := nq_d dL_law_700_g (n := 13) rfl
theorem dL_law_716 : decode cL_law 716 = .ok (.aload_n 0, 1) := nq_d dL_law_700_g (n := 14) rfl
theorem dL_law_717 : decode cL_law 717 = .ok (.iload_n 3, 1) := nq_d dL_law_700_g (n := 15) rfl
theorem dL_law_718 : decode cL_law 718 = .ok (.iconst 3, 1) := nq_d dL_law_700_g (n := 16) rfl
theorem dL_law_719 : decode cL_law 719 = .ok (.iadd, 1) := nq_d dL_law_700_g (n := 17) rfl
theorem dL_law_720 : decode cL_law 720 = .ok (.iaload, 1) := nq_d dL_law_700_g (n := 18) rfl
theorem dL_law_721 : decode cL_law 721 = .ok (.invokevirtual 78, 3) := nq_d dL_law_700_g (n := 19) rfl
theorem dL_law_724 : decode cL_law 724 = .ok (.pop, 1) := nq_d dL_law_700_g (n := 20) rfl
theorem dL_law_725 : decode cL_law 725 = .ok (.goto 520, 3) := nq_d dL_law_700_g (n := 21) rfl
theorem dL_law_728 : decode cL_law 728 = .ok (.aload_n 1, 1) := nq_d dL_law_700_g (n := 22) rfl
theorem dL_law_729 : decode cL_law 729 = .ok (.aload_n 0, 1) := nq_d dL_law_700_g (n := 23) rfl
theorem dL_law_730 : decode cL_law 730 = .ok (.iload_n 3, 1) := nq_d dL_law_700_g (n := 24) rfl
theorem dL_law_731 : decode cL_law 731 = .ok (.iconst 1, 1) := nq_d dL_law_700_g (n := 25) rfl
theorem dL_law_732 : decode cL_law 732 = .ok (.iadd, 1) := nq_d dL_law_700_g (n := 26) rfl
theorem dL_law_733 : decode cL_law 733 = .ok (.iaload, 1) := nq_d dL_law_700_g (n := 27) rfl
theorem dL_law_734 : decode cL_law 734 = .ok (.invokevirtual 79, 3) := nq_d dL_law_700_g (n := 28) rfl
theorem dL_law_737 : decode cL_law 737 = .ok (.pop, 1) := nq_d dL_law_700_g (n := 29) rfl
theorem dL_law_738 : decode cL_law 738 = .ok (.aload_n 2, 1) := nq_d dL_law_700_g (n := 30) rfl
theorem dL_law_739 : decode cL_law 739 = .ok (.aload_n 0, 1) := nq_d dL_law_700_g (n := 31) rfl
theorem dL_law_740 : decode cL_law 740 = .ok (.iload_n 3, 1) := nq_d dL_law_700_g (n := 32) rfl
theorem dL_law_741 : decode cL_law 741 = .ok (.iconst 1, 1) := nq_d dL_law_700_g (n := 33) rfl
theorem dL_law_742 : decode cL_law 742 = .ok (.iadd, 1) := nq_d dL_law_700_g (n := 34) rfl
theorem dL_law_743 : decode cL_law 743 = .ok (.iaload, 1) := nq_d dL_law_700_g (n := 35) rfl
theorem dL_law_744 : decode cL_law 744 = .ok (.invokevirtual 82, 3) := nq_d dL_law_700_g (n := 36) rfl
theorem dL_law_747 : decode cL_law 747 = .ok (.pop, 1) := nq_d dL_law_700_g (n := 37) rfl
theorem dL_law_748 : decode cL_law 748 = .ok (.goto 497, 3) := nq_d dL_law_700_g (n := 38) rfl
theorem dL_law_751 : decode cL_law 751 = .ok (.aload_n 1, 1) := nq_d dL_law_700_g (n := 39) rfl
theorem dL_law_752 : decode cL_law 752 = .ok (.aload_n 0, 1) := nq_d dL_law_700_g (n := 40) rfl
theorem dL_law_753 : decode cL_law 753 = .ok (.iload_n 3, 1) := nq_d dL_law_700_g (n := 41) rfl
theorem dL_law_754 : decode cL_law 754 = .ok (.iconst 1, 1) := nq_d dL_law_700_g (n := 42) rfl
theorem dL_law_755 : decode cL_law 755 = .ok (.iadd, 1) := nq_d dL_law_700_g (n := 43) rfl
theorem dL_law_756 : decode cL_law 756 = .ok (.iaload, 1) := nq_d dL_law_700_g (n := 44) rfl
theorem dL_law_757 : decode cL_law 757 = .ok (.aload_n 0, 1) := nq_d dL_law_700_g (n := 45) rfl
theorem dL_law_758 : decode cL_law 758 = .ok (.iload_n 3, 1) := nq_d dL_law_700_g (n := 46) rfl
theorem dL_law_759 : decode cL_law 759 = .ok (.iconst 2, 1) := nq_d dL_law_700_g (n := 47) rfl
theorem dL_law_760 : decode cL_law 760 = .ok (.iadd, 1) := nq_d dL_law_700_g (n := 48) rfl
theorem dL_law_761 : decode cL_law 761 = .ok (.iaload, 1) := nq_d dL_law_700_g (n := 49) rfl
theorem dL_law_762 : decode cL_law 762 = .ok (.invokevirtual 83, 3) := nq_d dL_law_700_g (n := 50) rfl
theorem dL_law_765 : decode cL_law 765 = .ok (.pop, 1) := nq_d dL_law_700_g (n := 51) rfl
theorem dL_law_766 : decode cL_law 766 = .ok (.aload_n 2, 1) := nq_d dL_law_700_g (n := 52) rfl
theorem dL_law_767 : decode cL_law 767 = .ok (.aload_n 0, 1) := nq_d dL_law_700_g (n := 53) rfl
theorem dL_law_768 : decode cL_law 768 = .ok (.iload_n 3, 1) := nq_d dL_law_700_g (n := 54) rfl
theorem dL_law_769 : decode cL_law 769 = .ok (.iconst 1, 1) := nq_d dL_law_700_g (n := 55) rfl
theorem dL_law_770 : decode cL_law 770 = .ok (.iadd, 1) := nq_d dL_law_700_g (n := 56) rfl
theorem dL_law_771 : decode cL_law 771 = .ok (.iaload, 1) := nq_d dL_law_700_g (n := 57) rfl
theorem dL_law_772 : decode cL_law 772 = .ok (.aload_n 0, 1) := nq_d dL_law_700_g (n := 58) rfl
theorem dL_law_773 : decode cL_law 773 = .ok (.iload_n 3, 1) := nq_d dL_law_700_g (n := 59) rfl
theorem dL_law_774 : decode cL_law 774 = .ok (.iconst 2, 1) := nq_d dL_law_700_g (n := 60) rfl
theorem dL_law_775 : decode cL_law 775 = .ok (.iadd, 1) := nq_d dL_law_700_g (n := 61) rfl
theorem dL_law_776 : decode cL_law 776 = .ok (.iaload, 1) := nq_d dL_law_700_g (n := 62) rfl
theorem dL_law_777 : decode cL_law 777 = .ok (.invokevirtual 86, 3) := nq_d dL_law_700_g (n := 63) rfl
theorem dL_law_780 : decode cL_law 780 = .ok (.pop, 1) := nq_d dL_law_700_g (n := 64) rfl
theorem dL_law_781 : decode cL_law 781 = .ok (.goto 464, 3) := nq_d dL_law_700_g (n := 65) rfl
theorem dL_law_784 : decode cL_law 784 = .ok (.aload_n 1, 1) := nq_d dL_law_700_g (n := 66) rfl
theorem dL_law_785 : decode cL_law 785 = .ok (.invokevirtual 87, 3) := nq_d dL_law_700_g (n := 67) rfl
theorem dL_law_788 : decode cL_law 788 = .ok (.pop, 1) := nq_d dL_law_700_g (n := 68) rfl
theorem dL_law_789 : decode cL_law 789 = .ok (.aload_n 2, 1) := nq_d dL_law_700_g (n := 69) rfl
theorem dL_law_790 : decode cL_law 790 = .ok (.invokevirtual 90, 3) := nq_d dL_law_700_g (n := 70) rfl
theorem dL_law_793 : decode cL_law 793 = .ok (.pop, 1) := nq_d dL_law_700_g (n := 71) rfl
theorem dL_law_794 : decode cL_law 794 = .ok (.goto 451, 3) := nq_d dL_law_700_g (n := 72) rfl
theorem dL_law_797 : decode cL_law 797 = .ok (.aload_n 1, 1) := nq_d dL_law_700_g (n := 73) rfl
theorem dL_law_798 : decode cL_law 798 = .ok (.aload_n 0, 1) := nq_d dL_law_700_g (n := 74) rfl
theorem dL_law_799 : decode cL_law 799 = .ok (.iload_n 3, 1) := nq_d dL_law_700_g (n := 75) rfl
theorem dL_law_800 : decode cL_law 800 = .ok (.iconst 1, 1) := nq_d dL_law_700_g (n := 76) rfl
theorem dL_law_801 : decode cL_law 801 = .ok (.iadd, 1) := nq_d dL_law_700_g (n := 77) rfl
theorem dL_law_802 : decode cL_law 802 = .ok (.iaload, 1) := nq_d dL_law_700_g (n := 78) rfl
theorem dL_law_803 : decode cL_law 803 = .ok (.aload_n 0, 1) := nq_d dL_law_700_g (n := 79) rfl
theorem dL_law_804 : decode cL_law 804 = .ok (.iload_n 3, 1) := nq_d dL_law_700_g (n := 80) rfl
theorem dL_law_805 : decode cL_law 805 = .ok (.iconst 2, 1) := nq_d dL_law_700_g (n := 81) rfl
theorem dL_law_806 : decode cL_law 806 = .ok (.iadd, 1) := nq_d dL_law_700_g (n := 82) rfl
theorem dL_law_807 : decode cL_law 807 = .ok (.iaload, 1) := nq_d dL_law_700_g (n := 83) rfl
theorem dL_law_808 : decode cL_law 808 = .ok (.invokevirtual 91, 3) := nq_d dL_law_700_g (n := 84) rfl
theorem dL_law_811 : decode cL_law 811 = .ok (.pop, 1) := nq_d dL_law_700_g (n := 85) rfl
theorem dL_law_812 : decode cL_law 812 = .ok (.aload_n 2, 1) := nq_d dL_law_700_g (n := 86) rfl
theorem dL_law_813 : decode cL_law 813 = .ok (.aload_n 0, 1) := nq_d dL_law_700_g (n := 87) rfl
theorem dL_law_814 : decode cL_law 814 = .ok (.iload_n 3, 1) := nq_d dL_law_700_g (n := 88) rfl
theorem dL_law_815 : decode cL_law 815 = .ok (.iconst 1, 1) := nq_d dL_law_700_g (n := 89) rfl
theorem dL_law_816 : decode cL_law 816 = .ok (.iadd, 1) := nq_d dL_law_700_g (n := 90) rfl
theorem dL_law_817 : decode cL_law 817 = .ok (.iaload, 1) := nq_d dL_law_700_g (n := 91) rfl
theorem dL_law_818 : decode cL_law 818 = .ok (.aload_n 0, 1) := nq_d dL_law_700_g (n := 92) rfl
theorem dL_law_819 : decode cL_law 819 = .ok (.iload_n 3, 1) := nq_d dL_law_700_g (n := 93) rfl
theorem dL_law_820 : decode cL_law 820 = .ok (.iconst 2, 1) := nq_d dL_law_700_g (n := 94) rfl
theorem dL_law_821 : decode cL_law 821 = .ok (.iadd, 1) := nq_d dL_law_700_g (n := 95) rfl
theorem dL_law_822 : decode cL_law 822 = .ok (.iaload, 1) := nq_d dL_law_700_g (n := 96) rfl
theorem dL_law_823 : decode cL_law 823 = .ok (.invokevirtual 94, 3) := nq_d dL_law_700_g (n := 97) rfl
theorem dL_law_826 : decode cL_law 826 = .ok (.pop, 1) := nq_d dL_law_700_g (n := 98) rfl
theorem dL_law_827 : decode cL_law 827 = .ok (.goto 418, 3) := nq_d dL_law_700_g (n := 99) rfl
theorem dL_law_830 : decode cL_law 830 = .ok (.aload_n 1, 1) := nq_d dL_law_700_g (n := 100) rfl
theorem dL_law_831 : decode cL_law 831 = .ok (.aload_n 0, 1) := nq_d dL_law_700_g (n := 101) rfl
theorem dL_law_832 : decode cL_law 832 = .ok (.iload_n 3, 1) := nq_d dL_law_700_g (n := 102) rfl
theorem dL_law_833 : decode cL_law 833 = .ok (.iconst 1, 1) := nq_d dL_law_700_g (n := 103) rfl
theorem dL_law_834 : decode cL_law 834 = .ok (.iadd, 1) := nq_d dL_law_700_g (n := 104) rfl
theorem dL_law_835 : decode cL_law 835 = .ok (.iaload, 1) := nq_d dL_law_700_g (n := 105) rfl
theorem dL_law_836 : decode cL_law 836 = .ok (.invokevirtual 95, 3) := nq_d dL_law_700_g (n := 106) rfl
theorem dL_law_839 : decode cL_law 839 = .ok (.pop, 1) := nq_d dL_law_700_g (n := 107) rfl
theorem dL_law_840 : decode cL_law 840 = .ok (.aload_n 2, 1) := nq_d dL_law_700_g (n := 108) rfl
theorem dL_law_841 : decode cL_law 841 = .ok (.aload_n 0, 1) := nq_d dL_law_700_g (n := 109) rfl
theorem dL_law_842 : decode cL_law 842 = .ok (.iload_n 3, 1) := nq_d dL_law_700_g (n := 110) rfl
theorem dL_law_843 : decode cL_law 843 = .ok (.iconst 1, 1) := nq_d dL_law_700_g (n := 111) rfl
theorem dL_law_844 : decode cL_law 844 = .ok (.iadd, 1) := nq_d dL_law_700_g (n := 112) rfl
theorem dL_law_845 : decode cL_law 845 = .ok (.iaload, 1) := nq_d dL_law_700_g (n := 113) rfl
theorem dL_law_846 : decode cL_law 846 = .ok (.invokevirtual 98, 3) := nq_d dL_law_700_g (n := 114) rfl
theorem dL_law_849 : decode cL_law 849 = .ok (.pop, 1) := nq_d dL_law_700_g (n := 115) rfl
theorem dL_law_850 : decode cL_law 850 = .ok (.goto 395, 3) := nq_d dL_law_700_g (n := 116) rfl
theorem dL_law_853 : decode cL_law 853 = .ok (.aload_n 1, 1) := nq_d dL_law_700_g (n := 117) rfl
theorem dL_law_854 : decode cL_law 854 = .ok (.invokevirtual 99, 3) := nq_d dL_law_700_g (n := 118) rfl
theorem dL_law_857 : decode cL_law 857 = .ok (.pop, 1) := nq_d dL_law_700_g (n := 119) rfl
theorem dL_law_858 : decode cL_law 858 = .ok (.aload_n 2, 1) := nq_d dL_law_700_g (n := 120) rfl
theorem dL_law_859 : decode cL_law 859 = .ok (.invokevirtual 102, 3) := nq_d dL_law_700_g (n := 121) rfl
theorem dL_law_862 : decode cL_law 862 = .ok (.pop, 1) := nq_d dL_law_700_g (n := 122) rfl
theorem dL_law_863 : decode cL_law 863 = .ok (.goto 382, 3) := nq_d dL_law_700_g (n := 123) rfl
theorem dL_law_866 : decode cL_law 866 = .ok (.aload_n 1, 1) := nq_d dL_law_700_g (n := 124) rfl
theorem dL_law_867 : decode cL_law 867 = .ok (.aload_n 0, 1) := nq_d dL_law_700_g (n := 125) rfl
theorem dL_law_868 : decode cL_law 868 = .ok (.iload_n 3, 1) := nq_d dL_law_700_g (n := 126) rfl
theorem dL_law_869 : decode cL_law 869 = .ok (.iconst 1, 1) := nq_d dL_law_700_g (n := 127) rfl
theorem dL_law_870 : decode cL_law 870 = .ok (.iadd, 1) := nq_d dL_law_700_g (n := 128) rfl
theorem dL_law_871 : decode cL_law 871 = .ok (.iaload, 1) := nq_d dL_law_700_g (n := 129) rfl
theorem dL_law_872 : decode cL_law 872 = .ok (.aload_n 0, 1) := nq_d dL_law_700_g (n := 130) rfl
theorem dL_law_873 : decode cL_law 873 = .ok (.iload_n 3, 1) := nq_d dL_law_700_g (n := 131) rfl
theorem dL_law_874 : decode cL_law 874 = .ok (.iconst 2, 1) := nq_d dL_law_700_g (n := 132) rfl
theorem dL_law_875 : decode cL_law 875 = .ok (.iadd, 1) := nq_d dL_law_700_g (n := 133) rfl
theorem dL_law_876 : decode cL_law 876 = .ok (.iaload, 1) := nq_d dL_law_700_g (n := 134) rfl
theorem dL_law_877 : decode cL_law 877 = .ok (.invokevirtual 103, 3) := nq_d dL_law_700_g (n := 135) rfl
theorem dL_law_880 : decode cL_law 880 = .ok (.pop, 1) := nq_d dL_law_700_g (n := 136) rfl
theorem dL_law_881 : decode cL_law 881 = .ok (.aload_n 2, 1) := nq_d dL_law_700_g (n := 137) rfl
theorem dL_law_882 : decode cL_law 882 = .ok (.aload_n 0, 1) := nq_d dL_law_700_g (n := 138) rfl
theorem dL_law_883 : decode cL_law 883 = .ok (.iload_n 3, 1) := nq_d dL_law_700_g (n := 139) rfl
theorem dL_law_884 : decode cL_law 884 = .ok (.iconst 1, 1) := nq_d dL_law_700_g (n := 140) rfl
theorem dL_law_885 : decode cL_law 885 = .ok (.iadd, 1) := nq_d dL_law_700_g (n := 141) rfl
theorem dL_law_886 : decode cL_law 886 = .ok (.iaload, 1) := nq_d dL_law_700_g (n := 142) rfl
theorem dL_law_887 : decode cL_law 887 = .ok (.aload_n 0, 1) := nq_d dL_law_700_g (n := 143) rfl
theorem dL_law_888 : decode cL_law 888 = .ok (.iload_n 3, 1) := nq_d dL_law_700_g (n := 144) rfl
theorem dL_law_889 : decode cL_law 889 = .ok (.iconst 2, 1) := nq_d dL_law_700_g (n := 145) rfl
theorem dL_law_890 : decode cL_law 890 = .ok (.iadd, 1) := nq_d dL_law_700_g (n := 146) rfl
theorem dL_law_891 : decode cL_law 891 = .ok (.iaload, 1) := nq_d dL_law_700_g (n := 147) rfl
theorem dL_law_892 : decode cL_law 892 = .ok (.invokevirtual 106, 3) := nq_d dL_law_700_g (n := 148) rfl
theorem dL_law_895 : decode cL_law 895 = .ok (.pop, 1) := nq_d dL_law_700_g (n := 149) rfl
