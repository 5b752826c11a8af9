theorem dlw_B_0 : zdal code [(532, (.iaload, 1)), (533, (.aload_n 0, 1)), (534, (.iload_n 3, 1)), (535, (.iconst 2, 1)), (536, (.iadd, 1)), (537, (.iaload, 1)), (538, (.invokevirtual 60, 3)), (541, (.pop, 1)), (542, (.goto 968, 3)), (545, (.aload_n 1, 1)), (546, (.aload_n 0, 1)), (547, (.iload_n 3, 1)), (548, (.iconst 1, 1)), (549, (.iadd, 1)), (550, (.iaload, 1)), (551, (.aload_n 0, 1)), (552, (.iload_n 3, 1)), (553, (.iconst 2, 1)), (554, (.iadd, 1)), (555, (.iaload, 1)), (556, (.invokevirtual 61, 3)), (559, (.pop, 1)), (560, (.aload_n 2, 1)), (561, (.aload_n 0, 1)), (562, (.iload_n 3, 1)), (563, (.iconst 1, 1)), (564, (.iadd, 1)), (565, (.iaload, 1)), (566, (.aload_n 0, 1)), (567, (.iload_n 3, 1)), (568, (.iconst 2, 1)), (569, (.iadd, 1)), (570, (.iaload, 1)), (571, (.invokevirtual 64, 3)), (574, (.pop, 1)), (575, (.goto 935, 3)), (578, (.aload_n 1, 1)), (579, (.aload_n 0, 1)), (580, (.iload_n 3, 1)), (581, (.iconst 1, 1)), (582, (.iadd, 1)), (583, (.iaload, 1)), (584, (.aload_n 0, 1)), (585, (.iload_n 3, 1)), (586, (.iconst 2, 1)), (587, (.iadd, 1)), (588, (.iaload, 1)), (589, (.invokevirtual 65, 3)), (592, (.pop, 1)), (593, (.aload_n 2, 1)), (594, (.aload_n 0, 1)), (595, (.iload_n 3, 1)), (596, (.iconst 1, 1)), (597, (.iadd, 1)), (598, (.iaload, 1)), (599, (.aload_n 0, 1)), (600, (.iload_n 3, 1)), (601, (.iconst 2, 1)), (602, (.iadd, 1)), (603, (.iaload, 1)), (604, (.invokevirtual 68, 3)), (607, (.pop, 1)), (608, (.goto 902, 3)), (611, (.aload_n 1, 1))] = true := zDs 532 (by decide +kernel)
theorem d_Law_532 : decode code 532 = .ok (.iaload, 1) := zdal_p dlw_B_0 (i := 0) rfl
theorem d_Law_533 : decode code 533 = .ok (.aload_n 0, 1) := zdal_p dlw_B_0 (i := 1) rfl
theorem d_Law_534 : decode code 534 = .ok (.iload_n 3, 1) := zdal_p dlw_B_0 (i := 2) rfl
theorem d_Law_535 : decode code 535 = .ok (.iconst 2, 1) := zdal_p dlw_B_0 (i := 3) rfl
theorem d_Law_536 : decode code 536 = .ok (.iadd, 1) := zdal_p dlw_B_0 (i := 4) rfl
theorem d_Law_537 : decode code 537 = .ok (.iaload, 1) := zdal_p dlw_B_0 (i := 5) rfl
theorem d_Law_538 : decode code 538 = .ok (.invokevirtual 60, 3) := zdal_p dlw_B_0 (i := 6) rfl
theorem d_Law_541 : decode code 541 = .ok (.pop, 1) := zdal_p dlw_B_0 (i := 7) rfl
theorem d_Law_542 : decode code 542 = .ok (.goto 968, 3) := zdal_p dlw_B_0 (i := 8) rfl
theorem d_Law_545 : decode code 545 = .ok (.aload_n 1, 1) := zdal_p dlw_B_0 (i := 9) rfl
theorem d_Law_546 : decode code 546 = .ok (.aload_n 0, 1) := zdal_p dlw_B_0 (i := 10) rfl
theorem d_Law_547 : decode code 547 = .ok (.iload_n 3, 1) := zdal_p dlw_B_0 (i := 11) rfl
theorem d_Law_548 : decode code 548 = .ok (.iconst 1, 1) := zdal_p dlw_B_0 (i := 12) rfl
theorem d_Law_549 : decode code 549 = .ok (.iadd, 1) := zdal_p dlw_B_0 (i := 13) rfl
theorem d_Law_550 : decode code 550 = .ok (.iaload, 1) := zdal_p dlw_B_0 (i := 14) rfl
theorem d_Law_551 : decode code 551 = .ok (.aload_n 0, 1) := zdal_p dlw_B_0 (i := 15) rfl
theorem d_Law_552 : decode code 552 = .ok (.iload_n 3, 1) := zdal_p dlw_B_0 (i := 16) rfl
theorem d_Law_553 : decode code 553 = .ok (.iconst 2, 1) := zdal_p dlw_B_0 (i := 17) rfl
theorem d_Law_554 : decode code 554 = .ok (.iadd, 1) := zdal_p dlw_B_0 (i := 18) rfl
theorem d_Law_555 : decode code 555 = .ok (.iaload, 1) := zdal_p dlw_B_0 (i := 19) rfl
theorem d_Law_556 : decode code 556 = .ok (.invokevirtual 61, 3) := zdal_p dlw_B_0 (i := 20) rfl
theorem d_Law_559 : decode code 559 = .ok (.pop, 1) := zdal_p dlw_B_0 (i := 21) rfl
theorem d_Law_560 : decode code 560 = .ok (.aload_n 2, 1) := zdal_p dlw_B_0 (i := 22) rfl
theorem d_Law_561 : decode code 561 = .ok (.aload_n 0, 1) := zdal_p dlw_B_0 (i := 23) rfl
theorem d_Law_562 : decode code 562 = .ok (.iload_n 3, 1) := zdal_p dlw_B_0 (i := 24) rfl
theorem d_Law_563 : decode code 563 = .ok (.iconst 1, 1) := zdal_p dlw_B_0 (i := 25) rfl
theorem d_Law_564 : decode code 564 = .ok (.iadd, 1) := zdal_p dlw_B_0 (i := 26) rfl
theorem d_Law_565 : decode code 565 = .ok (.iaload, 1) := zdal_p dlw_B_0 (i := 27) rfl
theorem d_Law_566 : decode code 566 = .ok (.aload_n 0, 1) := zdal_p dlw_B_0 (i := 28) rfl
theorem d_Law_567 : decode code 567 = .ok (.iload_n 3, 1) := zdal_p dlw_B_0 (i := 29) rfl
theorem d_Law_568 : decode code 568 = .ok (.iconst 2, 1) := zdal_p dlw_B_0 (i := 30) rfl
theorem d_Law_569 : decode code 569 = .ok (.iadd, 1) := zdal_p dlw_B_0 (i := 31) rfl
theorem d_Law_570 : decode code 570 = .ok (.iaload, 1) := zdal_p dlw_B_0 (i := 32) rfl
theorem d_Law_571 : decode code 571 = .ok (.invokevirtual 64, 3) := zdal_p dlw_B_0 (i := 33) rfl
theorem d_Law_574 : decode code 574 = .ok (.pop, 1) := zdal_p dlw_B_0 (i := 34) rfl
theorem d_Law_575 : decode code 575 = .ok (.goto 935, 3) := zdal_p dlw_B_0 (i := 35) rfl
theorem d_Law_578 : decode code 578 = .ok (.aload_n 1, 1) := zdal_p dlw_B_0 (i := 36) rfl
theorem d_Law_579 : decode code 579 = .ok (.aload_n 0, 1) := zdal_p dlw_B_0 (i := 37) rfl
theorem d_Law_580 : decode code 580 = .ok (.iload_n 3, 1) := zdal_p dlw_B_0 (i := 38) rfl
theorem d_Law_581 : decode code 581 = .ok (.iconst 1, 1) := zdal_p dlw_B_0 (i := 39) rfl
theorem d_Law_582 : decode code 582 = .ok (.iadd, 1) := zdal_p dlw_B_0 (i := 40) rfl
theorem d_Law_583 : decode code 583 = .ok (.iaload, 1) := zdal_p dlw_B_0 (i := 41) rfl
theorem d_Law_584 : decode code 584 = .ok (.aload_n 0, 1) := zdal_p dlw_B_0 (i := 42) rfl
theorem d_Law_585 : decode code 585 = .ok (.iload_n 3, 1) := zdal_p dlw_B_0 (i := 43) rfl
theorem d_Law_586 : decode code 586 = .ok (.iconst 2, 1) := zdal_p dlw_B_0 (i := 44) rfl
theorem d_Law_587 : decode code 587 = .ok (.iadd, 1) := zdal_p dlw_B_0 (i := 45) rfl
theorem d_Law_588 : decode code 588 = .ok (.iaload, 1) := zdal_p dlw_B_0 (i := 46) rfl
theorem d_Law_589 : decode code 589 = .ok (.invokevirtual 65, 3) := zdal_p dlw_B_0 (i := 47) rfl
theorem d_Law_592 : decode code 592 = .ok (.pop, 1) := zdal_p dlw_B_0 (i := 48) rfl
theorem d_Law_593 : decode code 593 = .ok (.aload_n 2, 1) := zdal_p dlw_B_0 (i := 49) rfl
theorem d_Law_594 : decode code 594 = .ok (.aload_n 0, 1) := zdal_p dlw_B_0 (i := 50) rfl
theorem d_Law_595 : decode code 595 = .ok (.iload_n 3, 1) := zdal_p dlw_B_0 (i := 51) rfl
theorem d_Law_596 : decode code 596 = .ok (.iconst 1, 1) := zdal_p dlw_B_0 (i := 52) rfl
theorem d_Law_597 : decode code 597 = .ok (.iadd, 1) := zdal_p dlw_B_0 (i := 53) rfl
theorem d_Law_598 : decode code 598 = .ok (.iaload, 1) := zdal_p dlw_B_0 (i := 54) rfl
theorem d_Law_599 : decode code 599 = .ok (.aload_n 0, 1) := zdal_p dlw_B_0 (i := 55) rfl
theorem d_Law_600 : decode code 600 = .ok (.iload_n 3, 1) := zdal_p dlw_B_0 (i := 56) rfl
theorem d_Law_601 : decode code 601 = .ok (.iconst 2, 1) := zdal_p dlw_B_0 (i := 57) rfl
theorem d_Law_602 : decode code 602 = .ok (.iadd, 1) := zdal_p dlw_B_0 (i := 58) rfl
theorem d_Law_603 : decode code 603 = .ok (.iaload, 1) := zdal_p dlw_B_0 (i := 59) rfl
theorem d_Law_604 : decode code 604 = .ok (.invokevirtual 68, 3) := zdal_p dlw_B_0 (i := 60) rfl
theorem d_Law_607 : decode code 607 = .ok (.pop, 1) := zdal_p dlw_B_0 (i := 61) rfl
theorem d_Law_608 : decode code 608 = .ok (.goto 902, 3) := zdal_p dlw_B_0 (i := 62) rfl
theorem d_Law_611 : decode code 611 = .ok (.aload_n 1, 1) := zdal_p dlw_B_0 (i := 63) rfl
theorem dlw_B_1 : zdal code [(612, (.aload_n 0, 1)), (613, (.iload_n 3, 1)), (614, (.iconst 1, 1)), (615, (.iadd, 1)), (616, (.iaload, 1)), (617, (.aload_n 0, 1)), (618, (.iload_n 3, 1)), (619, (.iconst 2, 1)), (620, (.iadd, 1)), (621, (.iaload, 1)), (622, (.aload_n 0, 1)), (623, (.iload_n 3, 1)), (624, (.iconst 3, 1)), (625, (.iadd, 1)), (626, (.iaload, 1)), (627, (.invokevirtual 69, 3)), (630, (.pop, 1)), (631, (.aload_n 2, 1)), (632, (.aload_n 0, 1)), (633, (.iload_n 3, 1)), (634, (.iconst 1, 1)), (635, (.iadd, 1)), (636, (.iaload, 1)), (637, (.aload_n 0, 1)), (638, (.iload_n 3, 1)), (639, (.iconst 2, 1)), (640, (.iadd, 1)), (641, (.iaload, 1)), (642, (.aload_n 0, 1)), (643, (.iload_n 3, 1)), (644, (.iconst 3, 1)), (645, (.iadd, 1)), (646, (.iaload, 1)), (647, (.invokevirtual 73, 3)), (650, (.pop, 1)), (651, (.goto 859, 3)), (654, (.aload_n 1, 1)), (655, (.aload_n 0, 1)), (656, (.iload_n 3, 1)), (657, (.iconst 1, 1)), (658, (.iadd, 1)), (659, (.iaload, 1)), (660, (.aload_n 0, 1)), (661, (.iload_n 3, 1)), (662, (.iconst 2, 1)), (663, (.iadd, 1)), (664, (.iaload, 1)), (665, (.invokevirtual 74, 3)), (668, (.pop, 1)), (669, (.aload_n 2, 1)), (670, (.aload_n 0, 1)), (671, (.iload_n 3, 1)), (672, (.iconst 1, 1)), (673, (.iadd, 1)), (674, (.iaload, 1)), (675, (.aload_n 0, 1)), (676, (.iload_n 3, 1)), (677, (.iconst 2, 1)), (678, (.iadd, 1)), (679, (.iaload, 1)), (680, (.invokevirtual 77, 3)), (683, (.pop, 1)), (684, (.goto 826, 3)), (687, (.aload_n 1, 1))] = true := zDs 612 (by decide +kernel)
theorem d_Law_612 : decode code 612 = .ok (.aload_n 0, 1) := zdal_p dlw_B_1 (i := 0) rfl
theorem d_Law_613 : decode code 613 = .ok (.iload_n 3, 1) := zdal_p dlw_B_1 (i := 1) rfl
theorem d_Law_614 : decode code 614 = .ok (.iconst 1, 1) := zdal_p dlw_B_1 (i := 2) rfl
theorem d_Law_615 : decode code 615 = .ok (.iadd, 1) := zdal_p dlw_B_1 (i := 3) rfl
theorem d_Law_616 : decode code 616 = .ok (.iaload, 1) := zdal_p dlw_B_1 (i := 4) rfl
theorem d_Law_617 : decode code 617 = .ok (.aload_n 0, 1) := zdal_p dlw_B_1 (i := 5) rfl
theorem d_Law_618 : decode code 618 = .ok (.iload_n 3, 1) := zdal_p dlw_B_1 (i := 6) rfl
theorem d_Law_619 : decode code 619 = .ok (.iconst 2, 1) := zdal_p dlw_B_1 (i := 7) rfl
theorem d_Law_620 : decode code 620 = .ok (.iadd, 1) := zdal_p dlw_B_1 (i := 8) rfl
theorem d_Law_621 : decode code 621 = .ok (.iaload, 1) := zdal_p dlw_B_1 (i := 9) rfl
theorem d_Law_622 : decode code 622 = .ok (.aload_n 0, 1) := zdal_p dlw_B_1 (i := 10) rfl
theorem d_Law_623 : decode code 623 = .ok (.iload_n 3, 1) := zdal_p dlw_B_1 (i := 11) rfl
theorem d_Law_624 : decode code 624 = .ok (.iconst 3, 1) := zdal_p dlw_B_1 (i := 12) rfl
theorem d_Law_625 : decode code 625 = .ok (.iadd, 1) := zdal_p dlw_B_1 (i := 13) rfl
theorem d_Law_626 : decode code 626 = .ok (.iaload, 1) := zdal_p dlw_B_1 (i := 14) rfl
theorem d_Law_627 : decode code 627 = .ok (.invokevirtual 69, 3) := zdal_p dlw_B_1 (i := 15) rfl
theorem d_Law_630 : decode code 630 = .ok (.pop, 1) := zdal_p dlw_B_1 (i := 16) rfl
theorem d_Law_631 : decode code 631 = .ok (.aload_n 2, 1) := zdal_p dlw_B_1 (i := 17) rfl
theorem d_Law_632 : decode code 632 = .ok (.aload_n 0, 1) := zdal_p dlw_B_1 (i := 18) rfl
theorem d_Law_633 : decode code 633 = .ok (.iload_n 3, 1) := zdal_p dlw_B_1 (i := 19) rfl
theorem d_Law_634 : decode code 634 = .ok (.iconst 1, 1) := zdal_p dlw_B_1 (i := 20) rfl
theorem d_Law_635 : decode code 635 = .ok (.iadd, 1) := zdal_p dlw_B_1 (i := 21) rfl
theorem d_Law_636 : decode code 636 = .ok (.iaload, 1) := zdal_p dlw_B_1 (i := 22) rfl
theorem d_Law_637 : decode code 637 = .ok (.aload_n 0, 1) := zdal_p dlw_B_1 (i := 23) rfl
theorem d_Law_638 : decode code 638 = .ok (.iload_n 3, 1) := zdal_p dlw_B_1 (i := 24) rfl
theorem d_Law_639 : decode code 639 = .ok (.iconst 2, 1) := zdal_p dlw_B_1 (i := 25) rfl
theorem d_Law_640 : decode code 640 = .ok (.iadd, 1) := zdal_p dlw_B_1 (i := 26) rfl
theorem d_Law_641 : decode code 641 = .ok (.iaload, 1) := zdal_p dlw_B_1 (i := 27) rfl
theorem d_Law_642 : decode code 642 = .ok (.aload_n 0, 1) := zdal_p dlw_B_1 (i := 28) rfl
theorem d_Law_643 : decode code 643 = .ok (.iload_n 3, 1) := zdal_p dlw_B_1 (i := 29) rfl
theorem d_Law_644 : decode code 644 = .ok (.iconst 3, 1) := zdal_p dlw_B_1 (i := 30) rfl
theorem d_Law_645 : decode code 645 = .ok (.iadd, 1) := zdal_p dlw_B_1 (i := 31) rfl
theorem d_Law_646 : decode code 646 = .ok (.iaload, 1) := zdal_p dlw_B_1 (i := 32) rfl
theorem d_Law_647 : decode code 647 = .ok (.invokevirtual 73, 3) := zdal_p dlw_B_1 (i := 33) rfl
theorem d_Law_650 : decode code 650 = .ok (.pop, 1) := zdal_p dlw_B_1 (i := 34) rfl
theorem d_Law_651 : decode code 651 = .ok (.goto 859, 3) := zdal_p dlw_B_1 (i := 35) rfl
theorem d_Law_654 : decode code 654 = .ok (.aload_n 1, 1) := zdal_p dlw_B_1 (i := 36) rfl
theorem d_Law_655 : decode code 655 = .ok (.aload_n 0, 1) := zdal_p dlw_B_1 (i := 37) rfl
theorem d_Law_656 : decode code 656 = .ok (.iload_n 3, 1) := zdal_p dlw_B_1 (i := 38) rfl
theorem d_Law_657 : decode code 657 = .ok (.iconst 1, 1) := zdal_p dlw_B_1 (i := 39) rfl
theorem d_Law_658 : decode code 658 = .ok (.iadd, 1) := zdal_p dlw_B_1 (i := 40) rfl
theorem d_Law_659 : decode code 659 = .ok (.iaload, 1) := zdal_p dlw_B_1 (i := 41) rfl
theorem d_Law_660 : decode code 660 = .ok (.aload_n 0, 1) := zdal_p dlw_B_1 (i := 42) rfl
theorem d_Law_661 : decode code 661 = .ok (.iload_n 3, 1) := zdal_p dlw_B_1 (i := 43) rfl
theorem d_Law_662 : decode code 662 = .ok (.iconst 2, 1) := zdal_p dlw_B_1 (i := 44) rfl
theorem d_Law_663 : decode code 663 = .ok (.iadd, 1) := zdal_p dlw_B_1 (i := 45) rfl
theorem d_Law_664 : decode code 664 = .ok (.iaload, 1) := zdal_p dlw_B_1 (i := 46) rfl
theorem d_Law_665 : decode code 665 = .ok (.invokevirtual 74, 3) := zdal_p dlw_B_1 (i := 47) rfl
theorem d_Law_668 : decode code 668 = .ok (.pop, 1) := zdal_p dlw_B_1 (i := 48) rfl
theorem d_Law_669 : decode code 669 = .ok (.aload_n 2, 1) := zdal_p dlw_B_1 (i := 49) rfl
theorem d_Law_670 : decode code 670 = .ok (.aload_n 0, 1) := zdal_p dlw_B_1 (i := 50) rfl
theorem d_Law_671 : decode code 671 = .ok (.iload_n 3, 1) := zdal_p dlw_B_1 (i := 51) rfl
theorem d_Law_672 : decode code 672 = .ok (.iconst 1, 1) := zdal_p dlw_B_1 (i := 52) rfl
theorem d_Law_673 : decode code 673 = .ok (.iadd, 1) := zdal_p dlw_B_1 (i := 53) rfl
theorem d_Law_674 : decode code 674 = .ok (.iaload, 1) := zdal_p dlw_B_1 (i := 54) rfl
theorem d_Law_675 : decode code 675 = .ok (.aload_n 0, 1) := zdal_p dlw_B_1 (i := 55) rfl
theorem d_Law_676 : decode code 676 = .ok (.iload_n 3, 1) := zdal_p dlw_B_1 (i := 56) rfl
theorem d_Law_677 : decode code 677 = .ok (.iconst 2, 1) := zdal_p dlw_B_1 (i := 57) rfl
theorem d_Law_678 : decode code 678 = .ok (.iadd, 1) := zdal_p dlw_B_1 (i := 58) rfl
theorem d_Law_679 : decode code 679 = .ok (.iaload, 1) := zdal_p dlw_B_1 (i := 59) rfl
theorem d_Law_680 : decode code 680 = .ok (.invokevirtual 77, 3) := zdal_p dlw_B_1 (i := 60) rfl
theorem d_Law_683 : decode code 683 = .ok (.pop, 1) := zdal_p dlw_B_1 (i := 61) rfl
theorem d_Law_684 : decode code 684 = .ok (.goto 826, 3) := zdal_p dlw_B_1 (i := 62) rfl
theorem d_Law_687 : decode code 687 = .ok (.aload_n 1, 1) := zdal_p dlw_B_1 (i := 63) rfl
theorem dlw_B_2 : zdal code [(688, (.aload_n 0, 1)), (689, (.iload_n 3, 1)), (690, (.iconst 1, 1)), (691, (.iadd, 1)), (692, (.iaload, 1)), (693, (.aload_n 0, 1)), (694, (.iload_n 3, 1)), (695, (.iconst 2, 1)), (696, (.iadd, 1)), (697, (.iaload, 1)), (698, (.invokevirtual 78, 3)), (701, (.pop, 1)), (702, (.aload_n 2, 1)), (703, (.aload_n 0, 1)), (704, (.iload_n 3, 1)), (705, (.iconst 1, 1)), (706, (.iadd, 1)), (707, (.iaload, 1)), (708, (.aload_n 0, 1)), (709, (.iload_n 3, 1)), (710, (.iconst 2, 1)), (711, (.iadd, 1)), (712, (.iaload, 1)), (713, (.invokevirtual 81, 3)), (716, (.pop, 1)), (717, (.goto 793, 3)), (720, (.aload_n 1, 1)), (721, (.aload_n 0, 1)), (722, (.iload_n 3, 1)), (723, (.iconst 1, 1)), (724, (.iadd, 1)), (725, (.iaload, 1)), (726, (.invokevirtual 82, 3)), (729, (.pop, 1)), (730, (.aload_n 2, 1)), (731, (.aload_n 0, 1)), (732, (.iload_n 3, 1)), (733, (.iconst 1, 1)), (734, (.iadd, 1)), (735, (.iaload, 1)), (736, (.invokevirtual 85, 3)), (739, (.pop, 1)), (740, (.goto 770, 3)), (743, (.aload_n 1, 1)), (744, (.aload_n 0, 1)), (745, (.iload_n 3, 1)), (746, (.iconst 1, 1)), (747, (.iadd, 1)), (748, (.iaload, 1)), (749, (.invokevirtual 86, 3)), (752, (.pop, 1)), (753, (.aload_n 2, 1)), (754, (.aload_n 0, 1)), (755, (.iload_n 3, 1)), (756, (.iconst 1, 1)), (757, (.iadd, 1)), (758, (.iaload, 1)), (759, (.invokevirtual 89, 3)), (762, (.pop, 1)), (763, (.goto 747, 3)), (766, (.aload_n 1, 1)), (767, (.aload_n 0, 1)), (768, (.iload_n 3, 1)), (769, (.iconst 1, 1))] = true := zDs 688 (by decide +kernel)
theorem d_Law_688 : decode code 688 = .ok (.aload_n 0, 1) := zdal_p dlw_B_2 (i := 0) rfl
theorem d_Law_689 : decode code 689 = .ok (.iload_n 3, 1) := zdal_p dlw_B_2 (i := 1) rfl
theorem d_Law_690 : decode code 690 = .ok (.iconst 1, 1) := zdal_p dlw_B_2 (i := 2) rfl
theorem d_Law_691 : decode code 691 = .ok (.iadd, 1) := zdal_p dlw_B_2 (i := 3) rfl
theorem d_Law_692 : decode code 692 = .ok (.iaload, 1) := zdal_p dlw_B_2 (i := 4) rfl
theorem d_Law_693 : decode code 693 = .ok (.aload_n 0, 1) := zdal_p dlw_B_2 (i := 5) rfl
theorem d_Law_694 : decode code 694 = .ok (.iload_n 3, 1) := zdal_p dlw_B_2 (i := 6) rfl
theorem d_Law_695 : decode code 695 = .ok (.iconst 2, 1) := zdal_p dlw_B_2 (i := 7) rfl
theorem d_Law_696 : decode code 696 = .ok (.iadd, 1) := zdal_p dlw_B_2 (i := 8) rfl
theorem d_Law_697 : decode code 697 = .ok (.iaload, 1) := zdal_p dlw_B_2 (i := 9) rfl
theorem d_Law_698 : decode code 698 = .ok (.invokevirtual 78, 3) := zdal_p dlw_B_2 (i := 10) rfl
theorem d_Law_701 : decode code 701 = .ok (.pop, 1) := zdal_p dlw_B_2 (i := 11) rfl
theorem d_Law_702 : decode code 702 = .ok (.aload_n 2, 1) := zdal_p dlw_B_2 (i := 12) rfl
theorem d_Law_703 : decode code 703 = .ok (.aload_n 0, 1) := zdal_p dlw_B_2 (i := 13) rfl
theorem d_Law_704 : decode code 704 = .ok (.iload_n 3, 1) := zdal_p dlw_B_2 (i := 14) rfl
theorem d_Law_705 : decode code 705 = .ok (.iconst 1, 1) := zdal_p dlw_B_2 (i := 15) rfl
theorem d_Law_706 : decode code 706 = .ok (.iadd, 1) := zdal_p dlw_B_2 (i := 16) rfl
theorem d_Law_707 : decode code 707 = .ok (.iaload, 1) := zdal_p dlw_B_2 (i := 17) rfl
theorem d_Law_708 : decode code 708 = .ok (.aload_n 0, 1) := zdal_p dlw_B_2 (i := 18) rfl
theorem d_Law_709 : decode code 709 = .ok (.iload_n 3, 1) := zdal_p dlw_B_2 (i := 19) rfl
theorem d_Law_710 : decode code 710 = .ok (.iconst 2, 1) := zdal_p dlw_B_2 (i := 20) rfl
theorem d_Law_711 : decode code 711 = .ok (.iadd, 1) := zdal_p dlw_B_2 (i := 21) rfl
theorem d_Law_712 : decode code 712 = .ok (.iaload, 1) := zdal_p dlw_B_2 (i := 22) rfl
theorem d_Law_713 : decode code 713 = .ok (.invokevirtual 81, 3) := zdal_p dlw_B_2 (i := 23) rfl
theorem d_Law_716 : decode code 716 = .ok (.pop, 1) := zdal_p dlw_B_2 (i := 24) rfl
theorem d_Law_717 : decode code 717 = .ok (.goto 793, 3) := zdal_p dlw_B_2 (i := 25) rfl
theorem d_Law_720 : decode code 720 = .ok (.aload_n 1, 1) := zdal_p dlw_B_2 (i := 26) rfl
theorem d_Law_721 : decode code 721 = .ok (.aload_n 0, 1) := zdal_p dlw_B_2 (i := 27) rfl
theorem d_Law_722 : decode code 722 = .ok (.iload_n 3, 1) := zdal_p dlw_B_2 (i := 28) rfl
theorem d_Law_723 : decode code 723 = .ok (.iconst 1, 1) := zdal_p dlw_B_2 (i := 29) rfl
theorem d_Law_724 : decode code 724 = .ok (.iadd, 1) := zdal_p dlw_B_2 (i := 30) rfl
theorem d_Law_725 : decode code 725 = .ok (.iaload, 1) := zdal_p dlw_B_2 (i := 31) rfl
theorem d_Law_726 : decode code 726 = .ok (.invokevirtual 82, 3) := zdal_p dlw_B_2 (i := 32) rfl
theorem d_Law_729 : decode code 729 = .ok (.pop, 1) := zdal_p dlw_B_2 (i := 33) rfl
theorem d_Law_730 : decode code 730 = .ok (.aload_n 2, 1) := zdal_p dlw_B_2 (i := 34) rfl
theorem d_Law_731 : decode code 731 = .ok (.aload_n 0, 1) := zdal_p dlw_B_2 (i := 35) rfl
theorem d_Law_732 : decode code 732 = .ok (.iload_n 3, 1) := zdal_p dlw_B_2 (i := 36) rfl
theorem d_Law_733 : decode code 733 = .ok (.iconst 1, 1) := zdal_p dlw_B_2 (i := 37) rfl
theorem d_Law_734 : decode code 734 = .ok (.iadd, 1) := zdal_p dlw_B_2 (i := 38) rfl
theorem d_Law_735 : decode code 735 = .ok (.iaload, 1) := zdal_p dlw_B_2 (i := 39) rfl
theorem d_Law_736 : decode code 736 = .ok (.invokevirtual 85, 3) := zdal_p dlw_B_2 (i := 40) rfl
theorem d_Law_739 : decode code 739 = .ok (.pop, 1) := zdal_p dlw_B_2 (i := 41) rfl
theorem d_Law_740 : decode code 740 = .ok (.goto 770, 3) := zdal_p dlw_B_2 (i := 42) rfl
theorem d_Law_743 : decode code 743 = .ok (.aload_n 1, 1) := zdal_p dlw_B_2 (i := 43) rfl
theorem d_Law_744 : decode code 744 = .ok (.aload_n 0, 1) := zdal_p dlw_B_2 (i := 44) rfl
theorem d_Law_745 : decode code 745 = .ok (.iload_n 3, 1) := zdal_p dlw_B_2 (i := 45) rfl
theorem d_Law_746 : decode code 746 = .ok (.iconst 1, 1) := zdal_p dlw_B_2 (i := 46) rfl
theorem d_Law_747 : decode code 747 = .ok (.iadd, 1) := zdal_p dlw_B_2 (i := 47) rfl
theorem d_Law_748 : decode code 748 = .ok (.iaload, 1) := zdal_p dlw_B_2 (i := 48) rfl
theorem d_Law_749 : decode code 749 = .ok (.invokevirtual 86, 3) := zdal_p dlw_B_2 (i := 49) rfl
theorem d_Law_752 : decode code 752 = .ok (.pop, 1) := zdal_p dlw_B_2 (i := 50) rfl
theorem d_Law_753 : decode code 753 = .ok (.aload_n 2, 1) := zdal_p dlw_B_2 (i := 51) rfl
theorem d_Law_754 : decode code 754 = .ok (.aload_n 0, 1) := zdal_p dlw_B_2 (i := 52) rfl
theorem d_Law_755 : decode code 755 = .ok (.iload_n 3, 1) := zdal_p dlw_B_2 (i := 53) rfl
theorem d_Law_756 : decode code 756 = .ok (.iconst 1, 1) := zdal_p dlw_B_2 (i := 54) rfl
theorem d_Law_757 : decode code 757 = .ok (.iadd, 1) := zdal_p dlw_B_2 (i := 55) rfl
theorem d_Law_758 : decode code 758 = .ok (.iaload, 1) := zdal_p dlw_B_2 (i := 56) rfl
theorem d_Law_759 : decode code 759 = .ok (.invokevirtual 89, 3) := zdal_p dlw_B_2 (i := 57) rfl
theorem d_Law_762 : decode code 762 = .ok (.pop, 1) := zdal_p dlw_B_2 (i := 58) rfl
theorem d_Law_763 : decode code 763 = .ok (.goto 747, 3) := zdal_p dlw_B_2 (i := 59) rfl
theorem d_Law_766 : decode code 766 = .ok (.aload_n 1, 1) := zdal_p dlw_B_2 (i := 60) rfl
theorem d_Law_767 : decode code 767 = .ok (.aload_n 0, 1) := zdal_p dlw_B_2 (i := 61) rfl
theorem d_Law_768 : decode code 768 = .ok (.iload_n 3, 1) := zdal_p dlw_B_2 (i := 62) rfl
theorem d_Law_769 : decode code 769 = .ok (.iconst 1, 1) := zdal_p dlw_B_2 (i := 63) rfl
theorem dlw_B_3 : zdal code [(770, (.iadd, 1)), (771, (.iaload, 1)), (772, (.aload_n 0, 1)), (773, (.iload_n 3, 1)), (774, (.iconst 2, 1)), (775, (.iadd, 1)), (776, (.iaload, 1)), (777, (.invokevirtual 90, 3)), (780, (.pop, 1)), (781, (.aload_n 2, 1)), (782, (.aload_n 0, 1)), (783, (.iload_n 3, 1)), (784, (.iconst 1, 1)), (785, (.iadd, 1)), (786, (.iaload, 1)), (787, (.aload_n 0, 1)), (788, (.iload_n 3, 1)), (789, (.iconst 2, 1)), (790, (.iadd, 1)), (791, (.iaload, 1)), (792, (.invokevirtual 93, 3)), (795, (.pop, 1)), (796, (.goto 714, 3)), (799, (.aload_n 1, 1)), (800, (.aload_n 0, 1)), (801, (.iload_n 3, 1)), (802, (.iconst 1, 1)), (803, (.iadd, 1)), (804, (.iaload, 1)), (805, (.aload_n 0, 1)), (806, (.iload_n 3, 1)), (807, (.iconst 2, 1)), (808, (.iadd, 1)), (809, (.iaload, 1)), (810, (.aload_n 0, 1)), (811, (.iload_n 3, 1)), (812, (.iconst 3, 1)), (813, (.iadd, 1)), (814, (.iaload, 1)), (815, (.invokevirtual 94, 3)), (818, (.pop, 1)), (819, (.aload_n 2, 1)), (820, (.aload_n 0, 1)), (821, (.iload_n 3, 1)), (822, (.iconst 1, 1)), (823, (.iadd, 1)), (824, (.iaload, 1)), (825, (.aload_n 0, 1)), (826, (.iload_n 3, 1)), (827, (.iconst 2, 1)), (828, (.iadd, 1)), (829, (.iaload, 1)), (830, (.aload_n 0, 1)), (831, (.iload_n 3, 1)), (832, (.iconst 3, 1)), (833, (.iadd, 1)), (834, (.iaload, 1)), (835, (.invokevirtual 97, 3)), (838, (.pop, 1)), (839, (.goto 671, 3)), (842, (.aload_n 1, 1)), (843, (.aload_n 0, 1)), (844, (.iload_n 3, 1)), (845, (.iconst 1, 1))] = true := zDs 770 (by decide +kernel)
theorem d_Law_770 : decode code 770 = .ok (.iadd, 1) := zdal_p dlw_B_3 (i := 0) rfl
theorem d_Law_771 : decode code 771 = .ok (.iaload, 1) := zdal_p dlw_B_3 (i := 1) rfl
theorem d_Law_772 : decode code 772 = .ok (.aload_n 0, 1) := zdal_p dlw_B_3 (i := 2) rfl
theorem d_Law_773 : decode code 773 = .ok (.iload_n 3, 1) := zdal_p dlw_B_3 (i := 3) rfl
theorem d_Law_774 : decode code 774 = .ok (.iconst 2, 1) := zdal_p dlw_B_3 (i := 4) rfl
theorem d_Law_775 : decode code 775 = .ok (.iadd, 1) := zdal_p dlw_B_3 (i := 5) rfl
theorem d_Law_776 : decode code 776 = .ok (.iaload, 1) := zdal_p dlw_B_3 (i := 6) rfl
theorem d_Law_777 : decode code 777 = .ok (.invokevirtual 90, 3) := zdal_p dlw_B_3 (i := 7) rfl
theorem d_Law_780 : decode code 780 = .ok (.pop, 1) := zdal_p dlw_B_3 (i := 8) rfl
theorem d_Law_781 : decode code 781 = .ok (.aload_n 2, 1) := zdal_p dlw_B_3 (i := 9) rfl
theorem d_Law_782 : decode code 782 = .ok (.aload_n 0, 1) := zdal_p dlw_B_3 (i := 10) rfl
theorem d_Law_783 : decode code 783 = .ok (.iload_n 3, 1) := zdal_p dlw_B_3 (i := 11) rfl
theorem d_Law_784 : decode code 784 = .ok (.iconst 1, 1) := zdal_p dlw_B_3 (i := 12) rfl
theorem d_Law_785 : decode code 785 = .ok (.iadd, 1) := zdal_p dlw_B_3 (i := 13) rfl
theorem d_Law_786 : decode code 786 = .ok (.iaload, 1) := zdal_p dlw_B_3 (i := 14) rfl
theorem d_Law_787 : decode code 787 = .ok (.aload_n 0, 1) := zdal_p dlw_B_3 (i := 15) rfl
theorem d_Law_788 : decode code 788 = .ok (.iload_n 3, 1) := zdal_p dlw_B_3 (i := 16) rfl
theorem d_Law_789 : decode code 789 = .ok (.iconst 2, 1) := zdal_p dlw_B_3 (i := 17) rfl
theorem d_Law_790 : decode code 790 = .ok (.iadd, 1) := zdal_p dlw_B_3 (i := 18) rfl
theorem d_Law_791 : decode code 791 = .ok (.iaload, 1) := zdal_p dlw_B_3 (i := 19) rfl
theorem d_Law_792 : decode code 792 = .ok (.invokevirtual 93, 3) := zdal_p dlw_B_3 (i := 20) rfl
theorem d_Law_795 : decode code 795 = .ok (.pop, 1) := zdal_p dlw_B_3 (i := 21) rfl
theorem d_Law_796 : decode code 796 = .ok (.goto 714, 3) := zdal_p dlw_B_3 (i := 22) rfl
theorem d_Law_799 : decode code 799 = .ok (.aload_n 1, 1) := zdal_p dlw_B_3 (i := 23) rfl
theorem d_Law_800 : decode code 800 = .ok (.aload_n 0, 1) := zdal_p dlw_B_3 (i := 24) rfl
theorem d_Law_801 : decode code 801 = .ok (.iload_n 3, 1) := zdal_p dlw_B_3 (i := 25) rfl
theorem d_Law_802 : decode code 802 = .ok (.iconst 1, 1) := zdal_p dlw_B_3 (i := 26) rfl
theorem d_Law_803 : decode code 803 = .ok (.iadd, 1) := zdal_p dlw_B_3 (i := 27) rfl
theorem d_Law_804 : decode code 804 = .ok (.iaload, 1) := zdal_p dlw_B_3 (i := 28) rfl
theorem d_Law_805 : decode code 805 = .ok (.aload_n 0, 1) := zdal_p dlw_B_3 (i := 29) rfl
theorem d_Law_806 : decode code 806 = .ok (.iload_n 3, 1) := zdal_p dlw_B_3 (i := 30) rfl
theorem d_Law_807 : decode code 807 = .ok (.iconst 2, 1) := zdal_p dlw_B_3 (i := 31) rfl
theorem d_Law_808 : decode code 808 = .ok (.iadd, 1) := zdal_p dlw_B_3 (i := 32) rfl
theorem d_Law_809 : decode code 809 = .ok (.iaload, 1) := zdal_p dlw_B_3 (i := 33) rfl
theorem d_Law_810 : decode code 810 = .ok (.aload_n 0, 1) := zdal_p dlw_B_3 (i := 34) rfl
theorem d_Law_811 : decode code 811 = .ok (.iload_n 3, 1) := zdal_p dlw_B_3 (i := 35) rfl
theorem d_Law_812 : decode code 812 = .ok (.iconst 3, 1) := zdal_p dlw_B_3 (i := 36) rfl
theorem d_Law_813 : decode code 813 = .ok (.iadd, 1) := zdal_p dlw_B_3 (i := 37) rfl
theorem d_Law_814 : decode code 814 = .ok (.iaload, 1) := zdal_p dlw_B_3 (i := 38) rfl
theorem d_Law_815 : decode code 815 = .ok (.invokevirtual 94, 3) := zdal_p dlw_B_3 (i := 39) rfl
theorem d_Law_818 : decode code 818 = .ok (.pop, 1) := zdal_p dlw_B_3 (i := 40) rfl
theorem d_Law_819 : decode code 819 = .ok (.aload_n 2, 1) := zdal_p dlw_B_3 (i := 41) rfl
theorem d_Law_820 : decode code 820 = .ok (.aload_n 0, 1) := zdal_p dlw_B_3 (i := 42) rfl
theorem d_Law_821 : decode code 821 = .ok (.iload_n 3, 1) := zdal_p dlw_B_3 (i := 43) rfl
theorem d_Law_822 : decode code 822 = .ok (.iconst 1, 1) := zdal_p dlw_B_3 (i := 44) rfl
theorem d_Law_823 : decode code 823 = .ok (.iadd, 1) := zdal_p dlw_B_3 (i := 45) rfl
theorem d_Law_824 : decode code 824 = .ok (.iaload, 1) := zdal_p dlw_B_3 (i := 46) rfl
theorem d_Law_825 : decode code 825 = .ok (.aload_n 0, 1) := zdal_p dlw_B_3 (i := 47) rfl
theorem d_Law_826 : decode code 826 = .ok (.iload_n 3, 1) := zdal_p dlw_B_3 (i := 48) rfl
theorem d_Law_827 : decode code 827 = .ok (.iconst 2, 1) := zdal_p dlw_B_3 (i := 49) rfl
theorem d_Law_828 : decode code 828 = .ok (.iadd, 1) := zdal_p dlw_B_3 (i := 50) rfl
theorem d_Law_829 : decode code 829 = .ok (.iaload, 1) := zdal_p dlw_B_3 (i := 51) rfl
theorem d_Law_830 : decode code 830 = .ok (.aload_n 0, 1) := zdal_p dlw_B_3 (i := 52) rfl
theorem d_Law_831 : decode code 831 = .ok (.iload_n 3, 1) := zdal_p dlw_B_3 (i := 53) rfl
theorem d_Law_832 : decode code 832 = .ok (.iconst 3, 1) := zdal_p dlw_B_3 (i := 54) rfl
theorem d_Law_833 : decode code 833 = .ok (.iadd, 1) := zdal_p dlw_B_3 (i := 55) rfl
theorem d_Law_834 : decode code 834 = .ok (.iaload, 1) := zdal_p dlw_B_3 (i := 56) rfl
theorem d_Law_835 : decode code 835 = .ok (.invokevirtual 97, 3) := zdal_p dlw_B_3 (i := 57) rfl
theorem d_Law_838 : decode code 838 = .ok (.pop, 1) := zdal_p dlw_B_3 (i := 58) rfl
theorem d_Law_839 : decode code 839 = .ok (.goto 671, 3) := zdal_p dlw_B_3 (i := 59) rfl
theorem d_Law_842 : decode code 842 = .ok (.aload_n 1, 1) := zdal_p dlw_B_3 (i := 60) rfl
theorem d_Law_843 : decode code 843 = .ok (.aload_n 0, 1) := zdal_p dlw_B_3 (i := 61) rfl
theorem d_Law_844 : decode code 844 = .ok (.iload_n 3, 1) := zdal_p dlw_B_3 (i := 62) rfl
theorem d_Law_845 : decode code 845 = .ok (.iconst 1, 1) := zdal_p dlw_B_3 (i := 63) rfl
theorem dlw_B_4 : zdal code [(846, (.iadd, 1)), (847, (.iaload, 1)), (848, (.invokevirtual 98, 3)), (851, (.pop, 1))] = true := zDs 846 (by decide +kernel)
theorem d_Law_846 : decode code 846 = .ok (.iadd, 1) := zdal_p dlw_B_4 (i := 0) rfl
theorem d_Law_847 : decode code 847 = .ok (.iaload, 1) := zdal_p dlw_B_4 (i := 1) rfl
theorem d_Law_848 : decode code 848 = .ok (.invokevirtual 98, 3) := zdal_p dlw_B_4 (i := 2) rfl
theorem d_Law_851 : decode code 851 = .ok (.pop, 1) := zdal_p dlw_B_4 (i := 3) rfl
