theorem dL_isSo_526 : decode cL_isSo 526 = .ok (.goto (-47), 3) := by decide +kernel
theorem dL_isSo_529 : decode cL_isSo 529 = .ok (.aload_n 0, 1) := by decide +kernel
theorem dL_isSo_530 : decode cL_isSo 530 = .ok (.iload 13, 2) := by decide +kernel
theorem dL_isSo_532 : decode cL_isSo 532 = .ok (.iload 15, 2) := by decide +kernel
theorem dL_isSo_534 : decode cL_isSo 534 = .ok (.invokevirtual 113, 3) := by decide +kernel
theorem dL_isSo_537 : decode cL_isSo 537 = .ok (.i2l, 1) := by decide +kernel
theorem dL_isSo_538 : decode cL_isSo 538 = .ok (.lload 16, 2) := by decide +kernel
theorem dL_isSo_540 : decode cL_isSo 540 = .ok (.lcmp, 1) := by decide +kernel
theorem dL_isSo_541 : decode cL_isSo 541 = .ok (.ifCond .ne 29, 3) := by decide +kernel
theorem dL_isSo_544 : decode cL_isSo 544 = .ok (.aload_n 0, 1) := by decide +kernel
theorem dL_isSo_545 : decode cL_isSo 545 = .ok (.iload 13, 2) := by decide +kernel
theorem dL_isSo_547 : decode cL_isSo 547 = .ok (.iload 15, 2) := by decide +kernel
theorem dL_isSo_549 : decode cL_isSo 549 = .ok (.invokevirtual 116, 3) := by decide +kernel
theorem dL_isSo_552 : decode cL_isSo 552 = .ok (.aload 9, 2) := by decide +kernel
theorem dL_isSo_554 : decode cL_isSo 554 = .ok (.bipush 8, 2) := by decide +kernel
theorem dL_isSo_556 : decode cL_isSo 556 = .ok (.iload 13, 2) := by decide +kernel
theorem dL_isSo_558 : decode cL_isSo 558 = .ok (.imul, 1) := by decide +kernel
theorem dL_isSo_559 : decode cL_isSo 559 = .ok (.iload 15, 2) := by decide +kernel
theorem dL_isSo_561 : decode cL_isSo 561 = .ok (.iadd, 1) := by decide +kernel
theorem dL_isSo_562 : decode cL_isSo 562 = .ok (.iaload, 1) := by decide +kernel
theorem dL_isSo_563 : decode cL_isSo 563 = .ok (.if_icmp .ne 7, 3) := by decide +kernel
theorem dL_isSo_566 : decode cL_isSo 566 = .ok (.iconst 1, 1) := by decide +kernel
theorem dL_isSo_567 : decode cL_isSo 567 = .ok (.goto 4, 3) := by decide +kernel
theorem dL_isSo_570 : decode cL_isSo 570 = .ok (.iconst 0, 1) := by decide +kernel
theorem dL_isSo_571 : decode cL_isSo 571 = .ok (.istore 10, 2) := by decide +kernel
theorem dL_isSo_573 : decode cL_isSo 573 = .ok (.iinc 15 1, 3) := by decide +kernel
theorem dL_isSo_576 : decode cL_isSo 576 = .ok (.goto (-116), 3) := by decide +kernel
theorem dL_isSo_579 : decode cL_isSo 579 = .ok (.iinc 13 1, 3) := by decide +kernel
theorem dL_isSo_582 : decode cL_isSo 582 = .ok (.goto (-236), 3) := by decide +kernel
theorem dL_isSo_585 : decode cL_isSo 585 = .ok (.iload 10, 2) := by decide +kernel
theorem dL_isSo_587 : decode cL_isSo 587 = .ok (.ifCond .eq 25, 3) := by decide +kernel
theorem dL_isSo_590 : decode cL_isSo 590 = .ok (.aload_n 0, 1) := by decide +kernel
theorem dL_isSo_591 : decode cL_isSo 591 = .ok (.invokevirtual 119, 3) := by decide +kernel
theorem dL_isSo_594 : decode cL_isSo 594 = .ok (.iload 11, 2) := by decide +kernel
theorem dL_isSo_596 : decode cL_isSo 596 = .ok (.if_icmp .ne 16, 3) := by decide +kernel
theorem dL_isSo_599 : decode cL_isSo 599 = .ok (.aload_n 0, 1) := by decide +kernel
theorem dL_isSo_600 : decode cL_isSo 600 = .ok (.invokevirtual 122, 3) := by decide +kernel
theorem dL_isSo_603 : decode cL_isSo 603 = .ok (.iload 12, 2) := by decide +kernel
theorem dL_isSo_605 : decode cL_isSo 605 = .ok (.if_icmp .ne 7, 3) := by decide +kernel
theorem dL_isSo_608 : decode cL_isSo 608 = .ok (.iconst 1, 1) := by decide +kernel
theorem dL_isSo_609 : decode cL_isSo 609 = .ok (.goto 4, 3) := by decide +kernel
theorem dL_isSo_612 : decode cL_isSo 612 = .ok (.iconst 0, 1) := by decide +kernel
theorem dL_isSo_613 : decode cL_isSo 613 = .ok (.ireturn, 1) := by decide +kernel
