theorem dL_does_542 : decode cL_does 542 = .ok (.istore 12, 2) := by decide +kernel
theorem dL_does_544 : decode cL_does 544 = .ok (.iload 12, 2) := by decide +kernel
theorem dL_does_546 : decode cL_does 546 = .ok (.ifCond .eq 68, 3) := by decide +kernel
theorem dL_does_549 : decode cL_does 549 = .ok (.aload_n 2, 1) := by decide +kernel
theorem dL_does_550 : decode cL_does 550 = .ok (.iconst 0, 1) := by decide +kernel
theorem dL_does_551 : decode cL_does 551 = .ok (.iaload, 1) := by decide +kernel
theorem dL_does_552 : decode cL_does 552 = .ok (.iconst 2, 1) := by decide +kernel
theorem dL_does_553 : decode cL_does 553 = .ok (.if_icmp .ne 61, 3) := by decide +kernel
theorem dL_does_556 : decode cL_does 556 = .ok (.iload 10, 2) := by decide +kernel
theorem dL_does_558 : decode cL_does 558 = .ok (.istore 13, 2) := by decide +kernel
theorem dL_does_560 : decode cL_does 560 = .ok (.iload 13, 2) := by decide +kernel
theorem dL_does_562 : decode cL_does 562 = .ok (.ifCond .lt 22, 3) := by decide +kernel
theorem dL_does_565 : decode cL_does 565 = .ok (.iload 13, 2) := by decide +kernel
theorem dL_does_567 : decode cL_does 567 = .ok (.iload 11, 2) := by decide +kernel
theorem dL_does_569 : decode cL_does 569 = .ok (.if_icmp .eq 15, 3) := by decide +kernel
theorem dL_does_572 : decode cL_does 572 = .ok (.aload_n 0, 1) := by decide +kernel
theorem dL_does_573 : decode cL_does 573 = .ok (.bipush 24, 2) := by decide +kernel
theorem dL_does_575 : decode cL_does 575 = .ok (.iload 13, 2) := by decide +kernel
theorem dL_does_577 : decode cL_does 577 = .ok (.iadd, 1) := by decide +kernel
theorem dL_does_578 : decode cL_does 578 = .ok (.iaload, 1) := by decide +kernel
theorem dL_does_579 : decode cL_does 579 = .ok (.istore 13, 2) := by decide +kernel
theorem dL_does_581 : decode cL_does 581 = .ok (.goto (-21), 3) := by decide +kernel
theorem dL_does_584 : decode cL_does 584 = .ok (.iload 13, 2) := by decide +kernel
theorem dL_does_586 : decode cL_does 586 = .ok (.iload 11, 2) := by decide +kernel
theorem dL_does_588 : decode cL_does 588 = .ok (.if_icmp .eq 23, 3) := by decide +kernel
theorem dL_does_591 : decode cL_does 591 = .ok (.aload_n 0, 1) := by decide +kernel
theorem dL_does_592 : decode cL_does 592 = .ok (.aload_n 1, 1) := by decide +kernel
theorem dL_does_593 : decode cL_does 593 = .ok (.bipush 16, 2) := by decide +kernel
theorem dL_does_595 : decode cL_does 595 = .ok (.invokestatic 45, 3) := by decide +kernel
theorem dL_does_598 : decode cL_does 598 = .ok (.iload 10, 2) := by decide +kernel
theorem dL_does_600 : decode cL_does 600 = .ok (.ishr, 1) := by decide +kernel
theorem dL_does_601 : decode cL_does 601 = .ok (.iconst 1, 1) := by decide +kernel
theorem dL_does_602 : decode cL_does 602 = .ok (.iand, 1) := by decide +kernel
theorem dL_does_603 : decode cL_does 603 = .ok (.iconst 1, 1) := by decide +kernel
theorem dL_does_604 : decode cL_does 604 = .ok (.if_icmp .ne 7, 3) := by decide +kernel
theorem dL_does_607 : decode cL_does 607 = .ok (.iconst 1, 1) := by decide +kernel
theorem dL_does_608 : decode cL_does 608 = .ok (.goto 4, 3) := by decide +kernel
theorem dL_does_611 : decode cL_does 611 = .ok (.iconst 0, 1) := by decide +kernel
theorem dL_does_612 : decode cL_does 612 = .ok (.istore 12, 2) := by decide +kernel
theorem dL_does_614 : decode cL_does 614 = .ok (.iload 12, 2) := by decide +kernel
theorem dL_does_616 : decode cL_does 616 = .ok (.ifCond .eq 99, 3) := by decide +kernel
theorem dL_does_619 : decode cL_does 619 = .ok (.aload_n 1, 1) := by decide +kernel
theorem dL_does_620 : decode cL_does 620 = .ok (.bipush 6, 2) := by decide +kernel
theorem dL_does_622 : decode cL_does 622 = .ok (.dup2, 1) := by decide +kernel
theorem dL_does_623 : decode cL_does 623 = .ok (.iaload, 1) := by decide +kernel
theorem dL_does_624 : decode cL_does 624 = .ok (.iconst 1, 1) := by decide +kernel
theorem dL_does_625 : decode cL_does 625 = .ok (.iload 11, 2) := by decide +kernel
theorem dL_does_627 : decode cL_does 627 = .ok (.ishl, 1) := by decide +kernel
theorem dL_does_628 : decode cL_does 628 = .ok (.ior, 1) := by decide +kernel
theorem dL_does_629 : decode cL_does 629 = .ok (.iastore, 1) := by decide +kernel
theorem dL_does_630 : decode cL_does 630 = .ok (.aload_n 0, 1) := by decide +kernel
theorem dL_does_631 : decode cL_does 631 = .ok (.bipush 24, 2) := by decide +kernel
theorem dL_does_633 : decode cL_does 633 = .ok (.iload 11, 2) := by decide +kernel
theorem dL_does_635 : decode cL_does 635 = .ok (.iadd, 1) := by decide +kernel
theorem dL_does_636 : decode cL_does 636 = .ok (.aload_n 2, 1) := by decide +kernel
theorem dL_does_637 : decode cL_does 637 = .ok (.iconst 0, 1) := by decide +kernel
theorem dL_does_638 : decode cL_does 638 = .ok (.iaload, 1) := by decide +kernel
theorem dL_does_639 : decode cL_does 639 = .ok (.ifCond .ne 8, 3) := by decide +kernel
theorem dL_does_642 : decode cL_does 642 = .ok (.bipush (-3), 2) := by decide +kernel
theorem dL_does_644 : decode cL_does 644 = .ok (.goto 34, 3) := by decide +kernel
theorem dL_does_647 : decode cL_does 647 = .ok (.aload_n 2, 1) := by decide +kernel
theorem dL_does_648 : decode cL_does 648 = .ok (.iconst 0, 1) := by decide +kernel
theorem dL_does_649 : decode cL_does 649 = .ok (.iaload, 1) := by decide +kernel
theorem dL_does_650 : decode cL_does 650 = .ok (.iconst 1, 1) := by decide +kernel
theorem dL_does_651 : decode cL_does 651 = .ok (.if_icmp .ne 8, 3) := by decide +kernel
theorem dL_does_654 : decode cL_does 654 = .ok (.bipush (-2), 2) := by decide +kernel
theorem dL_does_656 : decode cL_does 656 = .ok (.goto 22, 3) := by decide +kernel
theorem dL_does_659 : decode cL_does 659 = .ok (.aload_n 2, 1) := by decide +kernel
theorem dL_does_660 : decode cL_does 660 = .ok (.iconst 0, 1) := by decide +kernel
theorem dL_does_661 : decode cL_does 661 = .ok (.iaload, 1) := by decide +kernel
theorem dL_does_662 : decode cL_does 662 = .ok (.iconst 2, 1) := by decide +kernel
theorem dL_does_663 : decode cL_does 663 = .ok (.if_icmp .ne 8, 3) := by decide +kernel
theorem dL_does_666 : decode cL_does 666 = .ok (.iload 10, 2) := by decide +kernel
theorem dL_does_668 : decode cL_does 668 = .ok (.goto 10, 3) := by decide +kernel
theorem dL_does_671 : decode cL_does 671 = .ok (.aload_n 0, 1) := by decide +kernel
theorem dL_does_672 : decode cL_does 672 = .ok (.bipush 24, 2) := by decide +kernel
theorem dL_does_674 : decode cL_does 674 = .ok (.iload 11, 2) := by decide +kernel
theorem dL_does_676 : decode cL_does 676 = .ok (.iadd, 1) := by decide +kernel
theorem dL_does_677 : decode cL_does 677 = .ok (.iaload, 1) := by decide +kernel
theorem dL_does_678 : decode cL_does 678 = .ok (.iastore, 1) := by decide +kernel
theorem dL_does_679 : decode cL_does 679 = .ok (.aload_n 0, 1) := by decide +kernel
theorem dL_does_680 : decode cL_does 680 = .ok (.bipush 18, 2) := by decide +kernel
theorem dL_does_682 : decode cL_does 682 = .ok (.iload 11, 2) := by decide +kernel
theorem dL_does_684 : decode cL_does 684 = .ok (.iadd, 1) := by decide +kernel
theorem dL_does_685 : decode cL_does 685 = .ok (.aload_n 2, 1) := by decide +kernel
theorem dL_does_686 : decode cL_does 686 = .ok (.iconst 0, 1) := by decide +kernel
theorem dL_does_687 : decode cL_does 687 = .ok (.iaload, 1) := by decide +kernel
theorem dL_does_688 : decode cL_does 688 = .ok (.iconst 3, 1) := by decide +kernel
theorem dL_does_689 : decode cL_does 689 = .ok (.if_icmp .ne 7, 3) := by decide +kernel
theorem dL_does_692 : decode cL_does 692 = .ok (.iconst 1, 1) := by decide +kernel
theorem dL_does_693 : decode cL_does 693 = .ok (.goto 21, 3) := by decide +kernel
theorem dL_does_696 : decode cL_does 696 = .ok (.aload_n 2, 1) := by decide +kernel
theorem dL_does_697 : decode cL_does 697 = .ok (.iconst 0, 1) := by decide +kernel
theorem dL_does_698 : decode cL_does 698 = .ok (.iaload, 1) := by decide +kernel
theorem dL_does_699 : decode cL_does 699 = .ok (.iconst 4, 1) := by decide +kernel
theorem dL_does_700 : decode cL_does 700 = .ok (.if_icmp .ne 7, 3) := by decide +kernel
theorem dL_does_703 : decode cL_does 703 = .ok (.iconst 0, 1) := by decide +kernel
theorem dL_does_704 : decode cL_does 704 = .ok (.goto 10, 3) := by decide +kernel
theorem dL_does_707 : decode cL_does 707 = .ok (.aload_n 0, 1) := by decide +kernel
theorem dL_does_708 : decode cL_does 708 = .ok (.bipush 18, 2) := by decide +kernel
theorem dL_does_710 : decode cL_does 710 = .ok (.iload 11, 2) := by decide +kernel
theorem dL_does_712 : decode cL_does 712 = .ok (.iadd, 1) := by decide +kernel
theorem dL_does_713 : decode cL_does 713 = .ok (.iaload, 1) := by decide +kernel
theorem dL_does_714 : decode cL_does 714 = .ok (.iastore, 1) := by decide +kernel
theorem dL_does_715 : decode cL_does 715 = .ok (.iinc 11 1, 3) := by decide +kernel
theorem dL_does_718 : decode cL_does 718 = .ok (.goto (-216), 3) := by decide +kernel
theorem dL_does_721 : decode cL_does 721 = .ok (.iconst 0, 1) := by decide +kernel
theorem dL_does_722 : decode cL_does 722 = .ok (.ireturn, 1) := by decide +kernel
set_option maxRecDepth 20000 in
theorem ggL_said_L_wrongOrder : GoodIn wsL_said wsL_wrongOrder := goodIn_r _ [4, 5, 6, 3, 7, 8, 9, 10, 11, 12, 13, 14, 15, 16, 17, 18, 19, 20, 21, 22] (by decide +kernel) (by decide +kernel)
set_option maxRecDepth 20000 in
theorem gL_said_L_wrongOrder : GoodIn wsL_said (va_wsS RL 60 yL_wrongOrder wsL_wrongOrder) := goodIn_app (goodIn_of _ (by decide +kernel)) ggL_said_L_wrongOrder
set_option maxRecDepth 20000 in
theorem ggL_said_L_does : GoodIn wsL_said wsL_does := goodIn_q _ [26, 27, 28, 3, 8, 9, 10, 11, 12, 13, 14, 15, 16, 17, 18, 19, 30, 31, 32, 33, 34, 35, 36, 37, 38, 39, 40, 42, 43, 44, 45, 46, 47] [25, 29, 41] (by decide +kernel) rfl (by decide +kernel)
set_option maxRecDepth 20000 in
theorem gL_said_L_does : GoodIn wsL_said (va_wsS RL 64 yL_does wsL_does) := goodIn_app (goodIn_of _ (by decide +kernel)) ggL_said_L_does
set_option maxRecDepth 20000 in
theorem ggL_said_L_wrongAnswer : GoodIn wsL_said wsL_wrongAnswer := goodIn_r _ [50, 8, 9, 3, 10, 17, 18, 19] (by decide +kernel) (by decide +kernel)
set_option maxRecDepth 20000 in
theorem gL_said_L_wrongAnswer : GoodIn wsL_said (va_wsS RL 68 yL_wrongAnswer wsL_wrongAnswer) := goodIn_app (goodIn_of _ (by decide +kernel)) ggL_said_L_wrongAnswer
set_option maxRecDepth 20000 in
theorem ggL_said_L_isNoun : GoodIn wsL_said wsL_isNoun := goodIn_r _ [19] (by decide +kernel) (by decide +kernel)
set_option maxRecDepth 20000 in
theorem gL_said_L_isNoun : GoodIn wsL_said (va_wsS RL 24 yL_isNoun wsL_isNoun) := goodIn_app (goodIn_of _ (by decide +kernel)) ggL_said_L_isNoun
set_option maxRecDepth 20000 in
theorem ggL_said_L_fitting : GoodIn wsL_said wsL_fitting := goodIn_q _ [8, 9, 3, 10] [41] (by decide +kernel) rfl (by decide +kernel)
set_option maxRecDepth 20000 in
theorem gL_said_L_fitting : GoodIn wsL_said (va_wsS RL 49 yL_fitting wsL_fitting) := goodIn_app (goodIn_of _ (by decide +kernel)) ggL_said_L_fitting
set_option maxRecDepth 20000 in
theorem ggL_said_L_bits : GoodIn wsL_said wsL_bits := goodIn_r _ [44] (by decide +kernel) (by decide +kernel)
set_option maxRecDepth 20000 in
theorem gL_said_L_bits : GoodIn wsL_said (va_wsS RL 53 yL_bits wsL_bits) := goodIn_app (goodIn_of _ (by decide +kernel)) ggL_said_L_bits
set_option maxRecDepth 20000 in
theorem ggL_said_L_only : GoodIn wsL_said wsL_only := goodIn_r _ [47] (by decide +kernel) (by decide +kernel)
set_option maxRecDepth 20000 in
theorem gL_said_L_only : GoodIn wsL_said (va_wsS RL 57 yL_only wsL_only) := goodIn_app (goodIn_of _ (by decide +kernel)) ggL_said_L_only
theorem dL_said_0 : decode cL_said 0 = .ok (.aload_n 1, 1) := by decide +kernel
theorem dL_said_1 : decode cL_said 1 = .ok (.iconst 1, 1) := by decide +kernel
theorem dL_said_2 : decode cL_said 2 = .ok (.iaload, 1) := by decide +kernel
theorem dL_said_3 : decode cL_said 3 = .ok (.istore 5, 2) := by decide +kernel
theorem dL_said_5 : decode cL_said 5 = .ok (.aload_n 1, 1) := by decide +kernel
theorem dL_said_6 : decode cL_said 6 = .ok (.iconst 3, 1) := by decide +kernel
theorem dL_said_7 : decode cL_said 7 = .ok (.iconst (-1), 1) := by decide +kernel
theorem dL_said_8 : decode cL_said 8 = .ok (.iastore, 1) := by decide +kernel
theorem dL_said_9 : decode cL_said 9 = .ok (.iload 5, 2) := by decide +kernel
theorem dL_said_11 : decode cL_said 11 = .ok (.ifCond .ne 5, 3) := by decide +kernel
theorem dL_said_14 : decode cL_said 14 = .ok (.iconst 2, 1) := by decide +kernel
theorem dL_said_15 : decode cL_said 15 = .ok (.ireturn, 1) := by decide +kernel
theorem dL_said_16 : decode cL_said 16 = .ok (.aload_n 2, 1) := by decide +kernel
theorem dL_said_17 : decode cL_said 17 = .ok (.iconst 0, 1) := by decide +kernel
theorem dL_said_18 : decode cL_said 18 = .ok (.iaload, 1) := by decide +kernel
theorem dL_said_19 : decode cL_said 19 = .ok (.iconst 5, 1) := by decide +kernel
theorem dL_said_20 : decode cL_said 20 = .ok (.if_icmp .ge 75, 3) := by decide +kernel
theorem dL_said_23 : decode cL_said 23 = .ok (.aload_n 1, 1) := by decide +kernel
theorem dL_said_24 : decode cL_said 24 = .ok (.bipush 9, 2) := by decide +kernel
theorem dL_said_26 : decode cL_said 26 = .ok (.iconst 0, 1) := by decide +kernel
theorem dL_said_27 : decode cL_said 27 = .ok (.iastore, 1) := by decide +kernel
theorem dL_said_28 : decode cL_said 28 = .ok (.aload_n 1, 1) := by decide +kernel
theorem dL_said_29 : decode cL_said 29 = .ok (.bipush 10, 2) := by decide +kernel
theorem dL_said_31 : decode cL_said 31 = .ok (.iconst (-1), 1) := by decide +kernel
theorem dL_said_32 : decode cL_said 32 = .ok (.iastore, 1) := by decide +kernel
theorem dL_said_33 : decode cL_said 33 = .ok (.aload_n 1, 1) := by decide +kernel
theorem dL_said_34 : decode cL_said 34 = .ok (.iconst 3, 1) := by decide +kernel
theorem dL_said_35 : decode cL_said 35 = .ok (.aload_n 2, 1) := by decide +kernel
theorem dL_said_36 : decode cL_said 36 = .ok (.iload 5, 2) := by decide +kernel
theorem dL_said_38 : decode cL_said 38 = .ok (.invokestatic 60, 3) := by decide +kernel
theorem dL_said_41 : decode cL_said 41 = .ok (.iastore, 1) := by decide +kernel
theorem dL_said_42 : decode cL_said 42 = .ok (.aload_n 1, 1) := by decide +kernel
theorem dL_said_43 : decode cL_said 43 = .ok (.iconst 3, 1) := by decide +kernel
theorem dL_said_44 : decode cL_said 44 = .ok (.iaload, 1) := by decide +kernel
theorem dL_said_45 : decode cL_said 45 = .ok (.ifCond .lt 5, 3) := by decide +kernel
theorem dL_said_48 : decode cL_said 48 = .ok (.iconst 4, 1) := by decide +kernel
theorem dL_said_49 : decode cL_said 49 = .ok (.ireturn, 1) := by decide +kernel
theorem dL_said_50 : decode cL_said 50 = .ok (.aload_n 1, 1) := by decide +kernel
theorem dL_said_51 : decode cL_said 51 = .ok (.bipush 12, 2) := by decide +kernel
theorem dL_said_53 : decode cL_said 53 = .ok (.iload 5, 2) := by decide +kernel
theorem dL_said_55 : decode cL_said 55 = .ok (.iastore, 1) := by decide +kernel
theorem dL_said_56 : decode cL_said 56 = .ok (.iconst 0, 1) := by decide +kernel
theorem dL_said_57 : decode cL_said 57 = .ok (.istore 6, 2) := by decide +kernel
theorem dL_said_59 : decode cL_said 59 = .ok (.iload 6, 2) := by decide +kernel
theorem dL_said_61 : decode cL_said 61 = .ok (.iload 5, 2) := by decide +kernel
theorem dL_said_63 : decode cL_said 63 = .ok (.if_icmp .ge 23, 3) := by decide +kernel
theorem dL_said_66 : decode cL_said 66 = .ok (.aload_n 3, 1) := by decide +kernel
theorem dL_said_67 : decode cL_said 67 = .ok (.iload 6, 2) := by decide +kernel
theorem dL_said_69 : decode cL_said 69 = .ok (.aload_n 2, 1) := by decide +kernel
theorem dL_said_70 : decode cL_said 70 = .ok (.iload 6, 2) := by decide +kernel
theorem dL_said_72 : decode cL_said 72 = .ok (.iaload, 1) := by decide +kernel
theorem dL_said_73 : decode cL_said 73 = .ok (.iastore, 1) := by decide +kernel
theorem dL_said_74 : decode cL_said 74 = .ok (.aload 4, 2) := by decide +kernel
theorem dL_said_76 : decode cL_said 76 = .ok (.iload 6, 2) := by decide +kernel
theorem dL_said_78 : decode cL_said 78 = .ok (.iconst (-1), 1) := by decide +kernel
theorem dL_said_79 : decode cL_said 79 = .ok (.iastore, 1) := by decide +kernel
theorem dL_said_80 : decode cL_said 80 = .ok (.iinc 6 1, 3) := by decide +kernel
theorem dL_said_83 : decode cL_said 83 = .ok (.goto (-24), 3) := by decide +kernel
theorem dL_said_86 : decode cL_said 86 = .ok (.aload_n 0, 1) := by decide +kernel
theorem dL_said_87 : decode cL_said 87 = .ok (.aload_n 1, 1) := by decide +kernel
theorem dL_said_88 : decode cL_said 88 = .ok (.aload_n 3, 1) := by decide +kernel
theorem dL_said_89 : decode cL_said 89 = .ok (.aload 4, 2) := by decide +kernel
theorem dL_said_91 : decode cL_said 91 = .ok (.invokestatic 64, 3) := by decide +kernel
theorem dL_said_94 : decode cL_said 94 = .ok (.ireturn, 1) := by decide +kernel
theorem dL_said_95 : decode cL_said 95 = .ok (.aload_n 1, 1) := by decide +kernel
theorem dL_said_96 : decode cL_said 96 = .ok (.bipush 9, 2) := by decide +kernel
theorem dL_said_98 : decode cL_said 98 = .ok (.iaload, 1) := by decide +kernel
theorem dL_said_99 : decode cL_said 99 = .ok (.ifCond .ne 5, 3) := by decide +kernel
theorem dL_said_102 : decode cL_said 102 = .ok (.iconst 3, 1) := by decide +kernel
theorem dL_said_103 : decode cL_said 103 = .ok (.ireturn, 1) := by decide +kernel
theorem dL_said_104 : decode cL_said 104 = .ok (.aload_n 1, 1) := by decide +kernel
theorem dL_said_105 : decode cL_said 105 = .ok (.iconst 3, 1) := by decide +kernel
theorem dL_said_106 : decode cL_said 106 = .ok (.aload_n 2, 1) := by decide +kernel
theorem dL_said_107 : decode cL_said 107 = .ok (.iload 5, 2) := by decide +kernel
theorem dL_said_109 : decode cL_said 109 = .ok (.invokestatic 68, 3) := by decide +kernel
theorem dL_said_112 : decode cL_said 112 = .ok (.iastore, 1) := by decide +kernel
theorem dL_said_113 : decode cL_said 113 = .ok (.aload_n 1, 1) := by decide +kernel
theorem dL_said_114 : decode cL_said 114 = .ok (.iconst 3, 1) := by decide +kernel
theorem dL_said_115 : decode cL_said 115 = .ok (.iaload, 1) := by decide +kernel
theorem dL_said_116 : decode cL_said 116 = .ok (.ifCond .lt 5, 3) := by decide +kernel
theorem dL_said_119 : decode cL_said 119 = .ok (.iconst 4, 1) := by decide +kernel
theorem dL_said_120 : decode cL_said 120 = .ok (.ireturn, 1) := by decide +kernel
theorem dL_said_121 : decode cL_said 121 = .ok (.aload_n 0, 1) := by decide +kernel
theorem dL_said_122 : decode cL_said 122 = .ok (.aload_n 1, 1) := by decide +kernel
theorem dL_said_123 : decode cL_said 123 = .ok (.bipush 9, 2) := by decide +kernel
theorem dL_said_125 : decode cL_said 125 = .ok (.iaload, 1) := by decide +kernel
theorem dL_said_126 : decode cL_said 126 = .ok (.aload_n 2, 1) := by decide +kernel
theorem dL_said_127 : decode cL_said 127 = .ok (.iconst 0, 1) := by decide +kernel
theorem dL_said_128 : decode cL_said 128 = .ok (.iload 5, 2) := by decide +kernel
theorem dL_said_130 : decode cL_said 130 = .ok (.iconst 1, 1) := by decide +kernel
theorem dL_said_131 : decode cL_said 131 = .ok (.isub, 1) := by decide +kernel
theorem dL_said_132 : decode cL_said 132 = .ok (.aload_n 2, 1) := by decide +kernel
theorem dL_said_133 : decode cL_said 133 = .ok (.iload 5, 2) := by decide +kernel
theorem dL_said_135 : decode cL_said 135 = .ok (.iconst 1, 1) := by decide +kernel
theorem dL_said_136 : decode cL_said 136 = .ok (.isub, 1) := by decide +kernel
theorem dL_said_137 : decode cL_said 137 = .ok (.iaload, 1) := by decide +kernel
theorem dL_said_138 : decode cL_said 138 = .ok (.invokestatic 24, 3) := by decide +kernel
theorem dL_said_141 : decode cL_said 141 = .ok (.ifCond .eq 15, 3) := by decide +kernel
theorem dL_said_144 : decode cL_said 144 = .ok (.aload_n 2, 1) := by decide +kernel
theorem dL_said_145 : decode cL_said 145 = .ok (.iload 5, 2) := by decide +kernel
theorem dL_said_147 : decode cL_said 147 = .ok (.iconst 1, 1) := by decide +kernel
theorem dL_said_148 : decode cL_said 148 = .ok (.isub, 1) := by decide +kernel
theorem dL_said_149 : decode cL_said 149 = .ok (.iaload, 1) := by decide +kernel
theorem dL_said_150 : decode cL_said 150 = .ok (.bipush 30, 2) := by decide +kernel
theorem dL_said_152 : decode cL_said 152 = .ok (.isub, 1) := by decide +kernel
theorem dL_said_153 : decode cL_said 153 = .ok (.goto 4, 3) := by decide +kernel
theorem dL_said_156 : decode cL_said 156 = .ok (.iconst (-1), 1) := by decide +kernel
theorem dL_said_157 : decode cL_said 157 = .ok (.invokestatic 49, 3) := by decide +kernel
theorem dL_said_160 : decode cL_said 160 = .ok (.istore 6, 2) := by decide +kernel
theorem dL_said_162 : decode cL_said 162 = .ok (.iload 6, 2) := by decide +kernel
theorem dL_said_164 : decode cL_said 164 = .ok (.ifCond .ne 5, 3) := by decide +kernel
theorem dL_said_167 : decode cL_said 167 = .ok (.iconst 5, 1) := by decide +kernel
theorem dL_said_168 : decode cL_said 168 = .ok (.ireturn, 1) := by decide +kernel
theorem dL_said_169 : decode cL_said 169 = .ok (.iload 6, 2) := by decide +kernel
theorem dL_said_171 : decode cL_said 171 = .ok (.invokestatic 53, 3) := by decide +kernel
theorem dL_said_174 : decode cL_said 174 = .ok (.iconst 1, 1) := by decide +kernel
theorem dL_said_175 : decode cL_said 175 = .ok (.if_icmp .le 11, 3) := by decide +kernel
theorem dL_said_178 : decode cL_said 178 = .ok (.aload_n 1, 1) := by decide +kernel
theorem dL_said_179 : decode cL_said 179 = .ok (.bipush 9, 2) := by decide +kernel
theorem dL_said_181 : decode cL_said 181 = .ok (.iload 6, 2) := by decide +kernel
theorem dL_said_183 : decode cL_said 183 = .ok (.iastore, 1) := by decide +kernel
theorem dL_said_184 : decode cL_said 184 = .ok (.iconst 1, 1) := by decide +kernel
theorem dL_said_185 : decode cL_said 185 = .ok (.ireturn, 1) := by decide +kernel
theorem dL_said_186 : decode cL_said 186 = .ok (.aload 4, 2) := by decide +kernel
theorem dL_said_188 : decode cL_said 188 = .ok (.aload_n 1, 1) := by decide +kernel
theorem dL_said_189 : decode cL_said 189 = .ok (.bipush 10, 2) := by decide +kernel
theorem dL_said_191 : decode cL_said 191 = .ok (.iaload, 1) := by decide +kernel
theorem dL_said_192 : decode cL_said 192 = .ok (.iload 6, 2) := by decide +kernel
theorem dL_said_194 : decode cL_said 194 = .ok (.invokestatic 57, 3) := by decide +kernel
theorem dL_said_197 : decode cL_said 197 = .ok (.iastore, 1) := by decide +kernel
theorem dL_said_198 : decode cL_said 198 = .ok (.aload_n 0, 1) := by decide +kernel
theorem dL_said_199 : decode cL_said 199 = .ok (.aload_n 1, 1) := by decide +kernel
theorem dL_said_200 : decode cL_said 200 = .ok (.aload_n 3, 1) := by decide +kernel
theorem dL_said_201 : decode cL_said 201 = .ok (.aload 4, 2) := by decide +kernel
theorem dL_said_203 : decode cL_said 203 = .ok (.invokestatic 64, 3) := by decide +kernel
theorem dL_said_206 : decode cL_said 206 = .ok (.ireturn, 1) := by decide +kernel
set_option maxRecDepth 20000 in
theorem ggL_worded_X5_word : GoodIn wsL_worded wsX5_word := goodIn_ca (goodIn_ca (goodIn_r _ [7, 8, 9, 10, 11, 12, 13, 14, 6, 15, 16, 17, 18, 19, 20, 21, 22, 23, 24, 25, 26, 27, 28, 29, 30, 31, 32, 33, 34, 35, 36, 37, 38, 39, 40, 41, 42, 43] (by decide +kernel) (by decide +kernel)) (goodIn_sub (fun _ h => List.mem_cons_of_mem _ (List.mem_append_left _ (List.mem_append_right _ h))) (by decide +kernel))) (goodIn_sub (fun _ h => List.mem_cons_of_mem _ (List.mem_append_right _ h)) (by decide +kernel))
set_option maxRecDepth 20000 in
theorem gL_worded_X5_word : GoodIn wsL_worded (wsV RL 71 RX5 yX5_word wsX5_word) := goodIn_app (goodIn_of _ (by decide +kernel)) ggL_worded_X5_word
theorem dL_worded_0 : decode cL_worded 0 = .ok (.aload_n 0, 1) := by decide +kernel
theorem dL_worded_1 : decode cL_worded 1 = .ok (.iload_n 1, 1) := by decide +kernel
theorem dL_worded_2 : decode cL_worded 2 = .ok (.invokevirtual 71, 3) := by decide +kernel
theorem dL_worded_5 : decode cL_worded 5 = .ok (.ireturn, 1) := by decide +kernel
theorem dL_worded_6 : decode cL_worded 6 = .ok (.astore_n 2, 1) := by decide +kernel
theorem dL_worded_7 : decode cL_worded 7 = .ok (.bipush (-101), 2) := by decide +kernel
theorem dL_worded_9 : decode cL_worded 9 = .ok (.ireturn, 1) := by decide +kernel
theorem dL_worded_10 : decode cL_worded 10 = .ok (.astore_n 2, 1) := by decide +kernel
theorem dL_worded_11 : decode cL_worded 11 = .ok (.bipush (-102), 2) := by decide +kernel
theorem dL_worded_13 : decode cL_worded 13 = .ok (.ireturn, 1) := by decide +kernel
set_option maxRecDepth 20000 in
theorem ggL_backed_X5_back : GoodIn wsL_backed wsX5_back := goodIn_ca (goodIn_r _ [6, 7, 8, 9, 10, 11, 12, 13, 14, 15, 16, 17, 18, 19, 20, 21, 22, 23, 24, 25, 26, 27, 28, 29, 30, 31] (by decide +kernel) (by decide +kernel)) (goodIn_sub (fun _ h => List.mem_cons_of_mem _ (List.mem_append_right _ h)) (by decide +kernel))
set_option maxRecDepth 20000 in
theorem gL_backed_X5_back : GoodIn wsL_backed (wsV RL 78 RX5 yX5_back wsX5_back) := goodIn_app (goodIn_of _ (by decide +kernel)) ggL_backed_X5_back
theorem dL_backed_0 : decode cL_backed 0 = .ok (.aload_n 0, 1) := by decide +kernel
theorem dL_backed_1 : decode cL_backed 1 = .ok (.invokevirtual 78, 3) := by decide +kernel
theorem dL_backed_4 : decode cL_backed 4 = .ok (.ireturn, 1) := by decide +kernel
theorem dL_backed_5 : decode cL_backed 5 = .ok (.astore_n 1, 1) := by decide +kernel
theorem dL_backed_6 : decode cL_backed 6 = .ok (.bipush (-101), 2) := by decide +kernel
theorem dL_backed_8 : decode cL_backed 8 = .ok (.ireturn, 1) := by decide +kernel
set_option maxRecDepth 20000 in
theorem ggL_placed_X5_placeOf : GoodIn wsL_placed wsX5_placeOf := goodIn_ca (goodIn_r _ [6, 7, 8, 9, 10, 11, 12, 13, 14, 15, 16, 17, 18, 19, 20, 21, 22, 23, 24, 25, 26, 27, 28, 29, 30, 31, 32, 33, 34, 35, 36] (by decide +kernel) (by decide +kernel)) (goodIn_sub (fun _ h => List.mem_cons_of_mem _ (List.mem_append_right _ h)) (by decide +kernel))
set_option maxRecDepth 20000 in
theorem gL_placed_X5_placeOf : GoodIn wsL_placed (wsV RL 82 RX5 yX5_placeOf wsX5_placeOf) := goodIn_app (goodIn_of _ (by decide +kernel)) ggL_placed_X5_placeOf
theorem dL_placed_0 : decode cL_placed 0 = .ok (.aload_n 0, 1) := by decide +kernel
theorem dL_placed_1 : decode cL_placed 1 = .ok (.iload_n 1, 1) := by decide +kernel
theorem dL_placed_2 : decode cL_placed 2 = .ok (.invokevirtual 82, 3) := by decide +kernel
theorem dL_placed_5 : decode cL_placed 5 = .ok (.ireturn, 1) := by decide +kernel
theorem dL_placed_6 : decode cL_placed 6 = .ok (.astore_n 2, 1) := by decide +kernel
theorem dL_placed_7 : decode cL_placed 7 = .ok (.bipush (-101), 2) := by decide +kernel
theorem dL_placed_9 : decode cL_placed 9 = .ok (.ireturn, 1) := by decide +kernel
set_option maxRecDepth 20000 in
theorem ggL_opened_X5_isOpen : GoodIn wsL_opened wsX5_isOpen := goodIn_ca (goodIn_r _ [6, 7, 8, 9, 10, 11, 12, 13, 14, 15, 16, 17, 5, 18, 19, 20, 21, 22, 23, 24, 25, 26, 27, 28, 29, 30, 31, 32, 33, 34] (by decide +kernel) (by decide +kernel)) (goodIn_sub (fun _ h => List.mem_cons_of_mem _ (List.mem_append_right _ h)) (by decide +kernel))
set_option maxRecDepth 20000 in
theorem gL_opened_X5_isOpen : GoodIn wsL_opened (wsV RL 87 RX5 yX5_isOpen wsX5_isOpen) := goodIn_app (goodIn_of _ (by decide +kernel)) ggL_opened_X5_isOpen
theorem dL_opened_0 : decode cL_opened 0 = .ok (.aload_n 0, 1) := by decide +kernel
theorem dL_opened_1 : decode cL_opened 1 = .ok (.iload_n 1, 1) := by decide +kernel
theorem dL_opened_2 : decode cL_opened 2 = .ok (.invokevirtual 87, 3) := by decide +kernel
theorem dL_opened_5 : decode cL_opened 5 = .ok (.ifCond .eq 7, 3) := by decide +kernel
theorem dL_opened_8 : decode cL_opened 8 = .ok (.iconst 1, 1) := by decide +kernel
theorem dL_opened_9 : decode cL_opened 9 = .ok (.goto 4, 3) := by decide +kernel
theorem dL_opened_12 : decode cL_opened 12 = .ok (.iconst 0, 1) := by decide +kernel
theorem dL_opened_13 : decode cL_opened 13 = .ok (.ireturn, 1) := by decide +kernel
theorem dL_opened_14 : decode cL_opened 14 = .ok (.astore_n 2, 1) := by decide +kernel
theorem dL_opened_15 : decode cL_opened 15 = .ok (.bipush (-101), 2) := by decide +kernel
theorem dL_opened_17 : decode cL_opened 17 = .ok (.ireturn, 1) := by decide +kernel
set_option maxRecDepth 20000 in
theorem ggL_adds_L_worded : GoodIn wsL_adds wsL_worded := goodIn_ca (goodIn_ca (goodIn_r _ [4, 5, 6, 7, 8, 9, 10, 11, 12, 13, 14, 15, 16, 17, 18, 19, 20, 21, 22, 23, 24, 25, 26, 27, 28, 29, 30, 31, 32, 33, 34, 35, 36, 37, 38, 39, 40, 41, 42, 43, 44, 45, 46, 47] (by decide +kernel) (by decide +kernel)) (goodIn_sub (fun _ h => List.mem_cons_of_mem _ (List.mem_append_left _ (List.mem_append_right _ h))) (by decide +kernel))) (goodIn_sub (fun _ h => List.mem_cons_of_mem _ (List.mem_append_right _ h)) (by decide +kernel))
set_option maxRecDepth 20000 in
theorem gL_adds_L_worded : GoodIn wsL_adds (va_wsS RL 90 yL_worded wsL_worded) := goodIn_app (goodIn_of _ (by decide +kernel)) ggL_adds_L_worded
theorem dL_adds_0 : decode cL_adds 0 = .ok (.aload_n 2, 1) := by decide +kernel
theorem dL_adds_1 : decode cL_adds 1 = .ok (.iconst 1, 1) := by decide +kernel
theorem dL_adds_2 : decode cL_adds 2 = .ok (.iaload, 1) := by decide +kernel
theorem dL_adds_3 : decode cL_adds 3 = .ok (.bipush 24, 2) := by decide +kernel
theorem dL_adds_5 : decode cL_adds 5 = .ok (.if_icmp .ne 19, 3) := by decide +kernel
theorem dL_adds_8 : decode cL_adds 8 = .ok (.aload_n 0, 1) := by decide +kernel
theorem dL_adds_9 : decode cL_adds 9 = .ok (.iload_n 3, 1) := by decide +kernel
theorem dL_adds_10 : decode cL_adds 10 = .ok (.invokestatic 90, 3) := by decide +kernel
theorem dL_adds_13 : decode cL_adds 13 = .ok (.bipush (-102), 2) := by decide +kernel
theorem dL_adds_15 : decode cL_adds 15 = .ok (.if_icmp .ne 7, 3) := by decide +kernel
theorem dL_adds_18 : decode cL_adds 18 = .ok (.iconst 1, 1) := by decide +kernel
theorem dL_adds_19 : decode cL_adds 19 = .ok (.goto 4, 3) := by decide +kernel
theorem dL_adds_22 : decode cL_adds 22 = .ok (.iconst 0, 1) := by decide +kernel
theorem dL_adds_23 : decode cL_adds 23 = .ok (.ireturn, 1) := by decide +kernel
theorem dL_adds_24 : decode cL_adds 24 = .ok (.aload_n 1, 1) := by decide +kernel
theorem dL_adds_25 : decode cL_adds 25 = .ok (.aload_n 2, 1) := by decide +kernel
theorem dL_adds_26 : decode cL_adds 26 = .ok (.iconst 1, 1) := by decide +kernel
theorem dL_adds_27 : decode cL_adds 27 = .ok (.iaload, 1) := by decide +kernel
theorem dL_adds_28 : decode cL_adds 28 = .ok (.iload_n 3, 1) := by decide +kernel
theorem dL_adds_29 : decode cL_adds 29 = .ok (.iastore, 1) := by decide +kernel
theorem dL_adds_30 : decode cL_adds 30 = .ok (.aload_n 2, 1) := by decide +kernel
theorem dL_adds_31 : decode cL_adds 31 = .ok (.iconst 1, 1) := by decide +kernel
theorem dL_adds_32 : decode cL_adds 32 = .ok (.dup2, 1) := by decide +kernel
theorem dL_adds_33 : decode cL_adds 33 = .ok (.iaload, 1) := by decide +kernel
theorem dL_adds_34 : decode cL_adds 34 = .ok (.iconst 1, 1) := by decide +kernel
theorem dL_adds_35 : decode cL_adds 35 = .ok (.iadd, 1) := by decide +kernel
theorem dL_adds_36 : decode cL_adds 36 = .ok (.iastore, 1) := by decide +kernel
theorem dL_adds_37 : decode cL_adds 37 = .ok (.aload_n 0, 1) := by decide +kernel
theorem dL_adds_38 : decode cL_adds 38 = .ok (.iload_n 3, 1) := by decide +kernel
theorem dL_adds_39 : decode cL_adds 39 = .ok (.invokestatic 90, 3) := by decide +kernel
theorem dL_adds_42 : decode cL_adds 42 = .ok (.aload_n 2, 1) := by decide +kernel
theorem dL_adds_43 : decode cL_adds 43 = .ok (.iconst 1, 1) := by decide +kernel
theorem dL_adds_44 : decode cL_adds 44 = .ok (.iaload, 1) := by decide +kernel
theorem dL_adds_45 : decode cL_adds 45 = .ok (.if_icmp .ne 7, 3) := by decide +kernel
theorem dL_adds_48 : decode cL_adds 48 = .ok (.iconst 1, 1) := by decide +kernel
theorem dL_adds_49 : decode cL_adds 49 = .ok (.goto 4, 3) := by decide +kernel
theorem dL_adds_52 : decode cL_adds 52 = .ok (.iconst 0, 1) := by decide +kernel
theorem dL_adds_53 : decode cL_adds 53 = .ok (.ireturn, 1) := by decide +kernel
set_option maxRecDepth 20000 in
theorem ggL_phrase_L_some : GoodIn wsL_phrase wsL_some := goodIn_r _ [4] (by decide +kernel) (by decide +kernel)
set_option maxRecDepth 20000 in
theorem gL_phrase_L_some : GoodIn wsL_phrase (va_wsS RL 94 yL_some wsL_some) := goodIn_app (goodIn_of _ (by decide +kernel)) ggL_phrase_L_some
set_option maxRecDepth 20000 in
theorem ggL_phrase_L_adds : GoodIn wsL_phrase wsL_adds := goodIn_ca (goodIn_ca (goodIn_r _ [7, 8, 9, 3, 10, 11, 12, 13, 14, 15, 16, 17, 18, 19, 20, 21, 22, 23, 24, 25, 26, 27, 28, 29, 30, 31, 32, 33, 34, 35, 36, 37, 38, 39, 40, 41, 42, 43, 44, 45, 46, 47, 48, 49, 50, 51, 52, 53] (by decide +kernel) (by decide +kernel)) (goodIn_sub (fun _ h => List.mem_cons_of_mem _ (List.mem_append_left _ (List.mem_append_right _ h))) (by decide +kernel))) (goodIn_sub (fun _ h => List.mem_cons_of_mem _ (List.mem_append_right _ h)) (by decide +kernel))
set_option maxRecDepth 20000 in
theorem gL_phrase_L_adds : GoodIn wsL_phrase (va_wsS RL 98 yL_adds wsL_adds) := goodIn_app (goodIn_of _ (by decide +kernel)) ggL_phrase_L_adds
theorem dL_phrase_0 : decode cL_phrase 0 = .ok (.iload_n 1, 1) := by decide +kernel
theorem dL_phrase_1 : decode cL_phrase 1 = .ok (.bipush 12, 2) := by decide +kernel
theorem dL_phrase_3 : decode cL_phrase 3 = .ok (.invokestatic 94, 3) := by decide +kernel
theorem dL_phrase_6 : decode cL_phrase 6 = .ok (.istore 5, 2) := by decide +kernel
theorem dL_phrase_8 : decode cL_phrase 8 = .ok (.iconst 1, 1) := by decide +kernel
theorem dL_phrase_9 : decode cL_phrase 9 = .ok (.istore 6, 2) := by decide +kernel
theorem dL_phrase_11 : decode cL_phrase 11 = .ok (.iload 5, 2) := by decide +kernel
theorem dL_phrase_13 : decode cL_phrase 13 = .ok (.ifCond .ne 12, 3) := by decide +kernel
theorem dL_phrase_16 : decode cL_phrase 16 = .ok (.aload_n 0, 1) := by decide +kernel
theorem dL_phrase_17 : decode cL_phrase 17 = .ok (.aload_n 2, 1) := by decide +kernel
theorem dL_phrase_18 : decode cL_phrase 18 = .ok (.aload_n 3, 1) := by decide +kernel
theorem dL_phrase_19 : decode cL_phrase 19 = .ok (.bipush 14, 2) := by decide +kernel
theorem dL_phrase_21 : decode cL_phrase 21 = .ok (.invokestatic 98, 3) := by decide +kernel
theorem dL_phrase_24 : decode cL_phrase 24 = .ok (.ireturn, 1) := by decide +kernel
theorem dL_phrase_25 : decode cL_phrase 25 = .ok (.iload 4, 2) := by decide +kernel
theorem dL_phrase_27 : decode cL_phrase 27 = .ok (.ifCond .ne 18, 3) := by decide +kernel
theorem dL_phrase_30 : decode cL_phrase 30 = .ok (.iload 5, 2) := by decide +kernel
theorem dL_phrase_32 : decode cL_phrase 32 = .ok (.iconst 1, 1) := by decide +kernel
theorem dL_phrase_33 : decode cL_phrase 33 = .ok (.if_icmp .ne 12, 3) := by decide +kernel
theorem dL_phrase_36 : decode cL_phrase 36 = .ok (.aload_n 0, 1) := by decide +kernel
theorem dL_phrase_37 : decode cL_phrase 37 = .ok (.aload_n 2, 1) := by decide +kernel
theorem dL_phrase_38 : decode cL_phrase 38 = .ok (.aload_n 3, 1) := by decide +kernel
theorem dL_phrase_39 : decode cL_phrase 39 = .ok (.bipush 15, 2) := by decide +kernel
theorem dL_phrase_41 : decode cL_phrase 41 = .ok (.invokestatic 98, 3) := by decide +kernel
theorem dL_phrase_44 : decode cL_phrase 44 = .ok (.ireturn, 1) := by decide +kernel
theorem dL_phrase_45 : decode cL_phrase 45 = .ok (.iload 4, 2) := by decide +kernel
theorem dL_phrase_47 : decode cL_phrase 47 = .ok (.ifCond .ne 34, 3) := by decide +kernel
theorem dL_phrase_50 : decode cL_phrase 50 = .ok (.iload 5, 2) := by decide +kernel
theorem dL_phrase_52 : decode cL_phrase 52 = .ok (.iconst 2, 1) := by decide +kernel
theorem dL_phrase_53 : decode cL_phrase 53 = .ok (.if_icmp .eq 9, 3) := by decide +kernel
theorem dL_phrase_56 : decode cL_phrase 56 = .ok (.iload 5, 2) := by decide +kernel
theorem dL_phrase_58 : decode cL_phrase 58 = .ok (.iconst 3, 1) := by decide +kernel
theorem dL_phrase_59 : decode cL_phrase 59 = .ok (.if_icmp .ne 22, 3) := by decide +kernel
theorem dL_phrase_62 : decode cL_phrase 62 = .ok (.aload_n 0, 1) := by decide +kernel
theorem dL_phrase_63 : decode cL_phrase 63 = .ok (.aload_n 2, 1) := by decide +kernel
theorem dL_phrase_64 : decode cL_phrase 64 = .ok (.aload_n 3, 1) := by decide +kernel
theorem dL_phrase_65 : decode cL_phrase 65 = .ok (.bipush 11, 2) := by decide +kernel
theorem dL_phrase_67 : decode cL_phrase 67 = .ok (.invokestatic 98, 3) := by decide +kernel
theorem dL_phrase_70 : decode cL_phrase 70 = .ok (.istore 6, 2) := by decide +kernel
theorem dL_phrase_72 : decode cL_phrase 72 = .ok (.iload 5, 2) := by decide +kernel
theorem dL_phrase_74 : decode cL_phrase 74 = .ok (.iconst 3, 1) := by decide +kernel
theorem dL_phrase_75 : decode cL_phrase 75 = .ok (.if_icmp .ne 26, 3) := by decide +kernel
theorem dL_phrase_78 : decode cL_phrase 78 = .ok (.iload 6, 2) := by decide +kernel
theorem dL_phrase_80 : decode cL_phrase 80 = .ok (.ireturn, 1) := by decide +kernel
theorem dL_phrase_81 : decode cL_phrase 81 = .ok (.iload_n 1, 1) := by decide +kernel
theorem dL_phrase_82 : decode cL_phrase 82 = .ok (.iconst 4, 1) := by decide +kernel
theorem dL_phrase_83 : decode cL_phrase 83 = .ok (.ishr, 1) := by decide +kernel
theorem dL_phrase_84 : decode cL_phrase 84 = .ok (.iconst 2, 1) := by decide +kernel
theorem dL_phrase_85 : decode cL_phrase 85 = .ok (.invokestatic 94, 3) := by decide +kernel
theorem dL_phrase_88 : decode cL_phrase 88 = .ok (.ifCond .ne 13, 3) := by decide +kernel
theorem dL_phrase_91 : decode cL_phrase 91 = .ok (.aload_n 0, 1) := by decide +kernel
theorem dL_phrase_92 : decode cL_phrase 92 = .ok (.aload_n 2, 1) := by decide +kernel
theorem dL_phrase_93 : decode cL_phrase 93 = .ok (.aload_n 3, 1) := by decide +kernel
theorem dL_phrase_94 : decode cL_phrase 94 = .ok (.bipush 10, 2) := by decide +kernel
theorem dL_phrase_96 : decode cL_phrase 96 = .ok (.invokestatic 98, 3) := by decide +kernel
theorem dL_phrase_99 : decode cL_phrase 99 = .ok (.istore 6, 2) := by decide +kernel
theorem dL_phrase_101 : decode cL_phrase 101 = .ok (.iload_n 1, 1) := by decide +kernel
theorem dL_phrase_102 : decode cL_phrase 102 = .ok (.bipush 7, 2) := by decide +kernel
theorem dL_phrase_104 : decode cL_phrase 104 = .ok (.ishr, 1) := by decide +kernel
theorem dL_phrase_105 : decode cL_phrase 105 = .ok (.iconst 2, 1) := by decide +kernel
theorem dL_phrase_106 : decode cL_phrase 106 = .ok (.invokestatic 94, 3) := by decide +kernel
theorem dL_phrase_109 : decode cL_phrase 109 = .ok (.ifCond .ne 7, 3) := by decide +kernel
theorem dL_phrase_112 : decode cL_phrase 112 = .ok (.iconst 1, 1) := by decide +kernel
theorem dL_phrase_113 : decode cL_phrase 113 = .ok (.goto 4, 3) := by decide +kernel
theorem dL_phrase_116 : decode cL_phrase 116 = .ok (.iconst 0, 1) := by decide +kernel
theorem dL_phrase_117 : decode cL_phrase 117 = .ok (.istore 7, 2) := by decide +kernel
theorem dL_phrase_119 : decode cL_phrase 119 = .ok (.iload 7, 2) := by decide +kernel
theorem dL_phrase_121 : decode cL_phrase 121 = .ok (.ifCond .eq 35, 3) := by decide +kernel
theorem dL_phrase_124 : decode cL_phrase 124 = .ok (.iload 6, 2) := by decide +kernel
theorem dL_phrase_126 : decode cL_phrase 126 = .ok (.ifCond .eq 27, 3) := by decide +kernel
theorem dL_phrase_129 : decode cL_phrase 129 = .ok (.aload_n 0, 1) := by decide +kernel
theorem dL_phrase_130 : decode cL_phrase 130 = .ok (.aload_n 2, 1) := by decide +kernel
theorem dL_phrase_131 : decode cL_phrase 131 = .ok (.aload_n 3, 1) := by decide +kernel
theorem dL_phrase_132 : decode cL_phrase 132 = .ok (.bipush 20, 2) := by decide +kernel
theorem dL_phrase_134 : decode cL_phrase 134 = .ok (.iload_n 1, 1) := by decide +kernel
theorem dL_phrase_135 : decode cL_phrase 135 = .ok (.bipush 9, 2) := by decide +kernel
theorem dL_phrase_137 : decode cL_phrase 137 = .ok (.ishr, 1) := by decide +kernel
theorem dL_phrase_138 : decode cL_phrase 138 = .ok (.iconst 2, 1) := by decide +kernel
theorem dL_phrase_139 : decode cL_phrase 139 = .ok (.invokestatic 94, 3) := by decide +kernel
theorem dL_phrase_142 : decode cL_phrase 142 = .ok (.iadd, 1) := by decide +kernel
theorem dL_phrase_143 : decode cL_phrase 143 = .ok (.invokestatic 98, 3) := by decide +kernel
theorem dL_phrase_146 : decode cL_phrase 146 = .ok (.ifCond .eq 7, 3) := by decide +kernel
theorem dL_phrase_149 : decode cL_phrase 149 = .ok (.iconst 1, 1) := by decide +kernel
theorem dL_phrase_150 : decode cL_phrase 150 = .ok (.goto 4, 3) := by decide +kernel
theorem dL_phrase_153 : decode cL_phrase 153 = .ok (.iconst 0, 1) := by decide +kernel
theorem dL_phrase_154 : decode cL_phrase 154 = .ok (.istore 6, 2) := by decide +kernel
theorem dL_phrase_156 : decode cL_phrase 156 = .ok (.iload 6, 2) := by decide +kernel
theorem dL_phrase_158 : decode cL_phrase 158 = .ok (.ifCond .eq 80, 3) := by decide +kernel
theorem dL_phrase_161 : decode cL_phrase 161 = .ok (.aload_n 0, 1) := by decide +kernel
theorem dL_phrase_162 : decode cL_phrase 162 = .ok (.aload_n 2, 1) := by decide +kernel
theorem dL_phrase_163 : decode cL_phrase 163 = .ok (.aload_n 3, 1) := by decide +kernel
theorem dL_phrase_164 : decode cL_phrase 164 = .ok (.iload 4, 2) := by decide +kernel
theorem dL_phrase_166 : decode cL_phrase 166 = .ok (.ifCond .ne 30, 3) := by decide +kernel
theorem dL_phrase_169 : decode cL_phrase 169 = .ok (.iload 5, 2) := by decide +kernel
theorem dL_phrase_171 : decode cL_phrase 171 = .ok (.iconst 2, 1) := by decide +kernel
theorem dL_phrase_172 : decode cL_phrase 172 = .ok (.if_icmp .eq 10, 3) := by decide +kernel
theorem dL_phrase_175 : decode cL_phrase 175 = .ok (.iload 5, 2) := by decide +kernel
theorem dL_phrase_177 : decode cL_phrase 177 = .ok (.bipush 6, 2) := by decide +kernel
theorem dL_phrase_179 : decode cL_phrase 179 = .ok (.if_icmp .ge 17, 3) := by decide +kernel
theorem dL_phrase_182 : decode cL_phrase 182 = .ok (.bipush 40, 2) := by decide +kernel
theorem dL_phrase_184 : decode cL_phrase 184 = .ok (.iload_n 1, 1) := by decide +kernel
theorem dL_phrase_185 : decode cL_phrase 185 = .ok (.bipush 12, 2) := by decide +kernel
theorem dL_phrase_187 : decode cL_phrase 187 = .ok (.ishr, 1) := by decide +kernel
theorem dL_phrase_188 : decode cL_phrase 188 = .ok (.iconst 2, 1) := by decide +kernel
theorem dL_phrase_189 : decode cL_phrase 189 = .ok (.invokestatic 94, 3) := by decide +kernel
theorem dL_phrase_192 : decode cL_phrase 192 = .ok (.iadd, 1) := by decide +kernel
theorem dL_phrase_193 : decode cL_phrase 193 = .ok (.goto 35, 3) := by decide +kernel
theorem dL_phrase_196 : decode cL_phrase 196 = .ok (.iload 7, 2) := by decide +kernel
theorem dL_phrase_198 : decode cL_phrase 198 = .ok (.ifCond .eq 19, 3) := by decide +kernel
theorem dL_phrase_201 : decode cL_phrase 201 = .ok (.iload_n 1, 1) := by decide +kernel
theorem dL_phrase_202 : decode cL_phrase 202 = .ok (.bipush 14, 2) := by decide +kernel
theorem dL_phrase_204 : decode cL_phrase 204 = .ok (.ishr, 1) := by decide +kernel
theorem dL_phrase_205 : decode cL_phrase 205 = .ok (.iconst 3, 1) := by decide +kernel
theorem dL_phrase_206 : decode cL_phrase 206 = .ok (.invokestatic 94, 3) := by decide +kernel
theorem dL_phrase_209 : decode cL_phrase 209 = .ok (.ifCond .ne 8, 3) := by decide +kernel
theorem dL_phrase_212 : decode cL_phrase 212 = .ok (.bipush 17, 2) := by decide +kernel
theorem dL_phrase_214 : decode cL_phrase 214 = .ok (.goto 14, 3) := by decide +kernel
theorem dL_phrase_217 : decode cL_phrase 217 = .ok (.bipush 30, 2) := by decide +kernel
theorem dL_phrase_219 : decode cL_phrase 219 = .ok (.iload_n 1, 1) := by decide +kernel
theorem dL_phrase_220 : decode cL_phrase 220 = .ok (.bipush 12, 2) := by decide +kernel
theorem dL_phrase_222 : decode cL_phrase 222 = .ok (.ishr, 1) := by decide +kernel
theorem dL_phrase_223 : decode cL_phrase 223 = .ok (.iconst 2, 1) := by decide +kernel
theorem dL_phrase_224 : decode cL_phrase 224 = .ok (.invokestatic 94, 3) := by decide +kernel
theorem dL_phrase_227 : decode cL_phrase 227 = .ok (.iadd, 1) := by decide +kernel
theorem dL_phrase_228 : decode cL_phrase 228 = .ok (.invokestatic 98, 3) := by decide +kernel
theorem dL_phrase_231 : decode cL_phrase 231 = .ok (.ifCond .eq 7, 3) := by decide +kernel
theorem dL_phrase_234 : decode cL_phrase 234 = .ok (.iconst 1, 1) := by decide +kernel
theorem dL_phrase_235 : decode cL_phrase 235 = .ok (.goto 4, 3) := by decide +kernel
theorem dL_phrase_238 : decode cL_phrase 238 = .ok (.iconst 0, 1) := by decide +kernel
theorem dL_phrase_239 : decode cL_phrase 239 = .ok (.ireturn, 1) := by decide +kernel
set_option maxRecDepth 20000 in
theorem ggL_speaks_L_cell : GoodIn wsL_speaks wsL_cell := goodIn_r _ [4, 5] (by decide +kernel) (by decide +kernel)
set_option maxRecDepth 20000 in
theorem gL_speaks_L_cell : GoodIn wsL_speaks (va_wsS RL 102 yL_cell wsL_cell) := goodIn_app (goodIn_of _ (by decide +kernel)) ggL_speaks_L_cell
set_option maxRecDepth 20000 in
theorem ggL_speaks_L_some : GoodIn wsL_speaks wsL_some := goodIn_r _ [8] (by decide +kernel) (by decide +kernel)
set_option maxRecDepth 20000 in
theorem gL_speaks_L_some : GoodIn wsL_speaks (va_wsS RL 94 yL_some wsL_some) := goodIn_app (goodIn_of _ (by decide +kernel)) ggL_speaks_L_some
set_option maxRecDepth 20000 in
theorem ggL_speaks_L_adds : GoodIn wsL_speaks wsL_adds := goodIn_ca (goodIn_ca (goodIn_r _ [11, 12, 13, 3, 14, 15, 16, 17, 18, 19, 20, 21, 22, 23, 24, 25, 26, 27, 28, 29, 30, 31, 32, 33, 34, 35, 36, 37, 38, 39, 40, 41, 42, 57, 58, 59, 60, 61, 62, 63, 64, 65, 66, 67, 68, 69, 70, 71] (by decide +kernel) (by decide +kernel)) (goodIn_sub (fun _ h => List.mem_cons_of_mem _ (List.mem_append_left _ (List.mem_append_right _ h))) (by decide +kernel))) (goodIn_sub (fun _ h => List.mem_cons_of_mem _ (List.mem_append_right _ h)) (by decide +kernel))
set_option maxRecDepth 20000 in
theorem gL_speaks_L_adds : GoodIn wsL_speaks (va_wsS RL 98 yL_adds wsL_adds) := goodIn_app (goodIn_of _ (by decide +kernel)) ggL_speaks_L_adds
set_option maxRecDepth 20000 in
theorem ggL_speaks_L_phrase : GoodIn wsL_speaks wsL_phrase := goodIn_ca (goodIn_ca (goodIn_r _ [45, 6, 7, 3, 8, 9, 10, 11, 12, 13, 14, 15, 16, 17, 18, 19, 20, 21, 22, 23, 24, 25, 26, 27, 28, 29, 30, 31, 32, 33, 34, 35, 36, 37, 38, 39, 40, 41, 42, 57, 58, 59, 60, 61, 62, 63, 64, 65, 66, 67, 68, 69, 70, 71] (by decide +kernel) (by decide +kernel)) (goodIn_sub (fun _ h => List.mem_cons_of_mem _ (List.mem_append_left _ (List.mem_append_right _ h))) (by decide +kernel))) (goodIn_sub (fun _ h => List.mem_cons_of_mem _ (List.mem_append_right _ h)) (by decide +kernel))
set_option maxRecDepth 20000 in
theorem gL_speaks_L_phrase : GoodIn wsL_speaks (va_wsS RL 105 yL_phrase wsL_phrase) := goodIn_app (goodIn_of _ (by decide +kernel)) ggL_speaks_L_phrase
set_option maxRecDepth 20000 in
theorem ggL_speaks_L_backed : GoodIn wsL_speaks wsL_backed := goodIn_ca (goodIn_r _ [48, 16, 49, 50, 51, 20, 52, 24, 25, 26, 53, 54, 55, 39, 56, 41, 42, 57, 58, 59, 60, 61, 62, 63, 64, 65, 66, 67, 68, 69, 70, 71] (by decide +kernel) (by decide +kernel)) (goodIn_sub (fun _ h => List.mem_cons_of_mem _ (List.mem_append_right _ h)) (by decide +kernel))
set_option maxRecDepth 20000 in
theorem gL_speaks_L_backed : GoodIn wsL_speaks (va_wsS RL 109 yL_backed wsL_backed) := goodIn_app (goodIn_of _ (by decide +kernel)) ggL_speaks_L_backed
theorem dL_speaks_0 : decode cL_speaks 0 = .ok (.aload_n 1, 1) := by decide +kernel
theorem dL_speaks_1 : decode cL_speaks 1 = .ok (.iload_n 2, 1) := by decide +kernel
theorem dL_speaks_2 : decode cL_speaks 2 = .ok (.invokestatic 102, 3) := by decide +kernel
theorem dL_speaks_5 : decode cL_speaks 5 = .ok (.istore 5, 2) := by decide +kernel
theorem dL_speaks_7 : decode cL_speaks 7 = .ok (.iconst 1, 1) := by decide +kernel
theorem dL_speaks_8 : decode cL_speaks 8 = .ok (.istore 6, 2) := by decide +kernel
theorem dL_speaks_10 : decode cL_speaks 10 = .ok (.aload 4, 2) := by decide +kernel
theorem dL_speaks_12 : decode cL_speaks 12 = .ok (.bipush 9, 2) := by decide +kernel
theorem dL_speaks_14 : decode cL_speaks 14 = .ok (.iaload, 1) := by decide +kernel
theorem dL_speaks_15 : decode cL_speaks 15 = .ok (.ifCond .le 155, 3) := by decide +kernel
theorem dL_speaks_18 : decode cL_speaks 18 = .ok (.iload 5, 2) := by decide +kernel
theorem dL_speaks_20 : decode cL_speaks 20 = .ok (.iconst 4, 1) := by decide +kernel
theorem dL_speaks_21 : decode cL_speaks 21 = .ok (.invokestatic 94, 3) := by decide +kernel
theorem dL_speaks_24 : decode cL_speaks 24 = .ok (.ifCond .le 146, 3) := by decide +kernel
theorem dL_speaks_27 : decode cL_speaks 27 = .ok (.aload_n 1, 1) := by decide +kernel
theorem dL_speaks_28 : decode cL_speaks 28 = .ok (.iload_n 2, 1) := by decide +kernel
theorem dL_speaks_29 : decode cL_speaks 29 = .ok (.iconst 1, 1) := by decide +kernel
theorem dL_speaks_30 : decode cL_speaks 30 = .ok (.iadd, 1) := by decide +kernel
theorem dL_speaks_31 : decode cL_speaks 31 = .ok (.invokestatic 102, 3) := by decide +kernel
theorem dL_speaks_34 : decode cL_speaks 34 = .ok (.istore 7, 2) := by decide +kernel
theorem dL_speaks_36 : decode cL_speaks 36 = .ok (.iload 7, 2) := by decide +kernel
theorem dL_speaks_38 : decode cL_speaks 38 = .ok (.iconst 3, 1) := by decide +kernel
theorem dL_speaks_39 : decode cL_speaks 39 = .ok (.invokestatic 94, 3) := by decide +kernel
theorem dL_speaks_42 : decode cL_speaks 42 = .ok (.ifCond .gt 15, 3) := by decide +kernel
theorem dL_speaks_45 : decode cL_speaks 45 = .ok (.aload_n 0, 1) := by decide +kernel
theorem dL_speaks_46 : decode cL_speaks 46 = .ok (.aload_n 3, 1) := by decide +kernel
theorem dL_speaks_47 : decode cL_speaks 47 = .ok (.aload 4, 2) := by decide +kernel
theorem dL_speaks_49 : decode cL_speaks 49 = .ok (.bipush 10, 2) := by decide +kernel
theorem dL_speaks_51 : decode cL_speaks 51 = .ok (.invokestatic 98, 3) := by decide +kernel
theorem dL_speaks_54 : decode cL_speaks 54 = .ok (.ifCond .eq 7, 3) := by decide +kernel
theorem dL_speaks_57 : decode cL_speaks 57 = .ok (.iconst 1, 1) := by decide +kernel
theorem dL_speaks_58 : decode cL_speaks 58 = .ok (.goto 4, 3) := by decide +kernel
theorem dL_speaks_61 : decode cL_speaks 61 = .ok (.iconst 0, 1) := by decide +kernel
theorem dL_speaks_62 : decode cL_speaks 62 = .ok (.istore 6, 2) := by decide +kernel
theorem dL_speaks_64 : decode cL_speaks 64 = .ok (.iload 6, 2) := by decide +kernel
theorem dL_speaks_66 : decode cL_speaks 66 = .ok (.ifCond .eq 39, 3) := by decide +kernel
theorem dL_speaks_69 : decode cL_speaks 69 = .ok (.iload 7, 2) := by decide +kernel
theorem dL_speaks_71 : decode cL_speaks 71 = .ok (.iconst 2, 1) := by decide +kernel
theorem dL_speaks_72 : decode cL_speaks 72 = .ok (.ishr, 1) := by decide +kernel
theorem dL_speaks_73 : decode cL_speaks 73 = .ok (.iconst 2, 1) := by decide +kernel
theorem dL_speaks_74 : decode cL_speaks 74 = .ok (.invokestatic 94, 3) := by decide +kernel
theorem dL_speaks_77 : decode cL_speaks 77 = .ok (.ifCond .eq 24, 3) := by decide +kernel
theorem dL_speaks_80 : decode cL_speaks 80 = .ok (.aload_n 0, 1) := by decide +kernel
theorem dL_speaks_81 : decode cL_speaks 81 = .ok (.aload_n 3, 1) := by decide +kernel
theorem dL_speaks_82 : decode cL_speaks 82 = .ok (.aload 4, 2) := by decide +kernel
theorem dL_speaks_84 : decode cL_speaks 84 = .ok (.bipush 20, 2) := by decide +kernel
theorem dL_speaks_86 : decode cL_speaks 86 = .ok (.iload 7, 2) := by decide +kernel
theorem dL_speaks_88 : decode cL_speaks 88 = .ok (.iconst 4, 1) := by decide +kernel
theorem dL_speaks_89 : decode cL_speaks 89 = .ok (.ishr, 1) := by decide +kernel
theorem dL_speaks_90 : decode cL_speaks 90 = .ok (.iconst 3, 1) := by decide +kernel
theorem dL_speaks_91 : decode cL_speaks 91 = .ok (.invokestatic 94, 3) := by decide +kernel
theorem dL_speaks_94 : decode cL_speaks 94 = .ok (.iadd, 1) := by decide +kernel
theorem dL_speaks_95 : decode cL_speaks 95 = .ok (.invokestatic 98, 3) := by decide +kernel
theorem dL_speaks_98 : decode cL_speaks 98 = .ok (.ifCond .eq 7, 3) := by decide +kernel
theorem dL_speaks_101 : decode cL_speaks 101 = .ok (.iconst 1, 1) := by decide +kernel
theorem dL_speaks_102 : decode cL_speaks 102 = .ok (.goto 4, 3) := by decide +kernel
theorem dL_speaks_105 : decode cL_speaks 105 = .ok (.iconst 0, 1) := by decide +kernel
theorem dL_speaks_106 : decode cL_speaks 106 = .ok (.istore 6, 2) := by decide +kernel
theorem dL_speaks_108 : decode cL_speaks 108 = .ok (.iload 6, 2) := by decide +kernel
theorem dL_speaks_110 : decode cL_speaks 110 = .ok (.ifCond .eq 58, 3) := by decide +kernel
theorem dL_speaks_113 : decode cL_speaks 113 = .ok (.iload 7, 2) := by decide +kernel
theorem dL_speaks_115 : decode cL_speaks 115 = .ok (.bipush 6, 2) := by decide +kernel
theorem dL_speaks_117 : decode cL_speaks 117 = .ok (.ishr, 1) := by decide +kernel
theorem dL_speaks_118 : decode cL_speaks 118 = .ok (.iconst 3, 1) := by decide +kernel
theorem dL_speaks_119 : decode cL_speaks 119 = .ok (.invokestatic 94, 3) := by decide +kernel
theorem dL_speaks_122 : decode cL_speaks 122 = .ok (.ifCond .eq 42, 3) := by decide +kernel
theorem dL_speaks_125 : decode cL_speaks 125 = .ok (.aload_n 0, 1) := by decide +kernel
theorem dL_speaks_126 : decode cL_speaks 126 = .ok (.aload_n 3, 1) := by decide +kernel
theorem dL_speaks_127 : decode cL_speaks 127 = .ok (.aload 4, 2) := by decide +kernel
theorem dL_speaks_129 : decode cL_speaks 129 = .ok (.iload 7, 2) := by decide +kernel
theorem dL_speaks_131 : decode cL_speaks 131 = .ok (.bipush 8, 2) := by decide +kernel
theorem dL_speaks_133 : decode cL_speaks 133 = .ok (.ishr, 1) := by decide +kernel
theorem dL_speaks_134 : decode cL_speaks 134 = .ok (.iconst 4, 1) := by decide +kernel
theorem dL_speaks_135 : decode cL_speaks 135 = .ok (.invokestatic 94, 3) := by decide +kernel
theorem dL_speaks_138 : decode cL_speaks 138 = .ok (.ifCond .ne 8, 3) := by decide +kernel
theorem dL_speaks_141 : decode cL_speaks 141 = .ok (.bipush 17, 2) := by decide +kernel
theorem dL_speaks_143 : decode cL_speaks 143 = .ok (.goto 15, 3) := by decide +kernel
theorem dL_speaks_146 : decode cL_speaks 146 = .ok (.bipush 30, 2) := by decide +kernel
theorem dL_speaks_148 : decode cL_speaks 148 = .ok (.iload 7, 2) := by decide +kernel
theorem dL_speaks_150 : decode cL_speaks 150 = .ok (.bipush 8, 2) := by decide +kernel
theorem dL_speaks_152 : decode cL_speaks 152 = .ok (.ishr, 1) := by decide +kernel
theorem dL_speaks_153 : decode cL_speaks 153 = .ok (.iconst 2, 1) := by decide +kernel
theorem dL_speaks_154 : decode cL_speaks 154 = .ok (.invokestatic 94, 3) := by decide +kernel
theorem dL_speaks_157 : decode cL_speaks 157 = .ok (.iadd, 1) := by decide +kernel
theorem dL_speaks_158 : decode cL_speaks 158 = .ok (.invokestatic 98, 3) := by decide +kernel
theorem dL_speaks_161 : decode cL_speaks 161 = .ok (.ifCond .eq 7, 3) := by decide +kernel
theorem dL_speaks_164 : decode cL_speaks 164 = .ok (.iconst 1, 1) := by decide +kernel
theorem dL_speaks_165 : decode cL_speaks 165 = .ok (.goto 4, 3) := by decide +kernel
theorem dL_speaks_168 : decode cL_speaks 168 = .ok (.iconst 0, 1) := by decide +kernel
theorem dL_speaks_169 : decode cL_speaks 169 = .ok (.ireturn, 1) := by decide +kernel
theorem dL_speaks_170 : decode cL_speaks 170 = .ok (.iload 5, 2) := by decide +kernel
theorem dL_speaks_172 : decode cL_speaks 172 = .ok (.iconst 3, 1) := by decide +kernel
theorem dL_speaks_173 : decode cL_speaks 173 = .ok (.ishr, 1) := by decide +kernel
theorem dL_speaks_174 : decode cL_speaks 174 = .ok (.iconst 5, 1) := by decide +kernel
theorem dL_speaks_175 : decode cL_speaks 175 = .ok (.invokestatic 94, 3) := by decide +kernel
theorem dL_speaks_178 : decode cL_speaks 178 = .ok (.istore 7, 2) := by decide +kernel
theorem dL_speaks_180 : decode cL_speaks 180 = .ok (.aload_n 0, 1) := by decide +kernel
theorem dL_speaks_181 : decode cL_speaks 181 = .ok (.aload_n 3, 1) := by decide +kernel
theorem dL_speaks_182 : decode cL_speaks 182 = .ok (.aload 4, 2) := by decide +kernel
theorem dL_speaks_184 : decode cL_speaks 184 = .ok (.iload 7, 2) := by decide +kernel
theorem dL_speaks_186 : decode cL_speaks 186 = .ok (.invokestatic 98, 3) := by decide +kernel
theorem dL_speaks_189 : decode cL_speaks 189 = .ok (.ifCond .eq 25, 3) := by decide +kernel
theorem dL_speaks_192 : decode cL_speaks 192 = .ok (.aload_n 0, 1) := by decide +kernel
theorem dL_speaks_193 : decode cL_speaks 193 = .ok (.aload_n 1, 1) := by decide +kernel
theorem dL_speaks_194 : decode cL_speaks 194 = .ok (.iload_n 2, 1) := by decide +kernel
theorem dL_speaks_195 : decode cL_speaks 195 = .ok (.iconst 1, 1) := by decide +kernel
theorem dL_speaks_196 : decode cL_speaks 196 = .ok (.iadd, 1) := by decide +kernel
theorem dL_speaks_197 : decode cL_speaks 197 = .ok (.invokestatic 102, 3) := by decide +kernel
theorem dL_speaks_200 : decode cL_speaks 200 = .ok (.aload_n 3, 1) := by decide +kernel
theorem dL_speaks_201 : decode cL_speaks 201 = .ok (.aload 4, 2) := by decide +kernel
theorem dL_speaks_203 : decode cL_speaks 203 = .ok (.iconst 0, 1) := by decide +kernel
theorem dL_speaks_204 : decode cL_speaks 204 = .ok (.invokestatic 105, 3) := by decide +kernel
theorem dL_speaks_207 : decode cL_speaks 207 = .ok (.ifCond .eq 7, 3) := by decide +kernel
theorem dL_speaks_210 : decode cL_speaks 210 = .ok (.iconst 1, 1) := by decide +kernel
theorem dL_speaks_211 : decode cL_speaks 211 = .ok (.goto 4, 3) := by decide +kernel
theorem dL_speaks_214 : decode cL_speaks 214 = .ok (.iconst 0, 1) := by decide +kernel
theorem dL_speaks_215 : decode cL_speaks 215 = .ok (.istore 6, 2) := by decide +kernel
theorem dL_speaks_217 : decode cL_speaks 217 = .ok (.iload 5, 2) := by decide +kernel
theorem dL_speaks_219 : decode cL_speaks 219 = .ok (.bipush 6, 2) := by decide +kernel
theorem dL_speaks_221 : decode cL_speaks 221 = .ok (.ishr, 1) := by decide +kernel
theorem dL_speaks_222 : decode cL_speaks 222 = .ok (.iconst 3, 1) := by decide +kernel
theorem dL_speaks_223 : decode cL_speaks 223 = .ok (.invokestatic 94, 3) := by decide +kernel
theorem dL_speaks_226 : decode cL_speaks 226 = .ok (.ifCond .ne 148, 3) := by decide +kernel
theorem dL_speaks_229 : decode cL_speaks 229 = .ok (.iload 6, 2) := by decide +kernel
theorem dL_speaks_231 : decode cL_speaks 231 = .ok (.ifCond .eq 70, 3) := by decide +kernel
theorem dL_speaks_234 : decode cL_speaks 234 = .ok (.aload_n 0, 1) := by decide +kernel
theorem dL_speaks_235 : decode cL_speaks 235 = .ok (.aload_n 3, 1) := by decide +kernel
theorem dL_speaks_236 : decode cL_speaks 236 = .ok (.aload 4, 2) := by decide +kernel
theorem dL_speaks_238 : decode cL_speaks 238 = .ok (.iload 5, 2) := by decide +kernel
theorem dL_speaks_240 : decode cL_speaks 240 = .ok (.bipush 8, 2) := by decide +kernel
theorem dL_speaks_242 : decode cL_speaks 242 = .ok (.ishr, 1) := by decide +kernel
theorem dL_speaks_243 : decode cL_speaks 243 = .ok (.iconst 2, 1) := by decide +kernel
theorem dL_speaks_244 : decode cL_speaks 244 = .ok (.invokestatic 94, 3) := by decide +kernel
theorem dL_speaks_247 : decode cL_speaks 247 = .ok (.ifCond .ne 8, 3) := by decide +kernel
theorem dL_speaks_250 : decode cL_speaks 250 = .ok (.bipush 13, 2) := by decide +kernel
theorem dL_speaks_252 : decode cL_speaks 252 = .ok (.goto 5, 3) := by decide +kernel
theorem dL_speaks_255 : decode cL_speaks 255 = .ok (.bipush 12, 2) := by decide +kernel
theorem dL_speaks_257 : decode cL_speaks 257 = .ok (.invokestatic 98, 3) := by decide +kernel
theorem dL_speaks_260 : decode cL_speaks 260 = .ok (.ifCond .eq 41, 3) := by decide +kernel
theorem dL_speaks_263 : decode cL_speaks 263 = .ok (.aload_n 0, 1) := by decide +kernel
theorem dL_speaks_264 : decode cL_speaks 264 = .ok (.aload_n 1, 1) := by decide +kernel
theorem dL_speaks_265 : decode cL_speaks 265 = .ok (.iload_n 2, 1) := by decide +kernel
theorem dL_speaks_266 : decode cL_speaks 266 = .ok (.iconst 2, 1) := by decide +kernel
theorem dL_speaks_267 : decode cL_speaks 267 = .ok (.iadd, 1) := by decide +kernel
theorem dL_speaks_268 : decode cL_speaks 268 = .ok (.invokestatic 102, 3) := by decide +kernel
theorem dL_speaks_271 : decode cL_speaks 271 = .ok (.aload_n 3, 1) := by decide +kernel
theorem dL_speaks_272 : decode cL_speaks 272 = .ok (.aload 4, 2) := by decide +kernel
theorem dL_speaks_274 : decode cL_speaks 274 = .ok (.iload 5, 2) := by decide +kernel
theorem dL_speaks_276 : decode cL_speaks 276 = .ok (.bipush 9, 2) := by decide +kernel
theorem dL_speaks_278 : decode cL_speaks 278 = .ok (.ishr, 1) := by decide +kernel
theorem dL_speaks_279 : decode cL_speaks 279 = .ok (.iconst 2, 1) := by decide +kernel
theorem dL_speaks_280 : decode cL_speaks 280 = .ok (.invokestatic 94, 3) := by decide +kernel
theorem dL_speaks_283 : decode cL_speaks 283 = .ok (.ifCond .ne 7, 3) := by decide +kernel
theorem dL_speaks_286 : decode cL_speaks 286 = .ok (.iconst 1, 1) := by decide +kernel
theorem dL_speaks_287 : decode cL_speaks 287 = .ok (.goto 4, 3) := by decide +kernel
theorem dL_speaks_290 : decode cL_speaks 290 = .ok (.iconst 0, 1) := by decide +kernel
theorem dL_speaks_291 : decode cL_speaks 291 = .ok (.invokestatic 105, 3) := by decide +kernel
theorem dL_speaks_294 : decode cL_speaks 294 = .ok (.ifCond .eq 7, 3) := by decide +kernel
theorem dL_speaks_297 : decode cL_speaks 297 = .ok (.iconst 1, 1) := by decide +kernel
theorem dL_speaks_298 : decode cL_speaks 298 = .ok (.goto 4, 3) := by decide +kernel
theorem dL_speaks_301 : decode cL_speaks 301 = .ok (.iconst 0, 1) := by decide +kernel
theorem dL_speaks_302 : decode cL_speaks 302 = .ok (.istore 6, 2) := by decide +kernel
theorem dL_speaks_304 : decode cL_speaks 304 = .ok (.iload 5, 2) := by decide +kernel
theorem dL_speaks_306 : decode cL_speaks 306 = .ok (.bipush 11, 2) := by decide +kernel
theorem dL_speaks_308 : decode cL_speaks 308 = .ok (.ishr, 1) := by decide +kernel
theorem dL_speaks_309 : decode cL_speaks 309 = .ok (.iconst 2, 1) := by decide +kernel
theorem dL_speaks_310 : decode cL_speaks 310 = .ok (.invokestatic 94, 3) := by decide +kernel
theorem dL_speaks_313 : decode cL_speaks 313 = .ok (.ifCond .ne 61, 3) := by decide +kernel
theorem dL_speaks_316 : decode cL_speaks 316 = .ok (.iload 6, 2) := by decide +kernel
theorem dL_speaks_318 : decode cL_speaks 318 = .ok (.ifCond .eq 53, 3) := by decide +kernel
theorem dL_speaks_321 : decode cL_speaks 321 = .ok (.aload_n 0, 1) := by decide +kernel
