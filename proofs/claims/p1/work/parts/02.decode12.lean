theorem dX14_init_569 : decode cX14_init 569 = .ok (.aload_n 0, 1) := by decide +kernel
theorem dX14_init_570 : decode cX14_init 570 = .ok (.sipush 1536, 3) := by decide +kernel
theorem dX14_init_573 : decode cX14_init 573 = .ok (.newarray .int, 2) := by decide +kernel
theorem dX14_init_575 : decode cX14_init 575 = .ok (.putfield 234, 3) := by decide +kernel
theorem dX14_init_578 : decode cX14_init 578 = .ok (.aload_n 0, 1) := by decide +kernel
theorem dX14_init_579 : decode cX14_init 579 = .ok (.bipush 12, 2) := by decide +kernel
theorem dX14_init_581 : decode cX14_init 581 = .ok (.newarray .int, 2) := by decide +kernel
theorem dX14_init_583 : decode cX14_init 583 = .ok (.putfield 237, 3) := by decide +kernel
theorem dX14_init_586 : decode cX14_init 586 = .ok (.aload_n 0, 1) := by decide +kernel
theorem dX14_init_587 : decode cX14_init 587 = .ok (.sipush 1200, 3) := by decide +kernel
theorem dX14_init_590 : decode cX14_init 590 = .ok (.newarray .int, 2) := by decide +kernel
theorem dX14_init_592 : decode cX14_init 592 = .ok (.putfield 240, 3) := by decide +kernel
theorem dX14_init_595 : decode cX14_init 595 = .ok (.aload_n 0, 1) := by decide +kernel
theorem dX14_init_596 : decode cX14_init 596 = .ok (.sipush 1200, 3) := by decide +kernel
theorem dX14_init_599 : decode cX14_init 599 = .ok (.newarray .int, 2) := by decide +kernel
theorem dX14_init_601 : decode cX14_init 601 = .ok (.putfield 243, 3) := by decide +kernel
theorem dX14_init_604 : decode cX14_init 604 = .ok (.aload_n 0, 1) := by decide +kernel
theorem dX14_init_605 : decode cX14_init 605 = .ok (.sipush 1200, 3) := by decide +kernel
theorem dX14_init_608 : decode cX14_init 608 = .ok (.newarray .int, 2) := by decide +kernel
theorem dX14_init_610 : decode cX14_init 610 = .ok (.putfield 246, 3) := by decide +kernel
theorem dX14_init_613 : decode cX14_init 613 = .ok (.aload_n 0, 1) := by decide +kernel
theorem dX14_init_614 : decode cX14_init 614 = .ok (.sipush 1200, 3) := by decide +kernel
theorem dX14_init_617 : decode cX14_init 617 = .ok (.newarray .boolean, 2) := by decide +kernel
theorem dX14_init_619 : decode cX14_init 619 = .ok (.putfield 249, 3) := by decide +kernel
theorem dX14_init_622 : decode cX14_init 622 = .ok (.aload_n 0, 1) := by decide +kernel
theorem dX14_init_623 : decode cX14_init 623 = .ok (.bipush 16, 2) := by decide +kernel
theorem dX14_init_625 : decode cX14_init 625 = .ok (.newarray .int, 2) := by decide +kernel
theorem dX14_init_627 : decode cX14_init 627 = .ok (.putfield 252, 3) := by decide +kernel
theorem dX14_init_630 : decode cX14_init 630 = .ok (.aload_n 0, 1) := by decide +kernel
theorem dX14_init_631 : decode cX14_init 631 = .ok (.bipush 16, 2) := by decide +kernel
theorem dX14_init_633 : decode cX14_init 633 = .ok (.newarray .int, 2) := by decide +kernel
theorem dX14_init_635 : decode cX14_init 635 = .ok (.putfield 255, 3) := by decide +kernel
theorem dX14_init_638 : decode cX14_init 638 = .ok (.aload_n 0, 1) := by decide +kernel
theorem dX14_init_639 : decode cX14_init 639 = .ok (.bipush 16, 2) := by decide +kernel
theorem dX14_init_641 : decode cX14_init 641 = .ok (.newarray .int, 2) := by decide +kernel
theorem dX14_init_643 : decode cX14_init 643 = .ok (.putfield 258, 3) := by decide +kernel
theorem dX14_init_646 : decode cX14_init 646 = .ok (.aload_n 0, 1) := by decide +kernel
theorem dX14_init_647 : decode cX14_init 647 = .ok (.bipush 16, 2) := by decide +kernel
theorem dX14_init_649 : decode cX14_init 649 = .ok (.newarray .int, 2) := by decide +kernel
theorem dX14_init_651 : decode cX14_init 651 = .ok (.putfield 261, 3) := by decide +kernel
theorem dX14_init_654 : decode cX14_init 654 = .ok (.aload_n 0, 1) := by decide +kernel
theorem dX14_init_655 : decode cX14_init 655 = .ok (.bipush 16, 2) := by decide +kernel
theorem dX14_init_657 : decode cX14_init 657 = .ok (.newarray .boolean, 2) := by decide +kernel
theorem dX14_init_659 : decode cX14_init 659 = .ok (.putfield 264, 3) := by decide +kernel
theorem dX14_init_662 : decode cX14_init 662 = .ok (.aload_n 0, 1) := by decide +kernel
theorem dX14_init_663 : decode cX14_init 663 = .ok (.sipush 1201, 3) := by decide +kernel
theorem dX14_init_666 : decode cX14_init 666 = .ok (.newarray .boolean, 2) := by decide +kernel
theorem dX14_init_668 : decode cX14_init 668 = .ok (.putfield 267, 3) := by decide +kernel
theorem dX14_init_671 : decode cX14_init 671 = .ok (.aload_n 0, 1) := by decide +kernel
theorem dX14_init_672 : decode cX14_init 672 = .ok (.sipush 1200, 3) := by decide +kernel
theorem dX14_init_675 : decode cX14_init 675 = .ok (.newarray .boolean, 2) := by decide +kernel
theorem dX14_init_677 : decode cX14_init 677 = .ok (.putfield 270, 3) := by decide +kernel
theorem dX14_init_680 : decode cX14_init 680 = .ok (.aload_n 0, 1) := by decide +kernel
theorem dX14_init_681 : decode cX14_init 681 = .ok (.sipush 1200, 3) := by decide +kernel
theorem dX14_init_684 : decode cX14_init 684 = .ok (.newarray .int, 2) := by decide +kernel
theorem dX14_init_686 : decode cX14_init 686 = .ok (.putfield 273, 3) := by decide +kernel
theorem dX14_init_689 : decode cX14_init 689 = .ok (.aload_n 0, 1) := by decide +kernel
theorem dX14_init_690 : decode cX14_init 690 = .ok (.sipush 1200, 3) := by decide +kernel
theorem dX14_init_693 : decode cX14_init 693 = .ok (.newarray .int, 2) := by decide +kernel
theorem dX14_init_695 : decode cX14_init 695 = .ok (.putfield 276, 3) := by decide +kernel
theorem dX14_init_698 : decode cX14_init 698 = .ok (.aload_n 0, 1) := by decide +kernel
theorem dX14_init_699 : decode cX14_init 699 = .ok (.sipush 1201, 3) := by decide +kernel
theorem dX14_init_702 : decode cX14_init 702 = .ok (.newarray .int, 2) := by decide +kernel
theorem dX14_init_704 : decode cX14_init 704 = .ok (.putfield 279, 3) := by decide +kernel
theorem dX14_init_707 : decode cX14_init 707 = .ok (.aload_n 0, 1) := by decide +kernel
theorem dX14_init_708 : decode cX14_init 708 = .ok (.sipush 1200, 3) := by decide +kernel
theorem dX14_init_711 : decode cX14_init 711 = .ok (.newarray .int, 2) := by decide +kernel
theorem dX14_init_713 : decode cX14_init 713 = .ok (.putfield 282, 3) := by decide +kernel
theorem dX14_init_716 : decode cX14_init 716 = .ok (.return_, 1) := by decide +kernel
theorem dX14_isMethod_0 : decode cX14_isMethod 0 = .ok (.aload_n 0, 1) := by decide +kernel
theorem dX14_isMethod_1 : decode cX14_isMethod 1 = .ok (.iload_n 1, 1) := by decide +kernel
theorem dX14_isMethod_2 : decode cX14_isMethod 2 = .ok (.invokevirtual 658, 3) := by decide +kernel
theorem dX14_isMethod_5 : decode cX14_isMethod 5 = .ok (.ifnull 24, 3) := by decide +kernel
theorem dX14_isMethod_29 : decode cX14_isMethod 29 = .ok (.iconst 0, 1) := by decide +kernel
theorem dX14_isMethod_30 : decode cX14_isMethod 30 = .ok (.ireturn, 1) := by decide +kernel
theorem dX14_isRight_0 : decode cX14_isRight 0 = .ok (.aload_n 0, 1) := by decide +kernel
theorem dX14_isRight_1 : decode cX14_isRight 1 = .ok (.iload_n 1, 1) := by decide +kernel
theorem dX14_isRight_2 : decode cX14_isRight 2 = .ok (.invokevirtual 658, 3) := by decide +kernel
theorem dX14_isRight_5 : decode cX14_isRight 5 = .ok (.ifnull 20, 3) := by decide +kernel
theorem dX14_isRight_25 : decode cX14_isRight 25 = .ok (.iconst 0, 1) := by decide +kernel
theorem dX14_isRight_26 : decode cX14_isRight 26 = .ok (.ireturn, 1) := by decide +kernel
theorem dX14_layout_0 : decode cX14_layout 0 = .ok (.iconst 0, 1) := by decide +kernel
theorem dX14_layout_1 : decode cX14_layout 1 = .ok (.istore_n 1, 1) := by decide +kernel
theorem dX14_layout_2 : decode cX14_layout 2 = .ok (.iload_n 1, 1) := by decide +kernel
theorem dX14_layout_3 : decode cX14_layout 3 = .ok (.bipush 8, 2) := by decide +kernel
theorem dX14_layout_5 : decode cX14_layout 5 = .ok (.if_icmp .ge 54, 3) := by decide +kernel
theorem dX14_layout_8 : decode cX14_layout 8 = .ok (.aload_n 0, 1) := by decide +kernel
theorem dX14_layout_9 : decode cX14_layout 9 = .ok (.iload_n 1, 1) := by decide +kernel
theorem dX14_layout_10 : decode cX14_layout 10 = .ok (.aload_n 0, 1) := by decide +kernel
theorem dX14_layout_11 : decode cX14_layout 11 = .ok (.getfield 322, 3) := by decide +kernel
theorem dX14_layout_14 : decode cX14_layout 14 = .ok (.if_icmp .ge 7, 3) := by decide +kernel
theorem dX14_layout_21 : decode cX14_layout 21 = .ok (.iconst 0, 1) := by decide +kernel
theorem dX14_layout_22 : decode cX14_layout 22 = .ok (.iconst 2, 1) := by decide +kernel
theorem dX14_layout_23 : decode cX14_layout 23 = .ok (.aload_n 0, 1) := by decide +kernel
theorem dX14_layout_24 : decode cX14_layout 24 = .ok (.getfield 322, 3) := by decide +kernel
theorem dX14_layout_27 : decode cX14_layout 27 = .ok (.invokevirtual 325, 3) := by decide +kernel
theorem dX14_length_0 : decode cX14_length 0 = .ok (.aload_n 0, 1) := by decide +kernel
theorem dX14_length_1 : decode cX14_length 1 = .ok (.iload_n 1, 1) := by decide +kernel
theorem dX14_length_2 : decode cX14_length 2 = .ok (.iload_n 2, 1) := by decide +kernel
theorem dX14_length_3 : decode cX14_length 3 = .ok (.invokevirtual 662, 3) := by decide +kernel
theorem dX14_length_6 : decode cX14_length 6 = .ok (.ifCond .eq 17, 3) := by decide +kernel
theorem dX14_length_23 : decode cX14_length 23 = .ok (.iconst (-1), 1) := by decide +kernel
theorem dX14_length_24 : decode cX14_length 24 = .ok (.ireturn, 1) := by decide +kernel
theorem dX14_local_0 : decode cX14_local 0 = .ok (.aload_n 0, 1) := by decide +kernel
theorem dX14_local_1 : decode cX14_local 1 = .ok (.iload_n 1, 1) := by decide +kernel
theorem dX14_local_2 : decode cX14_local 2 = .ok (.iload_n 2, 1) := by decide +kernel
theorem dX14_local_3 : decode cX14_local 3 = .ok (.iload_n 3, 1) := by decide +kernel
theorem dX14_local_4 : decode cX14_local 4 = .ok (.invokevirtual 863, 3) := by decide +kernel
theorem dX14_local_7 : decode cX14_local 7 = .ok (.istore 5, 2) := by decide +kernel
theorem dX14_local_9 : decode cX14_local 9 = .ok (.iload 5, 2) := by decide +kernel
theorem dX14_local_11 : decode cX14_local 11 = .ok (.ifCond .lt 30, 3) := by decide +kernel
theorem dX14_local_41 : decode cX14_local 41 = .ok (.iconst (-1), 1) := by decide +kernel
theorem dX14_local_42 : decode cX14_local 42 = .ok (.ireturn, 1) := by decide +kernel
theorem dX14_method_0 : decode cX14_method 0 = .ok (.aload_n 0, 1) := by decide +kernel
theorem dX14_method_1 : decode cX14_method 1 = .ok (.getfield 105, 3) := by decide +kernel
theorem dX14_method_4 : decode cX14_method 4 = .ok (.ireturn, 1) := by decide +kernel
theorem dX14_must_0 : decode cX14_must 0 = .ok (.iload_n 1, 1) := by decide +kernel
theorem dX14_must_1 : decode cX14_must 1 = .ok (.ifCond .ne 10, 3) := by decide +kernel
theorem dX14_must_4 : decode cX14_must 4 = .ok (.aload_n 0, 1) := by decide +kernel
theorem dX14_must_5 : decode cX14_must 5 = .ok (.iload_n 2, 1) := by decide +kernel
theorem dX14_must_6 : decode cX14_must 6 = .ok (.iload_n 3, 1) := by decide +kernel
theorem dX14_must_7 : decode cX14_must 7 = .ok (.invokevirtual 302, 3) := by decide +kernel
theorem dX14_must_10 : decode cX14_must 10 = .ok (.athrow, 1) := by decide +kernel
theorem dX14_place_0 : decode cX14_place 0 = .ok (.aload_n 0, 1) := by decide +kernel
theorem dX14_place_1 : decode cX14_place 1 = .ok (.getfield 26, 3) := by decide +kernel
theorem dX14_place_4 : decode cX14_place 4 = .ok (.ireturn, 1) := by decide +kernel
theorem dX14_readFile_0 : decode cX14_readFile 0 = .ok (.aload_n 0, 1) := by decide +kernel
theorem dX14_readFile_1 : decode cX14_readFile 1 = .ok (.aload_n 1, 1) := by decide +kernel
theorem dX14_readFile_2 : decode cX14_readFile 2 = .ok (.putfield 309, 3) := by decide +kernel
theorem dX14_readFile_5 : decode cX14_readFile 5 = .ok (.aload_n 0, 1) := by decide +kernel
theorem dX14_readFile_6 : decode cX14_readFile 6 = .ok (.iload_n 2, 1) := by decide +kernel
theorem dX14_readFile_7 : decode cX14_readFile 7 = .ok (.putfield 322, 3) := by decide +kernel
theorem dX14_readFile_10 : decode cX14_readFile 10 = .ok (.aload_n 0, 1) := by decide +kernel
theorem dX14_readFile_11 : decode cX14_readFile 11 = .ok (.invokevirtual 552, 3) := by decide +kernel
theorem dX14_result_0 : decode cX14_result 0 = .ok (.aload_n 0, 1) := by decide +kernel
theorem dX14_result_1 : decode cX14_result 1 = .ok (.getfield 980, 3) := by decide +kernel
theorem dX14_result_4 : decode cX14_result 4 = .ok (.lreturn, 1) := by decide +kernel
theorem dX14_rule_0 : decode cX14_rule 0 = .ok (.aload_n 0, 1) := by decide +kernel
theorem dX14_rule_1 : decode cX14_rule 1 = .ok (.getfield 306, 3) := by decide +kernel
theorem dX14_rule_4 : decode cX14_rule 4 = .ok (.ireturn, 1) := by decide +kernel
theorem dX14_run_0 : decode cX14_run 0 = .ok (.aload_n 0, 1) := by decide +kernel
theorem dX14_run_1 : decode cX14_run 1 = .ok (.getfield 970, 3) := by decide +kernel
theorem dX14_run_4 : decode cX14_run 4 = .ok (.istore_n 3, 1) := by decide +kernel
theorem dX14_run_5 : decode cX14_run 5 = .ok (.aload_n 0, 1) := by decide +kernel
theorem dX14_run_6 : decode cX14_run 6 = .ok (.iconst 0, 1) := by decide +kernel
theorem dX14_run_7 : decode cX14_run 7 = .ok (.putfield 970, 3) := by decide +kernel
theorem dX14_run_10 : decode cX14_run 10 = .ok (.aload_n 0, 1) := by decide +kernel
theorem dX14_run_11 : decode cX14_run 11 = .ok (.getfield 961, 3) := by decide +kernel
theorem dX14_run_14 : decode cX14_run 14 = .ok (.ifnull 18, 3) := by decide +kernel
theorem dX14_run_32 : decode cX14_run 32 = .ok (.iconst (-1), 1) := by decide +kernel
