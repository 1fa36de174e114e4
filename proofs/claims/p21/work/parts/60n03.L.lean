theorem dL_refuses_469 : decode cL_refuses 469 = .ok (.if_icmp .ne 201, 3) := by decide +kernel
theorem dL_refuses_472 : decode cL_refuses 472 = .ok (.aload_n 0, 1) := by decide +kernel
theorem dL_refuses_473 : decode cL_refuses 473 = .ok (.iload_n 2, 1) := by decide +kernel
theorem dL_refuses_474 : decode cL_refuses 474 = .ok (.iconst 2, 1) := by decide +kernel
theorem dL_refuses_475 : decode cL_refuses 475 = .ok (.irem, 1) := by decide +kernel
theorem dL_refuses_476 : decode cL_refuses 476 = .ok (.bipush 100, 2) := by decide +kernel
theorem dL_refuses_478 : decode cL_refuses 478 = .ok (.iload_n 2, 1) := by decide +kernel
theorem dL_refuses_479 : decode cL_refuses 479 = .ok (.iadd, 1) := by decide +kernel
theorem dL_refuses_480 : decode cL_refuses 480 = .ok (.invokestatic 114, 3) := by decide +kernel
theorem dL_refuses_483 : decode cL_refuses 483 = .ok (.ldc 18, 2) := by decide +kernel
theorem dL_refuses_485 : decode cL_refuses 485 = .ok (.if_icmp .ne 185, 3) := by decide +kernel
theorem dL_refuses_488 : decode cL_refuses 488 = .ok (.aload_n 0, 1) := by decide +kernel
theorem dL_refuses_489 : decode cL_refuses 489 = .ok (.iload_n 2, 1) := by decide +kernel
theorem dL_refuses_490 : decode cL_refuses 490 = .ok (.iconst 2, 1) := by decide +kernel
theorem dL_refuses_491 : decode cL_refuses 491 = .ok (.irem, 1) := by decide +kernel
theorem dL_refuses_492 : decode cL_refuses 492 = .ok (.iconst (-1), 1) := by decide +kernel
theorem dL_refuses_493 : decode cL_refuses 493 = .ok (.iload_n 2, 1) := by decide +kernel
theorem dL_refuses_494 : decode cL_refuses 494 = .ok (.isub, 1) := by decide +kernel
theorem dL_refuses_495 : decode cL_refuses 495 = .ok (.invokestatic 114, 3) := by decide +kernel
theorem dL_refuses_498 : decode cL_refuses 498 = .ok (.ldc 18, 2) := by decide +kernel
theorem dL_refuses_500 : decode cL_refuses 500 = .ok (.if_icmp .ne 170, 3) := by decide +kernel
theorem dL_refuses_503 : decode cL_refuses 503 = .ok (.aload_n 0, 1) := by decide +kernel
theorem dL_refuses_504 : decode cL_refuses 504 = .ok (.iload 5, 2) := by decide +kernel
theorem dL_refuses_506 : decode cL_refuses 506 = .ok (.invokestatic 116, 3) := by decide +kernel
theorem dL_refuses_509 : decode cL_refuses 509 = .ok (.ldc 15, 2) := by decide +kernel
theorem dL_refuses_511 : decode cL_refuses 511 = .ok (.if_icmp .ne 159, 3) := by decide +kernel
theorem dL_refuses_514 : decode cL_refuses 514 = .ok (.aload_n 0, 1) := by decide +kernel
theorem dL_refuses_515 : decode cL_refuses 515 = .ok (.iload 6, 2) := by decide +kernel
theorem dL_refuses_517 : decode cL_refuses 517 = .ok (.iconst 0, 1) := by decide +kernel
theorem dL_refuses_518 : decode cL_refuses 518 = .ok (.iconst 0, 1) := by decide +kernel
theorem dL_refuses_519 : decode cL_refuses 519 = .ok (.invokestatic 119, 3) := by decide +kernel
theorem dL_refuses_522 : decode cL_refuses 522 = .ok (.ldc 15, 2) := by decide +kernel
theorem dL_refuses_524 : decode cL_refuses 524 = .ok (.if_icmp .ne 146, 3) := by decide +kernel
theorem dL_refuses_527 : decode cL_refuses 527 = .ok (.aload_n 0, 1) := by decide +kernel
theorem dL_refuses_528 : decode cL_refuses 528 = .ok (.iload_n 2, 1) := by decide +kernel
theorem dL_refuses_529 : decode cL_refuses 529 = .ok (.iconst 2, 1) := by decide +kernel
theorem dL_refuses_530 : decode cL_refuses 530 = .ok (.irem, 1) := by decide +kernel
theorem dL_refuses_531 : decode cL_refuses 531 = .ok (.iload 5, 2) := by decide +kernel
theorem dL_refuses_533 : decode cL_refuses 533 = .ok (.iconst 0, 1) := by decide +kernel
theorem dL_refuses_534 : decode cL_refuses 534 = .ok (.invokestatic 119, 3) := by decide +kernel
theorem dL_refuses_537 : decode cL_refuses 537 = .ok (.ldc 15, 2) := by decide +kernel
theorem dL_refuses_539 : decode cL_refuses 539 = .ok (.if_icmp .ne 131, 3) := by decide +kernel
theorem dL_refuses_542 : decode cL_refuses 542 = .ok (.aload_n 0, 1) := by decide +kernel
theorem dL_refuses_543 : decode cL_refuses 543 = .ok (.iload_n 2, 1) := by decide +kernel
theorem dL_refuses_544 : decode cL_refuses 544 = .ok (.iconst 2, 1) := by decide +kernel
theorem dL_refuses_545 : decode cL_refuses 545 = .ok (.irem, 1) := by decide +kernel
theorem dL_refuses_546 : decode cL_refuses 546 = .ok (.iconst 0, 1) := by decide +kernel
theorem dL_refuses_547 : decode cL_refuses 547 = .ok (.iload 5, 2) := by decide +kernel
theorem dL_refuses_549 : decode cL_refuses 549 = .ok (.invokestatic 119, 3) := by decide +kernel
theorem dL_refuses_552 : decode cL_refuses 552 = .ok (.ldc 15, 2) := by decide +kernel
theorem dL_refuses_554 : decode cL_refuses 554 = .ok (.if_icmp .ne 116, 3) := by decide +kernel
theorem dL_refuses_557 : decode cL_refuses 557 = .ok (.aload_n 1, 1) := by decide +kernel
theorem dL_refuses_558 : decode cL_refuses 558 = .ok (.iconst 0, 1) := by decide +kernel
theorem dL_refuses_559 : decode cL_refuses 559 = .ok (.iaload, 1) := by decide +kernel
theorem dL_refuses_560 : decode cL_refuses 560 = .ok (.iconst 3, 1) := by decide +kernel
theorem dL_refuses_561 : decode cL_refuses 561 = .ok (.if_icmp .lt 17, 3) := by decide +kernel
theorem dL_refuses_564 : decode cL_refuses 564 = .ok (.aload_n 0, 1) := by decide +kernel
theorem dL_refuses_565 : decode cL_refuses 565 = .ok (.iload_n 2, 1) := by decide +kernel
theorem dL_refuses_566 : decode cL_refuses 566 = .ok (.iconst 4, 1) := by decide +kernel
theorem dL_refuses_567 : decode cL_refuses 567 = .ok (.irem, 1) := by decide +kernel
theorem dL_refuses_568 : decode cL_refuses 568 = .ok (.iconst (-1), 1) := by decide +kernel
theorem dL_refuses_569 : decode cL_refuses 569 = .ok (.iconst (-1), 1) := by decide +kernel
theorem dL_refuses_570 : decode cL_refuses 570 = .ok (.invokestatic 106, 3) := by decide +kernel
theorem dL_refuses_573 : decode cL_refuses 573 = .ok (.ldc 21, 2) := by decide +kernel
theorem dL_refuses_575 : decode cL_refuses 575 = .ok (.if_icmp .ne 95, 3) := by decide +kernel
theorem dL_refuses_578 : decode cL_refuses 578 = .ok (.iload 4, 2) := by decide +kernel
theorem dL_refuses_580 : decode cL_refuses 580 = .ok (.bipush 60, 2) := by decide +kernel
theorem dL_refuses_582 : decode cL_refuses 582 = .ok (.if_icmp .lt 19, 3) := by decide +kernel
theorem dL_refuses_585 : decode cL_refuses 585 = .ok (.aload_n 0, 1) := by decide +kernel
theorem dL_refuses_586 : decode cL_refuses 586 = .ok (.iload_n 2, 1) := by decide +kernel
theorem dL_refuses_587 : decode cL_refuses 587 = .ok (.iconst 2, 1) := by decide +kernel
theorem dL_refuses_588 : decode cL_refuses 588 = .ok (.irem, 1) := by decide +kernel
theorem dL_refuses_589 : decode cL_refuses 589 = .ok (.iconst (-1), 1) := by decide +kernel
theorem dL_refuses_590 : decode cL_refuses 590 = .ok (.iconst (-1), 1) := by decide +kernel
theorem dL_refuses_591 : decode cL_refuses 591 = .ok (.iconst 0, 1) := by decide +kernel
theorem dL_refuses_592 : decode cL_refuses 592 = .ok (.iconst 0, 1) := by decide +kernel
theorem dL_refuses_593 : decode cL_refuses 593 = .ok (.invokestatic 75, 3) := by decide +kernel
theorem dL_refuses_596 : decode cL_refuses 596 = .ok (.ldc 21, 2) := by decide +kernel
theorem dL_refuses_598 : decode cL_refuses 598 = .ok (.if_icmp .ne 72, 3) := by decide +kernel
theorem dL_refuses_601 : decode cL_refuses 601 = .ok (.aload_n 0, 1) := by decide +kernel
theorem dL_refuses_602 : decode cL_refuses 602 = .ok (.iconst 0, 1) := by decide +kernel
theorem dL_refuses_603 : decode cL_refuses 603 = .ok (.iload_n 2, 1) := by decide +kernel
theorem dL_refuses_604 : decode cL_refuses 604 = .ok (.iconst 4, 1) := by decide +kernel
theorem dL_refuses_605 : decode cL_refuses 605 = .ok (.irem, 1) := by decide +kernel
theorem dL_refuses_606 : decode cL_refuses 606 = .ok (.invokestatic 85, 3) := by decide +kernel
theorem dL_refuses_609 : decode cL_refuses 609 = .ok (.ifCond .ge 31, 3) := by decide +kernel
theorem dL_refuses_612 : decode cL_refuses 612 = .ok (.aload_n 0, 1) := by decide +kernel
theorem dL_refuses_613 : decode cL_refuses 613 = .ok (.iload_n 2, 1) := by decide +kernel
theorem dL_refuses_614 : decode cL_refuses 614 = .ok (.iconst 4, 1) := by decide +kernel
theorem dL_refuses_615 : decode cL_refuses 615 = .ok (.irem, 1) := by decide +kernel
theorem dL_refuses_616 : decode cL_refuses 616 = .ok (.iconst 0, 1) := by decide +kernel
theorem dL_refuses_617 : decode cL_refuses 617 = .ok (.iconst 1, 1) := by decide +kernel
theorem dL_refuses_618 : decode cL_refuses 618 = .ok (.invokestatic 91, 3) := by decide +kernel
theorem dL_refuses_621 : decode cL_refuses 621 = .ok (.ldc 21, 2) := by decide +kernel
theorem dL_refuses_623 : decode cL_refuses 623 = .ok (.if_icmp .ne 47, 3) := by decide +kernel
theorem dL_refuses_626 : decode cL_refuses 626 = .ok (.aload_n 0, 1) := by decide +kernel
theorem dL_refuses_627 : decode cL_refuses 627 = .ok (.iload_n 2, 1) := by decide +kernel
theorem dL_refuses_628 : decode cL_refuses 628 = .ok (.iconst 4, 1) := by decide +kernel
theorem dL_refuses_629 : decode cL_refuses 629 = .ok (.irem, 1) := by decide +kernel
theorem dL_refuses_630 : decode cL_refuses 630 = .ok (.bipush 60, 2) := by decide +kernel
theorem dL_refuses_632 : decode cL_refuses 632 = .ok (.invokestatic 95, 3) := by decide +kernel
theorem dL_refuses_635 : decode cL_refuses 635 = .ok (.ldc 21, 2) := by decide +kernel
theorem dL_refuses_637 : decode cL_refuses 637 = .ok (.if_icmp .ne 33, 3) := by decide +kernel
theorem dL_refuses_640 : decode cL_refuses 640 = .ok (.aload_n 0, 1) := by decide +kernel
theorem dL_refuses_641 : decode cL_refuses 641 = .ok (.iconst 0, 1) := by decide +kernel
theorem dL_refuses_642 : decode cL_refuses 642 = .ok (.iload_n 2, 1) := by decide +kernel
theorem dL_refuses_643 : decode cL_refuses 643 = .ok (.bipush 100, 2) := by decide +kernel
theorem dL_refuses_645 : decode cL_refuses 645 = .ok (.irem, 1) := by decide +kernel
theorem dL_refuses_646 : decode cL_refuses 646 = .ok (.invokestatic 114, 3) := by decide +kernel
theorem dL_refuses_649 : decode cL_refuses 649 = .ok (.iconst 1, 1) := by decide +kernel
theorem dL_refuses_650 : decode cL_refuses 650 = .ok (.if_icmp .eq 16, 3) := by decide +kernel
theorem dL_refuses_653 : decode cL_refuses 653 = .ok (.aload_n 0, 1) := by decide +kernel
theorem dL_refuses_654 : decode cL_refuses 654 = .ok (.iload_n 2, 1) := by decide +kernel
theorem dL_refuses_655 : decode cL_refuses 655 = .ok (.bipush 100, 2) := by decide +kernel
theorem dL_refuses_657 : decode cL_refuses 657 = .ok (.irem, 1) := by decide +kernel
theorem dL_refuses_658 : decode cL_refuses 658 = .ok (.invokestatic 98, 3) := by decide +kernel
theorem dL_refuses_661 : decode cL_refuses 661 = .ok (.ldc 21, 2) := by decide +kernel
theorem dL_refuses_663 : decode cL_refuses 663 = .ok (.if_icmp .ne 7, 3) := by decide +kernel
theorem dL_refuses_666 : decode cL_refuses 666 = .ok (.iconst 1, 1) := by decide +kernel
theorem dL_refuses_667 : decode cL_refuses 667 = .ok (.goto 4, 3) := by decide +kernel
theorem dL_refuses_670 : decode cL_refuses 670 = .ok (.iconst 0, 1) := by decide +kernel
theorem dL_refuses_671 : decode cL_refuses 671 = .ok (.istore 8, 2) := by decide +kernel
theorem dL_refuses_673 : decode cL_refuses 673 = .ok (.iload 8, 2) := by decide +kernel
theorem dL_refuses_675 : decode cL_refuses 675 = .ok (.ifCond .eq 140, 3) := by decide +kernel
theorem dL_refuses_678 : decode cL_refuses 678 = .ok (.iload 4, 2) := by decide +kernel
theorem dL_refuses_680 : decode cL_refuses 680 = .ok (.ifCond .le 135, 3) := by decide +kernel
theorem dL_refuses_683 : decode cL_refuses 683 = .ok (.iload_n 2, 1) := by decide +kernel
theorem dL_refuses_684 : decode cL_refuses 684 = .ok (.iconst 2, 1) := by decide +kernel
theorem dL_refuses_685 : decode cL_refuses 685 = .ok (.idiv, 1) := by decide +kernel
theorem dL_refuses_686 : decode cL_refuses 686 = .ok (.iload 4, 2) := by decide +kernel
theorem dL_refuses_688 : decode cL_refuses 688 = .ok (.irem, 1) := by decide +kernel
theorem dL_refuses_689 : decode cL_refuses 689 = .ok (.istore 9, 2) := by decide +kernel
theorem dL_refuses_691 : decode cL_refuses 691 = .ok (.iconst 0, 1) := by decide +kernel
theorem dL_refuses_692 : decode cL_refuses 692 = .ok (.istore 10, 2) := by decide +kernel
theorem dL_refuses_694 : decode cL_refuses 694 = .ok (.iload 10, 2) := by decide +kernel
theorem dL_refuses_696 : decode cL_refuses 696 = .ok (.iconst 2, 1) := by decide +kernel
theorem dL_refuses_697 : decode cL_refuses 697 = .ok (.if_icmp .ge 118, 3) := by decide +kernel
theorem dL_refuses_700 : decode cL_refuses 700 = .ok (.iload 8, 2) := by decide +kernel
theorem dL_refuses_702 : decode cL_refuses 702 = .ok (.ifCond .eq 113, 3) := by decide +kernel
theorem dL_refuses_705 : decode cL_refuses 705 = .ok (.aload_n 0, 1) := by decide +kernel
theorem dL_refuses_706 : decode cL_refuses 706 = .ok (.iload 10, 2) := by decide +kernel
theorem dL_refuses_708 : decode cL_refuses 708 = .ok (.iload 9, 2) := by decide +kernel
theorem dL_refuses_710 : decode cL_refuses 710 = .ok (.invokestatic 112, 3) := by decide +kernel
theorem dL_refuses_713 : decode cL_refuses 713 = .ok (.iconst 1, 1) := by decide +kernel
theorem dL_refuses_714 : decode cL_refuses 714 = .ok (.if_icmp .ne 7, 3) := by decide +kernel
theorem dL_refuses_717 : decode cL_refuses 717 = .ok (.iconst 1, 1) := by decide +kernel
theorem dL_refuses_718 : decode cL_refuses 718 = .ok (.goto 4, 3) := by decide +kernel
theorem dL_refuses_721 : decode cL_refuses 721 = .ok (.iconst 0, 1) := by decide +kernel
theorem dL_refuses_722 : decode cL_refuses 722 = .ok (.istore 11, 2) := by decide +kernel
theorem dL_refuses_724 : decode cL_refuses 724 = .ok (.iload 11, 2) := by decide +kernel
theorem dL_refuses_726 : decode cL_refuses 726 = .ok (.ifCond .eq 44, 3) := by decide +kernel
theorem dL_refuses_729 : decode cL_refuses 729 = .ok (.aload_n 0, 1) := by decide +kernel
theorem dL_refuses_730 : decode cL_refuses 730 = .ok (.iload 10, 2) := by decide +kernel
theorem dL_refuses_732 : decode cL_refuses 732 = .ok (.iload 9, 2) := by decide +kernel
theorem dL_refuses_734 : decode cL_refuses 734 = .ok (.iload 9, 2) := by decide +kernel
theorem dL_refuses_736 : decode cL_refuses 736 = .ok (.iconst 0, 1) := by decide +kernel
theorem dL_refuses_737 : decode cL_refuses 737 = .ok (.iconst 0, 1) := by decide +kernel
theorem dL_refuses_738 : decode cL_refuses 738 = .ok (.invokestatic 75, 3) := by decide +kernel
theorem dL_refuses_741 : decode cL_refuses 741 = .ok (.ldc 18, 2) := by decide +kernel
theorem dL_refuses_743 : decode cL_refuses 743 = .ok (.if_icmp .ne 23, 3) := by decide +kernel
theorem dL_refuses_746 : decode cL_refuses 746 = .ok (.aload_n 0, 1) := by decide +kernel
theorem dL_refuses_747 : decode cL_refuses 747 = .ok (.iload 10, 2) := by decide +kernel
theorem dL_refuses_749 : decode cL_refuses 749 = .ok (.iconst (-1), 1) := by decide +kernel
theorem dL_refuses_750 : decode cL_refuses 750 = .ok (.iload 9, 2) := by decide +kernel
theorem dL_refuses_752 : decode cL_refuses 752 = .ok (.iconst 0, 1) := by decide +kernel
theorem dL_refuses_753 : decode cL_refuses 753 = .ok (.iconst 0, 1) := by decide +kernel
theorem dL_refuses_754 : decode cL_refuses 754 = .ok (.invokestatic 75, 3) := by decide +kernel
theorem dL_refuses_757 : decode cL_refuses 757 = .ok (.ldc 18, 2) := by decide +kernel
theorem dL_refuses_759 : decode cL_refuses 759 = .ok (.if_icmp .ne 7, 3) := by decide +kernel
theorem dL_refuses_762 : decode cL_refuses 762 = .ok (.iconst 1, 1) := by decide +kernel
theorem dL_refuses_763 : decode cL_refuses 763 = .ok (.goto 44, 3) := by decide +kernel
theorem dL_refuses_766 : decode cL_refuses 766 = .ok (.iconst 0, 1) := by decide +kernel
theorem dL_refuses_767 : decode cL_refuses 767 = .ok (.goto 40, 3) := by decide +kernel
theorem dL_refuses_770 : decode cL_refuses 770 = .ok (.aload_n 0, 1) := by decide +kernel
theorem dL_refuses_771 : decode cL_refuses 771 = .ok (.iload 10, 2) := by decide +kernel
theorem dL_refuses_773 : decode cL_refuses 773 = .ok (.iload 9, 2) := by decide +kernel
theorem dL_refuses_775 : decode cL_refuses 775 = .ok (.iconst (-1), 1) := by decide +kernel
theorem dL_refuses_776 : decode cL_refuses 776 = .ok (.iconst 0, 1) := by decide +kernel
theorem dL_refuses_777 : decode cL_refuses 777 = .ok (.iconst 0, 1) := by decide +kernel
theorem dL_refuses_778 : decode cL_refuses 778 = .ok (.invokestatic 75, 3) := by decide +kernel
theorem dL_refuses_781 : decode cL_refuses 781 = .ok (.ldc 15, 2) := by decide +kernel
theorem dL_refuses_783 : decode cL_refuses 783 = .ok (.if_icmp .ne 23, 3) := by decide +kernel
theorem dL_refuses_786 : decode cL_refuses 786 = .ok (.aload_n 0, 1) := by decide +kernel
theorem dL_refuses_787 : decode cL_refuses 787 = .ok (.iload 10, 2) := by decide +kernel
theorem dL_refuses_789 : decode cL_refuses 789 = .ok (.iload_n 2, 1) := by decide +kernel
theorem dL_refuses_790 : decode cL_refuses 790 = .ok (.iconst 4, 1) := by decide +kernel
theorem dL_refuses_791 : decode cL_refuses 791 = .ok (.irem, 1) := by decide +kernel
theorem dL_refuses_792 : decode cL_refuses 792 = .ok (.iload 9, 2) := by decide +kernel
theorem dL_refuses_794 : decode cL_refuses 794 = .ok (.invokestatic 81, 3) := by decide +kernel
theorem dL_refuses_797 : decode cL_refuses 797 = .ok (.ldc 15, 2) := by decide +kernel
theorem dL_refuses_799 : decode cL_refuses 799 = .ok (.if_icmp .ne 7, 3) := by decide +kernel
theorem dL_refuses_802 : decode cL_refuses 802 = .ok (.iconst 1, 1) := by decide +kernel
theorem dL_refuses_803 : decode cL_refuses 803 = .ok (.goto 4, 3) := by decide +kernel
theorem dL_refuses_806 : decode cL_refuses 806 = .ok (.iconst 0, 1) := by decide +kernel
theorem dL_refuses_807 : decode cL_refuses 807 = .ok (.istore 8, 2) := by decide +kernel
theorem dL_refuses_809 : decode cL_refuses 809 = .ok (.iinc 10 1, 3) := by decide +kernel
theorem dL_refuses_812 : decode cL_refuses 812 = .ok (.goto (-118), 3) := by decide +kernel
theorem dL_refuses_815 : decode cL_refuses 815 = .ok (.iload 8, 2) := by decide +kernel
theorem dL_refuses_817 : decode cL_refuses 817 = .ok (.ireturn, 1) := by decide +kernel
set_option maxRecDepth 20000 in
theorem ggL_pick_X2_commits : GoodIn wsL_pick wsX2_commits := goodIn_r _ [5, 6, 7, 8, 9, 10, 11, 12, 45, 46, 47, 48, 49, 50, 51, 52, 53, 54, 55, 56, 57, 58, 59] (by decide +kernel) (by decide +kernel)
set_option maxRecDepth 20000 in
theorem gL_pick_X2_commits : GoodIn wsL_pick (wsV RL 71 RX2 yX2_commits wsX2_commits) := goodIn_app (goodIn_of _ (by decide +kernel)) ggL_pick_X2_commits
set_option maxRecDepth 20000 in
theorem ggL_pick_L_has : GoodIn wsL_pick wsL_has := goodIn_ca (goodIn_r _ [16, 17, 18, 19, 20, 21, 4, 22, 23, 24, 25, 26, 27, 28, 29, 30, 31, 32, 33, 34, 6, 35, 36, 37, 10, 38, 12, 39, 40, 41, 42, 43, 44, 60, 61, 62, 45, 46, 47, 48, 49, 50, 51, 52, 53, 54, 55, 56, 57, 58, 59] (by decide +kernel) (by decide +kernel)) (goodIn_sub (fun _ h => List.mem_cons_of_mem _ (List.mem_append_right _ h)) (by decide +kernel))
set_option maxRecDepth 20000 in
theorem gL_pick_L_has : GoodIn wsL_pick (va_wsS RL 112 yL_has wsL_has) := goodIn_app (goodIn_of _ (by decide +kernel)) ggL_pick_L_has
theorem dL_pick_0 : decode cL_pick 0 = .ok (.iload_n 2, 1) := by decide +kernel
theorem dL_pick_1 : decode cL_pick 1 = .ok (.istore_n 3, 1) := by decide +kernel
theorem dL_pick_2 : decode cL_pick 2 = .ok (.aload_n 0, 1) := by decide +kernel
theorem dL_pick_3 : decode cL_pick 3 = .ok (.invokevirtual 71, 3) := by decide +kernel
theorem dL_pick_6 : decode cL_pick 6 = .ok (.iconst 1, 1) := by decide +kernel
theorem dL_pick_7 : decode cL_pick 7 = .ok (.isub, 1) := by decide +kernel
theorem dL_pick_8 : decode cL_pick 8 = .ok (.istore 4, 2) := by decide +kernel
theorem dL_pick_10 : decode cL_pick 10 = .ok (.iload 4, 2) := by decide +kernel
theorem dL_pick_12 : decode cL_pick 12 = .ok (.ifCond .lt 30, 3) := by decide +kernel
theorem dL_pick_15 : decode cL_pick 15 = .ok (.aload_n 0, 1) := by decide +kernel
theorem dL_pick_16 : decode cL_pick 16 = .ok (.iload_n 1, 1) := by decide +kernel
theorem dL_pick_17 : decode cL_pick 17 = .ok (.iload 4, 2) := by decide +kernel
theorem dL_pick_19 : decode cL_pick 19 = .ok (.invokestatic 112, 3) := by decide +kernel
theorem dL_pick_22 : decode cL_pick 22 = .ok (.iconst 1, 1) := by decide +kernel
theorem dL_pick_23 : decode cL_pick 23 = .ok (.if_icmp .ne 13, 3) := by decide +kernel
theorem dL_pick_26 : decode cL_pick 26 = .ok (.iload_n 3, 1) := by decide +kernel
theorem dL_pick_27 : decode cL_pick 27 = .ok (.ifCond .ne 6, 3) := by decide +kernel
theorem dL_pick_30 : decode cL_pick 30 = .ok (.iload 4, 2) := by decide +kernel
theorem dL_pick_32 : decode cL_pick 32 = .ok (.ireturn, 1) := by decide +kernel
theorem dL_pick_33 : decode cL_pick 33 = .ok (.iinc 3 (-1), 3) := by decide +kernel
theorem dL_pick_36 : decode cL_pick 36 = .ok (.iinc 4 (-1), 3) := by decide +kernel
theorem dL_pick_39 : decode cL_pick 39 = .ok (.goto (-29), 3) := by decide +kernel
theorem dL_pick_42 : decode cL_pick 42 = .ok (.iconst (-1), 1) := by decide +kernel
theorem dL_pick_43 : decode cL_pick 43 = .ok (.ireturn, 1) := by decide +kernel
set_option maxRecDepth 20000 in
theorem ggL_act_L_pick : GoodIn wsL_act wsL_pick := goodIn_ca (goodIn_r _ [4, 5, 6, 7, 8, 9, 10, 11, 12, 13, 14, 15, 16, 17, 18, 3, 19, 20, 21, 22, 23, 24, 25, 26, 27, 28, 29, 30, 31, 32, 33, 34, 35, 36, 37, 38, 39, 40, 41, 42, 43, 44, 45, 46, 47, 279, 280, 281, 282, 283, 284, 285, 286, 287, 288, 289, 290, 291, 292, 293, 294, 295, 296] (by decide +kernel) (by decide +kernel)) (goodIn_sub (fun _ h => List.mem_cons_of_mem _ (List.mem_append_left _ (List.mem_append_left _ (List.mem_append_right _ h)))) (by decide +kernel))
set_option maxRecDepth 20000 in
theorem gL_act_L_pick : GoodIn wsL_act (va_wsS RL 122 yL_pick wsL_pick) := goodIn_app (goodIn_of _ (by decide +kernel)) ggL_act_L_pick
set_option maxRecDepth 20000 in
theorem ggL_act_L_makes : GoodIn wsL_act wsL_makes := goodIn_ca (goodIn_ca (goodIn_ca (goodIn_r _ [50, 20, 51, 52, 21, 53, 54, 55, 56, 57, 8, 58, 59, 60, 61, 62, 10, 26, 27, 28, 29, 30, 31, 32, 33, 63, 64, 65, 66, 67, 68, 69, 70, 71, 42, 43, 44, 45, 46, 47, 72, 73, 74, 75, 76, 77, 78, 79, 80, 14, 81, 16, 82, 83, 84, 85, 86, 87, 88, 89, 90, 91, 92, 93, 94, 39, 40, 41, 95, 96, 97, 98, 99, 100, 279, 280, 281, 282, 283, 284, 285, 286, 287, 294, 295, 296, 288, 289, 290, 291, 292, 293] (by decide +kernel) (by decide +kernel)) (goodIn_sub (fun _ h => List.mem_cons_of_mem _ (List.mem_append_left _ (List.mem_append_right _ h))) (by decide +kernel))) (goodIn_sub (fun _ h => List.mem_cons_of_mem _ (List.mem_append_right _ h)) (by decide +kernel))) (goodIn_sub (fun _ h => List.mem_cons_of_mem _ (List.mem_append_left _ (List.mem_append_left _ (List.mem_append_right _ h)))) (by decide +kernel))
set_option maxRecDepth 20000 in
theorem gL_act_L_makes : GoodIn wsL_act (va_wsS RL 75 yL_makes wsL_makes) := goodIn_app (goodIn_of _ (by decide +kernel)) ggL_act_L_makes
set_option maxRecDepth 20000 in
theorem ggL_act_L_sets : GoodIn wsL_act wsL_sets := goodIn_ca (goodIn_r _ [103, 20, 21, 104, 105, 106, 8, 107, 26, 27, 28, 29, 30, 31, 32, 33, 108, 109, 110, 111, 112, 113, 69, 70, 71, 42, 43, 44, 45, 46, 47, 114, 115, 116, 98, 117, 118, 119, 120, 121, 122, 279, 280, 281, 282, 283, 284, 285, 286, 287, 294, 295, 296] (by decide +kernel) (by decide +kernel)) (goodIn_sub (fun _ h => List.mem_cons_of_mem _ (List.mem_append_left _ (List.mem_append_left _ (List.mem_append_right _ h)))) (by decide +kernel))
set_option maxRecDepth 20000 in
theorem gL_act_L_sets : GoodIn wsL_act (va_wsS RL 81 yL_sets wsL_sets) := goodIn_app (goodIn_of _ (by decide +kernel)) ggL_act_L_sets
set_option maxRecDepth 20000 in
theorem ggL_act_L_fetches : GoodIn wsL_act wsL_fetches := goodIn_ca (goodIn_ca (goodIn_ca (goodIn_r _ [125, 20, 51, 52, 21, 53, 54, 126, 127, 128, 8, 129, 10, 130, 33, 32, 131, 132, 133, 134, 59, 60, 61, 62, 108, 109, 110, 30, 31, 111, 112, 113, 114, 115, 116, 98, 117, 118, 135, 136, 137, 138, 139, 140, 141, 142, 42, 43, 44, 45, 46, 47, 143, 144, 145, 14, 146, 16, 147, 148, 149, 150, 151, 152, 153, 154, 155, 86, 87, 94, 39, 40, 41, 156, 157, 158, 159, 160, 161, 162, 163, 164, 165, 166, 167, 168, 169, 170, 171, 172, 173, 174, 175, 176, 177, 90, 91, 92, 93, 88, 67, 68, 76, 77, 178, 179, 180, 181, 100, 182, 183, 184, 185, 119, 120, 121, 122, 186, 187, 188, 189, 190, 191, 192, 279, 280, 281, 282, 283, 284, 285, 286, 287, 294, 295, 296, 288, 289, 290, 291, 292, 293] (by decide +kernel) (by decide +kernel)) (goodIn_sub (fun _ h => List.mem_cons_of_mem _ (List.mem_append_left _ (List.mem_append_right _ h))) (by decide +kernel))) (goodIn_sub (fun _ h => List.mem_cons_of_mem _ (List.mem_append_right _ h)) (by decide +kernel))) (goodIn_sub (fun _ h => List.mem_cons_of_mem _ (List.mem_append_left _ (List.mem_append_left _ (List.mem_append_right _ h)))) (by decide +kernel))
set_option maxRecDepth 20000 in
theorem gL_act_L_fetches : GoodIn wsL_act (va_wsS RL 91 yL_fetches wsL_fetches) := goodIn_app (goodIn_of _ (by decide +kernel)) ggL_act_L_fetches
set_option maxRecDepth 20000 in
theorem ggL_act_L_loads : GoodIn wsL_act wsL_loads := goodIn_ca (goodIn_ca (goodIn_r _ [195, 51, 52, 53, 54, 196, 197, 198, 8, 199, 61, 62, 32, 33, 72, 73, 74, 59, 60, 75, 76, 77, 200, 183, 184, 98, 185, 100, 95, 96, 97, 99, 279, 280, 281, 282, 283, 284, 285, 286, 287, 294, 295, 296] (by decide +kernel) (by decide +kernel)) (goodIn_sub (fun _ h => List.mem_cons_of_mem _ (List.mem_append_right _ h)) (by decide +kernel))) (goodIn_sub (fun _ h => List.mem_cons_of_mem _ (List.mem_append_left _ (List.mem_append_right _ h))) (by decide +kernel))
set_option maxRecDepth 20000 in
theorem gL_act_L_loads : GoodIn wsL_act (va_wsS RL 98 yL_loads wsL_loads) := goodIn_app (goodIn_of _ (by decide +kernel)) ggL_act_L_loads
set_option maxRecDepth 20000 in
theorem ggL_act_L_protects : GoodIn wsL_act wsL_protects := goodIn_ca (goodIn_r _ [203, 20, 21, 204, 205, 206, 8, 207, 208, 108, 109, 110, 30, 31, 111, 112, 113, 279, 280, 281, 282, 283, 284, 285, 286, 287] (by decide +kernel) (by decide +kernel)) (goodIn_sub (fun _ h => List.mem_cons_of_mem _ (List.mem_append_left _ (List.mem_append_left _ (List.mem_append_right _ h)))) (by decide +kernel))
set_option maxRecDepth 20000 in
theorem gL_act_L_protects : GoodIn wsL_act (va_wsS RL 102 yL_protects wsL_protects) := goodIn_app (goodIn_of _ (by decide +kernel)) ggL_act_L_protects
set_option maxRecDepth 20000 in
theorem ggL_act_L_ref : GoodIn wsL_act wsL_ref := goodIn_ca (goodIn_r _ [211, 20, 21, 212, 213, 214, 8, 215, 26, 27, 28, 29, 30, 31, 32, 33, 108, 109, 110, 111, 112, 113, 114, 115, 116, 98, 117, 118, 279, 280, 281, 282, 283, 284, 285, 286, 287, 294, 295, 296] (by decide +kernel) (by decide +kernel)) (goodIn_sub (fun _ h => List.mem_cons_of_mem _ (List.mem_append_left _ (List.mem_append_left _ (List.mem_append_right _ h)))) (by decide +kernel))
set_option maxRecDepth 20000 in
theorem gL_act_L_ref : GoodIn wsL_act (va_wsS RL 85 yL_ref wsL_ref) := goodIn_app (goodIn_of _ (by decide +kernel)) ggL_act_L_ref
set_option maxRecDepth 20000 in
theorem ggL_act_L_moves : GoodIn wsL_act wsL_moves := goodIn_ca (goodIn_ca (goodIn_r _ [218, 20, 52, 21, 54, 219, 220, 221, 8, 222, 61, 62, 223, 224, 225, 226, 108, 109, 110, 30, 31, 111, 112, 113, 227, 228, 229, 230, 34, 35, 36, 37, 10, 38, 39, 40, 14, 41, 16, 279, 280, 281, 282, 283, 284, 285, 286, 287, 288, 289, 290, 291, 292, 293] (by decide +kernel) (by decide +kernel)) (goodIn_sub (fun _ h => List.mem_cons_of_mem _ (List.mem_append_right _ h)) (by decide +kernel))) (goodIn_sub (fun _ h => List.mem_cons_of_mem _ (List.mem_append_left _ (List.mem_append_left _ (List.mem_append_right _ h)))) (by decide +kernel))
set_option maxRecDepth 20000 in
theorem gL_act_L_moves : GoodIn wsL_act (va_wsS RL 106 yL_moves wsL_moves) := goodIn_app (goodIn_of _ (by decide +kernel)) ggL_act_L_moves
set_option maxRecDepth 20000 in
theorem ggL_act_X2_push : GoodIn wsL_act wsX2_push := goodIn_r _ [234, 223, 235, 236, 237, 8, 238, 224, 225, 226, 239, 240, 241, 242, 32, 10, 33, 114, 115, 116, 98, 117, 118, 112, 113, 45, 46, 47, 143, 144, 145, 14, 146, 16, 147, 148, 149, 150, 151, 43, 44, 152, 153, 154, 155, 86, 87, 94, 39, 40, 41, 243, 244, 245, 246, 208, 111, 42, 247, 248, 249, 250, 130, 251, 252, 253, 254, 255, 119, 120, 121, 122, 186, 187, 188, 189, 190, 191, 192, 169, 170, 171, 172, 173, 174, 175, 176, 177, 90, 91, 92, 93, 88, 67, 68, 76, 77, 178, 179, 180, 181, 100, 182, 183, 184, 185, 279, 280, 281, 282, 283, 284, 285, 286, 287, 294, 295, 296, 288, 289, 290, 291, 292, 293] (by decide +kernel) (by decide +kernel)
set_option maxRecDepth 20000 in
theorem gL_act_X2_push : GoodIn wsL_act (wsV RL 125 RX2 yX2_push wsX2_push) := goodIn_app (goodIn_of _ (by decide +kernel)) ggL_act_X2_push
set_option maxRecDepth 20000 in
theorem ggL_act_X2_missing : GoodIn wsL_act wsX2_missing := goodIn_r _ [259, 33, 10, 169, 170, 171, 14, 172, 173, 16, 43, 8, 44, 45, 46, 47, 174, 175, 176, 177, 90, 91, 92, 93, 88, 94, 39, 40, 41, 67, 68, 76, 77, 260, 261, 262, 98, 263, 100, 279, 280, 281, 282, 283, 284, 285, 286, 287, 294, 295, 296, 288, 289, 290, 291, 292, 293] (by decide +kernel) (by decide +kernel)
set_option maxRecDepth 20000 in
theorem gL_act_X2_missing : GoodIn wsL_act (wsV RL 128 RX2 yX2_missing wsX2_missing) := goodIn_app (goodIn_of _ (by decide +kernel)) ggL_act_X2_missing
set_option maxRecDepth 20000 in
theorem ggL_act_L_collects : GoodIn wsL_act wsL_collects := goodIn_ca (goodIn_r _ [266, 20, 21, 267, 268, 269, 8, 270, 10, 130, 26, 27, 28, 29, 30, 31, 32, 33, 271, 272, 273, 98, 274, 118, 46, 47, 143, 144, 145, 14, 146, 16, 147, 148, 149, 150, 151, 43, 44, 45, 152, 153, 154, 155, 86, 87, 94, 39, 40, 41, 186, 187, 188, 189, 190, 191, 192, 169, 170, 171, 172, 173, 174, 175, 176, 177, 90, 91, 92, 93, 88, 67, 68, 76, 77, 275, 276, 277, 278, 100, 279, 280, 281, 282, 283, 284, 285, 286, 287, 294, 295, 296, 288, 289, 290, 291, 292, 293] (by decide +kernel) (by decide +kernel)) (goodIn_sub (fun _ h => List.mem_cons_of_mem _ (List.mem_append_left _ (List.mem_append_left _ (List.mem_append_right _ h)))) (by decide +kernel))
set_option maxRecDepth 20000 in
theorem gL_act_L_collects : GoodIn wsL_act (va_wsS RL 109 yL_collects wsL_collects) := goodIn_app (goodIn_of _ (by decide +kernel)) ggL_act_L_collects
theorem dL_act_0 : decode cL_act 0 = .ok (.iload_n 1, 1) := by decide +kernel
theorem dL_act_1 : decode cL_act 1 = .ok (.bipush 32, 2) := by decide +kernel
theorem dL_act_3 : decode cL_act 3 = .ok (.idiv, 1) := by decide +kernel
theorem dL_act_4 : decode cL_act 4 = .ok (.istore_n 2, 1) := by decide +kernel
theorem dL_act_5 : decode cL_act 5 = .ok (.iload_n 2, 1) := by decide +kernel
theorem dL_act_6 : decode cL_act 6 = .ok (.iconst 2, 1) := by decide +kernel
theorem dL_act_7 : decode cL_act 7 = .ok (.irem, 1) := by decide +kernel
theorem dL_act_8 : decode cL_act 8 = .ok (.istore_n 3, 1) := by decide +kernel
theorem dL_act_9 : decode cL_act 9 = .ok (.iload_n 2, 1) := by decide +kernel
theorem dL_act_10 : decode cL_act 10 = .ok (.iconst 2, 1) := by decide +kernel
theorem dL_act_11 : decode cL_act 11 = .ok (.idiv, 1) := by decide +kernel
