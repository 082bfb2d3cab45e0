theorem dL_law_527 : decode mL_law.2.1 527 = .ok (.aload_n 0, 1) := by decide +kernel
theorem dL_law_528 : decode mL_law.2.1 528 = .ok (.iload_n 3, 1) := by decide +kernel
theorem dL_law_529 : decode mL_law.2.1 529 = .ok (.iconst 3, 1) := by decide +kernel
theorem dL_law_530 : decode mL_law.2.1 530 = .ok (.iadd, 1) := by decide +kernel
theorem dL_law_531 : decode mL_law.2.1 531 = .ok (.iaload, 1) := by decide +kernel
theorem dL_law_532 : decode mL_law.2.1 532 = .ok (.invokevirtual 64, 3) := by decide +kernel
theorem dL_law_535 : decode mL_law.2.1 535 = .ok (.if_icmp .eq 401, 3) := by decide +kernel
theorem dL_law_538 : decode mL_law.2.1 538 = .ok (.iconst 0, 1) := by decide +kernel
theorem dL_law_539 : decode mL_law.2.1 539 = .ok (.ireturn, 1) := by decide +kernel
theorem dL_law_540 : decode mL_law.2.1 540 = .ok (.aload_n 1, 1) := by decide +kernel
theorem dL_law_541 : decode mL_law.2.1 541 = .ok (.aload_n 0, 1) := by decide +kernel
theorem dL_law_542 : decode mL_law.2.1 542 = .ok (.iload_n 3, 1) := by decide +kernel
theorem dL_law_543 : decode mL_law.2.1 543 = .ok (.iconst 1, 1) := by decide +kernel
theorem dL_law_544 : decode mL_law.2.1 544 = .ok (.iadd, 1) := by decide +kernel
theorem dL_law_545 : decode mL_law.2.1 545 = .ok (.iaload, 1) := by decide +kernel
theorem dL_law_546 : decode mL_law.2.1 546 = .ok (.aload_n 0, 1) := by decide +kernel
theorem dL_law_547 : decode mL_law.2.1 547 = .ok (.iload_n 3, 1) := by decide +kernel
theorem dL_law_548 : decode mL_law.2.1 548 = .ok (.iconst 2, 1) := by decide +kernel
theorem dL_law_549 : decode mL_law.2.1 549 = .ok (.iadd, 1) := by decide +kernel
theorem dL_law_550 : decode mL_law.2.1 550 = .ok (.iaload, 1) := by decide +kernel
theorem dL_law_551 : decode mL_law.2.1 551 = .ok (.invokevirtual 65, 3) := by decide +kernel
theorem dL_law_554 : decode mL_law.2.1 554 = .ok (.aload_n 2, 1) := by decide +kernel
theorem dL_law_555 : decode mL_law.2.1 555 = .ok (.aload_n 0, 1) := by decide +kernel
theorem dL_law_556 : decode mL_law.2.1 556 = .ok (.iload_n 3, 1) := by decide +kernel
theorem dL_law_557 : decode mL_law.2.1 557 = .ok (.iconst 1, 1) := by decide +kernel
theorem dL_law_558 : decode mL_law.2.1 558 = .ok (.iadd, 1) := by decide +kernel
theorem dL_law_559 : decode mL_law.2.1 559 = .ok (.iaload, 1) := by decide +kernel
theorem dL_law_560 : decode mL_law.2.1 560 = .ok (.aload_n 0, 1) := by decide +kernel
theorem dL_law_561 : decode mL_law.2.1 561 = .ok (.iload_n 3, 1) := by decide +kernel
theorem dL_law_562 : decode mL_law.2.1 562 = .ok (.iconst 2, 1) := by decide +kernel
theorem dL_law_563 : decode mL_law.2.1 563 = .ok (.iadd, 1) := by decide +kernel
theorem dL_law_564 : decode mL_law.2.1 564 = .ok (.iaload, 1) := by decide +kernel
theorem dL_law_565 : decode mL_law.2.1 565 = .ok (.invokevirtual 68, 3) := by decide +kernel
theorem dL_law_568 : decode mL_law.2.1 568 = .ok (.if_icmp .eq 368, 3) := by decide +kernel
theorem dL_law_571 : decode mL_law.2.1 571 = .ok (.iconst 0, 1) := by decide +kernel
theorem dL_law_572 : decode mL_law.2.1 572 = .ok (.ireturn, 1) := by decide +kernel
theorem dL_law_573 : decode mL_law.2.1 573 = .ok (.aload_n 1, 1) := by decide +kernel
theorem dL_law_574 : decode mL_law.2.1 574 = .ok (.aload_n 0, 1) := by decide +kernel
theorem dL_law_575 : decode mL_law.2.1 575 = .ok (.iload_n 3, 1) := by decide +kernel
theorem dL_law_576 : decode mL_law.2.1 576 = .ok (.iconst 1, 1) := by decide +kernel
theorem dL_law_577 : decode mL_law.2.1 577 = .ok (.iadd, 1) := by decide +kernel
theorem dL_law_578 : decode mL_law.2.1 578 = .ok (.iaload, 1) := by decide +kernel
theorem dL_law_579 : decode mL_law.2.1 579 = .ok (.aload_n 0, 1) := by decide +kernel
theorem dL_law_580 : decode mL_law.2.1 580 = .ok (.iload_n 3, 1) := by decide +kernel
theorem dL_law_581 : decode mL_law.2.1 581 = .ok (.iconst 2, 1) := by decide +kernel
theorem dL_law_582 : decode mL_law.2.1 582 = .ok (.iadd, 1) := by decide +kernel
theorem dL_law_583 : decode mL_law.2.1 583 = .ok (.iaload, 1) := by decide +kernel
theorem dL_law_584 : decode mL_law.2.1 584 = .ok (.aload_n 0, 1) := by decide +kernel
theorem dL_law_585 : decode mL_law.2.1 585 = .ok (.iload_n 3, 1) := by decide +kernel
theorem dL_law_586 : decode mL_law.2.1 586 = .ok (.iconst 3, 1) := by decide +kernel
theorem dL_law_587 : decode mL_law.2.1 587 = .ok (.iadd, 1) := by decide +kernel
theorem dL_law_588 : decode mL_law.2.1 588 = .ok (.iaload, 1) := by decide +kernel
theorem dL_law_589 : decode mL_law.2.1 589 = .ok (.invokevirtual 69, 3) := by decide +kernel
theorem dL_law_592 : decode mL_law.2.1 592 = .ok (.aload_n 2, 1) := by decide +kernel
theorem dL_law_593 : decode mL_law.2.1 593 = .ok (.aload_n 0, 1) := by decide +kernel
theorem dL_law_594 : decode mL_law.2.1 594 = .ok (.iload_n 3, 1) := by decide +kernel
theorem dL_law_595 : decode mL_law.2.1 595 = .ok (.iconst 1, 1) := by decide +kernel
theorem dL_law_596 : decode mL_law.2.1 596 = .ok (.iadd, 1) := by decide +kernel
theorem dL_law_597 : decode mL_law.2.1 597 = .ok (.iaload, 1) := by decide +kernel
theorem dL_law_598 : decode mL_law.2.1 598 = .ok (.aload_n 0, 1) := by decide +kernel
theorem dL_law_599 : decode mL_law.2.1 599 = .ok (.iload_n 3, 1) := by decide +kernel
theorem dL_law_600 : decode mL_law.2.1 600 = .ok (.iconst 2, 1) := by decide +kernel
theorem dL_law_601 : decode mL_law.2.1 601 = .ok (.iadd, 1) := by decide +kernel
theorem dL_law_602 : decode mL_law.2.1 602 = .ok (.iaload, 1) := by decide +kernel
theorem dL_law_603 : decode mL_law.2.1 603 = .ok (.aload_n 0, 1) := by decide +kernel
theorem dL_law_604 : decode mL_law.2.1 604 = .ok (.iload_n 3, 1) := by decide +kernel
theorem dL_law_605 : decode mL_law.2.1 605 = .ok (.iconst 3, 1) := by decide +kernel
theorem dL_law_606 : decode mL_law.2.1 606 = .ok (.iadd, 1) := by decide +kernel
theorem dL_law_607 : decode mL_law.2.1 607 = .ok (.iaload, 1) := by decide +kernel
theorem dL_law_608 : decode mL_law.2.1 608 = .ok (.invokevirtual 72, 3) := by decide +kernel
theorem dL_law_611 : decode mL_law.2.1 611 = .ok (.if_icmp .eq 325, 3) := by decide +kernel
theorem dL_law_614 : decode mL_law.2.1 614 = .ok (.iconst 0, 1) := by decide +kernel
theorem dL_law_615 : decode mL_law.2.1 615 = .ok (.ireturn, 1) := by decide +kernel
theorem dL_law_616 : decode mL_law.2.1 616 = .ok (.aload_n 1, 1) := by decide +kernel
theorem dL_law_617 : decode mL_law.2.1 617 = .ok (.aload_n 0, 1) := by decide +kernel
theorem dL_law_618 : decode mL_law.2.1 618 = .ok (.iload_n 3, 1) := by decide +kernel
theorem dL_law_619 : decode mL_law.2.1 619 = .ok (.iconst 1, 1) := by decide +kernel
theorem dL_law_620 : decode mL_law.2.1 620 = .ok (.iadd, 1) := by decide +kernel
theorem dL_law_621 : decode mL_law.2.1 621 = .ok (.iaload, 1) := by decide +kernel
theorem dL_law_622 : decode mL_law.2.1 622 = .ok (.invokevirtual 73, 3) := by decide +kernel
theorem dL_law_625 : decode mL_law.2.1 625 = .ok (.aload_n 2, 1) := by decide +kernel
theorem dL_law_626 : decode mL_law.2.1 626 = .ok (.aload_n 0, 1) := by decide +kernel
theorem dL_law_627 : decode mL_law.2.1 627 = .ok (.iload_n 3, 1) := by decide +kernel
theorem dL_law_628 : decode mL_law.2.1 628 = .ok (.iconst 1, 1) := by decide +kernel
theorem dL_law_629 : decode mL_law.2.1 629 = .ok (.iadd, 1) := by decide +kernel
theorem dL_law_630 : decode mL_law.2.1 630 = .ok (.iaload, 1) := by decide +kernel
theorem dL_law_631 : decode mL_law.2.1 631 = .ok (.invokevirtual 76, 3) := by decide +kernel
theorem dL_law_634 : decode mL_law.2.1 634 = .ok (.if_icmp .eq 302, 3) := by decide +kernel
theorem dL_law_637 : decode mL_law.2.1 637 = .ok (.iconst 0, 1) := by decide +kernel
theorem dL_law_638 : decode mL_law.2.1 638 = .ok (.ireturn, 1) := by decide +kernel
theorem dL_law_639 : decode mL_law.2.1 639 = .ok (.aload_n 1, 1) := by decide +kernel
theorem dL_law_640 : decode mL_law.2.1 640 = .ok (.aload_n 0, 1) := by decide +kernel
theorem dL_law_641 : decode mL_law.2.1 641 = .ok (.iload_n 3, 1) := by decide +kernel
theorem dL_law_642 : decode mL_law.2.1 642 = .ok (.iconst 1, 1) := by decide +kernel
theorem dL_law_643 : decode mL_law.2.1 643 = .ok (.iadd, 1) := by decide +kernel
theorem dL_law_644 : decode mL_law.2.1 644 = .ok (.iaload, 1) := by decide +kernel
theorem dL_law_645 : decode mL_law.2.1 645 = .ok (.aload_n 0, 1) := by decide +kernel
theorem dL_law_646 : decode mL_law.2.1 646 = .ok (.iload_n 3, 1) := by decide +kernel
theorem dL_law_647 : decode mL_law.2.1 647 = .ok (.iconst 2, 1) := by decide +kernel
theorem dL_law_648 : decode mL_law.2.1 648 = .ok (.iadd, 1) := by decide +kernel
theorem dL_law_649 : decode mL_law.2.1 649 = .ok (.iaload, 1) := by decide +kernel
theorem dL_law_650 : decode mL_law.2.1 650 = .ok (.invokevirtual 77, 3) := by decide +kernel
theorem dL_law_653 : decode mL_law.2.1 653 = .ok (.aload_n 2, 1) := by decide +kernel
theorem dL_law_654 : decode mL_law.2.1 654 = .ok (.aload_n 0, 1) := by decide +kernel
theorem dL_law_655 : decode mL_law.2.1 655 = .ok (.iload_n 3, 1) := by decide +kernel
theorem dL_law_656 : decode mL_law.2.1 656 = .ok (.iconst 1, 1) := by decide +kernel
theorem dL_law_657 : decode mL_law.2.1 657 = .ok (.iadd, 1) := by decide +kernel
theorem dL_law_658 : decode mL_law.2.1 658 = .ok (.iaload, 1) := by decide +kernel
theorem dL_law_659 : decode mL_law.2.1 659 = .ok (.aload_n 0, 1) := by decide +kernel
theorem dL_law_660 : decode mL_law.2.1 660 = .ok (.iload_n 3, 1) := by decide +kernel
theorem dL_law_661 : decode mL_law.2.1 661 = .ok (.iconst 2, 1) := by decide +kernel
theorem dL_law_662 : decode mL_law.2.1 662 = .ok (.iadd, 1) := by decide +kernel
theorem dL_law_663 : decode mL_law.2.1 663 = .ok (.iaload, 1) := by decide +kernel
theorem dL_law_664 : decode mL_law.2.1 664 = .ok (.invokevirtual 80, 3) := by decide +kernel
theorem dL_law_667 : decode mL_law.2.1 667 = .ok (.if_icmp .eq 269, 3) := by decide +kernel
theorem dL_law_670 : decode mL_law.2.1 670 = .ok (.iconst 0, 1) := by decide +kernel
theorem dL_law_671 : decode mL_law.2.1 671 = .ok (.ireturn, 1) := by decide +kernel
theorem dL_law_672 : decode mL_law.2.1 672 = .ok (.aload_n 1, 1) := by decide +kernel
theorem dL_law_673 : decode mL_law.2.1 673 = .ok (.aload_n 0, 1) := by decide +kernel
theorem dL_law_674 : decode mL_law.2.1 674 = .ok (.iload_n 3, 1) := by decide +kernel
theorem dL_law_675 : decode mL_law.2.1 675 = .ok (.iconst 1, 1) := by decide +kernel
theorem dL_law_676 : decode mL_law.2.1 676 = .ok (.iadd, 1) := by decide +kernel
theorem dL_law_677 : decode mL_law.2.1 677 = .ok (.iaload, 1) := by decide +kernel
theorem dL_law_678 : decode mL_law.2.1 678 = .ok (.invokevirtual 81, 3) := by decide +kernel
theorem dL_law_681 : decode mL_law.2.1 681 = .ok (.aload_n 2, 1) := by decide +kernel
theorem dL_law_682 : decode mL_law.2.1 682 = .ok (.aload_n 0, 1) := by decide +kernel
theorem dL_law_683 : decode mL_law.2.1 683 = .ok (.iload_n 3, 1) := by decide +kernel
theorem dL_law_684 : decode mL_law.2.1 684 = .ok (.iconst 1, 1) := by decide +kernel
theorem dL_law_685 : decode mL_law.2.1 685 = .ok (.iadd, 1) := by decide +kernel
theorem dL_law_686 : decode mL_law.2.1 686 = .ok (.iaload, 1) := by decide +kernel
theorem dL_law_687 : decode mL_law.2.1 687 = .ok (.invokevirtual 84, 3) := by decide +kernel
theorem dL_law_690 : decode mL_law.2.1 690 = .ok (.if_icmp .eq 246, 3) := by decide +kernel
theorem dL_law_693 : decode mL_law.2.1 693 = .ok (.iconst 0, 1) := by decide +kernel
theorem dL_law_694 : decode mL_law.2.1 694 = .ok (.ireturn, 1) := by decide +kernel
theorem dL_law_695 : decode mL_law.2.1 695 = .ok (.aload_n 1, 1) := by decide +kernel
theorem dL_law_696 : decode mL_law.2.1 696 = .ok (.aload_n 0, 1) := by decide +kernel
theorem dL_law_697 : decode mL_law.2.1 697 = .ok (.iload_n 3, 1) := by decide +kernel
theorem dL_law_698 : decode mL_law.2.1 698 = .ok (.iconst 1, 1) := by decide +kernel
theorem dL_law_699 : decode mL_law.2.1 699 = .ok (.iadd, 1) := by decide +kernel
theorem dL_law_700 : decode mL_law.2.1 700 = .ok (.iaload, 1) := by decide +kernel
theorem dL_law_701 : decode mL_law.2.1 701 = .ok (.aload_n 0, 1) := by decide +kernel
theorem dL_law_702 : decode mL_law.2.1 702 = .ok (.iload_n 3, 1) := by decide +kernel
theorem dL_law_703 : decode mL_law.2.1 703 = .ok (.iconst 2, 1) := by decide +kernel
theorem dL_law_704 : decode mL_law.2.1 704 = .ok (.iadd, 1) := by decide +kernel
theorem dL_law_705 : decode mL_law.2.1 705 = .ok (.iaload, 1) := by decide +kernel
theorem dL_law_706 : decode mL_law.2.1 706 = .ok (.invokevirtual 85, 3) := by decide +kernel
theorem dL_law_709 : decode mL_law.2.1 709 = .ok (.aload_n 2, 1) := by decide +kernel
theorem dL_law_710 : decode mL_law.2.1 710 = .ok (.aload_n 0, 1) := by decide +kernel
theorem dL_law_711 : decode mL_law.2.1 711 = .ok (.iload_n 3, 1) := by decide +kernel
theorem dL_law_712 : decode mL_law.2.1 712 = .ok (.iconst 1, 1) := by decide +kernel
theorem dL_law_713 : decode mL_law.2.1 713 = .ok (.iadd, 1) := by decide +kernel
theorem dL_law_714 : decode mL_law.2.1 714 = .ok (.iaload, 1) := by decide +kernel
theorem dL_law_715 : decode mL_law.2.1 715 = .ok (.aload_n 0, 1) := by decide +kernel
theorem dL_law_716 : decode mL_law.2.1 716 = .ok (.iload_n 3, 1) := by decide +kernel
theorem dL_law_717 : decode mL_law.2.1 717 = .ok (.iconst 2, 1) := by decide +kernel
theorem dL_law_718 : decode mL_law.2.1 718 = .ok (.iadd, 1) := by decide +kernel
theorem dL_law_719 : decode mL_law.2.1 719 = .ok (.iaload, 1) := by decide +kernel
theorem dL_law_720 : decode mL_law.2.1 720 = .ok (.invokevirtual 88, 3) := by decide +kernel
theorem dL_law_723 : decode mL_law.2.1 723 = .ok (.if_icmp .eq 213, 3) := by decide +kernel
theorem dL_law_726 : decode mL_law.2.1 726 = .ok (.iconst 0, 1) := by decide +kernel
theorem dL_law_727 : decode mL_law.2.1 727 = .ok (.ireturn, 1) := by decide +kernel
theorem dL_law_728 : decode mL_law.2.1 728 = .ok (.aload_n 1, 1) := by decide +kernel
theorem dL_law_729 : decode mL_law.2.1 729 = .ok (.aload_n 0, 1) := by decide +kernel
theorem dL_law_730 : decode mL_law.2.1 730 = .ok (.iload_n 3, 1) := by decide +kernel
theorem dL_law_731 : decode mL_law.2.1 731 = .ok (.iconst 1, 1) := by decide +kernel
theorem dL_law_732 : decode mL_law.2.1 732 = .ok (.iadd, 1) := by decide +kernel
theorem dL_law_733 : decode mL_law.2.1 733 = .ok (.iaload, 1) := by decide +kernel
theorem dL_law_734 : decode mL_law.2.1 734 = .ok (.aload_n 0, 1) := by decide +kernel
theorem dL_law_735 : decode mL_law.2.1 735 = .ok (.iload_n 3, 1) := by decide +kernel
theorem dL_law_736 : decode mL_law.2.1 736 = .ok (.iconst 2, 1) := by decide +kernel
theorem dL_law_737 : decode mL_law.2.1 737 = .ok (.iadd, 1) := by decide +kernel
theorem dL_law_738 : decode mL_law.2.1 738 = .ok (.iaload, 1) := by decide +kernel
theorem dL_law_739 : decode mL_law.2.1 739 = .ok (.aload_n 0, 1) := by decide +kernel
theorem dL_law_740 : decode mL_law.2.1 740 = .ok (.iload_n 3, 1) := by decide +kernel
theorem dL_law_741 : decode mL_law.2.1 741 = .ok (.iconst 3, 1) := by decide +kernel
theorem dL_law_742 : decode mL_law.2.1 742 = .ok (.iadd, 1) := by decide +kernel
theorem dL_law_743 : decode mL_law.2.1 743 = .ok (.iaload, 1) := by decide +kernel
theorem dL_law_744 : decode mL_law.2.1 744 = .ok (.invokevirtual 89, 3) := by decide +kernel
theorem dL_law_747 : decode mL_law.2.1 747 = .ok (.aload_n 2, 1) := by decide +kernel
theorem dL_law_748 : decode mL_law.2.1 748 = .ok (.aload_n 0, 1) := by decide +kernel
theorem dL_law_749 : decode mL_law.2.1 749 = .ok (.iload_n 3, 1) := by decide +kernel
theorem dL_law_750 : decode mL_law.2.1 750 = .ok (.iconst 1, 1) := by decide +kernel
theorem dL_law_751 : decode mL_law.2.1 751 = .ok (.iadd, 1) := by decide +kernel
theorem dL_law_752 : decode mL_law.2.1 752 = .ok (.iaload, 1) := by decide +kernel
theorem dL_law_753 : decode mL_law.2.1 753 = .ok (.aload_n 0, 1) := by decide +kernel
theorem dL_law_754 : decode mL_law.2.1 754 = .ok (.iload_n 3, 1) := by decide +kernel
theorem dL_law_755 : decode mL_law.2.1 755 = .ok (.iconst 2, 1) := by decide +kernel
theorem dL_law_756 : decode mL_law.2.1 756 = .ok (.iadd, 1) := by decide +kernel
theorem dL_law_757 : decode mL_law.2.1 757 = .ok (.iaload, 1) := by decide +kernel
theorem dL_law_758 : decode mL_law.2.1 758 = .ok (.aload_n 0, 1) := by decide +kernel
theorem dL_law_759 : decode mL_law.2.1 759 = .ok (.iload_n 3, 1) := by decide +kernel
theorem dL_law_760 : decode mL_law.2.1 760 = .ok (.iconst 3, 1) := by decide +kernel
theorem dL_law_761 : decode mL_law.2.1 761 = .ok (.iadd, 1) := by decide +kernel
theorem dL_law_762 : decode mL_law.2.1 762 = .ok (.iaload, 1) := by decide +kernel
theorem dL_law_763 : decode mL_law.2.1 763 = .ok (.invokevirtual 92, 3) := by decide +kernel
theorem dL_law_766 : decode mL_law.2.1 766 = .ok (.if_icmp .eq 170, 3) := by decide +kernel
theorem dL_law_769 : decode mL_law.2.1 769 = .ok (.iconst 0, 1) := by decide +kernel
theorem dL_law_770 : decode mL_law.2.1 770 = .ok (.ireturn, 1) := by decide +kernel
theorem dL_law_771 : decode mL_law.2.1 771 = .ok (.aload_n 1, 1) := by decide +kernel
theorem dL_law_772 : decode mL_law.2.1 772 = .ok (.aload_n 0, 1) := by decide +kernel
theorem dL_law_773 : decode mL_law.2.1 773 = .ok (.iload_n 3, 1) := by decide +kernel
theorem dL_law_774 : decode mL_law.2.1 774 = .ok (.iconst 1, 1) := by decide +kernel
theorem dL_law_775 : decode mL_law.2.1 775 = .ok (.iadd, 1) := by decide +kernel
theorem dL_law_776 : decode mL_law.2.1 776 = .ok (.iaload, 1) := by decide +kernel
theorem dL_law_777 : decode mL_law.2.1 777 = .ok (.invokevirtual 93, 3) := by decide +kernel
theorem dL_law_780 : decode mL_law.2.1 780 = .ok (.aload_n 2, 1) := by decide +kernel
theorem dL_law_781 : decode mL_law.2.1 781 = .ok (.aload_n 0, 1) := by decide +kernel
theorem dL_law_782 : decode mL_law.2.1 782 = .ok (.iload_n 3, 1) := by decide +kernel
theorem dL_law_783 : decode mL_law.2.1 783 = .ok (.iconst 1, 1) := by decide +kernel
theorem dL_law_784 : decode mL_law.2.1 784 = .ok (.iadd, 1) := by decide +kernel
theorem dL_law_785 : decode mL_law.2.1 785 = .ok (.iaload, 1) := by decide +kernel
theorem dL_law_786 : decode mL_law.2.1 786 = .ok (.invokevirtual 96, 3) := by decide +kernel
theorem dL_law_789 : decode mL_law.2.1 789 = .ok (.if_icmp .eq 147, 3) := by decide +kernel
theorem dL_law_792 : decode mL_law.2.1 792 = .ok (.iconst 0, 1) := by decide +kernel
theorem dL_law_793 : decode mL_law.2.1 793 = .ok (.ireturn, 1) := by decide +kernel
theorem dL_law_794 : decode mL_law.2.1 794 = .ok (.aload_n 1, 1) := by decide +kernel
theorem dL_law_795 : decode mL_law.2.1 795 = .ok (.aload_n 0, 1) := by decide +kernel
theorem dL_law_796 : decode mL_law.2.1 796 = .ok (.iload_n 3, 1) := by decide +kernel
theorem dL_law_797 : decode mL_law.2.1 797 = .ok (.iconst 1, 1) := by decide +kernel
theorem dL_law_798 : decode mL_law.2.1 798 = .ok (.iadd, 1) := by decide +kernel
theorem dL_law_799 : decode mL_law.2.1 799 = .ok (.iaload, 1) := by decide +kernel
theorem dL_law_800 : decode mL_law.2.1 800 = .ok (.aload_n 0, 1) := by decide +kernel
theorem dL_law_801 : decode mL_law.2.1 801 = .ok (.iload_n 3, 1) := by decide +kernel
theorem dL_law_802 : decode mL_law.2.1 802 = .ok (.iconst 2, 1) := by decide +kernel
theorem dL_law_803 : decode mL_law.2.1 803 = .ok (.iadd, 1) := by decide +kernel
theorem dL_law_804 : decode mL_law.2.1 804 = .ok (.iaload, 1) := by decide +kernel
theorem dL_law_805 : decode mL_law.2.1 805 = .ok (.aload_n 0, 1) := by decide +kernel
theorem dL_law_806 : decode mL_law.2.1 806 = .ok (.iload_n 3, 1) := by decide +kernel
theorem dL_law_807 : decode mL_law.2.1 807 = .ok (.iconst 3, 1) := by decide +kernel
theorem dL_law_808 : decode mL_law.2.1 808 = .ok (.iadd, 1) := by decide +kernel
theorem dL_law_809 : decode mL_law.2.1 809 = .ok (.iaload, 1) := by decide +kernel
theorem dL_law_810 : decode mL_law.2.1 810 = .ok (.invokevirtual 97, 3) := by decide +kernel
theorem dL_law_813 : decode mL_law.2.1 813 = .ok (.aload_n 2, 1) := by decide +kernel
theorem dL_law_814 : decode mL_law.2.1 814 = .ok (.aload_n 0, 1) := by decide +kernel
theorem dL_law_815 : decode mL_law.2.1 815 = .ok (.iload_n 3, 1) := by decide +kernel
theorem dL_law_816 : decode mL_law.2.1 816 = .ok (.iconst 1, 1) := by decide +kernel
theorem dL_law_817 : decode mL_law.2.1 817 = .ok (.iadd, 1) := by decide +kernel
theorem dL_law_818 : decode mL_law.2.1 818 = .ok (.iaload, 1) := by decide +kernel
theorem dL_law_819 : decode mL_law.2.1 819 = .ok (.aload_n 0, 1) := by decide +kernel
theorem dL_law_820 : decode mL_law.2.1 820 = .ok (.iload_n 3, 1) := by decide +kernel
theorem dL_law_821 : decode mL_law.2.1 821 = .ok (.iconst 2, 1) := by decide +kernel
theorem dL_law_822 : decode mL_law.2.1 822 = .ok (.iadd, 1) := by decide +kernel
theorem dL_law_823 : decode mL_law.2.1 823 = .ok (.iaload, 1) := by decide +kernel
theorem dL_law_824 : decode mL_law.2.1 824 = .ok (.aload_n 0, 1) := by decide +kernel
theorem dL_law_825 : decode mL_law.2.1 825 = .ok (.iload_n 3, 1) := by decide +kernel
theorem dL_law_826 : decode mL_law.2.1 826 = .ok (.iconst 3, 1) := by decide +kernel
theorem dL_law_827 : decode mL_law.2.1 827 = .ok (.iadd, 1) := by decide +kernel
theorem dL_law_828 : decode mL_law.2.1 828 = .ok (.iaload, 1) := by decide +kernel
theorem dL_law_829 : decode mL_law.2.1 829 = .ok (.invokevirtual 100, 3) := by decide +kernel
theorem dL_law_832 : decode mL_law.2.1 832 = .ok (.if_icmp .eq 104, 3) := by decide +kernel
theorem dL_law_835 : decode mL_law.2.1 835 = .ok (.iconst 0, 1) := by decide +kernel
theorem dL_law_836 : decode mL_law.2.1 836 = .ok (.ireturn, 1) := by decide +kernel
theorem dL_law_837 : decode mL_law.2.1 837 = .ok (.aload_n 1, 1) := by decide +kernel
theorem dL_law_838 : decode mL_law.2.1 838 = .ok (.aload_n 0, 1) := by decide +kernel
theorem dL_law_839 : decode mL_law.2.1 839 = .ok (.iload_n 3, 1) := by decide +kernel
theorem dL_law_840 : decode mL_law.2.1 840 = .ok (.iconst 1, 1) := by decide +kernel
theorem dL_law_841 : decode mL_law.2.1 841 = .ok (.iadd, 1) := by decide +kernel
theorem dL_law_842 : decode mL_law.2.1 842 = .ok (.iaload, 1) := by decide +kernel
theorem dL_law_843 : decode mL_law.2.1 843 = .ok (.aload_n 0, 1) := by decide +kernel
theorem dL_law_844 : decode mL_law.2.1 844 = .ok (.iload_n 3, 1) := by decide +kernel
theorem dL_law_845 : decode mL_law.2.1 845 = .ok (.iconst 2, 1) := by decide +kernel
theorem dL_law_846 : decode mL_law.2.1 846 = .ok (.iadd, 1) := by decide +kernel
theorem dL_law_847 : decode mL_law.2.1 847 = .ok (.iaload, 1) := by decide +kernel
theorem dL_law_848 : decode mL_law.2.1 848 = .ok (.invokevirtual 101, 3) := by decide +kernel
theorem dL_law_851 : decode mL_law.2.1 851 = .ok (.aload_n 2, 1) := by decide +kernel
theorem dL_law_852 : decode mL_law.2.1 852 = .ok (.aload_n 0, 1) := by decide +kernel
theorem dL_law_853 : decode mL_law.2.1 853 = .ok (.iload_n 3, 1) := by decide +kernel
theorem dL_law_854 : decode mL_law.2.1 854 = .ok (.iconst 1, 1) := by decide +kernel
theorem dL_law_855 : decode mL_law.2.1 855 = .ok (.iadd, 1) := by decide +kernel
theorem dL_law_856 : decode mL_law.2.1 856 = .ok (.iaload, 1) := by decide +kernel
theorem dL_law_857 : decode mL_law.2.1 857 = .ok (.aload_n 0, 1) := by decide +kernel
theorem dL_law_858 : decode mL_law.2.1 858 = .ok (.iload_n 3, 1) := by decide +kernel
theorem dL_law_859 : decode mL_law.2.1 859 = .ok (.iconst 2, 1) := by decide +kernel
theorem dL_law_860 : decode mL_law.2.1 860 = .ok (.iadd, 1) := by decide +kernel
theorem dL_law_861 : decode mL_law.2.1 861 = .ok (.iaload, 1) := by decide +kernel
theorem dL_law_862 : decode mL_law.2.1 862 = .ok (.invokevirtual 104, 3) := by decide +kernel
theorem dL_law_865 : decode mL_law.2.1 865 = .ok (.if_icmp .eq 71, 3) := by decide +kernel
theorem dL_law_868 : decode mL_law.2.1 868 = .ok (.iconst 0, 1) := by decide +kernel
theorem dL_law_869 : decode mL_law.2.1 869 = .ok (.ireturn, 1) := by decide +kernel
theorem dL_law_870 : decode mL_law.2.1 870 = .ok (.aload_n 1, 1) := by decide +kernel
theorem dL_law_871 : decode mL_law.2.1 871 = .ok (.aload_n 0, 1) := by decide +kernel
theorem dL_law_872 : decode mL_law.2.1 872 = .ok (.iload_n 3, 1) := by decide +kernel
theorem dL_law_873 : decode mL_law.2.1 873 = .ok (.iconst 1, 1) := by decide +kernel
theorem dL_law_874 : decode mL_law.2.1 874 = .ok (.iadd, 1) := by decide +kernel
theorem dL_law_875 : decode mL_law.2.1 875 = .ok (.iaload, 1) := by decide +kernel
theorem dL_law_876 : decode mL_law.2.1 876 = .ok (.aload_n 0, 1) := by decide +kernel
theorem dL_law_877 : decode mL_law.2.1 877 = .ok (.iload_n 3, 1) := by decide +kernel
theorem dL_law_878 : decode mL_law.2.1 878 = .ok (.iconst 2, 1) := by decide +kernel
theorem dL_law_879 : decode mL_law.2.1 879 = .ok (.iadd, 1) := by decide +kernel
theorem dL_law_880 : decode mL_law.2.1 880 = .ok (.iaload, 1) := by decide +kernel
theorem dL_law_881 : decode mL_law.2.1 881 = .ok (.aload_n 0, 1) := by decide +kernel
theorem dL_law_882 : decode mL_law.2.1 882 = .ok (.iload_n 3, 1) := by decide +kernel
theorem dL_law_883 : decode mL_law.2.1 883 = .ok (.iconst 3, 1) := by decide +kernel
theorem dL_law_884 : decode mL_law.2.1 884 = .ok (.iadd, 1) := by decide +kernel
theorem dL_law_885 : decode mL_law.2.1 885 = .ok (.iaload, 1) := by decide +kernel
theorem dL_law_886 : decode mL_law.2.1 886 = .ok (.aload_n 0, 1) := by decide +kernel
theorem dL_law_887 : decode mL_law.2.1 887 = .ok (.iload_n 3, 1) := by decide +kernel
theorem dL_law_888 : decode mL_law.2.1 888 = .ok (.iconst 4, 1) := by decide +kernel
theorem dL_law_889 : decode mL_law.2.1 889 = .ok (.iadd, 1) := by decide +kernel
theorem dL_law_890 : decode mL_law.2.1 890 = .ok (.iaload, 1) := by decide +kernel
theorem dL_law_891 : decode mL_law.2.1 891 = .ok (.invokevirtual 105, 3) := by decide +kernel
theorem dL_law_894 : decode mL_law.2.1 894 = .ok (.aload_n 2, 1) := by decide +kernel
theorem dL_law_895 : decode mL_law.2.1 895 = .ok (.aload_n 0, 1) := by decide +kernel
theorem dL_law_896 : decode mL_law.2.1 896 = .ok (.iload_n 3, 1) := by decide +kernel
theorem dL_law_897 : decode mL_law.2.1 897 = .ok (.iconst 1, 1) := by decide +kernel
theorem dL_law_898 : decode mL_law.2.1 898 = .ok (.iadd, 1) := by decide +kernel
theorem dL_law_899 : decode mL_law.2.1 899 = .ok (.iaload, 1) := by decide +kernel
theorem dL_law_900 : decode mL_law.2.1 900 = .ok (.aload_n 0, 1) := by decide +kernel
theorem dL_law_901 : decode mL_law.2.1 901 = .ok (.iload_n 3, 1) := by decide +kernel
theorem dL_law_902 : decode mL_law.2.1 902 = .ok (.iconst 2, 1) := by decide +kernel
theorem dL_law_903 : decode mL_law.2.1 903 = .ok (.iadd, 1) := by decide +kernel
theorem dL_law_904 : decode mL_law.2.1 904 = .ok (.iaload, 1) := by decide +kernel
theorem dL_law_905 : decode mL_law.2.1 905 = .ok (.aload_n 0, 1) := by decide +kernel
theorem dL_law_906 : decode mL_law.2.1 906 = .ok (.iload_n 3, 1) := by decide +kernel
theorem dL_law_907 : decode mL_law.2.1 907 = .ok (.iconst 3, 1) := by decide +kernel
theorem dL_law_908 : decode mL_law.2.1 908 = .ok (.iadd, 1) := by decide +kernel
theorem dL_law_909 : decode mL_law.2.1 909 = .ok (.iaload, 1) := by decide +kernel
theorem dL_law_910 : decode mL_law.2.1 910 = .ok (.aload_n 0, 1) := by decide +kernel
theorem dL_law_911 : decode mL_law.2.1 911 = .ok (.iload_n 3, 1) := by decide +kernel
theorem dL_law_912 : decode mL_law.2.1 912 = .ok (.iconst 4, 1) := by decide +kernel
theorem dL_law_913 : decode mL_law.2.1 913 = .ok (.iadd, 1) := by decide +kernel
theorem dL_law_914 : decode mL_law.2.1 914 = .ok (.iaload, 1) := by decide +kernel
theorem dL_law_915 : decode mL_law.2.1 915 = .ok (.invokevirtual 109, 3) := by decide +kernel
theorem dL_law_918 : decode mL_law.2.1 918 = .ok (.if_icmp .eq 18, 3) := by decide +kernel
theorem dL_law_921 : decode mL_law.2.1 921 = .ok (.iconst 0, 1) := by decide +kernel
theorem dL_law_922 : decode mL_law.2.1 922 = .ok (.ireturn, 1) := by decide +kernel
theorem dL_law_923 : decode mL_law.2.1 923 = .ok (.aload_n 1, 1) := by decide +kernel
theorem dL_law_924 : decode mL_law.2.1 924 = .ok (.invokevirtual 110, 3) := by decide +kernel
theorem dL_law_927 : decode mL_law.2.1 927 = .ok (.aload_n 2, 1) := by decide +kernel
theorem dL_law_928 : decode mL_law.2.1 928 = .ok (.invokevirtual 113, 3) := by decide +kernel
theorem dL_law_931 : decode mL_law.2.1 931 = .ok (.if_icmp .eq 5, 3) := by decide +kernel
theorem dL_law_934 : decode mL_law.2.1 934 = .ok (.iconst 0, 1) := by decide +kernel
theorem dL_law_935 : decode mL_law.2.1 935 = .ok (.ireturn, 1) := by decide +kernel
theorem dL_law_936 : decode mL_law.2.1 936 = .ok (.iinc 3 5, 3) := by decide +kernel
theorem dL_law_939 : decode mL_law.2.1 939 = .ok (.goto (-921), 3) := by decide +kernel
theorem dL_law_942 : decode mL_law.2.1 942 = .ok (.iconst 1, 1) := by decide +kernel
theorem dL_law_943 : decode mL_law.2.1 943 = .ok (.ireturn, 1) := by decide +kernel
