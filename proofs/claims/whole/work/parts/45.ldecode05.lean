theorem de_W_law_604 : decode bc_W_law 604 = .ok (.invokevirtual 81, 3) := by decide +kernel
theorem de_W_law_607 : decode bc_W_law 607 = .ok (.aload_n 2, 1) := by decide +kernel
theorem de_W_law_608 : decode bc_W_law 608 = .ok (.aload_n 0, 1) := by decide +kernel
theorem de_W_law_609 : decode bc_W_law 609 = .ok (.iload_n 3, 1) := by decide +kernel
theorem de_W_law_610 : decode bc_W_law 610 = .ok (.iconst 1, 1) := by decide +kernel
theorem de_W_law_611 : decode bc_W_law 611 = .ok (.iadd, 1) := by decide +kernel
theorem de_W_law_612 : decode bc_W_law 612 = .ok (.iaload, 1) := by decide +kernel
theorem de_W_law_613 : decode bc_W_law 613 = .ok (.invokevirtual 84, 3) := by decide +kernel
theorem de_W_law_616 : decode bc_W_law 616 = .ok (.if_icmp .eq 112, 3) := by decide +kernel
theorem de_W_law_619 : decode bc_W_law 619 = .ok (.iconst 0, 1) := by decide +kernel
theorem de_W_law_620 : decode bc_W_law 620 = .ok (.ireturn, 1) := by decide +kernel
theorem de_W_law_621 : decode bc_W_law 621 = .ok (.aload_n 1, 1) := by decide +kernel
theorem de_W_law_622 : decode bc_W_law 622 = .ok (.aload_n 0, 1) := by decide +kernel
theorem de_W_law_623 : decode bc_W_law 623 = .ok (.iload_n 3, 1) := by decide +kernel
theorem de_W_law_624 : decode bc_W_law 624 = .ok (.iconst 1, 1) := by decide +kernel
theorem de_W_law_625 : decode bc_W_law 625 = .ok (.iadd, 1) := by decide +kernel
theorem de_W_law_626 : decode bc_W_law 626 = .ok (.iaload, 1) := by decide +kernel
theorem de_W_law_627 : decode bc_W_law 627 = .ok (.invokevirtual 85, 3) := by decide +kernel
theorem de_W_law_630 : decode bc_W_law 630 = .ok (.aload_n 2, 1) := by decide +kernel
theorem de_W_law_631 : decode bc_W_law 631 = .ok (.aload_n 0, 1) := by decide +kernel
theorem de_W_law_632 : decode bc_W_law 632 = .ok (.iload_n 3, 1) := by decide +kernel
theorem de_W_law_633 : decode bc_W_law 633 = .ok (.iconst 1, 1) := by decide +kernel
theorem de_W_law_634 : decode bc_W_law 634 = .ok (.iadd, 1) := by decide +kernel
theorem de_W_law_635 : decode bc_W_law 635 = .ok (.iaload, 1) := by decide +kernel
theorem de_W_law_636 : decode bc_W_law 636 = .ok (.invokevirtual 89, 3) := by decide +kernel
theorem de_W_law_639 : decode bc_W_law 639 = .ok (.lcmp, 1) := by decide +kernel
theorem de_W_law_640 : decode bc_W_law 640 = .ok (.ifCond .eq 88, 3) := by decide +kernel
theorem de_W_law_643 : decode bc_W_law 643 = .ok (.iconst 0, 1) := by decide +kernel
theorem de_W_law_644 : decode bc_W_law 644 = .ok (.ireturn, 1) := by decide +kernel
theorem de_W_law_645 : decode bc_W_law 645 = .ok (.aload_n 1, 1) := by decide +kernel
theorem de_W_law_646 : decode bc_W_law 646 = .ok (.aload_n 0, 1) := by decide +kernel
theorem de_W_law_647 : decode bc_W_law 647 = .ok (.iload_n 3, 1) := by decide +kernel
theorem de_W_law_648 : decode bc_W_law 648 = .ok (.iconst 1, 1) := by decide +kernel
theorem de_W_law_649 : decode bc_W_law 649 = .ok (.iadd, 1) := by decide +kernel
theorem de_W_law_650 : decode bc_W_law 650 = .ok (.iaload, 1) := by decide +kernel
theorem de_W_law_651 : decode bc_W_law 651 = .ok (.invokevirtual 90, 3) := by decide +kernel
theorem de_W_law_654 : decode bc_W_law 654 = .ok (.aload_n 2, 1) := by decide +kernel
theorem de_W_law_655 : decode bc_W_law 655 = .ok (.aload_n 0, 1) := by decide +kernel
theorem de_W_law_656 : decode bc_W_law 656 = .ok (.iload_n 3, 1) := by decide +kernel
theorem de_W_law_657 : decode bc_W_law 657 = .ok (.iconst 1, 1) := by decide +kernel
theorem de_W_law_658 : decode bc_W_law 658 = .ok (.iadd, 1) := by decide +kernel
theorem de_W_law_659 : decode bc_W_law 659 = .ok (.iaload, 1) := by decide +kernel
theorem de_W_law_660 : decode bc_W_law 660 = .ok (.invokevirtual 93, 3) := by decide +kernel
theorem de_W_law_663 : decode bc_W_law 663 = .ok (.lcmp, 1) := by decide +kernel
theorem de_W_law_664 : decode bc_W_law 664 = .ok (.ifCond .eq 64, 3) := by decide +kernel
theorem de_W_law_667 : decode bc_W_law 667 = .ok (.iconst 0, 1) := by decide +kernel
theorem de_W_law_668 : decode bc_W_law 668 = .ok (.ireturn, 1) := by decide +kernel
theorem de_W_law_669 : decode bc_W_law 669 = .ok (.aload_n 1, 1) := by decide +kernel
theorem de_W_law_670 : decode bc_W_law 670 = .ok (.aload_n 0, 1) := by decide +kernel
theorem de_W_law_671 : decode bc_W_law 671 = .ok (.iload_n 3, 1) := by decide +kernel
theorem de_W_law_672 : decode bc_W_law 672 = .ok (.iconst 1, 1) := by decide +kernel
theorem de_W_law_673 : decode bc_W_law 673 = .ok (.iadd, 1) := by decide +kernel
theorem de_W_law_674 : decode bc_W_law 674 = .ok (.iaload, 1) := by decide +kernel
theorem de_W_law_675 : decode bc_W_law 675 = .ok (.invokevirtual 94, 3) := by decide +kernel
theorem de_W_law_678 : decode bc_W_law 678 = .ok (.aload_n 2, 1) := by decide +kernel
theorem de_W_law_679 : decode bc_W_law 679 = .ok (.aload_n 0, 1) := by decide +kernel
theorem de_W_law_680 : decode bc_W_law 680 = .ok (.iload_n 3, 1) := by decide +kernel
theorem de_W_law_681 : decode bc_W_law 681 = .ok (.iconst 1, 1) := by decide +kernel
theorem de_W_law_682 : decode bc_W_law 682 = .ok (.iadd, 1) := by decide +kernel
theorem de_W_law_683 : decode bc_W_law 683 = .ok (.iaload, 1) := by decide +kernel
theorem de_W_law_684 : decode bc_W_law 684 = .ok (.invokevirtual 97, 3) := by decide +kernel
theorem de_W_law_687 : decode bc_W_law 687 = .ok (.if_icmp .eq 41, 3) := by decide +kernel
theorem de_W_law_690 : decode bc_W_law 690 = .ok (.iconst 0, 1) := by decide +kernel
theorem de_W_law_691 : decode bc_W_law 691 = .ok (.ireturn, 1) := by decide +kernel
theorem de_W_law_692 : decode bc_W_law 692 = .ok (.aload_n 1, 1) := by decide +kernel
theorem de_W_law_693 : decode bc_W_law 693 = .ok (.invokevirtual 98, 3) := by decide +kernel
theorem de_W_law_696 : decode bc_W_law 696 = .ok (.aload_n 2, 1) := by decide +kernel
theorem de_W_law_697 : decode bc_W_law 697 = .ok (.invokevirtual 102, 3) := by decide +kernel
theorem de_W_law_700 : decode bc_W_law 700 = .ok (.if_icmp .eq 28, 3) := by decide +kernel
theorem de_W_law_703 : decode bc_W_law 703 = .ok (.iconst 0, 1) := by decide +kernel
theorem de_W_law_704 : decode bc_W_law 704 = .ok (.ireturn, 1) := by decide +kernel
theorem de_W_law_705 : decode bc_W_law 705 = .ok (.aload_n 1, 1) := by decide +kernel
theorem de_W_law_706 : decode bc_W_law 706 = .ok (.aload_n 0, 1) := by decide +kernel
theorem de_W_law_707 : decode bc_W_law 707 = .ok (.iload_n 3, 1) := by decide +kernel
theorem de_W_law_708 : decode bc_W_law 708 = .ok (.iconst 1, 1) := by decide +kernel
theorem de_W_law_709 : decode bc_W_law 709 = .ok (.iadd, 1) := by decide +kernel
theorem de_W_law_710 : decode bc_W_law 710 = .ok (.iaload, 1) := by decide +kernel
theorem de_W_law_711 : decode bc_W_law 711 = .ok (.invokevirtual 103, 3) := by decide +kernel
theorem de_W_law_714 : decode bc_W_law 714 = .ok (.aload_n 2, 1) := by decide +kernel
theorem de_W_law_715 : decode bc_W_law 715 = .ok (.aload_n 0, 1) := by decide +kernel
