theorem dX9_reckonRange_596 : decode cX9_reckonRange 596 = .ok (.lconst 0, 1) := by decide +kernel
theorem dX9_reckonRange_597 : decode cX9_reckonRange 597 = .ok (.lcmp, 1) := by decide +kernel
theorem dX9_reckonRange_598 : decode cX9_reckonRange 598 = .ok (.ifCond .eq 7, 3) := by decide +kernel
theorem dX9_reckonRange_601 : decode cX9_reckonRange 601 = .ok (.iconst 1, 1) := by decide +kernel
theorem dX9_reckonRange_602 : decode cX9_reckonRange 602 = .ok (.goto 4, 3) := by decide +kernel
theorem dX9_reckonRange_605 : decode cX9_reckonRange 605 = .ok (.iconst 0, 1) := by decide +kernel
theorem dX9_reckonRange_606 : decode cX9_reckonRange 606 = .ok (.istore 22, 2) := by decide +kernel
theorem dX9_reckonRange_608 : decode cX9_reckonRange 608 = .ok (.aload_n 0, 1) := by decide +kernel
theorem dX9_reckonRange_609 : decode cX9_reckonRange 609 = .ok (.iload 4, 2) := by decide +kernel
theorem dX9_reckonRange_611 : decode cX9_reckonRange 611 = .ok (.iload 22, 2) := by decide +kernel
theorem dX9_reckonRange_613 : decode cX9_reckonRange 613 = .ok (.ifCond .eq 13, 3) := by decide +kernel
theorem dX9_reckonRange_616 : decode cX9_reckonRange 616 = .ok (.lload 5, 2) := by decide +kernel
theorem dX9_reckonRange_618 : decode cX9_reckonRange 618 = .ok (.lload 11, 2) := by decide +kernel
theorem dX9_reckonRange_620 : decode cX9_reckonRange 620 = .ok (.invokestatic 179, 3) := by decide +kernel
theorem dX9_reckonRange_623 : decode cX9_reckonRange 623 = .ok (.goto 4, 3) := by decide +kernel
theorem dX9_reckonRange_626 : decode cX9_reckonRange 626 = .ok (.lconst 0, 1) := by decide +kernel
theorem dX9_reckonRange_627 : decode cX9_reckonRange 627 = .ok (.iload 22, 2) := by decide +kernel
theorem dX9_reckonRange_629 : decode cX9_reckonRange 629 = .ok (.ifCond .eq 13, 3) := by decide +kernel
theorem dX9_reckonRange_632 : decode cX9_reckonRange 632 = .ok (.lload 7, 2) := by decide +kernel
theorem dX9_reckonRange_634 : decode cX9_reckonRange 634 = .ok (.lload 11, 2) := by decide +kernel
theorem dX9_reckonRange_636 : decode cX9_reckonRange 636 = .ok (.invokestatic 179, 3) := by decide +kernel
theorem dX9_reckonRange_639 : decode cX9_reckonRange 639 = .ok (.goto 5, 3) := by decide +kernel
theorem dX9_reckonRange_642 : decode cX9_reckonRange 642 = .ok (.lload 7, 2) := by decide +kernel
theorem dX9_reckonRange_644 : decode cX9_reckonRange 644 = .ok (.invokevirtual 393, 3) := by decide +kernel
theorem dX9_reckonRange_647 : decode cX9_reckonRange 647 = .ok (.goto 172, 3) := by decide +kernel
theorem dX9_reckonRange_650 : decode cX9_reckonRange 650 = .ok (.aload_n 0, 1) := by decide +kernel
theorem dX9_reckonRange_651 : decode cX9_reckonRange 651 = .ok (.getfield 19, 3) := by decide +kernel
theorem dX9_reckonRange_654 : decode cX9_reckonRange 654 = .ok (.iload_n 1, 1) := by decide +kernel
theorem dX9_reckonRange_655 : decode cX9_reckonRange 655 = .ok (.iaload, 1) := by decide +kernel
theorem dX9_reckonRange_656 : decode cX9_reckonRange 656 = .ok (.ifCond .ne 163, 3) := by decide +kernel
theorem dX9_reckonRange_659 : decode cX9_reckonRange 659 = .ok (.iload 21, 2) := by decide +kernel
theorem dX9_reckonRange_661 : decode cX9_reckonRange 661 = .ok (.ifCond .eq 14, 3) := by decide +kernel
theorem dX9_reckonRange_664 : decode cX9_reckonRange 664 = .ok (.lload 11, 2) := by decide +kernel
theorem dX9_reckonRange_666 : decode cX9_reckonRange 666 = .ok (.lconst 0, 1) := by decide +kernel
theorem dX9_reckonRange_667 : decode cX9_reckonRange 667 = .ok (.lcmp, 1) := by decide +kernel
theorem dX9_reckonRange_668 : decode cX9_reckonRange 668 = .ok (.ifCond .eq 7, 3) := by decide +kernel
theorem dX9_reckonRange_671 : decode cX9_reckonRange 671 = .ok (.iconst 1, 1) := by decide +kernel
theorem dX9_reckonRange_672 : decode cX9_reckonRange 672 = .ok (.goto 4, 3) := by decide +kernel
theorem dX9_reckonRange_675 : decode cX9_reckonRange 675 = .ok (.iconst 0, 1) := by decide +kernel
theorem dX9_reckonRange_676 : decode cX9_reckonRange 676 = .ok (.istore 22, 2) := by decide +kernel
theorem dX9_reckonRange_678 : decode cX9_reckonRange 678 = .ok (.iload 22, 2) := by decide +kernel
theorem dX9_reckonRange_680 : decode cX9_reckonRange 680 = .ok (.ifCond .eq 17, 3) := by decide +kernel
theorem dX9_reckonRange_683 : decode cX9_reckonRange 683 = .ok (.lload 7, 2) := by decide +kernel
theorem dX9_reckonRange_685 : decode cX9_reckonRange 685 = .ok (.lload 11, 2) := by decide +kernel
theorem dX9_reckonRange_687 : decode cX9_reckonRange 687 = .ok (.invokestatic 175, 3) := by decide +kernel
theorem dX9_reckonRange_690 : decode cX9_reckonRange 690 = .ok (.ifCond .eq 7, 3) := by decide +kernel
theorem dX9_reckonRange_693 : decode cX9_reckonRange 693 = .ok (.iconst 1, 1) := by decide +kernel
theorem dX9_reckonRange_694 : decode cX9_reckonRange 694 = .ok (.goto 4, 3) := by decide +kernel
theorem dX9_reckonRange_697 : decode cX9_reckonRange 697 = .ok (.iconst 0, 1) := by decide +kernel
theorem dX9_reckonRange_698 : decode cX9_reckonRange 698 = .ok (.istore 23, 2) := by decide +kernel
theorem dX9_reckonRange_700 : decode cX9_reckonRange 700 = .ok (.aload_n 0, 1) := by decide +kernel
theorem dX9_reckonRange_701 : decode cX9_reckonRange 701 = .ok (.iload 4, 2) := by decide +kernel
theorem dX9_reckonRange_703 : decode cX9_reckonRange 703 = .ok (.iload 23, 2) := by decide +kernel
theorem dX9_reckonRange_705 : decode cX9_reckonRange 705 = .ok (.ifCond .eq 8, 3) := by decide +kernel
theorem dX9_reckonRange_708 : decode cX9_reckonRange 708 = .ok (.lload 5, 2) := by decide +kernel
theorem dX9_reckonRange_710 : decode cX9_reckonRange 710 = .ok (.goto 4, 3) := by decide +kernel
theorem dX9_reckonRange_713 : decode cX9_reckonRange 713 = .ok (.lconst 0, 1) := by decide +kernel
theorem dX9_reckonRange_714 : decode cX9_reckonRange 714 = .ok (.iload 23, 2) := by decide +kernel
theorem dX9_reckonRange_716 : decode cX9_reckonRange 716 = .ok (.ifCond .ne 8, 3) := by decide +kernel
theorem dX9_reckonRange_719 : decode cX9_reckonRange 719 = .ok (.iload 22, 2) := by decide +kernel
theorem dX9_reckonRange_721 : decode cX9_reckonRange 721 = .ok (.ifCond .ne 8, 3) := by decide +kernel
theorem dX9_reckonRange_724 : decode cX9_reckonRange 724 = .ok (.lload 7, 2) := by decide +kernel
theorem dX9_reckonRange_726 : decode cX9_reckonRange 726 = .ok (.goto 7, 3) := by decide +kernel
theorem dX9_reckonRange_729 : decode cX9_reckonRange 729 = .ok (.lload 11, 2) := by decide +kernel
theorem dX9_reckonRange_731 : decode cX9_reckonRange 731 = .ok (.lconst 1, 1) := by decide +kernel
theorem dX9_reckonRange_732 : decode cX9_reckonRange 732 = .ok (.lsub, 1) := by decide +kernel
theorem dX9_reckonRange_733 : decode cX9_reckonRange 733 = .ok (.invokevirtual 393, 3) := by decide +kernel
theorem dX9_reckonRange_736 : decode cX9_reckonRange 736 = .ok (.goto 83, 3) := by decide +kernel
theorem dX9_reckonRange_739 : decode cX9_reckonRange 739 = .ok (.aload_n 0, 1) := by decide +kernel
theorem dX9_reckonRange_740 : decode cX9_reckonRange 740 = .ok (.iload 4, 2) := by decide +kernel
theorem dX9_reckonRange_742 : decode cX9_reckonRange 742 = .ok (.lconst 0, 1) := by decide +kernel
theorem dX9_reckonRange_743 : decode cX9_reckonRange 743 = .ok (.lload 7, 2) := by decide +kernel
theorem dX9_reckonRange_745 : decode cX9_reckonRange 745 = .ok (.lload 11, 2) := by decide +kernel
theorem dX9_reckonRange_747 : decode cX9_reckonRange 747 = .ok (.invokestatic 338, 3) := by decide +kernel
theorem dX9_reckonRange_750 : decode cX9_reckonRange 750 = .ok (.invokevirtual 393, 3) := by decide +kernel
theorem dX9_reckonRange_753 : decode cX9_reckonRange 753 = .ok (.goto 66, 3) := by decide +kernel
theorem dX9_reckonRange_756 : decode cX9_reckonRange 756 = .ok (.aload_n 0, 1) := by decide +kernel
theorem dX9_reckonRange_757 : decode cX9_reckonRange 757 = .ok (.iload 4, 2) := by decide +kernel
theorem dX9_reckonRange_759 : decode cX9_reckonRange 759 = .ok (.lload 5, 2) := by decide +kernel
theorem dX9_reckonRange_761 : decode cX9_reckonRange 761 = .ok (.lload 9, 2) := by decide +kernel
theorem dX9_reckonRange_763 : decode cX9_reckonRange 763 = .ok (.invokestatic 341, 3) := by decide +kernel
theorem dX9_reckonRange_766 : decode cX9_reckonRange 766 = .ok (.lload 7, 2) := by decide +kernel
theorem dX9_reckonRange_768 : decode cX9_reckonRange 768 = .ok (.lload 11, 2) := by decide +kernel
theorem dX9_reckonRange_770 : decode cX9_reckonRange 770 = .ok (.invokestatic 341, 3) := by decide +kernel
theorem dX9_reckonRange_773 : decode cX9_reckonRange 773 = .ok (.invokestatic 432, 3) := by decide +kernel
theorem dX9_reckonRange_776 : decode cX9_reckonRange 776 = .ok (.invokevirtual 393, 3) := by decide +kernel
theorem dX9_reckonRange_779 : decode cX9_reckonRange 779 = .ok (.goto 40, 3) := by decide +kernel
theorem dX9_reckonRange_782 : decode cX9_reckonRange 782 = .ok (.aload_n 0, 1) := by decide +kernel
theorem dX9_reckonRange_783 : decode cX9_reckonRange 783 = .ok (.iload 4, 2) := by decide +kernel
theorem dX9_reckonRange_785 : decode cX9_reckonRange 785 = .ok (.lconst 0, 1) := by decide +kernel
theorem dX9_reckonRange_786 : decode cX9_reckonRange 786 = .ok (.lload 7, 2) := by decide +kernel
theorem dX9_reckonRange_788 : decode cX9_reckonRange 788 = .ok (.lload 11, 2) := by decide +kernel
theorem dX9_reckonRange_790 : decode cX9_reckonRange 790 = .ok (.invokestatic 341, 3) := by decide +kernel
theorem dX9_reckonRange_793 : decode cX9_reckonRange 793 = .ok (.invokestatic 432, 3) := by decide +kernel
theorem dX9_reckonRange_796 : decode cX9_reckonRange 796 = .ok (.invokevirtual 393, 3) := by decide +kernel
theorem dX9_reckonRange_799 : decode cX9_reckonRange 799 = .ok (.goto 20, 3) := by decide +kernel
theorem dX9_reckonRange_802 : decode cX9_reckonRange 802 = .ok (.aload_n 0, 1) := by decide +kernel
theorem dX9_reckonRange_803 : decode cX9_reckonRange 803 = .ok (.iload_n 1, 1) := by decide +kernel
theorem dX9_reckonRange_804 : decode cX9_reckonRange 804 = .ok (.iload_n 2, 1) := by decide +kernel
theorem dX9_reckonRange_805 : decode cX9_reckonRange 805 = .ok (.iload_n 3, 1) := by decide +kernel
theorem dX9_reckonRange_806 : decode cX9_reckonRange 806 = .ok (.lload 5, 2) := by decide +kernel
theorem dX9_reckonRange_808 : decode cX9_reckonRange 808 = .ok (.lload 7, 2) := by decide +kernel
theorem dX9_reckonRange_810 : decode cX9_reckonRange 810 = .ok (.lload 9, 2) := by decide +kernel
theorem dX9_reckonRange_812 : decode cX9_reckonRange 812 = .ok (.lload 11, 2) := by decide +kernel
theorem dX9_reckonRange_814 : decode cX9_reckonRange 814 = .ok (.iload 20, 2) := by decide +kernel
theorem dX9_reckonRange_816 : decode cX9_reckonRange 816 = .ok (.invokevirtual 436, 3) := by decide +kernel
theorem dX9_reckonRange_819 : decode cX9_reckonRange 819 = .ok (.return_, 1) := by decide +kernel
