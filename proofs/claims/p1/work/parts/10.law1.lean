/-! written by program (wip/gen) -/
theorem d_law_535 : decode code 535 = .ok (.invokevirtual 69, 3) := by decide +kernel
theorem d_law_538 : decode code 538 = .ok (.iload 5, 2) := by decide +kernel
theorem d_law_540 : decode code 540 = .ok (.if_icmp .eq 5, 3) := by decide +kernel
theorem d_law_543 : decode code 543 = .ok (.iconst 0, 1) := by decide +kernel
theorem d_law_544 : decode code 544 = .ok (.ireturn, 1) := by decide +kernel
theorem d_law_545 : decode code 545 = .ok (.iload 5, 2) := by decide +kernel
theorem d_law_547 : decode code 547 = .ok (.ifCond .ne 15, 3) := by decide +kernel
theorem d_law_550 : decode code 550 = .ok (.aload_n 3, 1) := by decide +kernel
theorem d_law_551 : decode code 551 = .ok (.iconst 0, 1) := by decide +kernel
theorem d_law_552 : decode code 552 = .ok (.laload, 1) := by decide +kernel
theorem d_law_553 : decode code 553 = .ok (.iload 6, 2) := by decide +kernel
theorem d_law_555 : decode code 555 = .ok (.i2l, 1) := by decide +kernel
theorem d_law_556 : decode code 556 = .ok (.lcmp, 1) := by decide +kernel
theorem d_law_557 : decode code 557 = .ok (.ifCond .eq 5, 3) := by decide +kernel
theorem d_law_560 : decode code 560 = .ok (.iconst 0, 1) := by decide +kernel
theorem d_law_561 : decode code 561 = .ok (.ireturn, 1) := by decide +kernel
theorem d_law_562 : decode code 562 = .ok (.goto 276, 3) := by decide +kernel
theorem d_law_565 : decode code 565 = .ok (.aload_n 1, 1) := by decide +kernel
theorem d_law_566 : decode code 566 = .ok (.aload_n 0, 1) := by decide +kernel
theorem d_law_567 : decode code 567 = .ok (.iload 4, 2) := by decide +kernel
theorem d_law_569 : decode code 569 = .ok (.iconst 1, 1) := by decide +kernel
theorem d_law_570 : decode code 570 = .ok (.iadd, 1) := by decide +kernel
theorem d_law_571 : decode code 571 = .ok (.iaload, 1) := by decide +kernel
theorem d_law_572 : decode code 572 = .ok (.i2l, 1) := by decide +kernel
theorem d_law_573 : decode code 573 = .ok (.bipush 32, 2) := by decide +kernel
theorem d_law_575 : decode code 575 = .ok (.lshl, 1) := by decide +kernel
theorem d_law_576 : decode code 576 = .ok (.aload_n 0, 1) := by decide +kernel
theorem d_law_577 : decode code 577 = .ok (.iload 4, 2) := by decide +kernel
theorem d_law_579 : decode code 579 = .ok (.iconst 2, 1) := by decide +kernel
theorem d_law_580 : decode code 580 = .ok (.iadd, 1) := by decide +kernel
theorem d_law_581 : decode code 581 = .ok (.iaload, 1) := by decide +kernel
theorem d_law_582 : decode code 582 = .ok (.i2l, 1) := by decide +kernel
theorem d_law_583 : decode code 583 = .ok (.ldc2_w 72, 3) := by decide +kernel
theorem d_law_586 : decode code 586 = .ok (.land, 1) := by decide +kernel
theorem d_law_587 : decode code 587 = .ok (.lor, 1) := by decide +kernel
theorem d_law_588 : decode code 588 = .ok (.aload_n 0, 1) := by decide +kernel
theorem d_law_589 : decode code 589 = .ok (.iload 4, 2) := by decide +kernel
theorem d_law_591 : decode code 591 = .ok (.iconst 3, 1) := by decide +kernel
theorem d_law_592 : decode code 592 = .ok (.iadd, 1) := by decide +kernel
theorem d_law_593 : decode code 593 = .ok (.iaload, 1) := by decide +kernel
theorem d_law_594 : decode code 594 = .ok (.aload_n 3, 1) := by decide +kernel
theorem d_law_595 : decode code 595 = .ok (.invokestatic 104, 3) := by decide +kernel
theorem d_law_598 : decode code 598 = .ok (.istore 5, 2) := by decide +kernel
theorem d_law_600 : decode code 600 = .ok (.aload_n 2, 1) := by decide +kernel
theorem d_law_601 : decode code 601 = .ok (.aload_n 0, 1) := by decide +kernel
theorem d_law_602 : decode code 602 = .ok (.iload 4, 2) := by decide +kernel
theorem d_law_604 : decode code 604 = .ok (.iconst 1, 1) := by decide +kernel
theorem d_law_605 : decode code 605 = .ok (.iadd, 1) := by decide +kernel
theorem d_law_606 : decode code 606 = .ok (.iaload, 1) := by decide +kernel
theorem d_law_607 : decode code 607 = .ok (.i2l, 1) := by decide +kernel
theorem d_law_608 : decode code 608 = .ok (.bipush 32, 2) := by decide +kernel
theorem d_law_610 : decode code 610 = .ok (.lshl, 1) := by decide +kernel
theorem d_law_611 : decode code 611 = .ok (.aload_n 0, 1) := by decide +kernel
theorem d_law_612 : decode code 612 = .ok (.iload 4, 2) := by decide +kernel
theorem d_law_614 : decode code 614 = .ok (.iconst 2, 1) := by decide +kernel
theorem d_law_615 : decode code 615 = .ok (.iadd, 1) := by decide +kernel
theorem d_law_616 : decode code 616 = .ok (.iaload, 1) := by decide +kernel
theorem d_law_617 : decode code 617 = .ok (.i2l, 1) := by decide +kernel
theorem d_law_618 : decode code 618 = .ok (.ldc2_w 72, 3) := by decide +kernel
theorem d_law_621 : decode code 621 = .ok (.land, 1) := by decide +kernel
theorem d_law_622 : decode code 622 = .ok (.lor, 1) := by decide +kernel
theorem d_law_623 : decode code 623 = .ok (.aload_n 0, 1) := by decide +kernel
theorem d_law_624 : decode code 624 = .ok (.iload 4, 2) := by decide +kernel
theorem d_law_626 : decode code 626 = .ok (.iconst 3, 1) := by decide +kernel
theorem d_law_627 : decode code 627 = .ok (.iadd, 1) := by decide +kernel
theorem d_law_628 : decode code 628 = .ok (.iaload, 1) := by decide +kernel
theorem d_law_629 : decode code 629 = .ok (.invokevirtual 106, 3) := by decide +kernel
theorem d_law_632 : decode code 632 = .ok (.istore 6, 2) := by decide +kernel
theorem d_law_634 : decode code 634 = .ok (.aload_n 2, 1) := by decide +kernel
theorem d_law_635 : decode code 635 = .ok (.invokevirtual 69, 3) := by decide +kernel
theorem d_law_638 : decode code 638 = .ok (.iload 5, 2) := by decide +kernel
theorem d_law_640 : decode code 640 = .ok (.if_icmp .eq 5, 3) := by decide +kernel
theorem d_law_643 : decode code 643 = .ok (.iconst 0, 1) := by decide +kernel
theorem d_law_644 : decode code 644 = .ok (.ireturn, 1) := by decide +kernel
theorem d_law_645 : decode code 645 = .ok (.iload 5, 2) := by decide +kernel
theorem d_law_647 : decode code 647 = .ok (.ifCond .ne 15, 3) := by decide +kernel
theorem d_law_650 : decode code 650 = .ok (.aload_n 3, 1) := by decide +kernel
theorem d_law_651 : decode code 651 = .ok (.iconst 0, 1) := by decide +kernel
theorem d_law_652 : decode code 652 = .ok (.laload, 1) := by decide +kernel
theorem d_law_653 : decode code 653 = .ok (.iload 6, 2) := by decide +kernel
theorem d_law_655 : decode code 655 = .ok (.i2l, 1) := by decide +kernel
theorem d_law_656 : decode code 656 = .ok (.lcmp, 1) := by decide +kernel
theorem d_law_657 : decode code 657 = .ok (.ifCond .eq 5, 3) := by decide +kernel
theorem d_law_660 : decode code 660 = .ok (.iconst 0, 1) := by decide +kernel
theorem d_law_661 : decode code 661 = .ok (.ireturn, 1) := by decide +kernel
theorem d_law_662 : decode code 662 = .ok (.goto 176, 3) := by decide +kernel
theorem d_law_665 : decode code 665 = .ok (.aload_n 1, 1) := by decide +kernel
theorem d_law_666 : decode code 666 = .ok (.aload_n 0, 1) := by decide +kernel
theorem d_law_667 : decode code 667 = .ok (.iload 4, 2) := by decide +kernel
theorem d_law_669 : decode code 669 = .ok (.iconst 1, 1) := by decide +kernel
theorem d_law_670 : decode code 670 = .ok (.iadd, 1) := by decide +kernel
theorem d_law_671 : decode code 671 = .ok (.iaload, 1) := by decide +kernel
theorem d_law_672 : decode code 672 = .ok (.aload_n 0, 1) := by decide +kernel
theorem d_law_673 : decode code 673 = .ok (.iload 4, 2) := by decide +kernel
theorem d_law_675 : decode code 675 = .ok (.iconst 2, 1) := by decide +kernel
theorem d_law_676 : decode code 676 = .ok (.iadd, 1) := by decide +kernel
theorem d_law_677 : decode code 677 = .ok (.iaload, 1) := by decide +kernel
theorem d_law_678 : decode code 678 = .ok (.aload_n 0, 1) := by decide +kernel
theorem d_law_679 : decode code 679 = .ok (.iload 4, 2) := by decide +kernel
theorem d_law_681 : decode code 681 = .ok (.iconst 3, 1) := by decide +kernel
theorem d_law_682 : decode code 682 = .ok (.iadd, 1) := by decide +kernel
theorem d_law_683 : decode code 683 = .ok (.iaload, 1) := by decide +kernel
theorem d_law_684 : decode code 684 = .ok (.aload_n 0, 1) := by decide +kernel
theorem d_law_685 : decode code 685 = .ok (.iload 4, 2) := by decide +kernel
theorem d_law_687 : decode code 687 = .ok (.iconst 4, 1) := by decide +kernel
theorem d_law_688 : decode code 688 = .ok (.iadd, 1) := by decide +kernel
theorem d_law_689 : decode code 689 = .ok (.iaload, 1) := by decide +kernel
theorem d_law_690 : decode code 690 = .ok (.aload_n 0, 1) := by decide +kernel
theorem d_law_691 : decode code 691 = .ok (.iload 4, 2) := by decide +kernel
theorem d_law_693 : decode code 693 = .ok (.iconst 5, 1) := by decide +kernel
theorem d_law_694 : decode code 694 = .ok (.iadd, 1) := by decide +kernel
theorem d_law_695 : decode code 695 = .ok (.iaload, 1) := by decide +kernel
theorem d_law_696 : decode code 696 = .ok (.aload_n 3, 1) := by decide +kernel
theorem d_law_697 : decode code 697 = .ok (.invokestatic 107, 3) := by decide +kernel
theorem d_law_700 : decode code 700 = .ok (.istore 5, 2) := by decide +kernel
theorem d_law_702 : decode code 702 = .ok (.aload_n 2, 1) := by decide +kernel
theorem d_law_703 : decode code 703 = .ok (.aload_n 0, 1) := by decide +kernel
theorem d_law_704 : decode code 704 = .ok (.iload 4, 2) := by decide +kernel
theorem d_law_706 : decode code 706 = .ok (.iconst 1, 1) := by decide +kernel
theorem d_law_707 : decode code 707 = .ok (.iadd, 1) := by decide +kernel
theorem d_law_708 : decode code 708 = .ok (.iaload, 1) := by decide +kernel
theorem d_law_709 : decode code 709 = .ok (.aload_n 0, 1) := by decide +kernel
theorem d_law_710 : decode code 710 = .ok (.iload 4, 2) := by decide +kernel
theorem d_law_712 : decode code 712 = .ok (.iconst 2, 1) := by decide +kernel
theorem d_law_713 : decode code 713 = .ok (.iadd, 1) := by decide +kernel
theorem d_law_714 : decode code 714 = .ok (.iaload, 1) := by decide +kernel
theorem d_law_715 : decode code 715 = .ok (.aload_n 0, 1) := by decide +kernel
theorem d_law_716 : decode code 716 = .ok (.iload 4, 2) := by decide +kernel
theorem d_law_718 : decode code 718 = .ok (.iconst 3, 1) := by decide +kernel
theorem d_law_719 : decode code 719 = .ok (.iadd, 1) := by decide +kernel
theorem d_law_720 : decode code 720 = .ok (.iaload, 1) := by decide +kernel
theorem d_law_721 : decode code 721 = .ok (.aload_n 0, 1) := by decide +kernel
theorem d_law_722 : decode code 722 = .ok (.iload 4, 2) := by decide +kernel
theorem d_law_724 : decode code 724 = .ok (.iconst 4, 1) := by decide +kernel
theorem d_law_725 : decode code 725 = .ok (.iadd, 1) := by decide +kernel
theorem d_law_726 : decode code 726 = .ok (.iaload, 1) := by decide +kernel
theorem d_law_727 : decode code 727 = .ok (.aload_n 0, 1) := by decide +kernel
theorem d_law_728 : decode code 728 = .ok (.iload 4, 2) := by decide +kernel
theorem d_law_730 : decode code 730 = .ok (.iconst 5, 1) := by decide +kernel
theorem d_law_731 : decode code 731 = .ok (.iadd, 1) := by decide +kernel
theorem d_law_732 : decode code 732 = .ok (.iaload, 1) := by decide +kernel
theorem d_law_733 : decode code 733 = .ok (.invokevirtual 110, 3) := by decide +kernel
theorem d_law_736 : decode code 736 = .ok (.istore 6, 2) := by decide +kernel
theorem d_law_738 : decode code 738 = .ok (.aload_n 2, 1) := by decide +kernel
theorem d_law_739 : decode code 739 = .ok (.invokevirtual 69, 3) := by decide +kernel
theorem d_law_742 : decode code 742 = .ok (.iload 5, 2) := by decide +kernel
theorem d_law_744 : decode code 744 = .ok (.if_icmp .eq 5, 3) := by decide +kernel
theorem d_law_747 : decode code 747 = .ok (.iconst 0, 1) := by decide +kernel
theorem d_law_748 : decode code 748 = .ok (.ireturn, 1) := by decide +kernel
theorem d_law_749 : decode code 749 = .ok (.iload 5, 2) := by decide +kernel
theorem d_law_751 : decode code 751 = .ok (.ifCond .ne 15, 3) := by decide +kernel
theorem d_law_754 : decode code 754 = .ok (.aload_n 3, 1) := by decide +kernel
theorem d_law_755 : decode code 755 = .ok (.iconst 0, 1) := by decide +kernel
theorem d_law_756 : decode code 756 = .ok (.laload, 1) := by decide +kernel
theorem d_law_757 : decode code 757 = .ok (.iload 6, 2) := by decide +kernel
theorem d_law_759 : decode code 759 = .ok (.i2l, 1) := by decide +kernel
theorem d_law_760 : decode code 760 = .ok (.lcmp, 1) := by decide +kernel
theorem d_law_761 : decode code 761 = .ok (.ifCond .eq 5, 3) := by decide +kernel
theorem d_law_764 : decode code 764 = .ok (.iconst 0, 1) := by decide +kernel
theorem d_law_765 : decode code 765 = .ok (.ireturn, 1) := by decide +kernel
theorem d_law_766 : decode code 766 = .ok (.goto 72, 3) := by decide +kernel
theorem d_law_769 : decode code 769 = .ok (.aload_n 1, 1) := by decide +kernel
theorem d_law_770 : decode code 770 = .ok (.invokevirtual 111, 3) := by decide +kernel
theorem d_law_773 : decode code 773 = .ok (.aload_n 2, 1) := by decide +kernel
theorem d_law_774 : decode code 774 = .ok (.invokevirtual 114, 3) := by decide +kernel
theorem d_law_777 : decode code 777 = .ok (.if_icmp .eq 61, 3) := by decide +kernel
theorem d_law_780 : decode code 780 = .ok (.iconst 0, 1) := by decide +kernel
theorem d_law_781 : decode code 781 = .ok (.ireturn, 1) := by decide +kernel
theorem d_law_782 : decode code 782 = .ok (.aload_n 1, 1) := by decide +kernel
theorem d_law_783 : decode code 783 = .ok (.aload_n 0, 1) := by decide +kernel
theorem d_law_784 : decode code 784 = .ok (.iload 4, 2) := by decide +kernel
theorem d_law_786 : decode code 786 = .ok (.iconst 1, 1) := by decide +kernel
theorem d_law_787 : decode code 787 = .ok (.iadd, 1) := by decide +kernel
theorem d_law_788 : decode code 788 = .ok (.iaload, 1) := by decide +kernel
theorem d_law_789 : decode code 789 = .ok (.aload_n 3, 1) := by decide +kernel
theorem d_law_790 : decode code 790 = .ok (.invokestatic 115, 3) := by decide +kernel
theorem d_law_793 : decode code 793 = .ok (.istore 5, 2) := by decide +kernel
theorem d_law_795 : decode code 795 = .ok (.aload_n 2, 1) := by decide +kernel
theorem d_law_796 : decode code 796 = .ok (.aload_n 0, 1) := by decide +kernel
theorem d_law_797 : decode code 797 = .ok (.iload 4, 2) := by decide +kernel
theorem d_law_799 : decode code 799 = .ok (.iconst 1, 1) := by decide +kernel
theorem d_law_800 : decode code 800 = .ok (.iadd, 1) := by decide +kernel
theorem d_law_801 : decode code 801 = .ok (.iaload, 1) := by decide +kernel
theorem d_law_802 : decode code 802 = .ok (.invokevirtual 117, 3) := by decide +kernel
theorem d_law_805 : decode code 805 = .ok (.istore 6, 2) := by decide +kernel
theorem d_law_807 : decode code 807 = .ok (.aload_n 2, 1) := by decide +kernel
theorem d_law_808 : decode code 808 = .ok (.invokevirtual 69, 3) := by decide +kernel
theorem d_law_811 : decode code 811 = .ok (.iload 5, 2) := by decide +kernel
theorem d_law_813 : decode code 813 = .ok (.if_icmp .eq 5, 3) := by decide +kernel
theorem d_law_816 : decode code 816 = .ok (.iconst 0, 1) := by decide +kernel
theorem d_law_817 : decode code 817 = .ok (.ireturn, 1) := by decide +kernel
theorem d_law_818 : decode code 818 = .ok (.iload 5, 2) := by decide +kernel
theorem d_law_820 : decode code 820 = .ok (.ifCond .ne 15, 3) := by decide +kernel
theorem d_law_823 : decode code 823 = .ok (.aload_n 3, 1) := by decide +kernel
theorem d_law_824 : decode code 824 = .ok (.iconst 0, 1) := by decide +kernel
theorem d_law_825 : decode code 825 = .ok (.laload, 1) := by decide +kernel
theorem d_law_826 : decode code 826 = .ok (.iload 6, 2) := by decide +kernel
theorem d_law_828 : decode code 828 = .ok (.i2l, 1) := by decide +kernel
theorem d_law_829 : decode code 829 = .ok (.lcmp, 1) := by decide +kernel
theorem d_law_830 : decode code 830 = .ok (.ifCond .eq 5, 3) := by decide +kernel
theorem d_law_833 : decode code 833 = .ok (.iconst 0, 1) := by decide +kernel
theorem d_law_834 : decode code 834 = .ok (.ireturn, 1) := by decide +kernel
theorem d_law_835 : decode code 835 = .ok (.goto 3, 3) := by decide +kernel
theorem d_law_838 : decode code 838 = .ok (.iinc 4 6, 3) := by decide +kernel
theorem d_law_841 : decode code 841 = .ok (.goto (-798), 3) := by decide +kernel
theorem d_law_844 : decode code 844 = .ok (.iconst 1, 1) := by decide +kernel
theorem d_law_845 : decode code 845 = .ok (.ireturn, 1) := by decide +kernel
theorem q_codew_XL_begin : (Jvm.Cond.codeWith ({ cls := "StreamEndLaw", name := "begin", desc := "(LStreamEnd;IZ)I" } : Jvm.MethodName) method_3_code (4 : Nat) (Option.some Jvm.ClassFile.FieldType.int) [((0 : Nat), (6 : Nat), (9 : Nat), (13 : Nat))]) ∈ se_all := se_in 395 (by decide +kernel) (by decide +kernel)
theorem qXL_m65 : (Jvm.Cond.methodLink "StreamEndLaw" (65 : Nat) ({ cls := "StreamEndLaw", name := "begin", desc := "(LStreamEnd;IZ)I" } : Jvm.MethodName)) ∈ se_all := se_in 393 (by decide +kernel) (by decide +kernel)
theorem q_ini_StreamEndLaw : (Jvm.Cond.initialized "StreamEndLaw") ∈ se_all := se_in 0 (by decide +kernel) (by decide +kernel)
theorem q_static_XL_begin : (Jvm.Cond.static ({ cls := "StreamEndLaw", name := "begin", desc := "(LStreamEnd;IZ)I" } : Jvm.MethodName)) ∈ se_all := se_in 394 (by decide +kernel) (by decide +kernel)
theorem q_code_X6_begin : (Jvm.Cond.code ({ cls := "StreamEndModel", name := "begin", desc := "(IZ)V" } : Jvm.MethodName) prog_8_method_6_code (3 : Nat) (Option.none : Option Jvm.ClassFile.FieldType)) ∈ se_all := se_in 979 (by decide +kernel) (by decide +kernel)
theorem qXL_m68 : (Jvm.Cond.methodLink "StreamEndLaw" (68 : Nat) ({ cls := "StreamEndModel", name := "begin", desc := "(IZ)V" } : Jvm.MethodName)) ∈ se_all := se_in 976 (by decide +kernel) (by decide +kernel)
theorem q_instanceMethod_X6_begin : (Jvm.Cond.instanceMethod ({ cls := "StreamEndModel", name := "begin", desc := "(IZ)V" } : Jvm.MethodName)) ∈ se_all := se_in 977 (by decide +kernel) (by decide +kernel)
theorem q_sel_X6_begin : (Jvm.Cond.selects "StreamEndModel" ({ cls := "StreamEndModel", name := "begin", desc := "(IZ)V" } : Jvm.MethodName) ({ cls := "StreamEndModel", name := "begin", desc := "(IZ)V" } : Jvm.MethodName)) ∈ se_all := se_in 978 (by decide +kernel) (by decide +kernel)
theorem q_code_X6_thrown : (Jvm.Cond.code ({ cls := "StreamEndModel", name := "thrown", desc := "()I" } : Jvm.MethodName) prog_8_method_2_code (1 : Nat) (Option.some Jvm.ClassFile.FieldType.int)) ∈ se_all := se_in 975 (by decide +kernel) (by decide +kernel)
theorem qXL_m69 : (Jvm.Cond.methodLink "StreamEndLaw" (69 : Nat) ({ cls := "StreamEndModel", name := "thrown", desc := "()I" } : Jvm.MethodName)) ∈ se_all := se_in 972 (by decide +kernel) (by decide +kernel)
theorem q_instanceMethod_X6_thrown : (Jvm.Cond.instanceMethod ({ cls := "StreamEndModel", name := "thrown", desc := "()I" } : Jvm.MethodName)) ∈ se_all := se_in 973 (by decide +kernel) (by decide +kernel)
theorem q_sel_X6_thrown : (Jvm.Cond.selects "StreamEndModel" ({ cls := "StreamEndModel", name := "thrown", desc := "()I" } : Jvm.MethodName) ({ cls := "StreamEndModel", name := "thrown", desc := "()I" } : Jvm.MethodName)) ∈ se_all := se_in 974 (by decide +kernel) (by decide +kernel)
theorem qXL_k72 : (Jvm.Cond.constantLong "StreamEndLaw" (72 : Nat) (4294967295 : Int64)) ∈ se_all := se_in 1154 (by decide +kernel) (by decide +kernel)
theorem q_codew_XL_write : (Jvm.Cond.codeWith ({ cls := "StreamEndLaw", name := "write", desc := "(LStreamEnd;JI[J)I" } : Jvm.MethodName) method_4_code (6 : Nat) (Option.some Jvm.ClassFile.FieldType.int) [((0 : Nat), (11 : Nat), (14 : Nat), (19 : Nat)), ((0 : Nat), (11 : Nat), (18 : Nat), (13 : Nat))]) ∈ se_all := se_in 506 (by decide +kernel) (by decide +kernel)
theorem qXL_m74 : (Jvm.Cond.methodLink "StreamEndLaw" (74 : Nat) ({ cls := "StreamEndLaw", name := "write", desc := "(LStreamEnd;JI[J)I" } : Jvm.MethodName)) ∈ se_all := se_in 504 (by decide +kernel) (by decide +kernel)
theorem q_static_XL_write : (Jvm.Cond.static ({ cls := "StreamEndLaw", name := "write", desc := "(LStreamEnd;JI[J)I" } : Jvm.MethodName)) ∈ se_all := se_in 505 (by decide +kernel) (by decide +kernel)
theorem q_code_X6_write : (Jvm.Cond.code ({ cls := "StreamEndModel", name := "write", desc := "(JI)I" } : Jvm.MethodName) prog_8_method_7_code (7 : Nat) (Option.some Jvm.ClassFile.FieldType.int)) ∈ se_all := se_in 991 (by decide +kernel) (by decide +kernel)
theorem qXL_m77 : (Jvm.Cond.methodLink "StreamEndLaw" (77 : Nat) ({ cls := "StreamEndModel", name := "write", desc := "(JI)I" } : Jvm.MethodName)) ∈ se_all := se_in 988 (by decide +kernel) (by decide +kernel)
theorem q_instanceMethod_X6_write : (Jvm.Cond.instanceMethod ({ cls := "StreamEndModel", name := "write", desc := "(JI)I" } : Jvm.MethodName)) ∈ se_all := se_in 989 (by decide +kernel) (by decide +kernel)
theorem q_sel_X6_write : (Jvm.Cond.selects "StreamEndModel" ({ cls := "StreamEndModel", name := "write", desc := "(JI)I" } : Jvm.MethodName) ({ cls := "StreamEndModel", name := "write", desc := "(JI)I" } : Jvm.MethodName)) ∈ se_all := se_in 990 (by decide +kernel) (by decide +kernel)
theorem q_codew_XL_read : (Jvm.Cond.codeWith ({ cls := "StreamEndLaw", name := "read", desc := "(LStreamEnd;[J)I" } : Jvm.MethodName) method_5_code (3 : Nat) (Option.some Jvm.ClassFile.FieldType.int) [((0 : Nat), (8 : Nat), (11 : Nat), (13 : Nat))]) ∈ se_all := se_in 558 (by decide +kernel) (by decide +kernel)
theorem qXL_m78 : (Jvm.Cond.methodLink "StreamEndLaw" (78 : Nat) ({ cls := "StreamEndLaw", name := "read", desc := "(LStreamEnd;[J)I" } : Jvm.MethodName)) ∈ se_all := se_in 556 (by decide +kernel) (by decide +kernel)
theorem q_static_XL_read : (Jvm.Cond.static ({ cls := "StreamEndLaw", name := "read", desc := "(LStreamEnd;[J)I" } : Jvm.MethodName)) ∈ se_all := se_in 557 (by decide +kernel) (by decide +kernel)
theorem q_code_X6_read : (Jvm.Cond.code ({ cls := "StreamEndModel", name := "read", desc := "()I" } : Jvm.MethodName) prog_8_method_10_code (4 : Nat) (Option.some Jvm.ClassFile.FieldType.int)) ∈ se_all := se_in 1012 (by decide +kernel) (by decide +kernel)
theorem qXL_m81 : (Jvm.Cond.methodLink "StreamEndLaw" (81 : Nat) ({ cls := "StreamEndModel", name := "read", desc := "()I" } : Jvm.MethodName)) ∈ se_all := se_in 1009 (by decide +kernel) (by decide +kernel)
theorem q_instanceMethod_X6_read : (Jvm.Cond.instanceMethod ({ cls := "StreamEndModel", name := "read", desc := "()I" } : Jvm.MethodName)) ∈ se_all := se_in 1010 (by decide +kernel) (by decide +kernel)
theorem q_sel_X6_read : (Jvm.Cond.selects "StreamEndModel" ({ cls := "StreamEndModel", name := "read", desc := "()I" } : Jvm.MethodName) ({ cls := "StreamEndModel", name := "read", desc := "()I" } : Jvm.MethodName)) ∈ se_all := se_in 1011 (by decide +kernel) (by decide +kernel)
theorem q_codew_XL_close : (Jvm.Cond.codeWith ({ cls := "StreamEndLaw", name := "close", desc := "(LStreamEnd;)I" } : Jvm.MethodName) method_6_code (2 : Nat) (Option.some Jvm.ClassFile.FieldType.int) [((0 : Nat), (4 : Nat), (7 : Nat), (13 : Nat))]) ∈ se_all := se_in 578 (by decide +kernel) (by decide +kernel)
theorem qXL_m82 : (Jvm.Cond.methodLink "StreamEndLaw" (82 : Nat) ({ cls := "StreamEndLaw", name := "close", desc := "(LStreamEnd;)I" } : Jvm.MethodName)) ∈ se_all := se_in 576 (by decide +kernel) (by decide +kernel)
theorem q_static_XL_close : (Jvm.Cond.static ({ cls := "StreamEndLaw", name := "close", desc := "(LStreamEnd;)I" } : Jvm.MethodName)) ∈ se_all := se_in 577 (by decide +kernel) (by decide +kernel)
theorem q_code_X6_close : (Jvm.Cond.code ({ cls := "StreamEndModel", name := "close", desc := "()V" } : Jvm.MethodName) prog_8_method_11_code (1 : Nat) (Option.none : Option Jvm.ClassFile.FieldType)) ∈ se_all := se_in 1024 (by decide +kernel) (by decide +kernel)
theorem qXL_m85 : (Jvm.Cond.methodLink "StreamEndLaw" (85 : Nat) ({ cls := "StreamEndModel", name := "close", desc := "()V" } : Jvm.MethodName)) ∈ se_all := se_in 1021 (by decide +kernel) (by decide +kernel)
theorem q_instanceMethod_X6_close : (Jvm.Cond.instanceMethod ({ cls := "StreamEndModel", name := "close", desc := "()V" } : Jvm.MethodName)) ∈ se_all := se_in 1022 (by decide +kernel) (by decide +kernel)
theorem q_sel_X6_close : (Jvm.Cond.selects "StreamEndModel" ({ cls := "StreamEndModel", name := "close", desc := "()V" } : Jvm.MethodName) ({ cls := "StreamEndModel", name := "close", desc := "()V" } : Jvm.MethodName)) ∈ se_all := se_in 1023 (by decide +kernel) (by decide +kernel)
theorem q_codew_XL_abort : (Jvm.Cond.codeWith ({ cls := "StreamEndLaw", name := "abort", desc := "(LStreamEnd;)I" } : Jvm.MethodName) method_7_code (2 : Nat) (Option.some Jvm.ClassFile.FieldType.int) [((0 : Nat), (4 : Nat), (7 : Nat), (13 : Nat))]) ∈ se_all := se_in 595 (by decide +kernel) (by decide +kernel)
theorem qXL_m86 : (Jvm.Cond.methodLink "StreamEndLaw" (86 : Nat) ({ cls := "StreamEndLaw", name := "abort", desc := "(LStreamEnd;)I" } : Jvm.MethodName)) ∈ se_all := se_in 593 (by decide +kernel) (by decide +kernel)
theorem q_static_XL_abort : (Jvm.Cond.static ({ cls := "StreamEndLaw", name := "abort", desc := "(LStreamEnd;)I" } : Jvm.MethodName)) ∈ se_all := se_in 594 (by decide +kernel) (by decide +kernel)
theorem q_code_X6_abort : (Jvm.Cond.code ({ cls := "StreamEndModel", name := "abort", desc := "()V" } : Jvm.MethodName) prog_8_method_12_code (1 : Nat) (Option.none : Option Jvm.ClassFile.FieldType)) ∈ se_all := se_in 1032 (by decide +kernel) (by decide +kernel)
theorem qXL_m88 : (Jvm.Cond.methodLink "StreamEndLaw" (88 : Nat) ({ cls := "StreamEndModel", name := "abort", desc := "()V" } : Jvm.MethodName)) ∈ se_all := se_in 1029 (by decide +kernel) (by decide +kernel)
theorem q_instanceMethod_X6_abort : (Jvm.Cond.instanceMethod ({ cls := "StreamEndModel", name := "abort", desc := "()V" } : Jvm.MethodName)) ∈ se_all := se_in 1030 (by decide +kernel) (by decide +kernel)
theorem q_sel_X6_abort : (Jvm.Cond.selects "StreamEndModel" ({ cls := "StreamEndModel", name := "abort", desc := "()V" } : Jvm.MethodName) ({ cls := "StreamEndModel", name := "abort", desc := "()V" } : Jvm.MethodName)) ∈ se_all := se_in 1031 (by decide +kernel) (by decide +kernel)
theorem q_codew_XL_run : (Jvm.Cond.codeWith ({ cls := "StreamEndLaw", name := "run", desc := "(LStreamEnd;I[J)I" } : Jvm.MethodName) method_8_code (4 : Nat) (Option.some Jvm.ClassFile.FieldType.int) [((0 : Nat), (9 : Nat), (12 : Nat), (19 : Nat)), ((0 : Nat), (9 : Nat), (15 : Nat), (13 : Nat))]) ∈ se_all := se_in 607 (by decide +kernel) (by decide +kernel)
theorem qXL_m89 : (Jvm.Cond.methodLink "StreamEndLaw" (89 : Nat) ({ cls := "StreamEndLaw", name := "run", desc := "(LStreamEnd;I[J)I" } : Jvm.MethodName)) ∈ se_all := se_in 605 (by decide +kernel) (by decide +kernel)
theorem q_static_XL_run : (Jvm.Cond.static ({ cls := "StreamEndLaw", name := "run", desc := "(LStreamEnd;I[J)I" } : Jvm.MethodName)) ∈ se_all := se_in 606 (by decide +kernel) (by decide +kernel)
theorem q_code_X6_run : (Jvm.Cond.code ({ cls := "StreamEndModel", name := "run", desc := "(I)I" } : Jvm.MethodName) prog_8_method_18_code (3 : Nat) (Option.some Jvm.ClassFile.FieldType.int)) ∈ se_all := se_in 1036 (by decide +kernel) (by decide +kernel)
theorem qXL_m92 : (Jvm.Cond.methodLink "StreamEndLaw" (92 : Nat) ({ cls := "StreamEndModel", name := "run", desc := "(I)I" } : Jvm.MethodName)) ∈ se_all := se_in 1033 (by decide +kernel) (by decide +kernel)
theorem q_instanceMethod_X6_run : (Jvm.Cond.instanceMethod ({ cls := "StreamEndModel", name := "run", desc := "(I)I" } : Jvm.MethodName)) ∈ se_all := se_in 1034 (by decide +kernel) (by decide +kernel)
theorem q_sel_X6_run : (Jvm.Cond.selects "StreamEndModel" ({ cls := "StreamEndModel", name := "run", desc := "(I)I" } : Jvm.MethodName) ({ cls := "StreamEndModel", name := "run", desc := "(I)I" } : Jvm.MethodName)) ∈ se_all := se_in 1035 (by decide +kernel) (by decide +kernel)
theorem q_code_X5_next : (Jvm.Cond.code ({ cls := "StreamEnd", name := "next", desc := "()Z" } : Jvm.MethodName) prog_1_method_8_code (1 : Nat) (Option.some Jvm.ClassFile.FieldType.boolean)) ∈ se_all := se_in 291 (by decide +kernel) (by decide +kernel)
theorem qXL_m93 : (Jvm.Cond.methodLink "StreamEndLaw" (93 : Nat) ({ cls := "StreamEnd", name := "next", desc := "()Z" } : Jvm.MethodName)) ∈ se_all := se_in 288 (by decide +kernel) (by decide +kernel)
theorem q_instanceMethod_X5_next : (Jvm.Cond.instanceMethod ({ cls := "StreamEnd", name := "next", desc := "()Z" } : Jvm.MethodName)) ∈ se_all := se_in 289 (by decide +kernel) (by decide +kernel)
theorem q_sel_X5_next : (Jvm.Cond.selects "StreamEnd" ({ cls := "StreamEnd", name := "next", desc := "()Z" } : Jvm.MethodName) ({ cls := "StreamEnd", name := "next", desc := "()Z" } : Jvm.MethodName)) ∈ se_all := se_in 290 (by decide +kernel) (by decide +kernel)
theorem q_code_X6_next : (Jvm.Cond.code ({ cls := "StreamEndModel", name := "next", desc := "()Z" } : Jvm.MethodName) prog_8_method_42_code (1 : Nat) (Option.some Jvm.ClassFile.FieldType.boolean)) ∈ se_all := se_in 1109 (by decide +kernel) (by decide +kernel)
theorem qXL_m97 : (Jvm.Cond.methodLink "StreamEndLaw" (97 : Nat) ({ cls := "StreamEndModel", name := "next", desc := "()Z" } : Jvm.MethodName)) ∈ se_all := se_in 1106 (by decide +kernel) (by decide +kernel)
theorem q_instanceMethod_X6_next : (Jvm.Cond.instanceMethod ({ cls := "StreamEndModel", name := "next", desc := "()Z" } : Jvm.MethodName)) ∈ se_all := se_in 1107 (by decide +kernel) (by decide +kernel)
theorem q_sel_X6_next : (Jvm.Cond.selects "StreamEndModel" ({ cls := "StreamEndModel", name := "next", desc := "()Z" } : Jvm.MethodName) ({ cls := "StreamEndModel", name := "next", desc := "()Z" } : Jvm.MethodName)) ∈ se_all := se_in 1108 (by decide +kernel) (by decide +kernel)
theorem q_codew_XL_segment : (Jvm.Cond.codeWith ({ cls := "StreamEndLaw", name := "segment", desc := "(LStreamEnd;I[J)I" } : Jvm.MethodName) method_9_code (4 : Nat) (Option.some Jvm.ClassFile.FieldType.int) [((0 : Nat), (9 : Nat), (12 : Nat), (19 : Nat)), ((0 : Nat), (9 : Nat), (15 : Nat), (13 : Nat))]) ∈ se_all := se_in 635 (by decide +kernel) (by decide +kernel)
theorem qXL_m98 : (Jvm.Cond.methodLink "StreamEndLaw" (98 : Nat) ({ cls := "StreamEndLaw", name := "segment", desc := "(LStreamEnd;I[J)I" } : Jvm.MethodName)) ∈ se_all := se_in 633 (by decide +kernel) (by decide +kernel)
theorem q_static_XL_segment : (Jvm.Cond.static ({ cls := "StreamEndLaw", name := "segment", desc := "(LStreamEnd;I[J)I" } : Jvm.MethodName)) ∈ se_all := se_in 634 (by decide +kernel) (by decide +kernel)
theorem q_code_X6_segment : (Jvm.Cond.code ({ cls := "StreamEndModel", name := "segment", desc := "(I)I" } : Jvm.MethodName) prog_8_method_43_code (2 : Nat) (Option.some Jvm.ClassFile.FieldType.int)) ∈ se_all := se_in 1141 (by decide +kernel) (by decide +kernel)
theorem qXL_m100 : (Jvm.Cond.methodLink "StreamEndLaw" (100 : Nat) ({ cls := "StreamEndModel", name := "segment", desc := "(I)I" } : Jvm.MethodName)) ∈ se_all := se_in 1138 (by decide +kernel) (by decide +kernel)
theorem q_instanceMethod_X6_segment : (Jvm.Cond.instanceMethod ({ cls := "StreamEndModel", name := "segment", desc := "(I)I" } : Jvm.MethodName)) ∈ se_all := se_in 1139 (by decide +kernel) (by decide +kernel)
theorem q_sel_X6_segment : (Jvm.Cond.selects "StreamEndModel" ({ cls := "StreamEndModel", name := "segment", desc := "(I)I" } : Jvm.MethodName) ({ cls := "StreamEndModel", name := "segment", desc := "(I)I" } : Jvm.MethodName)) ∈ se_all := se_in 1140 (by decide +kernel) (by decide +kernel)
theorem q_codew_XL_byteAt : (Jvm.Cond.codeWith ({ cls := "StreamEndLaw", name := "byteAt", desc := "(LStreamEnd;I[J)I" } : Jvm.MethodName) method_10_code (4 : Nat) (Option.some Jvm.ClassFile.FieldType.int) [((0 : Nat), (9 : Nat), (12 : Nat), (13 : Nat)), ((0 : Nat), (9 : Nat), (15 : Nat), (41 : Nat))]) ∈ se_all := se_in 644 (by decide +kernel) (by decide +kernel)
theorem qXL_m101 : (Jvm.Cond.methodLink "StreamEndLaw" (101 : Nat) ({ cls := "StreamEndLaw", name := "byteAt", desc := "(LStreamEnd;I[J)I" } : Jvm.MethodName)) ∈ se_all := se_in 642 (by decide +kernel) (by decide +kernel)
theorem q_static_XL_byteAt : (Jvm.Cond.static ({ cls := "StreamEndLaw", name := "byteAt", desc := "(LStreamEnd;I[J)I" } : Jvm.MethodName)) ∈ se_all := se_in 643 (by decide +kernel) (by decide +kernel)
theorem q_code_X6_byteAt : (Jvm.Cond.code ({ cls := "StreamEndModel", name := "byteAt", desc := "(I)I" } : Jvm.MethodName) prog_8_method_44_code (2 : Nat) (Option.some Jvm.ClassFile.FieldType.int)) ∈ se_all := se_in 1145 (by decide +kernel) (by decide +kernel)
theorem qXL_m103 : (Jvm.Cond.methodLink "StreamEndLaw" (103 : Nat) ({ cls := "StreamEndModel", name := "byteAt", desc := "(I)I" } : Jvm.MethodName)) ∈ se_all := se_in 1142 (by decide +kernel) (by decide +kernel)
theorem q_instanceMethod_X6_byteAt : (Jvm.Cond.instanceMethod ({ cls := "StreamEndModel", name := "byteAt", desc := "(I)I" } : Jvm.MethodName)) ∈ se_all := se_in 1143 (by decide +kernel) (by decide +kernel)
theorem q_sel_X6_byteAt : (Jvm.Cond.selects "StreamEndModel" ({ cls := "StreamEndModel", name := "byteAt", desc := "(I)I" } : Jvm.MethodName) ({ cls := "StreamEndModel", name := "byteAt", desc := "(I)I" } : Jvm.MethodName)) ∈ se_all := se_in 1144 (by decide +kernel) (by decide +kernel)
theorem q_codew_XL_feed : (Jvm.Cond.codeWith ({ cls := "StreamEndLaw", name := "feed", desc := "(LStreamEnd;JI[J)I" } : Jvm.MethodName) method_11_code (6 : Nat) (Option.some Jvm.ClassFile.FieldType.int) [((0 : Nat), (11 : Nat), (14 : Nat), (19 : Nat)), ((0 : Nat), (11 : Nat), (18 : Nat), (13 : Nat))]) ∈ se_all := se_in 668 (by decide +kernel) (by decide +kernel)
theorem qXL_m104 : (Jvm.Cond.methodLink "StreamEndLaw" (104 : Nat) ({ cls := "StreamEndLaw", name := "feed", desc := "(LStreamEnd;JI[J)I" } : Jvm.MethodName)) ∈ se_all := se_in 666 (by decide +kernel) (by decide +kernel)
theorem q_static_XL_feed : (Jvm.Cond.static ({ cls := "StreamEndLaw", name := "feed", desc := "(LStreamEnd;JI[J)I" } : Jvm.MethodName)) ∈ se_all := se_in 667 (by decide +kernel) (by decide +kernel)
theorem q_code_X6_feed : (Jvm.Cond.code ({ cls := "StreamEndModel", name := "feed", desc := "(JI)I" } : Jvm.MethodName) prog_8_method_20_code (5 : Nat) (Option.some Jvm.ClassFile.FieldType.int)) ∈ se_all := se_in 1045 (by decide +kernel) (by decide +kernel)
theorem qXL_m106 : (Jvm.Cond.methodLink "StreamEndLaw" (106 : Nat) ({ cls := "StreamEndModel", name := "feed", desc := "(JI)I" } : Jvm.MethodName)) ∈ se_all := se_in 1042 (by decide +kernel) (by decide +kernel)
theorem q_instanceMethod_X6_feed : (Jvm.Cond.instanceMethod ({ cls := "StreamEndModel", name := "feed", desc := "(JI)I" } : Jvm.MethodName)) ∈ se_all := se_in 1043 (by decide +kernel) (by decide +kernel)
theorem q_sel_X6_feed : (Jvm.Cond.selects "StreamEndModel" ({ cls := "StreamEndModel", name := "feed", desc := "(JI)I" } : Jvm.MethodName) ({ cls := "StreamEndModel", name := "feed", desc := "(JI)I" } : Jvm.MethodName)) ∈ se_all := se_in 1044 (by decide +kernel) (by decide +kernel)
theorem q_codew_XL_arrive : (Jvm.Cond.codeWith ({ cls := "StreamEndLaw", name := "arrive", desc := "(LStreamEnd;IIIII[J)I" } : Jvm.MethodName) method_12_code (8 : Nat) (Option.some Jvm.ClassFile.FieldType.int) [((0 : Nat), (16 : Nat), (19 : Nat), (19 : Nat))]) ∈ se_all := se_in 678 (by decide +kernel) (by decide +kernel)
theorem qXL_m107 : (Jvm.Cond.methodLink "StreamEndLaw" (107 : Nat) ({ cls := "StreamEndLaw", name := "arrive", desc := "(LStreamEnd;IIIII[J)I" } : Jvm.MethodName)) ∈ se_all := se_in 676 (by decide +kernel) (by decide +kernel)
theorem q_static_XL_arrive : (Jvm.Cond.static ({ cls := "StreamEndLaw", name := "arrive", desc := "(LStreamEnd;IIIII[J)I" } : Jvm.MethodName)) ∈ se_all := se_in 677 (by decide +kernel) (by decide +kernel)
theorem q_code_X6_arrive : (Jvm.Cond.code ({ cls := "StreamEndModel", name := "arrive", desc := "(IIIII)I" } : Jvm.MethodName) prog_8_method_34_code (7 : Nat) (Option.some Jvm.ClassFile.FieldType.int)) ∈ se_all := se_in 1049 (by decide +kernel) (by decide +kernel)
theorem qXL_m110 : (Jvm.Cond.methodLink "StreamEndLaw" (110 : Nat) ({ cls := "StreamEndModel", name := "arrive", desc := "(IIIII)I" } : Jvm.MethodName)) ∈ se_all := se_in 1046 (by decide +kernel) (by decide +kernel)
theorem q_instanceMethod_X6_arrive : (Jvm.Cond.instanceMethod ({ cls := "StreamEndModel", name := "arrive", desc := "(IIIII)I" } : Jvm.MethodName)) ∈ se_all := se_in 1047 (by decide +kernel) (by decide +kernel)
theorem q_sel_X6_arrive : (Jvm.Cond.selects "StreamEndModel" ({ cls := "StreamEndModel", name := "arrive", desc := "(IIIII)I" } : Jvm.MethodName) ({ cls := "StreamEndModel", name := "arrive", desc := "(IIIII)I" } : Jvm.MethodName)) ∈ se_all := se_in 1048 (by decide +kernel) (by decide +kernel)
theorem q_code_X5_state : (Jvm.Cond.code ({ cls := "StreamEnd", name := "state", desc := "()I" } : Jvm.MethodName) prog_1_method_13_code (1 : Nat) (Option.some Jvm.ClassFile.FieldType.int)) ∈ se_all := se_in 389 (by decide +kernel) (by decide +kernel)
theorem qXL_m111 : (Jvm.Cond.methodLink "StreamEndLaw" (111 : Nat) ({ cls := "StreamEnd", name := "state", desc := "()I" } : Jvm.MethodName)) ∈ se_all := se_in 386 (by decide +kernel) (by decide +kernel)
theorem q_instanceMethod_X5_state : (Jvm.Cond.instanceMethod ({ cls := "StreamEnd", name := "state", desc := "()I" } : Jvm.MethodName)) ∈ se_all := se_in 387 (by decide +kernel) (by decide +kernel)
theorem q_sel_X5_state : (Jvm.Cond.selects "StreamEnd" ({ cls := "StreamEnd", name := "state", desc := "()I" } : Jvm.MethodName) ({ cls := "StreamEnd", name := "state", desc := "()I" } : Jvm.MethodName)) ∈ se_all := se_in 388 (by decide +kernel) (by decide +kernel)
theorem q_code_X6_state : (Jvm.Cond.code ({ cls := "StreamEndModel", name := "state", desc := "()I" } : Jvm.MethodName) prog_8_method_45_code (1 : Nat) (Option.some Jvm.ClassFile.FieldType.int)) ∈ se_all := se_in 1149 (by decide +kernel) (by decide +kernel)
theorem qXL_m114 : (Jvm.Cond.methodLink "StreamEndLaw" (114 : Nat) ({ cls := "StreamEndModel", name := "state", desc := "()I" } : Jvm.MethodName)) ∈ se_all := se_in 1146 (by decide +kernel) (by decide +kernel)
theorem q_instanceMethod_X6_state : (Jvm.Cond.instanceMethod ({ cls := "StreamEndModel", name := "state", desc := "()I" } : Jvm.MethodName)) ∈ se_all := se_in 1147 (by decide +kernel) (by decide +kernel)
theorem q_sel_X6_state : (Jvm.Cond.selects "StreamEndModel" ({ cls := "StreamEndModel", name := "state", desc := "()I" } : Jvm.MethodName) ({ cls := "StreamEndModel", name := "state", desc := "()I" } : Jvm.MethodName)) ∈ se_all := se_in 1148 (by decide +kernel) (by decide +kernel)
theorem q_codew_XL_figure : (Jvm.Cond.codeWith ({ cls := "StreamEndLaw", name := "figure", desc := "(LStreamEnd;I[J)I" } : Jvm.MethodName) method_13_code (4 : Nat) (Option.some Jvm.ClassFile.FieldType.int) [((0 : Nat), (9 : Nat), (12 : Nat), (19 : Nat))]) ∈ se_all := se_in 808 (by decide +kernel) (by decide +kernel)
theorem qXL_m115 : (Jvm.Cond.methodLink "StreamEndLaw" (115 : Nat) ({ cls := "StreamEndLaw", name := "figure", desc := "(LStreamEnd;I[J)I" } : Jvm.MethodName)) ∈ se_all := se_in 806 (by decide +kernel) (by decide +kernel)
theorem q_static_XL_figure : (Jvm.Cond.static ({ cls := "StreamEndLaw", name := "figure", desc := "(LStreamEnd;I[J)I" } : Jvm.MethodName)) ∈ se_all := se_in 807 (by decide +kernel) (by decide +kernel)
theorem q_code_X6_figure : (Jvm.Cond.code ({ cls := "StreamEndModel", name := "figure", desc := "(I)I" } : Jvm.MethodName) prog_8_method_46_code (2 : Nat) (Option.some Jvm.ClassFile.FieldType.int)) ∈ se_all := se_in 1153 (by decide +kernel) (by decide +kernel)
theorem qXL_m117 : (Jvm.Cond.methodLink "StreamEndLaw" (117 : Nat) ({ cls := "StreamEndModel", name := "figure", desc := "(I)I" } : Jvm.MethodName)) ∈ se_all := se_in 1150 (by decide +kernel) (by decide +kernel)
theorem q_instanceMethod_X6_figure : (Jvm.Cond.instanceMethod ({ cls := "StreamEndModel", name := "figure", desc := "(I)I" } : Jvm.MethodName)) ∈ se_all := se_in 1151 (by decide +kernel) (by decide +kernel)
theorem q_sel_X6_figure : (Jvm.Cond.selects "StreamEndModel" ({ cls := "StreamEndModel", name := "figure", desc := "(I)I" } : Jvm.MethodName) ({ cls := "StreamEndModel", name := "figure", desc := "(I)I" } : Jvm.MethodName)) ∈ se_all := se_in 1152 (by decide +kernel) (by decide +kernel)
theorem q_inst_X5 : (Jvm.Cond.instantiable "StreamEnd" (12 : Nat)) ∈ se_all := se_in 17 (by decide +kernel) (by decide +kernel)
theorem q_inst_X6 : (Jvm.Cond.instantiable "StreamEndModel" (50 : Nat)) ∈ se_all := se_in 815 (by decide +kernel) (by decide +kernel)
theorem qXL_c8 : (Jvm.Cond.classLink "StreamEndLaw" (8 : Nat) "StreamEnd") ∈ se_all := se_in 16 (by decide +kernel) (by decide +kernel)
theorem q_code_XL_cell : (Jvm.Cond.code ({ cls := "StreamEndLaw", name := "cell", desc := "([II)I" } : Jvm.MethodName) method_2_code (2 : Nat) (Option.some Jvm.ClassFile.FieldType.int)) ∈ se_all := se_in 392 (by decide +kernel) (by decide +kernel)
theorem qXL_m53 : (Jvm.Cond.methodLink "StreamEndLaw" (53 : Nat) ({ cls := "StreamEndLaw", name := "cell", desc := "([II)I" } : Jvm.MethodName)) ∈ se_all := se_in 390 (by decide +kernel) (by decide +kernel)
theorem q_static_XL_cell : (Jvm.Cond.static ({ cls := "StreamEndLaw", name := "cell", desc := "([II)I" } : Jvm.MethodName)) ∈ se_all := se_in 391 (by decide +kernel) (by decide +kernel)
theorem q_code_X5_init : (Jvm.Cond.code ({ cls := "StreamEnd", name := "<init>", desc := "(II)V" } : Jvm.MethodName) prog_1_method_1_code (3 : Nat) (Option.none : Option Jvm.ClassFile.FieldType)) ∈ se_all := se_in 20 (by decide +kernel) (by decide +kernel)
theorem qXL_m59 : (Jvm.Cond.methodLink "StreamEndLaw" (59 : Nat) ({ cls := "StreamEnd", name := "<init>", desc := "(II)V" } : Jvm.MethodName)) ∈ se_all := se_in 18 (by decide +kernel) (by decide +kernel)
theorem q_instanceMethod_X5_init : (Jvm.Cond.instanceMethod ({ cls := "StreamEnd", name := "<init>", desc := "(II)V" } : Jvm.MethodName)) ∈ se_all := se_in 19 (by decide +kernel) (by decide +kernel)
theorem qXL_c62 : (Jvm.Cond.classLink "StreamEndLaw" (62 : Nat) "StreamEndModel") ∈ se_all := se_in 814 (by decide +kernel) (by decide +kernel)
theorem q_code_X6_init : (Jvm.Cond.code ({ cls := "StreamEndModel", name := "<init>", desc := "(II)V" } : Jvm.MethodName) prog_8_method_1_code (3 : Nat) (Option.none : Option Jvm.ClassFile.FieldType)) ∈ se_all := se_in 818 (by decide +kernel) (by decide +kernel)
theorem qXL_m64 : (Jvm.Cond.methodLink "StreamEndLaw" (64 : Nat) ({ cls := "StreamEndModel", name := "<init>", desc := "(II)V" } : Jvm.MethodName)) ∈ se_all := se_in 816 (by decide +kernel) (by decide +kernel)
theorem q_instanceMethod_X6_init : (Jvm.Cond.instanceMethod ({ cls := "StreamEndModel", name := "<init>", desc := "(II)V" } : Jvm.MethodName)) ∈ se_all := se_in 817 (by decide +kernel) (by decide +kernel)
theorem q_arr_long : (Jvm.Cond.arrayClass Jvm.ClassFile.FieldType.long) ∈ se_all := se_in 1155 (by decide +kernel) (by decide +kernel)
