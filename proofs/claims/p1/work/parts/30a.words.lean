theorem fm_648 : Cond.codeWith yL_add cL_add 8 (some .int) [(0, 16, 19, 13), (0, 16, 23, 15), (0, 16, 27, 17)] ∈ fz_WA := fz_in (fz_tin 491 (by decide +kernel)) (by decide +kernel)
theorem fm_649 : Cond.code yX9_add cX9_add 6 (some .int) ∈ fz_WA := fz_in (fz_tin 577 (by decide +kernel)) (by decide +kernel)
theorem fm_650 : Cond.methodLink RL 7 yX9_add ∈ fz_WA := fz_in (fz_tin 574 (by decide +kernel)) (by decide +kernel)
theorem fm_651 : Cond.instanceMethod yX9_add ∈ fz_WA := fz_in (fz_tin 575 (by decide +kernel)) (by decide +kernel)
theorem fm_652 : Cond.selects RX9 yX9_add yX9_add ∈ fz_WA := fz_in (fz_tin 576 (by decide +kernel)) (by decide +kernel)
theorem fm_653 : Cond.castable "java/lang/IndexOutOfBoundsException" "java/lang/IndexOutOfBoundsException" ∈ lw_tbl := fz_tin 588 (by decide +kernel)
theorem fm_654 : Cond.classLink RL 13 "java/lang/IndexOutOfBoundsException" ∈ fz_WA := fz_in (fz_tin 492 (by decide +kernel)) (by decide +kernel)
theorem fm_655 : Cond.castable "java/lang/IllegalArgumentException" "java/lang/IllegalArgumentException" ∈ lw_tbl := fz_tin 607 (by decide +kernel)
theorem fm_656 : Cond.classLink RL 15 "java/lang/IllegalArgumentException" ∈ fz_WA := fz_in (fz_tin 572 (by decide +kernel)) (by decide +kernel)
theorem fm_657 : Cond.codeWith yL_remove cL_remove 4 (some .int) [(0, 9, 12, 13), (0, 9, 15, 15)] ∈ fz_WA := fz_in (fz_tin 651 (by decide +kernel)) (by decide +kernel)
theorem fm_658 : Cond.code yX9_remove cX9_remove 3 (some .int) ∈ fz_WA := fz_in (fz_tin 655 (by decide +kernel)) (by decide +kernel)
theorem fm_659 : Cond.methodLink RL 19 yX9_remove ∈ fz_WA := fz_in (fz_tin 652 (by decide +kernel)) (by decide +kernel)
theorem fm_660 : Cond.instanceMethod yX9_remove ∈ fz_WA := fz_in (fz_tin 653 (by decide +kernel)) (by decide +kernel)
theorem fm_661 : Cond.selects RX9 yX9_remove yX9_remove ∈ fz_WA := fz_in (fz_tin 654 (by decide +kernel)) (by decide +kernel)
theorem fm_662 : Cond.codeWith yL_move cL_move 5 (some .int) [(0, 10, 13, 13), (0, 10, 17, 15)] ∈ fz_WA := fz_in (fz_tin 691 (by decide +kernel)) (by decide +kernel)
theorem fm_663 : Cond.code yX9_move cX9_move 4 (some .int) ∈ fz_WA := fz_in (fz_tin 695 (by decide +kernel)) (by decide +kernel)
theorem fm_664 : Cond.methodLink RL 23 yX9_move ∈ fz_WA := fz_in (fz_tin 692 (by decide +kernel)) (by decide +kernel)
theorem fm_665 : Cond.instanceMethod yX9_move ∈ fz_WA := fz_in (fz_tin 693 (by decide +kernel)) (by decide +kernel)
theorem fm_666 : Cond.selects RX9 yX9_move yX9_move ∈ fz_WA := fz_in (fz_tin 694 (by decide +kernel)) (by decide +kernel)
theorem fm_667 : Cond.codeWith yL_node cL_node 5 (some .int) [(0, 10, 13, 13), (0, 10, 17, 15)] ∈ fz_WA := fz_in (fz_tin 701 (by decide +kernel)) (by decide +kernel)
theorem fm_668 : Cond.code yX9_node cX9_node 4 (some .int) ∈ fz_WA := fz_in (fz_tin 705 (by decide +kernel)) (by decide +kernel)
theorem fm_669 : Cond.methodLink RL 27 yX9_node ∈ fz_WA := fz_in (fz_tin 702 (by decide +kernel)) (by decide +kernel)
theorem fm_670 : Cond.instanceMethod yX9_node ∈ fz_WA := fz_in (fz_tin 703 (by decide +kernel)) (by decide +kernel)
theorem fm_671 : Cond.selects RX9 yX9_node yX9_node ∈ fz_WA := fz_in (fz_tin 704 (by decide +kernel)) (by decide +kernel)
theorem fm_672 : Cond.codeWith yL_child cL_child 5 (some .int) [(0, 10, 13, 13)] ∈ fz_WA := fz_in (fz_tin 725 (by decide +kernel)) (by decide +kernel)
theorem fm_673 : Cond.code yX9_child cX9_child 4 (some .int) ∈ fz_WA := fz_in (fz_tin 729 (by decide +kernel)) (by decide +kernel)
theorem fm_674 : Cond.methodLink RL 30 yX9_child ∈ fz_WA := fz_in (fz_tin 726 (by decide +kernel)) (by decide +kernel)
theorem fm_675 : Cond.instanceMethod yX9_child ∈ fz_WA := fz_in (fz_tin 727 (by decide +kernel)) (by decide +kernel)
theorem fm_676 : Cond.selects RX9 yX9_child yX9_child ∈ fz_WA := fz_in (fz_tin 728 (by decide +kernel)) (by decide +kernel)
theorem fm_677 : Cond.codeWith yL_setRule cL_setRule 6 (some .int) [(0, 12, 15, 13), (0, 12, 19, 15)] ∈ fz_WA := fz_in (fz_tin 737 (by decide +kernel)) (by decide +kernel)
theorem fm_678 : Cond.code yX9_setRule cX9_setRule 6 (some .int) ∈ fz_WA := fz_in (fz_tin 741 (by decide +kernel)) (by decide +kernel)
theorem fm_679 : Cond.methodLink RL 33 yX9_setRule ∈ fz_WA := fz_in (fz_tin 738 (by decide +kernel)) (by decide +kernel)
theorem fm_680 : Cond.instanceMethod yX9_setRule ∈ fz_WA := fz_in (fz_tin 739 (by decide +kernel)) (by decide +kernel)
theorem fm_681 : Cond.selects RX9 yX9_setRule yX9_setRule ∈ fz_WA := fz_in (fz_tin 740 (by decide +kernel)) (by decide +kernel)
theorem fm_682 : Cond.codeWith yL_setPage cL_setPage 6 (some .int) [(0, 12, 15, 13), (0, 12, 19, 15)] ∈ fz_WA := fz_in (fz_tin 745 (by decide +kernel)) (by decide +kernel)
theorem fm_683 : Cond.code yX9_setPage cX9_setPage 6 (some .int) ∈ fz_WA := fz_in (fz_tin 749 (by decide +kernel)) (by decide +kernel)
theorem fm_684 : Cond.methodLink RL 37 yX9_setPage ∈ fz_WA := fz_in (fz_tin 746 (by decide +kernel)) (by decide +kernel)
theorem fm_685 : Cond.instanceMethod yX9_setPage ∈ fz_WA := fz_in (fz_tin 747 (by decide +kernel)) (by decide +kernel)
theorem fm_686 : Cond.selects RX9 yX9_setPage yX9_setPage ∈ fz_WA := fz_in (fz_tin 748 (by decide +kernel)) (by decide +kernel)
theorem fm_687 : Cond.codeWith yL_restriction cL_restriction 5 (some .int) [(0, 10, 13, 13), (0, 10, 17, 15)] ∈ fz_WA := fz_in (fz_tin 754 (by decide +kernel)) (by decide +kernel)
theorem fm_688 : Cond.code yX9_restriction cX9_restriction 3 (some .int) ∈ fz_WA := fz_in (fz_tin 758 (by decide +kernel)) (by decide +kernel)
theorem fm_689 : Cond.methodLink RL 40 yX9_restriction ∈ fz_WA := fz_in (fz_tin 755 (by decide +kernel)) (by decide +kernel)
theorem fm_690 : Cond.instanceMethod yX9_restriction ∈ fz_WA := fz_in (fz_tin 756 (by decide +kernel)) (by decide +kernel)
theorem fm_691 : Cond.selects RX9 yX9_restriction yX9_restriction ∈ fz_WA := fz_in (fz_tin 757 (by decide +kernel)) (by decide +kernel)
theorem fm_692 : Cond.codeWith yL_openPages cL_openPages 5 (some .int) [(0, 10, 13, 13), (0, 10, 17, 15)] ∈ fz_WA := fz_in (fz_tin 764 (by decide +kernel)) (by decide +kernel)
theorem fm_693 : Cond.code yX9_openPages cX9_openPages 3 (some .int) ∈ fz_WA := fz_in (fz_tin 768 (by decide +kernel)) (by decide +kernel)
theorem fm_694 : Cond.methodLink RL 43 yX9_openPages ∈ fz_WA := fz_in (fz_tin 765 (by decide +kernel)) (by decide +kernel)
theorem fm_695 : Cond.instanceMethod yX9_openPages ∈ fz_WA := fz_in (fz_tin 766 (by decide +kernel)) (by decide +kernel)
theorem fm_696 : Cond.selects RX9 yX9_openPages yX9_openPages ∈ fz_WA := fz_in (fz_tin 767 (by decide +kernel)) (by decide +kernel)
theorem fm_697 : Cond.codeWith yL_firstDay cL_firstDay 4 (some .int) [(0, 9, 12, 13), (0, 9, 15, 49)] ∈ fz_WA := fz_in (fz_tin 776 (by decide +kernel)) (by decide +kernel)
theorem fm_698 : Cond.code yX9_firstDay cX9_firstDay 3 (some .int) ∈ fz_WA := fz_in (fz_tin 781 (by decide +kernel)) (by decide +kernel)
theorem fm_699 : Cond.methodLink RL 46 yX9_firstDay ∈ fz_WA := fz_in (fz_tin 778 (by decide +kernel)) (by decide +kernel)
theorem fm_700 : Cond.instanceMethod yX9_firstDay ∈ fz_WA := fz_in (fz_tin 779 (by decide +kernel)) (by decide +kernel)
theorem fm_701 : Cond.selects RX9 yX9_firstDay yX9_firstDay ∈ fz_WA := fz_in (fz_tin 780 (by decide +kernel)) (by decide +kernel)
theorem fm_702 : Cond.codeWith yL_addContainer cL_addContainer 4 (some .int) [(0, 9, 12, 15), (0, 9, 15, 17)] ∈ fz_WA := fz_in (fz_tin 817 (by decide +kernel)) (by decide +kernel)
theorem fm_703 : Cond.code yX9_addContainer cX9_addContainer 2 (some .int) ∈ fz_WA := fz_in (fz_tin 821 (by decide +kernel)) (by decide +kernel)
theorem fm_704 : Cond.methodLink RL 51 yX9_addContainer ∈ fz_WA := fz_in (fz_tin 818 (by decide +kernel)) (by decide +kernel)
theorem fm_705 : Cond.instanceMethod yX9_addContainer ∈ fz_WA := fz_in (fz_tin 819 (by decide +kernel)) (by decide +kernel)
theorem fm_706 : Cond.selects RX9 yX9_addContainer yX9_addContainer ∈ fz_WA := fz_in (fz_tin 820 (by decide +kernel)) (by decide +kernel)
theorem fm_707 : Cond.codeWith yL_put cL_put 5 (some .int) [(0, 10, 13, 13), (0, 10, 17, 15), (0, 10, 21, 17)] ∈ fz_WA := fz_in (fz_tin 837 (by decide +kernel)) (by decide +kernel)
theorem fm_708 : Cond.code yX9_put cX9_put 6 (some .int) ∈ fz_WA := fz_in (fz_tin 841 (by decide +kernel)) (by decide +kernel)
theorem fm_709 : Cond.methodLink RL 54 yX9_put ∈ fz_WA := fz_in (fz_tin 838 (by decide +kernel)) (by decide +kernel)
theorem fm_710 : Cond.instanceMethod yX9_put ∈ fz_WA := fz_in (fz_tin 839 (by decide +kernel)) (by decide +kernel)
theorem fm_711 : Cond.selects RX9 yX9_put yX9_put ∈ fz_WA := fz_in (fz_tin 840 (by decide +kernel)) (by decide +kernel)
theorem fm_712 : Cond.codeWith yL_takeOut cL_takeOut 4 (some .int) [(0, 9, 12, 13), (0, 9, 15, 17)] ∈ fz_WA := fz_in (fz_tin 888 (by decide +kernel)) (by decide +kernel)
theorem fm_713 : Cond.code yX9_takeOut cX9_takeOut 3 (some .int) ∈ fz_WA := fz_in (fz_tin 892 (by decide +kernel)) (by decide +kernel)
theorem fm_714 : Cond.methodLink RL 57 yX9_takeOut ∈ fz_WA := fz_in (fz_tin 889 (by decide +kernel)) (by decide +kernel)
theorem fm_715 : Cond.instanceMethod yX9_takeOut ∈ fz_WA := fz_in (fz_tin 890 (by decide +kernel)) (by decide +kernel)
theorem fm_716 : Cond.selects RX9 yX9_takeOut yX9_takeOut ∈ fz_WA := fz_in (fz_tin 891 (by decide +kernel)) (by decide +kernel)
theorem fm_717 : Cond.castable "java/lang/IllegalStateException" "java/lang/IllegalStateException" ∈ lw_tbl := fz_tin 623 (by decide +kernel)
theorem fm_718 : Cond.classLink RL 17 "java/lang/IllegalStateException" ∈ fz_WA := fz_in (fz_tin 573 (by decide +kernel)) (by decide +kernel)
theorem fm_719 : Cond.codeWith yL_split cL_split 6 (some .int) [(0, 12, 15, 13), (0, 12, 19, 15), (0, 12, 23, 17)] ∈ fz_WA := fz_in (fz_tin 897 (by decide +kernel)) (by decide +kernel)
theorem fm_720 : Cond.code yX9_split cX9_split 8 (some .int) ∈ fz_WA := fz_in (fz_tin 901 (by decide +kernel)) (by decide +kernel)
theorem fm_721 : Cond.methodLink RL 60 yX9_split ∈ fz_WA := fz_in (fz_tin 898 (by decide +kernel)) (by decide +kernel)
theorem fm_722 : Cond.instanceMethod yX9_split ∈ fz_WA := fz_in (fz_tin 899 (by decide +kernel)) (by decide +kernel)
theorem fm_723 : Cond.selects RX9 yX9_split yX9_split ∈ fz_WA := fz_in (fz_tin 900 (by decide +kernel)) (by decide +kernel)
theorem fm_724 : Cond.codeWith yL_merge cL_merge 5 (some .int) [(0, 10, 13, 13), (0, 10, 17, 15), (0, 10, 21, 17)] ∈ fz_WA := fz_in (fz_tin 921 (by decide +kernel)) (by decide +kernel)
theorem fm_725 : Cond.code yX9_merge cX9_merge 6 (some .int) ∈ fz_WA := fz_in (fz_tin 925 (by decide +kernel)) (by decide +kernel)
theorem fm_726 : Cond.methodLink RL 63 yX9_merge ∈ fz_WA := fz_in (fz_tin 922 (by decide +kernel)) (by decide +kernel)
theorem fm_727 : Cond.instanceMethod yX9_merge ∈ fz_WA := fz_in (fz_tin 923 (by decide +kernel)) (by decide +kernel)
theorem fm_728 : Cond.selects RX9 yX9_merge yX9_merge ∈ fz_WA := fz_in (fz_tin 924 (by decide +kernel)) (by decide +kernel)
theorem fm_729 : Cond.codeWith yL_container cL_container 5 (some .int) [(0, 10, 13, 13), (0, 10, 17, 15)] ∈ fz_WA := fz_in (fz_tin 933 (by decide +kernel)) (by decide +kernel)
theorem fm_730 : Cond.code yX9_container cX9_container 3 (some .int) ∈ fz_WA := fz_in (fz_tin 937 (by decide +kernel)) (by decide +kernel)
theorem fm_731 : Cond.methodLink RL 66 yX9_container ∈ fz_WA := fz_in (fz_tin 934 (by decide +kernel)) (by decide +kernel)
theorem fm_732 : Cond.instanceMethod yX9_container ∈ fz_WA := fz_in (fz_tin 935 (by decide +kernel)) (by decide +kernel)
theorem fm_733 : Cond.selects RX9 yX9_container yX9_container ∈ fz_WA := fz_in (fz_tin 936 (by decide +kernel)) (by decide +kernel)
theorem fm_734 : Cond.codeWith yL_unitAt cL_unitAt 5 (some .int) [(0, 10, 13, 13)] ∈ fz_WA := fz_in (fz_tin 940 (by decide +kernel)) (by decide +kernel)
theorem fm_735 : Cond.code yX9_unitAt cX9_unitAt 4 (some .int) ∈ fz_WA := fz_in (fz_tin 944 (by decide +kernel)) (by decide +kernel)
theorem fm_736 : Cond.methodLink RL 69 yX9_unitAt ∈ fz_WA := fz_in (fz_tin 941 (by decide +kernel)) (by decide +kernel)
theorem fm_737 : Cond.instanceMethod yX9_unitAt ∈ fz_WA := fz_in (fz_tin 942 (by decide +kernel)) (by decide +kernel)
theorem fm_738 : Cond.selects RX9 yX9_unitAt yX9_unitAt ∈ fz_WA := fz_in (fz_tin 943 (by decide +kernel)) (by decide +kernel)
theorem fm_739 : Cond.codeWith yL_copy cL_copy 5 (some .int) [(0, 10, 13, 13), (0, 10, 17, 15), (0, 10, 21, 17)] ∈ fz_WA := fz_in (fz_tin 959 (by decide +kernel)) (by decide +kernel)
theorem fm_740 : Cond.code yX9_copy cX9_copy 4 (some .int) ∈ fz_WA := fz_in (fz_tin 963 (by decide +kernel)) (by decide +kernel)
theorem fm_741 : Cond.methodLink RL 75 yX9_copy ∈ fz_WA := fz_in (fz_tin 960 (by decide +kernel)) (by decide +kernel)
theorem fm_742 : Cond.instanceMethod yX9_copy ∈ fz_WA := fz_in (fz_tin 961 (by decide +kernel)) (by decide +kernel)
theorem fm_743 : Cond.selects RX9 yX9_copy yX9_copy ∈ fz_WA := fz_in (fz_tin 962 (by decide +kernel)) (by decide +kernel)
theorem fm_744 : Cond.codeWith yL_copyPart cL_copyPart 5 (some .int) [(0, 10, 13, 13), (0, 10, 17, 15)] ∈ fz_WA := fz_in (fz_tin 973 (by decide +kernel)) (by decide +kernel)
theorem fm_745 : Cond.code yX9_copyPart cX9_copyPart 4 (some .int) ∈ fz_WA := fz_in (fz_tin 977 (by decide +kernel)) (by decide +kernel)
theorem fm_746 : Cond.methodLink RL 78 yX9_copyPart ∈ fz_WA := fz_in (fz_tin 974 (by decide +kernel)) (by decide +kernel)
theorem fm_747 : Cond.instanceMethod yX9_copyPart ∈ fz_WA := fz_in (fz_tin 975 (by decide +kernel)) (by decide +kernel)
theorem fm_748 : Cond.selects RX9 yX9_copyPart yX9_copyPart ∈ fz_WA := fz_in (fz_tin 976 (by decide +kernel)) (by decide +kernel)
theorem fm_749 : Cond.codeWith yL_setSeats cL_setSeats 4 (some .int) [(0, 9, 12, 15)] ∈ fz_WA := fz_in (fz_tin 991 (by decide +kernel)) (by decide +kernel)
theorem fm_750 : Cond.code yX9_setSeats cX9_setSeats 3 (some .int) ∈ fz_WA := fz_in (fz_tin 995 (by decide +kernel)) (by decide +kernel)
theorem fm_751 : Cond.methodLink RL 81 yX9_setSeats ∈ fz_WA := fz_in (fz_tin 992 (by decide +kernel)) (by decide +kernel)
theorem fm_752 : Cond.instanceMethod yX9_setSeats ∈ fz_WA := fz_in (fz_tin 993 (by decide +kernel)) (by decide +kernel)
theorem fm_753 : Cond.selects RX9 yX9_setSeats yX9_setSeats ∈ fz_WA := fz_in (fz_tin 994 (by decide +kernel)) (by decide +kernel)
theorem fm_754 : Cond.codeWith yL_request cL_request 6 (some .int) [(0, 12, 15, 13), (0, 12, 19, 15), (0, 12, 23, 17), (0, 12, 27, 87)] ∈ fz_WA := fz_in (fz_tin 999 (by decide +kernel)) (by decide +kernel)
theorem fm_755 : Cond.code yX9_request cX9_request 6 (some .int) ∈ fz_WA := fz_in (fz_tin 1004 (by decide +kernel)) (by decide +kernel)
theorem fm_756 : Cond.methodLink RL 84 yX9_request ∈ fz_WA := fz_in (fz_tin 1001 (by decide +kernel)) (by decide +kernel)
theorem fm_757 : Cond.instanceMethod yX9_request ∈ fz_WA := fz_in (fz_tin 1002 (by decide +kernel)) (by decide +kernel)
theorem fm_758 : Cond.selects RX9 yX9_request yX9_request ∈ fz_WA := fz_in (fz_tin 1003 (by decide +kernel)) (by decide +kernel)
theorem fm_759 : Cond.codeWith yL_requestPart cL_requestPart 5 (some .int) [(0, 10, 13, 13), (0, 10, 17, 15)] ∈ fz_WA := fz_in (fz_tin 1075 (by decide +kernel)) (by decide +kernel)
theorem fm_760 : Cond.code yX9_requestPart cX9_requestPart 3 (some .int) ∈ fz_WA := fz_in (fz_tin 1079 (by decide +kernel)) (by decide +kernel)
theorem fm_761 : Cond.methodLink RL 89 yX9_requestPart ∈ fz_WA := fz_in (fz_tin 1076 (by decide +kernel)) (by decide +kernel)
theorem fm_762 : Cond.instanceMethod yX9_requestPart ∈ fz_WA := fz_in (fz_tin 1077 (by decide +kernel)) (by decide +kernel)
theorem fm_763 : Cond.selects RX9 yX9_requestPart yX9_requestPart ∈ fz_WA := fz_in (fz_tin 1078 (by decide +kernel)) (by decide +kernel)
theorem fm_764 : Cond.codeWith yL_cancel cL_cancel 4 (some .int) [(0, 9, 12, 13)] ∈ fz_WA := fz_in (fz_tin 1092 (by decide +kernel)) (by decide +kernel)
theorem fm_765 : Cond.code yX9_cancel cX9_cancel 2 (some .int) ∈ fz_WA := fz_in (fz_tin 1096 (by decide +kernel)) (by decide +kernel)
theorem fm_766 : Cond.methodLink RL 92 yX9_cancel ∈ fz_WA := fz_in (fz_tin 1093 (by decide +kernel)) (by decide +kernel)
theorem fm_767 : Cond.instanceMethod yX9_cancel ∈ fz_WA := fz_in (fz_tin 1094 (by decide +kernel)) (by decide +kernel)
theorem fm_768 : Cond.selects RX9 yX9_cancel yX9_cancel ∈ fz_WA := fz_in (fz_tin 1095 (by decide +kernel)) (by decide +kernel)
theorem fm_769 : Cond.codeWith yL_account cL_account 4 (some .int) [(0, 9, 12, 15)] ∈ fz_WA := fz_in (fz_tin 1099 (by decide +kernel)) (by decide +kernel)
theorem fm_770 : Cond.code yX9_account cX9_account 2 (some .int) ∈ fz_WA := fz_in (fz_tin 1103 (by decide +kernel)) (by decide +kernel)
theorem fm_771 : Cond.methodLink RL 95 yX9_account ∈ fz_WA := fz_in (fz_tin 1100 (by decide +kernel)) (by decide +kernel)
theorem fm_772 : Cond.instanceMethod yX9_account ∈ fz_WA := fz_in (fz_tin 1101 (by decide +kernel)) (by decide +kernel)
theorem fm_773 : Cond.selects RX9 yX9_account yX9_account ∈ fz_WA := fz_in (fz_tin 1102 (by decide +kernel)) (by decide +kernel)
theorem fm_774 : Cond.codeWith yL_dayCount cL_dayCount 5 (some .int) [(0, 10, 13, 15)] ∈ fz_WA := fz_in (fz_tin 1125 (by decide +kernel)) (by decide +kernel)
theorem fm_775 : Cond.code yX9_dayCount cX9_dayCount 3 (some .int) ∈ fz_WA := fz_in (fz_tin 1129 (by decide +kernel)) (by decide +kernel)
theorem fm_776 : Cond.methodLink RL 98 yX9_dayCount ∈ fz_WA := fz_in (fz_tin 1126 (by decide +kernel)) (by decide +kernel)
theorem fm_777 : Cond.instanceMethod yX9_dayCount ∈ fz_WA := fz_in (fz_tin 1127 (by decide +kernel)) (by decide +kernel)
theorem fm_778 : Cond.selects RX9 yX9_dayCount yX9_dayCount ∈ fz_WA := fz_in (fz_tin 1128 (by decide +kernel)) (by decide +kernel)
theorem fm_779 : Cond.codeWith yL_openShare cL_openShare 4 (some .int) [(0, 8, 11, 15), (0, 8, 14, 105)] ∈ fz_WA := fz_in (fz_tin 1145 (by decide +kernel)) (by decide +kernel)
theorem fm_780 : Cond.code yX9_openShare cX9_openShare 3 (some .double) ∈ fz_WA := fz_in (fz_tin 1163 (by decide +kernel)) (by decide +kernel)
theorem fm_781 : Cond.methodLink RL 101 yX9_openShare ∈ fz_WA := fz_in (fz_tin 1160 (by decide +kernel)) (by decide +kernel)
theorem fm_782 : Cond.instanceMethod yX9_openShare ∈ fz_WA := fz_in (fz_tin 1161 (by decide +kernel)) (by decide +kernel)
theorem fm_783 : Cond.selects RX9 yX9_openShare yX9_openShare ∈ fz_WA := fz_in (fz_tin 1162 (by decide +kernel)) (by decide +kernel)
theorem fm_784 : Cond.castable "java/lang/ArithmeticException" "java/lang/ArithmeticException" ∈ lw_tbl := fz_tin 1158 (by decide +kernel)
theorem fm_785 : Cond.classLink RL 105 "java/lang/ArithmeticException" ∈ fz_WA := fz_in (fz_tin 1146 (by decide +kernel)) (by decide +kernel)
theorem fm_786 : Cond.codeWith yL_feed cL_feed 4 (some .int) [(0, 9, 12, 17)] ∈ fz_WA := fz_in (fz_tin 1177 (by decide +kernel)) (by decide +kernel)
theorem fm_787 : Cond.code yX9_feed cX9_feed 2 (some .int) ∈ fz_WA := fz_in (fz_tin 1181 (by decide +kernel)) (by decide +kernel)
theorem fm_788 : Cond.methodLink RL 110 yX9_feed ∈ fz_WA := fz_in (fz_tin 1178 (by decide +kernel)) (by decide +kernel)
theorem fm_789 : Cond.instanceMethod yX9_feed ∈ fz_WA := fz_in (fz_tin 1179 (by decide +kernel)) (by decide +kernel)
theorem fm_790 : Cond.selects RX9 yX9_feed yX9_feed ∈ fz_WA := fz_in (fz_tin 1180 (by decide +kernel)) (by decide +kernel)
theorem fm_791 : Cond.codeWith yL_read cL_read 4 (some .int) [(0, 9, 12, 13), (0, 9, 15, 87)] ∈ fz_WA := fz_in (fz_tin 1189 (by decide +kernel)) (by decide +kernel)
theorem fm_792 : Cond.code yX9_read cX9_read 3 (some .int) ∈ fz_WA := fz_in (fz_tin 1193 (by decide +kernel)) (by decide +kernel)
theorem fm_793 : Cond.methodLink RL 114 yX9_read ∈ fz_WA := fz_in (fz_tin 1190 (by decide +kernel)) (by decide +kernel)
theorem fm_794 : Cond.instanceMethod yX9_read ∈ fz_WA := fz_in (fz_tin 1191 (by decide +kernel)) (by decide +kernel)
theorem fm_795 : Cond.selects RX9 yX9_read yX9_read ∈ fz_WA := fz_in (fz_tin 1192 (by decide +kernel)) (by decide +kernel)
theorem fm_796 : Cond.codeWith yL_write cL_write 4 (some .int) [(0, 9, 12, 13)] ∈ fz_WA := fz_in (fz_tin 1229 (by decide +kernel)) (by decide +kernel)
theorem fm_797 : Cond.code yX9_write cX9_write 8 (some .int) ∈ fz_WA := fz_in (fz_tin 1233 (by decide +kernel)) (by decide +kernel)
theorem fm_798 : Cond.methodLink RL 117 yX9_write ∈ fz_WA := fz_in (fz_tin 1230 (by decide +kernel)) (by decide +kernel)
theorem fm_799 : Cond.instanceMethod yX9_write ∈ fz_WA := fz_in (fz_tin 1231 (by decide +kernel)) (by decide +kernel)
theorem fm_800 : Cond.selects RX9 yX9_write yX9_write ∈ fz_WA := fz_in (fz_tin 1232 (by decide +kernel)) (by decide +kernel)
theorem fm_801 : Cond.codeWith yL_text cL_text 4 (some .int) [(0, 9, 12, 13)] ∈ fz_WA := fz_in (fz_tin 1520 (by decide +kernel)) (by decide +kernel)
theorem fm_802 : Cond.code yX9_text cX9_text 2 (some .char) ∈ fz_WA := fz_in (fz_tin 1524 (by decide +kernel)) (by decide +kernel)
theorem fm_803 : Cond.methodLink RL 120 yX9_text ∈ fz_WA := fz_in (fz_tin 1521 (by decide +kernel)) (by decide +kernel)
theorem fm_804 : Cond.instanceMethod yX9_text ∈ fz_WA := fz_in (fz_tin 1522 (by decide +kernel)) (by decide +kernel)
theorem fm_805 : Cond.selects RX9 yX9_text yX9_text ∈ fz_WA := fz_in (fz_tin 1523 (by decide +kernel)) (by decide +kernel)
theorem fm_806 : Cond.codeWith yL_undo cL_undo 3 (some .int) [(0, 8, 11, 17)] ∈ fz_WA := fz_in (fz_tin 1538 (by decide +kernel)) (by decide +kernel)
theorem fm_807 : Cond.code yX9_undo cX9_undo 2 (some .int) ∈ fz_WA := fz_in (fz_tin 1542 (by decide +kernel)) (by decide +kernel)
theorem fm_808 : Cond.methodLink RL 124 yX9_undo ∈ fz_WA := fz_in (fz_tin 1539 (by decide +kernel)) (by decide +kernel)
theorem fm_809 : Cond.instanceMethod yX9_undo ∈ fz_WA := fz_in (fz_tin 1540 (by decide +kernel)) (by decide +kernel)
theorem fm_810 : Cond.selects RX9 yX9_undo yX9_undo ∈ fz_WA := fz_in (fz_tin 1541 (by decide +kernel)) (by decide +kernel)
theorem fm_811 : Cond.codeWith yL_restore cL_restore 3 (some .int) [(0, 8, 11, 17)] ∈ fz_WA := fz_in (fz_tin 1546 (by decide +kernel)) (by decide +kernel)
theorem fm_812 : Cond.code yX9_restore cX9_restore 1 (some .int) ∈ fz_WA := fz_in (fz_tin 1550 (by decide +kernel)) (by decide +kernel)
theorem fm_813 : Cond.methodLink RL 128 yX9_restore ∈ fz_WA := fz_in (fz_tin 1547 (by decide +kernel)) (by decide +kernel)
theorem fm_814 : Cond.instanceMethod yX9_restore ∈ fz_WA := fz_in (fz_tin 1548 (by decide +kernel)) (by decide +kernel)
theorem fm_815 : Cond.selects RX9 yX9_restore yX9_restore ∈ fz_WA := fz_in (fz_tin 1549 (by decide +kernel)) (by decide +kernel)
theorem dL_add_0 : decode cL_add 0 = .ok (.aload 6, 2) := by decide +kernel
theorem dL_add_2 : decode cL_add 2 = .ok (.iconst 0, 1) := by decide +kernel
theorem dL_add_3 : decode cL_add 3 = .ok (.aload_n 0, 1) := by decide +kernel
theorem dL_add_4 : decode cL_add 4 = .ok (.iload_n 1, 1) := by decide +kernel
theorem dL_add_5 : decode cL_add 5 = .ok (.iload_n 2, 1) := by decide +kernel
theorem dL_add_6 : decode cL_add 6 = .ok (.iload_n 3, 1) := by decide +kernel
theorem dL_add_7 : decode cL_add 7 = .ok (.iload 4, 2) := by decide +kernel
theorem dL_add_9 : decode cL_add 9 = .ok (.iload 5, 2) := by decide +kernel
theorem dL_add_11 : decode cL_add 11 = .ok (.invokevirtual 7, 3) := by decide +kernel
theorem dL_add_19 : decode cL_add 19 = .ok (.astore 7, 2) := by decide +kernel
theorem dL_add_21 : decode cL_add 21 = .ok (.iconst 1, 1) := by decide +kernel
theorem dL_add_22 : decode cL_add 22 = .ok (.ireturn, 1) := by decide +kernel
theorem dL_add_23 : decode cL_add 23 = .ok (.astore 7, 2) := by decide +kernel
theorem dL_add_25 : decode cL_add 25 = .ok (.iconst 2, 1) := by decide +kernel
theorem dL_add_26 : decode cL_add 26 = .ok (.ireturn, 1) := by decide +kernel
theorem dL_add_14 : decode cL_add 14 = .ok (.i2l, 1) := by decide +kernel
theorem dL_add_15 : decode cL_add 15 = .ok (.lastore, 1) := by decide +kernel
theorem dL_add_16 : decode cL_add 16 = .ok (.goto 15, 3) := by decide +kernel
theorem dL_add_31 : decode cL_add 31 = .ok (.iconst 0, 1) := by decide +kernel
theorem dL_add_32 : decode cL_add 32 = .ok (.ireturn, 1) := by decide +kernel
theorem dL_remove_0 : decode cL_remove 0 = .ok (.aload_n 2, 1) := by decide +kernel
theorem dL_remove_1 : decode cL_remove 1 = .ok (.iconst 0, 1) := by decide +kernel
theorem dL_remove_2 : decode cL_remove 2 = .ok (.aload_n 0, 1) := by decide +kernel
theorem dL_remove_3 : decode cL_remove 3 = .ok (.iload_n 1, 1) := by decide +kernel
theorem dL_remove_4 : decode cL_remove 4 = .ok (.invokevirtual 19, 3) := by decide +kernel
theorem dL_remove_12 : decode cL_remove 12 = .ok (.astore_n 3, 1) := by decide +kernel
theorem dL_remove_13 : decode cL_remove 13 = .ok (.iconst 1, 1) := by decide +kernel
theorem dL_remove_14 : decode cL_remove 14 = .ok (.ireturn, 1) := by decide +kernel
theorem dL_remove_15 : decode cL_remove 15 = .ok (.astore_n 3, 1) := by decide +kernel
theorem dL_remove_16 : decode cL_remove 16 = .ok (.iconst 2, 1) := by decide +kernel
theorem dL_remove_17 : decode cL_remove 17 = .ok (.ireturn, 1) := by decide +kernel
theorem dL_move_0 : decode cL_move 0 = .ok (.aload_n 3, 1) := by decide +kernel
theorem dL_move_1 : decode cL_move 1 = .ok (.iconst 0, 1) := by decide +kernel
theorem dL_move_2 : decode cL_move 2 = .ok (.aload_n 0, 1) := by decide +kernel
theorem dL_move_3 : decode cL_move 3 = .ok (.iload_n 1, 1) := by decide +kernel
theorem dL_move_4 : decode cL_move 4 = .ok (.iload_n 2, 1) := by decide +kernel
theorem dL_move_5 : decode cL_move 5 = .ok (.invokevirtual 23, 3) := by decide +kernel
theorem dL_move_13 : decode cL_move 13 = .ok (.astore 4, 2) := by decide +kernel
theorem dL_move_15 : decode cL_move 15 = .ok (.iconst 1, 1) := by decide +kernel
theorem dL_move_16 : decode cL_move 16 = .ok (.ireturn, 1) := by decide +kernel
theorem dL_move_17 : decode cL_move 17 = .ok (.astore 4, 2) := by decide +kernel
theorem dL_move_19 : decode cL_move 19 = .ok (.iconst 2, 1) := by decide +kernel
theorem dL_move_20 : decode cL_move 20 = .ok (.ireturn, 1) := by decide +kernel
theorem dL_node_0 : decode cL_node 0 = .ok (.aload_n 3, 1) := by decide +kernel
theorem dL_node_1 : decode cL_node 1 = .ok (.iconst 0, 1) := by decide +kernel
theorem dL_node_2 : decode cL_node 2 = .ok (.aload_n 0, 1) := by decide +kernel
theorem dL_node_3 : decode cL_node 3 = .ok (.iload_n 1, 1) := by decide +kernel
theorem dL_node_4 : decode cL_node 4 = .ok (.iload_n 2, 1) := by decide +kernel
theorem dL_node_5 : decode cL_node 5 = .ok (.invokevirtual 27, 3) := by decide +kernel
theorem dL_node_13 : decode cL_node 13 = .ok (.astore 4, 2) := by decide +kernel
theorem dL_node_15 : decode cL_node 15 = .ok (.iconst 1, 1) := by decide +kernel
theorem dL_node_16 : decode cL_node 16 = .ok (.ireturn, 1) := by decide +kernel
theorem dL_node_17 : decode cL_node 17 = .ok (.astore 4, 2) := by decide +kernel
theorem dL_node_19 : decode cL_node 19 = .ok (.iconst 2, 1) := by decide +kernel
theorem dL_node_20 : decode cL_node 20 = .ok (.ireturn, 1) := by decide +kernel
theorem dL_node_8 : decode cL_node 8 = .ok (.i2l, 1) := by decide +kernel
theorem dL_node_9 : decode cL_node 9 = .ok (.lastore, 1) := by decide +kernel
theorem dL_node_10 : decode cL_node 10 = .ok (.goto 11, 3) := by decide +kernel
theorem dL_node_21 : decode cL_node 21 = .ok (.iconst 0, 1) := by decide +kernel
theorem dL_node_22 : decode cL_node 22 = .ok (.ireturn, 1) := by decide +kernel
theorem dL_child_0 : decode cL_child 0 = .ok (.aload_n 3, 1) := by decide +kernel
theorem dL_child_1 : decode cL_child 1 = .ok (.iconst 0, 1) := by decide +kernel
theorem dL_child_2 : decode cL_child 2 = .ok (.aload_n 0, 1) := by decide +kernel
theorem dL_child_3 : decode cL_child 3 = .ok (.iload_n 1, 1) := by decide +kernel
theorem dL_child_4 : decode cL_child 4 = .ok (.iload_n 2, 1) := by decide +kernel
theorem dL_child_5 : decode cL_child 5 = .ok (.invokevirtual 30, 3) := by decide +kernel
theorem dL_child_13 : decode cL_child 13 = .ok (.astore 4, 2) := by decide +kernel
theorem dL_child_15 : decode cL_child 15 = .ok (.iconst 1, 1) := by decide +kernel
theorem dL_child_16 : decode cL_child 16 = .ok (.ireturn, 1) := by decide +kernel
theorem dL_setRule_0 : decode cL_setRule 0 = .ok (.aload 4, 2) := by decide +kernel
theorem dL_setRule_2 : decode cL_setRule 2 = .ok (.iconst 0, 1) := by decide +kernel
theorem dL_setRule_3 : decode cL_setRule 3 = .ok (.aload_n 0, 1) := by decide +kernel
theorem dL_setRule_4 : decode cL_setRule 4 = .ok (.iload_n 1, 1) := by decide +kernel
theorem dL_setRule_5 : decode cL_setRule 5 = .ok (.iload_n 2, 1) := by decide +kernel
theorem dL_setRule_6 : decode cL_setRule 6 = .ok (.iload_n 3, 1) := by decide +kernel
theorem dL_setRule_7 : decode cL_setRule 7 = .ok (.invokevirtual 33, 3) := by decide +kernel
theorem dL_setRule_15 : decode cL_setRule 15 = .ok (.astore 5, 2) := by decide +kernel
theorem dL_setRule_17 : decode cL_setRule 17 = .ok (.iconst 1, 1) := by decide +kernel
theorem dL_setRule_18 : decode cL_setRule 18 = .ok (.ireturn, 1) := by decide +kernel
theorem dL_setRule_19 : decode cL_setRule 19 = .ok (.astore 5, 2) := by decide +kernel
theorem dL_setRule_21 : decode cL_setRule 21 = .ok (.iconst 2, 1) := by decide +kernel
theorem dL_setRule_22 : decode cL_setRule 22 = .ok (.ireturn, 1) := by decide +kernel
theorem dL_setRule_10 : decode cL_setRule 10 = .ok (.i2l, 1) := by decide +kernel
theorem dL_setRule_11 : decode cL_setRule 11 = .ok (.lastore, 1) := by decide +kernel
theorem dL_setRule_12 : decode cL_setRule 12 = .ok (.goto 11, 3) := by decide +kernel
theorem dL_setRule_23 : decode cL_setRule 23 = .ok (.iconst 0, 1) := by decide +kernel
theorem dL_setRule_24 : decode cL_setRule 24 = .ok (.ireturn, 1) := by decide +kernel
theorem dL_setPage_0 : decode cL_setPage 0 = .ok (.aload 4, 2) := by decide +kernel
theorem dL_setPage_2 : decode cL_setPage 2 = .ok (.iconst 0, 1) := by decide +kernel
theorem dL_setPage_3 : decode cL_setPage 3 = .ok (.aload_n 0, 1) := by decide +kernel
theorem dL_setPage_4 : decode cL_setPage 4 = .ok (.iload_n 1, 1) := by decide +kernel
theorem dL_setPage_5 : decode cL_setPage 5 = .ok (.iload_n 2, 1) := by decide +kernel
theorem dL_setPage_6 : decode cL_setPage 6 = .ok (.iload_n 3, 1) := by decide +kernel
theorem dL_setPage_7 : decode cL_setPage 7 = .ok (.invokevirtual 37, 3) := by decide +kernel
theorem dL_setPage_15 : decode cL_setPage 15 = .ok (.astore 5, 2) := by decide +kernel
theorem dL_setPage_17 : decode cL_setPage 17 = .ok (.iconst 1, 1) := by decide +kernel
theorem dL_setPage_18 : decode cL_setPage 18 = .ok (.ireturn, 1) := by decide +kernel
theorem dL_restriction_0 : decode cL_restriction 0 = .ok (.aload_n 3, 1) := by decide +kernel
theorem dL_restriction_1 : decode cL_restriction 1 = .ok (.iconst 0, 1) := by decide +kernel
theorem dL_restriction_2 : decode cL_restriction 2 = .ok (.aload_n 0, 1) := by decide +kernel
theorem dL_restriction_3 : decode cL_restriction 3 = .ok (.iload_n 1, 1) := by decide +kernel
theorem dL_restriction_4 : decode cL_restriction 4 = .ok (.iload_n 2, 1) := by decide +kernel
theorem dL_restriction_5 : decode cL_restriction 5 = .ok (.invokevirtual 40, 3) := by decide +kernel
theorem dL_restriction_13 : decode cL_restriction 13 = .ok (.astore 4, 2) := by decide +kernel
theorem dL_restriction_15 : decode cL_restriction 15 = .ok (.iconst 1, 1) := by decide +kernel
theorem dL_restriction_16 : decode cL_restriction 16 = .ok (.ireturn, 1) := by decide +kernel
theorem dL_restriction_17 : decode cL_restriction 17 = .ok (.astore 4, 2) := by decide +kernel
theorem dL_restriction_19 : decode cL_restriction 19 = .ok (.iconst 2, 1) := by decide +kernel
theorem dL_restriction_20 : decode cL_restriction 20 = .ok (.ireturn, 1) := by decide +kernel
theorem dL_restriction_8 : decode cL_restriction 8 = .ok (.i2l, 1) := by decide +kernel
theorem dL_restriction_9 : decode cL_restriction 9 = .ok (.lastore, 1) := by decide +kernel
theorem dL_restriction_10 : decode cL_restriction 10 = .ok (.goto 11, 3) := by decide +kernel
theorem dL_restriction_21 : decode cL_restriction 21 = .ok (.iconst 0, 1) := by decide +kernel
theorem dL_restriction_22 : decode cL_restriction 22 = .ok (.ireturn, 1) := by decide +kernel
theorem dL_openPages_0 : decode cL_openPages 0 = .ok (.aload_n 3, 1) := by decide +kernel
theorem dL_openPages_1 : decode cL_openPages 1 = .ok (.iconst 0, 1) := by decide +kernel
theorem dL_openPages_2 : decode cL_openPages 2 = .ok (.aload_n 0, 1) := by decide +kernel
theorem dL_openPages_3 : decode cL_openPages 3 = .ok (.iload_n 1, 1) := by decide +kernel
theorem dL_openPages_4 : decode cL_openPages 4 = .ok (.iload_n 2, 1) := by decide +kernel
theorem dL_openPages_5 : decode cL_openPages 5 = .ok (.invokevirtual 43, 3) := by decide +kernel
theorem dL_openPages_13 : decode cL_openPages 13 = .ok (.astore 4, 2) := by decide +kernel
theorem dL_openPages_15 : decode cL_openPages 15 = .ok (.iconst 1, 1) := by decide +kernel
theorem dL_openPages_16 : decode cL_openPages 16 = .ok (.ireturn, 1) := by decide +kernel
theorem dL_openPages_17 : decode cL_openPages 17 = .ok (.astore 4, 2) := by decide +kernel
theorem dL_openPages_19 : decode cL_openPages 19 = .ok (.iconst 2, 1) := by decide +kernel
theorem dL_openPages_20 : decode cL_openPages 20 = .ok (.ireturn, 1) := by decide +kernel
theorem dL_openPages_8 : decode cL_openPages 8 = .ok (.i2l, 1) := by decide +kernel
theorem dL_openPages_9 : decode cL_openPages 9 = .ok (.lastore, 1) := by decide +kernel
theorem dL_openPages_10 : decode cL_openPages 10 = .ok (.goto 11, 3) := by decide +kernel
theorem dL_openPages_21 : decode cL_openPages 21 = .ok (.iconst 0, 1) := by decide +kernel
theorem dL_openPages_22 : decode cL_openPages 22 = .ok (.ireturn, 1) := by decide +kernel
theorem dL_firstDay_0 : decode cL_firstDay 0 = .ok (.aload_n 2, 1) := by decide +kernel
theorem dL_firstDay_1 : decode cL_firstDay 1 = .ok (.iconst 0, 1) := by decide +kernel
theorem dL_firstDay_2 : decode cL_firstDay 2 = .ok (.aload_n 0, 1) := by decide +kernel
theorem dL_firstDay_3 : decode cL_firstDay 3 = .ok (.iload_n 1, 1) := by decide +kernel
theorem dL_firstDay_4 : decode cL_firstDay 4 = .ok (.invokevirtual 46, 3) := by decide +kernel
theorem dL_firstDay_12 : decode cL_firstDay 12 = .ok (.astore_n 3, 1) := by decide +kernel
theorem dL_firstDay_13 : decode cL_firstDay 13 = .ok (.iconst 1, 1) := by decide +kernel
theorem dL_firstDay_14 : decode cL_firstDay 14 = .ok (.ireturn, 1) := by decide +kernel
theorem dL_addContainer_0 : decode cL_addContainer 0 = .ok (.aload_n 2, 1) := by decide +kernel
theorem dL_addContainer_1 : decode cL_addContainer 1 = .ok (.iconst 0, 1) := by decide +kernel
theorem dL_addContainer_2 : decode cL_addContainer 2 = .ok (.aload_n 0, 1) := by decide +kernel
theorem dL_addContainer_3 : decode cL_addContainer 3 = .ok (.iload_n 1, 1) := by decide +kernel
theorem dL_addContainer_4 : decode cL_addContainer 4 = .ok (.invokevirtual 51, 3) := by decide +kernel
theorem dL_addContainer_12 : decode cL_addContainer 12 = .ok (.astore_n 3, 1) := by decide +kernel
theorem dL_addContainer_13 : decode cL_addContainer 13 = .ok (.iconst 1, 1) := by decide +kernel
theorem dL_addContainer_14 : decode cL_addContainer 14 = .ok (.ireturn, 1) := by decide +kernel
theorem dL_addContainer_7 : decode cL_addContainer 7 = .ok (.i2l, 1) := by decide +kernel
theorem dL_addContainer_8 : decode cL_addContainer 8 = .ok (.lastore, 1) := by decide +kernel
theorem dL_addContainer_9 : decode cL_addContainer 9 = .ok (.goto 9, 3) := by decide +kernel
theorem dL_addContainer_18 : decode cL_addContainer 18 = .ok (.iconst 0, 1) := by decide +kernel
theorem dL_addContainer_19 : decode cL_addContainer 19 = .ok (.ireturn, 1) := by decide +kernel
theorem dL_put_0 : decode cL_put 0 = .ok (.aload_n 3, 1) := by decide +kernel
theorem dL_put_1 : decode cL_put 1 = .ok (.iconst 0, 1) := by decide +kernel
theorem dL_put_2 : decode cL_put 2 = .ok (.aload_n 0, 1) := by decide +kernel
theorem dL_put_3 : decode cL_put 3 = .ok (.iload_n 1, 1) := by decide +kernel
theorem dL_put_4 : decode cL_put 4 = .ok (.iload_n 2, 1) := by decide +kernel
theorem dL_put_5 : decode cL_put 5 = .ok (.invokevirtual 54, 3) := by decide +kernel
theorem dL_put_13 : decode cL_put 13 = .ok (.astore 4, 2) := by decide +kernel
theorem dL_put_15 : decode cL_put 15 = .ok (.iconst 1, 1) := by decide +kernel
theorem dL_put_16 : decode cL_put 16 = .ok (.ireturn, 1) := by decide +kernel
theorem dL_takeOut_0 : decode cL_takeOut 0 = .ok (.aload_n 2, 1) := by decide +kernel
theorem dL_takeOut_1 : decode cL_takeOut 1 = .ok (.iconst 0, 1) := by decide +kernel
theorem dL_takeOut_2 : decode cL_takeOut 2 = .ok (.aload_n 0, 1) := by decide +kernel
theorem dL_takeOut_3 : decode cL_takeOut 3 = .ok (.iload_n 1, 1) := by decide +kernel
theorem dL_takeOut_4 : decode cL_takeOut 4 = .ok (.invokevirtual 57, 3) := by decide +kernel
theorem dL_takeOut_12 : decode cL_takeOut 12 = .ok (.astore_n 3, 1) := by decide +kernel
theorem dL_takeOut_13 : decode cL_takeOut 13 = .ok (.iconst 1, 1) := by decide +kernel
theorem dL_takeOut_14 : decode cL_takeOut 14 = .ok (.ireturn, 1) := by decide +kernel
theorem dL_takeOut_15 : decode cL_takeOut 15 = .ok (.astore_n 3, 1) := by decide +kernel
theorem dL_takeOut_16 : decode cL_takeOut 16 = .ok (.iconst 2, 1) := by decide +kernel
theorem dL_takeOut_17 : decode cL_takeOut 17 = .ok (.ireturn, 1) := by decide +kernel
theorem dL_split_0 : decode cL_split 0 = .ok (.aload 4, 2) := by decide +kernel
theorem dL_split_2 : decode cL_split 2 = .ok (.iconst 0, 1) := by decide +kernel
theorem dL_split_3 : decode cL_split 3 = .ok (.aload_n 0, 1) := by decide +kernel
theorem dL_split_4 : decode cL_split 4 = .ok (.iload_n 1, 1) := by decide +kernel
theorem dL_split_5 : decode cL_split 5 = .ok (.iload_n 2, 1) := by decide +kernel
theorem dL_split_6 : decode cL_split 6 = .ok (.iload_n 3, 1) := by decide +kernel
theorem dL_split_7 : decode cL_split 7 = .ok (.invokevirtual 60, 3) := by decide +kernel
theorem dL_split_15 : decode cL_split 15 = .ok (.astore 5, 2) := by decide +kernel
theorem dL_split_17 : decode cL_split 17 = .ok (.iconst 1, 1) := by decide +kernel
theorem dL_split_18 : decode cL_split 18 = .ok (.ireturn, 1) := by decide +kernel
theorem dL_merge_0 : decode cL_merge 0 = .ok (.aload_n 3, 1) := by decide +kernel
theorem dL_merge_1 : decode cL_merge 1 = .ok (.iconst 0, 1) := by decide +kernel
theorem dL_merge_2 : decode cL_merge 2 = .ok (.aload_n 0, 1) := by decide +kernel
theorem dL_merge_3 : decode cL_merge 3 = .ok (.iload_n 1, 1) := by decide +kernel
theorem dL_merge_4 : decode cL_merge 4 = .ok (.iload_n 2, 1) := by decide +kernel
theorem dL_merge_5 : decode cL_merge 5 = .ok (.invokevirtual 63, 3) := by decide +kernel
theorem dL_merge_13 : decode cL_merge 13 = .ok (.astore 4, 2) := by decide +kernel
theorem dL_merge_15 : decode cL_merge 15 = .ok (.iconst 1, 1) := by decide +kernel
theorem dL_merge_16 : decode cL_merge 16 = .ok (.ireturn, 1) := by decide +kernel
theorem dL_container_0 : decode cL_container 0 = .ok (.aload_n 3, 1) := by decide +kernel
theorem dL_container_1 : decode cL_container 1 = .ok (.iconst 0, 1) := by decide +kernel
theorem dL_container_2 : decode cL_container 2 = .ok (.aload_n 0, 1) := by decide +kernel
theorem dL_container_3 : decode cL_container 3 = .ok (.iload_n 1, 1) := by decide +kernel
theorem dL_container_4 : decode cL_container 4 = .ok (.iload_n 2, 1) := by decide +kernel
theorem dL_container_5 : decode cL_container 5 = .ok (.invokevirtual 66, 3) := by decide +kernel
theorem dL_container_13 : decode cL_container 13 = .ok (.astore 4, 2) := by decide +kernel
theorem dL_container_15 : decode cL_container 15 = .ok (.iconst 1, 1) := by decide +kernel
theorem dL_container_16 : decode cL_container 16 = .ok (.ireturn, 1) := by decide +kernel
theorem dL_unitAt_0 : decode cL_unitAt 0 = .ok (.aload_n 3, 1) := by decide +kernel
theorem dL_unitAt_1 : decode cL_unitAt 1 = .ok (.iconst 0, 1) := by decide +kernel
theorem dL_unitAt_2 : decode cL_unitAt 2 = .ok (.aload_n 0, 1) := by decide +kernel
theorem dL_unitAt_3 : decode cL_unitAt 3 = .ok (.iload_n 1, 1) := by decide +kernel
theorem dL_unitAt_4 : decode cL_unitAt 4 = .ok (.iload_n 2, 1) := by decide +kernel
theorem dL_unitAt_5 : decode cL_unitAt 5 = .ok (.invokevirtual 69, 3) := by decide +kernel
theorem dL_unitAt_13 : decode cL_unitAt 13 = .ok (.astore 4, 2) := by decide +kernel
theorem dL_unitAt_15 : decode cL_unitAt 15 = .ok (.iconst 1, 1) := by decide +kernel
theorem dL_unitAt_16 : decode cL_unitAt 16 = .ok (.ireturn, 1) := by decide +kernel
theorem dL_copy_0 : decode cL_copy 0 = .ok (.aload_n 3, 1) := by decide +kernel
theorem dL_copy_1 : decode cL_copy 1 = .ok (.iconst 0, 1) := by decide +kernel
theorem dL_copy_2 : decode cL_copy 2 = .ok (.aload_n 0, 1) := by decide +kernel
theorem dL_copy_3 : decode cL_copy 3 = .ok (.iload_n 1, 1) := by decide +kernel
theorem dL_copy_4 : decode cL_copy 4 = .ok (.iload_n 2, 1) := by decide +kernel
theorem dL_copy_5 : decode cL_copy 5 = .ok (.invokevirtual 75, 3) := by decide +kernel
theorem dL_copy_13 : decode cL_copy 13 = .ok (.astore 4, 2) := by decide +kernel
theorem dL_copy_15 : decode cL_copy 15 = .ok (.iconst 1, 1) := by decide +kernel
theorem dL_copy_16 : decode cL_copy 16 = .ok (.ireturn, 1) := by decide +kernel
theorem dL_copy_17 : decode cL_copy 17 = .ok (.astore 4, 2) := by decide +kernel
theorem dL_copy_19 : decode cL_copy 19 = .ok (.iconst 2, 1) := by decide +kernel
theorem dL_copy_20 : decode cL_copy 20 = .ok (.ireturn, 1) := by decide +kernel
theorem dL_copyPart_0 : decode cL_copyPart 0 = .ok (.aload_n 3, 1) := by decide +kernel
theorem dL_copyPart_1 : decode cL_copyPart 1 = .ok (.iconst 0, 1) := by decide +kernel
theorem dL_copyPart_2 : decode cL_copyPart 2 = .ok (.aload_n 0, 1) := by decide +kernel
theorem dL_copyPart_3 : decode cL_copyPart 3 = .ok (.iload_n 1, 1) := by decide +kernel
theorem dL_copyPart_4 : decode cL_copyPart 4 = .ok (.iload_n 2, 1) := by decide +kernel
theorem dL_copyPart_5 : decode cL_copyPart 5 = .ok (.invokevirtual 78, 3) := by decide +kernel
theorem dL_copyPart_13 : decode cL_copyPart 13 = .ok (.astore 4, 2) := by decide +kernel
theorem dL_copyPart_15 : decode cL_copyPart 15 = .ok (.iconst 1, 1) := by decide +kernel
theorem dL_copyPart_16 : decode cL_copyPart 16 = .ok (.ireturn, 1) := by decide +kernel
theorem dL_setSeats_0 : decode cL_setSeats 0 = .ok (.aload_n 2, 1) := by decide +kernel
theorem dL_setSeats_1 : decode cL_setSeats 1 = .ok (.iconst 0, 1) := by decide +kernel
theorem dL_setSeats_2 : decode cL_setSeats 2 = .ok (.aload_n 0, 1) := by decide +kernel
theorem dL_setSeats_3 : decode cL_setSeats 3 = .ok (.iload_n 1, 1) := by decide +kernel
theorem dL_setSeats_4 : decode cL_setSeats 4 = .ok (.invokevirtual 81, 3) := by decide +kernel
theorem dL_setSeats_12 : decode cL_setSeats 12 = .ok (.astore_n 3, 1) := by decide +kernel
theorem dL_setSeats_13 : decode cL_setSeats 13 = .ok (.iconst 1, 1) := by decide +kernel
theorem dL_setSeats_14 : decode cL_setSeats 14 = .ok (.ireturn, 1) := by decide +kernel
theorem dL_setSeats_7 : decode cL_setSeats 7 = .ok (.i2l, 1) := by decide +kernel
theorem dL_setSeats_8 : decode cL_setSeats 8 = .ok (.lastore, 1) := by decide +kernel
theorem dL_setSeats_9 : decode cL_setSeats 9 = .ok (.goto 6, 3) := by decide +kernel
theorem dL_setSeats_15 : decode cL_setSeats 15 = .ok (.iconst 0, 1) := by decide +kernel
theorem dL_setSeats_16 : decode cL_setSeats 16 = .ok (.ireturn, 1) := by decide +kernel
theorem dL_request_0 : decode cL_request 0 = .ok (.aload 4, 2) := by decide +kernel
theorem dL_request_2 : decode cL_request 2 = .ok (.iconst 0, 1) := by decide +kernel
theorem dL_request_3 : decode cL_request 3 = .ok (.aload_n 0, 1) := by decide +kernel
theorem dL_request_4 : decode cL_request 4 = .ok (.iload_n 1, 1) := by decide +kernel
theorem dL_request_5 : decode cL_request 5 = .ok (.iload_n 2, 1) := by decide +kernel
theorem dL_request_6 : decode cL_request 6 = .ok (.iload_n 3, 1) := by decide +kernel
theorem dL_request_7 : decode cL_request 7 = .ok (.invokevirtual 84, 3) := by decide +kernel
theorem dL_request_15 : decode cL_request 15 = .ok (.astore 5, 2) := by decide +kernel
theorem dL_request_17 : decode cL_request 17 = .ok (.iconst 1, 1) := by decide +kernel
theorem dL_request_18 : decode cL_request 18 = .ok (.ireturn, 1) := by decide +kernel
theorem dL_request_19 : decode cL_request 19 = .ok (.astore 5, 2) := by decide +kernel
theorem dL_request_21 : decode cL_request 21 = .ok (.iconst 2, 1) := by decide +kernel
theorem dL_request_22 : decode cL_request 22 = .ok (.ireturn, 1) := by decide +kernel
theorem dL_requestPart_0 : decode cL_requestPart 0 = .ok (.aload_n 3, 1) := by decide +kernel
theorem dL_requestPart_1 : decode cL_requestPart 1 = .ok (.iconst 0, 1) := by decide +kernel
theorem dL_requestPart_2 : decode cL_requestPart 2 = .ok (.aload_n 0, 1) := by decide +kernel
theorem dL_requestPart_3 : decode cL_requestPart 3 = .ok (.iload_n 1, 1) := by decide +kernel
theorem dL_requestPart_4 : decode cL_requestPart 4 = .ok (.iload_n 2, 1) := by decide +kernel
theorem dL_requestPart_5 : decode cL_requestPart 5 = .ok (.invokevirtual 89, 3) := by decide +kernel
theorem dL_requestPart_13 : decode cL_requestPart 13 = .ok (.astore 4, 2) := by decide +kernel
theorem dL_requestPart_15 : decode cL_requestPart 15 = .ok (.iconst 1, 1) := by decide +kernel
theorem dL_requestPart_16 : decode cL_requestPart 16 = .ok (.ireturn, 1) := by decide +kernel
theorem dL_cancel_0 : decode cL_cancel 0 = .ok (.aload_n 2, 1) := by decide +kernel
theorem dL_cancel_1 : decode cL_cancel 1 = .ok (.iconst 0, 1) := by decide +kernel
theorem dL_cancel_2 : decode cL_cancel 2 = .ok (.aload_n 0, 1) := by decide +kernel
theorem dL_cancel_3 : decode cL_cancel 3 = .ok (.iload_n 1, 1) := by decide +kernel
theorem dL_cancel_4 : decode cL_cancel 4 = .ok (.invokevirtual 92, 3) := by decide +kernel
theorem dL_cancel_12 : decode cL_cancel 12 = .ok (.astore_n 3, 1) := by decide +kernel
theorem dL_cancel_13 : decode cL_cancel 13 = .ok (.iconst 1, 1) := by decide +kernel
theorem dL_cancel_14 : decode cL_cancel 14 = .ok (.ireturn, 1) := by decide +kernel
theorem dL_account_0 : decode cL_account 0 = .ok (.aload_n 2, 1) := by decide +kernel
theorem dL_account_1 : decode cL_account 1 = .ok (.iconst 0, 1) := by decide +kernel
theorem dL_account_2 : decode cL_account 2 = .ok (.aload_n 0, 1) := by decide +kernel
theorem dL_account_3 : decode cL_account 3 = .ok (.iload_n 1, 1) := by decide +kernel
theorem dL_account_4 : decode cL_account 4 = .ok (.invokevirtual 95, 3) := by decide +kernel
theorem dL_account_12 : decode cL_account 12 = .ok (.astore_n 3, 1) := by decide +kernel
theorem dL_account_13 : decode cL_account 13 = .ok (.iconst 1, 1) := by decide +kernel
theorem dL_account_14 : decode cL_account 14 = .ok (.ireturn, 1) := by decide +kernel
theorem dL_account_7 : decode cL_account 7 = .ok (.i2l, 1) := by decide +kernel
theorem dL_account_8 : decode cL_account 8 = .ok (.lastore, 1) := by decide +kernel
theorem dL_account_9 : decode cL_account 9 = .ok (.goto 6, 3) := by decide +kernel
theorem dL_account_15 : decode cL_account 15 = .ok (.iconst 0, 1) := by decide +kernel
theorem dL_account_16 : decode cL_account 16 = .ok (.ireturn, 1) := by decide +kernel
theorem dL_dayCount_0 : decode cL_dayCount 0 = .ok (.aload_n 3, 1) := by decide +kernel
theorem dL_dayCount_1 : decode cL_dayCount 1 = .ok (.iconst 0, 1) := by decide +kernel
theorem dL_dayCount_2 : decode cL_dayCount 2 = .ok (.aload_n 0, 1) := by decide +kernel
theorem dL_dayCount_3 : decode cL_dayCount 3 = .ok (.iload_n 1, 1) := by decide +kernel
theorem dL_dayCount_4 : decode cL_dayCount 4 = .ok (.iload_n 2, 1) := by decide +kernel
theorem dL_dayCount_5 : decode cL_dayCount 5 = .ok (.invokevirtual 98, 3) := by decide +kernel
theorem dL_dayCount_13 : decode cL_dayCount 13 = .ok (.astore 4, 2) := by decide +kernel
theorem dL_dayCount_15 : decode cL_dayCount 15 = .ok (.iconst 1, 1) := by decide +kernel
theorem dL_dayCount_16 : decode cL_dayCount 16 = .ok (.ireturn, 1) := by decide +kernel
theorem dL_dayCount_8 : decode cL_dayCount 8 = .ok (.i2l, 1) := by decide +kernel
theorem dL_dayCount_9 : decode cL_dayCount 9 = .ok (.lastore, 1) := by decide +kernel
theorem dL_dayCount_10 : decode cL_dayCount 10 = .ok (.goto 7, 3) := by decide +kernel
theorem dL_dayCount_17 : decode cL_dayCount 17 = .ok (.iconst 0, 1) := by decide +kernel
theorem dL_dayCount_18 : decode cL_dayCount 18 = .ok (.ireturn, 1) := by decide +kernel
theorem dL_openShare_0 : decode cL_openShare 0 = .ok (.aload_n 2, 1) := by decide +kernel
theorem dL_openShare_1 : decode cL_openShare 1 = .ok (.iconst 0, 1) := by decide +kernel
theorem dL_openShare_2 : decode cL_openShare 2 = .ok (.aload_n 0, 1) := by decide +kernel
theorem dL_openShare_3 : decode cL_openShare 3 = .ok (.iload_n 1, 1) := by decide +kernel
theorem dL_openShare_4 : decode cL_openShare 4 = .ok (.invokevirtual 101, 3) := by decide +kernel
theorem dL_openShare_11 : decode cL_openShare 11 = .ok (.astore_n 3, 1) := by decide +kernel
theorem dL_openShare_12 : decode cL_openShare 12 = .ok (.iconst 1, 1) := by decide +kernel
theorem dL_openShare_13 : decode cL_openShare 13 = .ok (.ireturn, 1) := by decide +kernel
theorem dL_openShare_14 : decode cL_openShare 14 = .ok (.astore_n 3, 1) := by decide +kernel
theorem dL_openShare_15 : decode cL_openShare 15 = .ok (.iconst 2, 1) := by decide +kernel
theorem dL_openShare_16 : decode cL_openShare 16 = .ok (.ireturn, 1) := by decide +kernel
theorem dL_feed_0 : decode cL_feed 0 = .ok (.aload_n 2, 1) := by decide +kernel
theorem dL_feed_1 : decode cL_feed 1 = .ok (.iconst 0, 1) := by decide +kernel
theorem dL_feed_2 : decode cL_feed 2 = .ok (.aload_n 0, 1) := by decide +kernel
theorem dL_feed_3 : decode cL_feed 3 = .ok (.iload_n 1, 1) := by decide +kernel
theorem dL_feed_4 : decode cL_feed 4 = .ok (.invokevirtual 110, 3) := by decide +kernel
theorem dL_feed_7 : decode cL_feed 7 = .ok (.i2l, 1) := by decide +kernel
theorem dL_feed_8 : decode cL_feed 8 = .ok (.lastore, 1) := by decide +kernel
theorem dL_feed_9 : decode cL_feed 9 = .ok (.goto 6, 3) := by decide +kernel
theorem dL_feed_15 : decode cL_feed 15 = .ok (.iconst 0, 1) := by decide +kernel
theorem dL_feed_16 : decode cL_feed 16 = .ok (.ireturn, 1) := by decide +kernel
theorem dL_read_0 : decode cL_read 0 = .ok (.aload_n 2, 1) := by decide +kernel
theorem dL_read_1 : decode cL_read 1 = .ok (.iconst 0, 1) := by decide +kernel
theorem dL_read_2 : decode cL_read 2 = .ok (.aload_n 0, 1) := by decide +kernel
theorem dL_read_3 : decode cL_read 3 = .ok (.iload_n 1, 1) := by decide +kernel
theorem dL_read_4 : decode cL_read 4 = .ok (.invokevirtual 114, 3) := by decide +kernel
theorem dL_read_12 : decode cL_read 12 = .ok (.astore_n 3, 1) := by decide +kernel
theorem dL_read_13 : decode cL_read 13 = .ok (.iconst 1, 1) := by decide +kernel
theorem dL_read_14 : decode cL_read 14 = .ok (.ireturn, 1) := by decide +kernel
theorem dL_read_7 : decode cL_read 7 = .ok (.i2l, 1) := by decide +kernel
theorem dL_read_8 : decode cL_read 8 = .ok (.lastore, 1) := by decide +kernel
theorem dL_read_9 : decode cL_read 9 = .ok (.goto 9, 3) := by decide +kernel
theorem dL_read_18 : decode cL_read 18 = .ok (.iconst 0, 1) := by decide +kernel
theorem dL_read_19 : decode cL_read 19 = .ok (.ireturn, 1) := by decide +kernel
theorem dL_write_0 : decode cL_write 0 = .ok (.aload_n 2, 1) := by decide +kernel
theorem dL_write_1 : decode cL_write 1 = .ok (.iconst 0, 1) := by decide +kernel
theorem dL_write_2 : decode cL_write 2 = .ok (.aload_n 0, 1) := by decide +kernel
theorem dL_write_3 : decode cL_write 3 = .ok (.iload_n 1, 1) := by decide +kernel
theorem dL_write_4 : decode cL_write 4 = .ok (.invokevirtual 117, 3) := by decide +kernel
theorem dL_write_12 : decode cL_write 12 = .ok (.astore_n 3, 1) := by decide +kernel
theorem dL_write_13 : decode cL_write 13 = .ok (.iconst 1, 1) := by decide +kernel
theorem dL_write_14 : decode cL_write 14 = .ok (.ireturn, 1) := by decide +kernel
theorem dL_write_7 : decode cL_write 7 = .ok (.i2l, 1) := by decide +kernel
theorem dL_write_8 : decode cL_write 8 = .ok (.lastore, 1) := by decide +kernel
theorem dL_write_9 : decode cL_write 9 = .ok (.goto 6, 3) := by decide +kernel
theorem dL_write_15 : decode cL_write 15 = .ok (.iconst 0, 1) := by decide +kernel
theorem dL_write_16 : decode cL_write 16 = .ok (.ireturn, 1) := by decide +kernel
theorem dL_text_0 : decode cL_text 0 = .ok (.aload_n 2, 1) := by decide +kernel
theorem dL_text_1 : decode cL_text 1 = .ok (.iconst 0, 1) := by decide +kernel
theorem dL_text_2 : decode cL_text 2 = .ok (.aload_n 0, 1) := by decide +kernel
theorem dL_text_3 : decode cL_text 3 = .ok (.iload_n 1, 1) := by decide +kernel
theorem dL_text_4 : decode cL_text 4 = .ok (.invokevirtual 120, 3) := by decide +kernel
theorem dL_text_12 : decode cL_text 12 = .ok (.astore_n 3, 1) := by decide +kernel
theorem dL_text_13 : decode cL_text 13 = .ok (.iconst 1, 1) := by decide +kernel
theorem dL_text_14 : decode cL_text 14 = .ok (.ireturn, 1) := by decide +kernel
theorem dL_undo_0 : decode cL_undo 0 = .ok (.aload_n 1, 1) := by decide +kernel
theorem dL_undo_1 : decode cL_undo 1 = .ok (.iconst 0, 1) := by decide +kernel
theorem dL_undo_2 : decode cL_undo 2 = .ok (.aload_n 0, 1) := by decide +kernel
theorem dL_undo_3 : decode cL_undo 3 = .ok (.invokevirtual 124, 3) := by decide +kernel
theorem dL_undo_11 : decode cL_undo 11 = .ok (.astore_n 2, 1) := by decide +kernel
theorem dL_undo_12 : decode cL_undo 12 = .ok (.iconst 1, 1) := by decide +kernel
theorem dL_undo_13 : decode cL_undo 13 = .ok (.ireturn, 1) := by decide +kernel
theorem dL_restore_0 : decode cL_restore 0 = .ok (.aload_n 1, 1) := by decide +kernel
theorem dL_restore_1 : decode cL_restore 1 = .ok (.iconst 0, 1) := by decide +kernel
theorem dL_restore_2 : decode cL_restore 2 = .ok (.aload_n 0, 1) := by decide +kernel
theorem dL_restore_3 : decode cL_restore 3 = .ok (.invokevirtual 128, 3) := by decide +kernel
theorem dL_restore_11 : decode cL_restore 11 = .ok (.astore_n 2, 1) := by decide +kernel
theorem dL_restore_12 : decode cL_restore 12 = .ok (.iconst 1, 1) := by decide +kernel
theorem dL_restore_13 : decode cL_restore 13 = .ok (.ireturn, 1) := by decide +kernel

