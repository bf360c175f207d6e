theorem fm_553 : Cond.code yX10_fails cX10_fails 3 (some .boolean) ∈ fz_WA := fz_in (fz_tin 1657 (by decide +kernel)) (by decide +kernel)
theorem fm_554 : Cond.methodLink RX10 69 yX10_fails ∈ fz_WA := fz_in (fz_tin 1654 (by decide +kernel)) (by decide +kernel)
theorem fm_555 : Cond.instanceMethod yX10_fails ∈ fz_WA := fz_in (fz_tin 1656 (by decide +kernel)) (by decide +kernel)
theorem fm_556 : Cond.selects RX10 yX10_fails yX10_fails ∈ fz_WA := fz_in (fz_sin 22 (by decide +kernel)) (by decide +kernel)
theorem fm_557 : Cond.code yX10_isGood cX10_isGood 7 (some .boolean) ∈ fz_WA := fz_in (fz_tin 1661 (by decide +kernel)) (by decide +kernel)
theorem fm_558 : Cond.methodLink RX10 73 yX10_isGood ∈ fz_WA := fz_in (fz_tin 1658 (by decide +kernel)) (by decide +kernel)
theorem fm_559 : Cond.instanceMethod yX10_isGood ∈ fz_WA := fz_in (fz_tin 1660 (by decide +kernel)) (by decide +kernel)
theorem fm_560 : Cond.selects RX10 yX10_isGood yX10_isGood ∈ fz_WA := fz_in (fz_sin 23 (by decide +kernel)) (by decide +kernel)
theorem fm_561 : Cond.code yX10_remember cX10_remember 1 none ∈ fz_WA := fz_in (fz_tin 1668 (by decide +kernel)) (by decide +kernel)
theorem fm_562 : Cond.methodLink RX10 77 yX10_remember ∈ fz_WA := fz_in (fz_tin 1665 (by decide +kernel)) (by decide +kernel)
theorem fm_563 : Cond.instanceMethod yX10_remember ∈ fz_WA := fz_in (fz_tin 1667 (by decide +kernel)) (by decide +kernel)
theorem fm_564 : Cond.selects RX10 yX10_remember yX10_remember ∈ fz_WA := fz_in (fz_sin 24 (by decide +kernel)) (by decide +kernel)
theorem fm_565 : Cond.code yX10_makeNode cX10_makeNode 8 (some .int) ∈ fz_WA := fz_in (fz_tin 1563 (by decide +kernel)) (by decide +kernel)
theorem fm_566 : Cond.methodLink RX10 31 yX10_makeNode ∈ fz_WA := fz_in (fz_tin 1560 (by decide +kernel)) (by decide +kernel)
theorem fm_567 : Cond.instanceMethod yX10_makeNode ∈ fz_WA := fz_in (fz_tin 1562 (by decide +kernel)) (by decide +kernel)
theorem fm_568 : Cond.selects RX10 yX10_makeNode yX10_makeNode ∈ fz_WA := fz_in (fz_sin 18 (by decide +kernel)) (by decide +kernel)
theorem fm_569 : Cond.code yX10_countChildren cX10_countChildren 4 (some .int) ∈ fz_WA := fz_in (fz_tin 1734 (by decide +kernel)) (by decide +kernel)
theorem fm_570 : Cond.methodLink RX10 116 yX10_countChildren ∈ fz_WA := fz_in (fz_tin 1731 (by decide +kernel)) (by decide +kernel)
theorem fm_571 : Cond.instanceMethod yX10_countChildren ∈ fz_WA := fz_in (fz_tin 1733 (by decide +kernel)) (by decide +kernel)
theorem fm_572 : Cond.selects RX10 yX10_countChildren yX10_countChildren ∈ fz_WA := fz_in (fz_sin 36 (by decide +kernel)) (by decide +kernel)
theorem fm_573 : Cond.code yX10_countBelow cX10_countBelow 4 (some .int) ∈ fz_WA := fz_in (fz_tin 1742 (by decide +kernel)) (by decide +kernel)
theorem fm_574 : Cond.methodLink RX10 119 yX10_countBelow ∈ fz_WA := fz_in (fz_tin 1739 (by decide +kernel)) (by decide +kernel)
theorem fm_575 : Cond.instanceMethod yX10_countBelow ∈ fz_WA := fz_in (fz_tin 1741 (by decide +kernel)) (by decide +kernel)
theorem fm_576 : Cond.selects RX10 yX10_countBelow yX10_countBelow ∈ fz_WA := fz_in (fz_sin 38 (by decide +kernel)) (by decide +kernel)
theorem fm_577 : Cond.code yX10_sumPages cX10_sumPages 4 (some .int) ∈ fz_WA := fz_in (fz_tin 1746 (by decide +kernel)) (by decide +kernel)
theorem fm_578 : Cond.methodLink RX10 122 yX10_sumPages ∈ fz_WA := fz_in (fz_tin 1743 (by decide +kernel)) (by decide +kernel)
theorem fm_579 : Cond.instanceMethod yX10_sumPages ∈ fz_WA := fz_in (fz_tin 1745 (by decide +kernel)) (by decide +kernel)
theorem fm_580 : Cond.selects RX10 yX10_sumPages yX10_sumPages ∈ fz_WA := fz_in (fz_sin 39 (by decide +kernel)) (by decide +kernel)
theorem fm_581 : Cond.code yX10_countCopies cX10_countCopies 4 (some .int) ∈ fz_WA := fz_in (fz_tin 1750 (by decide +kernel)) (by decide +kernel)
theorem fm_582 : Cond.methodLink RX10 125 yX10_countCopies ∈ fz_WA := fz_in (fz_tin 1747 (by decide +kernel)) (by decide +kernel)
theorem fm_583 : Cond.instanceMethod yX10_countCopies ∈ fz_WA := fz_in (fz_tin 1749 (by decide +kernel)) (by decide +kernel)
theorem fm_584 : Cond.selects RX10 yX10_countCopies yX10_countCopies ∈ fz_WA := fz_in (fz_sin 40 (by decide +kernel)) (by decide +kernel)
theorem fm_585 : Cond.code yX10_openSet cX10_openSet 6 (some .int) ∈ fz_WA := fz_in (fz_tin 1787 (by decide +kernel)) (by decide +kernel)
theorem fm_586 : Cond.methodLink RX10 144 yX10_openSet ∈ fz_WA := fz_in (fz_tin 1784 (by decide +kernel)) (by decide +kernel)
theorem fm_587 : Cond.instanceMethod yX10_openSet ∈ fz_WA := fz_in (fz_tin 1786 (by decide +kernel)) (by decide +kernel)
theorem fm_588 : Cond.selects RX10 yX10_openSet yX10_openSet ∈ fz_WA := fz_in (fz_sin 44 (by decide +kernel)) (by decide +kernel)
theorem fm_589 : Cond.code yX10_isCopy cX10_isCopy 2 (some .boolean) ∈ fz_WA := fz_in (fz_tin 1754 (by decide +kernel)) (by decide +kernel)
theorem fm_590 : Cond.methodLink RX10 109 yX10_isCopy ∈ fz_WA := fz_in (fz_tin 1751 (by decide +kernel)) (by decide +kernel)
theorem fm_591 : Cond.instanceMethod yX10_isCopy ∈ fz_WA := fz_in (fz_tin 1753 (by decide +kernel)) (by decide +kernel)
theorem fm_592 : Cond.selects RX10 yX10_isCopy yX10_isCopy ∈ fz_WA := fz_in (fz_sin 41 (by decide +kernel)) (by decide +kernel)
theorem fm_593 : Cond.code yX10_isCapacity cX10_isCapacity 1 (some .boolean) ∈ fz_WA := fz_in (fz_tin 1828 (by decide +kernel)) (by decide +kernel)
theorem fm_594 : Cond.methodLink RX10 172 yX10_isCapacity ∈ fz_WA := fz_in (fz_tin 1826 (by decide +kernel)) (by decide +kernel)
theorem fm_595 : Cond.static yX10_isCapacity ∈ fz_WA := fz_in (fz_tin 1827 (by decide +kernel)) (by decide +kernel)
theorem fm_596 : Cond.code yX10_isFull cX10_isFull 1 (some .boolean) ∈ fz_WA := fz_in (fz_tin 1832 (by decide +kernel)) (by decide +kernel)
theorem fm_597 : Cond.methodLink RX10 175 yX10_isFull ∈ fz_WA := fz_in (fz_tin 1829 (by decide +kernel)) (by decide +kernel)
theorem fm_598 : Cond.instanceMethod yX10_isFull ∈ fz_WA := fz_in (fz_tin 1831 (by decide +kernel)) (by decide +kernel)
theorem fm_599 : Cond.selects RX10 yX10_isFull yX10_isFull ∈ fz_WA := fz_in (fz_sin 49 (by decide +kernel)) (by decide +kernel)
theorem fm_600 : Cond.code yX10_makeContainer cX10_makeContainer 3 (some .int) ∈ fz_WA := fz_in (fz_tin 1840 (by decide +kernel)) (by decide +kernel)
theorem fm_601 : Cond.methodLink RX10 179 yX10_makeContainer ∈ fz_WA := fz_in (fz_tin 1837 (by decide +kernel)) (by decide +kernel)
theorem fm_602 : Cond.instanceMethod yX10_makeContainer ∈ fz_WA := fz_in (fz_tin 1839 (by decide +kernel)) (by decide +kernel)
theorem fm_603 : Cond.selects RX10 yX10_makeContainer yX10_makeContainer ∈ fz_WA := fz_in (fz_sin 51 (by decide +kernel)) (by decide +kernel)
theorem fm_604 : Cond.code yX10_isContainer cX10_isContainer 2 (some .boolean) ∈ fz_WA := fz_in (fz_tin 1848 (by decide +kernel)) (by decide +kernel)
theorem fm_605 : Cond.methodLink RX10 182 yX10_isContainer ∈ fz_WA := fz_in (fz_tin 1845 (by decide +kernel)) (by decide +kernel)
theorem fm_606 : Cond.instanceMethod yX10_isContainer ∈ fz_WA := fz_in (fz_tin 1847 (by decide +kernel)) (by decide +kernel)
theorem fm_607 : Cond.selects RX10 yX10_isContainer yX10_isContainer ∈ fz_WA := fz_in (fz_sin 52 (by decide +kernel)) (by decide +kernel)
theorem fm_608 : Cond.code yX10_countUnits cX10_countUnits 4 (some .int) ∈ fz_WA := fz_in (fz_tin 1943 (by decide +kernel)) (by decide +kernel)
theorem fm_609 : Cond.methodLink RX10 234 yX10_countUnits ∈ fz_WA := fz_in (fz_tin 1940 (by decide +kernel)) (by decide +kernel)
theorem fm_610 : Cond.instanceMethod yX10_countUnits ∈ fz_WA := fz_in (fz_tin 1942 (by decide +kernel)) (by decide +kernel)
theorem fm_611 : Cond.selects RX10 yX10_countUnits yX10_countUnits ∈ fz_WA := fz_in (fz_sin 63 (by decide +kernel)) (by decide +kernel)
theorem fm_612 : Cond.code yX10_countCopiesThere cX10_countCopiesThere 3 (some .int) ∈ fz_WA := fz_in (fz_tin 1947 (by decide +kernel)) (by decide +kernel)
theorem fm_613 : Cond.methodLink RX10 238 yX10_countCopiesThere ∈ fz_WA := fz_in (fz_tin 1944 (by decide +kernel)) (by decide +kernel)
theorem fm_614 : Cond.instanceMethod yX10_countCopiesThere ∈ fz_WA := fz_in (fz_tin 1946 (by decide +kernel)) (by decide +kernel)
theorem fm_615 : Cond.selects RX10 yX10_countCopiesThere yX10_countCopiesThere ∈ fz_WA := fz_in (fz_sin 64 (by decide +kernel)) (by decide +kernel)
theorem fm_616 : Cond.code yX10_countShown cX10_countShown 4 (some .int) ∈ fz_WA := fz_in (fz_tin 1951 (by decide +kernel)) (by decide +kernel)
theorem fm_617 : Cond.methodLink RX10 241 yX10_countShown ∈ fz_WA := fz_in (fz_tin 1948 (by decide +kernel)) (by decide +kernel)
theorem fm_618 : Cond.instanceMethod yX10_countShown ∈ fz_WA := fz_in (fz_tin 1950 (by decide +kernel)) (by decide +kernel)
theorem fm_619 : Cond.selects RX10 yX10_countShown yX10_countShown ∈ fz_WA := fz_in (fz_sin 65 (by decide +kernel)) (by decide +kernel)
theorem fm_620 : Cond.code yX10_countMarks cX10_countMarks 3 (some .int) ∈ fz_WA := fz_in (fz_tin 1955 (by decide +kernel)) (by decide +kernel)
theorem fm_621 : Cond.methodLink RX10 244 yX10_countMarks ∈ fz_WA := fz_in (fz_tin 1952 (by decide +kernel)) (by decide +kernel)
theorem fm_622 : Cond.instanceMethod yX10_countMarks ∈ fz_WA := fz_in (fz_tin 1954 (by decide +kernel)) (by decide +kernel)
theorem fm_623 : Cond.selects RX10 yX10_countMarks yX10_countMarks ∈ fz_WA := fz_in (fz_sin 66 (by decide +kernel)) (by decide +kernel)
theorem fm_624 : Cond.code yX10_countOpen cX10_countOpen 7 (some .int) ∈ fz_WA := fz_in (fz_tin 1967 (by decide +kernel)) (by decide +kernel)
theorem fm_625 : Cond.methodLink RX10 250 yX10_countOpen ∈ fz_WA := fz_in (fz_tin 1964 (by decide +kernel)) (by decide +kernel)
theorem fm_626 : Cond.instanceMethod yX10_countOpen ∈ fz_WA := fz_in (fz_tin 1966 (by decide +kernel)) (by decide +kernel)
theorem fm_627 : Cond.selects RX10 yX10_countOpen yX10_countOpen ∈ fz_WA := fz_in (fz_sin 68 (by decide +kernel)) (by decide +kernel)
theorem fm_628 : Cond.code yX10_countSeated cX10_countSeated 4 (some .int) ∈ fz_WA := fz_in (fz_tin 1908 (by decide +kernel)) (by decide +kernel)
theorem fm_629 : Cond.methodLink RX10 216 yX10_countSeated ∈ fz_WA := fz_in (fz_tin 1905 (by decide +kernel)) (by decide +kernel)
theorem fm_630 : Cond.instanceMethod yX10_countSeated ∈ fz_WA := fz_in (fz_tin 1907 (by decide +kernel)) (by decide +kernel)
theorem fm_631 : Cond.selects RX10 yX10_countSeated yX10_countSeated ∈ fz_WA := fz_in (fz_sin 59 (by decide +kernel)) (by decide +kernel)
theorem fm_632 : Cond.code yX10_countOn cX10_countOn 4 (some .int) ∈ fz_WA := fz_in (fz_tin 1963 (by decide +kernel)) (by decide +kernel)
theorem fm_633 : Cond.methodLink RX10 247 yX10_countOn ∈ fz_WA := fz_in (fz_tin 1960 (by decide +kernel)) (by decide +kernel)
theorem fm_634 : Cond.instanceMethod yX10_countOn ∈ fz_WA := fz_in (fz_tin 1962 (by decide +kernel)) (by decide +kernel)
theorem fm_635 : Cond.selects RX10 yX10_countOn yX10_countOn ∈ fz_WA := fz_in (fz_sin 67 (by decide +kernel)) (by decide +kernel)
theorem fm_636 : Cond.fieldLink RX10 210 "FindingAidModel" "levels" "I" ∈ fz_WA := fz_in (fz_tin 1577 (by decide +kernel)) (by decide +kernel)
theorem fm_637 : Cond.fieldLink RX10 24 "FindingAidModel" "buffer" "[C" ∈ fz_WA := fz_in (fz_tin 1582 (by decide +kernel)) (by decide +kernel)
theorem fm_638 : Cond.code yX10_passNode cX10_passNode 8 none ∈ fz_WA := fz_in (fz_tin 1987 (by decide +kernel)) (by decide +kernel)
theorem fm_639 : Cond.methodLink RX10 284 yX10_passNode ∈ fz_WA := fz_in (fz_tin 1984 (by decide +kernel)) (by decide +kernel)
theorem fm_640 : Cond.instanceMethod yX10_passNode ∈ fz_WA := fz_in (fz_tin 1986 (by decide +kernel)) (by decide +kernel)
theorem fm_641 : Cond.selects RX10 yX10_passNode yX10_passNode ∈ fz_WA := fz_in (fz_sin 69 (by decide +kernel)) (by decide +kernel)
theorem fm_642 : Cond.code yX10_writeNode cX10_writeNode 4 none ∈ fz_WA := fz_in (fz_tin 2011 (by decide +kernel)) (by decide +kernel)
theorem fm_643 : Cond.methodLink RX10 297 yX10_writeNode ∈ fz_WA := fz_in (fz_tin 2008 (by decide +kernel)) (by decide +kernel)
theorem fm_644 : Cond.instanceMethod yX10_writeNode ∈ fz_WA := fz_in (fz_tin 2010 (by decide +kernel)) (by decide +kernel)
theorem fm_645 : Cond.selects RX10 yX10_writeNode yX10_writeNode ∈ fz_WA := fz_in (fz_sin 74 (by decide +kernel)) (by decide +kernel)
theorem fm_646 : Cond.fieldLink RX10 300 "FindingAidModel" "isSaved" "Z" ∈ fz_WA := fz_in (fz_tin 1574 (by decide +kernel)) (by decide +kernel)
theorem fm_647 : Cond.fieldLink RX10 13 "FindingAidModel" "saved" "[I" ∈ fz_WA := fz_in (fz_tin 1570 (by decide +kernel)) (by decide +kernel)
theorem dX10_add_0 : decode cX10_add 0 = .ok (.aload_n 0, 1) := by decide +kernel
theorem dX10_add_1 : decode cX10_add 1 = .ok (.iconst 1, 1) := by decide +kernel
theorem dX10_add_2 : decode cX10_add 2 = .ok (.aload_n 0, 1) := by decide +kernel
theorem dX10_add_3 : decode cX10_add 3 = .ok (.iload_n 1, 1) := by decide +kernel
theorem dX10_add_4 : decode cX10_add 4 = .ok (.invokevirtual 58, 3) := by decide +kernel
theorem dX10_add_7 : decode cX10_add 7 = .ok (.ifCond .ne 7, 3) := by decide +kernel
theorem dX10_add_14 : decode cX10_add 14 = .ok (.iconst 0, 1) := by decide +kernel
theorem dX10_add_15 : decode cX10_add 15 = .ok (.invokevirtual 69, 3) := by decide +kernel
theorem dX10_add_18 : decode cX10_add 18 = .ok (.ifCond .ne 54, 3) := by decide +kernel
theorem dX10_add_21 : decode cX10_add 21 = .ok (.aload_n 0, 1) := by decide +kernel
theorem dX10_add_22 : decode cX10_add 22 = .ok (.iconst 2, 1) := by decide +kernel
theorem dX10_add_23 : decode cX10_add 23 = .ok (.aload_n 0, 1) := by decide +kernel
theorem dX10_add_24 : decode cX10_add 24 = .ok (.iload_n 1, 1) := by decide +kernel
theorem dX10_add_25 : decode cX10_add 25 = .ok (.iload_n 2, 1) := by decide +kernel
theorem dX10_add_26 : decode cX10_add 26 = .ok (.iload_n 3, 1) := by decide +kernel
theorem dX10_add_27 : decode cX10_add 27 = .ok (.iload 4, 2) := by decide +kernel
theorem dX10_add_29 : decode cX10_add 29 = .ok (.iload 5, 2) := by decide +kernel
theorem dX10_add_31 : decode cX10_add 31 = .ok (.invokevirtual 73, 3) := by decide +kernel
theorem dX10_add_34 : decode cX10_add 34 = .ok (.ifCond .ne 7, 3) := by decide +kernel
theorem dX10_add_41 : decode cX10_add 41 = .ok (.iconst 0, 1) := by decide +kernel
theorem dX10_add_42 : decode cX10_add 42 = .ok (.invokevirtual 69, 3) := by decide +kernel
theorem dX10_add_45 : decode cX10_add 45 = .ok (.ifCond .ne 27, 3) := by decide +kernel
theorem dX10_add_48 : decode cX10_add 48 = .ok (.aload_n 0, 1) := by decide +kernel
theorem dX10_add_49 : decode cX10_add 49 = .ok (.iconst 3, 1) := by decide +kernel
theorem dX10_add_50 : decode cX10_add 50 = .ok (.aload_n 0, 1) := by decide +kernel
theorem dX10_add_51 : decode cX10_add 51 = .ok (.getfield 9, 3) := by decide +kernel
theorem dX10_add_54 : decode cX10_add 54 = .ok (.iconst 0, 1) := by decide +kernel
theorem dX10_add_55 : decode cX10_add 55 = .ok (.iaload, 1) := by decide +kernel
theorem dX10_add_56 : decode cX10_add 56 = .ok (.bipush 40, 2) := by decide +kernel
theorem dX10_add_58 : decode cX10_add 58 = .ok (.if_icmp .ne 7, 3) := by decide +kernel
theorem dX10_add_65 : decode cX10_add 65 = .ok (.iconst 0, 1) := by decide +kernel
theorem dX10_add_66 : decode cX10_add 66 = .ok (.invokevirtual 69, 3) := by decide +kernel
theorem dX10_add_69 : decode cX10_add 69 = .ok (.ifCond .eq 5, 3) := by decide +kernel
theorem dX10_add_74 : decode cX10_add 74 = .ok (.aload_n 0, 1) := by decide +kernel
theorem dX10_add_75 : decode cX10_add 75 = .ok (.invokevirtual 77, 3) := by decide +kernel
theorem dX10_add_78 : decode cX10_add 78 = .ok (.aload_n 0, 1) := by decide +kernel
theorem dX10_add_79 : decode cX10_add 79 = .ok (.iload_n 1, 1) := by decide +kernel
theorem dX10_add_80 : decode cX10_add 80 = .ok (.iload_n 2, 1) := by decide +kernel
theorem dX10_add_81 : decode cX10_add 81 = .ok (.iload_n 3, 1) := by decide +kernel
theorem dX10_add_82 : decode cX10_add 82 = .ok (.iload 4, 2) := by decide +kernel
theorem dX10_add_84 : decode cX10_add 84 = .ok (.iload 5, 2) := by decide +kernel
theorem dX10_add_86 : decode cX10_add 86 = .ok (.invokevirtual 31, 3) := by decide +kernel
theorem dX10_add_89 : decode cX10_add 89 = .ok (.ireturn, 1) := by decide +kernel
theorem dX10_add_37 : decode cX10_add 37 = .ok (.iconst 1, 1) := by decide +kernel
theorem dX10_add_38 : decode cX10_add 38 = .ok (.goto 4, 3) := by decide +kernel
theorem dX10_add_72 : decode cX10_add 72 = .ok (.iconst 0, 1) := by decide +kernel
theorem dX10_add_73 : decode cX10_add 73 = .ok (.ireturn, 1) := by decide +kernel
theorem dX10_add_10 : decode cX10_add 10 = .ok (.iconst 1, 1) := by decide +kernel
theorem dX10_add_11 : decode cX10_add 11 = .ok (.goto 4, 3) := by decide +kernel
theorem dX10_remove_0 : decode cX10_remove 0 = .ok (.aload_n 0, 1) := by decide +kernel
theorem dX10_remove_1 : decode cX10_remove 1 = .ok (.iconst 1, 1) := by decide +kernel
theorem dX10_remove_2 : decode cX10_remove 2 = .ok (.aload_n 0, 1) := by decide +kernel
theorem dX10_remove_3 : decode cX10_remove 3 = .ok (.iload_n 1, 1) := by decide +kernel
theorem dX10_remove_4 : decode cX10_remove 4 = .ok (.invokevirtual 58, 3) := by decide +kernel
theorem dX10_remove_7 : decode cX10_remove 7 = .ok (.ifCond .ne 7, 3) := by decide +kernel
theorem dX10_remove_14 : decode cX10_remove 14 = .ok (.iconst 0, 1) := by decide +kernel
theorem dX10_remove_15 : decode cX10_remove 15 = .ok (.invokevirtual 69, 3) := by decide +kernel
theorem dX10_remove_18 : decode cX10_remove 18 = .ok (.ifCond .ne 20, 3) := by decide +kernel
theorem dX10_remove_21 : decode cX10_remove 21 = .ok (.aload_n 0, 1) := by decide +kernel
theorem dX10_remove_22 : decode cX10_remove 22 = .ok (.iconst 2, 1) := by decide +kernel
theorem dX10_remove_23 : decode cX10_remove 23 = .ok (.iload_n 1, 1) := by decide +kernel
theorem dX10_remove_24 : decode cX10_remove 24 = .ok (.ifCond .ne 7, 3) := by decide +kernel
theorem dX10_remove_27 : decode cX10_remove 27 = .ok (.iconst 1, 1) := by decide +kernel
theorem dX10_remove_28 : decode cX10_remove 28 = .ok (.goto 4, 3) := by decide +kernel
theorem dX10_remove_32 : decode cX10_remove 32 = .ok (.invokevirtual 69, 3) := by decide +kernel
theorem dX10_remove_35 : decode cX10_remove 35 = .ok (.ifCond .eq 5, 3) := by decide +kernel
theorem dX10_remove_38 : decode cX10_remove 38 = .ok (.iconst 0, 1) := by decide +kernel
theorem dX10_remove_39 : decode cX10_remove 39 = .ok (.ireturn, 1) := by decide +kernel
theorem dX10_remove_10 : decode cX10_remove 10 = .ok (.iconst 1, 1) := by decide +kernel
theorem dX10_remove_11 : decode cX10_remove 11 = .ok (.goto 4, 3) := by decide +kernel
theorem dX10_move_0 : decode cX10_move 0 = .ok (.aload_n 0, 1) := by decide +kernel
theorem dX10_move_1 : decode cX10_move 1 = .ok (.iconst 1, 1) := by decide +kernel
theorem dX10_move_2 : decode cX10_move 2 = .ok (.aload_n 0, 1) := by decide +kernel
theorem dX10_move_3 : decode cX10_move 3 = .ok (.iload_n 1, 1) := by decide +kernel
theorem dX10_move_4 : decode cX10_move 4 = .ok (.invokevirtual 58, 3) := by decide +kernel
theorem dX10_move_7 : decode cX10_move 7 = .ok (.ifCond .eq 11, 3) := by decide +kernel
theorem dX10_move_10 : decode cX10_move 10 = .ok (.aload_n 0, 1) := by decide +kernel
theorem dX10_move_11 : decode cX10_move 11 = .ok (.iload_n 2, 1) := by decide +kernel
theorem dX10_move_12 : decode cX10_move 12 = .ok (.invokevirtual 58, 3) := by decide +kernel
theorem dX10_move_15 : decode cX10_move 15 = .ok (.ifCond .ne 7, 3) := by decide +kernel
theorem dX10_move_22 : decode cX10_move 22 = .ok (.iconst 0, 1) := by decide +kernel
theorem dX10_move_23 : decode cX10_move 23 = .ok (.invokevirtual 69, 3) := by decide +kernel
theorem dX10_move_26 : decode cX10_move 26 = .ok (.ifCond .ne 44, 3) := by decide +kernel
theorem dX10_move_29 : decode cX10_move 29 = .ok (.aload_n 0, 1) := by decide +kernel
theorem dX10_move_30 : decode cX10_move 30 = .ok (.iconst 2, 1) := by decide +kernel
theorem dX10_move_31 : decode cX10_move 31 = .ok (.iload_n 1, 1) := by decide +kernel
theorem dX10_move_32 : decode cX10_move 32 = .ok (.ifCond .eq 27, 3) := by decide +kernel
theorem dX10_move_59 : decode cX10_move 59 = .ok (.iconst 1, 1) := by decide +kernel
theorem dX10_move_60 : decode cX10_move 60 = .ok (.goto 4, 3) := by decide +kernel
theorem dX10_move_64 : decode cX10_move 64 = .ok (.invokevirtual 69, 3) := by decide +kernel
theorem dX10_move_67 : decode cX10_move 67 = .ok (.ifCond .eq 5, 3) := by decide +kernel
theorem dX10_move_70 : decode cX10_move 70 = .ok (.iconst 0, 1) := by decide +kernel
theorem dX10_move_71 : decode cX10_move 71 = .ok (.ireturn, 1) := by decide +kernel
theorem dX10_move_18 : decode cX10_move 18 = .ok (.iconst 1, 1) := by decide +kernel
theorem dX10_move_19 : decode cX10_move 19 = .ok (.goto 4, 3) := by decide +kernel
theorem dX10_node_0 : decode cX10_node 0 = .ok (.aload_n 0, 1) := by decide +kernel
theorem dX10_node_1 : decode cX10_node 1 = .ok (.iconst 1, 1) := by decide +kernel
theorem dX10_node_2 : decode cX10_node 2 = .ok (.aload_n 0, 1) := by decide +kernel
theorem dX10_node_3 : decode cX10_node 3 = .ok (.iload_n 1, 1) := by decide +kernel
theorem dX10_node_4 : decode cX10_node 4 = .ok (.invokevirtual 58, 3) := by decide +kernel
theorem dX10_node_7 : decode cX10_node 7 = .ok (.ifCond .ne 7, 3) := by decide +kernel
theorem dX10_node_14 : decode cX10_node 14 = .ok (.iconst 0, 1) := by decide +kernel
theorem dX10_node_15 : decode cX10_node 15 = .ok (.invokevirtual 69, 3) := by decide +kernel
theorem dX10_node_18 : decode cX10_node 18 = .ok (.ifCond .ne 26, 3) := by decide +kernel
theorem dX10_node_21 : decode cX10_node 21 = .ok (.aload_n 0, 1) := by decide +kernel
theorem dX10_node_22 : decode cX10_node 22 = .ok (.iconst 2, 1) := by decide +kernel
theorem dX10_node_23 : decode cX10_node 23 = .ok (.iload_n 2, 1) := by decide +kernel
theorem dX10_node_24 : decode cX10_node 24 = .ok (.iconst 0, 1) := by decide +kernel
theorem dX10_node_25 : decode cX10_node 25 = .ok (.bipush 11, 2) := by decide +kernel
theorem dX10_node_27 : decode cX10_node 27 = .ok (.invokestatic 50, 3) := by decide +kernel
theorem dX10_node_30 : decode cX10_node 30 = .ok (.ifCond .ne 7, 3) := by decide +kernel
theorem dX10_node_37 : decode cX10_node 37 = .ok (.iconst 0, 1) := by decide +kernel
theorem dX10_node_38 : decode cX10_node 38 = .ok (.invokevirtual 69, 3) := by decide +kernel
theorem dX10_node_41 : decode cX10_node 41 = .ok (.ifCond .eq 5, 3) := by decide +kernel
theorem dX10_node_46 : decode cX10_node 46 = .ok (.iload_n 2, 1) := by decide +kernel
theorem dX10_node_47 : decode cX10_node 47 = .ok (.tableswitch 132 0 10 #[57, 64, 71, 78, 85, 92, 98, 104, 110, 116, 124], 57) := by decide +kernel
theorem dX10_node_104 : decode cX10_node 104 = .ok (.aload_n 0, 1) := by decide +kernel
theorem dX10_node_105 : decode cX10_node 105 = .ok (.iload_n 1, 1) := by decide +kernel
theorem dX10_node_106 : decode cX10_node 106 = .ok (.iconst 1, 1) := by decide +kernel
theorem dX10_node_107 : decode cX10_node 107 = .ok (.invokevirtual 54, 3) := by decide +kernel
theorem dX10_node_110 : decode cX10_node 110 = .ok (.ireturn, 1) := by decide +kernel
theorem dX10_node_111 : decode cX10_node 111 = .ok (.aload_n 0, 1) := by decide +kernel
theorem dX10_node_112 : decode cX10_node 112 = .ok (.iload_n 1, 1) := by decide +kernel
theorem dX10_node_113 : decode cX10_node 113 = .ok (.iconst 2, 1) := by decide +kernel
theorem dX10_node_114 : decode cX10_node 114 = .ok (.invokevirtual 54, 3) := by decide +kernel
theorem dX10_node_117 : decode cX10_node 117 = .ok (.ireturn, 1) := by decide +kernel
theorem dX10_node_118 : decode cX10_node 118 = .ok (.aload_n 0, 1) := by decide +kernel
theorem dX10_node_119 : decode cX10_node 119 = .ok (.iload_n 1, 1) := by decide +kernel
theorem dX10_node_120 : decode cX10_node 120 = .ok (.iconst 3, 1) := by decide +kernel
theorem dX10_node_121 : decode cX10_node 121 = .ok (.invokevirtual 54, 3) := by decide +kernel
theorem dX10_node_124 : decode cX10_node 124 = .ok (.ireturn, 1) := by decide +kernel
theorem dX10_node_125 : decode cX10_node 125 = .ok (.aload_n 0, 1) := by decide +kernel
theorem dX10_node_126 : decode cX10_node 126 = .ok (.iload_n 1, 1) := by decide +kernel
theorem dX10_node_127 : decode cX10_node 127 = .ok (.iconst 4, 1) := by decide +kernel
theorem dX10_node_128 : decode cX10_node 128 = .ok (.invokevirtual 54, 3) := by decide +kernel
theorem dX10_node_131 : decode cX10_node 131 = .ok (.ireturn, 1) := by decide +kernel
theorem dX10_node_132 : decode cX10_node 132 = .ok (.aload_n 0, 1) := by decide +kernel
theorem dX10_node_133 : decode cX10_node 133 = .ok (.iload_n 1, 1) := by decide +kernel
theorem dX10_node_134 : decode cX10_node 134 = .ok (.iconst 5, 1) := by decide +kernel
theorem dX10_node_135 : decode cX10_node 135 = .ok (.invokevirtual 54, 3) := by decide +kernel
theorem dX10_node_138 : decode cX10_node 138 = .ok (.ireturn, 1) := by decide +kernel
theorem dX10_node_139 : decode cX10_node 139 = .ok (.aload_n 0, 1) := by decide +kernel
theorem dX10_node_140 : decode cX10_node 140 = .ok (.iload_n 1, 1) := by decide +kernel
theorem dX10_node_141 : decode cX10_node 141 = .ok (.invokevirtual 112, 3) := by decide +kernel
theorem dX10_node_144 : decode cX10_node 144 = .ok (.ireturn, 1) := by decide +kernel
theorem dX10_node_145 : decode cX10_node 145 = .ok (.aload_n 0, 1) := by decide +kernel
theorem dX10_node_146 : decode cX10_node 146 = .ok (.iload_n 1, 1) := by decide +kernel
theorem dX10_node_147 : decode cX10_node 147 = .ok (.invokevirtual 116, 3) := by decide +kernel
theorem dX10_node_150 : decode cX10_node 150 = .ok (.ireturn, 1) := by decide +kernel
theorem dX10_node_151 : decode cX10_node 151 = .ok (.aload_n 0, 1) := by decide +kernel
theorem dX10_node_152 : decode cX10_node 152 = .ok (.iload_n 1, 1) := by decide +kernel
theorem dX10_node_153 : decode cX10_node 153 = .ok (.invokevirtual 119, 3) := by decide +kernel
theorem dX10_node_156 : decode cX10_node 156 = .ok (.ireturn, 1) := by decide +kernel
theorem dX10_node_157 : decode cX10_node 157 = .ok (.aload_n 0, 1) := by decide +kernel
theorem dX10_node_158 : decode cX10_node 158 = .ok (.iload_n 1, 1) := by decide +kernel
theorem dX10_node_159 : decode cX10_node 159 = .ok (.invokevirtual 122, 3) := by decide +kernel
theorem dX10_node_162 : decode cX10_node 162 = .ok (.ireturn, 1) := by decide +kernel
theorem dX10_node_163 : decode cX10_node 163 = .ok (.aload_n 0, 1) := by decide +kernel
theorem dX10_node_164 : decode cX10_node 164 = .ok (.iload_n 1, 1) := by decide +kernel
theorem dX10_node_165 : decode cX10_node 165 = .ok (.bipush 8, 2) := by decide +kernel
theorem dX10_node_167 : decode cX10_node 167 = .ok (.invokevirtual 54, 3) := by decide +kernel
theorem dX10_node_170 : decode cX10_node 170 = .ok (.ireturn, 1) := by decide +kernel
theorem dX10_node_171 : decode cX10_node 171 = .ok (.aload_n 0, 1) := by decide +kernel
theorem dX10_node_172 : decode cX10_node 172 = .ok (.iload_n 1, 1) := by decide +kernel
theorem dX10_node_173 : decode cX10_node 173 = .ok (.bipush 9, 2) := by decide +kernel
theorem dX10_node_175 : decode cX10_node 175 = .ok (.invokevirtual 54, 3) := by decide +kernel
theorem dX10_node_178 : decode cX10_node 178 = .ok (.ireturn, 1) := by decide +kernel
theorem dX10_node_179 : decode cX10_node 179 = .ok (.aload_n 0, 1) := by decide +kernel
theorem dX10_node_180 : decode cX10_node 180 = .ok (.iload_n 1, 1) := by decide +kernel
theorem dX10_node_181 : decode cX10_node 181 = .ok (.invokevirtual 125, 3) := by decide +kernel
theorem dX10_node_184 : decode cX10_node 184 = .ok (.ireturn, 1) := by decide +kernel
theorem dX10_node_33 : decode cX10_node 33 = .ok (.iconst 1, 1) := by decide +kernel
theorem dX10_node_34 : decode cX10_node 34 = .ok (.goto 4, 3) := by decide +kernel
theorem dX10_node_44 : decode cX10_node 44 = .ok (.iconst 0, 1) := by decide +kernel
theorem dX10_node_45 : decode cX10_node 45 = .ok (.ireturn, 1) := by decide +kernel
theorem dX10_node_10 : decode cX10_node 10 = .ok (.iconst 1, 1) := by decide +kernel
theorem dX10_node_11 : decode cX10_node 11 = .ok (.goto 4, 3) := by decide +kernel
theorem dX10_child_0 : decode cX10_child 0 = .ok (.aload_n 0, 1) := by decide +kernel
theorem dX10_child_1 : decode cX10_child 1 = .ok (.iconst 1, 1) := by decide +kernel
theorem dX10_child_2 : decode cX10_child 2 = .ok (.aload_n 0, 1) := by decide +kernel
theorem dX10_child_3 : decode cX10_child 3 = .ok (.iload_n 1, 1) := by decide +kernel
theorem dX10_child_4 : decode cX10_child 4 = .ok (.invokevirtual 58, 3) := by decide +kernel
theorem dX10_child_7 : decode cX10_child 7 = .ok (.ifCond .eq 18, 3) := by decide +kernel
theorem dX10_child_10 : decode cX10_child 10 = .ok (.iload_n 2, 1) := by decide +kernel
theorem dX10_child_11 : decode cX10_child 11 = .ok (.iconst 0, 1) := by decide +kernel
theorem dX10_child_12 : decode cX10_child 12 = .ok (.aload_n 0, 1) := by decide +kernel
theorem dX10_child_13 : decode cX10_child 13 = .ok (.iload_n 1, 1) := by decide +kernel
theorem dX10_child_14 : decode cX10_child 14 = .ok (.invokevirtual 116, 3) := by decide +kernel
theorem dX10_child_17 : decode cX10_child 17 = .ok (.iconst 1, 1) := by decide +kernel
theorem dX10_child_18 : decode cX10_child 18 = .ok (.isub, 1) := by decide +kernel
theorem dX10_child_19 : decode cX10_child 19 = .ok (.invokestatic 50, 3) := by decide +kernel
theorem dX10_child_22 : decode cX10_child 22 = .ok (.ifCond .ne 7, 3) := by decide +kernel
theorem dX10_child_25 : decode cX10_child 25 = .ok (.iconst 1, 1) := by decide +kernel
theorem dX10_child_26 : decode cX10_child 26 = .ok (.goto 4, 3) := by decide +kernel
theorem dX10_child_30 : decode cX10_child 30 = .ok (.invokevirtual 69, 3) := by decide +kernel
theorem dX10_child_33 : decode cX10_child 33 = .ok (.ifCond .eq 5, 3) := by decide +kernel
theorem dX10_child_36 : decode cX10_child 36 = .ok (.iconst 0, 1) := by decide +kernel
theorem dX10_child_37 : decode cX10_child 37 = .ok (.ireturn, 1) := by decide +kernel
theorem dX10_setRule_0 : decode cX10_setRule 0 = .ok (.iload_n 2, 1) := by decide +kernel
theorem dX10_setRule_1 : decode cX10_setRule 1 = .ok (.iconst (-1), 1) := by decide +kernel
theorem dX10_setRule_2 : decode cX10_setRule 2 = .ok (.if_icmp .eq 28, 3) := by decide +kernel
theorem dX10_setRule_30 : decode cX10_setRule 30 = .ok (.iconst 1, 1) := by decide +kernel
theorem dX10_setRule_31 : decode cX10_setRule 31 = .ok (.goto 4, 3) := by decide +kernel
theorem dX10_setRule_35 : decode cX10_setRule 35 = .ok (.istore 4, 2) := by decide +kernel
theorem dX10_setRule_37 : decode cX10_setRule 37 = .ok (.aload_n 0, 1) := by decide +kernel
theorem dX10_setRule_38 : decode cX10_setRule 38 = .ok (.iconst 1, 1) := by decide +kernel
theorem dX10_setRule_39 : decode cX10_setRule 39 = .ok (.aload_n 0, 1) := by decide +kernel
theorem dX10_setRule_40 : decode cX10_setRule 40 = .ok (.iload_n 1, 1) := by decide +kernel
theorem dX10_setRule_41 : decode cX10_setRule 41 = .ok (.invokevirtual 58, 3) := by decide +kernel
theorem dX10_setRule_44 : decode cX10_setRule 44 = .ok (.ifCond .ne 7, 3) := by decide +kernel
theorem dX10_setRule_51 : decode cX10_setRule 51 = .ok (.iconst 0, 1) := by decide +kernel
theorem dX10_setRule_52 : decode cX10_setRule 52 = .ok (.invokevirtual 69, 3) := by decide +kernel
theorem dX10_setRule_55 : decode cX10_setRule 55 = .ok (.ifCond .ne 21, 3) := by decide +kernel
theorem dX10_setRule_58 : decode cX10_setRule 58 = .ok (.aload_n 0, 1) := by decide +kernel
theorem dX10_setRule_59 : decode cX10_setRule 59 = .ok (.iconst 2, 1) := by decide +kernel
theorem dX10_setRule_60 : decode cX10_setRule 60 = .ok (.iload 4, 2) := by decide +kernel
theorem dX10_setRule_62 : decode cX10_setRule 62 = .ok (.ifCond .ne 7, 3) := by decide +kernel
theorem dX10_setRule_69 : decode cX10_setRule 69 = .ok (.iconst 0, 1) := by decide +kernel
theorem dX10_setRule_70 : decode cX10_setRule 70 = .ok (.invokevirtual 69, 3) := by decide +kernel
theorem dX10_setRule_73 : decode cX10_setRule 73 = .ok (.ifCond .eq 5, 3) := by decide +kernel
theorem dX10_setRule_78 : decode cX10_setRule 78 = .ok (.aload_n 0, 1) := by decide +kernel
theorem dX10_setRule_79 : decode cX10_setRule 79 = .ok (.invokevirtual 77, 3) := by decide +kernel
theorem dX10_setRule_82 : decode cX10_setRule 82 = .ok (.aload_n 0, 1) := by decide +kernel
theorem dX10_setRule_83 : decode cX10_setRule 83 = .ok (.iload_n 1, 1) := by decide +kernel
theorem dX10_setRule_84 : decode cX10_setRule 84 = .ok (.bipush 6, 2) := by decide +kernel
theorem dX10_setRule_86 : decode cX10_setRule 86 = .ok (.invokevirtual 54, 3) := by decide +kernel
theorem dX10_setRule_89 : decode cX10_setRule 89 = .ok (.istore 5, 2) := by decide +kernel
theorem dX10_setRule_91 : decode cX10_setRule 91 = .ok (.aload_n 0, 1) := by decide +kernel
theorem dX10_setRule_92 : decode cX10_setRule 92 = .ok (.iload_n 1, 1) := by decide +kernel
theorem dX10_setRule_93 : decode cX10_setRule 93 = .ok (.bipush 6, 2) := by decide +kernel
theorem dX10_setRule_95 : decode cX10_setRule 95 = .ok (.iload_n 2, 1) := by decide +kernel
theorem dX10_setRule_96 : decode cX10_setRule 96 = .ok (.invokevirtual 62, 3) := by decide +kernel
theorem dX10_setRule_99 : decode cX10_setRule 99 = .ok (.aload_n 0, 1) := by decide +kernel
theorem dX10_setRule_100 : decode cX10_setRule 100 = .ok (.iload_n 1, 1) := by decide +kernel
theorem dX10_setRule_101 : decode cX10_setRule 101 = .ok (.bipush 7, 2) := by decide +kernel
theorem dX10_setRule_103 : decode cX10_setRule 103 = .ok (.iload_n 3, 1) := by decide +kernel
theorem dX10_setRule_104 : decode cX10_setRule 104 = .ok (.invokevirtual 62, 3) := by decide +kernel
theorem dX10_setRule_107 : decode cX10_setRule 107 = .ok (.iload 5, 2) := by decide +kernel
theorem dX10_setRule_109 : decode cX10_setRule 109 = .ok (.ireturn, 1) := by decide +kernel
theorem dX10_setRule_47 : decode cX10_setRule 47 = .ok (.iconst 1, 1) := by decide +kernel
theorem dX10_setRule_48 : decode cX10_setRule 48 = .ok (.goto 4, 3) := by decide +kernel
theorem dX10_setRule_76 : decode cX10_setRule 76 = .ok (.iconst 0, 1) := by decide +kernel
theorem dX10_setRule_77 : decode cX10_setRule 77 = .ok (.ireturn, 1) := by decide +kernel
theorem dX10_setRule_5 : decode cX10_setRule 5 = .ok (.iload_n 2, 1) := by decide +kernel
theorem dX10_setRule_6 : decode cX10_setRule 6 = .ok (.iconst 2, 1) := by decide +kernel
theorem dX10_setRule_7 : decode cX10_setRule 7 = .ok (.if_icmp .eq 23, 3) := by decide +kernel
theorem dX10_setRule_10 : decode cX10_setRule 10 = .ok (.iload_n 2, 1) := by decide +kernel
theorem dX10_setRule_11 : decode cX10_setRule 11 = .ok (.iconst 0, 1) := by decide +kernel
theorem dX10_setRule_12 : decode cX10_setRule 12 = .ok (.iconst 1, 1) := by decide +kernel
theorem dX10_setRule_13 : decode cX10_setRule 13 = .ok (.invokestatic 50, 3) := by decide +kernel
theorem dX10_setRule_16 : decode cX10_setRule 16 = .ok (.ifCond .eq 18, 3) := by decide +kernel
theorem dX10_setRule_19 : decode cX10_setRule 19 = .ok (.iload_n 3, 1) := by decide +kernel
theorem dX10_setRule_20 : decode cX10_setRule 20 = .ok (.iconst 1, 1) := by decide +kernel
theorem dX10_setRule_21 : decode cX10_setRule 21 = .ok (.sipush 5000, 3) := by decide +kernel
theorem dX10_setRule_24 : decode cX10_setRule 24 = .ok (.invokestatic 50, 3) := by decide +kernel
theorem dX10_setRule_27 : decode cX10_setRule 27 = .ok (.ifCond .eq 7, 3) := by decide +kernel
theorem dX10_setRule_34 : decode cX10_setRule 34 = .ok (.iconst 0, 1) := by decide +kernel
theorem dX10_setRule_65 : decode cX10_setRule 65 = .ok (.iconst 1, 1) := by decide +kernel
theorem dX10_setRule_66 : decode cX10_setRule 66 = .ok (.goto 4, 3) := by decide +kernel
theorem dX10_setPage_0 : decode cX10_setPage 0 = .ok (.aload_n 0, 1) := by decide +kernel
theorem dX10_setPage_1 : decode cX10_setPage 1 = .ok (.iconst 1, 1) := by decide +kernel
theorem dX10_setPage_2 : decode cX10_setPage 2 = .ok (.aload_n 0, 1) := by decide +kernel
theorem dX10_setPage_3 : decode cX10_setPage 3 = .ok (.iload_n 1, 1) := by decide +kernel
theorem dX10_setPage_4 : decode cX10_setPage 4 = .ok (.invokevirtual 58, 3) := by decide +kernel
theorem dX10_setPage_7 : decode cX10_setPage 7 = .ok (.ifCond .eq 19, 3) := by decide +kernel
theorem dX10_setPage_10 : decode cX10_setPage 10 = .ok (.iload_n 2, 1) := by decide +kernel
theorem dX10_setPage_11 : decode cX10_setPage 11 = .ok (.iconst 0, 1) := by decide +kernel
theorem dX10_setPage_12 : decode cX10_setPage 12 = .ok (.aload_n 0, 1) := by decide +kernel
theorem dX10_setPage_13 : decode cX10_setPage 13 = .ok (.iload_n 1, 1) := by decide +kernel
theorem dX10_setPage_14 : decode cX10_setPage 14 = .ok (.iconst 3, 1) := by decide +kernel
theorem dX10_setPage_15 : decode cX10_setPage 15 = .ok (.invokevirtual 54, 3) := by decide +kernel
theorem dX10_setPage_18 : decode cX10_setPage 18 = .ok (.iconst 1, 1) := by decide +kernel
theorem dX10_setPage_19 : decode cX10_setPage 19 = .ok (.isub, 1) := by decide +kernel
theorem dX10_setPage_20 : decode cX10_setPage 20 = .ok (.invokestatic 50, 3) := by decide +kernel
theorem dX10_setPage_23 : decode cX10_setPage 23 = .ok (.ifCond .ne 7, 3) := by decide +kernel
theorem dX10_setPage_26 : decode cX10_setPage 26 = .ok (.iconst 1, 1) := by decide +kernel
theorem dX10_setPage_27 : decode cX10_setPage 27 = .ok (.goto 4, 3) := by decide +kernel
theorem dX10_setPage_31 : decode cX10_setPage 31 = .ok (.invokevirtual 69, 3) := by decide +kernel
theorem dX10_setPage_34 : decode cX10_setPage 34 = .ok (.ifCond .ne 27, 3) := by decide +kernel
theorem dX10_setPage_61 : decode cX10_setPage 61 = .ok (.iconst 0, 1) := by decide +kernel
theorem dX10_setPage_62 : decode cX10_setPage 62 = .ok (.ireturn, 1) := by decide +kernel
theorem dX10_restriction_0 : decode cX10_restriction 0 = .ok (.aload_n 0, 1) := by decide +kernel
theorem dX10_restriction_1 : decode cX10_restriction 1 = .ok (.iconst 1, 1) := by decide +kernel
theorem dX10_restriction_2 : decode cX10_restriction 2 = .ok (.aload_n 0, 1) := by decide +kernel
theorem dX10_restriction_3 : decode cX10_restriction 3 = .ok (.iload_n 1, 1) := by decide +kernel
theorem dX10_restriction_4 : decode cX10_restriction 4 = .ok (.invokevirtual 58, 3) := by decide +kernel
theorem dX10_restriction_7 : decode cX10_restriction 7 = .ok (.ifCond .ne 7, 3) := by decide +kernel
theorem dX10_restriction_14 : decode cX10_restriction 14 = .ok (.iconst 0, 1) := by decide +kernel
theorem dX10_restriction_15 : decode cX10_restriction 15 = .ok (.invokevirtual 69, 3) := by decide +kernel
theorem dX10_restriction_18 : decode cX10_restriction 18 = .ok (.ifCond .ne 25, 3) := by decide +kernel
theorem dX10_restriction_21 : decode cX10_restriction 21 = .ok (.aload_n 0, 1) := by decide +kernel
theorem dX10_restriction_22 : decode cX10_restriction 22 = .ok (.iconst 2, 1) := by decide +kernel
theorem dX10_restriction_23 : decode cX10_restriction 23 = .ok (.iload_n 2, 1) := by decide +kernel
theorem dX10_restriction_24 : decode cX10_restriction 24 = .ok (.iconst 0, 1) := by decide +kernel
theorem dX10_restriction_25 : decode cX10_restriction 25 = .ok (.iconst 2, 1) := by decide +kernel
theorem dX10_restriction_26 : decode cX10_restriction 26 = .ok (.invokestatic 50, 3) := by decide +kernel
theorem dX10_restriction_29 : decode cX10_restriction 29 = .ok (.ifCond .ne 7, 3) := by decide +kernel
theorem dX10_restriction_36 : decode cX10_restriction 36 = .ok (.iconst 0, 1) := by decide +kernel
theorem dX10_restriction_37 : decode cX10_restriction 37 = .ok (.invokevirtual 69, 3) := by decide +kernel
theorem dX10_restriction_40 : decode cX10_restriction 40 = .ok (.ifCond .eq 5, 3) := by decide +kernel
theorem dX10_restriction_45 : decode cX10_restriction 45 = .ok (.aload_n 0, 1) := by decide +kernel
theorem dX10_restriction_46 : decode cX10_restriction 46 = .ok (.iload_n 1, 1) := by decide +kernel
theorem dX10_restriction_47 : decode cX10_restriction 47 = .ok (.invokevirtual 138, 3) := by decide +kernel
theorem dX10_restriction_50 : decode cX10_restriction 50 = .ok (.istore_n 3, 1) := by decide +kernel
theorem dX10_restriction_51 : decode cX10_restriction 51 = .ok (.iload_n 2, 1) := by decide +kernel
theorem dX10_restriction_52 : decode cX10_restriction 52 = .ok (.ifCond .ne 10, 3) := by decide +kernel
theorem dX10_restriction_62 : decode cX10_restriction 62 = .ok (.iload_n 2, 1) := by decide +kernel
theorem dX10_restriction_63 : decode cX10_restriction 63 = .ok (.iconst 1, 1) := by decide +kernel
theorem dX10_restriction_64 : decode cX10_restriction 64 = .ok (.if_icmp .ne 10, 3) := by decide +kernel
theorem dX10_restriction_74 : decode cX10_restriction 74 = .ok (.iload_n 3, 1) := by decide +kernel
theorem dX10_restriction_75 : decode cX10_restriction 75 = .ok (.ireturn, 1) := by decide +kernel
theorem dX10_restriction_67 : decode cX10_restriction 67 = .ok (.aload_n 0, 1) := by decide +kernel
theorem dX10_restriction_68 : decode cX10_restriction 68 = .ok (.getfield 131, 3) := by decide +kernel
theorem dX10_restriction_71 : decode cX10_restriction 71 = .ok (.goto 4, 3) := by decide +kernel
theorem dX10_restriction_55 : decode cX10_restriction 55 = .ok (.aload_n 0, 1) := by decide +kernel
theorem dX10_restriction_56 : decode cX10_restriction 56 = .ok (.getfield 128, 3) := by decide +kernel
theorem dX10_restriction_59 : decode cX10_restriction 59 = .ok (.goto 16, 3) := by decide +kernel
theorem dX10_restriction_32 : decode cX10_restriction 32 = .ok (.iconst 1, 1) := by decide +kernel
theorem dX10_restriction_33 : decode cX10_restriction 33 = .ok (.goto 4, 3) := by decide +kernel
theorem dX10_restriction_43 : decode cX10_restriction 43 = .ok (.iconst 0, 1) := by decide +kernel
theorem dX10_restriction_44 : decode cX10_restriction 44 = .ok (.ireturn, 1) := by decide +kernel
theorem dX10_restriction_10 : decode cX10_restriction 10 = .ok (.iconst 1, 1) := by decide +kernel
theorem dX10_restriction_11 : decode cX10_restriction 11 = .ok (.goto 4, 3) := by decide +kernel
theorem dX10_openPages_0 : decode cX10_openPages 0 = .ok (.aload_n 0, 1) := by decide +kernel
theorem dX10_openPages_1 : decode cX10_openPages 1 = .ok (.iconst 1, 1) := by decide +kernel
theorem dX10_openPages_2 : decode cX10_openPages 2 = .ok (.aload_n 0, 1) := by decide +kernel
theorem dX10_openPages_3 : decode cX10_openPages 3 = .ok (.iload_n 1, 1) := by decide +kernel
theorem dX10_openPages_4 : decode cX10_openPages 4 = .ok (.invokevirtual 58, 3) := by decide +kernel
theorem dX10_openPages_7 : decode cX10_openPages 7 = .ok (.ifCond .ne 7, 3) := by decide +kernel
theorem dX10_openPages_14 : decode cX10_openPages 14 = .ok (.iconst 0, 1) := by decide +kernel
theorem dX10_openPages_15 : decode cX10_openPages 15 = .ok (.invokevirtual 69, 3) := by decide +kernel
theorem dX10_openPages_18 : decode cX10_openPages 18 = .ok (.ifCond .ne 23, 3) := by decide +kernel
theorem dX10_openPages_21 : decode cX10_openPages 21 = .ok (.aload_n 0, 1) := by decide +kernel
theorem dX10_openPages_22 : decode cX10_openPages 22 = .ok (.iconst 2, 1) := by decide +kernel
theorem dX10_openPages_23 : decode cX10_openPages 23 = .ok (.iload_n 2, 1) := by decide +kernel
theorem dX10_openPages_24 : decode cX10_openPages 24 = .ok (.invokestatic 66, 3) := by decide +kernel
theorem dX10_openPages_27 : decode cX10_openPages 27 = .ok (.ifCond .ne 7, 3) := by decide +kernel
theorem dX10_openPages_34 : decode cX10_openPages 34 = .ok (.iconst 0, 1) := by decide +kernel
theorem dX10_openPages_35 : decode cX10_openPages 35 = .ok (.invokevirtual 69, 3) := by decide +kernel
theorem dX10_openPages_38 : decode cX10_openPages 38 = .ok (.ifCond .eq 7, 3) := by decide +kernel
theorem dX10_openPages_45 : decode cX10_openPages 45 = .ok (.aload_n 0, 1) := by decide +kernel
theorem dX10_openPages_46 : decode cX10_openPages 46 = .ok (.iload_n 1, 1) := by decide +kernel
theorem dX10_openPages_47 : decode cX10_openPages 47 = .ok (.iload_n 2, 1) := by decide +kernel
theorem dX10_openPages_48 : decode cX10_openPages 48 = .ok (.invokevirtual 144, 3) := by decide +kernel
theorem dX10_openPages_51 : decode cX10_openPages 51 = .ok (.ireturn, 1) := by decide +kernel
theorem dX10_openPages_30 : decode cX10_openPages 30 = .ok (.iconst 1, 1) := by decide +kernel
theorem dX10_openPages_31 : decode cX10_openPages 31 = .ok (.goto 4, 3) := by decide +kernel
theorem dX10_openPages_41 : decode cX10_openPages 41 = .ok (.iconst 0, 1) := by decide +kernel
theorem dX10_openPages_42 : decode cX10_openPages 42 = .ok (.goto 9, 3) := by decide +kernel
theorem dX10_openPages_10 : decode cX10_openPages 10 = .ok (.iconst 1, 1) := by decide +kernel
theorem dX10_openPages_11 : decode cX10_openPages 11 = .ok (.goto 4, 3) := by decide +kernel
theorem dX10_firstDay_0 : decode cX10_firstDay 0 = .ok (.aload_n 0, 1) := by decide +kernel
theorem dX10_firstDay_1 : decode cX10_firstDay 1 = .ok (.iconst 1, 1) := by decide +kernel
theorem dX10_firstDay_2 : decode cX10_firstDay 2 = .ok (.aload_n 0, 1) := by decide +kernel
theorem dX10_firstDay_3 : decode cX10_firstDay 3 = .ok (.iload_n 1, 1) := by decide +kernel
theorem dX10_firstDay_4 : decode cX10_firstDay 4 = .ok (.invokevirtual 109, 3) := by decide +kernel
theorem dX10_firstDay_7 : decode cX10_firstDay 7 = .ok (.ifCond .ne 7, 3) := by decide +kernel
theorem dX10_firstDay_10 : decode cX10_firstDay 10 = .ok (.iconst 1, 1) := by decide +kernel
theorem dX10_firstDay_11 : decode cX10_firstDay 11 = .ok (.goto 4, 3) := by decide +kernel
theorem dX10_firstDay_15 : decode cX10_firstDay 15 = .ok (.invokevirtual 69, 3) := by decide +kernel
theorem dX10_firstDay_18 : decode cX10_firstDay 18 = .ok (.ifCond .eq 5, 3) := by decide +kernel
theorem dX10_firstDay_21 : decode cX10_firstDay 21 = .ok (.iconst 0, 1) := by decide +kernel
theorem dX10_firstDay_22 : decode cX10_firstDay 22 = .ok (.ireturn, 1) := by decide +kernel
theorem dX10_addContainer_0 : decode cX10_addContainer 0 = .ok (.aload_n 0, 1) := by decide +kernel
theorem dX10_addContainer_1 : decode cX10_addContainer 1 = .ok (.iconst 1, 1) := by decide +kernel
theorem dX10_addContainer_2 : decode cX10_addContainer 2 = .ok (.iload_n 1, 1) := by decide +kernel
theorem dX10_addContainer_3 : decode cX10_addContainer 3 = .ok (.invokestatic 172, 3) := by decide +kernel
theorem dX10_addContainer_6 : decode cX10_addContainer 6 = .ok (.ifCond .ne 7, 3) := by decide +kernel
theorem dX10_addContainer_13 : decode cX10_addContainer 13 = .ok (.iconst 0, 1) := by decide +kernel
theorem dX10_addContainer_14 : decode cX10_addContainer 14 = .ok (.invokevirtual 69, 3) := by decide +kernel
theorem dX10_addContainer_17 : decode cX10_addContainer 17 = .ok (.ifCond .ne 15, 3) := by decide +kernel
theorem dX10_addContainer_20 : decode cX10_addContainer 20 = .ok (.aload_n 0, 1) := by decide +kernel
theorem dX10_addContainer_21 : decode cX10_addContainer 21 = .ok (.iconst 2, 1) := by decide +kernel
theorem dX10_addContainer_22 : decode cX10_addContainer 22 = .ok (.aload_n 0, 1) := by decide +kernel
theorem dX10_addContainer_23 : decode cX10_addContainer 23 = .ok (.invokevirtual 175, 3) := by decide +kernel
theorem dX10_addContainer_26 : decode cX10_addContainer 26 = .ok (.invokevirtual 69, 3) := by decide +kernel
theorem dX10_addContainer_29 : decode cX10_addContainer 29 = .ok (.ifCond .eq 5, 3) := by decide +kernel
theorem dX10_addContainer_34 : decode cX10_addContainer 34 = .ok (.aload_n 0, 1) := by decide +kernel
theorem dX10_addContainer_35 : decode cX10_addContainer 35 = .ok (.invokevirtual 77, 3) := by decide +kernel
theorem dX10_addContainer_38 : decode cX10_addContainer 38 = .ok (.aload_n 0, 1) := by decide +kernel
theorem dX10_addContainer_39 : decode cX10_addContainer 39 = .ok (.iload_n 1, 1) := by decide +kernel
theorem dX10_addContainer_40 : decode cX10_addContainer 40 = .ok (.invokevirtual 179, 3) := by decide +kernel
theorem dX10_addContainer_43 : decode cX10_addContainer 43 = .ok (.ireturn, 1) := by decide +kernel
theorem dX10_addContainer_9 : decode cX10_addContainer 9 = .ok (.iconst 1, 1) := by decide +kernel
theorem dX10_addContainer_10 : decode cX10_addContainer 10 = .ok (.goto 4, 3) := by decide +kernel
theorem dX10_addContainer_32 : decode cX10_addContainer 32 = .ok (.iconst 0, 1) := by decide +kernel
theorem dX10_addContainer_33 : decode cX10_addContainer 33 = .ok (.ireturn, 1) := by decide +kernel
theorem dX10_put_0 : decode cX10_put 0 = .ok (.aload_n 0, 1) := by decide +kernel
theorem dX10_put_1 : decode cX10_put 1 = .ok (.iconst 1, 1) := by decide +kernel
theorem dX10_put_2 : decode cX10_put 2 = .ok (.aload_n 0, 1) := by decide +kernel
theorem dX10_put_3 : decode cX10_put 3 = .ok (.iload_n 1, 1) := by decide +kernel
theorem dX10_put_4 : decode cX10_put 4 = .ok (.invokevirtual 58, 3) := by decide +kernel
theorem dX10_put_7 : decode cX10_put 7 = .ok (.ifCond .eq 11, 3) := by decide +kernel
theorem dX10_put_10 : decode cX10_put 10 = .ok (.aload_n 0, 1) := by decide +kernel
theorem dX10_put_11 : decode cX10_put 11 = .ok (.iload_n 2, 1) := by decide +kernel
theorem dX10_put_12 : decode cX10_put 12 = .ok (.invokevirtual 182, 3) := by decide +kernel
theorem dX10_put_15 : decode cX10_put 15 = .ok (.ifCond .ne 7, 3) := by decide +kernel
theorem dX10_put_18 : decode cX10_put 18 = .ok (.iconst 1, 1) := by decide +kernel
theorem dX10_put_19 : decode cX10_put 19 = .ok (.goto 4, 3) := by decide +kernel
theorem dX10_put_23 : decode cX10_put 23 = .ok (.invokevirtual 69, 3) := by decide +kernel
theorem dX10_put_26 : decode cX10_put 26 = .ok (.ifCond .ne 24, 3) := by decide +kernel
theorem dX10_put_50 : decode cX10_put 50 = .ok (.iconst 0, 1) := by decide +kernel
theorem dX10_put_51 : decode cX10_put 51 = .ok (.ireturn, 1) := by decide +kernel
theorem dX10_takeOut_0 : decode cX10_takeOut 0 = .ok (.aload_n 0, 1) := by decide +kernel
theorem dX10_takeOut_1 : decode cX10_takeOut 1 = .ok (.iconst 1, 1) := by decide +kernel
theorem dX10_takeOut_2 : decode cX10_takeOut 2 = .ok (.aload_n 0, 1) := by decide +kernel
theorem dX10_takeOut_3 : decode cX10_takeOut 3 = .ok (.iload_n 1, 1) := by decide +kernel
theorem dX10_takeOut_4 : decode cX10_takeOut 4 = .ok (.invokevirtual 58, 3) := by decide +kernel
theorem dX10_takeOut_7 : decode cX10_takeOut 7 = .ok (.ifCond .ne 7, 3) := by decide +kernel
theorem dX10_takeOut_14 : decode cX10_takeOut 14 = .ok (.iconst 0, 1) := by decide +kernel
theorem dX10_takeOut_15 : decode cX10_takeOut 15 = .ok (.invokevirtual 69, 3) := by decide +kernel
theorem dX10_takeOut_18 : decode cX10_takeOut 18 = .ok (.ifCond .ne 26, 3) := by decide +kernel
theorem dX10_takeOut_21 : decode cX10_takeOut 21 = .ok (.aload_n 0, 1) := by decide +kernel
theorem dX10_takeOut_22 : decode cX10_takeOut 22 = .ok (.iconst 2, 1) := by decide +kernel
theorem dX10_takeOut_23 : decode cX10_takeOut 23 = .ok (.aload_n 0, 1) := by decide +kernel
theorem dX10_takeOut_24 : decode cX10_takeOut 24 = .ok (.iload_n 1, 1) := by decide +kernel
theorem dX10_takeOut_25 : decode cX10_takeOut 25 = .ok (.bipush 8, 2) := by decide +kernel
theorem dX10_takeOut_27 : decode cX10_takeOut 27 = .ok (.invokevirtual 54, 3) := by decide +kernel
theorem dX10_takeOut_30 : decode cX10_takeOut 30 = .ok (.ifCond .ge 7, 3) := by decide +kernel
theorem dX10_takeOut_33 : decode cX10_takeOut 33 = .ok (.iconst 1, 1) := by decide +kernel
theorem dX10_takeOut_34 : decode cX10_takeOut 34 = .ok (.goto 4, 3) := by decide +kernel
theorem dX10_takeOut_38 : decode cX10_takeOut 38 = .ok (.invokevirtual 69, 3) := by decide +kernel
theorem dX10_takeOut_41 : decode cX10_takeOut 41 = .ok (.ifCond .eq 5, 3) := by decide +kernel
theorem dX10_takeOut_44 : decode cX10_takeOut 44 = .ok (.iconst 0, 1) := by decide +kernel
theorem dX10_takeOut_45 : decode cX10_takeOut 45 = .ok (.ireturn, 1) := by decide +kernel
theorem dX10_takeOut_10 : decode cX10_takeOut 10 = .ok (.iconst 1, 1) := by decide +kernel
theorem dX10_takeOut_11 : decode cX10_takeOut 11 = .ok (.goto 4, 3) := by decide +kernel
theorem dX10_split_0 : decode cX10_split 0 = .ok (.aload_n 0, 1) := by decide +kernel
theorem dX10_split_1 : decode cX10_split 1 = .ok (.iload_n 1, 1) := by decide +kernel
theorem dX10_split_2 : decode cX10_split 2 = .ok (.invokevirtual 182, 3) := by decide +kernel
theorem dX10_split_5 : decode cX10_split 5 = .ok (.ifCond .eq 23, 3) := by decide +kernel
theorem dX10_split_28 : decode cX10_split 28 = .ok (.iconst 0, 1) := by decide +kernel
theorem dX10_split_29 : decode cX10_split 29 = .ok (.istore 4, 2) := by decide +kernel
theorem dX10_split_31 : decode cX10_split 31 = .ok (.aload_n 0, 1) := by decide +kernel
theorem dX10_split_32 : decode cX10_split 32 = .ok (.iconst 1, 1) := by decide +kernel
theorem dX10_split_33 : decode cX10_split 33 = .ok (.iload 4, 2) := by decide +kernel
theorem dX10_split_35 : decode cX10_split 35 = .ok (.ifCond .ne 7, 3) := by decide +kernel
theorem dX10_split_38 : decode cX10_split 38 = .ok (.iconst 1, 1) := by decide +kernel
theorem dX10_split_39 : decode cX10_split 39 = .ok (.goto 4, 3) := by decide +kernel
theorem dX10_split_43 : decode cX10_split 43 = .ok (.invokevirtual 69, 3) := by decide +kernel
theorem dX10_split_46 : decode cX10_split 46 = .ok (.ifCond .ne 53, 3) := by decide +kernel
theorem dX10_split_99 : decode cX10_split 99 = .ok (.iconst 0, 1) := by decide +kernel
theorem dX10_split_100 : decode cX10_split 100 = .ok (.ireturn, 1) := by decide +kernel
theorem dX10_merge_0 : decode cX10_merge 0 = .ok (.aload_n 0, 1) := by decide +kernel
theorem dX10_merge_1 : decode cX10_merge 1 = .ok (.iconst 1, 1) := by decide +kernel
theorem dX10_merge_2 : decode cX10_merge 2 = .ok (.aload_n 0, 1) := by decide +kernel
theorem dX10_merge_3 : decode cX10_merge 3 = .ok (.iload_n 1, 1) := by decide +kernel
theorem dX10_merge_4 : decode cX10_merge 4 = .ok (.invokevirtual 182, 3) := by decide +kernel
theorem dX10_merge_7 : decode cX10_merge 7 = .ok (.ifCond .eq 11, 3) := by decide +kernel
theorem dX10_merge_18 : decode cX10_merge 18 = .ok (.iconst 1, 1) := by decide +kernel
theorem dX10_merge_19 : decode cX10_merge 19 = .ok (.goto 4, 3) := by decide +kernel
theorem dX10_merge_23 : decode cX10_merge 23 = .ok (.invokevirtual 69, 3) := by decide +kernel
theorem dX10_merge_26 : decode cX10_merge 26 = .ok (.ifCond .ne 56, 3) := by decide +kernel
theorem dX10_merge_82 : decode cX10_merge 82 = .ok (.iconst 0, 1) := by decide +kernel
theorem dX10_merge_83 : decode cX10_merge 83 = .ok (.ireturn, 1) := by decide +kernel
theorem dX10_container_0 : decode cX10_container 0 = .ok (.aload_n 0, 1) := by decide +kernel
theorem dX10_container_1 : decode cX10_container 1 = .ok (.iconst 1, 1) := by decide +kernel
theorem dX10_container_2 : decode cX10_container 2 = .ok (.aload_n 0, 1) := by decide +kernel
theorem dX10_container_3 : decode cX10_container 3 = .ok (.iload_n 1, 1) := by decide +kernel
theorem dX10_container_4 : decode cX10_container 4 = .ok (.invokevirtual 182, 3) := by decide +kernel
theorem dX10_container_7 : decode cX10_container 7 = .ok (.ifCond .ne 7, 3) := by decide +kernel
theorem dX10_container_10 : decode cX10_container 10 = .ok (.iconst 1, 1) := by decide +kernel
theorem dX10_container_11 : decode cX10_container 11 = .ok (.goto 4, 3) := by decide +kernel
theorem dX10_container_15 : decode cX10_container 15 = .ok (.invokevirtual 69, 3) := by decide +kernel
theorem dX10_container_18 : decode cX10_container 18 = .ok (.ifCond .ne 25, 3) := by decide +kernel
theorem dX10_container_43 : decode cX10_container 43 = .ok (.iconst 0, 1) := by decide +kernel
theorem dX10_container_44 : decode cX10_container 44 = .ok (.ireturn, 1) := by decide +kernel
theorem dX10_unitAt_0 : decode cX10_unitAt 0 = .ok (.aload_n 0, 1) := by decide +kernel
theorem dX10_unitAt_1 : decode cX10_unitAt 1 = .ok (.iconst 1, 1) := by decide +kernel
theorem dX10_unitAt_2 : decode cX10_unitAt 2 = .ok (.aload_n 0, 1) := by decide +kernel
theorem dX10_unitAt_3 : decode cX10_unitAt 3 = .ok (.iload_n 1, 1) := by decide +kernel
theorem dX10_unitAt_4 : decode cX10_unitAt 4 = .ok (.invokevirtual 182, 3) := by decide +kernel
theorem dX10_unitAt_7 : decode cX10_unitAt 7 = .ok (.ifCond .eq 19, 3) := by decide +kernel
theorem dX10_unitAt_26 : decode cX10_unitAt 26 = .ok (.iconst 1, 1) := by decide +kernel
theorem dX10_unitAt_27 : decode cX10_unitAt 27 = .ok (.goto 4, 3) := by decide +kernel
theorem dX10_unitAt_31 : decode cX10_unitAt 31 = .ok (.invokevirtual 69, 3) := by decide +kernel
theorem dX10_unitAt_34 : decode cX10_unitAt 34 = .ok (.ifCond .eq 7, 3) := by decide +kernel
theorem dX10_unitAt_37 : decode cX10_unitAt 37 = .ok (.iconst 0, 1) := by decide +kernel
theorem dX10_unitAt_38 : decode cX10_unitAt 38 = .ok (.goto 11, 3) := by decide +kernel
theorem dX10_unitAt_49 : decode cX10_unitAt 49 = .ok (.ireturn, 1) := by decide +kernel
theorem dX10_resolve_0 : decode cX10_resolve 0 = .ok (.iconst (-1), 1) := by decide +kernel
theorem dX10_resolve_1 : decode cX10_resolve 1 = .ok (.istore_n 3, 1) := by decide +kernel
theorem dX10_resolve_2 : decode cX10_resolve 2 = .ok (.iconst 0, 1) := by decide +kernel
theorem dX10_resolve_3 : decode cX10_resolve 3 = .ok (.istore 4, 2) := by decide +kernel
theorem dX10_resolve_5 : decode cX10_resolve 5 = .ok (.iload 4, 2) := by decide +kernel
theorem dX10_resolve_7 : decode cX10_resolve 7 = .ok (.aload_n 0, 1) := by decide +kernel
theorem dX10_resolve_8 : decode cX10_resolve 8 = .ok (.getfield 9, 3) := by decide +kernel
theorem dX10_resolve_11 : decode cX10_resolve 11 = .ok (.bipush 6, 2) := by decide +kernel
theorem dX10_resolve_13 : decode cX10_resolve 13 = .ok (.iaload, 1) := by decide +kernel
theorem dX10_resolve_14 : decode cX10_resolve 14 = .ok (.if_icmp .ge 65, 3) := by decide +kernel
theorem dX10_resolve_79 : decode cX10_resolve 79 = .ok (.aload_n 0, 1) := by decide +kernel
theorem dX10_resolve_80 : decode cX10_resolve 80 = .ok (.iconst 1, 1) := by decide +kernel
theorem dX10_resolve_81 : decode cX10_resolve 81 = .ok (.iload_n 3, 1) := by decide +kernel
theorem dX10_resolve_82 : decode cX10_resolve 82 = .ok (.ifCond .ge 7, 3) := by decide +kernel
theorem dX10_resolve_85 : decode cX10_resolve 85 = .ok (.iconst 1, 1) := by decide +kernel
theorem dX10_resolve_86 : decode cX10_resolve 86 = .ok (.goto 4, 3) := by decide +kernel
theorem dX10_resolve_90 : decode cX10_resolve 90 = .ok (.invokevirtual 69, 3) := by decide +kernel
theorem dX10_resolve_93 : decode cX10_resolve 93 = .ok (.ifCond .eq 7, 3) := by decide +kernel
theorem dX10_resolve_96 : decode cX10_resolve 96 = .ok (.iconst 0, 1) := by decide +kernel
theorem dX10_resolve_97 : decode cX10_resolve 97 = .ok (.goto 4, 3) := by decide +kernel
theorem dX10_resolve_101 : decode cX10_resolve 101 = .ok (.ireturn, 1) := by decide +kernel
theorem dX10_copy_0 : decode cX10_copy 0 = .ok (.aload_n 0, 1) := by decide +kernel
theorem dX10_copy_1 : decode cX10_copy 1 = .ok (.iload_n 1, 1) := by decide +kernel
theorem dX10_copy_2 : decode cX10_copy 2 = .ok (.invokevirtual 156, 3) := by decide +kernel
theorem dX10_copy_5 : decode cX10_copy 5 = .ok (.ifCond .eq 28, 3) := by decide +kernel
theorem dX10_copy_33 : decode cX10_copy 33 = .ok (.iconst 0, 1) := by decide +kernel
theorem dX10_copy_34 : decode cX10_copy 34 = .ok (.istore_n 3, 1) := by decide +kernel
theorem dX10_copy_35 : decode cX10_copy 35 = .ok (.aload_n 0, 1) := by decide +kernel
theorem dX10_copy_36 : decode cX10_copy 36 = .ok (.iconst 1, 1) := by decide +kernel
theorem dX10_copy_37 : decode cX10_copy 37 = .ok (.aload_n 0, 1) := by decide +kernel
theorem dX10_copy_38 : decode cX10_copy 38 = .ok (.iload_n 1, 1) := by decide +kernel
theorem dX10_copy_39 : decode cX10_copy 39 = .ok (.invokevirtual 58, 3) := by decide +kernel
theorem dX10_copy_42 : decode cX10_copy 42 = .ok (.ifCond .ne 7, 3) := by decide +kernel
theorem dX10_copy_49 : decode cX10_copy 49 = .ok (.iconst 0, 1) := by decide +kernel
theorem dX10_copy_50 : decode cX10_copy 50 = .ok (.invokevirtual 69, 3) := by decide +kernel
theorem dX10_copy_53 : decode cX10_copy 53 = .ok (.ifCond .ne 44, 3) := by decide +kernel
theorem dX10_copy_56 : decode cX10_copy 56 = .ok (.aload_n 0, 1) := by decide +kernel
theorem dX10_copy_57 : decode cX10_copy 57 = .ok (.iconst 2, 1) := by decide +kernel
theorem dX10_copy_58 : decode cX10_copy 58 = .ok (.iload_n 3, 1) := by decide +kernel
theorem dX10_copy_59 : decode cX10_copy 59 = .ok (.ifCond .ne 7, 3) := by decide +kernel
theorem dX10_copy_62 : decode cX10_copy 62 = .ok (.iconst 1, 1) := by decide +kernel
theorem dX10_copy_63 : decode cX10_copy 63 = .ok (.goto 4, 3) := by decide +kernel
theorem dX10_copy_67 : decode cX10_copy 67 = .ok (.invokevirtual 69, 3) := by decide +kernel
theorem dX10_copy_70 : decode cX10_copy 70 = .ok (.ifCond .ne 27, 3) := by decide +kernel
theorem dX10_copy_97 : decode cX10_copy 97 = .ok (.iconst 0, 1) := by decide +kernel
theorem dX10_copy_98 : decode cX10_copy 98 = .ok (.ireturn, 1) := by decide +kernel
theorem dX10_copy_45 : decode cX10_copy 45 = .ok (.iconst 1, 1) := by decide +kernel
theorem dX10_copy_46 : decode cX10_copy 46 = .ok (.goto 4, 3) := by decide +kernel
theorem dX10_copyPart_0 : decode cX10_copyPart 0 = .ok (.aload_n 0, 1) := by decide +kernel
theorem dX10_copyPart_1 : decode cX10_copyPart 1 = .ok (.iconst 1, 1) := by decide +kernel
theorem dX10_copyPart_2 : decode cX10_copyPart 2 = .ok (.aload_n 0, 1) := by decide +kernel
theorem dX10_copyPart_3 : decode cX10_copyPart 3 = .ok (.iload_n 1, 1) := by decide +kernel
theorem dX10_copyPart_4 : decode cX10_copyPart 4 = .ok (.invokevirtual 109, 3) := by decide +kernel
theorem dX10_copyPart_7 : decode cX10_copyPart 7 = .ok (.ifCond .ne 7, 3) := by decide +kernel
theorem dX10_copyPart_10 : decode cX10_copyPart 10 = .ok (.iconst 1, 1) := by decide +kernel
theorem dX10_copyPart_11 : decode cX10_copyPart 11 = .ok (.goto 4, 3) := by decide +kernel
theorem dX10_copyPart_15 : decode cX10_copyPart 15 = .ok (.invokevirtual 69, 3) := by decide +kernel
theorem dX10_copyPart_18 : decode cX10_copyPart 18 = .ok (.ifCond .ne 25, 3) := by decide +kernel
theorem dX10_copyPart_43 : decode cX10_copyPart 43 = .ok (.iconst 0, 1) := by decide +kernel
theorem dX10_copyPart_44 : decode cX10_copyPart 44 = .ok (.ireturn, 1) := by decide +kernel
theorem dX10_setSeats_0 : decode cX10_setSeats 0 = .ok (.aload_n 0, 1) := by decide +kernel
theorem dX10_setSeats_1 : decode cX10_setSeats 1 = .ok (.iconst 1, 1) := by decide +kernel
theorem dX10_setSeats_2 : decode cX10_setSeats 2 = .ok (.iload_n 1, 1) := by decide +kernel
theorem dX10_setSeats_3 : decode cX10_setSeats 3 = .ok (.iconst 1, 1) := by decide +kernel
theorem dX10_setSeats_4 : decode cX10_setSeats 4 = .ok (.bipush 6, 2) := by decide +kernel
theorem dX10_setSeats_6 : decode cX10_setSeats 6 = .ok (.invokestatic 50, 3) := by decide +kernel
theorem dX10_setSeats_9 : decode cX10_setSeats 9 = .ok (.ifCond .ne 7, 3) := by decide +kernel
theorem dX10_setSeats_16 : decode cX10_setSeats 16 = .ok (.iconst 0, 1) := by decide +kernel
theorem dX10_setSeats_17 : decode cX10_setSeats 17 = .ok (.invokevirtual 69, 3) := by decide +kernel
theorem dX10_setSeats_20 : decode cX10_setSeats 20 = .ok (.ifCond .eq 5, 3) := by decide +kernel
theorem dX10_setSeats_25 : decode cX10_setSeats 25 = .ok (.aload_n 0, 1) := by decide +kernel
theorem dX10_setSeats_26 : decode cX10_setSeats 26 = .ok (.invokevirtual 77, 3) := by decide +kernel
theorem dX10_setSeats_29 : decode cX10_setSeats 29 = .ok (.aload_n 0, 1) := by decide +kernel
theorem dX10_setSeats_30 : decode cX10_setSeats 30 = .ok (.getfield 9, 3) := by decide +kernel
theorem dX10_setSeats_33 : decode cX10_setSeats 33 = .ok (.iconst 5, 1) := by decide +kernel
theorem dX10_setSeats_34 : decode cX10_setSeats 34 = .ok (.iaload, 1) := by decide +kernel
theorem dX10_setSeats_35 : decode cX10_setSeats 35 = .ok (.istore_n 2, 1) := by decide +kernel
theorem dX10_setSeats_36 : decode cX10_setSeats 36 = .ok (.aload_n 0, 1) := by decide +kernel
theorem dX10_setSeats_37 : decode cX10_setSeats 37 = .ok (.getfield 9, 3) := by decide +kernel
theorem dX10_setSeats_40 : decode cX10_setSeats 40 = .ok (.iconst 5, 1) := by decide +kernel
theorem dX10_setSeats_41 : decode cX10_setSeats 41 = .ok (.iload_n 1, 1) := by decide +kernel
theorem dX10_setSeats_42 : decode cX10_setSeats 42 = .ok (.iastore, 1) := by decide +kernel
theorem dX10_setSeats_43 : decode cX10_setSeats 43 = .ok (.iload_n 2, 1) := by decide +kernel
theorem dX10_setSeats_44 : decode cX10_setSeats 44 = .ok (.ireturn, 1) := by decide +kernel
theorem dX10_setSeats_12 : decode cX10_setSeats 12 = .ok (.iconst 1, 1) := by decide +kernel
theorem dX10_setSeats_13 : decode cX10_setSeats 13 = .ok (.goto 4, 3) := by decide +kernel
theorem dX10_setSeats_23 : decode cX10_setSeats 23 = .ok (.iconst 0, 1) := by decide +kernel
theorem dX10_setSeats_24 : decode cX10_setSeats 24 = .ok (.ireturn, 1) := by decide +kernel
theorem dX10_request_0 : decode cX10_request 0 = .ok (.aload_n 0, 1) := by decide +kernel
theorem dX10_request_1 : decode cX10_request 1 = .ok (.iconst 1, 1) := by decide +kernel
theorem dX10_request_2 : decode cX10_request 2 = .ok (.iload_n 1, 1) := by decide +kernel
theorem dX10_request_3 : decode cX10_request 3 = .ok (.iconst 0, 1) := by decide +kernel
theorem dX10_request_4 : decode cX10_request 4 = .ok (.bipush 7, 2) := by decide +kernel
theorem dX10_request_6 : decode cX10_request 6 = .ok (.invokestatic 50, 3) := by decide +kernel
theorem dX10_request_9 : decode cX10_request 9 = .ok (.ifCond .eq 11, 3) := by decide +kernel
theorem dX10_request_12 : decode cX10_request 12 = .ok (.aload_n 0, 1) := by decide +kernel
theorem dX10_request_13 : decode cX10_request 13 = .ok (.iload_n 2, 1) := by decide +kernel
theorem dX10_request_14 : decode cX10_request 14 = .ok (.invokevirtual 58, 3) := by decide +kernel
theorem dX10_request_17 : decode cX10_request 17 = .ok (.ifCond .ne 7, 3) := by decide +kernel
theorem dX10_request_24 : decode cX10_request 24 = .ok (.iconst 0, 1) := by decide +kernel
theorem dX10_request_25 : decode cX10_request 25 = .ok (.invokevirtual 69, 3) := by decide +kernel
theorem dX10_request_28 : decode cX10_request 28 = .ok (.ifCond .ne 55, 3) := by decide +kernel
theorem dX10_request_31 : decode cX10_request 31 = .ok (.aload_n 0, 1) := by decide +kernel
theorem dX10_request_32 : decode cX10_request 32 = .ok (.iconst 2, 1) := by decide +kernel
theorem dX10_request_33 : decode cX10_request 33 = .ok (.aload_n 0, 1) := by decide +kernel
theorem dX10_request_34 : decode cX10_request 34 = .ok (.iload_n 2, 1) := by decide +kernel
theorem dX10_request_35 : decode cX10_request 35 = .ok (.invokevirtual 156, 3) := by decide +kernel
theorem dX10_request_38 : decode cX10_request 38 = .ok (.ifCond .eq 10, 3) := by decide +kernel
theorem dX10_request_48 : decode cX10_request 48 = .ok (.iconst 1, 1) := by decide +kernel
theorem dX10_request_49 : decode cX10_request 49 = .ok (.goto 4, 3) := by decide +kernel
theorem dX10_request_53 : decode cX10_request 53 = .ok (.invokevirtual 69, 3) := by decide +kernel
theorem dX10_request_56 : decode cX10_request 56 = .ok (.ifCond .ne 27, 3) := by decide +kernel
theorem dX10_request_83 : decode cX10_request 83 = .ok (.iconst 0, 1) := by decide +kernel
theorem dX10_request_84 : decode cX10_request 84 = .ok (.ireturn, 1) := by decide +kernel
theorem dX10_request_20 : decode cX10_request 20 = .ok (.iconst 1, 1) := by decide +kernel
theorem dX10_request_21 : decode cX10_request 21 = .ok (.goto 4, 3) := by decide +kernel
theorem dX10_requestPart_0 : decode cX10_requestPart 0 = .ok (.aload_n 0, 1) := by decide +kernel
theorem dX10_requestPart_1 : decode cX10_requestPart 1 = .ok (.iconst 1, 1) := by decide +kernel
theorem dX10_requestPart_2 : decode cX10_requestPart 2 = .ok (.iload_n 1, 1) := by decide +kernel
theorem dX10_requestPart_3 : decode cX10_requestPart 3 = .ok (.iconst 0, 1) := by decide +kernel
theorem dX10_requestPart_4 : decode cX10_requestPart 4 = .ok (.aload_n 0, 1) := by decide +kernel
theorem dX10_requestPart_5 : decode cX10_requestPart 5 = .ok (.getfield 9, 3) := by decide +kernel
theorem dX10_requestPart_8 : decode cX10_requestPart 8 = .ok (.iconst 4, 1) := by decide +kernel
theorem dX10_requestPart_9 : decode cX10_requestPart 9 = .ok (.iaload, 1) := by decide +kernel
theorem dX10_requestPart_10 : decode cX10_requestPart 10 = .ok (.iconst 1, 1) := by decide +kernel
theorem dX10_requestPart_11 : decode cX10_requestPart 11 = .ok (.isub, 1) := by decide +kernel
theorem dX10_requestPart_12 : decode cX10_requestPart 12 = .ok (.invokestatic 50, 3) := by decide +kernel
theorem dX10_requestPart_15 : decode cX10_requestPart 15 = .ok (.ifCond .ne 7, 3) := by decide +kernel
theorem dX10_requestPart_18 : decode cX10_requestPart 18 = .ok (.iconst 1, 1) := by decide +kernel
theorem dX10_requestPart_19 : decode cX10_requestPart 19 = .ok (.goto 4, 3) := by decide +kernel
theorem dX10_requestPart_23 : decode cX10_requestPart 23 = .ok (.invokevirtual 69, 3) := by decide +kernel
theorem dX10_requestPart_26 : decode cX10_requestPart 26 = .ok (.ifCond .ne 25, 3) := by decide +kernel
theorem dX10_requestPart_51 : decode cX10_requestPart 51 = .ok (.iconst 0, 1) := by decide +kernel
theorem dX10_requestPart_52 : decode cX10_requestPart 52 = .ok (.ireturn, 1) := by decide +kernel
theorem dX10_cancel_0 : decode cX10_cancel 0 = .ok (.aload_n 0, 1) := by decide +kernel
theorem dX10_cancel_1 : decode cX10_cancel 1 = .ok (.iconst 1, 1) := by decide +kernel
theorem dX10_cancel_2 : decode cX10_cancel 2 = .ok (.iload_n 1, 1) := by decide +kernel
theorem dX10_cancel_3 : decode cX10_cancel 3 = .ok (.iconst 0, 1) := by decide +kernel
theorem dX10_cancel_4 : decode cX10_cancel 4 = .ok (.aload_n 0, 1) := by decide +kernel
theorem dX10_cancel_5 : decode cX10_cancel 5 = .ok (.getfield 9, 3) := by decide +kernel
theorem dX10_cancel_8 : decode cX10_cancel 8 = .ok (.iconst 4, 1) := by decide +kernel
theorem dX10_cancel_9 : decode cX10_cancel 9 = .ok (.iaload, 1) := by decide +kernel
theorem dX10_cancel_10 : decode cX10_cancel 10 = .ok (.iconst 1, 1) := by decide +kernel
theorem dX10_cancel_11 : decode cX10_cancel 11 = .ok (.isub, 1) := by decide +kernel
theorem dX10_cancel_12 : decode cX10_cancel 12 = .ok (.invokestatic 50, 3) := by decide +kernel
theorem dX10_cancel_15 : decode cX10_cancel 15 = .ok (.ifCond .ne 7, 3) := by decide +kernel
theorem dX10_cancel_18 : decode cX10_cancel 18 = .ok (.iconst 1, 1) := by decide +kernel
theorem dX10_cancel_19 : decode cX10_cancel 19 = .ok (.goto 4, 3) := by decide +kernel
theorem dX10_cancel_23 : decode cX10_cancel 23 = .ok (.invokevirtual 69, 3) := by decide +kernel
theorem dX10_cancel_26 : decode cX10_cancel 26 = .ok (.ifCond .eq 5, 3) := by decide +kernel
theorem dX10_cancel_29 : decode cX10_cancel 29 = .ok (.iconst 0, 1) := by decide +kernel
theorem dX10_cancel_30 : decode cX10_cancel 30 = .ok (.ireturn, 1) := by decide +kernel
theorem dX10_review_0 : decode cX10_review 0 = .ok (.aload_n 0, 1) := by decide +kernel
theorem dX10_review_1 : decode cX10_review 1 = .ok (.iconst 0, 1) := by decide +kernel
theorem dX10_review_2 : decode cX10_review 2 = .ok (.putfield 35, 3) := by decide +kernel
theorem dX10_review_5 : decode cX10_review 5 = .ok (.aload_n 0, 1) := by decide +kernel
theorem dX10_review_6 : decode cX10_review 6 = .ok (.invokevirtual 77, 3) := by decide +kernel
theorem dX10_review_9 : decode cX10_review 9 = .ok (.iconst 0, 1) := by decide +kernel
theorem dX10_review_10 : decode cX10_review 10 = .ok (.istore_n 1, 1) := by decide +kernel
theorem dX10_review_11 : decode cX10_review 11 = .ok (.aload_n 0, 1) := by decide +kernel
theorem dX10_review_12 : decode cX10_review 12 = .ok (.getfield 9, 3) := by decide +kernel
theorem dX10_review_15 : decode cX10_review 15 = .ok (.iconst 4, 1) := by decide +kernel
theorem dX10_review_16 : decode cX10_review 16 = .ok (.iaload, 1) := by decide +kernel
theorem dX10_review_17 : decode cX10_review 17 = .ok (.iconst 1, 1) := by decide +kernel
theorem dX10_review_18 : decode cX10_review 18 = .ok (.isub, 1) := by decide +kernel
theorem dX10_review_19 : decode cX10_review 19 = .ok (.istore_n 2, 1) := by decide +kernel
theorem dX10_review_20 : decode cX10_review 20 = .ok (.iload_n 2, 1) := by decide +kernel
theorem dX10_review_21 : decode cX10_review 21 = .ok (.ifCond .lt 77, 3) := by decide +kernel
theorem dX10_review_98 : decode cX10_review 98 = .ok (.iload_n 1, 1) := by decide +kernel
theorem dX10_review_99 : decode cX10_review 99 = .ok (.ireturn, 1) := by decide +kernel
theorem dX10_account_0 : decode cX10_account 0 = .ok (.aload_n 0, 1) := by decide +kernel
theorem dX10_account_1 : decode cX10_account 1 = .ok (.iconst 1, 1) := by decide +kernel
theorem dX10_account_2 : decode cX10_account 2 = .ok (.iload_n 1, 1) := by decide +kernel
theorem dX10_account_3 : decode cX10_account 3 = .ok (.iconst 0, 1) := by decide +kernel
theorem dX10_account_4 : decode cX10_account 4 = .ok (.bipush 9, 2) := by decide +kernel
theorem dX10_account_6 : decode cX10_account 6 = .ok (.invokestatic 50, 3) := by decide +kernel
theorem dX10_account_9 : decode cX10_account 9 = .ok (.ifCond .ne 7, 3) := by decide +kernel
theorem dX10_account_16 : decode cX10_account 16 = .ok (.iconst 0, 1) := by decide +kernel
theorem dX10_account_17 : decode cX10_account 17 = .ok (.invokevirtual 69, 3) := by decide +kernel
theorem dX10_account_20 : decode cX10_account 20 = .ok (.ifCond .eq 5, 3) := by decide +kernel
theorem dX10_account_25 : decode cX10_account 25 = .ok (.iload_n 1, 1) := by decide +kernel
theorem dX10_account_26 : decode cX10_account 26 = .ok (.tableswitch 105 0 8 #[50, 58, 64, 70, 75, 81, 86, 93, 99], 50) := by decide +kernel
theorem dX10_account_76 : decode cX10_account 76 = .ok (.aload_n 0, 1) := by decide +kernel
theorem dX10_account_77 : decode cX10_account 77 = .ok (.iconst 0, 1) := by decide +kernel
theorem dX10_account_78 : decode cX10_account 78 = .ok (.invokevirtual 119, 3) := by decide +kernel
theorem dX10_account_81 : decode cX10_account 81 = .ok (.iconst 1, 1) := by decide +kernel
theorem dX10_account_82 : decode cX10_account 82 = .ok (.iadd, 1) := by decide +kernel
theorem dX10_account_83 : decode cX10_account 83 = .ok (.ireturn, 1) := by decide +kernel
theorem dX10_account_84 : decode cX10_account 84 = .ok (.aload_n 0, 1) := by decide +kernel
theorem dX10_account_85 : decode cX10_account 85 = .ok (.iconst 0, 1) := by decide +kernel
theorem dX10_account_86 : decode cX10_account 86 = .ok (.invokevirtual 234, 3) := by decide +kernel
theorem dX10_account_89 : decode cX10_account 89 = .ok (.ireturn, 1) := by decide +kernel
theorem dX10_account_90 : decode cX10_account 90 = .ok (.aload_n 0, 1) := by decide +kernel
theorem dX10_account_91 : decode cX10_account 91 = .ok (.iconst 0, 1) := by decide +kernel
theorem dX10_account_92 : decode cX10_account 92 = .ok (.invokevirtual 122, 3) := by decide +kernel
theorem dX10_account_95 : decode cX10_account 95 = .ok (.ireturn, 1) := by decide +kernel
theorem dX10_account_96 : decode cX10_account 96 = .ok (.aload_n 0, 1) := by decide +kernel
theorem dX10_account_97 : decode cX10_account 97 = .ok (.invokevirtual 165, 3) := by decide +kernel
theorem dX10_account_100 : decode cX10_account 100 = .ok (.ireturn, 1) := by decide +kernel
theorem dX10_account_101 : decode cX10_account 101 = .ok (.aload_n 0, 1) := by decide +kernel
theorem dX10_account_102 : decode cX10_account 102 = .ok (.iconst 1, 1) := by decide +kernel
theorem dX10_account_103 : decode cX10_account 103 = .ok (.invokevirtual 234, 3) := by decide +kernel
theorem dX10_account_106 : decode cX10_account 106 = .ok (.ireturn, 1) := by decide +kernel
theorem dX10_account_107 : decode cX10_account 107 = .ok (.aload_n 0, 1) := by decide +kernel
theorem dX10_account_108 : decode cX10_account 108 = .ok (.invokevirtual 238, 3) := by decide +kernel
theorem dX10_account_111 : decode cX10_account 111 = .ok (.ireturn, 1) := by decide +kernel
theorem dX10_account_112 : decode cX10_account 112 = .ok (.aload_n 0, 1) := by decide +kernel
theorem dX10_account_113 : decode cX10_account 113 = .ok (.getfield 9, 3) := by decide +kernel
theorem dX10_account_116 : decode cX10_account 116 = .ok (.iconst 4, 1) := by decide +kernel
theorem dX10_account_117 : decode cX10_account 117 = .ok (.iaload, 1) := by decide +kernel
theorem dX10_account_118 : decode cX10_account 118 = .ok (.ireturn, 1) := by decide +kernel
theorem dX10_account_119 : decode cX10_account 119 = .ok (.aload_n 0, 1) := by decide +kernel
theorem dX10_account_120 : decode cX10_account 120 = .ok (.iconst 1, 1) := by decide +kernel
theorem dX10_account_121 : decode cX10_account 121 = .ok (.invokevirtual 241, 3) := by decide +kernel
theorem dX10_account_124 : decode cX10_account 124 = .ok (.ireturn, 1) := by decide +kernel
theorem dX10_account_125 : decode cX10_account 125 = .ok (.aload_n 0, 1) := by decide +kernel
theorem dX10_account_126 : decode cX10_account 126 = .ok (.iconst 0, 1) := by decide +kernel
theorem dX10_account_127 : decode cX10_account 127 = .ok (.invokevirtual 241, 3) := by decide +kernel
theorem dX10_account_130 : decode cX10_account 130 = .ok (.ireturn, 1) := by decide +kernel
theorem dX10_account_131 : decode cX10_account 131 = .ok (.aload_n 0, 1) := by decide +kernel
theorem dX10_account_132 : decode cX10_account 132 = .ok (.invokevirtual 244, 3) := by decide +kernel
theorem dX10_account_135 : decode cX10_account 135 = .ok (.ireturn, 1) := by decide +kernel
theorem dX10_account_12 : decode cX10_account 12 = .ok (.iconst 1, 1) := by decide +kernel
theorem dX10_account_13 : decode cX10_account 13 = .ok (.goto 4, 3) := by decide +kernel
theorem dX10_account_23 : decode cX10_account 23 = .ok (.iconst 0, 1) := by decide +kernel
theorem dX10_account_24 : decode cX10_account 24 = .ok (.ireturn, 1) := by decide +kernel
theorem dX10_dayCount_0 : decode cX10_dayCount 0 = .ok (.aload_n 0, 1) := by decide +kernel
theorem dX10_dayCount_1 : decode cX10_dayCount 1 = .ok (.iconst 1, 1) := by decide +kernel
theorem dX10_dayCount_2 : decode cX10_dayCount 2 = .ok (.iload_n 1, 1) := by decide +kernel
theorem dX10_dayCount_3 : decode cX10_dayCount 3 = .ok (.invokestatic 66, 3) := by decide +kernel
theorem dX10_dayCount_6 : decode cX10_dayCount 6 = .ok (.ifCond .eq 12, 3) := by decide +kernel
theorem dX10_dayCount_9 : decode cX10_dayCount 9 = .ok (.iload_n 2, 1) := by decide +kernel
theorem dX10_dayCount_10 : decode cX10_dayCount 10 = .ok (.iconst 0, 1) := by decide +kernel
theorem dX10_dayCount_11 : decode cX10_dayCount 11 = .ok (.iconst 3, 1) := by decide +kernel
theorem dX10_dayCount_12 : decode cX10_dayCount 12 = .ok (.invokestatic 50, 3) := by decide +kernel
theorem dX10_dayCount_15 : decode cX10_dayCount 15 = .ok (.ifCond .ne 7, 3) := by decide +kernel
theorem dX10_dayCount_22 : decode cX10_dayCount 22 = .ok (.iconst 0, 1) := by decide +kernel
theorem dX10_dayCount_23 : decode cX10_dayCount 23 = .ok (.invokevirtual 69, 3) := by decide +kernel
theorem dX10_dayCount_26 : decode cX10_dayCount 26 = .ok (.ifCond .eq 5, 3) := by decide +kernel
theorem dX10_dayCount_31 : decode cX10_dayCount 31 = .ok (.iload_n 2, 1) := by decide +kernel
theorem dX10_dayCount_32 : decode cX10_dayCount 32 = .ok (.ifCond .ne 11, 3) := by decide +kernel
theorem dX10_dayCount_43 : decode cX10_dayCount 43 = .ok (.iload_n 2, 1) := by decide +kernel
theorem dX10_dayCount_44 : decode cX10_dayCount 44 = .ok (.iconst 1, 1) := by decide +kernel
theorem dX10_dayCount_45 : decode cX10_dayCount 45 = .ok (.if_icmp .ne 11, 3) := by decide +kernel
theorem dX10_dayCount_56 : decode cX10_dayCount 56 = .ok (.aload_n 0, 1) := by decide +kernel
theorem dX10_dayCount_57 : decode cX10_dayCount 57 = .ok (.iload_n 1, 1) := by decide +kernel
theorem dX10_dayCount_58 : decode cX10_dayCount 58 = .ok (.iload_n 2, 1) := by decide +kernel
theorem dX10_dayCount_59 : decode cX10_dayCount 59 = .ok (.iconst 3, 1) := by decide +kernel
theorem dX10_dayCount_60 : decode cX10_dayCount 60 = .ok (.if_icmp .ne 7, 3) := by decide +kernel
theorem dX10_dayCount_67 : decode cX10_dayCount 67 = .ok (.iconst 0, 1) := by decide +kernel
theorem dX10_dayCount_68 : decode cX10_dayCount 68 = .ok (.invokevirtual 250, 3) := by decide +kernel
theorem dX10_dayCount_71 : decode cX10_dayCount 71 = .ok (.ireturn, 1) := by decide +kernel
theorem dX10_dayCount_63 : decode cX10_dayCount 63 = .ok (.iconst 1, 1) := by decide +kernel
theorem dX10_dayCount_64 : decode cX10_dayCount 64 = .ok (.goto 4, 3) := by decide +kernel
theorem dX10_dayCount_48 : decode cX10_dayCount 48 = .ok (.aload_n 0, 1) := by decide +kernel
theorem dX10_dayCount_49 : decode cX10_dayCount 49 = .ok (.iload_n 1, 1) := by decide +kernel
theorem dX10_dayCount_50 : decode cX10_dayCount 50 = .ok (.invokevirtual 216, 3) := by decide +kernel
theorem dX10_dayCount_53 : decode cX10_dayCount 53 = .ok (.goto 18, 3) := by decide +kernel
theorem dX10_dayCount_35 : decode cX10_dayCount 35 = .ok (.aload_n 0, 1) := by decide +kernel
theorem dX10_dayCount_36 : decode cX10_dayCount 36 = .ok (.iload_n 1, 1) := by decide +kernel
theorem dX10_dayCount_37 : decode cX10_dayCount 37 = .ok (.invokevirtual 247, 3) := by decide +kernel
theorem dX10_dayCount_40 : decode cX10_dayCount 40 = .ok (.goto 31, 3) := by decide +kernel
theorem dX10_dayCount_18 : decode cX10_dayCount 18 = .ok (.iconst 1, 1) := by decide +kernel
theorem dX10_dayCount_19 : decode cX10_dayCount 19 = .ok (.goto 4, 3) := by decide +kernel
theorem dX10_dayCount_29 : decode cX10_dayCount 29 = .ok (.iconst 0, 1) := by decide +kernel
theorem dX10_dayCount_30 : decode cX10_dayCount 30 = .ok (.ireturn, 1) := by decide +kernel
theorem dX10_openShare_0 : decode cX10_openShare 0 = .ok (.aload_n 0, 1) := by decide +kernel
theorem dX10_openShare_1 : decode cX10_openShare 1 = .ok (.iconst 1, 1) := by decide +kernel
theorem dX10_openShare_2 : decode cX10_openShare 2 = .ok (.iload_n 1, 1) := by decide +kernel
theorem dX10_openShare_3 : decode cX10_openShare 3 = .ok (.invokestatic 66, 3) := by decide +kernel
theorem dX10_openShare_6 : decode cX10_openShare 6 = .ok (.ifCond .ne 7, 3) := by decide +kernel
theorem dX10_openShare_13 : decode cX10_openShare 13 = .ok (.iconst 0, 1) := by decide +kernel
theorem dX10_openShare_14 : decode cX10_openShare 14 = .ok (.invokevirtual 69, 3) := by decide +kernel
theorem dX10_openShare_17 : decode cX10_openShare 17 = .ok (.ifCond .ne 24, 3) := by decide +kernel
theorem dX10_openShare_20 : decode cX10_openShare 20 = .ok (.aload_n 0, 1) := by decide +kernel
theorem dX10_openShare_21 : decode cX10_openShare 21 = .ok (.iconst 2, 1) := by decide +kernel
theorem dX10_openShare_22 : decode cX10_openShare 22 = .ok (.aload_n 0, 1) := by decide +kernel
theorem dX10_openShare_23 : decode cX10_openShare 23 = .ok (.iconst 0, 1) := by decide +kernel
theorem dX10_openShare_24 : decode cX10_openShare 24 = .ok (.invokevirtual 234, 3) := by decide +kernel
theorem dX10_openShare_27 : decode cX10_openShare 27 = .ok (.ifCond .ne 7, 3) := by decide +kernel
theorem dX10_openShare_30 : decode cX10_openShare 30 = .ok (.iconst 1, 1) := by decide +kernel
theorem dX10_openShare_31 : decode cX10_openShare 31 = .ok (.goto 4, 3) := by decide +kernel
theorem dX10_openShare_35 : decode cX10_openShare 35 = .ok (.invokevirtual 69, 3) := by decide +kernel
theorem dX10_openShare_38 : decode cX10_openShare 38 = .ok (.ifCond .eq 5, 3) := by decide +kernel
theorem dX10_openShare_41 : decode cX10_openShare 41 = .ok (.dconst 0, 1) := by decide +kernel
theorem dX10_openShare_42 : decode cX10_openShare 42 = .ok (.dreturn, 1) := by decide +kernel
theorem dX10_openShare_9 : decode cX10_openShare 9 = .ok (.iconst 1, 1) := by decide +kernel
theorem dX10_openShare_10 : decode cX10_openShare 10 = .ok (.goto 4, 3) := by decide +kernel
theorem dX10_report_0 : decode cX10_report 0 = .ok (.aload_n 0, 1) := by decide +kernel
theorem dX10_report_1 : decode cX10_report 1 = .ok (.iconst 1, 1) := by decide +kernel
theorem dX10_report_2 : decode cX10_report 2 = .ok (.iload_n 1, 1) := by decide +kernel
theorem dX10_report_3 : decode cX10_report 3 = .ok (.iconst 0, 1) := by decide +kernel
theorem dX10_report_4 : decode cX10_report 4 = .ok (.aload_n 0, 1) := by decide +kernel
theorem dX10_report_5 : decode cX10_report 5 = .ok (.getfield 210, 3) := by decide +kernel
theorem dX10_report_8 : decode cX10_report 8 = .ok (.iconst 1, 1) := by decide +kernel
theorem dX10_report_9 : decode cX10_report 9 = .ok (.isub, 1) := by decide +kernel
theorem dX10_report_10 : decode cX10_report 10 = .ok (.invokestatic 50, 3) := by decide +kernel
theorem dX10_report_13 : decode cX10_report 13 = .ok (.ifCond .ne 7, 3) := by decide +kernel
theorem dX10_report_16 : decode cX10_report 16 = .ok (.iconst 1, 1) := by decide +kernel
theorem dX10_report_17 : decode cX10_report 17 = .ok (.goto 4, 3) := by decide +kernel
theorem dX10_report_21 : decode cX10_report 21 = .ok (.invokevirtual 69, 3) := by decide +kernel
theorem dX10_report_24 : decode cX10_report 24 = .ok (.ifCond .ne 25, 3) := by decide +kernel
theorem dX10_report_49 : decode cX10_report 49 = .ok (.iconst 0, 1) := by decide +kernel
theorem dX10_report_50 : decode cX10_report 50 = .ok (.ireturn, 1) := by decide +kernel
theorem dX10_feed_0 : decode cX10_feed 0 = .ok (.aload_n 0, 1) := by decide +kernel
theorem dX10_feed_1 : decode cX10_feed 1 = .ok (.iconst 1, 1) := by decide +kernel
theorem dX10_feed_2 : decode cX10_feed 2 = .ok (.aload_n 0, 1) := by decide +kernel
theorem dX10_feed_3 : decode cX10_feed 3 = .ok (.getfield 254, 3) := by decide +kernel
theorem dX10_feed_6 : decode cX10_feed 6 = .ok (.bipush 100, 2) := by decide +kernel
theorem dX10_feed_8 : decode cX10_feed 8 = .ok (.if_icmp .ne 7, 3) := by decide +kernel
theorem dX10_feed_15 : decode cX10_feed 15 = .ok (.iconst 0, 1) := by decide +kernel
theorem dX10_feed_16 : decode cX10_feed 16 = .ok (.invokevirtual 69, 3) := by decide +kernel
theorem dX10_feed_19 : decode cX10_feed 19 = .ok (.ifCond .eq 5, 3) := by decide +kernel
theorem dX10_feed_24 : decode cX10_feed 24 = .ok (.aload_n 0, 1) := by decide +kernel
theorem dX10_feed_25 : decode cX10_feed 25 = .ok (.getfield 24, 3) := by decide +kernel
theorem dX10_feed_28 : decode cX10_feed 28 = .ok (.aload_n 0, 1) := by decide +kernel
theorem dX10_feed_29 : decode cX10_feed 29 = .ok (.getfield 254, 3) := by decide +kernel
theorem dX10_feed_32 : decode cX10_feed 32 = .ok (.iload_n 1, 1) := by decide +kernel
theorem dX10_feed_33 : decode cX10_feed 33 = .ok (.castore, 1) := by decide +kernel
theorem dX10_feed_34 : decode cX10_feed 34 = .ok (.aload_n 0, 1) := by decide +kernel
theorem dX10_feed_35 : decode cX10_feed 35 = .ok (.dup, 1) := by decide +kernel
theorem dX10_feed_36 : decode cX10_feed 36 = .ok (.getfield 254, 3) := by decide +kernel
theorem dX10_feed_39 : decode cX10_feed 39 = .ok (.iconst 1, 1) := by decide +kernel
theorem dX10_feed_40 : decode cX10_feed 40 = .ok (.iadd, 1) := by decide +kernel
theorem dX10_feed_41 : decode cX10_feed 41 = .ok (.putfield 254, 3) := by decide +kernel
theorem dX10_feed_44 : decode cX10_feed 44 = .ok (.aload_n 0, 1) := by decide +kernel
theorem dX10_feed_45 : decode cX10_feed 45 = .ok (.getfield 254, 3) := by decide +kernel
theorem dX10_feed_48 : decode cX10_feed 48 = .ok (.ireturn, 1) := by decide +kernel
theorem dX10_read_0 : decode cX10_read 0 = .ok (.aload_n 0, 1) := by decide +kernel
theorem dX10_read_1 : decode cX10_read 1 = .ok (.iconst 1, 1) := by decide +kernel
theorem dX10_read_2 : decode cX10_read 2 = .ok (.aload_n 0, 1) := by decide +kernel
theorem dX10_read_3 : decode cX10_read 3 = .ok (.iload_n 1, 1) := by decide +kernel
theorem dX10_read_4 : decode cX10_read 4 = .ok (.invokevirtual 58, 3) := by decide +kernel
theorem dX10_read_7 : decode cX10_read 7 = .ok (.ifCond .ne 7, 3) := by decide +kernel
theorem dX10_read_14 : decode cX10_read 14 = .ok (.iconst 0, 1) := by decide +kernel
theorem dX10_read_15 : decode cX10_read 15 = .ok (.invokevirtual 69, 3) := by decide +kernel
theorem dX10_read_18 : decode cX10_read 18 = .ok (.ifCond .eq 5, 3) := by decide +kernel
theorem dX10_read_23 : decode cX10_read 23 = .ok (.aload_n 0, 1) := by decide +kernel
theorem dX10_read_24 : decode cX10_read 24 = .ok (.iconst 0, 1) := by decide +kernel
theorem dX10_read_25 : decode cX10_read 25 = .ok (.putfield 261, 3) := by decide +kernel
theorem dX10_read_28 : decode cX10_read 28 = .ok (.aload_n 0, 1) := by decide +kernel
theorem dX10_read_29 : decode cX10_read 29 = .ok (.iconst 0, 1) := by decide +kernel
theorem dX10_read_30 : decode cX10_read 30 = .ok (.putfield 257, 3) := by decide +kernel
theorem dX10_read_33 : decode cX10_read 33 = .ok (.aload_n 0, 1) := by decide +kernel
theorem dX10_read_34 : decode cX10_read 34 = .ok (.iload_n 1, 1) := by decide +kernel
theorem dX10_read_35 : decode cX10_read 35 = .ok (.iconst 0, 1) := by decide +kernel
theorem dX10_read_36 : decode cX10_read 36 = .ok (.invokevirtual 284, 3) := by decide +kernel
theorem dX10_read_39 : decode cX10_read 39 = .ok (.aload_n 0, 1) := by decide +kernel
theorem dX10_read_40 : decode cX10_read 40 = .ok (.dup, 1) := by decide +kernel
theorem dX10_read_41 : decode cX10_read 41 = .ok (.getfield 257, 3) := by decide +kernel
theorem dX10_read_44 : decode cX10_read 44 = .ok (.aload_n 0, 1) := by decide +kernel
theorem dX10_read_45 : decode cX10_read 45 = .ok (.getfield 261, 3) := by decide +kernel
theorem dX10_read_48 : decode cX10_read 48 = .ok (.aload_n 0, 1) := by decide +kernel
theorem dX10_read_49 : decode cX10_read 49 = .ok (.getfield 254, 3) := by decide +kernel
theorem dX10_read_52 : decode cX10_read 52 = .ok (.if_icmp .ge 7, 3) := by decide +kernel
theorem dX10_read_59 : decode cX10_read 59 = .ok (.iconst 0, 1) := by decide +kernel
theorem dX10_read_60 : decode cX10_read 60 = .ok (.ior, 1) := by decide +kernel
theorem dX10_read_61 : decode cX10_read 61 = .ok (.putfield 257, 3) := by decide +kernel
theorem dX10_read_64 : decode cX10_read 64 = .ok (.aload_n 0, 1) := by decide +kernel
theorem dX10_read_65 : decode cX10_read 65 = .ok (.getfield 257, 3) := by decide +kernel
theorem dX10_read_68 : decode cX10_read 68 = .ok (.ifCond .eq 16, 3) := by decide +kernel
theorem dX10_read_71 : decode cX10_read 71 = .ok (.aload_n 0, 1) := by decide +kernel
theorem dX10_read_72 : decode cX10_read 72 = .ok (.iconst 0, 1) := by decide +kernel
theorem dX10_read_73 : decode cX10_read 73 = .ok (.putfield 254, 3) := by decide +kernel
theorem dX10_read_76 : decode cX10_read 76 = .ok (.bipush (-100), 2) := by decide +kernel
theorem dX10_read_78 : decode cX10_read 78 = .ok (.aload_n 0, 1) := by decide +kernel
theorem dX10_read_79 : decode cX10_read 79 = .ok (.getfield 261, 3) := by decide +kernel
theorem dX10_read_82 : decode cX10_read 82 = .ok (.isub, 1) := by decide +kernel
theorem dX10_read_83 : decode cX10_read 83 = .ok (.ireturn, 1) := by decide +kernel
theorem dX10_read_10 : decode cX10_read 10 = .ok (.iconst 1, 1) := by decide +kernel
theorem dX10_read_11 : decode cX10_read 11 = .ok (.goto 4, 3) := by decide +kernel
theorem dX10_read_21 : decode cX10_read 21 = .ok (.iconst 0, 1) := by decide +kernel
theorem dX10_read_22 : decode cX10_read 22 = .ok (.ireturn, 1) := by decide +kernel
theorem dX10_write_0 : decode cX10_write 0 = .ok (.aload_n 0, 1) := by decide +kernel
theorem dX10_write_1 : decode cX10_write 1 = .ok (.iconst 1, 1) := by decide +kernel
theorem dX10_write_2 : decode cX10_write 2 = .ok (.aload_n 0, 1) := by decide +kernel
theorem dX10_write_3 : decode cX10_write 3 = .ok (.iload_n 1, 1) := by decide +kernel
theorem dX10_write_4 : decode cX10_write 4 = .ok (.invokevirtual 58, 3) := by decide +kernel
theorem dX10_write_7 : decode cX10_write 7 = .ok (.ifCond .ne 7, 3) := by decide +kernel
theorem dX10_write_14 : decode cX10_write 14 = .ok (.iconst 0, 1) := by decide +kernel
theorem dX10_write_15 : decode cX10_write 15 = .ok (.invokevirtual 69, 3) := by decide +kernel
theorem dX10_write_18 : decode cX10_write 18 = .ok (.ifCond .eq 5, 3) := by decide +kernel
theorem dX10_write_23 : decode cX10_write 23 = .ok (.aload_n 0, 1) := by decide +kernel
theorem dX10_write_24 : decode cX10_write 24 = .ok (.iconst 0, 1) := by decide +kernel
theorem dX10_write_25 : decode cX10_write 25 = .ok (.putfield 288, 3) := by decide +kernel
theorem dX10_write_28 : decode cX10_write 28 = .ok (.aload_n 0, 1) := by decide +kernel
theorem dX10_write_29 : decode cX10_write 29 = .ok (.iload_n 1, 1) := by decide +kernel
theorem dX10_write_30 : decode cX10_write 30 = .ok (.invokevirtual 297, 3) := by decide +kernel
theorem dX10_write_33 : decode cX10_write 33 = .ok (.aload_n 0, 1) := by decide +kernel
theorem dX10_write_34 : decode cX10_write 34 = .ok (.getfield 288, 3) := by decide +kernel
theorem dX10_write_37 : decode cX10_write 37 = .ok (.ireturn, 1) := by decide +kernel
theorem dX10_write_10 : decode cX10_write 10 = .ok (.iconst 1, 1) := by decide +kernel
theorem dX10_write_11 : decode cX10_write 11 = .ok (.goto 4, 3) := by decide +kernel
theorem dX10_write_21 : decode cX10_write 21 = .ok (.iconst 0, 1) := by decide +kernel
theorem dX10_write_22 : decode cX10_write 22 = .ok (.ireturn, 1) := by decide +kernel
theorem dX10_text_0 : decode cX10_text 0 = .ok (.aload_n 0, 1) := by decide +kernel
theorem dX10_text_1 : decode cX10_text 1 = .ok (.iconst 1, 1) := by decide +kernel
theorem dX10_text_2 : decode cX10_text 2 = .ok (.iload_n 1, 1) := by decide +kernel
theorem dX10_text_3 : decode cX10_text 3 = .ok (.iconst 0, 1) := by decide +kernel
theorem dX10_text_4 : decode cX10_text 4 = .ok (.aload_n 0, 1) := by decide +kernel
theorem dX10_text_5 : decode cX10_text 5 = .ok (.getfield 288, 3) := by decide +kernel
theorem dX10_text_8 : decode cX10_text 8 = .ok (.iconst 1, 1) := by decide +kernel
theorem dX10_text_9 : decode cX10_text 9 = .ok (.isub, 1) := by decide +kernel
theorem dX10_text_10 : decode cX10_text 10 = .ok (.invokestatic 50, 3) := by decide +kernel
theorem dX10_text_13 : decode cX10_text 13 = .ok (.ifCond .ne 7, 3) := by decide +kernel
theorem dX10_text_16 : decode cX10_text 16 = .ok (.iconst 1, 1) := by decide +kernel
theorem dX10_text_17 : decode cX10_text 17 = .ok (.goto 4, 3) := by decide +kernel
theorem dX10_text_21 : decode cX10_text 21 = .ok (.invokevirtual 69, 3) := by decide +kernel
theorem dX10_text_24 : decode cX10_text 24 = .ok (.ifCond .eq 8, 3) := by decide +kernel
theorem dX10_text_27 : decode cX10_text 27 = .ok (.bipush 97, 2) := by decide +kernel
theorem dX10_text_29 : decode cX10_text 29 = .ok (.goto 9, 3) := by decide +kernel
theorem dX10_text_38 : decode cX10_text 38 = .ok (.ireturn, 1) := by decide +kernel
theorem dX10_undo_0 : decode cX10_undo 0 = .ok (.aload_n 0, 1) := by decide +kernel
theorem dX10_undo_1 : decode cX10_undo 1 = .ok (.iconst 1, 1) := by decide +kernel
theorem dX10_undo_2 : decode cX10_undo 2 = .ok (.aload_n 0, 1) := by decide +kernel
theorem dX10_undo_3 : decode cX10_undo 3 = .ok (.getfield 39, 3) := by decide +kernel
theorem dX10_undo_6 : decode cX10_undo 6 = .ok (.ifCond .ne 7, 3) := by decide +kernel
theorem dX10_undo_9 : decode cX10_undo 9 = .ok (.iconst 1, 1) := by decide +kernel
theorem dX10_undo_10 : decode cX10_undo 10 = .ok (.goto 4, 3) := by decide +kernel
theorem dX10_undo_14 : decode cX10_undo 14 = .ok (.invokevirtual 69, 3) := by decide +kernel
theorem dX10_undo_17 : decode cX10_undo 17 = .ok (.ifCond .eq 5, 3) := by decide +kernel
theorem dX10_undo_20 : decode cX10_undo 20 = .ok (.iconst 0, 1) := by decide +kernel
theorem dX10_undo_21 : decode cX10_undo 21 = .ok (.ireturn, 1) := by decide +kernel
theorem dX10_save_0 : decode cX10_save 0 = .ok (.aload_n 0, 1) := by decide +kernel
theorem dX10_save_1 : decode cX10_save 1 = .ok (.iconst 0, 1) := by decide +kernel
theorem dX10_save_2 : decode cX10_save 2 = .ok (.putfield 35, 3) := by decide +kernel
theorem dX10_save_5 : decode cX10_save 5 = .ok (.aload_n 0, 1) := by decide +kernel
theorem dX10_save_6 : decode cX10_save 6 = .ok (.iconst 1, 1) := by decide +kernel
theorem dX10_save_7 : decode cX10_save 7 = .ok (.putfield 300, 3) := by decide +kernel
theorem dX10_save_10 : decode cX10_save 10 = .ok (.aload_n 0, 1) := by decide +kernel
theorem dX10_save_11 : decode cX10_save 11 = .ok (.getfield 9, 3) := by decide +kernel
theorem dX10_save_14 : decode cX10_save 14 = .ok (.aload_n 0, 1) := by decide +kernel
theorem dX10_save_15 : decode cX10_save 15 = .ok (.getfield 13, 3) := by decide +kernel
theorem dX10_save_18 : decode cX10_save 18 = .ok (.invokestatic 42, 3) := by decide +kernel
theorem dX10_save_21 : decode cX10_save 21 = .ok (.aload_n 0, 1) := by decide +kernel
theorem dX10_save_22 : decode cX10_save 22 = .ok (.iconst 0, 1) := by decide +kernel
theorem dX10_save_23 : decode cX10_save 23 = .ok (.invokevirtual 119, 3) := by decide +kernel
theorem dX10_save_26 : decode cX10_save 26 = .ok (.iconst 1, 1) := by decide +kernel
theorem dX10_save_27 : decode cX10_save 27 = .ok (.iadd, 1) := by decide +kernel
theorem dX10_save_28 : decode cX10_save 28 = .ok (.ireturn, 1) := by decide +kernel
theorem dX10_restore_0 : decode cX10_restore 0 = .ok (.aload_n 0, 1) := by decide +kernel
theorem dX10_restore_1 : decode cX10_restore 1 = .ok (.iconst 1, 1) := by decide +kernel
theorem dX10_restore_2 : decode cX10_restore 2 = .ok (.aload_n 0, 1) := by decide +kernel
theorem dX10_restore_3 : decode cX10_restore 3 = .ok (.getfield 300, 3) := by decide +kernel
theorem dX10_restore_6 : decode cX10_restore 6 = .ok (.ifCond .ne 7, 3) := by decide +kernel
theorem dX10_restore_9 : decode cX10_restore 9 = .ok (.iconst 1, 1) := by decide +kernel
theorem dX10_restore_10 : decode cX10_restore 10 = .ok (.goto 4, 3) := by decide +kernel
theorem dX10_restore_14 : decode cX10_restore 14 = .ok (.invokevirtual 69, 3) := by decide +kernel
theorem dX10_restore_17 : decode cX10_restore 17 = .ok (.ifCond .eq 5, 3) := by decide +kernel
theorem dX10_restore_20 : decode cX10_restore 20 = .ok (.iconst 0, 1) := by decide +kernel
theorem dX10_restore_21 : decode cX10_restore 21 = .ok (.ireturn, 1) := by decide +kernel
theorem fq_114 (x0 : Int32) (h0 : ¬ ((0 ≤ x0 ∧ x0 ≤ 11))) : ((0 : Int32) = 0 ∧ ¬ ((0 ≤ x0 ∧ x0 ≤ 11))) := by first | decide | (simp only [fz_lt, fz_le, fz_eq, true_and, and_true, false_and, and_false, true_or, or_true, false_or, or_false, not_true_eq_false, not_false_eq_true, fl_m1, fl_0, fl_1, fl_2, fl_3, fl_4, fl_5, fl_6, fl_7, fl_8, fl_9, fl_10, fl_11, fl_20, fl_200, fl_5000, fl_9999] at *; omega) | (simp only [fz_lt, fz_le, fz_eq, true_and, and_true, false_and, and_false, true_or, or_true, false_or, or_false, not_true_eq_false, not_false_eq_true, fl_m1, fl_0, fl_1, fl_2, fl_3, fl_4, fl_5, fl_6, fl_7, fl_8, fl_9, fl_10, fl_11, fl_20, fl_200, fl_5000, fl_9999] at *; done) | omega
theorem fq_115 (x0 : Int32)  : ((0 : Int32) = 0 ∧ (((-1) : Int32) = (-1) ∨ ((-1) : Int32) = 2 ∨ (((0 : Int32) ≤ (-1) ∧ ((-1) : Int32) ≤ 1) ∧ (1 ≤ x0 ∧ x0 ≤ 5000)))) := by first | decide | (simp only [fz_lt, fz_le, fz_eq, true_and, and_true, false_and, and_false, true_or, or_true, false_or, or_false, not_true_eq_false, not_false_eq_true, fl_m1, fl_0, fl_1, fl_2, fl_3, fl_4, fl_5, fl_6, fl_7, fl_8, fl_9, fl_10, fl_11, fl_20, fl_200, fl_5000, fl_9999] at *; omega) | (simp only [fz_lt, fz_le, fz_eq, true_and, and_true, false_and, and_false, true_or, or_true, false_or, or_false, not_true_eq_false, not_false_eq_true, fl_m1, fl_0, fl_1, fl_2, fl_3, fl_4, fl_5, fl_6, fl_7, fl_8, fl_9, fl_10, fl_11, fl_20, fl_200, fl_5000, fl_9999] at *; done) | omega
theorem fq_116 (x0 : Int32) (h0 : x0 = 2) : x0 = 2 := by first | decide | (simp only [fz_lt, fz_le, fz_eq, true_and, and_true, false_and, and_false, true_or, or_true, false_or, or_false, not_true_eq_false, not_false_eq_true, fl_m1, fl_0, fl_1, fl_2, fl_3, fl_4, fl_5, fl_6, fl_7, fl_8, fl_9, fl_10, fl_11, fl_20, fl_200, fl_5000, fl_9999] at *; omega) | (simp only [fz_lt, fz_le, fz_eq, true_and, and_true, false_and, and_false, true_or, or_true, false_or, or_false, not_true_eq_false, not_false_eq_true, fl_m1, fl_0, fl_1, fl_2, fl_3, fl_4, fl_5, fl_6, fl_7, fl_8, fl_9, fl_10, fl_11, fl_20, fl_200, fl_5000, fl_9999] at *; done) | omega
theorem fq_117 (x0 : Int32)  : ((0 : Int32) = 0 ∧ ((2 : Int32) = (-1) ∨ (2 : Int32) = 2 ∨ (((0 : Int32) ≤ 2 ∧ (2 : Int32) ≤ 1) ∧ (1 ≤ x0 ∧ x0 ≤ 5000)))) := by first | decide | (simp only [fz_lt, fz_le, fz_eq, true_and, and_true, false_and, and_false, true_or, or_true, false_or, or_false, not_true_eq_false, not_false_eq_true, fl_m1, fl_0, fl_1, fl_2, fl_3, fl_4, fl_5, fl_6, fl_7, fl_8, fl_9, fl_10, fl_11, fl_20, fl_200, fl_5000, fl_9999] at *; omega) | (simp only [fz_lt, fz_le, fz_eq, true_and, and_true, false_and, and_false, true_or, or_true, false_or, or_false, not_true_eq_false, not_false_eq_true, fl_m1, fl_0, fl_1, fl_2, fl_3, fl_4, fl_5, fl_6, fl_7, fl_8, fl_9, fl_10, fl_11, fl_20, fl_200, fl_5000, fl_9999] at *; done) | omega
theorem fq_118 (x0 x1 : Int32) (h0 : (0 ≤ x0 ∧ x0 ≤ 1)) (h1 : (1 ≤ x1 ∧ x1 ≤ 5000)) : ((0 : Int32) = 0 ∧ (x0 = (-1) ∨ x0 = 2 ∨ ((0 ≤ x0 ∧ x0 ≤ 1) ∧ (1 ≤ x1 ∧ x1 ≤ 5000)))) := by first | decide | (simp only [fz_lt, fz_le, fz_eq, true_and, and_true, false_and, and_false, true_or, or_true, false_or, or_false, not_true_eq_false, not_false_eq_true, fl_m1, fl_0, fl_1, fl_2, fl_3, fl_4, fl_5, fl_6, fl_7, fl_8, fl_9, fl_10, fl_11, fl_20, fl_200, fl_5000, fl_9999] at *; omega) | (simp only [fz_lt, fz_le, fz_eq, true_and, and_true, false_and, and_false, true_or, or_true, false_or, or_false, not_true_eq_false, not_false_eq_true, fl_m1, fl_0, fl_1, fl_2, fl_3, fl_4, fl_5, fl_6, fl_7, fl_8, fl_9, fl_10, fl_11, fl_20, fl_200, fl_5000, fl_9999] at *; done) | omega
theorem fq_119 (x0 x1 : Int32) (h0 : (0 ≤ x0 ∧ x0 ≤ 1)) (h1 : ¬ ((1 ≤ x1 ∧ x1 ≤ 5000))) : ((0 : Int32) = 0 ∧ ¬ ((x0 = (-1) ∨ x0 = 2 ∨ ((0 ≤ x0 ∧ x0 ≤ 1) ∧ (1 ≤ x1 ∧ x1 ≤ 5000))))) := by first | decide | (simp only [fz_lt, fz_le, fz_eq, true_and, and_true, false_and, and_false, true_or, or_true, false_or, or_false, not_true_eq_false, not_false_eq_true, fl_m1, fl_0, fl_1, fl_2, fl_3, fl_4, fl_5, fl_6, fl_7, fl_8, fl_9, fl_10, fl_11, fl_20, fl_200, fl_5000, fl_9999] at *; omega) | (simp only [fz_lt, fz_le, fz_eq, true_and, and_true, false_and, and_false, true_or, or_true, false_or, or_false, not_true_eq_false, not_false_eq_true, fl_m1, fl_0, fl_1, fl_2, fl_3, fl_4, fl_5, fl_6, fl_7, fl_8, fl_9, fl_10, fl_11, fl_20, fl_200, fl_5000, fl_9999] at *; done) | omega
theorem fq_120 (x0 x1 : Int32) (h0 : ¬ (x0 = (-1))) (h1 : ¬ (x0 = 2)) (h2 : ¬ ((0 ≤ x0 ∧ x0 ≤ 1))) : ((0 : Int32) = 0 ∧ ¬ ((x0 = (-1) ∨ x0 = 2 ∨ ((0 ≤ x0 ∧ x0 ≤ 1) ∧ (1 ≤ x1 ∧ x1 ≤ 5000))))) := by first | decide | (simp only [fz_lt, fz_le, fz_eq, true_and, and_true, false_and, and_false, true_or, or_true, false_or, or_false, not_true_eq_false, not_false_eq_true, fl_m1, fl_0, fl_1, fl_2, fl_3, fl_4, fl_5, fl_6, fl_7, fl_8, fl_9, fl_10, fl_11, fl_20, fl_200, fl_5000, fl_9999] at *; omega) | (simp only [fz_lt, fz_le, fz_eq, true_and, and_true, false_and, and_false, true_or, or_true, false_or, or_false, not_true_eq_false, not_false_eq_true, fl_m1, fl_0, fl_1, fl_2, fl_3, fl_4, fl_5, fl_6, fl_7, fl_8, fl_9, fl_10, fl_11, fl_20, fl_200, fl_5000, fl_9999] at *; done) | omega
theorem fq_121 (x0 : Int32) (h0 : ¬ ((0 ≤ x0 ∧ x0 ≤ 2))) : ((0 : Int32) = 0 ∧ ¬ ((0 ≤ x0 ∧ x0 ≤ 2))) := by first | decide | (simp only [fz_lt, fz_le, fz_eq, true_and, and_true, false_and, and_false, true_or, or_true, false_or, or_false, not_true_eq_false, not_false_eq_true, fl_m1, fl_0, fl_1, fl_2, fl_3, fl_4, fl_5, fl_6, fl_7, fl_8, fl_9, fl_10, fl_11, fl_20, fl_200, fl_5000, fl_9999] at *; omega) | (simp only [fz_lt, fz_le, fz_eq, true_and, and_true, false_and, and_false, true_or, or_true, false_or, or_false, not_true_eq_false, not_false_eq_true, fl_m1, fl_0, fl_1, fl_2, fl_3, fl_4, fl_5, fl_6, fl_7, fl_8, fl_9, fl_10, fl_11, fl_20, fl_200, fl_5000, fl_9999] at *; done) | omega
theorem fq_122 (x0 : Int32) (h0 : (1 ≤ x0 ∧ x0 ≤ 6)) : (1 ≤ x0 ∧ x0 ≤ 6) := by first | decide | (simp only [fz_lt, fz_le, fz_eq, true_and, and_true, false_and, and_false, true_or, or_true, false_or, or_false, not_true_eq_false, not_false_eq_true, fl_m1, fl_0, fl_1, fl_2, fl_3, fl_4, fl_5, fl_6, fl_7, fl_8, fl_9, fl_10, fl_11, fl_20, fl_200, fl_5000, fl_9999] at *; omega) | (simp only [fz_lt, fz_le, fz_eq, true_and, and_true, false_and, and_false, true_or, or_true, false_or, or_false, not_true_eq_false, not_false_eq_true, fl_m1, fl_0, fl_1, fl_2, fl_3, fl_4, fl_5, fl_6, fl_7, fl_8, fl_9, fl_10, fl_11, fl_20, fl_200, fl_5000, fl_9999] at *; done) | omega
theorem fq_123 (x0 : Int32) (h0 : ¬ ((1 ≤ x0 ∧ x0 ≤ 6))) : ¬ ((1 ≤ x0 ∧ x0 ≤ 6)) := by first | decide | (simp only [fz_lt, fz_le, fz_eq, true_and, and_true, false_and, and_false, true_or, or_true, false_or, or_false, not_true_eq_false, not_false_eq_true, fl_m1, fl_0, fl_1, fl_2, fl_3, fl_4, fl_5, fl_6, fl_7, fl_8, fl_9, fl_10, fl_11, fl_20, fl_200, fl_5000, fl_9999] at *; omega) | (simp only [fz_lt, fz_le, fz_eq, true_and, and_true, false_and, and_false, true_or, or_true, false_or, or_false, not_true_eq_false, not_false_eq_true, fl_m1, fl_0, fl_1, fl_2, fl_3, fl_4, fl_5, fl_6, fl_7, fl_8, fl_9, fl_10, fl_11, fl_20, fl_200, fl_5000, fl_9999] at *; done) | omega
theorem fq_124 (x0 : Int32) (h0 : (0 ≤ x0 ∧ x0 ≤ 7)) : ((0 ≤ x0 ∧ x0 ≤ 7) ∧ (0 : Int32) = 0) := by first | decide | (simp only [fz_lt, fz_le, fz_eq, true_and, and_true, false_and, and_false, true_or, or_true, false_or, or_false, not_true_eq_false, not_false_eq_true, fl_m1, fl_0, fl_1, fl_2, fl_3, fl_4, fl_5, fl_6, fl_7, fl_8, fl_9, fl_10, fl_11, fl_20, fl_200, fl_5000, fl_9999] at *; omega) | (simp only [fz_lt, fz_le, fz_eq, true_and, and_true, false_and, and_false, true_or, or_true, false_or, or_false, not_true_eq_false, not_false_eq_true, fl_m1, fl_0, fl_1, fl_2, fl_3, fl_4, fl_5, fl_6, fl_7, fl_8, fl_9, fl_10, fl_11, fl_20, fl_200, fl_5000, fl_9999] at *; done) | omega
theorem fq_125 (x0 x1 : Int32) (h0 : ¬ ((0 ≤ x0 ∧ x0 ≤ 7))) : (¬ ((0 ≤ x0 ∧ x0 ≤ 7)) ∨ ¬ (x1 = 0)) := by first | decide | (simp only [fz_lt, fz_le, fz_eq, true_and, and_true, false_and, and_false, true_or, or_true, false_or, or_false, not_true_eq_false, not_false_eq_true, fl_m1, fl_0, fl_1, fl_2, fl_3, fl_4, fl_5, fl_6, fl_7, fl_8, fl_9, fl_10, fl_11, fl_20, fl_200, fl_5000, fl_9999] at *; omega) | (simp only [fz_lt, fz_le, fz_eq, true_and, and_true, false_and, and_false, true_or, or_true, false_or, or_false, not_true_eq_false, not_false_eq_true, fl_m1, fl_0, fl_1, fl_2, fl_3, fl_4, fl_5, fl_6, fl_7, fl_8, fl_9, fl_10, fl_11, fl_20, fl_200, fl_5000, fl_9999] at *; done) | omega
theorem fq_126 (x0 : Int32) (h0 : ¬ ((0 ≤ x0 ∧ x0 ≤ 9))) : ¬ ((0 ≤ x0 ∧ x0 ≤ 9)) := by first | decide | (simp only [fz_lt, fz_le, fz_eq, true_and, and_true, false_and, and_false, true_or, or_true, false_or, or_false, not_true_eq_false, not_false_eq_true, fl_m1, fl_0, fl_1, fl_2, fl_3, fl_4, fl_5, fl_6, fl_7, fl_8, fl_9, fl_10, fl_11, fl_20, fl_200, fl_5000, fl_9999] at *; omega) | (simp only [fz_lt, fz_le, fz_eq, true_and, and_true, false_and, and_false, true_or, or_true, false_or, or_false, not_true_eq_false, not_false_eq_true, fl_m1, fl_0, fl_1, fl_2, fl_3, fl_4, fl_5, fl_6, fl_7, fl_8, fl_9, fl_10, fl_11, fl_20, fl_200, fl_5000, fl_9999] at *; done) | omega
theorem fq_127 (x0 : Int32) (h0 : (0 ≤ x0 ∧ x0 ≤ 3)) (h1 : ¬ (x0 = 0)) (h2 : ¬ (x0 = 1)) (h3 : ¬ (x0 = 3)) : x0 = 2 := by first | decide | (simp only [fz_lt, fz_le, fz_eq, true_and, and_true, false_and, and_false, true_or, or_true, false_or, or_false, not_true_eq_false, not_false_eq_true, fl_m1, fl_0, fl_1, fl_2, fl_3, fl_4, fl_5, fl_6, fl_7, fl_8, fl_9, fl_10, fl_11, fl_20, fl_200, fl_5000, fl_9999] at *; omega) | (simp only [fz_lt, fz_le, fz_eq, true_and, and_true, false_and, and_false, true_or, or_true, false_or, or_false, not_true_eq_false, not_false_eq_true, fl_m1, fl_0, fl_1, fl_2, fl_3, fl_4, fl_5, fl_6, fl_7, fl_8, fl_9, fl_10, fl_11, fl_20, fl_200, fl_5000, fl_9999] at *; done) | omega
theorem fq_128 (x0 : Int32) (h0 : x0 = 3) : x0 = 3 := by first | decide | (simp only [fz_lt, fz_le, fz_eq, true_and, and_true, false_and, and_false, true_or, or_true, false_or, or_false, not_true_eq_false, not_false_eq_true, fl_m1, fl_0, fl_1, fl_2, fl_3, fl_4, fl_5, fl_6, fl_7, fl_8, fl_9, fl_10, fl_11, fl_20, fl_200, fl_5000, fl_9999] at *; omega) | (simp only [fz_lt, fz_le, fz_eq, true_and, and_true, false_and, and_false, true_or, or_true, false_or, or_false, not_true_eq_false, not_false_eq_true, fl_m1, fl_0, fl_1, fl_2, fl_3, fl_4, fl_5, fl_6, fl_7, fl_8, fl_9, fl_10, fl_11, fl_20, fl_200, fl_5000, fl_9999] at *; done) | omega
theorem fq_129 (x0 x1 : Int32) (h0 : ¬ ((0 ≤ x1 ∧ x1 ≤ 3))) : (¬ ((0 ≤ x0 ∧ x0 ≤ 9999)) ∨ ¬ ((0 ≤ x1 ∧ x1 ≤ 3))) := by first | decide | (simp only [fz_lt, fz_le, fz_eq, true_and, and_true, false_and, and_false, true_or, or_true, false_or, or_false, not_true_eq_false, not_false_eq_true, fl_m1, fl_0, fl_1, fl_2, fl_3, fl_4, fl_5, fl_6, fl_7, fl_8, fl_9, fl_10, fl_11, fl_20, fl_200, fl_5000, fl_9999] at *; omega) | (simp only [fz_lt, fz_le, fz_eq, true_and, and_true, false_and, and_false, true_or, or_true, false_or, or_false, not_true_eq_false, not_false_eq_true, fl_m1, fl_0, fl_1, fl_2, fl_3, fl_4, fl_5, fl_6, fl_7, fl_8, fl_9, fl_10, fl_11, fl_20, fl_200, fl_5000, fl_9999] at *; done) | omega
