theorem fm_462 : Cond.fieldLink RX10 9 "FindingAidModel" "now" "[I" ∈ fz_WA := fz_in (fz_tin 1569 (by decide +kernel)) (by decide +kernel)
theorem fm_463 : Cond.fieldLink RX10 35 "FindingAidModel" "thrown" "I" ∈ fz_WA := fz_in (fz_tin 1568 (by decide +kernel)) (by decide +kernel)
theorem fm_464 : Cond.fieldLink RX10 39 "FindingAidModel" "remembered" "I" ∈ fz_WA := fz_in (fz_tin 1573 (by decide +kernel)) (by decide +kernel)
theorem fm_465 : Cond.fieldLink RX10 21 "FindingAidModel" "history" "[[I" ∈ fz_WA := fz_in (fz_tin 1572 (by decide +kernel)) (by decide +kernel)
theorem fm_466 : Cond.code yX10_copyRow cX10_copyRow 3 none ∈ fz_WA := fz_in (fz_tin 1675 (by decide +kernel)) (by decide +kernel)
theorem fm_467 : Cond.methodLink RX10 42 yX10_copyRow ∈ fz_WA := fz_in (fz_tin 1673 (by decide +kernel)) (by decide +kernel)
theorem fm_468 : Cond.static yX10_copyRow ∈ fz_WA := fz_in (fz_tin 1674 (by decide +kernel)) (by decide +kernel)
theorem fm_469 : Cond.initialized RX10 ∈ fz_WA := fz_in (fz_tin 16 (by decide +kernel)) (by decide +kernel)
theorem fm_470 : Cond.code yX10_rememberRow cX10_rememberRow 3 none ∈ fz_WA := fz_in (fz_tin 1672 (by decide +kernel)) (by decide +kernel)
theorem fm_471 : Cond.methodLink RX10 46 yX10_rememberRow ∈ fz_WA := fz_in (fz_tin 1669 (by decide +kernel)) (by decide +kernel)
theorem fm_472 : Cond.instanceMethod yX10_rememberRow ∈ fz_WA := fz_in (fz_tin 1671 (by decide +kernel)) (by decide +kernel)
theorem fm_473 : Cond.selects RX10 yX10_rememberRow yX10_rememberRow ∈ fz_WA := fz_in (fz_sin 25 (by decide +kernel)) (by decide +kernel)
theorem fm_474 : Cond.code yX10_isBetween cX10_isBetween 3 (some .boolean) ∈ fz_WA := fz_in (fz_tin 1649 (by decide +kernel)) (by decide +kernel)
theorem fm_475 : Cond.methodLink RX10 50 yX10_isBetween ∈ fz_WA := fz_in (fz_tin 1647 (by decide +kernel)) (by decide +kernel)
theorem fm_476 : Cond.static yX10_isBetween ∈ fz_WA := fz_in (fz_tin 1648 (by decide +kernel)) (by decide +kernel)
theorem fm_477 : Cond.code yX10_of cX10_of 3 (some .int) ∈ fz_WA := fz_in (fz_tin 1653 (by decide +kernel)) (by decide +kernel)
theorem fm_478 : Cond.methodLink RX10 54 yX10_of ∈ fz_WA := fz_in (fz_tin 1650 (by decide +kernel)) (by decide +kernel)
theorem fm_479 : Cond.instanceMethod yX10_of ∈ fz_WA := fz_in (fz_tin 1652 (by decide +kernel)) (by decide +kernel)
theorem fm_480 : Cond.selects RX10 yX10_of yX10_of ∈ fz_WA := fz_in (fz_sin 21 (by decide +kernel)) (by decide +kernel)
theorem fm_481 : Cond.code yX10_isNode cX10_isNode 2 (some .boolean) ∈ fz_WA := fz_in (fz_tin 1646 (by decide +kernel)) (by decide +kernel)
theorem fm_482 : Cond.methodLink RX10 58 yX10_isNode ∈ fz_WA := fz_in (fz_tin 1643 (by decide +kernel)) (by decide +kernel)
theorem fm_483 : Cond.instanceMethod yX10_isNode ∈ fz_WA := fz_in (fz_tin 1645 (by decide +kernel)) (by decide +kernel)
theorem fm_484 : Cond.selects RX10 yX10_isNode yX10_isNode ∈ fz_WA := fz_in (fz_sin 20 (by decide +kernel)) (by decide +kernel)
theorem fm_485 : Cond.code yX10_set cX10_set 4 none ∈ fz_WA := fz_in (fz_tin 1567 (by decide +kernel)) (by decide +kernel)
theorem fm_486 : Cond.methodLink RX10 62 yX10_set ∈ fz_WA := fz_in (fz_tin 1564 (by decide +kernel)) (by decide +kernel)
theorem fm_487 : Cond.instanceMethod yX10_set ∈ fz_WA := fz_in (fz_tin 1566 (by decide +kernel)) (by decide +kernel)
theorem fm_488 : Cond.selects RX10 yX10_set yX10_set ∈ fz_WA := fz_in (fz_sin 19 (by decide +kernel)) (by decide +kernel)
theorem fm_489 : Cond.code yX10_isDay cX10_isDay 1 (some .boolean) ∈ fz_WA := fz_in (fz_tin 1664 (by decide +kernel)) (by decide +kernel)
theorem fm_490 : Cond.methodLink RX10 66 yX10_isDay ∈ fz_WA := fz_in (fz_tin 1662 (by decide +kernel)) (by decide +kernel)
theorem fm_491 : Cond.static yX10_isDay ∈ fz_WA := fz_in (fz_tin 1663 (by decide +kernel)) (by decide +kernel)
theorem fm_492 : Cond.code yX10_isWithin cX10_isWithin 4 (some .boolean) ∈ fz_WA := fz_in (fz_tin 1683 (by decide +kernel)) (by decide +kernel)
theorem fm_493 : Cond.methodLink RX10 96 yX10_isWithin ∈ fz_WA := fz_in (fz_tin 1680 (by decide +kernel)) (by decide +kernel)
theorem fm_494 : Cond.instanceMethod yX10_isWithin ∈ fz_WA := fz_in (fz_tin 1682 (by decide +kernel)) (by decide +kernel)
theorem fm_495 : Cond.selects RX10 yX10_isWithin yX10_isWithin ∈ fz_WA := fz_in (fz_sin 26 (by decide +kernel)) (by decide +kernel)
theorem fm_496 : Cond.code yX10_greater cX10_greater 2 (some .int) ∈ fz_WA := fz_in (fz_tin 1730 (by decide +kernel)) (by decide +kernel)
theorem fm_497 : Cond.methodLink RX10 103 yX10_greater ∈ fz_WA := fz_in (fz_tin 1728 (by decide +kernel)) (by decide +kernel)
theorem fm_498 : Cond.static yX10_greater ∈ fz_WA := fz_in (fz_tin 1729 (by decide +kernel)) (by decide +kernel)
theorem fm_499 : Cond.code yX10_nextChild cX10_nextChild 6 (some .int) ∈ fz_WA := fz_in (fz_tin 1738 (by decide +kernel)) (by decide +kernel)
theorem fm_500 : Cond.methodLink RX10 106 yX10_nextChild ∈ fz_WA := fz_in (fz_tin 1735 (by decide +kernel)) (by decide +kernel)
theorem fm_501 : Cond.instanceMethod yX10_nextChild ∈ fz_WA := fz_in (fz_tin 1737 (by decide +kernel)) (by decide +kernel)
theorem fm_502 : Cond.selects RX10 yX10_nextChild yX10_nextChild ∈ fz_WA := fz_in (fz_sin 37 (by decide +kernel)) (by decide +kernel)
theorem fm_503 : Cond.fieldLink RX10 128 "FindingAidModel" "term" "I" ∈ fz_WA := fz_in (fz_tin 1575 (by decide +kernel)) (by decide +kernel)
theorem fm_504 : Cond.fieldLink RX10 131 "FindingAidModel" "deciding" "I" ∈ fz_WA := fz_in (fz_tin 1576 (by decide +kernel)) (by decide +kernel)
theorem fm_505 : Cond.code yX10_findTerm cX10_findTerm 4 none ∈ fz_WA := fz_in (fz_tin 1778 (by decide +kernel)) (by decide +kernel)
theorem fm_506 : Cond.methodLink RX10 134 yX10_findTerm ∈ fz_WA := fz_in (fz_tin 1775 (by decide +kernel)) (by decide +kernel)
theorem fm_507 : Cond.instanceMethod yX10_findTerm ∈ fz_WA := fz_in (fz_tin 1777 (by decide +kernel)) (by decide +kernel)
theorem fm_508 : Cond.selects RX10 yX10_findTerm yX10_findTerm ∈ fz_WA := fz_in (fz_sin 43 (by decide +kernel)) (by decide +kernel)
theorem fm_509 : Cond.code yX10_latest cX10_latest 4 (some .int) ∈ fz_WA := fz_in (fz_tin 1727 (by decide +kernel)) (by decide +kernel)
theorem fm_510 : Cond.methodLink RX10 112 yX10_latest ∈ fz_WA := fz_in (fz_tin 1724 (by decide +kernel)) (by decide +kernel)
theorem fm_511 : Cond.instanceMethod yX10_latest ∈ fz_WA := fz_in (fz_tin 1726 (by decide +kernel)) (by decide +kernel)
theorem fm_512 : Cond.selects RX10 yX10_latest yX10_latest ∈ fz_WA := fz_in (fz_sin 35 (by decide +kernel)) (by decide +kernel)
theorem fm_513 : Cond.code yX10_lastClosed cX10_lastClosed 3 (some .int) ∈ fz_WA := fz_in (fz_tin 1774 (by decide +kernel)) (by decide +kernel)
theorem fm_514 : Cond.methodLink RX10 138 yX10_lastClosed ∈ fz_WA := fz_in (fz_tin 1771 (by decide +kernel)) (by decide +kernel)
theorem fm_515 : Cond.instanceMethod yX10_lastClosed ∈ fz_WA := fz_in (fz_tin 1773 (by decide +kernel)) (by decide +kernel)
theorem fm_516 : Cond.selects RX10 yX10_lastClosed yX10_lastClosed ∈ fz_WA := fz_in (fz_sin 42 (by decide +kernel)) (by decide +kernel)
theorem fm_517 : Cond.code yX10_countContainers cX10_countContainers 3 (some .int) ∈ fz_WA := fz_in (fz_tin 1836 (by decide +kernel)) (by decide +kernel)
theorem fm_518 : Cond.methodLink RX10 165 yX10_countContainers ∈ fz_WA := fz_in (fz_tin 1833 (by decide +kernel)) (by decide +kernel)
theorem fm_519 : Cond.instanceMethod yX10_countContainers ∈ fz_WA := fz_in (fz_tin 1835 (by decide +kernel)) (by decide +kernel)
theorem fm_520 : Cond.selects RX10 yX10_countContainers yX10_countContainers ∈ fz_WA := fz_in (fz_sin 50 (by decide +kernel)) (by decide +kernel)
theorem fm_521 : Cond.code yX10_setIn cX10_setIn 4 none ∈ fz_WA := fz_in (fz_tin 1699 (by decide +kernel)) (by decide +kernel)
theorem fm_522 : Cond.methodLink RX10 169 yX10_setIn ∈ fz_WA := fz_in (fz_tin 1696 (by decide +kernel)) (by decide +kernel)
theorem fm_523 : Cond.instanceMethod yX10_setIn ∈ fz_WA := fz_in (fz_tin 1698 (by decide +kernel)) (by decide +kernel)
theorem fm_524 : Cond.selects RX10 yX10_setIn yX10_setIn ∈ fz_WA := fz_in (fz_sin 30 (by decide +kernel)) (by decide +kernel)
theorem fm_525 : Cond.code yX10_countRequests cX10_countRequests 5 (some .int) ∈ fz_WA := fz_in (fz_tin 1900 (by decide +kernel)) (by decide +kernel)
theorem fm_526 : Cond.methodLink RX10 195 yX10_countRequests ∈ fz_WA := fz_in (fz_tin 1897 (by decide +kernel)) (by decide +kernel)
theorem fm_527 : Cond.instanceMethod yX10_countRequests ∈ fz_WA := fz_in (fz_tin 1899 (by decide +kernel)) (by decide +kernel)
theorem fm_528 : Cond.selects RX10 yX10_countRequests yX10_countRequests ∈ fz_WA := fz_in (fz_sin 57 (by decide +kernel)) (by decide +kernel)
theorem fm_529 : Cond.code yX10_isUnit cX10_isUnit 2 (some .boolean) ∈ fz_WA := fz_in (fz_tin 1814 (by decide +kernel)) (by decide +kernel)
theorem fm_530 : Cond.methodLink RX10 156 yX10_isUnit ∈ fz_WA := fz_in (fz_tin 1811 (by decide +kernel)) (by decide +kernel)
theorem fm_531 : Cond.instanceMethod yX10_isUnit ∈ fz_WA := fz_in (fz_tin 1813 (by decide +kernel)) (by decide +kernel)
theorem fm_532 : Cond.selects RX10 yX10_isUnit yX10_isUnit ∈ fz_WA := fz_in (fz_sin 48 (by decide +kernel)) (by decide +kernel)
theorem fm_533 : Cond.code yX10_countBits cX10_countBits 3 (some .int) ∈ fz_WA := fz_in (fz_tin 1821 (by decide +kernel)) (by decide +kernel)
theorem fm_534 : Cond.methodLink RX10 159 yX10_countBits ∈ fz_WA := fz_in (fz_tin 1819 (by decide +kernel)) (by decide +kernel)
theorem fm_535 : Cond.static yX10_countBits ∈ fz_WA := fz_in (fz_tin 1820 (by decide +kernel)) (by decide +kernel)
theorem fm_536 : Cond.fieldLink RX10 257 "FindingAidModel" "isWrong" "Z" ∈ fz_WA := fz_in (fz_tin 1586 (by decide +kernel)) (by decide +kernel)
theorem fm_537 : Cond.fieldLink RX10 261 "FindingAidModel" "at" "I" ∈ fz_WA := fz_in (fz_tin 1584 (by decide +kernel)) (by decide +kernel)
theorem fm_538 : Cond.fieldLink RX10 254 "FindingAidModel" "length" "I" ∈ fz_WA := fz_in (fz_tin 1583 (by decide +kernel)) (by decide +kernel)
theorem fm_539 : Cond.code yX10_seesDigit cX10_seesDigit 2 (some .boolean) ∈ fz_WA := fz_in (fz_tin 1991 (by decide +kernel)) (by decide +kernel)
theorem fm_540 : Cond.methodLink RX10 264 yX10_seesDigit ∈ fz_WA := fz_in (fz_tin 1988 (by decide +kernel)) (by decide +kernel)
theorem fm_541 : Cond.instanceMethod yX10_seesDigit ∈ fz_WA := fz_in (fz_tin 1990 (by decide +kernel)) (by decide +kernel)
theorem fm_542 : Cond.selects RX10 yX10_seesDigit yX10_seesDigit ∈ fz_WA := fz_in (fz_sin 70 (by decide +kernel)) (by decide +kernel)
theorem fm_543 : Cond.fieldLink RX10 28 "FindingAidModel" "text" "[C" ∈ fz_WA := fz_in (fz_tin 1588 (by decide +kernel)) (by decide +kernel)
theorem fm_544 : Cond.fieldLink RX10 288 "FindingAidModel" "textLength" "I" ∈ fz_WA := fz_in (fz_tin 1589 (by decide +kernel)) (by decide +kernel)
theorem fm_545 : Cond.code yX10_writeLetter cX10_writeLetter 2 none ∈ fz_WA := fz_in (fz_tin 2019 (by decide +kernel)) (by decide +kernel)
theorem fm_546 : Cond.methodLink RX10 294 yX10_writeLetter ∈ fz_WA := fz_in (fz_tin 2016 (by decide +kernel)) (by decide +kernel)
theorem fm_547 : Cond.instanceMethod yX10_writeLetter ∈ fz_WA := fz_in (fz_tin 2018 (by decide +kernel)) (by decide +kernel)
theorem fm_548 : Cond.selects RX10 yX10_writeLetter yX10_writeLetter ∈ fz_WA := fz_in (fz_sin 76 (by decide +kernel)) (by decide +kernel)
theorem fm_549 : Cond.code yX10_writeNumber cX10_writeNumber 2 none ∈ fz_WA := fz_in (fz_tin 2015 (by decide +kernel)) (by decide +kernel)
theorem fm_550 : Cond.methodLink RX10 291 yX10_writeNumber ∈ fz_WA := fz_in (fz_tin 2012 (by decide +kernel)) (by decide +kernel)
theorem fm_551 : Cond.instanceMethod yX10_writeNumber ∈ fz_WA := fz_in (fz_tin 2014 (by decide +kernel)) (by decide +kernel)
theorem fm_552 : Cond.selects RX10 yX10_writeNumber yX10_writeNumber ∈ fz_WA := fz_in (fz_sin 75 (by decide +kernel)) (by decide +kernel)
theorem dX10_set_0 : decode cX10_set 0 = .ok (.aload_n 0, 1) := by decide +kernel
theorem dX10_set_1 : decode cX10_set 1 = .ok (.getfield 9, 3) := by decide +kernel
theorem dX10_set_4 : decode cX10_set 4 = .ok (.bipush 7, 2) := by decide +kernel
theorem dX10_set_6 : decode cX10_set 6 = .ok (.iload_n 1, 1) := by decide +kernel
theorem dX10_set_7 : decode cX10_set 7 = .ok (.bipush 31, 2) := by decide +kernel
theorem dX10_set_9 : decode cX10_set 9 = .ok (.imul, 1) := by decide +kernel
theorem dX10_set_10 : decode cX10_set 10 = .ok (.iadd, 1) := by decide +kernel
theorem dX10_set_11 : decode cX10_set 11 = .ok (.iload_n 2, 1) := by decide +kernel
theorem dX10_set_12 : decode cX10_set 12 = .ok (.iadd, 1) := by decide +kernel
theorem dX10_set_13 : decode cX10_set 13 = .ok (.iload_n 3, 1) := by decide +kernel
theorem dX10_set_14 : decode cX10_set 14 = .ok (.iastore, 1) := by decide +kernel
theorem dX10_set_15 : decode cX10_set 15 = .ok (.return_, 1) := by decide +kernel
theorem dX10_copyRow_0 : decode cX10_copyRow 0 = .ok (.iconst 0, 1) := by decide +kernel
theorem dX10_copyRow_1 : decode cX10_copyRow 1 = .ok (.istore_n 2, 1) := by decide +kernel
theorem dX10_copyRow_2 : decode cX10_copyRow 2 = .ok (.iload_n 2, 1) := by decide +kernel
theorem dX10_copyRow_3 : decode cX10_copyRow 3 = .ok (.sipush 10535, 3) := by decide +kernel
theorem dX10_copyRow_6 : decode cX10_copyRow 6 = .ok (.if_icmp .ge 15, 3) := by decide +kernel
theorem dX10_copyRow_9 : decode cX10_copyRow 9 = .ok (.aload_n 1, 1) := by decide +kernel
theorem dX10_copyRow_10 : decode cX10_copyRow 10 = .ok (.iload_n 2, 1) := by decide +kernel
theorem dX10_copyRow_11 : decode cX10_copyRow 11 = .ok (.aload_n 0, 1) := by decide +kernel
theorem dX10_copyRow_12 : decode cX10_copyRow 12 = .ok (.iload_n 2, 1) := by decide +kernel
theorem dX10_copyRow_13 : decode cX10_copyRow 13 = .ok (.iaload, 1) := by decide +kernel
theorem dX10_copyRow_14 : decode cX10_copyRow 14 = .ok (.iastore, 1) := by decide +kernel
theorem dX10_copyRow_15 : decode cX10_copyRow 15 = .ok (.iinc 2 1, 3) := by decide +kernel
theorem dX10_copyRow_18 : decode cX10_copyRow 18 = .ok (.goto (-16), 3) := by decide +kernel
theorem dX10_copyRow_21 : decode cX10_copyRow 21 = .ok (.return_, 1) := by decide +kernel
theorem dX10_isBetween_0 : decode cX10_isBetween 0 = .ok (.iload_n 0, 1) := by decide +kernel
theorem dX10_isBetween_1 : decode cX10_isBetween 1 = .ok (.iload_n 1, 1) := by decide +kernel
theorem dX10_isBetween_2 : decode cX10_isBetween 2 = .ok (.if_icmp .lt 12, 3) := by decide +kernel
theorem dX10_isBetween_14 : decode cX10_isBetween 14 = .ok (.iconst 0, 1) := by decide +kernel
theorem dX10_isBetween_15 : decode cX10_isBetween 15 = .ok (.ireturn, 1) := by decide +kernel
theorem dX10_isBetween_5 : decode cX10_isBetween 5 = .ok (.iload_n 0, 1) := by decide +kernel
theorem dX10_isBetween_6 : decode cX10_isBetween 6 = .ok (.iload_n 2, 1) := by decide +kernel
theorem dX10_isBetween_7 : decode cX10_isBetween 7 = .ok (.if_icmp .gt 7, 3) := by decide +kernel
theorem dX10_isBetween_10 : decode cX10_isBetween 10 = .ok (.iconst 1, 1) := by decide +kernel
theorem dX10_isBetween_11 : decode cX10_isBetween 11 = .ok (.goto 4, 3) := by decide +kernel
theorem dX10_countBits_0 : decode cX10_countBits 0 = .ok (.iconst 0, 1) := by decide +kernel
theorem dX10_countBits_1 : decode cX10_countBits 1 = .ok (.istore_n 1, 1) := by decide +kernel
theorem dX10_countBits_2 : decode cX10_countBits 2 = .ok (.iload_n 0, 1) := by decide +kernel
theorem dX10_countBits_3 : decode cX10_countBits 3 = .ok (.istore_n 2, 1) := by decide +kernel
theorem dX10_countBits_4 : decode cX10_countBits 4 = .ok (.iload_n 2, 1) := by decide +kernel
theorem dX10_countBits_5 : decode cX10_countBits 5 = .ok (.ifCond .eq 15, 3) := by decide +kernel
theorem dX10_countBits_20 : decode cX10_countBits 20 = .ok (.iload_n 1, 1) := by decide +kernel
theorem dX10_countBits_21 : decode cX10_countBits 21 = .ok (.ireturn, 1) := by decide +kernel
theorem dX10_greater_0 : decode cX10_greater 0 = .ok (.iload_n 0, 1) := by decide +kernel
theorem dX10_greater_1 : decode cX10_greater 1 = .ok (.iload_n 1, 1) := by decide +kernel
theorem dX10_greater_2 : decode cX10_greater 2 = .ok (.if_icmp .le 7, 3) := by decide +kernel
theorem dX10_greater_9 : decode cX10_greater 9 = .ok (.iload_n 1, 1) := by decide +kernel
theorem dX10_greater_10 : decode cX10_greater 10 = .ok (.ireturn, 1) := by decide +kernel
theorem dX10_fails_0 : decode cX10_fails 0 = .ok (.aload_n 0, 1) := by decide +kernel
theorem dX10_fails_1 : decode cX10_fails 1 = .ok (.iload_n 2, 1) := by decide +kernel
theorem dX10_fails_2 : decode cX10_fails 2 = .ok (.ifCond .eq 7, 3) := by decide +kernel
theorem dX10_fails_5 : decode cX10_fails 5 = .ok (.iload_n 1, 1) := by decide +kernel
theorem dX10_fails_6 : decode cX10_fails 6 = .ok (.goto 4, 3) := by decide +kernel
theorem dX10_fails_10 : decode cX10_fails 10 = .ok (.putfield 35, 3) := by decide +kernel
theorem dX10_fails_13 : decode cX10_fails 13 = .ok (.iload_n 2, 1) := by decide +kernel
theorem dX10_fails_14 : decode cX10_fails 14 = .ok (.ireturn, 1) := by decide +kernel
theorem dX10_fails_9 : decode cX10_fails 9 = .ok (.iconst 0, 1) := by decide +kernel
theorem dX10_of_0 : decode cX10_of 0 = .ok (.aload_n 0, 1) := by decide +kernel
theorem dX10_of_1 : decode cX10_of 1 = .ok (.getfield 9, 3) := by decide +kernel
theorem dX10_of_4 : decode cX10_of 4 = .ok (.bipush 7, 2) := by decide +kernel
theorem dX10_of_6 : decode cX10_of 6 = .ok (.iload_n 1, 1) := by decide +kernel
theorem dX10_of_7 : decode cX10_of 7 = .ok (.bipush 31, 2) := by decide +kernel
theorem dX10_of_9 : decode cX10_of 9 = .ok (.imul, 1) := by decide +kernel
theorem dX10_of_10 : decode cX10_of 10 = .ok (.iadd, 1) := by decide +kernel
theorem dX10_of_11 : decode cX10_of 11 = .ok (.iload_n 2, 1) := by decide +kernel
theorem dX10_of_12 : decode cX10_of 12 = .ok (.iadd, 1) := by decide +kernel
theorem dX10_of_13 : decode cX10_of 13 = .ok (.iaload, 1) := by decide +kernel
theorem dX10_of_14 : decode cX10_of 14 = .ok (.ireturn, 1) := by decide +kernel
theorem dX10_rememberRow_0 : decode cX10_rememberRow 0 = .ok (.aload_n 0, 1) := by decide +kernel
theorem dX10_rememberRow_1 : decode cX10_rememberRow 1 = .ok (.getfield 39, 3) := by decide +kernel
theorem dX10_rememberRow_4 : decode cX10_rememberRow 4 = .ok (.bipush 8, 2) := by decide +kernel
theorem dX10_rememberRow_6 : decode cX10_rememberRow 6 = .ok (.if_icmp .ne 46, 3) := by decide +kernel
theorem dX10_rememberRow_52 : decode cX10_rememberRow 52 = .ok (.aload_n 1, 1) := by decide +kernel
theorem dX10_rememberRow_53 : decode cX10_rememberRow 53 = .ok (.aload_n 0, 1) := by decide +kernel
theorem dX10_rememberRow_54 : decode cX10_rememberRow 54 = .ok (.getfield 21, 3) := by decide +kernel
theorem dX10_rememberRow_57 : decode cX10_rememberRow 57 = .ok (.aload_n 0, 1) := by decide +kernel
theorem dX10_rememberRow_58 : decode cX10_rememberRow 58 = .ok (.getfield 39, 3) := by decide +kernel
theorem dX10_rememberRow_61 : decode cX10_rememberRow 61 = .ok (.aaload, 1) := by decide +kernel
theorem dX10_rememberRow_62 : decode cX10_rememberRow 62 = .ok (.invokestatic 42, 3) := by decide +kernel
theorem dX10_rememberRow_65 : decode cX10_rememberRow 65 = .ok (.aload_n 0, 1) := by decide +kernel
theorem dX10_rememberRow_66 : decode cX10_rememberRow 66 = .ok (.dup, 1) := by decide +kernel
theorem dX10_rememberRow_67 : decode cX10_rememberRow 67 = .ok (.getfield 39, 3) := by decide +kernel
theorem dX10_rememberRow_70 : decode cX10_rememberRow 70 = .ok (.iconst 1, 1) := by decide +kernel
theorem dX10_rememberRow_71 : decode cX10_rememberRow 71 = .ok (.iadd, 1) := by decide +kernel
theorem dX10_rememberRow_72 : decode cX10_rememberRow 72 = .ok (.putfield 39, 3) := by decide +kernel
theorem dX10_rememberRow_75 : decode cX10_rememberRow 75 = .ok (.return_, 1) := by decide +kernel
theorem dX10_remember_0 : decode cX10_remember 0 = .ok (.aload_n 0, 1) := by decide +kernel
theorem dX10_remember_1 : decode cX10_remember 1 = .ok (.aload_n 0, 1) := by decide +kernel
theorem dX10_remember_2 : decode cX10_remember 2 = .ok (.getfield 9, 3) := by decide +kernel
theorem dX10_remember_5 : decode cX10_remember 5 = .ok (.invokevirtual 46, 3) := by decide +kernel
theorem dX10_remember_8 : decode cX10_remember 8 = .ok (.return_, 1) := by decide +kernel
theorem dX10_isNode_0 : decode cX10_isNode 0 = .ok (.iload_n 1, 1) := by decide +kernel
theorem dX10_isNode_1 : decode cX10_isNode 1 = .ok (.iconst 0, 1) := by decide +kernel
theorem dX10_isNode_2 : decode cX10_isNode 2 = .ok (.aload_n 0, 1) := by decide +kernel
theorem dX10_isNode_3 : decode cX10_isNode 3 = .ok (.getfield 9, 3) := by decide +kernel
theorem dX10_isNode_6 : decode cX10_isNode 6 = .ok (.iconst 0, 1) := by decide +kernel
theorem dX10_isNode_7 : decode cX10_isNode 7 = .ok (.iaload, 1) := by decide +kernel
theorem dX10_isNode_8 : decode cX10_isNode 8 = .ok (.iconst 1, 1) := by decide +kernel
theorem dX10_isNode_9 : decode cX10_isNode 9 = .ok (.isub, 1) := by decide +kernel
theorem dX10_isNode_10 : decode cX10_isNode 10 = .ok (.invokestatic 50, 3) := by decide +kernel
theorem dX10_isNode_13 : decode cX10_isNode 13 = .ok (.ifCond .eq 17, 3) := by decide +kernel
theorem dX10_isNode_16 : decode cX10_isNode 16 = .ok (.aload_n 0, 1) := by decide +kernel
theorem dX10_isNode_17 : decode cX10_isNode 17 = .ok (.iload_n 1, 1) := by decide +kernel
theorem dX10_isNode_18 : decode cX10_isNode 18 = .ok (.iconst 0, 1) := by decide +kernel
theorem dX10_isNode_19 : decode cX10_isNode 19 = .ok (.invokevirtual 54, 3) := by decide +kernel
theorem dX10_isNode_22 : decode cX10_isNode 22 = .ok (.iconst 1, 1) := by decide +kernel
theorem dX10_isNode_23 : decode cX10_isNode 23 = .ok (.if_icmp .ne 7, 3) := by decide +kernel
theorem dX10_isNode_26 : decode cX10_isNode 26 = .ok (.iconst 1, 1) := by decide +kernel
theorem dX10_isNode_27 : decode cX10_isNode 27 = .ok (.goto 4, 3) := by decide +kernel
theorem dX10_isNode_31 : decode cX10_isNode 31 = .ok (.ireturn, 1) := by decide +kernel
theorem dX10_isNode_30 : decode cX10_isNode 30 = .ok (.iconst 0, 1) := by decide +kernel
theorem dX10_isUnit_0 : decode cX10_isUnit 0 = .ok (.aload_n 0, 1) := by decide +kernel
theorem dX10_isUnit_1 : decode cX10_isUnit 1 = .ok (.iload_n 1, 1) := by decide +kernel
theorem dX10_isUnit_2 : decode cX10_isUnit 2 = .ok (.invokevirtual 58, 3) := by decide +kernel
theorem dX10_isUnit_5 : decode cX10_isUnit 5 = .ok (.ifCond .eq 16, 3) := by decide +kernel
theorem dX10_isUnit_8 : decode cX10_isUnit 8 = .ok (.aload_n 0, 1) := by decide +kernel
theorem dX10_isUnit_9 : decode cX10_isUnit 9 = .ok (.iload_n 1, 1) := by decide +kernel
theorem dX10_isUnit_10 : decode cX10_isUnit 10 = .ok (.iconst 3, 1) := by decide +kernel
theorem dX10_isUnit_11 : decode cX10_isUnit 11 = .ok (.invokevirtual 54, 3) := by decide +kernel
theorem dX10_isUnit_14 : decode cX10_isUnit 14 = .ok (.ifCond .le 7, 3) := by decide +kernel
theorem dX10_isUnit_21 : decode cX10_isUnit 21 = .ok (.iconst 0, 1) := by decide +kernel
theorem dX10_isUnit_22 : decode cX10_isUnit 22 = .ok (.ireturn, 1) := by decide +kernel
theorem dX10_makeNode_0 : decode cX10_makeNode 0 = .ok (.aload_n 0, 1) := by decide +kernel
theorem dX10_makeNode_1 : decode cX10_makeNode 1 = .ok (.getfield 9, 3) := by decide +kernel
theorem dX10_makeNode_4 : decode cX10_makeNode 4 = .ok (.iconst 0, 1) := by decide +kernel
theorem dX10_makeNode_5 : decode cX10_makeNode 5 = .ok (.iaload, 1) := by decide +kernel
theorem dX10_makeNode_6 : decode cX10_makeNode 6 = .ok (.istore 6, 2) := by decide +kernel
theorem dX10_makeNode_8 : decode cX10_makeNode 8 = .ok (.iconst 0, 1) := by decide +kernel
theorem dX10_makeNode_9 : decode cX10_makeNode 9 = .ok (.istore 7, 2) := by decide +kernel
theorem dX10_makeNode_11 : decode cX10_makeNode 11 = .ok (.iload 7, 2) := by decide +kernel
theorem dX10_makeNode_33 : decode cX10_makeNode 33 = .ok (.aload_n 0, 1) := by decide +kernel
theorem dX10_makeNode_34 : decode cX10_makeNode 34 = .ok (.iload 6, 2) := by decide +kernel
theorem dX10_makeNode_36 : decode cX10_makeNode 36 = .ok (.iconst 0, 1) := by decide +kernel
theorem dX10_makeNode_37 : decode cX10_makeNode 37 = .ok (.iconst 1, 1) := by decide +kernel
theorem dX10_makeNode_38 : decode cX10_makeNode 38 = .ok (.invokevirtual 62, 3) := by decide +kernel
theorem dX10_makeNode_41 : decode cX10_makeNode 41 = .ok (.aload_n 0, 1) := by decide +kernel
theorem dX10_makeNode_42 : decode cX10_makeNode 42 = .ok (.iload 6, 2) := by decide +kernel
theorem dX10_makeNode_44 : decode cX10_makeNode 44 = .ok (.iconst 1, 1) := by decide +kernel
theorem dX10_makeNode_45 : decode cX10_makeNode 45 = .ok (.iload_n 2, 1) := by decide +kernel
theorem dX10_makeNode_46 : decode cX10_makeNode 46 = .ok (.invokevirtual 62, 3) := by decide +kernel
theorem dX10_makeNode_49 : decode cX10_makeNode 49 = .ok (.aload_n 0, 1) := by decide +kernel
theorem dX10_makeNode_50 : decode cX10_makeNode 50 = .ok (.iload 6, 2) := by decide +kernel
theorem dX10_makeNode_52 : decode cX10_makeNode 52 = .ok (.iconst 2, 1) := by decide +kernel
theorem dX10_makeNode_53 : decode cX10_makeNode 53 = .ok (.iload_n 1, 1) := by decide +kernel
theorem dX10_makeNode_54 : decode cX10_makeNode 54 = .ok (.invokevirtual 62, 3) := by decide +kernel
theorem dX10_makeNode_57 : decode cX10_makeNode 57 = .ok (.aload_n 0, 1) := by decide +kernel
theorem dX10_makeNode_58 : decode cX10_makeNode 58 = .ok (.iload 6, 2) := by decide +kernel
theorem dX10_makeNode_60 : decode cX10_makeNode 60 = .ok (.iconst 3, 1) := by decide +kernel
theorem dX10_makeNode_61 : decode cX10_makeNode 61 = .ok (.iload_n 3, 1) := by decide +kernel
theorem dX10_makeNode_62 : decode cX10_makeNode 62 = .ok (.invokevirtual 62, 3) := by decide +kernel
theorem dX10_makeNode_65 : decode cX10_makeNode 65 = .ok (.aload_n 0, 1) := by decide +kernel
theorem dX10_makeNode_66 : decode cX10_makeNode 66 = .ok (.iload 6, 2) := by decide +kernel
theorem dX10_makeNode_68 : decode cX10_makeNode 68 = .ok (.iconst 4, 1) := by decide +kernel
theorem dX10_makeNode_69 : decode cX10_makeNode 69 = .ok (.iload 4, 2) := by decide +kernel
theorem dX10_makeNode_71 : decode cX10_makeNode 71 = .ok (.invokevirtual 62, 3) := by decide +kernel
theorem dX10_makeNode_74 : decode cX10_makeNode 74 = .ok (.aload_n 0, 1) := by decide +kernel
theorem dX10_makeNode_75 : decode cX10_makeNode 75 = .ok (.iload 6, 2) := by decide +kernel
theorem dX10_makeNode_77 : decode cX10_makeNode 77 = .ok (.iconst 5, 1) := by decide +kernel
theorem dX10_makeNode_78 : decode cX10_makeNode 78 = .ok (.iload 4, 2) := by decide +kernel
theorem dX10_makeNode_80 : decode cX10_makeNode 80 = .ok (.ifCond .ge 7, 3) := by decide +kernel
theorem dX10_makeNode_87 : decode cX10_makeNode 87 = .ok (.iload 5, 2) := by decide +kernel
theorem dX10_makeNode_89 : decode cX10_makeNode 89 = .ok (.invokevirtual 62, 3) := by decide +kernel
theorem dX10_makeNode_92 : decode cX10_makeNode 92 = .ok (.aload_n 0, 1) := by decide +kernel
theorem dX10_makeNode_93 : decode cX10_makeNode 93 = .ok (.iload 6, 2) := by decide +kernel
theorem dX10_makeNode_95 : decode cX10_makeNode 95 = .ok (.bipush 6, 2) := by decide +kernel
theorem dX10_makeNode_97 : decode cX10_makeNode 97 = .ok (.iconst (-1), 1) := by decide +kernel
theorem dX10_makeNode_98 : decode cX10_makeNode 98 = .ok (.invokevirtual 62, 3) := by decide +kernel
theorem dX10_makeNode_101 : decode cX10_makeNode 101 = .ok (.aload_n 0, 1) := by decide +kernel
theorem dX10_makeNode_102 : decode cX10_makeNode 102 = .ok (.iload 6, 2) := by decide +kernel
theorem dX10_makeNode_104 : decode cX10_makeNode 104 = .ok (.bipush 8, 2) := by decide +kernel
theorem dX10_makeNode_106 : decode cX10_makeNode 106 = .ok (.iconst (-1), 1) := by decide +kernel
theorem dX10_makeNode_107 : decode cX10_makeNode 107 = .ok (.invokevirtual 62, 3) := by decide +kernel
theorem dX10_makeNode_110 : decode cX10_makeNode 110 = .ok (.aload_n 0, 1) := by decide +kernel
theorem dX10_makeNode_111 : decode cX10_makeNode 111 = .ok (.iload 6, 2) := by decide +kernel
theorem dX10_makeNode_113 : decode cX10_makeNode 113 = .ok (.bipush 9, 2) := by decide +kernel
theorem dX10_makeNode_115 : decode cX10_makeNode 115 = .ok (.iconst (-1), 1) := by decide +kernel
theorem dX10_makeNode_116 : decode cX10_makeNode 116 = .ok (.invokevirtual 62, 3) := by decide +kernel
theorem dX10_makeNode_119 : decode cX10_makeNode 119 = .ok (.aload_n 0, 1) := by decide +kernel
theorem dX10_makeNode_120 : decode cX10_makeNode 120 = .ok (.iload 6, 2) := by decide +kernel
theorem dX10_makeNode_122 : decode cX10_makeNode 122 = .ok (.bipush 10, 2) := by decide +kernel
theorem dX10_makeNode_124 : decode cX10_makeNode 124 = .ok (.aload_n 0, 1) := by decide +kernel
theorem dX10_makeNode_125 : decode cX10_makeNode 125 = .ok (.getfield 9, 3) := by decide +kernel
theorem dX10_makeNode_128 : decode cX10_makeNode 128 = .ok (.iconst 1, 1) := by decide +kernel
theorem dX10_makeNode_129 : decode cX10_makeNode 129 = .ok (.iaload, 1) := by decide +kernel
theorem dX10_makeNode_130 : decode cX10_makeNode 130 = .ok (.invokevirtual 62, 3) := by decide +kernel
theorem dX10_makeNode_133 : decode cX10_makeNode 133 = .ok (.aload_n 0, 1) := by decide +kernel
theorem dX10_makeNode_134 : decode cX10_makeNode 134 = .ok (.getfield 9, 3) := by decide +kernel
theorem dX10_makeNode_137 : decode cX10_makeNode 137 = .ok (.iconst 0, 1) := by decide +kernel
theorem dX10_makeNode_138 : decode cX10_makeNode 138 = .ok (.dup2, 1) := by decide +kernel
theorem dX10_makeNode_139 : decode cX10_makeNode 139 = .ok (.iaload, 1) := by decide +kernel
theorem dX10_makeNode_140 : decode cX10_makeNode 140 = .ok (.iconst 1, 1) := by decide +kernel
theorem dX10_makeNode_141 : decode cX10_makeNode 141 = .ok (.iadd, 1) := by decide +kernel
theorem dX10_makeNode_142 : decode cX10_makeNode 142 = .ok (.iastore, 1) := by decide +kernel
theorem dX10_makeNode_143 : decode cX10_makeNode 143 = .ok (.aload_n 0, 1) := by decide +kernel
theorem dX10_makeNode_144 : decode cX10_makeNode 144 = .ok (.getfield 9, 3) := by decide +kernel
theorem dX10_makeNode_147 : decode cX10_makeNode 147 = .ok (.iconst 1, 1) := by decide +kernel
theorem dX10_makeNode_148 : decode cX10_makeNode 148 = .ok (.dup2, 1) := by decide +kernel
theorem dX10_makeNode_149 : decode cX10_makeNode 149 = .ok (.iaload, 1) := by decide +kernel
theorem dX10_makeNode_150 : decode cX10_makeNode 150 = .ok (.iconst 1, 1) := by decide +kernel
theorem dX10_makeNode_151 : decode cX10_makeNode 151 = .ok (.iadd, 1) := by decide +kernel
theorem dX10_makeNode_152 : decode cX10_makeNode 152 = .ok (.iastore, 1) := by decide +kernel
theorem dX10_makeNode_153 : decode cX10_makeNode 153 = .ok (.iload 6, 2) := by decide +kernel
theorem dX10_makeNode_155 : decode cX10_makeNode 155 = .ok (.ireturn, 1) := by decide +kernel
theorem dX10_makeNode_83 : decode cX10_makeNode 83 = .ok (.iconst (-1), 1) := by decide +kernel
theorem dX10_makeNode_84 : decode cX10_makeNode 84 = .ok (.goto 5, 3) := by decide +kernel
theorem dX10_makeNode_13 : decode cX10_makeNode 13 = .ok (.bipush 31, 2) := by decide +kernel
theorem dX10_makeNode_15 : decode cX10_makeNode 15 = .ok (.if_icmp .ge 18, 3) := by decide +kernel
theorem dX10_makeNode_18 : decode cX10_makeNode 18 = .ok (.aload_n 0, 1) := by decide +kernel
theorem dX10_makeNode_19 : decode cX10_makeNode 19 = .ok (.iload 6, 2) := by decide +kernel
theorem dX10_makeNode_21 : decode cX10_makeNode 21 = .ok (.iload 7, 2) := by decide +kernel
theorem dX10_makeNode_23 : decode cX10_makeNode 23 = .ok (.iconst 0, 1) := by decide +kernel
theorem dX10_makeNode_24 : decode cX10_makeNode 24 = .ok (.invokevirtual 62, 3) := by decide +kernel
theorem dX10_makeNode_27 : decode cX10_makeNode 27 = .ok (.iinc 7 1, 3) := by decide +kernel
theorem dX10_makeNode_30 : decode cX10_makeNode 30 = .ok (.goto (-19), 3) := by decide +kernel
theorem dX10_isDay_0 : decode cX10_isDay 0 = .ok (.iload_n 0, 1) := by decide +kernel
theorem dX10_isDay_1 : decode cX10_isDay 1 = .ok (.iconst 0, 1) := by decide +kernel
theorem dX10_isDay_2 : decode cX10_isDay 2 = .ok (.sipush 9999, 3) := by decide +kernel
theorem dX10_isDay_5 : decode cX10_isDay 5 = .ok (.invokestatic 50, 3) := by decide +kernel
theorem dX10_isDay_8 : decode cX10_isDay 8 = .ok (.ireturn, 1) := by decide +kernel
theorem dX10_isGood_0 : decode cX10_isGood 0 = .ok (.iload 4, 2) := by decide +kernel
theorem dX10_isGood_2 : decode cX10_isGood 2 = .ok (.iconst (-1), 1) := by decide +kernel
theorem dX10_isGood_3 : decode cX10_isGood 3 = .ok (.if_icmp .eq 26, 3) := by decide +kernel
theorem dX10_isGood_29 : decode cX10_isGood 29 = .ok (.iconst 1, 1) := by decide +kernel
theorem dX10_isGood_30 : decode cX10_isGood 30 = .ok (.goto 4, 3) := by decide +kernel
theorem dX10_isGood_34 : decode cX10_isGood 34 = .ok (.istore 6, 2) := by decide +kernel
theorem dX10_isGood_36 : decode cX10_isGood 36 = .ok (.iload_n 2, 1) := by decide +kernel
theorem dX10_isGood_37 : decode cX10_isGood 37 = .ok (.iconst 1, 1) := by decide +kernel
theorem dX10_isGood_38 : decode cX10_isGood 38 = .ok (.iconst 3, 1) := by decide +kernel
theorem dX10_isGood_39 : decode cX10_isGood 39 = .ok (.invokestatic 50, 3) := by decide +kernel
theorem dX10_isGood_42 : decode cX10_isGood 42 = .ok (.ifCond .eq 41, 3) := by decide +kernel
theorem dX10_isGood_45 : decode cX10_isGood 45 = .ok (.iload_n 2, 1) := by decide +kernel
theorem dX10_isGood_46 : decode cX10_isGood 46 = .ok (.aload_n 0, 1) := by decide +kernel
theorem dX10_isGood_47 : decode cX10_isGood 47 = .ok (.iload_n 1, 1) := by decide +kernel
theorem dX10_isGood_48 : decode cX10_isGood 48 = .ok (.iconst 1, 1) := by decide +kernel
theorem dX10_isGood_49 : decode cX10_isGood 49 = .ok (.invokevirtual 54, 3) := by decide +kernel
theorem dX10_isGood_52 : decode cX10_isGood 52 = .ok (.if_icmp .le 31, 3) := by decide +kernel
theorem dX10_isGood_55 : decode cX10_isGood 55 = .ok (.iload_n 3, 1) := by decide +kernel
theorem dX10_isGood_56 : decode cX10_isGood 56 = .ok (.iconst 0, 1) := by decide +kernel
theorem dX10_isGood_57 : decode cX10_isGood 57 = .ok (.iload_n 2, 1) := by decide +kernel
theorem dX10_isGood_58 : decode cX10_isGood 58 = .ok (.iconst 1, 1) := by decide +kernel
theorem dX10_isGood_59 : decode cX10_isGood 59 = .ok (.if_icmp .ne 7, 3) := by decide +kernel
theorem dX10_isGood_66 : decode cX10_isGood 66 = .ok (.bipush 20, 2) := by decide +kernel
theorem dX10_isGood_68 : decode cX10_isGood 68 = .ok (.invokestatic 50, 3) := by decide +kernel
theorem dX10_isGood_71 : decode cX10_isGood 71 = .ok (.ifCond .eq 12, 3) := by decide +kernel
theorem dX10_isGood_74 : decode cX10_isGood 74 = .ok (.iload 6, 2) := by decide +kernel
theorem dX10_isGood_76 : decode cX10_isGood 76 = .ok (.ifCond .eq 7, 3) := by decide +kernel
theorem dX10_isGood_79 : decode cX10_isGood 79 = .ok (.iconst 1, 1) := by decide +kernel
theorem dX10_isGood_80 : decode cX10_isGood 80 = .ok (.goto 4, 3) := by decide +kernel
theorem dX10_isGood_84 : decode cX10_isGood 84 = .ok (.ireturn, 1) := by decide +kernel
theorem dX10_isGood_83 : decode cX10_isGood 83 = .ok (.iconst 0, 1) := by decide +kernel
theorem dX10_isGood_62 : decode cX10_isGood 62 = .ok (.iconst 0, 1) := by decide +kernel
theorem dX10_isGood_63 : decode cX10_isGood 63 = .ok (.goto 5, 3) := by decide +kernel
theorem dX10_isGood_6 : decode cX10_isGood 6 = .ok (.iload 4, 2) := by decide +kernel
theorem dX10_isGood_8 : decode cX10_isGood 8 = .ok (.invokestatic 66, 3) := by decide +kernel
theorem dX10_isGood_11 : decode cX10_isGood 11 = .ok (.ifCond .eq 22, 3) := by decide +kernel
theorem dX10_isGood_14 : decode cX10_isGood 14 = .ok (.iload 5, 2) := by decide +kernel
theorem dX10_isGood_16 : decode cX10_isGood 16 = .ok (.invokestatic 66, 3) := by decide +kernel
theorem dX10_isGood_19 : decode cX10_isGood 19 = .ok (.ifCond .eq 14, 3) := by decide +kernel
theorem dX10_isGood_22 : decode cX10_isGood 22 = .ok (.iload 4, 2) := by decide +kernel
theorem dX10_isGood_24 : decode cX10_isGood 24 = .ok (.iload 5, 2) := by decide +kernel
theorem dX10_isGood_26 : decode cX10_isGood 26 = .ok (.if_icmp .gt 7, 3) := by decide +kernel
theorem dX10_isGood_33 : decode cX10_isGood 33 = .ok (.iconst 0, 1) := by decide +kernel
theorem dX10_isWithin_0 : decode cX10_isWithin 0 = .ok (.iload_n 1, 1) := by decide +kernel
theorem dX10_isWithin_1 : decode cX10_isWithin 1 = .ok (.istore_n 3, 1) := by decide +kernel
theorem dX10_isWithin_2 : decode cX10_isWithin 2 = .ok (.iload_n 3, 1) := by decide +kernel
theorem dX10_isWithin_3 : decode cX10_isWithin 3 = .ok (.ifCond .lt 18, 3) := by decide +kernel
theorem dX10_isWithin_6 : decode cX10_isWithin 6 = .ok (.iload_n 3, 1) := by decide +kernel
theorem dX10_isWithin_7 : decode cX10_isWithin 7 = .ok (.iload_n 2, 1) := by decide +kernel
theorem dX10_isWithin_8 : decode cX10_isWithin 8 = .ok (.if_icmp .eq 13, 3) := by decide +kernel
theorem dX10_isWithin_21 : decode cX10_isWithin 21 = .ok (.iload_n 3, 1) := by decide +kernel
theorem dX10_isWithin_22 : decode cX10_isWithin 22 = .ok (.iload_n 2, 1) := by decide +kernel
theorem dX10_isWithin_23 : decode cX10_isWithin 23 = .ok (.if_icmp .ne 7, 3) := by decide +kernel
theorem dX10_isWithin_26 : decode cX10_isWithin 26 = .ok (.iconst 1, 1) := by decide +kernel
theorem dX10_isWithin_27 : decode cX10_isWithin 27 = .ok (.goto 4, 3) := by decide +kernel
theorem dX10_isWithin_31 : decode cX10_isWithin 31 = .ok (.ireturn, 1) := by decide +kernel
theorem dX10_latest_0 : decode cX10_latest 0 = .ok (.iconst (-1), 1) := by decide +kernel
theorem dX10_latest_1 : decode cX10_latest 1 = .ok (.istore_n 2, 1) := by decide +kernel
theorem dX10_latest_2 : decode cX10_latest 2 = .ok (.iconst 0, 1) := by decide +kernel
theorem dX10_latest_3 : decode cX10_latest 3 = .ok (.istore_n 3, 1) := by decide +kernel
theorem dX10_latest_4 : decode cX10_latest 4 = .ok (.iload_n 3, 1) := by decide +kernel
theorem dX10_latest_5 : decode cX10_latest 5 = .ok (.aload_n 0, 1) := by decide +kernel
theorem dX10_latest_6 : decode cX10_latest 6 = .ok (.getfield 9, 3) := by decide +kernel
theorem dX10_latest_9 : decode cX10_latest 9 = .ok (.iconst 0, 1) := by decide +kernel
theorem dX10_latest_10 : decode cX10_latest 10 = .ok (.iaload, 1) := by decide +kernel
theorem dX10_latest_11 : decode cX10_latest 11 = .ok (.if_icmp .ge 41, 3) := by decide +kernel
theorem dX10_latest_14 : decode cX10_latest 14 = .ok (.aload_n 0, 1) := by decide +kernel
theorem dX10_latest_15 : decode cX10_latest 15 = .ok (.iload_n 3, 1) := by decide +kernel
theorem dX10_latest_16 : decode cX10_latest 16 = .ok (.invokevirtual 58, 3) := by decide +kernel
theorem dX10_latest_19 : decode cX10_latest 19 = .ok (.ifCond .eq 25, 3) := by decide +kernel
theorem dX10_latest_22 : decode cX10_latest 22 = .ok (.aload_n 0, 1) := by decide +kernel
theorem dX10_latest_23 : decode cX10_latest 23 = .ok (.iload_n 3, 1) := by decide +kernel
theorem dX10_latest_24 : decode cX10_latest 24 = .ok (.iload_n 1, 1) := by decide +kernel
theorem dX10_latest_25 : decode cX10_latest 25 = .ok (.invokevirtual 96, 3) := by decide +kernel
theorem dX10_latest_28 : decode cX10_latest 28 = .ok (.ifCond .eq 16, 3) := by decide +kernel
theorem dX10_latest_31 : decode cX10_latest 31 = .ok (.iload_n 2, 1) := by decide +kernel
theorem dX10_latest_32 : decode cX10_latest 32 = .ok (.aload_n 0, 1) := by decide +kernel
theorem dX10_latest_33 : decode cX10_latest 33 = .ok (.iload_n 3, 1) := by decide +kernel
theorem dX10_latest_34 : decode cX10_latest 34 = .ok (.iconst 5, 1) := by decide +kernel
theorem dX10_latest_35 : decode cX10_latest 35 = .ok (.invokevirtual 54, 3) := by decide +kernel
theorem dX10_latest_38 : decode cX10_latest 38 = .ok (.invokestatic 103, 3) := by decide +kernel
theorem dX10_latest_41 : decode cX10_latest 41 = .ok (.goto 4, 3) := by decide +kernel
theorem dX10_latest_45 : decode cX10_latest 45 = .ok (.istore_n 2, 1) := by decide +kernel
theorem dX10_latest_46 : decode cX10_latest 46 = .ok (.iinc 3 1, 3) := by decide +kernel
theorem dX10_latest_49 : decode cX10_latest 49 = .ok (.goto (-45), 3) := by decide +kernel
theorem dX10_latest_52 : decode cX10_latest 52 = .ok (.iload_n 2, 1) := by decide +kernel
theorem dX10_latest_53 : decode cX10_latest 53 = .ok (.ireturn, 1) := by decide +kernel
theorem dX10_countBelow_0 : decode cX10_countBelow 0 = .ok (.iconst 0, 1) := by decide +kernel
theorem dX10_countBelow_1 : decode cX10_countBelow 1 = .ok (.istore_n 2, 1) := by decide +kernel
theorem dX10_countBelow_2 : decode cX10_countBelow 2 = .ok (.iconst 0, 1) := by decide +kernel
theorem dX10_countBelow_3 : decode cX10_countBelow 3 = .ok (.istore_n 3, 1) := by decide +kernel
theorem dX10_countBelow_4 : decode cX10_countBelow 4 = .ok (.iload_n 3, 1) := by decide +kernel
theorem dX10_countBelow_5 : decode cX10_countBelow 5 = .ok (.aload_n 0, 1) := by decide +kernel
theorem dX10_countBelow_6 : decode cX10_countBelow 6 = .ok (.getfield 9, 3) := by decide +kernel
theorem dX10_countBelow_9 : decode cX10_countBelow 9 = .ok (.iconst 0, 1) := by decide +kernel
theorem dX10_countBelow_10 : decode cX10_countBelow 10 = .ok (.iaload, 1) := by decide +kernel
theorem dX10_countBelow_11 : decode cX10_countBelow 11 = .ok (.if_icmp .ge 39, 3) := by decide +kernel
theorem dX10_countBelow_14 : decode cX10_countBelow 14 = .ok (.iload_n 2, 1) := by decide +kernel
theorem dX10_countBelow_15 : decode cX10_countBelow 15 = .ok (.aload_n 0, 1) := by decide +kernel
theorem dX10_countBelow_16 : decode cX10_countBelow 16 = .ok (.iload_n 3, 1) := by decide +kernel
theorem dX10_countBelow_17 : decode cX10_countBelow 17 = .ok (.invokevirtual 58, 3) := by decide +kernel
theorem dX10_countBelow_20 : decode cX10_countBelow 20 = .ok (.ifCond .eq 21, 3) := by decide +kernel
theorem dX10_countBelow_23 : decode cX10_countBelow 23 = .ok (.aload_n 0, 1) := by decide +kernel
theorem dX10_countBelow_24 : decode cX10_countBelow 24 = .ok (.iload_n 3, 1) := by decide +kernel
theorem dX10_countBelow_25 : decode cX10_countBelow 25 = .ok (.iload_n 1, 1) := by decide +kernel
theorem dX10_countBelow_26 : decode cX10_countBelow 26 = .ok (.invokevirtual 96, 3) := by decide +kernel
theorem dX10_countBelow_29 : decode cX10_countBelow 29 = .ok (.ifCond .eq 12, 3) := by decide +kernel
theorem dX10_countBelow_32 : decode cX10_countBelow 32 = .ok (.iload_n 3, 1) := by decide +kernel
theorem dX10_countBelow_33 : decode cX10_countBelow 33 = .ok (.iload_n 1, 1) := by decide +kernel
theorem dX10_countBelow_34 : decode cX10_countBelow 34 = .ok (.if_icmp .eq 7, 3) := by decide +kernel
theorem dX10_countBelow_41 : decode cX10_countBelow 41 = .ok (.iconst 0, 1) := by decide +kernel
theorem dX10_countBelow_42 : decode cX10_countBelow 42 = .ok (.iadd, 1) := by decide +kernel
theorem dX10_countBelow_43 : decode cX10_countBelow 43 = .ok (.istore_n 2, 1) := by decide +kernel
theorem dX10_countBelow_44 : decode cX10_countBelow 44 = .ok (.iinc 3 1, 3) := by decide +kernel
theorem dX10_countBelow_47 : decode cX10_countBelow 47 = .ok (.goto (-43), 3) := by decide +kernel
theorem dX10_countBelow_50 : decode cX10_countBelow 50 = .ok (.iload_n 2, 1) := by decide +kernel
theorem dX10_countBelow_51 : decode cX10_countBelow 51 = .ok (.ireturn, 1) := by decide +kernel
theorem dX10_sumPages_0 : decode cX10_sumPages 0 = .ok (.iconst 0, 1) := by decide +kernel
theorem dX10_sumPages_1 : decode cX10_sumPages 1 = .ok (.istore_n 2, 1) := by decide +kernel
theorem dX10_sumPages_2 : decode cX10_sumPages 2 = .ok (.iconst 0, 1) := by decide +kernel
theorem dX10_sumPages_3 : decode cX10_sumPages 3 = .ok (.istore_n 3, 1) := by decide +kernel
theorem dX10_sumPages_4 : decode cX10_sumPages 4 = .ok (.iload_n 3, 1) := by decide +kernel
theorem dX10_sumPages_5 : decode cX10_sumPages 5 = .ok (.aload_n 0, 1) := by decide +kernel
theorem dX10_sumPages_6 : decode cX10_sumPages 6 = .ok (.getfield 9, 3) := by decide +kernel
theorem dX10_sumPages_9 : decode cX10_sumPages 9 = .ok (.iconst 0, 1) := by decide +kernel
theorem dX10_sumPages_10 : decode cX10_sumPages 10 = .ok (.iaload, 1) := by decide +kernel
theorem dX10_sumPages_11 : decode cX10_sumPages 11 = .ok (.if_icmp .ge 39, 3) := by decide +kernel
theorem dX10_sumPages_14 : decode cX10_sumPages 14 = .ok (.iload_n 2, 1) := by decide +kernel
theorem dX10_sumPages_15 : decode cX10_sumPages 15 = .ok (.aload_n 0, 1) := by decide +kernel
theorem dX10_sumPages_16 : decode cX10_sumPages 16 = .ok (.iload_n 3, 1) := by decide +kernel
theorem dX10_sumPages_17 : decode cX10_sumPages 17 = .ok (.invokevirtual 58, 3) := by decide +kernel
theorem dX10_sumPages_20 : decode cX10_sumPages 20 = .ok (.ifCond .eq 21, 3) := by decide +kernel
theorem dX10_sumPages_23 : decode cX10_sumPages 23 = .ok (.aload_n 0, 1) := by decide +kernel
theorem dX10_sumPages_24 : decode cX10_sumPages 24 = .ok (.iload_n 3, 1) := by decide +kernel
theorem dX10_sumPages_25 : decode cX10_sumPages 25 = .ok (.iload_n 1, 1) := by decide +kernel
theorem dX10_sumPages_26 : decode cX10_sumPages 26 = .ok (.invokevirtual 96, 3) := by decide +kernel
theorem dX10_sumPages_29 : decode cX10_sumPages 29 = .ok (.ifCond .eq 12, 3) := by decide +kernel
theorem dX10_sumPages_32 : decode cX10_sumPages 32 = .ok (.aload_n 0, 1) := by decide +kernel
theorem dX10_sumPages_33 : decode cX10_sumPages 33 = .ok (.iload_n 3, 1) := by decide +kernel
theorem dX10_sumPages_34 : decode cX10_sumPages 34 = .ok (.iconst 3, 1) := by decide +kernel
theorem dX10_sumPages_35 : decode cX10_sumPages 35 = .ok (.invokevirtual 54, 3) := by decide +kernel
theorem dX10_sumPages_38 : decode cX10_sumPages 38 = .ok (.goto 4, 3) := by decide +kernel
theorem dX10_sumPages_42 : decode cX10_sumPages 42 = .ok (.iadd, 1) := by decide +kernel
theorem dX10_sumPages_43 : decode cX10_sumPages 43 = .ok (.istore_n 2, 1) := by decide +kernel
theorem dX10_sumPages_44 : decode cX10_sumPages 44 = .ok (.iinc 3 1, 3) := by decide +kernel
theorem dX10_sumPages_47 : decode cX10_sumPages 47 = .ok (.goto (-43), 3) := by decide +kernel
theorem dX10_sumPages_50 : decode cX10_sumPages 50 = .ok (.iload_n 2, 1) := by decide +kernel
theorem dX10_sumPages_51 : decode cX10_sumPages 51 = .ok (.ireturn, 1) := by decide +kernel
theorem dX10_nextChild_0 : decode cX10_nextChild 0 = .ok (.iconst (-1), 1) := by decide +kernel
theorem dX10_nextChild_1 : decode cX10_nextChild 1 = .ok (.istore_n 3, 1) := by decide +kernel
theorem dX10_nextChild_2 : decode cX10_nextChild 2 = .ok (.iconst 1, 1) := by decide +kernel
theorem dX10_nextChild_3 : decode cX10_nextChild 3 = .ok (.istore 4, 2) := by decide +kernel
theorem dX10_nextChild_5 : decode cX10_nextChild 5 = .ok (.iload 4, 2) := by decide +kernel
theorem dX10_nextChild_7 : decode cX10_nextChild 7 = .ok (.aload_n 0, 1) := by decide +kernel
theorem dX10_nextChild_8 : decode cX10_nextChild 8 = .ok (.getfield 9, 3) := by decide +kernel
theorem dX10_nextChild_11 : decode cX10_nextChild 11 = .ok (.iconst 0, 1) := by decide +kernel
theorem dX10_nextChild_12 : decode cX10_nextChild 12 = .ok (.iaload, 1) := by decide +kernel
theorem dX10_nextChild_13 : decode cX10_nextChild 13 = .ok (.if_icmp .ge 82, 3) := by decide +kernel
theorem dX10_nextChild_95 : decode cX10_nextChild 95 = .ok (.iload_n 3, 1) := by decide +kernel
theorem dX10_nextChild_96 : decode cX10_nextChild 96 = .ok (.ireturn, 1) := by decide +kernel
theorem dX10_countChildren_0 : decode cX10_countChildren 0 = .ok (.iconst 0, 1) := by decide +kernel
theorem dX10_countChildren_1 : decode cX10_countChildren 1 = .ok (.istore_n 2, 1) := by decide +kernel
theorem dX10_countChildren_2 : decode cX10_countChildren 2 = .ok (.aload_n 0, 1) := by decide +kernel
theorem dX10_countChildren_3 : decode cX10_countChildren 3 = .ok (.iload_n 1, 1) := by decide +kernel
theorem dX10_countChildren_4 : decode cX10_countChildren 4 = .ok (.iconst (-1), 1) := by decide +kernel
theorem dX10_countChildren_5 : decode cX10_countChildren 5 = .ok (.invokevirtual 106, 3) := by decide +kernel
theorem dX10_countChildren_8 : decode cX10_countChildren 8 = .ok (.istore_n 3, 1) := by decide +kernel
theorem dX10_countChildren_9 : decode cX10_countChildren 9 = .ok (.iload_n 3, 1) := by decide +kernel
theorem dX10_countChildren_10 : decode cX10_countChildren 10 = .ok (.ifCond .lt 22, 3) := by decide +kernel
theorem dX10_countChildren_32 : decode cX10_countChildren 32 = .ok (.iload_n 2, 1) := by decide +kernel
theorem dX10_countChildren_33 : decode cX10_countChildren 33 = .ok (.ireturn, 1) := by decide +kernel
theorem dX10_isCopy_0 : decode cX10_isCopy 0 = .ok (.iload_n 1, 1) := by decide +kernel
theorem dX10_isCopy_1 : decode cX10_isCopy 1 = .ok (.iconst 0, 1) := by decide +kernel
theorem dX10_isCopy_2 : decode cX10_isCopy 2 = .ok (.aload_n 0, 1) := by decide +kernel
theorem dX10_isCopy_3 : decode cX10_isCopy 3 = .ok (.getfield 9, 3) := by decide +kernel
theorem dX10_isCopy_6 : decode cX10_isCopy 6 = .ok (.iconst 3, 1) := by decide +kernel
theorem dX10_isCopy_7 : decode cX10_isCopy 7 = .ok (.iaload, 1) := by decide +kernel
theorem dX10_isCopy_8 : decode cX10_isCopy 8 = .ok (.iconst 1, 1) := by decide +kernel
theorem dX10_isCopy_9 : decode cX10_isCopy 9 = .ok (.isub, 1) := by decide +kernel
theorem dX10_isCopy_10 : decode cX10_isCopy 10 = .ok (.invokestatic 50, 3) := by decide +kernel
theorem dX10_isCopy_13 : decode cX10_isCopy 13 = .ok (.ifCond .eq 17, 3) := by decide +kernel
theorem dX10_isCopy_30 : decode cX10_isCopy 30 = .ok (.iconst 0, 1) := by decide +kernel
theorem dX10_isCopy_31 : decode cX10_isCopy 31 = .ok (.ireturn, 1) := by decide +kernel
theorem dX10_countCopies_0 : decode cX10_countCopies 0 = .ok (.iconst 0, 1) := by decide +kernel
theorem dX10_countCopies_1 : decode cX10_countCopies 1 = .ok (.istore_n 2, 1) := by decide +kernel
theorem dX10_countCopies_2 : decode cX10_countCopies 2 = .ok (.iconst 0, 1) := by decide +kernel
theorem dX10_countCopies_3 : decode cX10_countCopies 3 = .ok (.istore_n 3, 1) := by decide +kernel
theorem dX10_countCopies_4 : decode cX10_countCopies 4 = .ok (.iload_n 3, 1) := by decide +kernel
theorem dX10_countCopies_5 : decode cX10_countCopies 5 = .ok (.aload_n 0, 1) := by decide +kernel
theorem dX10_countCopies_6 : decode cX10_countCopies 6 = .ok (.getfield 9, 3) := by decide +kernel
theorem dX10_countCopies_9 : decode cX10_countCopies 9 = .ok (.iconst 3, 1) := by decide +kernel
theorem dX10_countCopies_10 : decode cX10_countCopies 10 = .ok (.iaload, 1) := by decide +kernel
theorem dX10_countCopies_11 : decode cX10_countCopies 11 = .ok (.if_icmp .ge 35, 3) := by decide +kernel
theorem dX10_countCopies_46 : decode cX10_countCopies 46 = .ok (.iload_n 2, 1) := by decide +kernel
theorem dX10_countCopies_47 : decode cX10_countCopies 47 = .ok (.ireturn, 1) := by decide +kernel
theorem dX10_findTerm_0 : decode cX10_findTerm 0 = .ok (.iload_n 1, 1) := by decide +kernel
theorem dX10_findTerm_1 : decode cX10_findTerm 1 = .ok (.ifCond .ge 14, 3) := by decide +kernel
theorem dX10_findTerm_4 : decode cX10_findTerm 4 = .ok (.aload_n 0, 1) := by decide +kernel
theorem dX10_findTerm_5 : decode cX10_findTerm 5 = .ok (.iconst 0, 1) := by decide +kernel
theorem dX10_findTerm_6 : decode cX10_findTerm 6 = .ok (.putfield 128, 3) := by decide +kernel
theorem dX10_findTerm_9 : decode cX10_findTerm 9 = .ok (.aload_n 0, 1) := by decide +kernel
theorem dX10_findTerm_10 : decode cX10_findTerm 10 = .ok (.iconst (-1), 1) := by decide +kernel
theorem dX10_findTerm_11 : decode cX10_findTerm 11 = .ok (.putfield 131, 3) := by decide +kernel
theorem dX10_findTerm_14 : decode cX10_findTerm 14 = .ok (.return_, 1) := by decide +kernel
theorem dX10_findTerm_15 : decode cX10_findTerm 15 = .ok (.aload_n 0, 1) := by decide +kernel
theorem dX10_findTerm_16 : decode cX10_findTerm 16 = .ok (.aload_n 0, 1) := by decide +kernel
theorem dX10_findTerm_17 : decode cX10_findTerm 17 = .ok (.iload_n 1, 1) := by decide +kernel
theorem dX10_findTerm_18 : decode cX10_findTerm 18 = .ok (.iconst 2, 1) := by decide +kernel
theorem dX10_findTerm_19 : decode cX10_findTerm 19 = .ok (.invokevirtual 54, 3) := by decide +kernel
theorem dX10_findTerm_22 : decode cX10_findTerm 22 = .ok (.invokevirtual 134, 3) := by decide +kernel
theorem dX10_findTerm_25 : decode cX10_findTerm 25 = .ok (.aload_n 0, 1) := by decide +kernel
theorem dX10_findTerm_26 : decode cX10_findTerm 26 = .ok (.iload_n 1, 1) := by decide +kernel
theorem dX10_findTerm_27 : decode cX10_findTerm 27 = .ok (.bipush 6, 2) := by decide +kernel
theorem dX10_findTerm_29 : decode cX10_findTerm 29 = .ok (.invokevirtual 54, 3) := by decide +kernel
theorem dX10_findTerm_32 : decode cX10_findTerm 32 = .ok (.istore_n 2, 1) := by decide +kernel
theorem dX10_findTerm_33 : decode cX10_findTerm 33 = .ok (.aload_n 0, 1) := by decide +kernel
theorem dX10_findTerm_34 : decode cX10_findTerm 34 = .ok (.iload_n 1, 1) := by decide +kernel
theorem dX10_findTerm_35 : decode cX10_findTerm 35 = .ok (.bipush 7, 2) := by decide +kernel
theorem dX10_findTerm_37 : decode cX10_findTerm 37 = .ok (.invokevirtual 54, 3) := by decide +kernel
theorem dX10_findTerm_40 : decode cX10_findTerm 40 = .ok (.istore_n 3, 1) := by decide +kernel
theorem dX10_findTerm_41 : decode cX10_findTerm 41 = .ok (.iload_n 2, 1) := by decide +kernel
theorem dX10_findTerm_42 : decode cX10_findTerm 42 = .ok (.iconst 1, 1) := by decide +kernel
theorem dX10_findTerm_43 : decode cX10_findTerm 43 = .ok (.if_icmp .eq 15, 3) := by decide +kernel
theorem dX10_findTerm_46 : decode cX10_findTerm 46 = .ok (.iload_n 2, 1) := by decide +kernel
theorem dX10_findTerm_47 : decode cX10_findTerm 47 = .ok (.ifCond .ne 21, 3) := by decide +kernel
theorem dX10_findTerm_68 : decode cX10_findTerm 68 = .ok (.iload_n 2, 1) := by decide +kernel
theorem dX10_findTerm_69 : decode cX10_findTerm 69 = .ok (.iconst 2, 1) := by decide +kernel
theorem dX10_findTerm_70 : decode cX10_findTerm 70 = .ok (.if_icmp .ne 13, 3) := by decide +kernel
theorem dX10_findTerm_83 : decode cX10_findTerm 83 = .ok (.return_, 1) := by decide +kernel
theorem dX10_lastClosed_0 : decode cX10_lastClosed 0 = .ok (.aload_n 0, 1) := by decide +kernel
theorem dX10_lastClosed_1 : decode cX10_lastClosed 1 = .ok (.iload_n 1, 1) := by decide +kernel
theorem dX10_lastClosed_2 : decode cX10_lastClosed 2 = .ok (.invokevirtual 134, 3) := by decide +kernel
theorem dX10_lastClosed_5 : decode cX10_lastClosed 5 = .ok (.aload_n 0, 1) := by decide +kernel
theorem dX10_lastClosed_6 : decode cX10_lastClosed 6 = .ok (.iload_n 1, 1) := by decide +kernel
theorem dX10_lastClosed_7 : decode cX10_lastClosed 7 = .ok (.invokevirtual 112, 3) := by decide +kernel
theorem dX10_lastClosed_10 : decode cX10_lastClosed 10 = .ok (.istore_n 2, 1) := by decide +kernel
theorem dX10_lastClosed_11 : decode cX10_lastClosed 11 = .ok (.aload_n 0, 1) := by decide +kernel
theorem dX10_lastClosed_12 : decode cX10_lastClosed 12 = .ok (.getfield 128, 3) := by decide +kernel
theorem dX10_lastClosed_15 : decode cX10_lastClosed 15 = .ok (.ifCond .ne 7, 3) := by decide +kernel
theorem dX10_lastClosed_18 : decode cX10_lastClosed 18 = .ok (.iconst (-1), 1) := by decide +kernel
theorem dX10_lastClosed_19 : decode cX10_lastClosed 19 = .ok (.goto 18, 3) := by decide +kernel
theorem dX10_lastClosed_37 : decode cX10_lastClosed 37 = .ok (.ireturn, 1) := by decide +kernel
theorem dX10_openSet_0 : decode cX10_openSet 0 = .ok (.iconst 0, 1) := by decide +kernel
theorem dX10_openSet_1 : decode cX10_openSet 1 = .ok (.istore_n 3, 1) := by decide +kernel
theorem dX10_openSet_2 : decode cX10_openSet 2 = .ok (.aload_n 0, 1) := by decide +kernel
theorem dX10_openSet_3 : decode cX10_openSet 3 = .ok (.iload_n 1, 1) := by decide +kernel
theorem dX10_openSet_4 : decode cX10_openSet 4 = .ok (.invokevirtual 138, 3) := by decide +kernel
theorem dX10_openSet_7 : decode cX10_openSet 7 = .ok (.iload_n 2, 1) := by decide +kernel
theorem dX10_openSet_8 : decode cX10_openSet 8 = .ok (.if_icmp .lt 7, 3) := by decide +kernel
theorem dX10_openSet_15 : decode cX10_openSet 15 = .ok (.iconst 0, 1) := by decide +kernel
theorem dX10_openSet_16 : decode cX10_openSet 16 = .ok (.istore 4, 2) := by decide +kernel
theorem dX10_openSet_18 : decode cX10_openSet 18 = .ok (.iconst 0, 1) := by decide +kernel
theorem dX10_openSet_19 : decode cX10_openSet 19 = .ok (.istore 5, 2) := by decide +kernel
theorem dX10_openSet_21 : decode cX10_openSet 21 = .ok (.iload 5, 2) := by decide +kernel
theorem dX10_openSet_23 : decode cX10_openSet 23 = .ok (.aload_n 0, 1) := by decide +kernel
theorem dX10_openSet_24 : decode cX10_openSet 24 = .ok (.iload_n 1, 1) := by decide +kernel
theorem dX10_openSet_25 : decode cX10_openSet 25 = .ok (.iconst 3, 1) := by decide +kernel
theorem dX10_openSet_26 : decode cX10_openSet 26 = .ok (.invokevirtual 54, 3) := by decide +kernel
theorem dX10_openSet_29 : decode cX10_openSet 29 = .ok (.if_icmp .ge 36, 3) := by decide +kernel
theorem dX10_openSet_65 : decode cX10_openSet 65 = .ok (.iload_n 3, 1) := by decide +kernel
theorem dX10_openSet_66 : decode cX10_openSet 66 = .ok (.ireturn, 1) := by decide +kernel
theorem dX10_openSet_11 : decode cX10_openSet 11 = .ok (.iconst 1, 1) := by decide +kernel
theorem dX10_openSet_12 : decode cX10_openSet 12 = .ok (.goto 4, 3) := by decide +kernel
theorem dX10_allPages_0 : decode cX10_allPages 0 = .ok (.iconst 1, 1) := by decide +kernel
theorem dX10_allPages_1 : decode cX10_allPages 1 = .ok (.aload_n 0, 1) := by decide +kernel
theorem dX10_allPages_2 : decode cX10_allPages 2 = .ok (.iload_n 1, 1) := by decide +kernel
theorem dX10_allPages_3 : decode cX10_allPages 3 = .ok (.iconst 3, 1) := by decide +kernel
theorem dX10_allPages_4 : decode cX10_allPages 4 = .ok (.invokevirtual 54, 3) := by decide +kernel
theorem dX10_allPages_7 : decode cX10_allPages 7 = .ok (.ishl, 1) := by decide +kernel
theorem dX10_allPages_8 : decode cX10_allPages 8 = .ok (.iconst 1, 1) := by decide +kernel
theorem dX10_allPages_9 : decode cX10_allPages 9 = .ok (.isub, 1) := by decide +kernel
theorem dX10_allPages_10 : decode cX10_allPages 10 = .ok (.ireturn, 1) := by decide +kernel
theorem dX10_isContainer_0 : decode cX10_isContainer 0 = .ok (.iload_n 1, 1) := by decide +kernel
theorem dX10_isContainer_1 : decode cX10_isContainer 1 = .ok (.iconst 0, 1) := by decide +kernel
theorem dX10_isContainer_2 : decode cX10_isContainer 2 = .ok (.aload_n 0, 1) := by decide +kernel
theorem dX10_isContainer_3 : decode cX10_isContainer 3 = .ok (.getfield 9, 3) := by decide +kernel
theorem dX10_isContainer_6 : decode cX10_isContainer 6 = .ok (.iconst 2, 1) := by decide +kernel
theorem dX10_isContainer_7 : decode cX10_isContainer 7 = .ok (.iaload, 1) := by decide +kernel
theorem dX10_isContainer_8 : decode cX10_isContainer 8 = .ok (.iconst 1, 1) := by decide +kernel
theorem dX10_isContainer_9 : decode cX10_isContainer 9 = .ok (.isub, 1) := by decide +kernel
theorem dX10_isContainer_10 : decode cX10_isContainer 10 = .ok (.invokestatic 50, 3) := by decide +kernel
theorem dX10_isContainer_13 : decode cX10_isContainer 13 = .ok (.ifCond .eq 17, 3) := by decide +kernel
theorem dX10_isContainer_30 : decode cX10_isContainer 30 = .ok (.iconst 0, 1) := by decide +kernel
theorem dX10_isContainer_31 : decode cX10_isContainer 31 = .ok (.ireturn, 1) := by decide +kernel
theorem dX10_countContainers_0 : decode cX10_countContainers 0 = .ok (.iconst 0, 1) := by decide +kernel
theorem dX10_countContainers_1 : decode cX10_countContainers 1 = .ok (.istore_n 1, 1) := by decide +kernel
theorem dX10_countContainers_2 : decode cX10_countContainers 2 = .ok (.iconst 0, 1) := by decide +kernel
theorem dX10_countContainers_3 : decode cX10_countContainers 3 = .ok (.istore_n 2, 1) := by decide +kernel
theorem dX10_countContainers_4 : decode cX10_countContainers 4 = .ok (.iload_n 2, 1) := by decide +kernel
theorem dX10_countContainers_5 : decode cX10_countContainers 5 = .ok (.aload_n 0, 1) := by decide +kernel
theorem dX10_countContainers_6 : decode cX10_countContainers 6 = .ok (.getfield 9, 3) := by decide +kernel
theorem dX10_countContainers_9 : decode cX10_countContainers 9 = .ok (.iconst 2, 1) := by decide +kernel
theorem dX10_countContainers_10 : decode cX10_countContainers 10 = .ok (.iaload, 1) := by decide +kernel
theorem dX10_countContainers_11 : decode cX10_countContainers 11 = .ok (.if_icmp .ge 18, 3) := by decide +kernel
theorem dX10_countContainers_29 : decode cX10_countContainers 29 = .ok (.iload_n 1, 1) := by decide +kernel
theorem dX10_countContainers_30 : decode cX10_countContainers 30 = .ok (.ireturn, 1) := by decide +kernel
theorem dX10_isFull_0 : decode cX10_isFull 0 = .ok (.aload_n 0, 1) := by decide +kernel
theorem dX10_isFull_1 : decode cX10_isFull 1 = .ok (.invokevirtual 165, 3) := by decide +kernel
theorem dX10_isFull_4 : decode cX10_isFull 4 = .ok (.bipush 10, 2) := by decide +kernel
theorem dX10_isFull_6 : decode cX10_isFull 6 = .ok (.if_icmp .eq 14, 3) := by decide +kernel
theorem dX10_isFull_9 : decode cX10_isFull 9 = .ok (.aload_n 0, 1) := by decide +kernel
theorem dX10_isFull_10 : decode cX10_isFull 10 = .ok (.getfield 9, 3) := by decide +kernel
theorem dX10_isFull_13 : decode cX10_isFull 13 = .ok (.iconst 2, 1) := by decide +kernel
theorem dX10_isFull_14 : decode cX10_isFull 14 = .ok (.iaload, 1) := by decide +kernel
theorem dX10_isFull_15 : decode cX10_isFull 15 = .ok (.bipush 30, 2) := by decide +kernel
theorem dX10_isFull_17 : decode cX10_isFull 17 = .ok (.if_icmp .ne 7, 3) := by decide +kernel
theorem dX10_isFull_24 : decode cX10_isFull 24 = .ok (.iconst 0, 1) := by decide +kernel
theorem dX10_isFull_25 : decode cX10_isFull 25 = .ok (.ireturn, 1) := by decide +kernel
theorem dX10_isCapacity_0 : decode cX10_isCapacity 0 = .ok (.iload_n 0, 1) := by decide +kernel
theorem dX10_isCapacity_1 : decode cX10_isCapacity 1 = .ok (.iconst 1, 1) := by decide +kernel
theorem dX10_isCapacity_2 : decode cX10_isCapacity 2 = .ok (.sipush 200, 3) := by decide +kernel
theorem dX10_isCapacity_5 : decode cX10_isCapacity 5 = .ok (.invokestatic 50, 3) := by decide +kernel
theorem dX10_isCapacity_8 : decode cX10_isCapacity 8 = .ok (.ireturn, 1) := by decide +kernel
theorem dX10_setIn_0 : decode cX10_setIn 0 = .ok (.aload_n 0, 1) := by decide +kernel
theorem dX10_setIn_1 : decode cX10_setIn 1 = .ok (.getfield 9, 3) := by decide +kernel
theorem dX10_setIn_4 : decode cX10_setIn 4 = .ok (.sipush 1247, 3) := by decide +kernel
theorem dX10_setIn_7 : decode cX10_setIn 7 = .ok (.iload_n 1, 1) := by decide +kernel
theorem dX10_setIn_8 : decode cX10_setIn 8 = .ok (.bipush 44, 2) := by decide +kernel
theorem dX10_setIn_10 : decode cX10_setIn 10 = .ok (.imul, 1) := by decide +kernel
theorem dX10_setIn_11 : decode cX10_setIn 11 = .ok (.iadd, 1) := by decide +kernel
theorem dX10_setIn_12 : decode cX10_setIn 12 = .ok (.iload_n 2, 1) := by decide +kernel
theorem dX10_setIn_13 : decode cX10_setIn 13 = .ok (.iadd, 1) := by decide +kernel
theorem dX10_setIn_14 : decode cX10_setIn 14 = .ok (.iload_n 3, 1) := by decide +kernel
theorem dX10_setIn_15 : decode cX10_setIn 15 = .ok (.iastore, 1) := by decide +kernel
theorem dX10_setIn_16 : decode cX10_setIn 16 = .ok (.return_, 1) := by decide +kernel
theorem dX10_makeContainer_0 : decode cX10_makeContainer 0 = .ok (.aload_n 0, 1) := by decide +kernel
theorem dX10_makeContainer_1 : decode cX10_makeContainer 1 = .ok (.getfield 9, 3) := by decide +kernel
theorem dX10_makeContainer_4 : decode cX10_makeContainer 4 = .ok (.iconst 2, 1) := by decide +kernel
theorem dX10_makeContainer_5 : decode cX10_makeContainer 5 = .ok (.iaload, 1) := by decide +kernel
theorem dX10_makeContainer_6 : decode cX10_makeContainer 6 = .ok (.istore_n 2, 1) := by decide +kernel
theorem dX10_makeContainer_7 : decode cX10_makeContainer 7 = .ok (.aload_n 0, 1) := by decide +kernel
theorem dX10_makeContainer_8 : decode cX10_makeContainer 8 = .ok (.iload_n 2, 1) := by decide +kernel
theorem dX10_makeContainer_9 : decode cX10_makeContainer 9 = .ok (.iconst 0, 1) := by decide +kernel
theorem dX10_makeContainer_10 : decode cX10_makeContainer 10 = .ok (.iconst 1, 1) := by decide +kernel
theorem dX10_makeContainer_11 : decode cX10_makeContainer 11 = .ok (.invokevirtual 169, 3) := by decide +kernel
theorem dX10_makeContainer_14 : decode cX10_makeContainer 14 = .ok (.aload_n 0, 1) := by decide +kernel
theorem dX10_makeContainer_15 : decode cX10_makeContainer 15 = .ok (.iload_n 2, 1) := by decide +kernel
theorem dX10_makeContainer_16 : decode cX10_makeContainer 16 = .ok (.iconst 1, 1) := by decide +kernel
theorem dX10_makeContainer_17 : decode cX10_makeContainer 17 = .ok (.iload_n 1, 1) := by decide +kernel
theorem dX10_makeContainer_18 : decode cX10_makeContainer 18 = .ok (.invokevirtual 169, 3) := by decide +kernel
theorem dX10_makeContainer_21 : decode cX10_makeContainer 21 = .ok (.aload_n 0, 1) := by decide +kernel
theorem dX10_makeContainer_22 : decode cX10_makeContainer 22 = .ok (.getfield 9, 3) := by decide +kernel
theorem dX10_makeContainer_25 : decode cX10_makeContainer 25 = .ok (.iconst 2, 1) := by decide +kernel
theorem dX10_makeContainer_26 : decode cX10_makeContainer 26 = .ok (.dup2, 1) := by decide +kernel
theorem dX10_makeContainer_27 : decode cX10_makeContainer 27 = .ok (.iaload, 1) := by decide +kernel
theorem dX10_makeContainer_28 : decode cX10_makeContainer 28 = .ok (.iconst 1, 1) := by decide +kernel
theorem dX10_makeContainer_29 : decode cX10_makeContainer 29 = .ok (.iadd, 1) := by decide +kernel
theorem dX10_makeContainer_30 : decode cX10_makeContainer 30 = .ok (.iastore, 1) := by decide +kernel
theorem dX10_makeContainer_31 : decode cX10_makeContainer 31 = .ok (.iload_n 2, 1) := by decide +kernel
theorem dX10_makeContainer_32 : decode cX10_makeContainer 32 = .ok (.ireturn, 1) := by decide +kernel
theorem dX10_countRequests_0 : decode cX10_countRequests 0 = .ok (.iconst 0, 1) := by decide +kernel
theorem dX10_countRequests_1 : decode cX10_countRequests 1 = .ok (.istore_n 3, 1) := by decide +kernel
theorem dX10_countRequests_2 : decode cX10_countRequests 2 = .ok (.iconst 0, 1) := by decide +kernel
theorem dX10_countRequests_3 : decode cX10_countRequests 3 = .ok (.istore 4, 2) := by decide +kernel
theorem dX10_countRequests_5 : decode cX10_countRequests 5 = .ok (.iload 4, 2) := by decide +kernel
theorem dX10_countRequests_7 : decode cX10_countRequests 7 = .ok (.aload_n 0, 1) := by decide +kernel
theorem dX10_countRequests_8 : decode cX10_countRequests 8 = .ok (.getfield 9, 3) := by decide +kernel
theorem dX10_countRequests_11 : decode cX10_countRequests 11 = .ok (.iconst 4, 1) := by decide +kernel
theorem dX10_countRequests_12 : decode cX10_countRequests 12 = .ok (.iaload, 1) := by decide +kernel
theorem dX10_countRequests_13 : decode cX10_countRequests 13 = .ok (.if_icmp .ge 39, 3) := by decide +kernel
theorem dX10_countRequests_52 : decode cX10_countRequests 52 = .ok (.iload_n 3, 1) := by decide +kernel
theorem dX10_countRequests_53 : decode cX10_countRequests 53 = .ok (.ireturn, 1) := by decide +kernel
theorem dX10_countSeated_0 : decode cX10_countSeated 0 = .ok (.iconst 0, 1) := by decide +kernel
theorem dX10_countSeated_1 : decode cX10_countSeated 1 = .ok (.istore_n 2, 1) := by decide +kernel
theorem dX10_countSeated_2 : decode cX10_countSeated 2 = .ok (.iconst 0, 1) := by decide +kernel
theorem dX10_countSeated_3 : decode cX10_countSeated 3 = .ok (.istore_n 3, 1) := by decide +kernel
theorem dX10_countSeated_4 : decode cX10_countSeated 4 = .ok (.iload_n 3, 1) := by decide +kernel
theorem dX10_countSeated_5 : decode cX10_countSeated 5 = .ok (.bipush 8, 2) := by decide +kernel
theorem dX10_countSeated_7 : decode cX10_countSeated 7 = .ok (.if_icmp .ge 26, 3) := by decide +kernel
theorem dX10_countSeated_10 : decode cX10_countSeated 10 = .ok (.iload_n 2, 1) := by decide +kernel
theorem dX10_countSeated_11 : decode cX10_countSeated 11 = .ok (.aload_n 0, 1) := by decide +kernel
theorem dX10_countSeated_12 : decode cX10_countSeated 12 = .ok (.iload_n 3, 1) := by decide +kernel
theorem dX10_countSeated_13 : decode cX10_countSeated 13 = .ok (.iload_n 1, 1) := by decide +kernel
theorem dX10_countSeated_14 : decode cX10_countSeated 14 = .ok (.invokevirtual 195, 3) := by decide +kernel
theorem dX10_countSeated_17 : decode cX10_countSeated 17 = .ok (.ifCond .le 7, 3) := by decide +kernel
theorem dX10_countSeated_24 : decode cX10_countSeated 24 = .ok (.iconst 0, 1) := by decide +kernel
theorem dX10_countSeated_25 : decode cX10_countSeated 25 = .ok (.iadd, 1) := by decide +kernel
theorem dX10_countSeated_26 : decode cX10_countSeated 26 = .ok (.istore_n 2, 1) := by decide +kernel
theorem dX10_countSeated_27 : decode cX10_countSeated 27 = .ok (.iinc 3 1, 3) := by decide +kernel
theorem dX10_countSeated_30 : decode cX10_countSeated 30 = .ok (.goto (-26), 3) := by decide +kernel
theorem dX10_countSeated_33 : decode cX10_countSeated 33 = .ok (.iload_n 2, 1) := by decide +kernel
theorem dX10_countSeated_34 : decode cX10_countSeated 34 = .ok (.ireturn, 1) := by decide +kernel
theorem dX10_countUnits_0 : decode cX10_countUnits 0 = .ok (.iconst 0, 1) := by decide +kernel
theorem dX10_countUnits_1 : decode cX10_countUnits 1 = .ok (.istore_n 2, 1) := by decide +kernel
theorem dX10_countUnits_2 : decode cX10_countUnits 2 = .ok (.iconst 0, 1) := by decide +kernel
theorem dX10_countUnits_3 : decode cX10_countUnits 3 = .ok (.istore_n 3, 1) := by decide +kernel
theorem dX10_countUnits_4 : decode cX10_countUnits 4 = .ok (.iload_n 3, 1) := by decide +kernel
theorem dX10_countUnits_5 : decode cX10_countUnits 5 = .ok (.aload_n 0, 1) := by decide +kernel
theorem dX10_countUnits_6 : decode cX10_countUnits 6 = .ok (.getfield 9, 3) := by decide +kernel
theorem dX10_countUnits_9 : decode cX10_countUnits 9 = .ok (.iconst 0, 1) := by decide +kernel
theorem dX10_countUnits_10 : decode cX10_countUnits 10 = .ok (.iaload, 1) := by decide +kernel
theorem dX10_countUnits_11 : decode cX10_countUnits 11 = .ok (.if_icmp .ge 39, 3) := by decide +kernel
theorem dX10_countUnits_14 : decode cX10_countUnits 14 = .ok (.iload_n 2, 1) := by decide +kernel
theorem dX10_countUnits_15 : decode cX10_countUnits 15 = .ok (.aload_n 0, 1) := by decide +kernel
theorem dX10_countUnits_16 : decode cX10_countUnits 16 = .ok (.iload_n 3, 1) := by decide +kernel
theorem dX10_countUnits_17 : decode cX10_countUnits 17 = .ok (.invokevirtual 156, 3) := by decide +kernel
theorem dX10_countUnits_20 : decode cX10_countUnits 20 = .ok (.ifCond .eq 21, 3) := by decide +kernel
theorem dX10_countUnits_41 : decode cX10_countUnits 41 = .ok (.iconst 0, 1) := by decide +kernel
theorem dX10_countUnits_42 : decode cX10_countUnits 42 = .ok (.iadd, 1) := by decide +kernel
theorem dX10_countUnits_43 : decode cX10_countUnits 43 = .ok (.istore_n 2, 1) := by decide +kernel
theorem dX10_countUnits_44 : decode cX10_countUnits 44 = .ok (.iinc 3 1, 3) := by decide +kernel
theorem dX10_countUnits_47 : decode cX10_countUnits 47 = .ok (.goto (-43), 3) := by decide +kernel
theorem dX10_countUnits_50 : decode cX10_countUnits 50 = .ok (.iload_n 2, 1) := by decide +kernel
theorem dX10_countUnits_51 : decode cX10_countUnits 51 = .ok (.ireturn, 1) := by decide +kernel
theorem dX10_countShown_0 : decode cX10_countShown 0 = .ok (.iconst 0, 1) := by decide +kernel
theorem dX10_countShown_1 : decode cX10_countShown 1 = .ok (.istore_n 2, 1) := by decide +kernel
theorem dX10_countShown_2 : decode cX10_countShown 2 = .ok (.iconst 0, 1) := by decide +kernel
theorem dX10_countShown_3 : decode cX10_countShown 3 = .ok (.istore_n 3, 1) := by decide +kernel
theorem dX10_countShown_4 : decode cX10_countShown 4 = .ok (.iload_n 3, 1) := by decide +kernel
theorem dX10_countShown_5 : decode cX10_countShown 5 = .ok (.aload_n 0, 1) := by decide +kernel
theorem dX10_countShown_6 : decode cX10_countShown 6 = .ok (.getfield 9, 3) := by decide +kernel
theorem dX10_countShown_9 : decode cX10_countShown 9 = .ok (.iconst 4, 1) := by decide +kernel
theorem dX10_countShown_10 : decode cX10_countShown 10 = .ok (.iaload, 1) := by decide +kernel
theorem dX10_countShown_11 : decode cX10_countShown 11 = .ok (.if_icmp .ge 41, 3) := by decide +kernel
theorem dX10_countShown_52 : decode cX10_countShown 52 = .ok (.iload_n 2, 1) := by decide +kernel
theorem dX10_countShown_53 : decode cX10_countShown 53 = .ok (.ireturn, 1) := by decide +kernel
theorem dX10_countOpen_0 : decode cX10_countOpen 0 = .ok (.iconst 0, 1) := by decide +kernel
theorem dX10_countOpen_1 : decode cX10_countOpen 1 = .ok (.istore_n 3, 1) := by decide +kernel
theorem dX10_countOpen_2 : decode cX10_countOpen 2 = .ok (.iconst 0, 1) := by decide +kernel
theorem dX10_countOpen_3 : decode cX10_countOpen 3 = .ok (.istore 4, 2) := by decide +kernel
theorem dX10_countOpen_5 : decode cX10_countOpen 5 = .ok (.iload 4, 2) := by decide +kernel
theorem dX10_countOpen_7 : decode cX10_countOpen 7 = .ok (.aload_n 0, 1) := by decide +kernel
theorem dX10_countOpen_8 : decode cX10_countOpen 8 = .ok (.getfield 9, 3) := by decide +kernel
theorem dX10_countOpen_11 : decode cX10_countOpen 11 = .ok (.iconst 0, 1) := by decide +kernel
theorem dX10_countOpen_12 : decode cX10_countOpen 12 = .ok (.iaload, 1) := by decide +kernel
theorem dX10_countOpen_13 : decode cX10_countOpen 13 = .ok (.if_icmp .ge 79, 3) := by decide +kernel
theorem dX10_countOpen_16 : decode cX10_countOpen 16 = .ok (.aload_n 0, 1) := by decide +kernel
theorem dX10_countOpen_17 : decode cX10_countOpen 17 = .ok (.iload 4, 2) := by decide +kernel
theorem dX10_countOpen_19 : decode cX10_countOpen 19 = .ok (.invokevirtual 156, 3) := by decide +kernel
theorem dX10_countOpen_22 : decode cX10_countOpen 22 = .ok (.ifCond .eq 13, 3) := by decide +kernel
theorem dX10_countOpen_35 : decode cX10_countOpen 35 = .ok (.iconst 0, 1) := by decide +kernel
theorem dX10_countOpen_36 : decode cX10_countOpen 36 = .ok (.istore 5, 2) := by decide +kernel
theorem dX10_countOpen_38 : decode cX10_countOpen 38 = .ok (.iload 5, 2) := by decide +kernel
theorem dX10_countOpen_40 : decode cX10_countOpen 40 = .ok (.ifCond .eq 18, 3) := by decide +kernel
theorem dX10_countOpen_58 : decode cX10_countOpen 58 = .ok (.iconst 0, 1) := by decide +kernel
theorem dX10_countOpen_59 : decode cX10_countOpen 59 = .ok (.istore 6, 2) := by decide +kernel
theorem dX10_countOpen_61 : decode cX10_countOpen 61 = .ok (.iload_n 3, 1) := by decide +kernel
theorem dX10_countOpen_62 : decode cX10_countOpen 62 = .ok (.iload_n 2, 1) := by decide +kernel
theorem dX10_countOpen_63 : decode cX10_countOpen 63 = .ok (.ifCond .eq 11, 3) := by decide +kernel
theorem dX10_countOpen_74 : decode cX10_countOpen 74 = .ok (.iload 6, 2) := by decide +kernel
theorem dX10_countOpen_76 : decode cX10_countOpen 76 = .ok (.ifCond .eq 7, 3) := by decide +kernel
theorem dX10_countOpen_83 : decode cX10_countOpen 83 = .ok (.iconst 0, 1) := by decide +kernel
theorem dX10_countOpen_84 : decode cX10_countOpen 84 = .ok (.iadd, 1) := by decide +kernel
theorem dX10_countOpen_85 : decode cX10_countOpen 85 = .ok (.istore_n 3, 1) := by decide +kernel
theorem dX10_countOpen_86 : decode cX10_countOpen 86 = .ok (.iinc 4 1, 3) := by decide +kernel
theorem dX10_countOpen_89 : decode cX10_countOpen 89 = .ok (.goto (-84), 3) := by decide +kernel
theorem dX10_countOpen_92 : decode cX10_countOpen 92 = .ok (.iload_n 3, 1) := by decide +kernel
theorem dX10_countOpen_93 : decode cX10_countOpen 93 = .ok (.ireturn, 1) := by decide +kernel
theorem dX10_countOpen_66 : decode cX10_countOpen 66 = .ok (.iload 5, 2) := by decide +kernel
theorem dX10_countOpen_68 : decode cX10_countOpen 68 = .ok (.invokestatic 159, 3) := by decide +kernel
theorem dX10_countOpen_71 : decode cX10_countOpen 71 = .ok (.goto 13, 3) := by decide +kernel
theorem dX10_countCopiesThere_0 : decode cX10_countCopiesThere 0 = .ok (.iconst 0, 1) := by decide +kernel
theorem dX10_countCopiesThere_1 : decode cX10_countCopiesThere 1 = .ok (.istore_n 1, 1) := by decide +kernel
theorem dX10_countCopiesThere_2 : decode cX10_countCopiesThere 2 = .ok (.iconst 0, 1) := by decide +kernel
theorem dX10_countCopiesThere_3 : decode cX10_countCopiesThere 3 = .ok (.istore_n 2, 1) := by decide +kernel
theorem dX10_countCopiesThere_4 : decode cX10_countCopiesThere 4 = .ok (.iload_n 2, 1) := by decide +kernel
theorem dX10_countCopiesThere_5 : decode cX10_countCopiesThere 5 = .ok (.aload_n 0, 1) := by decide +kernel
theorem dX10_countCopiesThere_6 : decode cX10_countCopiesThere 6 = .ok (.getfield 9, 3) := by decide +kernel
theorem dX10_countCopiesThere_9 : decode cX10_countCopiesThere 9 = .ok (.iconst 3, 1) := by decide +kernel
theorem dX10_countCopiesThere_10 : decode cX10_countCopiesThere 10 = .ok (.iaload, 1) := by decide +kernel
theorem dX10_countCopiesThere_11 : decode cX10_countCopiesThere 11 = .ok (.if_icmp .ge 25, 3) := by decide +kernel
theorem dX10_countCopiesThere_36 : decode cX10_countCopiesThere 36 = .ok (.iload_n 1, 1) := by decide +kernel
theorem dX10_countCopiesThere_37 : decode cX10_countCopiesThere 37 = .ok (.ireturn, 1) := by decide +kernel
theorem dX10_countMarks_0 : decode cX10_countMarks 0 = .ok (.iconst 0, 1) := by decide +kernel
theorem dX10_countMarks_1 : decode cX10_countMarks 1 = .ok (.istore_n 1, 1) := by decide +kernel
theorem dX10_countMarks_2 : decode cX10_countMarks 2 = .ok (.iconst 0, 1) := by decide +kernel
theorem dX10_countMarks_3 : decode cX10_countMarks 3 = .ok (.istore_n 2, 1) := by decide +kernel
theorem dX10_countMarks_4 : decode cX10_countMarks 4 = .ok (.iload_n 2, 1) := by decide +kernel
theorem dX10_countMarks_5 : decode cX10_countMarks 5 = .ok (.aload_n 0, 1) := by decide +kernel
theorem dX10_countMarks_6 : decode cX10_countMarks 6 = .ok (.getfield 9, 3) := by decide +kernel
theorem dX10_countMarks_9 : decode cX10_countMarks 9 = .ok (.bipush 6, 2) := by decide +kernel
theorem dX10_countMarks_11 : decode cX10_countMarks 11 = .ok (.iaload, 1) := by decide +kernel
theorem dX10_countMarks_12 : decode cX10_countMarks 12 = .ok (.if_icmp .ge 34, 3) := by decide +kernel
theorem dX10_countMarks_46 : decode cX10_countMarks 46 = .ok (.iload_n 1, 1) := by decide +kernel
theorem dX10_countMarks_47 : decode cX10_countMarks 47 = .ok (.ireturn, 1) := by decide +kernel
theorem dX10_countOn_0 : decode cX10_countOn 0 = .ok (.iconst 0, 1) := by decide +kernel
theorem dX10_countOn_1 : decode cX10_countOn 1 = .ok (.istore_n 2, 1) := by decide +kernel
theorem dX10_countOn_2 : decode cX10_countOn 2 = .ok (.iconst 0, 1) := by decide +kernel
theorem dX10_countOn_3 : decode cX10_countOn 3 = .ok (.istore_n 3, 1) := by decide +kernel
theorem dX10_countOn_4 : decode cX10_countOn 4 = .ok (.iload_n 3, 1) := by decide +kernel
theorem dX10_countOn_5 : decode cX10_countOn 5 = .ok (.aload_n 0, 1) := by decide +kernel
theorem dX10_countOn_6 : decode cX10_countOn 6 = .ok (.getfield 9, 3) := by decide +kernel
theorem dX10_countOn_9 : decode cX10_countOn 9 = .ok (.iconst 4, 1) := by decide +kernel
theorem dX10_countOn_10 : decode cX10_countOn 10 = .ok (.iaload, 1) := by decide +kernel
theorem dX10_countOn_11 : decode cX10_countOn 11 = .ok (.if_icmp .ge 27, 3) := by decide +kernel
theorem dX10_countOn_38 : decode cX10_countOn 38 = .ok (.iload_n 2, 1) := by decide +kernel
theorem dX10_countOn_39 : decode cX10_countOn 39 = .ok (.ireturn, 1) := by decide +kernel
theorem dX10_seesDigit_0 : decode cX10_seesDigit 0 = .ok (.aload_n 0, 1) := by decide +kernel
theorem dX10_seesDigit_1 : decode cX10_seesDigit 1 = .ok (.getfield 257, 3) := by decide +kernel
theorem dX10_seesDigit_4 : decode cX10_seesDigit 4 = .ok (.ifCond .ne 45, 3) := by decide +kernel
theorem dX10_seesDigit_7 : decode cX10_seesDigit 7 = .ok (.aload_n 0, 1) := by decide +kernel
theorem dX10_seesDigit_8 : decode cX10_seesDigit 8 = .ok (.getfield 261, 3) := by decide +kernel
theorem dX10_seesDigit_11 : decode cX10_seesDigit 11 = .ok (.aload_n 0, 1) := by decide +kernel
theorem dX10_seesDigit_12 : decode cX10_seesDigit 12 = .ok (.getfield 254, 3) := by decide +kernel
theorem dX10_seesDigit_15 : decode cX10_seesDigit 15 = .ok (.if_icmp .ge 34, 3) := by decide +kernel
theorem dX10_seesDigit_49 : decode cX10_seesDigit 49 = .ok (.iconst 0, 1) := by decide +kernel
theorem dX10_seesDigit_50 : decode cX10_seesDigit 50 = .ok (.ireturn, 1) := by decide +kernel
theorem dX10_passNode_0 : decode cX10_passNode 0 = .ok (.aload_n 0, 1) := by decide +kernel
theorem dX10_passNode_1 : decode cX10_passNode 1 = .ok (.dup, 1) := by decide +kernel
theorem dX10_passNode_2 : decode cX10_passNode 2 = .ok (.getfield 257, 3) := by decide +kernel
theorem dX10_passNode_5 : decode cX10_passNode 5 = .ok (.aload_n 0, 1) := by decide +kernel
theorem dX10_passNode_6 : decode cX10_passNode 6 = .ok (.bipush 51, 2) := by decide +kernel
theorem dX10_passNode_8 : decode cX10_passNode 8 = .ok (.invokevirtual 264, 3) := by decide +kernel
theorem dX10_passNode_11 : decode cX10_passNode 11 = .ok (.ifCond .ne 7, 3) := by decide +kernel
theorem dX10_passNode_14 : decode cX10_passNode 14 = .ok (.iconst 1, 1) := by decide +kernel
theorem dX10_passNode_15 : decode cX10_passNode 15 = .ok (.goto 4, 3) := by decide +kernel
theorem dX10_passNode_19 : decode cX10_passNode 19 = .ok (.ior, 1) := by decide +kernel
theorem dX10_passNode_20 : decode cX10_passNode 20 = .ok (.putfield 257, 3) := by decide +kernel
theorem dX10_passNode_23 : decode cX10_passNode 23 = .ok (.aload_n 0, 1) := by decide +kernel
theorem dX10_passNode_24 : decode cX10_passNode 24 = .ok (.getfield 257, 3) := by decide +kernel
theorem dX10_passNode_27 : decode cX10_passNode 27 = .ok (.ifCond .eq 4, 3) := by decide +kernel
theorem dX10_passNode_30 : decode cX10_passNode 30 = .ok (.return_, 1) := by decide +kernel
theorem dX10_writeLetter_0 : decode cX10_writeLetter 0 = .ok (.aload_n 0, 1) := by decide +kernel
theorem dX10_writeLetter_1 : decode cX10_writeLetter 1 = .ok (.getfield 28, 3) := by decide +kernel
theorem dX10_writeLetter_4 : decode cX10_writeLetter 4 = .ok (.aload_n 0, 1) := by decide +kernel
theorem dX10_writeLetter_5 : decode cX10_writeLetter 5 = .ok (.getfield 288, 3) := by decide +kernel
theorem dX10_writeLetter_8 : decode cX10_writeLetter 8 = .ok (.iload_n 1, 1) := by decide +kernel
theorem dX10_writeLetter_9 : decode cX10_writeLetter 9 = .ok (.castore, 1) := by decide +kernel
theorem dX10_writeLetter_10 : decode cX10_writeLetter 10 = .ok (.aload_n 0, 1) := by decide +kernel
theorem dX10_writeLetter_11 : decode cX10_writeLetter 11 = .ok (.dup, 1) := by decide +kernel
theorem dX10_writeLetter_12 : decode cX10_writeLetter 12 = .ok (.getfield 288, 3) := by decide +kernel
theorem dX10_writeLetter_15 : decode cX10_writeLetter 15 = .ok (.iconst 1, 1) := by decide +kernel
theorem dX10_writeLetter_16 : decode cX10_writeLetter 16 = .ok (.iadd, 1) := by decide +kernel
theorem dX10_writeLetter_17 : decode cX10_writeLetter 17 = .ok (.putfield 288, 3) := by decide +kernel
theorem dX10_writeLetter_20 : decode cX10_writeLetter 20 = .ok (.return_, 1) := by decide +kernel
theorem dX10_writeNumber_0 : decode cX10_writeNumber 0 = .ok (.iload_n 1, 1) := by decide +kernel
theorem dX10_writeNumber_1 : decode cX10_writeNumber 1 = .ok (.bipush 9, 2) := by decide +kernel
theorem dX10_writeNumber_3 : decode cX10_writeNumber 3 = .ok (.if_icmp .le 11, 3) := by decide +kernel
theorem dX10_writeNumber_14 : decode cX10_writeNumber 14 = .ok (.aload_n 0, 1) := by decide +kernel
theorem dX10_writeNumber_15 : decode cX10_writeNumber 15 = .ok (.bipush 48, 2) := by decide +kernel
theorem dX10_writeNumber_17 : decode cX10_writeNumber 17 = .ok (.iload_n 1, 1) := by decide +kernel
theorem dX10_writeNumber_18 : decode cX10_writeNumber 18 = .ok (.bipush 10, 2) := by decide +kernel
theorem dX10_writeNumber_20 : decode cX10_writeNumber 20 = .ok (.irem, 1) := by decide +kernel
theorem dX10_writeNumber_21 : decode cX10_writeNumber 21 = .ok (.iadd, 1) := by decide +kernel
theorem dX10_writeNumber_22 : decode cX10_writeNumber 22 = .ok (.i2c, 1) := by decide +kernel
theorem dX10_writeNumber_23 : decode cX10_writeNumber 23 = .ok (.invokevirtual 294, 3) := by decide +kernel
theorem dX10_writeNumber_26 : decode cX10_writeNumber 26 = .ok (.return_, 1) := by decide +kernel
theorem dX10_writeNode_0 : decode cX10_writeNode 0 = .ok (.aload_n 0, 1) := by decide +kernel
theorem dX10_writeNode_1 : decode cX10_writeNode 1 = .ok (.aload_n 0, 1) := by decide +kernel
theorem dX10_writeNode_2 : decode cX10_writeNode 2 = .ok (.iload_n 1, 1) := by decide +kernel
theorem dX10_writeNode_3 : decode cX10_writeNode 3 = .ok (.iconst 1, 1) := by decide +kernel
theorem dX10_writeNode_4 : decode cX10_writeNode 4 = .ok (.invokevirtual 54, 3) := by decide +kernel
theorem dX10_writeNode_7 : decode cX10_writeNode 7 = .ok (.invokevirtual 291, 3) := by decide +kernel
theorem dX10_writeNode_10 : decode cX10_writeNode 10 = .ok (.aload_n 0, 1) := by decide +kernel
theorem dX10_writeNode_11 : decode cX10_writeNode 11 = .ok (.iload_n 1, 1) := by decide +kernel
theorem dX10_writeNode_12 : decode cX10_writeNode 12 = .ok (.iconst 3, 1) := by decide +kernel
theorem dX10_writeNode_13 : decode cX10_writeNode 13 = .ok (.invokevirtual 54, 3) := by decide +kernel
theorem dX10_writeNode_16 : decode cX10_writeNode 16 = .ok (.ifCond .le 19, 3) := by decide +kernel
theorem dX10_writeNode_35 : decode cX10_writeNode 35 = .ok (.aload_n 0, 1) := by decide +kernel
theorem dX10_writeNode_36 : decode cX10_writeNode 36 = .ok (.iload_n 1, 1) := by decide +kernel
theorem dX10_writeNode_37 : decode cX10_writeNode 37 = .ok (.iconst 4, 1) := by decide +kernel
theorem dX10_writeNode_38 : decode cX10_writeNode 38 = .ok (.invokevirtual 54, 3) := by decide +kernel
theorem dX10_writeNode_41 : decode cX10_writeNode 41 = .ok (.ifCond .lt 35, 3) := by decide +kernel
theorem dX10_writeNode_76 : decode cX10_writeNode 76 = .ok (.iconst 1, 1) := by decide +kernel
theorem dX10_writeNode_77 : decode cX10_writeNode 77 = .ok (.istore_n 2, 1) := by decide +kernel
theorem dX10_writeNode_78 : decode cX10_writeNode 78 = .ok (.aload_n 0, 1) := by decide +kernel
theorem dX10_writeNode_79 : decode cX10_writeNode 79 = .ok (.iload_n 1, 1) := by decide +kernel
theorem dX10_writeNode_80 : decode cX10_writeNode 80 = .ok (.iconst (-1), 1) := by decide +kernel
theorem dX10_writeNode_81 : decode cX10_writeNode 81 = .ok (.invokevirtual 106, 3) := by decide +kernel
theorem dX10_writeNode_84 : decode cX10_writeNode 84 = .ok (.istore_n 3, 1) := by decide +kernel
theorem dX10_writeNode_85 : decode cX10_writeNode 85 = .ok (.iload_n 3, 1) := by decide +kernel
theorem dX10_writeNode_86 : decode cX10_writeNode 86 = .ok (.ifCond .lt 41, 3) := by decide +kernel
theorem dX10_writeNode_127 : decode cX10_writeNode 127 = .ok (.iload_n 2, 1) := by decide +kernel
theorem dX10_writeNode_128 : decode cX10_writeNode 128 = .ok (.ifCond .ne 9, 3) := by decide +kernel
theorem dX10_writeNode_137 : decode cX10_writeNode 137 = .ok (.return_, 1) := by decide +kernel
theorem fq_98 (x0 x1 x2 : Int32) (h0 : x0 < x1) : ¬ ((x1 ≤ x0 ∧ x0 ≤ x2)) := by first | decide | (simp only [fz_lt, fz_le, fz_eq, true_and, and_true, false_and, and_false, true_or, or_true, false_or, or_false, not_true_eq_false, not_false_eq_true, fl_m1, fl_0, fl_1, fl_2, fl_3, fl_4, fl_5, fl_6, fl_7, fl_8, fl_9, fl_10, fl_11, fl_20, fl_200, fl_5000, fl_9999] at *; omega) | (simp only [fz_lt, fz_le, fz_eq, true_and, and_true, false_and, and_false, true_or, or_true, false_or, or_false, not_true_eq_false, not_false_eq_true, fl_m1, fl_0, fl_1, fl_2, fl_3, fl_4, fl_5, fl_6, fl_7, fl_8, fl_9, fl_10, fl_11, fl_20, fl_200, fl_5000, fl_9999] at *; done) | omega
theorem fq_99 (x0 x1 x2 : Int32) (h0 : x2 < x0) : ¬ ((x1 ≤ x0 ∧ x0 ≤ x2)) := by first | decide | (simp only [fz_lt, fz_le, fz_eq, true_and, and_true, false_and, and_false, true_or, or_true, false_or, or_false, not_true_eq_false, not_false_eq_true, fl_m1, fl_0, fl_1, fl_2, fl_3, fl_4, fl_5, fl_6, fl_7, fl_8, fl_9, fl_10, fl_11, fl_20, fl_200, fl_5000, fl_9999] at *; omega) | (simp only [fz_lt, fz_le, fz_eq, true_and, and_true, false_and, and_false, true_or, or_true, false_or, or_false, not_true_eq_false, not_false_eq_true, fl_m1, fl_0, fl_1, fl_2, fl_3, fl_4, fl_5, fl_6, fl_7, fl_8, fl_9, fl_10, fl_11, fl_20, fl_200, fl_5000, fl_9999] at *; done) | omega
theorem fq_100 (x0 x1 x2 : Int32) (h0 : ¬ (x0 < x1)) (h1 : ¬ (x2 < x0)) : (x1 ≤ x0 ∧ x0 ≤ x2) := by first | decide | (simp only [fz_lt, fz_le, fz_eq, true_and, and_true, false_and, and_false, true_or, or_true, false_or, or_false, not_true_eq_false, not_false_eq_true, fl_m1, fl_0, fl_1, fl_2, fl_3, fl_4, fl_5, fl_6, fl_7, fl_8, fl_9, fl_10, fl_11, fl_20, fl_200, fl_5000, fl_9999] at *; omega) | (simp only [fz_lt, fz_le, fz_eq, true_and, and_true, false_and, and_false, true_or, or_true, false_or, or_false, not_true_eq_false, not_false_eq_true, fl_m1, fl_0, fl_1, fl_2, fl_3, fl_4, fl_5, fl_6, fl_7, fl_8, fl_9, fl_10, fl_11, fl_20, fl_200, fl_5000, fl_9999] at *; done) | omega
theorem fq_101 (x0 : Int32) (h0 : (0 ≤ x0 ∧ x0 ≤ 0)) : x0 = 0 := by first | decide | (simp only [fz_lt, fz_le, fz_eq, true_and, and_true, false_and, and_false, true_or, or_true, false_or, or_false, not_true_eq_false, not_false_eq_true, fl_m1, fl_0, fl_1, fl_2, fl_3, fl_4, fl_5, fl_6, fl_7, fl_8, fl_9, fl_10, fl_11, fl_20, fl_200, fl_5000, fl_9999] at *; omega) | (simp only [fz_lt, fz_le, fz_eq, true_and, and_true, false_and, and_false, true_or, or_true, false_or, or_false, not_true_eq_false, not_false_eq_true, fl_m1, fl_0, fl_1, fl_2, fl_3, fl_4, fl_5, fl_6, fl_7, fl_8, fl_9, fl_10, fl_11, fl_20, fl_200, fl_5000, fl_9999] at *; done) | omega
theorem fq_102 (x0 : Int32) (h0 : ¬ ((0 ≤ x0 ∧ x0 ≤ 0))) : ¬ (x0 = 0) := by first | decide | (simp only [fz_lt, fz_le, fz_eq, true_and, and_true, false_and, and_false, true_or, or_true, false_or, or_false, not_true_eq_false, not_false_eq_true, fl_m1, fl_0, fl_1, fl_2, fl_3, fl_4, fl_5, fl_6, fl_7, fl_8, fl_9, fl_10, fl_11, fl_20, fl_200, fl_5000, fl_9999] at *; omega) | (simp only [fz_lt, fz_le, fz_eq, true_and, and_true, false_and, and_false, true_or, or_true, false_or, or_false, not_true_eq_false, not_false_eq_true, fl_m1, fl_0, fl_1, fl_2, fl_3, fl_4, fl_5, fl_6, fl_7, fl_8, fl_9, fl_10, fl_11, fl_20, fl_200, fl_5000, fl_9999] at *; done) | omega
theorem fq_103 (x0 : Int32) (h0 : (1 ≤ x0 ∧ x0 ≤ 3)) (h1 : x0 ≤ 0) : False := by first | decide | (simp only [fz_lt, fz_le, fz_eq, true_and, and_true, false_and, and_false, true_or, or_true, false_or, or_false, not_true_eq_false, not_false_eq_true, fl_m1, fl_0, fl_1, fl_2, fl_3, fl_4, fl_5, fl_6, fl_7, fl_8, fl_9, fl_10, fl_11, fl_20, fl_200, fl_5000, fl_9999] at *; omega) | (simp only [fz_lt, fz_le, fz_eq, true_and, and_true, false_and, and_false, true_or, or_true, false_or, or_false, not_true_eq_false, not_false_eq_true, fl_m1, fl_0, fl_1, fl_2, fl_3, fl_4, fl_5, fl_6, fl_7, fl_8, fl_9, fl_10, fl_11, fl_20, fl_200, fl_5000, fl_9999] at *; done) | omega
theorem fq_104 (x0 x1 x2 : Int32) (h0 : (1 ≤ x0 ∧ x0 ≤ 3)) (h1 : ¬ (x0 = 1)) (h2 : (0 ≤ x1 ∧ x1 ≤ 20)) : ((1 ≤ x0 ∧ x0 ≤ 3) ∧ 0 ≤ x1 ∧ ((x0 = 1 ∧ x1 ≤ 0) ∨ (¬ (x0 = 1) ∧ x1 ≤ 20)) ∧ (((-1) : Int32) = (-1) ∨ (((0 : Int32) ≤ (-1) ∧ ((-1) : Int32) ≤ 9999) ∧ (0 ≤ x2 ∧ x2 ≤ 9999) ∧ (-1) ≤ x2))) := by first | decide | (simp only [fz_lt, fz_le, fz_eq, true_and, and_true, false_and, and_false, true_or, or_true, false_or, or_false, not_true_eq_false, not_false_eq_true, fl_m1, fl_0, fl_1, fl_2, fl_3, fl_4, fl_5, fl_6, fl_7, fl_8, fl_9, fl_10, fl_11, fl_20, fl_200, fl_5000, fl_9999] at *; omega) | (simp only [fz_lt, fz_le, fz_eq, true_and, and_true, false_and, and_false, true_or, or_true, false_or, or_false, not_true_eq_false, not_false_eq_true, fl_m1, fl_0, fl_1, fl_2, fl_3, fl_4, fl_5, fl_6, fl_7, fl_8, fl_9, fl_10, fl_11, fl_20, fl_200, fl_5000, fl_9999] at *; done) | omega
theorem fq_105 (x0 x1 x2 : Int32) (h0 : ¬ ((0 ≤ x1 ∧ x1 ≤ 20))) : ¬ (((1 ≤ x0 ∧ x0 ≤ 3) ∧ 0 ≤ x1 ∧ ((x0 = 1 ∧ x1 ≤ 0) ∨ (¬ (x0 = 1) ∧ x1 ≤ 20)) ∧ (((-1) : Int32) = (-1) ∨ (((0 : Int32) ≤ (-1) ∧ ((-1) : Int32) ≤ 9999) ∧ (0 ≤ x2 ∧ x2 ≤ 9999) ∧ (-1) ≤ x2)))) := by first | decide | (simp only [fz_lt, fz_le, fz_eq, true_and, and_true, false_and, and_false, true_or, or_true, false_or, or_false, not_true_eq_false, not_false_eq_true, fl_m1, fl_0, fl_1, fl_2, fl_3, fl_4, fl_5, fl_6, fl_7, fl_8, fl_9, fl_10, fl_11, fl_20, fl_200, fl_5000, fl_9999] at *; omega) | (simp only [fz_lt, fz_le, fz_eq, true_and, and_true, false_and, and_false, true_or, or_true, false_or, or_false, not_true_eq_false, not_false_eq_true, fl_m1, fl_0, fl_1, fl_2, fl_3, fl_4, fl_5, fl_6, fl_7, fl_8, fl_9, fl_10, fl_11, fl_20, fl_200, fl_5000, fl_9999] at *; done) | omega
theorem fq_106 (x0 x1 : Int32) (h0 : ¬ ((0 ≤ x0 ∧ x0 ≤ 0))) : ¬ ((((1 : Int32) ≤ 1 ∧ (1 : Int32) ≤ 3) ∧ 0 ≤ x0 ∧ (((1 : Int32) = 1 ∧ x0 ≤ 0) ∨ (¬ ((1 : Int32) = 1) ∧ x0 ≤ 20)) ∧ (((-1) : Int32) = (-1) ∨ (((0 : Int32) ≤ (-1) ∧ ((-1) : Int32) ≤ 9999) ∧ (0 ≤ x1 ∧ x1 ≤ 9999) ∧ (-1) ≤ x1)))) := by first | decide | (simp only [fz_lt, fz_le, fz_eq, true_and, and_true, false_and, and_false, true_or, or_true, false_or, or_false, not_true_eq_false, not_false_eq_true, fl_m1, fl_0, fl_1, fl_2, fl_3, fl_4, fl_5, fl_6, fl_7, fl_8, fl_9, fl_10, fl_11, fl_20, fl_200, fl_5000, fl_9999] at *; omega) | (simp only [fz_lt, fz_le, fz_eq, true_and, and_true, false_and, and_false, true_or, or_true, false_or, or_false, not_true_eq_false, not_false_eq_true, fl_m1, fl_0, fl_1, fl_2, fl_3, fl_4, fl_5, fl_6, fl_7, fl_8, fl_9, fl_10, fl_11, fl_20, fl_200, fl_5000, fl_9999] at *; done) | omega
theorem fq_107 (x0 x1 x2 : Int32) (h0 : ¬ ((1 ≤ x0 ∧ x0 ≤ 3))) : ¬ (((1 ≤ x0 ∧ x0 ≤ 3) ∧ 0 ≤ x1 ∧ ((x0 = 1 ∧ x1 ≤ 0) ∨ (¬ (x0 = 1) ∧ x1 ≤ 20)) ∧ (((-1) : Int32) = (-1) ∨ (((0 : Int32) ≤ (-1) ∧ ((-1) : Int32) ≤ 9999) ∧ (0 ≤ x2 ∧ x2 ≤ 9999) ∧ (-1) ≤ x2)))) := by first | decide | (simp only [fz_lt, fz_le, fz_eq, true_and, and_true, false_and, and_false, true_or, or_true, false_or, or_false, not_true_eq_false, not_false_eq_true, fl_m1, fl_0, fl_1, fl_2, fl_3, fl_4, fl_5, fl_6, fl_7, fl_8, fl_9, fl_10, fl_11, fl_20, fl_200, fl_5000, fl_9999] at *; omega) | (simp only [fz_lt, fz_le, fz_eq, true_and, and_true, false_and, and_false, true_or, or_true, false_or, or_false, not_true_eq_false, not_false_eq_true, fl_m1, fl_0, fl_1, fl_2, fl_3, fl_4, fl_5, fl_6, fl_7, fl_8, fl_9, fl_10, fl_11, fl_20, fl_200, fl_5000, fl_9999] at *; done) | omega
theorem fq_108 (x0 x1 x2 x3 : Int32) (h0 : ¬ ((0 ≤ x1 ∧ x1 ≤ 20))) : ¬ (((1 ≤ x0 ∧ x0 ≤ 3) ∧ 0 ≤ x1 ∧ ((x0 = 1 ∧ x1 ≤ 0) ∨ (¬ (x0 = 1) ∧ x1 ≤ 20)) ∧ (x2 = (-1) ∨ ((0 ≤ x2 ∧ x2 ≤ 9999) ∧ (0 ≤ x3 ∧ x3 ≤ 9999) ∧ x2 ≤ x3)))) := by first | decide | (simp only [fz_lt, fz_le, fz_eq, true_and, and_true, false_and, and_false, true_or, or_true, false_or, or_false, not_true_eq_false, not_false_eq_true, fl_m1, fl_0, fl_1, fl_2, fl_3, fl_4, fl_5, fl_6, fl_7, fl_8, fl_9, fl_10, fl_11, fl_20, fl_200, fl_5000, fl_9999] at *; omega) | (simp only [fz_lt, fz_le, fz_eq, true_and, and_true, false_and, and_false, true_or, or_true, false_or, or_false, not_true_eq_false, not_false_eq_true, fl_m1, fl_0, fl_1, fl_2, fl_3, fl_4, fl_5, fl_6, fl_7, fl_8, fl_9, fl_10, fl_11, fl_20, fl_200, fl_5000, fl_9999] at *; done) | omega
theorem fq_109 (x0 x1 x2 : Int32) (h0 : ¬ ((0 ≤ x0 ∧ x0 ≤ 0))) : ¬ ((((1 : Int32) ≤ 1 ∧ (1 : Int32) ≤ 3) ∧ 0 ≤ x0 ∧ (((1 : Int32) = 1 ∧ x0 ≤ 0) ∨ (¬ ((1 : Int32) = 1) ∧ x0 ≤ 20)) ∧ (x1 = (-1) ∨ ((0 ≤ x1 ∧ x1 ≤ 9999) ∧ (0 ≤ x2 ∧ x2 ≤ 9999) ∧ x1 ≤ x2)))) := by first | decide | (simp only [fz_lt, fz_le, fz_eq, true_and, and_true, false_and, and_false, true_or, or_true, false_or, or_false, not_true_eq_false, not_false_eq_true, fl_m1, fl_0, fl_1, fl_2, fl_3, fl_4, fl_5, fl_6, fl_7, fl_8, fl_9, fl_10, fl_11, fl_20, fl_200, fl_5000, fl_9999] at *; omega) | (simp only [fz_lt, fz_le, fz_eq, true_and, and_true, false_and, and_false, true_or, or_true, false_or, or_false, not_true_eq_false, not_false_eq_true, fl_m1, fl_0, fl_1, fl_2, fl_3, fl_4, fl_5, fl_6, fl_7, fl_8, fl_9, fl_10, fl_11, fl_20, fl_200, fl_5000, fl_9999] at *; done) | omega
theorem fq_110 (x0 x1 x2 x3 : Int32) (h0 : ¬ ((1 ≤ x0 ∧ x0 ≤ 3))) : ¬ (((1 ≤ x0 ∧ x0 ≤ 3) ∧ 0 ≤ x1 ∧ ((x0 = 1 ∧ x1 ≤ 0) ∨ (¬ (x0 = 1) ∧ x1 ≤ 20)) ∧ (x2 = (-1) ∨ ((0 ≤ x2 ∧ x2 ≤ 9999) ∧ (0 ≤ x3 ∧ x3 ≤ 9999) ∧ x2 ≤ x3)))) := by first | decide | (simp only [fz_lt, fz_le, fz_eq, true_and, and_true, false_and, and_false, true_or, or_true, false_or, or_false, not_true_eq_false, not_false_eq_true, fl_m1, fl_0, fl_1, fl_2, fl_3, fl_4, fl_5, fl_6, fl_7, fl_8, fl_9, fl_10, fl_11, fl_20, fl_200, fl_5000, fl_9999] at *; omega) | (simp only [fz_lt, fz_le, fz_eq, true_and, and_true, false_and, and_false, true_or, or_true, false_or, or_false, not_true_eq_false, not_false_eq_true, fl_m1, fl_0, fl_1, fl_2, fl_3, fl_4, fl_5, fl_6, fl_7, fl_8, fl_9, fl_10, fl_11, fl_20, fl_200, fl_5000, fl_9999] at *; done) | omega
theorem fq_111 (x0 x1 x2 x3 : Int32) (h0 : (0 ≤ x2 ∧ x2 ≤ 9999)) (h1 : (0 ≤ x3 ∧ x3 ≤ 9999)) (h2 : ¬ (x3 < x2)) (h3 : (1 ≤ x0 ∧ x0 ≤ 3)) (h4 : ¬ (x0 = 1)) (h5 : (0 ≤ x1 ∧ x1 ≤ 20)) : ((1 ≤ x0 ∧ x0 ≤ 3) ∧ 0 ≤ x1 ∧ ((x0 = 1 ∧ x1 ≤ 0) ∨ (¬ (x0 = 1) ∧ x1 ≤ 20)) ∧ (x2 = (-1) ∨ ((0 ≤ x2 ∧ x2 ≤ 9999) ∧ (0 ≤ x3 ∧ x3 ≤ 9999) ∧ x2 ≤ x3))) := by first | decide | (simp only [fz_lt, fz_le, fz_eq, true_and, and_true, false_and, and_false, true_or, or_true, false_or, or_false, not_true_eq_false, not_false_eq_true, fl_m1, fl_0, fl_1, fl_2, fl_3, fl_4, fl_5, fl_6, fl_7, fl_8, fl_9, fl_10, fl_11, fl_20, fl_200, fl_5000, fl_9999] at *; omega) | (simp only [fz_lt, fz_le, fz_eq, true_and, and_true, false_and, and_false, true_or, or_true, false_or, or_false, not_true_eq_false, not_false_eq_true, fl_m1, fl_0, fl_1, fl_2, fl_3, fl_4, fl_5, fl_6, fl_7, fl_8, fl_9, fl_10, fl_11, fl_20, fl_200, fl_5000, fl_9999] at *; done) | omega
theorem fq_112 (h0 : ¬ ((0 : Int32) = 0)) : False := by first | decide | (simp only [fz_lt, fz_le, fz_eq, true_and, and_true, false_and, and_false, true_or, or_true, false_or, or_false, not_true_eq_false, not_false_eq_true, fl_m1, fl_0, fl_1, fl_2, fl_3, fl_4, fl_5, fl_6, fl_7, fl_8, fl_9, fl_10, fl_11, fl_20, fl_200, fl_5000, fl_9999] at *; omega) | (simp only [fz_lt, fz_le, fz_eq, true_and, and_true, false_and, and_false, true_or, or_true, false_or, or_false, not_true_eq_false, not_false_eq_true, fl_m1, fl_0, fl_1, fl_2, fl_3, fl_4, fl_5, fl_6, fl_7, fl_8, fl_9, fl_10, fl_11, fl_20, fl_200, fl_5000, fl_9999] at *; done) | omega
theorem fq_113 (x0 : Int32) (h0 : (0 ≤ x0 ∧ x0 ≤ (-1))) : False := by first | decide | (simp only [fz_lt, fz_le, fz_eq, true_and, and_true, false_and, and_false, true_or, or_true, false_or, or_false, not_true_eq_false, not_false_eq_true, fl_m1, fl_0, fl_1, fl_2, fl_3, fl_4, fl_5, fl_6, fl_7, fl_8, fl_9, fl_10, fl_11, fl_20, fl_200, fl_5000, fl_9999] at *; omega) | (simp only [fz_lt, fz_le, fz_eq, true_and, and_true, false_and, and_false, true_or, or_true, false_or, or_false, not_true_eq_false, not_false_eq_true, fl_m1, fl_0, fl_1, fl_2, fl_3, fl_4, fl_5, fl_6, fl_7, fl_8, fl_9, fl_10, fl_11, fl_20, fl_200, fl_5000, fl_9999] at *; done) | omega
